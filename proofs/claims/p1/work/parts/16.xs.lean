def as_F_X9_hasLand : Int × Int → List Sv_t := fun a => [(15, a.1), (0, a.2)]
def pre_F_X9_hasLand : Int × Int → Me_t → Prop := fun a σ => σ a.1 2 = 0
def post_F_X9_hasLand : Int × Int → Me_t → Int → Me_t → Prop := fun a σ z σ' => z = 0 ∧ σ = σ'
set_option maxHeartbeats 4000000 in
set_option maxRecDepth 100000 in
theorem ct_F_X9_hasLand (l : Launch) : CT_ l yX9_hasLand cX9_hasLand 2 (some .boolean) 0 0 as_F_X9_hasLand (rmI_) pre_F_X9_hasLand post_F_X9_hasLand := by
  refine ct_of (by decide) (fun _ => Nat.le_refl _) ?_
  intro X G Q ad σ a hl hR E hG R hM hv hp
  obtain ⟨w, x1⟩ := a
  have r_x1 : -2147483648 ≤ x1 ∧ x1 ≤ 2147483647 := hv (0, x1) (List.mem_of_getElem? (i := 1) rfl)
  have B := @bk_ X G Q 0 0 ad SHS_ RX9 cX9_hasLand 2 (some .boolean) flX9 plX9 knX9 [] _ _ none kX9_hasLand [] flX9_ok plX9_ok knX9_ok eX9_hasLand oX9_hasLand
    (fun _ h => absurd h List.not_mem_nil) R sok_no E
  show WP_ X G Q 0 0 ad SHS_ σ 0 [(15, w), (0, x1)] []
  have hN2 : σ w 2 = 0 := hp
  refine B rfl ?_
  refine And.intro (fun h1 => ?_) (fun h1 => ?_)
  · skip
    refine B rfl ?_
    refine And.intro (by omega) ?_
    refine Exists.intro _ (And.intro rfl ?_)
    exact And.intro rfl rfl
  · skip
    refine And.intro (fun h2 => ?_) (fun h2 => ?_)
    · skip
      refine B rfl ?_
      refine And.intro (by omega) ?_
      refine Exists.intro _ (And.intro rfl ?_)
      exact And.intro rfl rfl
    · skip
      refine B rfl ?_
      refine And.intro (by omega) ?_
      refine Exists.intro _ (And.intro rfl ?_)
      exfalso; omega
def as_F_X9_hasMonth : Int × Int × Int → List Sv_t := fun a => [(15, a.1), (0, a.2.1), (0, a.2.2)]
def pre_F_X9_hasMonth : Int × Int × Int → Me_t → Prop := fun a σ => σ a.1 2 = 0
def post_F_X9_hasMonth : Int × Int × Int → Me_t → Int → Me_t → Prop := fun a σ z σ' => z = 0 ∧ σ = σ'
set_option maxHeartbeats 4000000 in
set_option maxRecDepth 100000 in
theorem ct_F_X9_hasMonth (l : Launch) : CT_ l yX9_hasMonth cX9_hasMonth 3 (some .boolean) 1 21 as_F_X9_hasMonth (rmI_) pre_F_X9_hasMonth post_F_X9_hasMonth := by
  refine ct_of (by decide) (fun _ => Nat.le_refl _) ?_
  intro X G Q ad σ a hl hR E hG R hM hv hp
  obtain ⟨w, x1, x2⟩ := a
  have r_x1 : -2147483648 ≤ x1 ∧ x1 ≤ 2147483647 := hv (0, x1) (List.mem_of_getElem? (i := 1) rfl)
  have r_x2 : -2147483648 ≤ x2 ∧ x2 ≤ 2147483647 := hv (0, x2) (List.mem_of_getElem? (i := 2) rfl)
  have B := @bk_ X G Q 0 0 ad SHS_ RX9 cX9_hasMonth 3 (some .boolean) flX9 plX9 knX9 [(114, 2, TR_ as_F_X9_hasLand (rmI_) pre_F_X9_hasLand post_F_X9_hasLand)] _ _ none kX9_hasMonth [] flX9_ok plX9_ok knX9_ok eX9_hasMonth oX9_hasMonth
    (List.forall_mem_cons.mpr ⟨cok_v (t := 5) (c := 9) (N := 10) (n := 1) (idx := 57) E (ct_F_X9_hasLand X.2.1) (by rw [hR]; decide) (Nat.zero_le _) (Nat.zero_le _) hG rfl rfl ⟨rfl, by decide, by decide, by decide⟩ (fun _ => ⟨_, _, rfl, rfl⟩) wl_X9_57 wi_X9_hasLand ws_X9_hasLand wn_X9 wc_X9_hasLand, fun _ h => absurd h List.not_mem_nil⟩) R sok_no E
  show WP_ X G Q 0 0 ad SHS_ σ 0 [(15, w), (0, x1), (0, x2)] []
  have hN2 : σ w 2 = 0 := hp
  refine B rfl ?_
  refine Exists.intro (w, x1) (And.intro rfl (And.intro hN2 ?_))
  rintro _ _ ⟨rfl, rfl⟩
  refine And.intro (fun h4 => ?_) (fun h4 => (by exfalso; omega))
  refine B rfl ?_
  refine And.intro (by omega) ?_
  refine Exists.intro _ (And.intro rfl ?_)
  exact And.intro rfl rfl
def as_F_X9_hasPlainDate : Int × Int × Int × Int → List Sv_t := fun a => [(15, a.1), (0, a.2.1), (0, a.2.2.1), (0, a.2.2.2)]
def pre_F_X9_hasPlainDate : Int × Int × Int × Int → Me_t → Prop := fun a σ => σ a.1 2 = 0
def post_F_X9_hasPlainDate : Int × Int × Int × Int → Me_t → Int → Me_t → Prop := fun a σ z σ' => z = 0 ∧ σ = σ'
set_option maxHeartbeats 4000000 in
set_option maxRecDepth 100000 in
theorem ct_F_X9_hasPlainDate (l : Launch) : CT_ l yX9_hasPlainDate cX9_hasPlainDate 4 (some .boolean) 2 43 as_F_X9_hasPlainDate (rmI_) pre_F_X9_hasPlainDate post_F_X9_hasPlainDate := by
  refine ct_of (by decide) (fun _ => Nat.le_refl _) ?_
  intro X G Q ad σ a hl hR E hG R hM hv hp
  obtain ⟨w, x1, x2, x3⟩ := a
  have r_x1 : -2147483648 ≤ x1 ∧ x1 ≤ 2147483647 := hv (0, x1) (List.mem_of_getElem? (i := 1) rfl)
  have r_x2 : -2147483648 ≤ x2 ∧ x2 ≤ 2147483647 := hv (0, x2) (List.mem_of_getElem? (i := 2) rfl)
  have r_x3 : -2147483648 ≤ x3 ∧ x3 ≤ 2147483647 := hv (0, x3) (List.mem_of_getElem? (i := 3) rfl)
  have B := @bk_ X G Q 0 0 ad SHS_ RX9 cX9_hasPlainDate 4 (some .boolean) flX9 plX9 knX9 [(128, 3, TR_ as_F_X9_hasMonth (rmI_) pre_F_X9_hasMonth post_F_X9_hasMonth)] _ _ none kX9_hasPlainDate [] flX9_ok plX9_ok knX9_ok eX9_hasPlainDate oX9_hasPlainDate
    (List.forall_mem_cons.mpr ⟨cok_v (t := 5) (c := 9) (N := 10) (n := 2) (idx := 64) E (ct_F_X9_hasMonth X.2.1) (by rw [hR]; decide) (Nat.zero_le _) (Nat.zero_le _) hG rfl rfl ⟨rfl, by decide, by decide, by decide⟩ (fun _ => ⟨_, _, rfl, rfl⟩) wl_X9_64 wi_X9_hasMonth ws_X9_hasMonth wn_X9 wc_X9_hasMonth, fun _ h => absurd h List.not_mem_nil⟩) R sok_no E
  show WP_ X G Q 0 0 ad SHS_ σ 0 [(15, w), (0, x1), (0, x2), (0, x3)] []
  have hN2 : σ w 2 = 0 := hp
  refine B rfl ?_
  refine Exists.intro (w, x1, x2) (And.intro rfl (And.intro hN2 ?_))
  rintro _ _ ⟨rfl, rfl⟩
  refine And.intro (fun h4 => ?_) (fun h4 => (by exfalso; omega))
  refine B rfl ?_
  refine And.intro (by omega) ?_
  refine Exists.intro _ (And.intro rfl ?_)
  exact And.intro rfl rfl
def as_F_X9_dayOfDate : Int × Int × Int × Int × Int → List Sv_t := fun a => [(15, a.1), (0, a.2.1), (0, a.2.2.1), (0, a.2.2.2.1), (0, a.2.2.2.2)]
def pre_F_X9_dayOfDate : Int × Int × Int × Int × Int → Me_t → Prop := fun a σ => σ a.1 2 = 0
def post_F_X9_dayOfDate : Int × Int × Int × Int × Int → Me_t → Int → Me_t → Prop := fun a σ z σ' => z = (-2) ∧ σ = σ'
set_option maxHeartbeats 4000000 in
set_option maxRecDepth 100000 in
theorem ct_F_X9_dayOfDate (l : Launch) : CT_ l yX9_dayOfDate cX9_dayOfDate 6 (some .int) 2 47 as_F_X9_dayOfDate (rmI_) pre_F_X9_dayOfDate post_F_X9_dayOfDate := by
  refine ct_of (by decide) (fun _ => Nat.le_of_ble_eq_true rfl) ?_
  intro X G Q ad σ a hl hR E hG R hM hv hp
  obtain ⟨w, x1, x2, x3, x4⟩ := a
  have r_x1 : -2147483648 ≤ x1 ∧ x1 ≤ 2147483647 := hv (0, x1) (List.mem_of_getElem? (i := 1) rfl)
  have r_x2 : -2147483648 ≤ x2 ∧ x2 ≤ 2147483647 := hv (0, x2) (List.mem_of_getElem? (i := 2) rfl)
  have r_x3 : -2147483648 ≤ x3 ∧ x3 ≤ 2147483647 := hv (0, x3) (List.mem_of_getElem? (i := 3) rfl)
  have r_x4 : -2147483648 ≤ x4 ∧ x4 ≤ 2147483647 := hv (0, x4) (List.mem_of_getElem? (i := 4) rfl)
  have B := @bk_ X G Q 0 0 ad SHS_ RX9 cX9_dayOfDate 6 (some .int) flX9 plX9 knX9 [(128, 3, TR_ as_F_X9_hasMonth (rmI_) pre_F_X9_hasMonth post_F_X9_hasMonth)] _ _ none kX9_dayOfDate [] flX9_ok plX9_ok knX9_ok eX9_dayOfDate oX9_dayOfDate
    (List.forall_mem_cons.mpr ⟨cok_v (t := 5) (c := 9) (N := 10) (n := 2) (idx := 64) E (ct_F_X9_hasMonth X.2.1) (by rw [hR]; decide) (Nat.zero_le _) (Nat.zero_le _) hG rfl rfl ⟨rfl, by decide, by decide, by decide⟩ (fun _ => ⟨_, _, rfl, rfl⟩) wl_X9_64 wi_X9_hasMonth ws_X9_hasMonth wn_X9 wc_X9_hasMonth, fun _ h => absurd h List.not_mem_nil⟩) R sok_no E
  show WP_ X G Q 0 0 ad SHS_ σ 0 [(15, w), (0, x1), (0, x2), (0, x3), (0, x4), (9, 0)] []
  have hN2 : σ w 2 = 0 := hp
  refine B rfl ?_
  refine Exists.intro (w, x1, x3) (And.intro rfl (And.intro hN2 ?_))
  rintro _ _ ⟨rfl, rfl⟩
  refine And.intro (fun h4 => ?_) (fun h4 => (by exfalso; omega))
  refine B rfl ?_
  refine Exists.intro _ (And.intro rfl ?_)
  exact And.intro rfl rfl
def as_F_X10_isDay : Int → List Sv_t := fun a => [(0, a)]
def pre_F_X10_isDay : Int → Me_t → Prop := fun a σ => True
def post_F_X10_isDay : Int → Me_t → Int → Me_t → Prop := fun a σ z σ' => σ = σ' ∧ (z = 0 ∨ z = 1) ∧ (z = 1 ↔ 0 ≤ a ∧ a < 2000)
set_option maxHeartbeats 4000000 in
set_option maxRecDepth 100000 in
theorem ct_F_X10_isDay (l : Launch) : CT_ l yX10_isDay cX10_isDay 1 (some .boolean) 0 0 as_F_X10_isDay (rmI_) pre_F_X10_isDay post_F_X10_isDay := by
  refine ct_of (by decide) (fun _ => Nat.le_refl _) ?_
  intro X G Q ad σ a hl hR E hG R hM hv hp
  obtain ⟨n, rfl⟩ : ∃ q : Int, q = a := ⟨_, rfl⟩
  have r_n : -2147483648 ≤ n ∧ n ≤ 2147483647 := hv (0, n) (List.mem_of_getElem? (i := 0) rfl)
  have B := @bk_ X G Q 0 0 ad SHS_ RX10 cX10_isDay 1 (some .boolean) flX10 plX10 knX10 [] _ _ none kX10_isDay [] flX10_ok plX10_ok knX10_ok eX10_isDay oX10_isDay
    (fun _ h => absurd h List.not_mem_nil) R sok_no E
  show WP_ X G Q 0 0 ad SHS_ σ 0 [(0, n)] []
  refine B rfl ?_
  refine And.intro (fun h1 => ?_) (fun h1 => ?_)
  · skip
    refine B rfl ?_
    refine And.intro (by omega) ?_
    refine Exists.intro _ (And.intro rfl ?_)
    refine And.intro rfl (And.intro ?_ ?_) <;> (try dsimp only) <;> omega
  · skip
    refine And.intro (fun h2 => ?_) (fun h2 => ?_)
    · skip
      refine B rfl ?_
      refine And.intro (by omega) ?_
      refine Exists.intro _ (And.intro rfl ?_)
      refine And.intro rfl (And.intro ?_ ?_) <;> (try dsimp only) <;> omega
    · skip
      refine B rfl ?_
      refine And.intro (by omega) ?_
      refine Exists.intro _ (And.intro rfl ?_)
      refine And.intro rfl (And.intro ?_ ?_) <;> (try dsimp only) <;> omega
def as_F_X10_isYear : Int → List Sv_t := fun a => [(0, a)]
def pre_F_X10_isYear : Int → Me_t → Prop := fun a σ => True
def post_F_X10_isYear : Int → Me_t → Int → Me_t → Prop := fun a σ z σ' => σ = σ' ∧ (z = 0 ∨ z = 1) ∧ (z = 1 ↔ 0 ≤ a ∧ a < 2000)
set_option maxHeartbeats 4000000 in
set_option maxRecDepth 100000 in
theorem ct_F_X10_isYear (l : Launch) : CT_ l yX10_isYear cX10_isYear 1 (some .boolean) 0 0 as_F_X10_isYear (rmI_) pre_F_X10_isYear post_F_X10_isYear := by
  refine ct_of (by decide) (fun _ => Nat.le_refl _) ?_
  intro X G Q ad σ a hl hR E hG R hM hv hp
  obtain ⟨n, rfl⟩ : ∃ q : Int, q = a := ⟨_, rfl⟩
  have r_n : -2147483648 ≤ n ∧ n ≤ 2147483647 := hv (0, n) (List.mem_of_getElem? (i := 0) rfl)
  have B := @bk_ X G Q 0 0 ad SHS_ RX10 cX10_isYear 1 (some .boolean) flX10 plX10 knX10 [] _ _ none kX10_isYear [] flX10_ok plX10_ok knX10_ok eX10_isYear oX10_isYear
    (fun _ h => absurd h List.not_mem_nil) R sok_no E
  show WP_ X G Q 0 0 ad SHS_ σ 0 [(0, n)] []
  refine B rfl ?_
  refine And.intro (fun h1 => ?_) (fun h1 => ?_)
  · skip
    refine B rfl ?_
    refine And.intro (by omega) ?_
    refine Exists.intro _ (And.intro rfl ?_)
    refine And.intro rfl (And.intro ?_ ?_) <;> (try dsimp only) <;> omega
  · skip
    refine And.intro (fun h2 => ?_) (fun h2 => ?_)
    · skip
      refine B rfl ?_
      refine And.intro (by omega) ?_
      refine Exists.intro _ (And.intro rfl ?_)
      refine And.intro rfl (And.intro ?_ ?_) <;> (try dsimp only) <;> omega
    · skip
      refine B rfl ?_
      refine And.intro (by omega) ?_
      refine Exists.intro _ (And.intro rfl ?_)
      refine And.intro rfl (And.intro ?_ ?_) <;> (try dsimp only) <;> omega
def as_F_X10_isSpan : Int × Int → List Sv_t := fun a => [(0, a.1), (0, a.2)]
def pre_F_X10_isSpan : Int × Int → Me_t → Prop := fun a σ => True
def post_F_X10_isSpan : Int × Int → Me_t → Int → Me_t → Prop := fun a σ z σ' => σ = σ' ∧ (z = 0 ∨ z = 1) ∧ (z = 1 ↔ 0 ≤ a.1 ∧ a.1 ≤ a.2 ∧ a.2 < 2000)
set_option maxHeartbeats 4000000 in
set_option maxRecDepth 100000 in
theorem ct_F_X10_isSpan (l : Launch) : CT_ l yX10_isSpan cX10_isSpan 2 (some .boolean) 1 20 as_F_X10_isSpan (rmI_) pre_F_X10_isSpan post_F_X10_isSpan := by
  refine ct_of (by decide) (fun _ => Nat.le_refl _) ?_
  intro X G Q ad σ a hl hR E hG R hM hv hp
  obtain ⟨n, k⟩ := a
  have r_n : -2147483648 ≤ n ∧ n ≤ 2147483647 := hv (0, n) (List.mem_of_getElem? (i := 0) rfl)
  have r_k : -2147483648 ≤ k ∧ k ≤ 2147483647 := hv (0, k) (List.mem_of_getElem? (i := 1) rfl)
  have B := @bk_ X G Q 0 0 ad SHS_ RX10 cX10_isSpan 2 (some .boolean) flX10 plX10 knX10 [(603, 1, TR_ as_F_X10_isDay (rmI_) pre_F_X10_isDay post_F_X10_isDay)] _ _ none kX10_isSpan [] flX10_ok plX10_ok knX10_ok eX10_isSpan oX10_isSpan
    (List.forall_mem_cons.mpr ⟨cok_s (n := 1) (idx := 301) E (ct_F_X10_isDay X.2.1) (by rw [hR]; decide) (Nat.zero_le _) (Nat.zero_le _) hG ⟨by decide, by decide, by decide⟩ (fun _ => rfl) wl_X10_301 wt_X10_isDay wn_X10 wc_X10_isDay, fun _ h => absurd h List.not_mem_nil⟩) R sok_no E
  show WP_ X G Q 0 0 ad SHS_ σ 0 [(0, n), (0, k)] []
  refine B rfl ?_
  refine Exists.intro n (And.intro rfl (And.intro trivial ?_))
  rintro z1 _ ⟨rfl, h3⟩
  try dsimp only at h3
  refine And.intro (fun h4 => ?_) (fun h4 => ?_)
  · skip
    refine B rfl ?_
    refine And.intro (by omega) ?_
    refine Exists.intro _ (And.intro rfl ?_)
    refine And.intro rfl (And.intro ?_ ?_) <;> (try dsimp only) <;> omega
  · skip
    refine Exists.intro k (And.intro rfl (And.intro trivial ?_))
    rintro z5 _ ⟨rfl, h7⟩
    try dsimp only at h7
    refine And.intro (fun h8 => ?_) (fun h8 => ?_)
    · skip
      refine B rfl ?_
      refine And.intro (by omega) ?_
      refine Exists.intro _ (And.intro rfl ?_)
      refine And.intro rfl (And.intro ?_ ?_) <;> (try dsimp only) <;> omega
    · skip
      refine And.intro (fun h9 => ?_) (fun h9 => ?_)
      · skip
        refine B rfl ?_
        refine And.intro (by omega) ?_
        refine Exists.intro _ (And.intro rfl ?_)
        refine And.intro rfl (And.intro ?_ ?_) <;> (try dsimp only) <;> omega
      · skip
        refine B rfl ?_
        refine And.intro (by omega) ?_
        refine Exists.intro _ (And.intro rfl ?_)
        refine And.intro rfl (And.intro ?_ ?_) <;> (try dsimp only) <;> omega
def as_F_X10_isSlot : Int → List Sv_t := fun a => [(0, a)]
def pre_F_X10_isSlot : Int → Me_t → Prop := fun a σ => True
def post_F_X10_isSlot : Int → Me_t → Int → Me_t → Prop := fun a σ z σ' => σ = σ' ∧ (z = 0 ∨ z = 1) ∧ (z = 1 ↔ 0 ≤ a ∧ a < 4)
set_option maxHeartbeats 4000000 in
set_option maxRecDepth 100000 in
theorem ct_F_X10_isSlot (l : Launch) : CT_ l yX10_isSlot cX10_isSlot 1 (some .boolean) 0 0 as_F_X10_isSlot (rmI_) pre_F_X10_isSlot post_F_X10_isSlot := by
  refine ct_of (by decide) (fun _ => Nat.le_refl _) ?_
  intro X G Q ad σ a hl hR E hG R hM hv hp
  obtain ⟨n, rfl⟩ : ∃ q : Int, q = a := ⟨_, rfl⟩
  have r_n : -2147483648 ≤ n ∧ n ≤ 2147483647 := hv (0, n) (List.mem_of_getElem? (i := 0) rfl)
  have B := @bk_ X G Q 0 0 ad SHS_ RX10 cX10_isSlot 1 (some .boolean) flX10 plX10 knX10 [] _ _ none kX10_isSlot [] flX10_ok plX10_ok knX10_ok eX10_isSlot oX10_isSlot
    (fun _ h => absurd h List.not_mem_nil) R sok_no E
  show WP_ X G Q 0 0 ad SHS_ σ 0 [(0, n)] []
  refine B rfl ?_
  refine And.intro (fun h1 => ?_) (fun h1 => ?_)
  · skip
    refine B rfl ?_
    refine And.intro (by omega) ?_
    refine Exists.intro _ (And.intro rfl ?_)
    refine And.intro rfl (And.intro ?_ ?_) <;> (try dsimp only) <;> omega
  · skip
    refine And.intro (fun h2 => ?_) (fun h2 => ?_)
    · skip
      refine B rfl ?_
      refine And.intro (by omega) ?_
      refine Exists.intro _ (And.intro rfl ?_)
      refine And.intro rfl (And.intro ?_ ?_) <;> (try dsimp only) <;> omega
    · skip
      refine B rfl ?_
      refine And.intro (by omega) ?_
      refine Exists.intro _ (And.intro rfl ?_)
      refine And.intro rfl (And.intro ?_ ?_) <;> (try dsimp only) <;> omega
def as_F_X10_isRain : Int × Int × Int → List Sv_t := fun a => [(0, a.1), (0, a.2.1), (0, a.2.2)]
def pre_F_X10_isRain : Int × Int × Int → Me_t → Prop := fun a σ => True
def post_F_X10_isRain : Int × Int × Int → Me_t → Int → Me_t → Prop := fun a σ z σ' => σ = σ' ∧ (z = 0 ∨ z = 1)
set_option maxHeartbeats 4000000 in
set_option maxRecDepth 100000 in
theorem ct_F_X10_isRain (l : Launch) : CT_ l yX10_isRain cX10_isRain 3 (some .boolean) 1 20 as_F_X10_isRain (rmI_) pre_F_X10_isRain post_F_X10_isRain := by
  refine ct_of (by decide) (fun _ => Nat.le_refl _) ?_
  intro X G Q ad σ a hl hR E hG R hM hv hp
  obtain ⟨x1, x2, x3⟩ := a
  have r_x1 : -2147483648 ≤ x1 ∧ x1 ≤ 2147483647 := hv (0, x1) (List.mem_of_getElem? (i := 0) rfl)
  have r_x2 : -2147483648 ≤ x2 ∧ x2 ≤ 2147483647 := hv (0, x2) (List.mem_of_getElem? (i := 1) rfl)
  have r_x3 : -2147483648 ≤ x3 ∧ x3 ≤ 2147483647 := hv (0, x3) (List.mem_of_getElem? (i := 2) rfl)
  have B := @bk_ X G Q 0 0 ad SHS_ RX10 cX10_isRain 3 (some .boolean) flX10 plX10 knX10 [(603, 1, TR_ as_F_X10_isDay (rmI_) pre_F_X10_isDay post_F_X10_isDay)] _ _ none kX10_isRain [] flX10_ok plX10_ok knX10_ok eX10_isRain oX10_isRain
    (List.forall_mem_cons.mpr ⟨cok_s (n := 1) (idx := 301) E (ct_F_X10_isDay X.2.1) (by rw [hR]; decide) (Nat.zero_le _) (Nat.zero_le _) hG ⟨by decide, by decide, by decide⟩ (fun _ => rfl) wl_X10_301 wt_X10_isDay wn_X10 wc_X10_isDay, fun _ h => absurd h List.not_mem_nil⟩) R sok_no E
  show WP_ X G Q 0 0 ad SHS_ σ 0 [(0, x1), (0, x2), (0, x3)] []
  refine B rfl ?_
  refine And.intro (fun h1 => ?_) (fun h1 => ?_)
  · skip
    refine B rfl ?_
    refine And.intro (by omega) ?_
    refine Exists.intro _ (And.intro rfl ?_)
    exact And.intro rfl (by omega)
  · skip
    refine And.intro (fun h2 => ?_) (fun h2 => ?_)
    · skip
      refine B rfl ?_
      refine And.intro (by omega) ?_
      refine Exists.intro _ (And.intro rfl ?_)
      exact And.intro rfl (by omega)
    · skip
      refine Exists.intro x2 (And.intro rfl (And.intro trivial ?_))
      rintro z3 _ ⟨rfl, h5⟩
      try dsimp only at h5
      refine And.intro (fun h6 => ?_) (fun h6 => ?_)
      · skip
        refine B rfl ?_
        refine And.intro (by omega) ?_
        refine Exists.intro _ (And.intro rfl ?_)
        exact And.intro rfl (by omega)
      · skip
        refine And.intro (fun h7 => ?_) (fun h7 => ?_)
        · skip
          refine B rfl ?_
          refine And.intro (by omega) ?_
          refine Exists.intro _ (And.intro rfl ?_)
          exact And.intro rfl (by omega)
        · skip
          refine And.intro (fun h8 => ?_) (fun h8 => ?_)
          · skip
            refine B rfl ?_
            refine And.intro (by omega) ?_
            refine Exists.intro _ (And.intro rfl ?_)
            exact And.intro rfl (by omega)
          · skip
            refine B rfl ?_
            refine And.intro (by omega) ?_
            refine Exists.intro _ (And.intro rfl ?_)
            exact And.intro rfl (by omega)
def as_F_X10_isDayOfWar : Int → List Sv_t := fun a => [(10, 0), (0, a)]
def pre_F_X10_isDayOfWar : Int → Me_t → Prop := fun a σ => FX_ σ
def post_F_X10_isDayOfWar : Int → Me_t → Int → Me_t → Prop := fun a σ z σ' => z = 0 ∧ σ = σ'
set_option maxHeartbeats 4000000 in
set_option maxRecDepth 100000 in
theorem ct_F_X10_isDayOfWar (l : Launch) : CT_ l yX10_isDayOfWar cX10_isDayOfWar 2 (some .boolean) 1 20 as_F_X10_isDayOfWar (rmI_) pre_F_X10_isDayOfWar post_F_X10_isDayOfWar := by
  refine ct_of (by decide) (fun _ => Nat.le_refl _) ?_
  intro X G Q ad σ a hl hR E hG R hM hv hp
  obtain ⟨x1, rfl⟩ : ∃ q : Int, q = a := ⟨_, rfl⟩
  have r_x1 : -2147483648 ≤ x1 ∧ x1 ≤ 2147483647 := hv (0, x1) (List.mem_of_getElem? (i := 1) rfl)
  have B := @bk_ X G Q 0 0 ad SHS_ RX10 cX10_isDayOfWar 2 (some .boolean) flX10 plX10 knX10 [] _ _ none kX10_isDayOfWar [] flX10_ok plX10_ok knX10_ok eX10_isDayOfWar oX10_isDayOfWar
    (fun _ h => absurd h List.not_mem_nil) R sok_no E
  show WP_ X G Q 0 0 ad SHS_ σ 0 [(10, 0), (0, x1)] []
  have hp : FX_ σ := hp
  obtain ⟨hC, hS, hN0, hN1, hN2, hN3, hN4, hN5, hF, hP, hT, hI, hRW⟩ := id hp
  refine B rfl ?_
  refine And.intro (fun h1 => ?_) (fun h1 => (by exfalso; omega))
  refine B rfl ?_
  refine And.intro (by omega) ?_
  refine Exists.intro _ (And.intro rfl ?_)
  exact And.intro rfl rfl
def as_F_X10_isLandAndDay : Int × Int → List Sv_t := fun a => [(10, 0), (0, a.1), (0, a.2)]
def pre_F_X10_isLandAndDay : Int × Int → Me_t → Prop := fun a σ => FX_ σ
def post_F_X10_isLandAndDay : Int × Int → Me_t → Int → Me_t → Prop := fun a σ z σ' => z = 0 ∧ σ = σ'
set_option maxHeartbeats 4000000 in
set_option maxRecDepth 100000 in
theorem ct_F_X10_isLandAndDay (l : Launch) : CT_ l yX10_isLandAndDay cX10_isLandAndDay 3 (some .boolean) 1 21 as_F_X10_isLandAndDay (rmI_) pre_F_X10_isLandAndDay post_F_X10_isLandAndDay := by
  refine ct_of (by decide) (fun _ => Nat.le_refl _) ?_
  intro X G Q ad σ a hl hR E hG R hM hv hp
  obtain ⟨x1, x2⟩ := a
  have r_x1 : -2147483648 ≤ x1 ∧ x1 ≤ 2147483647 := hv (0, x1) (List.mem_of_getElem? (i := 1) rfl)
  have r_x2 : -2147483648 ≤ x2 ∧ x2 ≤ 2147483647 := hv (0, x2) (List.mem_of_getElem? (i := 2) rfl)
  have B := @bk_ X G Q 0 0 ad SHS_ RX10 cX10_isLandAndDay 3 (some .boolean) flX10 plX10 knX10 [(226, 2, TR_ as_F_X9_hasLand (rmI_) pre_F_X9_hasLand post_F_X9_hasLand)] _ _ none kX10_isLandAndDay [] flX10_ok plX10_ok knX10_ok eX10_isLandAndDay oX10_isLandAndDay
    (List.forall_mem_cons.mpr ⟨cok_v (t := 5) (c := 9) (N := 10) (n := 1) (idx := 113) E (ct_F_X9_hasLand X.2.1) (by rw [hR]; decide) (Nat.zero_le _) (Nat.zero_le _) hG rfl rfl ⟨rfl, by decide, by decide, by decide⟩ (fun _ => ⟨_, _, rfl, rfl⟩) wl_X10_113 wi_X9_hasLand ws_X9_hasLand wn_X9 wc_X9_hasLand, fun _ h => absurd h List.not_mem_nil⟩) R sok_no E
  show WP_ X G Q 0 0 ad SHS_ σ 0 [(10, 0), (0, x1), (0, x2)] []
  have hp : FX_ σ := hp
  obtain ⟨hC, hS, hN0, hN1, hN2, hN3, hN4, hN5, hF, hP, hT, hI, hRW⟩ := id hp
  refine B rfl ?_
  refine Exists.intro (σ 0 2, x1) (And.intro rfl (And.intro hN2 ?_))
  rintro _ _ ⟨rfl, rfl⟩
  refine And.intro (fun h4 => ?_) (fun h4 => (by exfalso; omega))
  refine B rfl ?_
  refine And.intro (by omega) ?_
  refine Exists.intro _ (And.intro rfl ?_)
  exact And.intro rfl rfl
def as_F_X10_isPair : Int × Int → List Sv_t := fun a => [(10, 0), (0, a.1), (0, a.2)]
def pre_F_X10_isPair : Int × Int → Me_t → Prop := fun a σ => FX_ σ
def post_F_X10_isPair : Int × Int → Me_t → Int → Me_t → Prop := fun a σ z σ' => z = 0 ∧ σ = σ'
set_option maxHeartbeats 4000000 in
set_option maxRecDepth 100000 in
theorem ct_F_X10_isPair (l : Launch) : CT_ l yX10_isPair cX10_isPair 3 (some .boolean) 1 21 as_F_X10_isPair (rmI_) pre_F_X10_isPair post_F_X10_isPair := by
  refine ct_of (by decide) (fun _ => Nat.le_refl _) ?_
  intro X G Q ad σ a hl hR E hG R hM hv hp
  obtain ⟨x1, x2⟩ := a
  have r_x1 : -2147483648 ≤ x1 ∧ x1 ≤ 2147483647 := hv (0, x1) (List.mem_of_getElem? (i := 1) rfl)
  have r_x2 : -2147483648 ≤ x2 ∧ x2 ≤ 2147483647 := hv (0, x2) (List.mem_of_getElem? (i := 2) rfl)
  have B := @bk_ X G Q 0 0 ad SHS_ RX10 cX10_isPair 3 (some .boolean) flX10 plX10 knX10 [(226, 2, TR_ as_F_X9_hasLand (rmI_) pre_F_X9_hasLand post_F_X9_hasLand)] _ _ none kX10_isPair [] flX10_ok plX10_ok knX10_ok eX10_isPair oX10_isPair
    (List.forall_mem_cons.mpr ⟨cok_v (t := 5) (c := 9) (N := 10) (n := 1) (idx := 113) E (ct_F_X9_hasLand X.2.1) (by rw [hR]; decide) (Nat.zero_le _) (Nat.zero_le _) hG rfl rfl ⟨rfl, by decide, by decide, by decide⟩ (fun _ => ⟨_, _, rfl, rfl⟩) wl_X10_113 wi_X9_hasLand ws_X9_hasLand wn_X9 wc_X9_hasLand, fun _ h => absurd h List.not_mem_nil⟩) R sok_no E
  show WP_ X G Q 0 0 ad SHS_ σ 0 [(10, 0), (0, x1), (0, x2)] []
  have hp : FX_ σ := hp
  obtain ⟨hC, hS, hN0, hN1, hN2, hN3, hN4, hN5, hF, hP, hT, hI, hRW⟩ := id hp
  refine B rfl ?_
  refine Exists.intro (σ 0 2, x1) (And.intro rfl (And.intro hN2 ?_))
  rintro _ _ ⟨rfl, rfl⟩
  refine And.intro (fun h4 => ?_) (fun h4 => (by exfalso; omega))
  refine B rfl ?_
  refine And.intro (by omega) ?_
  refine Exists.intro _ (And.intro rfl ?_)
  exact And.intro rfl rfl
def as_F_X10_isPairAndDay : Int × Int × Int → List Sv_t := fun a => [(10, 0), (0, a.1), (0, a.2.1), (0, a.2.2)]
def pre_F_X10_isPairAndDay : Int × Int × Int → Me_t → Prop := fun a σ => FX_ σ
def post_F_X10_isPairAndDay : Int × Int × Int → Me_t → Int → Me_t → Prop := fun a σ z σ' => z = 0 ∧ σ = σ'
set_option maxHeartbeats 4000000 in
set_option maxRecDepth 100000 in
theorem ct_F_X10_isPairAndDay (l : Launch) : CT_ l yX10_isPairAndDay cX10_isPairAndDay 4 (some .boolean) 2 43 as_F_X10_isPairAndDay (rmI_) pre_F_X10_isPairAndDay post_F_X10_isPairAndDay := by
  refine ct_of (by decide) (fun _ => Nat.le_refl _) ?_
  intro X G Q ad σ a hl hR E hG R hM hv hp
  obtain ⟨x1, x2, x3⟩ := a
  have r_x1 : -2147483648 ≤ x1 ∧ x1 ≤ 2147483647 := hv (0, x1) (List.mem_of_getElem? (i := 1) rfl)
  have r_x2 : -2147483648 ≤ x2 ∧ x2 ≤ 2147483647 := hv (0, x2) (List.mem_of_getElem? (i := 2) rfl)
  have r_x3 : -2147483648 ≤ x3 ∧ x3 ≤ 2147483647 := hv (0, x3) (List.mem_of_getElem? (i := 3) rfl)
  have B := @bk_ X G Q 0 0 ad SHS_ RX10 cX10_isPairAndDay 4 (some .boolean) flX10 plX10 knX10 [(620, 3, TR_ as_F_X10_isPair (rmI_) pre_F_X10_isPair post_F_X10_isPair)] _ _ none kX10_isPairAndDay [] flX10_ok plX10_ok knX10_ok eX10_isPairAndDay oX10_isPairAndDay
    (List.forall_mem_cons.mpr ⟨cok_v (t := 0) (c := 10) (N := 14) (n := 2) (idx := 310) E (ct_F_X10_isPair X.2.1) (by rw [hR]; decide) (Nat.zero_le _) (Nat.zero_le _) hG rfl rfl ⟨rfl, by decide, by decide, by decide⟩ (fun _ => ⟨_, _, rfl, rfl⟩) wl_X10_310 wi_X10_isPair ws_X10_isPair wn_X10 wc_X10_isPair, fun _ h => absurd h List.not_mem_nil⟩) R sok_no E
  show WP_ X G Q 0 0 ad SHS_ σ 0 [(10, 0), (0, x1), (0, x2), (0, x3)] []
  have hp : FX_ σ := hp
  obtain ⟨hC, hS, hN0, hN1, hN2, hN3, hN4, hN5, hF, hP, hT, hI, hRW⟩ := id hp
  refine B rfl ?_
  refine Exists.intro (x1, x2) (And.intro rfl (And.intro hp ?_))
  rintro _ _ ⟨rfl, rfl⟩
  refine And.intro (fun h4 => ?_) (fun h4 => (by exfalso; omega))
  refine B rfl ?_
  refine And.intro (by omega) ?_
  refine Exists.intro _ (And.intro rfl ?_)
  exact And.intro rfl rfl
def as_F_X10_isSetInSpan : Int × Int × Int → List Sv_t := fun a => [(10, 0), (0, a.1), (0, a.2.1), (0, a.2.2)]
def pre_F_X10_isSetInSpan : Int × Int × Int → Me_t → Prop := fun a σ => FX_ σ
def post_F_X10_isSetInSpan : Int × Int × Int → Me_t → Int → Me_t → Prop := fun a σ z σ' => z = 0 ∧ σ = σ'
set_option maxHeartbeats 4000000 in
set_option maxRecDepth 100000 in
theorem ct_F_X10_isSetInSpan (l : Launch) : CT_ l yX10_isSetInSpan cX10_isSetInSpan 4 (some .boolean) 2 41 as_F_X10_isSetInSpan (rmI_) pre_F_X10_isSetInSpan post_F_X10_isSetInSpan := by
  refine ct_of (by decide) (fun _ => Nat.le_refl _) ?_
  intro X G Q ad σ a hl hR E hG R hM hv hp
  obtain ⟨x1, x2, x3⟩ := a
  have r_x1 : -2147483648 ≤ x1 ∧ x1 ≤ 2147483647 := hv (0, x1) (List.mem_of_getElem? (i := 1) rfl)
  have r_x2 : -2147483648 ≤ x2 ∧ x2 ≤ 2147483647 := hv (0, x2) (List.mem_of_getElem? (i := 2) rfl)
  have r_x3 : -2147483648 ≤ x3 ∧ x3 ≤ 2147483647 := hv (0, x3) (List.mem_of_getElem? (i := 3) rfl)
  have B := @bk_ X G Q 0 0 ad SHS_ RX10 cX10_isSetInSpan 4 (some .boolean) flX10 plX10 knX10 [] _ _ none kX10_isSetInSpan [] flX10_ok plX10_ok knX10_ok eX10_isSetInSpan oX10_isSetInSpan
    (fun _ h => absurd h List.not_mem_nil) R sok_no E
  show WP_ X G Q 0 0 ad SHS_ σ 0 [(10, 0), (0, x1), (0, x2), (0, x3)] []
  have hp : FX_ σ := hp
  obtain ⟨hC, hS, hN0, hN1, hN2, hN3, hN4, hN5, hF, hP, hT, hI, hRW⟩ := id hp
  refine B rfl ?_
  refine And.intro (fun h1 => ?_) (fun h1 => (by exfalso; omega))
  refine B rfl ?_
  refine And.intro (by omega) ?_
  refine Exists.intro _ (And.intro rfl ?_)
  exact And.intro rfl rfl
def as_F_X10_isSaintly : Int × Int × Int × Int × Int → List Sv_t := fun a => [(10, 0), (0, a.1), (0, a.2.1), (0, a.2.2.1), (0, a.2.2.2.1), (0, a.2.2.2.2)]
def pre_F_X10_isSaintly : Int × Int × Int × Int × Int → Me_t → Prop := fun a σ => FX_ σ
def post_F_X10_isSaintly : Int × Int × Int × Int × Int → Me_t → Int → Me_t → Prop := fun a σ z σ' => z = 0 ∧ σ = σ'
set_option maxHeartbeats 4000000 in
set_option maxRecDepth 100000 in
theorem ct_F_X10_isSaintly (l : Launch) : CT_ l yX10_isSaintly cX10_isSaintly 6 (some .boolean) 2 43 as_F_X10_isSaintly (rmI_) pre_F_X10_isSaintly post_F_X10_isSaintly := by
  refine ct_of (by decide) (fun _ => Nat.le_refl _) ?_
  intro X G Q ad σ a hl hR E hG R hM hv hp
  obtain ⟨x1, x2, x3, x4, x5⟩ := a
  have r_x1 : -2147483648 ≤ x1 ∧ x1 ≤ 2147483647 := hv (0, x1) (List.mem_of_getElem? (i := 1) rfl)
  have r_x2 : -2147483648 ≤ x2 ∧ x2 ≤ 2147483647 := hv (0, x2) (List.mem_of_getElem? (i := 2) rfl)
  have r_x3 : -2147483648 ≤ x3 ∧ x3 ≤ 2147483647 := hv (0, x3) (List.mem_of_getElem? (i := 3) rfl)
  have r_x4 : -2147483648 ≤ x4 ∧ x4 ≤ 2147483647 := hv (0, x4) (List.mem_of_getElem? (i := 4) rfl)
  have r_x5 : -2147483648 ≤ x5 ∧ x5 ≤ 2147483647 := hv (0, x5) (List.mem_of_getElem? (i := 5) rfl)
  have B := @bk_ X G Q 0 0 ad SHS_ RX10 cX10_isSaintly 6 (some .boolean) flX10 plX10 knX10 [(288, 3, TR_ as_F_X9_hasMonth (rmI_) pre_F_X9_hasMonth post_F_X9_hasMonth)] _ _ none kX10_isSaintly [] flX10_ok plX10_ok knX10_ok eX10_isSaintly oX10_isSaintly
    (List.forall_mem_cons.mpr ⟨cok_v (t := 5) (c := 9) (N := 10) (n := 2) (idx := 144) E (ct_F_X9_hasMonth X.2.1) (by rw [hR]; decide) (Nat.zero_le _) (Nat.zero_le _) hG rfl rfl ⟨rfl, by decide, by decide, by decide⟩ (fun _ => ⟨_, _, rfl, rfl⟩) wl_X10_144 wi_X9_hasMonth ws_X9_hasMonth wn_X9 wc_X9_hasMonth, fun _ h => absurd h List.not_mem_nil⟩) R sok_no E
  show WP_ X G Q 0 0 ad SHS_ σ 0 [(10, 0), (0, x1), (0, x2), (0, x3), (0, x4), (0, x5)] []
  have hp : FX_ σ := hp
  obtain ⟨hC, hS, hN0, hN1, hN2, hN3, hN4, hN5, hF, hP, hT, hI, hRW⟩ := id hp
  refine B rfl ?_
  refine Exists.intro (σ 0 2, x1, x2) (And.intro rfl (And.intro hN2 ?_))
  rintro _ _ ⟨rfl, rfl⟩
  refine And.intro (fun h4 => ?_) (fun h4 => (by exfalso; omega))
  refine B rfl ?_
  refine And.intro (by omega) ?_
  refine Exists.intro _ (And.intro rfl ?_)
  exact And.intro rfl rfl
def as_F_X10_readOrders : Int → List Sv_t := fun a => [(10, 0), (0, a)]
def pre_F_X10_readOrders : Int → Me_t → Prop := fun a σ => FX_ σ
def post_F_X10_readOrders : Int → Me_t → Int → Me_t → Prop := fun a σ z σ' => z = (-2) ∧ σ = σ'
set_option maxHeartbeats 4000000 in
set_option maxRecDepth 100000 in
theorem ct_F_X10_readOrders (l : Launch) : CT_ l yX10_readOrders cX10_readOrders 2 (some .int) 4 96 as_F_X10_readOrders (rmI_) pre_F_X10_readOrders post_F_X10_readOrders := by
  refine ct_of (by decide) (fun _ => Nat.le_refl _) ?_
  intro X G Q ad σ a hl hR E hG R hM hv hp
  obtain ⟨x1, rfl⟩ : ∃ q : Int, q = a := ⟨_, rfl⟩
  have r_x1 : -2147483648 ≤ x1 ∧ x1 ≤ 2147483647 := hv (0, x1) (List.mem_of_getElem? (i := 1) rfl)
  have B := @bk_ X G Q 0 0 ad SHS_ RX10 cX10_readOrders 2 (some .int) flX10 plX10 knX10 [(797, 1, TR_ as_F_X10_isSlot (rmI_) pre_F_X10_isSlot post_F_X10_isSlot)] _ _ none kX10_readOrders [] flX10_ok plX10_ok knX10_ok eX10_readOrders oX10_readOrders
    (List.forall_mem_cons.mpr ⟨cok_s (n := 1) (idx := 398) E (ct_F_X10_isSlot X.2.1) (by rw [hR]; decide) (Nat.zero_le _) (Nat.zero_le _) hG ⟨by decide, by decide, by decide⟩ (fun _ => rfl) wl_X10_398 wt_X10_isSlot wn_X10 wc_X10_isSlot, fun _ h => absurd h List.not_mem_nil⟩) R sok_no E
  show WP_ X G Q 0 0 ad SHS_ σ 0 [(10, 0), (0, x1)] []
  have hp : FX_ σ := hp
  obtain ⟨hC, hS, hN0, hN1, hN2, hN3, hN4, hN5, hF, hP, hT, hI, hRW⟩ := id hp
  refine B rfl ?_
  refine Exists.intro x1 (And.intro rfl (And.intro trivial ?_))
  rintro z1 _ ⟨rfl, h3⟩
  try dsimp only at h3
  refine And.intro (fun h4 => ?_) (fun h4 => ?_)
  · skip
    refine B rfl ?_
    refine Exists.intro _ (And.intro rfl ?_)
    exact And.intro rfl rfl
  · skip
    refine And.intro (fun h5 => (by exfalso; omega)) (fun h5 => ?_)
    refine Exists.intro _ (And.intro rfl ?_)
    exact And.intro rfl rfl
def as_F_X10_readSights : Int × Int × Int → List Sv_t := fun a => [(10, 0), (0, a.1), (0, a.2.1), (0, a.2.2)]
def pre_F_X10_readSights : Int × Int × Int → Me_t → Prop := fun a σ => FX_ σ
def post_F_X10_readSights : Int × Int × Int → Me_t → Int → Me_t → Prop := fun a σ z σ' => z = (-2) ∧ σ = σ'
set_option maxHeartbeats 4000000 in
set_option maxRecDepth 100000 in
theorem ct_F_X10_readSights (l : Launch) : CT_ l yX10_readSights cX10_readSights 5 (some .int) 5 123 as_F_X10_readSights (rmI_) pre_F_X10_readSights post_F_X10_readSights := by
  refine ct_of (by decide) (fun _ => Nat.le_of_ble_eq_true rfl) ?_
  intro X G Q ad σ a hl hR E hG R hM hv hp
  obtain ⟨x1, x2, x3⟩ := a
  have r_x1 : -2147483648 ≤ x1 ∧ x1 ≤ 2147483647 := hv (0, x1) (List.mem_of_getElem? (i := 1) rfl)
  have r_x2 : -2147483648 ≤ x2 ∧ x2 ≤ 2147483647 := hv (0, x2) (List.mem_of_getElem? (i := 2) rfl)
  have r_x3 : -2147483648 ≤ x3 ∧ x3 ≤ 2147483647 := hv (0, x3) (List.mem_of_getElem? (i := 3) rfl)
  have B := @bk_ X G Q 0 0 ad SHS_ RX10 cX10_readSights 5 (some .int) flX10 plX10 knX10 [(797, 1, TR_ as_F_X10_isSlot (rmI_) pre_F_X10_isSlot post_F_X10_isSlot), (499, 2, TR_ as_F_X10_isSpan (rmI_) pre_F_X10_isSpan post_F_X10_isSpan)] _ _ none kX10_readSights [] flX10_ok plX10_ok knX10_ok eX10_readSights oX10_readSights
    (List.forall_mem_cons.mpr ⟨cok_s (n := 1) (idx := 398) E (ct_F_X10_isSlot X.2.1) (by rw [hR]; decide) (Nat.zero_le _) (Nat.zero_le _) hG ⟨by decide, by decide, by decide⟩ (fun _ => rfl) wl_X10_398 wt_X10_isSlot wn_X10 wc_X10_isSlot, List.forall_mem_cons.mpr ⟨cok_s (n := 2) (idx := 249) E (ct_F_X10_isSpan X.2.1) (by rw [hR]; decide) (Nat.zero_le _) (Nat.zero_le _) hG ⟨by decide, by decide, by decide⟩ (fun _ => rfl) wl_X10_249 wt_X10_isSpan wn_X10 wc_X10_isSpan, fun _ h => absurd h List.not_mem_nil⟩⟩) R sok_no E
  show WP_ X G Q 0 0 ad SHS_ σ 0 [(10, 0), (0, x1), (0, x2), (0, x3), (9, 0)] []
  have hp : FX_ σ := hp
  obtain ⟨hC, hS, hN0, hN1, hN2, hN3, hN4, hN5, hF, hP, hT, hI, hRW⟩ := id hp
  refine B rfl ?_
  refine Exists.intro x1 (And.intro rfl (And.intro trivial ?_))
  rintro z1 _ ⟨rfl, h3⟩
  try dsimp only at h3
  refine And.intro (fun h4 => ?_) (fun h4 => ?_)
  · skip
    refine B rfl ?_
    refine Exists.intro _ (And.intro rfl ?_)
    exact And.intro rfl rfl
  · skip
    refine Exists.intro (x2, x3) (And.intro rfl (And.intro trivial ?_))
    rintro z5 _ ⟨rfl, h7⟩
    try dsimp only at h7
    refine And.intro (fun h8 => ?_) (fun h8 => ?_)
    · skip
      refine B rfl ?_
      refine Exists.intro _ (And.intro rfl ?_)
      exact And.intro rfl rfl
    · skip
      refine And.intro (fun h9 => (by exfalso; omega)) (fun h9 => ?_)
      refine Exists.intro _ (And.intro rfl ?_)
      exact And.intro rfl rfl
def as_F_X10_land : Int × Int → List Sv_t := fun a => [(10, 0), (0, a.1), (0, a.2)]
def pre_F_X10_land : Int × Int → Me_t → Prop := fun a σ => FX_ σ
def post_F_X10_land : Int × Int → Me_t → Int → Me_t → Prop := fun a σ z σ' => z = (-2) ∧ σ = σ'
set_option maxHeartbeats 4000000 in
set_option maxRecDepth 100000 in
theorem ct_F_X10_land (l : Launch) : CT_ l yX10_land cX10_land 4 (some .int) 1 21 as_F_X10_land (rmI_) pre_F_X10_land post_F_X10_land := by
  refine ct_of (by decide) (fun _ => Nat.le_of_ble_eq_true rfl) ?_
  intro X G Q ad σ a hl hR E hG R hM hv hp
  obtain ⟨x1, x2⟩ := a
  have r_x1 : -2147483648 ≤ x1 ∧ x1 ≤ 2147483647 := hv (0, x1) (List.mem_of_getElem? (i := 1) rfl)
  have r_x2 : -2147483648 ≤ x2 ∧ x2 ≤ 2147483647 := hv (0, x2) (List.mem_of_getElem? (i := 2) rfl)
  have B := @bk_ X G Q 0 0 ad SHS_ RX10 cX10_land 4 (some .int) flX10 plX10 knX10 [(226, 2, TR_ as_F_X9_hasLand (rmI_) pre_F_X9_hasLand post_F_X9_hasLand)] _ _ none kX10_land [] flX10_ok plX10_ok knX10_ok eX10_land oX10_land
    (List.forall_mem_cons.mpr ⟨cok_v (t := 5) (c := 9) (N := 10) (n := 1) (idx := 113) E (ct_F_X9_hasLand X.2.1) (by rw [hR]; decide) (Nat.zero_le _) (Nat.zero_le _) hG rfl rfl ⟨rfl, by decide, by decide, by decide⟩ (fun _ => ⟨_, _, rfl, rfl⟩) wl_X10_113 wi_X9_hasLand ws_X9_hasLand wn_X9 wc_X9_hasLand, fun _ h => absurd h List.not_mem_nil⟩) R sok_no E
  show WP_ X G Q 0 0 ad SHS_ σ 0 [(10, 0), (0, x1), (0, x2), (9, 0)] []
  have hp : FX_ σ := hp
  obtain ⟨hC, hS, hN0, hN1, hN2, hN3, hN4, hN5, hF, hP, hT, hI, hRW⟩ := id hp
  refine B rfl ?_
  refine Exists.intro (σ 0 2, x1) (And.intro rfl (And.intro hN2 ?_))
  rintro _ _ ⟨rfl, rfl⟩
  refine And.intro (fun h4 => (by exfalso; omega)) (fun h4 => ?_)
  refine Exists.intro _ (And.intro rfl ?_)
  exact And.intro rfl rfl
def as_F_X10_month : Int × Int × Int → List Sv_t := fun a => [(10, 0), (0, a.1), (0, a.2.1), (0, a.2.2)]
def pre_F_X10_month : Int × Int × Int → Me_t → Prop := fun a σ => FX_ σ
def post_F_X10_month : Int × Int × Int → Me_t → Int → Me_t → Prop := fun a σ z σ' => z = (-2) ∧ σ = σ'
set_option maxHeartbeats 4000000 in
set_option maxRecDepth 100000 in
theorem ct_F_X10_month (l : Launch) : CT_ l yX10_month cX10_month 4 (some .int) 2 43 as_F_X10_month (rmI_) pre_F_X10_month post_F_X10_month := by
  refine ct_of (by decide) (fun _ => Nat.le_refl _) ?_
  intro X G Q ad σ a hl hR E hG R hM hv hp
  obtain ⟨x1, x2, x3⟩ := a
  have r_x1 : -2147483648 ≤ x1 ∧ x1 ≤ 2147483647 := hv (0, x1) (List.mem_of_getElem? (i := 1) rfl)
  have r_x2 : -2147483648 ≤ x2 ∧ x2 ≤ 2147483647 := hv (0, x2) (List.mem_of_getElem? (i := 2) rfl)
  have r_x3 : -2147483648 ≤ x3 ∧ x3 ≤ 2147483647 := hv (0, x3) (List.mem_of_getElem? (i := 3) rfl)
  have B := @bk_ X G Q 0 0 ad SHS_ RX10 cX10_month 4 (some .int) flX10 plX10 knX10 [(288, 3, TR_ as_F_X9_hasMonth (rmI_) pre_F_X9_hasMonth post_F_X9_hasMonth)] _ _ none kX10_month [] flX10_ok plX10_ok knX10_ok eX10_month oX10_month
    (List.forall_mem_cons.mpr ⟨cok_v (t := 5) (c := 9) (N := 10) (n := 2) (idx := 144) E (ct_F_X9_hasMonth X.2.1) (by rw [hR]; decide) (Nat.zero_le _) (Nat.zero_le _) hG rfl rfl ⟨rfl, by decide, by decide, by decide⟩ (fun _ => ⟨_, _, rfl, rfl⟩) wl_X10_144 wi_X9_hasMonth ws_X9_hasMonth wn_X9 wc_X9_hasMonth, fun _ h => absurd h List.not_mem_nil⟩) R sok_no E
  show WP_ X G Q 0 0 ad SHS_ σ 0 [(10, 0), (0, x1), (0, x2), (0, x3)] []
  have hp : FX_ σ := hp
  obtain ⟨hC, hS, hN0, hN1, hN2, hN3, hN4, hN5, hF, hP, hT, hI, hRW⟩ := id hp
  refine B rfl ?_
  refine Exists.intro (σ 0 2, x1, x2) (And.intro rfl (And.intro hN2 ?_))
  rintro _ _ ⟨rfl, rfl⟩
  refine And.intro (fun h4 => ?_) (fun h4 => (by exfalso; omega))
  refine B rfl ?_
  refine Exists.intro _ (And.intro rfl ?_)
  exact And.intro rfl rfl
def as_F_X10_feast : Int × Int → List Sv_t := fun a => [(10, 0), (0, a.1), (0, a.2)]
def pre_F_X10_feast : Int × Int → Me_t → Prop := fun a σ => FX_ σ
def post_F_X10_feast : Int × Int → Me_t → Int → Me_t → Prop := fun a σ z σ' => z = (-2) ∧ σ = σ'
set_option maxHeartbeats 4000000 in
set_option maxRecDepth 100000 in
theorem ct_F_X10_feast (l : Launch) : CT_ l yX10_feast cX10_feast 3 (some .int) 0 0 as_F_X10_feast (rmI_) pre_F_X10_feast post_F_X10_feast := by
  refine ct_of (by decide) (fun _ => Nat.le_refl _) ?_
  intro X G Q ad σ a hl hR E hG R hM hv hp
  obtain ⟨x1, x2⟩ := a
  have r_x1 : -2147483648 ≤ x1 ∧ x1 ≤ 2147483647 := hv (0, x1) (List.mem_of_getElem? (i := 1) rfl)
  have r_x2 : -2147483648 ≤ x2 ∧ x2 ≤ 2147483647 := hv (0, x2) (List.mem_of_getElem? (i := 2) rfl)
  have B := @bk_ X G Q 0 0 ad SHS_ RX10 cX10_feast 3 (some .int) flX10 plX10 knX10 [] _ _ none kX10_feast [] flX10_ok plX10_ok knX10_ok eX10_feast oX10_feast
    (fun _ h => absurd h List.not_mem_nil) R sok_no E
  show WP_ X G Q 0 0 ad SHS_ σ 0 [(10, 0), (0, x1), (0, x2)] []
  have hp : FX_ σ := hp
  obtain ⟨hC, hS, hN0, hN1, hN2, hN3, hN4, hN5, hF, hP, hT, hI, hRW⟩ := id hp
  refine B rfl ?_
  refine And.intro (fun h1 => ?_) (fun h1 => ?_)
  · skip
    refine B rfl ?_
    refine Exists.intro _ (And.intro rfl ?_)
    exact And.intro rfl rfl
  · skip
    refine And.intro (fun h2 => ?_) (fun h2 => ?_)
    · skip
      refine B rfl ?_
      refine Exists.intro _ (And.intro rfl ?_)
      exact And.intro rfl rfl
    · skip
      refine And.intro (fun h3 => ?_) (fun h3 => ?_)
      · skip
        refine B rfl ?_
        refine Exists.intro _ (And.intro rfl ?_)
        exact And.intro rfl rfl
      · skip
        refine And.intro (fun h4 => ?_) (fun h4 => ?_)
        · skip
          refine B rfl ?_
          refine And.intro (by omega) ?_
          refine And.intro (by omega) ?_
          refine And.intro (by omega) ?_
          refine Exists.intro _ (And.intro rfl ?_)
          exact And.intro (by (try dsimp only); omega) rfl
        · skip
          refine Exists.intro _ (And.intro rfl ?_)
          exact And.intro rfl rfl
def as_F_X10_truce : Int × Int → List Sv_t := fun a => [(10, 0), (0, a.1), (0, a.2)]
def pre_F_X10_truce : Int × Int → Me_t → Prop := fun a σ => FX_ σ
def post_F_X10_truce : Int × Int → Me_t → Int → Me_t → Prop := fun a σ z σ' => z = (-2) ∧ σ = σ'
set_option maxHeartbeats 4000000 in
set_option maxRecDepth 100000 in
theorem ct_F_X10_truce (l : Launch) : CT_ l yX10_truce cX10_truce 3 (some .int) 0 0 as_F_X10_truce (rmI_) pre_F_X10_truce post_F_X10_truce := by
  refine ct_of (by decide) (fun _ => Nat.le_refl _) ?_
  intro X G Q ad σ a hl hR E hG R hM hv hp
  obtain ⟨x1, x2⟩ := a
  have r_x1 : -2147483648 ≤ x1 ∧ x1 ≤ 2147483647 := hv (0, x1) (List.mem_of_getElem? (i := 1) rfl)
  have r_x2 : -2147483648 ≤ x2 ∧ x2 ≤ 2147483647 := hv (0, x2) (List.mem_of_getElem? (i := 2) rfl)
  have B := @bk_ X G Q 0 0 ad SHS_ RX10 cX10_truce 3 (some .int) flX10 plX10 knX10 [] _ _ none kX10_truce [] flX10_ok plX10_ok knX10_ok eX10_truce oX10_truce
    (fun _ h => absurd h List.not_mem_nil) R sok_no E
  show WP_ X G Q 0 0 ad SHS_ σ 0 [(10, 0), (0, x1), (0, x2)] []
  have hp : FX_ σ := hp
  obtain ⟨hC, hS, hN0, hN1, hN2, hN3, hN4, hN5, hF, hP, hT, hI, hRW⟩ := id hp
  refine B rfl ?_
  refine And.intro (fun h1 => ?_) (fun h1 => ?_)
  · skip
    refine B rfl ?_
    refine Exists.intro _ (And.intro rfl ?_)
    exact And.intro rfl rfl
  · skip
    refine And.intro (fun h2 => ?_) (fun h2 => ?_)
    · skip
      refine B rfl ?_
      refine Exists.intro _ (And.intro rfl ?_)
      exact And.intro rfl rfl
    · skip
      refine And.intro (fun h3 => ?_) (fun h3 => ?_)
      · skip
        refine B rfl ?_
        refine Exists.intro _ (And.intro rfl ?_)
        exact And.intro rfl rfl
      · skip
        refine And.intro (fun h4 => ?_) (fun h4 => ?_)
        · skip
          refine B rfl ?_
          refine And.intro (by omega) ?_
          refine And.intro (by omega) ?_
          refine And.intro (by omega) ?_
          refine Exists.intro _ (And.intro rfl ?_)
          exact And.intro (by (try dsimp only); omega) rfl
        · skip
          refine Exists.intro _ (And.intro rfl ?_)
          exact And.intro rfl rfl
def as_F_X10_date : Int × Int × Int → List Sv_t := fun a => [(10, 0), (0, a.1), (0, a.2.1), (0, a.2.2)]
def pre_F_X10_date : Int × Int × Int → Me_t → Prop := fun a σ => FX_ σ
def post_F_X10_date : Int × Int × Int → Me_t → Int → Me_t → Prop := fun a σ z σ' => z = (-2) ∧ σ = σ'
set_option maxHeartbeats 4000000 in
set_option maxRecDepth 100000 in
theorem ct_F_X10_date (l : Launch) : CT_ l yX10_date cX10_date 4 (some .int) 6 143 as_F_X10_date (rmI_) pre_F_X10_date post_F_X10_date := by
  refine ct_of (by decide) (fun _ => Nat.le_refl _) ?_
  intro X G Q ad σ a hl hR E hG R hM hv hp
  obtain ⟨x1, x2, x3⟩ := a
  have r_x1 : -2147483648 ≤ x1 ∧ x1 ≤ 2147483647 := hv (0, x1) (List.mem_of_getElem? (i := 1) rfl)
  have r_x2 : -2147483648 ≤ x2 ∧ x2 ≤ 2147483647 := hv (0, x2) (List.mem_of_getElem? (i := 2) rfl)
  have r_x3 : -2147483648 ≤ x3 ∧ x3 ≤ 2147483647 := hv (0, x3) (List.mem_of_getElem? (i := 3) rfl)
  have B := @bk_ X G Q 0 0 ad SHS_ RX10 cX10_date 4 (some .int) flX10 plX10 knX10 [(336, 3, TR_ as_F_X10_isLandAndDay (rmI_) pre_F_X10_isLandAndDay post_F_X10_isLandAndDay)] _ _ none kX10_date [] flX10_ok plX10_ok knX10_ok eX10_date oX10_date
    (List.forall_mem_cons.mpr ⟨cok_v (t := 0) (c := 10) (N := 14) (n := 2) (idx := 168) E (ct_F_X10_isLandAndDay X.2.1) (by rw [hR]; decide) (Nat.zero_le _) (Nat.zero_le _) hG rfl rfl ⟨rfl, by decide, by decide, by decide⟩ (fun _ => ⟨_, _, rfl, rfl⟩) wl_X10_168 wi_X10_isLandAndDay ws_X10_isLandAndDay wn_X10 wc_X10_isLandAndDay, fun _ h => absurd h List.not_mem_nil⟩) R sok_no E
  show WP_ X G Q 0 0 ad SHS_ σ 0 [(10, 0), (0, x1), (0, x2), (0, x3)] []
  have hp : FX_ σ := hp
  obtain ⟨hC, hS, hN0, hN1, hN2, hN3, hN4, hN5, hF, hP, hT, hI, hRW⟩ := id hp
  refine B rfl ?_
  refine Exists.intro (x1, x2) (And.intro rfl (And.intro hp ?_))
  rintro _ _ ⟨rfl, rfl⟩
  refine And.intro (fun h4 => ?_) (fun h4 => (by exfalso; omega))
  refine B rfl ?_
  refine Exists.intro _ (And.intro rfl ?_)
  exact And.intro rfl rfl
def as_F_X10_day : Int × Int × Int × Int → List Sv_t := fun a => [(10, 0), (0, a.1), (0, a.2.1), (0, a.2.2.1), (0, a.2.2.2)]
def pre_F_X10_day : Int × Int × Int × Int → Me_t → Prop := fun a σ => FX_ σ
def post_F_X10_day : Int × Int × Int × Int → Me_t → Int → Me_t → Prop := fun a σ z σ' => z = (-2) ∧ σ = σ'
set_option maxHeartbeats 4000000 in
set_option maxRecDepth 100000 in
theorem ct_F_X10_day (l : Launch) : CT_ l yX10_day cX10_day 5 (some .int) 3 72 as_F_X10_day (rmI_) pre_F_X10_day post_F_X10_day := by
  refine ct_of (by decide) (fun _ => Nat.le_refl _) ?_
  intro X G Q ad σ a hl hR E hG R hM hv hp
  obtain ⟨x1, x2, x3, x4⟩ := a
  have r_x1 : -2147483648 ≤ x1 ∧ x1 ≤ 2147483647 := hv (0, x1) (List.mem_of_getElem? (i := 1) rfl)
  have r_x2 : -2147483648 ≤ x2 ∧ x2 ≤ 2147483647 := hv (0, x2) (List.mem_of_getElem? (i := 2) rfl)
  have r_x3 : -2147483648 ≤ x3 ∧ x3 ≤ 2147483647 := hv (0, x3) (List.mem_of_getElem? (i := 3) rfl)
  have r_x4 : -2147483648 ≤ x4 ∧ x4 ≤ 2147483647 := hv (0, x4) (List.mem_of_getElem? (i := 4) rfl)
  have B := @bk_ X G Q 0 0 ad SHS_ RX10 cX10_day 5 (some .int) flX10 plX10 knX10 [(358, 5, TR_ as_F_X9_dayOfDate (rmI_) pre_F_X9_dayOfDate post_F_X9_dayOfDate)] _ _ none kX10_day [] flX10_ok plX10_ok knX10_ok eX10_day oX10_day
    (List.forall_mem_cons.mpr ⟨cok_v (t := 5) (c := 9) (N := 10) (n := 4) (idx := 179) E (ct_F_X9_dayOfDate X.2.1) (by rw [hR]; decide) (Nat.zero_le _) (Nat.zero_le _) hG rfl rfl ⟨rfl, by decide, by decide, by decide⟩ (fun _ => ⟨_, _, rfl, rfl⟩) wl_X10_179 wi_X9_dayOfDate ws_X9_dayOfDate wn_X9 wc_X9_dayOfDate, fun _ h => absurd h List.not_mem_nil⟩) R sok_no E
  show WP_ X G Q 0 0 ad SHS_ σ 0 [(10, 0), (0, x1), (0, x2), (0, x3), (0, x4)] []
  have hp : FX_ σ := hp
  obtain ⟨hC, hS, hN0, hN1, hN2, hN3, hN4, hN5, hF, hP, hT, hI, hRW⟩ := id hp
  refine B rfl ?_
  refine Exists.intro (σ 0 2, x1, x2, x3, x4) (And.intro rfl (And.intro hN2 ?_))
  rintro _ _ ⟨rfl, rfl⟩
  refine Exists.intro _ (And.intro rfl ?_)
  exact And.intro rfl rfl
def as_F_X10_may : Int × Int → List Sv_t := fun a => [(10, 0), (0, a.1), (0, a.2)]
def pre_F_X10_may : Int × Int → Me_t → Prop := fun a σ => FX_ σ
def post_F_X10_may : Int × Int → Me_t → Int → Me_t → Prop := fun a σ z σ' => z = (-2) ∧ σ = σ'
set_option maxHeartbeats 4000000 in
set_option maxRecDepth 100000 in
theorem ct_F_X10_may (l : Launch) : CT_ l yX10_may cX10_may 3 (some .int) 6 143 as_F_X10_may (rmI_) pre_F_X10_may post_F_X10_may := by
  refine ct_of (by decide) (fun _ => Nat.le_refl _) ?_
  intro X G Q ad σ a hl hR E hG R hM hv hp
  obtain ⟨x1, x2⟩ := a
  have r_x1 : -2147483648 ≤ x1 ∧ x1 ≤ 2147483647 := hv (0, x1) (List.mem_of_getElem? (i := 1) rfl)
  have r_x2 : -2147483648 ≤ x2 ∧ x2 ≤ 2147483647 := hv (0, x2) (List.mem_of_getElem? (i := 2) rfl)
  have B := @bk_ X G Q 0 0 ad SHS_ RX10 cX10_may 3 (some .int) flX10 plX10 knX10 [(336, 3, TR_ as_F_X10_isLandAndDay (rmI_) pre_F_X10_isLandAndDay post_F_X10_isLandAndDay)] _ _ none kX10_may [] flX10_ok plX10_ok knX10_ok eX10_may oX10_may
    (List.forall_mem_cons.mpr ⟨cok_v (t := 0) (c := 10) (N := 14) (n := 2) (idx := 168) E (ct_F_X10_isLandAndDay X.2.1) (by rw [hR]; decide) (Nat.zero_le _) (Nat.zero_le _) hG rfl rfl ⟨rfl, by decide, by decide, by decide⟩ (fun _ => ⟨_, _, rfl, rfl⟩) wl_X10_168 wi_X10_isLandAndDay ws_X10_isLandAndDay wn_X10 wc_X10_isLandAndDay, fun _ h => absurd h List.not_mem_nil⟩) R sok_no E
  show WP_ X G Q 0 0 ad SHS_ σ 0 [(10, 0), (0, x1), (0, x2)] []
  have hp : FX_ σ := hp
  obtain ⟨hC, hS, hN0, hN1, hN2, hN3, hN4, hN5, hF, hP, hT, hI, hRW⟩ := id hp
  refine B rfl ?_
  refine Exists.intro (x1, x2) (And.intro rfl (And.intro hp ?_))
  rintro _ _ ⟨rfl, rfl⟩
  refine And.intro (fun h4 => (by exfalso; omega)) (fun h4 => ?_)
  refine Exists.intro _ (And.intro rfl ?_)
  exact And.intro rfl rfl
def as_F_X10_why : Int × Int → List Sv_t := fun a => [(10, 0), (0, a.1), (0, a.2)]
def pre_F_X10_why : Int × Int → Me_t → Prop := fun a σ => FX_ σ
def post_F_X10_why : Int × Int → Me_t → Int → Me_t → Prop := fun a σ z σ' => z = (-2) ∧ σ = σ'
set_option maxHeartbeats 4000000 in
set_option maxRecDepth 100000 in
theorem ct_F_X10_why (l : Launch) : CT_ l yX10_why cX10_why 3 (some .int) 6 143 as_F_X10_why (rmI_) pre_F_X10_why post_F_X10_why := by
  refine ct_of (by decide) (fun _ => Nat.le_refl _) ?_
  intro X G Q ad σ a hl hR E hG R hM hv hp
  obtain ⟨x1, x2⟩ := a
  have r_x1 : -2147483648 ≤ x1 ∧ x1 ≤ 2147483647 := hv (0, x1) (List.mem_of_getElem? (i := 1) rfl)
  have r_x2 : -2147483648 ≤ x2 ∧ x2 ≤ 2147483647 := hv (0, x2) (List.mem_of_getElem? (i := 2) rfl)
  have B := @bk_ X G Q 0 0 ad SHS_ RX10 cX10_why 3 (some .int) flX10 plX10 knX10 [(336, 3, TR_ as_F_X10_isLandAndDay (rmI_) pre_F_X10_isLandAndDay post_F_X10_isLandAndDay)] _ _ none kX10_why [] flX10_ok plX10_ok knX10_ok eX10_why oX10_why
    (List.forall_mem_cons.mpr ⟨cok_v (t := 0) (c := 10) (N := 14) (n := 2) (idx := 168) E (ct_F_X10_isLandAndDay X.2.1) (by rw [hR]; decide) (Nat.zero_le _) (Nat.zero_le _) hG rfl rfl ⟨rfl, by decide, by decide, by decide⟩ (fun _ => ⟨_, _, rfl, rfl⟩) wl_X10_168 wi_X10_isLandAndDay ws_X10_isLandAndDay wn_X10 wc_X10_isLandAndDay, fun _ h => absurd h List.not_mem_nil⟩) R sok_no E
  show WP_ X G Q 0 0 ad SHS_ σ 0 [(10, 0), (0, x1), (0, x2)] []
  have hp : FX_ σ := hp
  obtain ⟨hC, hS, hN0, hN1, hN2, hN3, hN4, hN5, hF, hP, hT, hI, hRW⟩ := id hp
  refine B rfl ?_
  refine Exists.intro (x1, x2) (And.intro rfl (And.intro hp ?_))
  rintro _ _ ⟨rfl, rfl⟩
  refine And.intro (fun h4 => (by exfalso; omega)) (fun h4 => ?_)
  refine Exists.intro _ (And.intro rfl ?_)
  exact And.intro rfl rfl
def as_F_X10_who : Int → List Sv_t := fun a => [(10, 0), (0, a)]
def pre_F_X10_who : Int → Me_t → Prop := fun a σ => FX_ σ
def post_F_X10_who : Int → Me_t → Int → Me_t → Prop := fun a σ z σ' => z = (-2) ∧ σ = σ'
set_option maxHeartbeats 4000000 in
set_option maxRecDepth 100000 in
theorem ct_F_X10_who (l : Launch) : CT_ l yX10_who cX10_who 2 (some .int) 6 143 as_F_X10_who (rmI_) pre_F_X10_who post_F_X10_who := by
  refine ct_of (by decide) (fun _ => Nat.le_refl _) ?_
  intro X G Q ad σ a hl hR E hG R hM hv hp
  obtain ⟨x1, rfl⟩ : ∃ q : Int, q = a := ⟨_, rfl⟩
  have r_x1 : -2147483648 ≤ x1 ∧ x1 ≤ 2147483647 := hv (0, x1) (List.mem_of_getElem? (i := 1) rfl)
  have B := @bk_ X G Q 0 0 ad SHS_ RX10 cX10_who 2 (some .int) flX10 plX10 knX10 [(372, 2, TR_ as_F_X10_isDayOfWar (rmI_) pre_F_X10_isDayOfWar post_F_X10_isDayOfWar)] _ _ none kX10_who [] flX10_ok plX10_ok knX10_ok eX10_who oX10_who
    (List.forall_mem_cons.mpr ⟨cok_v (t := 0) (c := 10) (N := 14) (n := 1) (idx := 186) E (ct_F_X10_isDayOfWar X.2.1) (by rw [hR]; decide) (Nat.zero_le _) (Nat.zero_le _) hG rfl rfl ⟨rfl, by decide, by decide, by decide⟩ (fun _ => ⟨_, _, rfl, rfl⟩) wl_X10_186 wi_X10_isDayOfWar ws_X10_isDayOfWar wn_X10 wc_X10_isDayOfWar, fun _ h => absurd h List.not_mem_nil⟩) R sok_no E
  show WP_ X G Q 0 0 ad SHS_ σ 0 [(10, 0), (0, x1)] []
  have hp : FX_ σ := hp
  obtain ⟨hC, hS, hN0, hN1, hN2, hN3, hN4, hN5, hF, hP, hT, hI, hRW⟩ := id hp
  refine B rfl ?_
  refine Exists.intro x1 (And.intro rfl (And.intro hp ?_))
  rintro _ _ ⟨rfl, rfl⟩
  refine And.intro (fun h4 => (by exfalso; omega)) (fun h4 => ?_)
  refine Exists.intro _ (And.intro rfl ?_)
  exact And.intro rfl rfl
def as_F_X10_next : Int × Int → List Sv_t := fun a => [(10, 0), (0, a.1), (0, a.2)]
def pre_F_X10_next : Int × Int → Me_t → Prop := fun a σ => FX_ σ
def post_F_X10_next : Int × Int → Me_t → Int → Me_t → Prop := fun a σ z σ' => z = (-2) ∧ σ = σ'
set_option maxHeartbeats 4000000 in
set_option maxRecDepth 100000 in
theorem ct_F_X10_next (l : Launch) : CT_ l yX10_next cX10_next 5 (some .int) 6 143 as_F_X10_next (rmI_) pre_F_X10_next post_F_X10_next := by
  refine ct_of (by decide) (fun _ => Nat.le_of_ble_eq_true rfl) ?_
  intro X G Q ad σ a hl hR E hG R hM hv hp
  obtain ⟨x1, x2⟩ := a
  have r_x1 : -2147483648 ≤ x1 ∧ x1 ≤ 2147483647 := hv (0, x1) (List.mem_of_getElem? (i := 1) rfl)
  have r_x2 : -2147483648 ≤ x2 ∧ x2 ≤ 2147483647 := hv (0, x2) (List.mem_of_getElem? (i := 2) rfl)
  have B := @bk_ X G Q 0 0 ad SHS_ RX10 cX10_next 5 (some .int) flX10 plX10 knX10 [(386, 4, TR_ as_F_X10_isSetInSpan (rmI_) pre_F_X10_isSetInSpan post_F_X10_isSetInSpan)] _ _ none kX10_next [] flX10_ok plX10_ok knX10_ok eX10_next oX10_next
    (List.forall_mem_cons.mpr ⟨cok_v (t := 0) (c := 10) (N := 14) (n := 3) (idx := 193) E (ct_F_X10_isSetInSpan X.2.1) (by rw [hR]; decide) (Nat.zero_le _) (Nat.zero_le _) hG rfl rfl ⟨rfl, by decide, by decide, by decide⟩ (fun _ => ⟨_, _, rfl, rfl⟩) wl_X10_193 wi_X10_isSetInSpan ws_X10_isSetInSpan wn_X10 wc_X10_isSetInSpan, fun _ h => absurd h List.not_mem_nil⟩) R sok_no E
  show WP_ X G Q 0 0 ad SHS_ σ 0 [(10, 0), (0, x1), (0, x2), (9, 0), (9, 0)] []
  have hp : FX_ σ := hp
  obtain ⟨hC, hS, hN0, hN1, hN2, hN3, hN4, hN5, hF, hP, hT, hI, hRW⟩ := id hp
  refine B rfl ?_
  refine Exists.intro (x1, x2, x2) (And.intro rfl (And.intro hp ?_))
  rintro _ _ ⟨rfl, rfl⟩
  refine And.intro (fun h4 => (by exfalso; omega)) (fun h4 => ?_)
  refine Exists.intro _ (And.intro rfl ?_)
  exact And.intro rfl rfl
def as_F_X10_many : Int × Int × Int → List Sv_t := fun a => [(10, 0), (0, a.1), (0, a.2.1), (0, a.2.2)]
def pre_F_X10_many : Int × Int × Int → Me_t → Prop := fun a σ => FX_ σ
def post_F_X10_many : Int × Int × Int → Me_t → Int → Me_t → Prop := fun a σ z σ' => z = (-2) ∧ σ = σ'
set_option maxHeartbeats 4000000 in
set_option maxRecDepth 100000 in
theorem ct_F_X10_many (l : Launch) : CT_ l yX10_many cX10_many 4 (some .int) 6 143 as_F_X10_many (rmI_) pre_F_X10_many post_F_X10_many := by
  refine ct_of (by decide) (fun _ => Nat.le_refl _) ?_
  intro X G Q ad σ a hl hR E hG R hM hv hp
  obtain ⟨x1, x2, x3⟩ := a
  have r_x1 : -2147483648 ≤ x1 ∧ x1 ≤ 2147483647 := hv (0, x1) (List.mem_of_getElem? (i := 1) rfl)
  have r_x2 : -2147483648 ≤ x2 ∧ x2 ≤ 2147483647 := hv (0, x2) (List.mem_of_getElem? (i := 2) rfl)
  have r_x3 : -2147483648 ≤ x3 ∧ x3 ≤ 2147483647 := hv (0, x3) (List.mem_of_getElem? (i := 3) rfl)
  have B := @bk_ X G Q 0 0 ad SHS_ RX10 cX10_many 4 (some .int) flX10 plX10 knX10 [(386, 4, TR_ as_F_X10_isSetInSpan (rmI_) pre_F_X10_isSetInSpan post_F_X10_isSetInSpan)] _ _ none kX10_many [] flX10_ok plX10_ok knX10_ok eX10_many oX10_many
    (List.forall_mem_cons.mpr ⟨cok_v (t := 0) (c := 10) (N := 14) (n := 3) (idx := 193) E (ct_F_X10_isSetInSpan X.2.1) (by rw [hR]; decide) (Nat.zero_le _) (Nat.zero_le _) hG rfl rfl ⟨rfl, by decide, by decide, by decide⟩ (fun _ => ⟨_, _, rfl, rfl⟩) wl_X10_193 wi_X10_isSetInSpan ws_X10_isSetInSpan wn_X10 wc_X10_isSetInSpan, fun _ h => absurd h List.not_mem_nil⟩) R sok_no E
  show WP_ X G Q 0 0 ad SHS_ σ 0 [(10, 0), (0, x1), (0, x2), (0, x3)] []
  have hp : FX_ σ := hp
  obtain ⟨hC, hS, hN0, hN1, hN2, hN3, hN4, hN5, hF, hP, hT, hI, hRW⟩ := id hp
  refine B rfl ?_
  refine Exists.intro (x1, x2, x3) (And.intro rfl (And.intro hp ?_))
  rintro _ _ ⟨rfl, rfl⟩
  refine And.intro (fun h4 => (by exfalso; omega)) (fun h4 => ?_)
  refine Exists.intro _ (And.intro rfl ?_)
  exact And.intro rfl rfl
def as_F_X10_waits : Int × Int × Int → List Sv_t := fun a => [(10, 0), (0, a.1), (0, a.2.1), (0, a.2.2)]
def pre_F_X10_waits : Int × Int × Int → Me_t → Prop := fun a σ => FX_ σ
def post_F_X10_waits : Int × Int × Int → Me_t → Int → Me_t → Prop := fun a σ z σ' => z = (-2) ∧ σ = σ'
set_option maxHeartbeats 4000000 in
set_option maxRecDepth 100000 in
theorem ct_F_X10_waits (l : Launch) : CT_ l yX10_waits cX10_waits 4 (some .int) 6 143 as_F_X10_waits (rmI_) pre_F_X10_waits post_F_X10_waits := by
  refine ct_of (by decide) (fun _ => Nat.le_refl _) ?_
  intro X G Q ad σ a hl hR E hG R hM hv hp
  obtain ⟨x1, x2, x3⟩ := a
  have r_x1 : -2147483648 ≤ x1 ∧ x1 ≤ 2147483647 := hv (0, x1) (List.mem_of_getElem? (i := 1) rfl)
  have r_x2 : -2147483648 ≤ x2 ∧ x2 ≤ 2147483647 := hv (0, x2) (List.mem_of_getElem? (i := 2) rfl)
  have r_x3 : -2147483648 ≤ x3 ∧ x3 ≤ 2147483647 := hv (0, x3) (List.mem_of_getElem? (i := 3) rfl)
  have B := @bk_ X G Q 0 0 ad SHS_ RX10 cX10_waits 4 (some .int) flX10 plX10 knX10 [(386, 4, TR_ as_F_X10_isSetInSpan (rmI_) pre_F_X10_isSetInSpan post_F_X10_isSetInSpan)] _ _ none kX10_waits [] flX10_ok plX10_ok knX10_ok eX10_waits oX10_waits
    (List.forall_mem_cons.mpr ⟨cok_v (t := 0) (c := 10) (N := 14) (n := 3) (idx := 193) E (ct_F_X10_isSetInSpan X.2.1) (by rw [hR]; decide) (Nat.zero_le _) (Nat.zero_le _) hG rfl rfl ⟨rfl, by decide, by decide, by decide⟩ (fun _ => ⟨_, _, rfl, rfl⟩) wl_X10_193 wi_X10_isSetInSpan ws_X10_isSetInSpan wn_X10 wc_X10_isSetInSpan, fun _ h => absurd h List.not_mem_nil⟩) R sok_no E
  show WP_ X G Q 0 0 ad SHS_ σ 0 [(10, 0), (0, x1), (0, x2), (0, x3)] []
  have hp : FX_ σ := hp
  obtain ⟨hC, hS, hN0, hN1, hN2, hN3, hN4, hN5, hF, hP, hT, hI, hRW⟩ := id hp
  refine B rfl ?_
  refine Exists.intro (x1, x2, x3) (And.intro rfl (And.intro hp ?_))
  rintro _ _ ⟨rfl, rfl⟩
  refine And.intro (fun h4 => (by exfalso; omega)) (fun h4 => ?_)
  refine Exists.intro _ (And.intro rfl ?_)
  exact And.intro rfl rfl
def as_F_X10_waiting : Int × Int × Int → List Sv_t := fun a => [(10, 0), (0, a.1), (0, a.2.1), (0, a.2.2)]
def pre_F_X10_waiting : Int × Int × Int → Me_t → Prop := fun a σ => FX_ σ
def post_F_X10_waiting : Int × Int × Int → Me_t → Int → Me_t → Prop := fun a σ z σ' => z = (-2) ∧ σ = σ'
set_option maxHeartbeats 4000000 in
set_option maxRecDepth 100000 in
theorem ct_F_X10_waiting (l : Launch) : CT_ l yX10_waiting cX10_waiting 4 (some .int) 6 143 as_F_X10_waiting (rmI_) pre_F_X10_waiting post_F_X10_waiting := by
  refine ct_of (by decide) (fun _ => Nat.le_refl _) ?_
  intro X G Q ad σ a hl hR E hG R hM hv hp
  obtain ⟨x1, x2, x3⟩ := a
  have r_x1 : -2147483648 ≤ x1 ∧ x1 ≤ 2147483647 := hv (0, x1) (List.mem_of_getElem? (i := 1) rfl)
  have r_x2 : -2147483648 ≤ x2 ∧ x2 ≤ 2147483647 := hv (0, x2) (List.mem_of_getElem? (i := 2) rfl)
  have r_x3 : -2147483648 ≤ x3 ∧ x3 ≤ 2147483647 := hv (0, x3) (List.mem_of_getElem? (i := 3) rfl)
  have B := @bk_ X G Q 0 0 ad SHS_ RX10 cX10_waiting 4 (some .int) flX10 plX10 knX10 [(386, 4, TR_ as_F_X10_isSetInSpan (rmI_) pre_F_X10_isSetInSpan post_F_X10_isSetInSpan)] _ _ none kX10_waiting [] flX10_ok plX10_ok knX10_ok eX10_waiting oX10_waiting
    (List.forall_mem_cons.mpr ⟨cok_v (t := 0) (c := 10) (N := 14) (n := 3) (idx := 193) E (ct_F_X10_isSetInSpan X.2.1) (by rw [hR]; decide) (Nat.zero_le _) (Nat.zero_le _) hG rfl rfl ⟨rfl, by decide, by decide, by decide⟩ (fun _ => ⟨_, _, rfl, rfl⟩) wl_X10_193 wi_X10_isSetInSpan ws_X10_isSetInSpan wn_X10 wc_X10_isSetInSpan, fun _ h => absurd h List.not_mem_nil⟩) R sok_no E
  show WP_ X G Q 0 0 ad SHS_ σ 0 [(10, 0), (0, x1), (0, x2), (0, x3)] []
  have hp : FX_ σ := hp
  obtain ⟨hC, hS, hN0, hN1, hN2, hN3, hN4, hN5, hF, hP, hT, hI, hRW⟩ := id hp
  refine B rfl ?_
  refine Exists.intro (x1, x2, x3) (And.intro rfl (And.intro hp ?_))
  rintro _ _ ⟨rfl, rfl⟩
  refine And.intro (fun h4 => (by exfalso; omega)) (fun h4 => ?_)
  refine Exists.intro _ (And.intro rfl ?_)
  exact And.intro rfl rfl
def as_F_X10_share : Int × Int × Int × Int → List Sv_t := fun a => [(10, 0), (0, a.1), (0, a.2.1), (0, a.2.2.1), (0, a.2.2.2)]
def pre_F_X10_share : Int × Int × Int × Int → Me_t → Prop := fun a σ => FX_ σ
def post_F_X10_share : Int × Int × Int × Int → Me_t → Int → Me_t → Prop := fun a σ z σ' => z = (-2) ∧ σ = σ'
set_option maxHeartbeats 4000000 in
set_option maxRecDepth 100000 in
theorem ct_F_X10_share (l : Launch) : CT_ l yX10_share cX10_share 8 (some .int) 6 143 as_F_X10_share (rmI_) pre_F_X10_share post_F_X10_share := by
  refine ct_of (by decide) (fun _ => Nat.le_of_ble_eq_true rfl) ?_
  intro X G Q ad σ a hl hR E hG R hM hv hp
  obtain ⟨x1, x2, x3, x4⟩ := a
  have r_x1 : -2147483648 ≤ x1 ∧ x1 ≤ 2147483647 := hv (0, x1) (List.mem_of_getElem? (i := 1) rfl)
  have r_x2 : -2147483648 ≤ x2 ∧ x2 ≤ 2147483647 := hv (0, x2) (List.mem_of_getElem? (i := 2) rfl)
  have r_x3 : -2147483648 ≤ x3 ∧ x3 ≤ 2147483647 := hv (0, x3) (List.mem_of_getElem? (i := 3) rfl)
  have r_x4 : -2147483648 ≤ x4 ∧ x4 ≤ 2147483647 := hv (0, x4) (List.mem_of_getElem? (i := 4) rfl)
  have B := @bk_ X G Q 0 0 ad SHS_ RX10 cX10_share 8 (some .int) flX10 plX10 knX10 [(386, 4, TR_ as_F_X10_isSetInSpan (rmI_) pre_F_X10_isSetInSpan post_F_X10_isSetInSpan)] _ _ none kX10_share [] flX10_ok plX10_ok knX10_ok eX10_share oX10_share
    (List.forall_mem_cons.mpr ⟨cok_v (t := 0) (c := 10) (N := 14) (n := 3) (idx := 193) E (ct_F_X10_isSetInSpan X.2.1) (by rw [hR]; decide) (Nat.zero_le _) (Nat.zero_le _) hG rfl rfl ⟨rfl, by decide, by decide, by decide⟩ (fun _ => ⟨_, _, rfl, rfl⟩) wl_X10_193 wi_X10_isSetInSpan ws_X10_isSetInSpan wn_X10 wc_X10_isSetInSpan, fun _ h => absurd h List.not_mem_nil⟩) R sok_no E
  show WP_ X G Q 0 0 ad SHS_ σ 0 [(10, 0), (0, x1), (0, x2), (0, x3), (0, x4), (9, 0), (9, 0), (9, 0)] []
  have hp : FX_ σ := hp
  obtain ⟨hC, hS, hN0, hN1, hN2, hN3, hN4, hN5, hF, hP, hT, hI, hRW⟩ := id hp
  refine B rfl ?_
  refine Exists.intro (x1, x2, x3) (And.intro rfl (And.intro hp ?_))
  rintro _ _ ⟨rfl, rfl⟩
  refine And.intro (fun h4 => ?_) (fun h4 => (by exfalso; omega))
  refine B rfl ?_
  refine Exists.intro _ (And.intro rfl ?_)
  exact And.intro rfl rfl
def as_F_X10_meets : Int × Int × Int × Int × Int → List Sv_t := fun a => [(10, 0), (0, a.1), (0, a.2.1), (0, a.2.2.1), (0, a.2.2.2.1), (0, a.2.2.2.2)]
def pre_F_X10_meets : Int × Int × Int × Int × Int → Me_t → Prop := fun a σ => FX_ σ
def post_F_X10_meets : Int × Int × Int × Int × Int → Me_t → Int → Me_t → Prop := fun a σ z σ' => z = (-2) ∧ σ = σ'
set_option maxHeartbeats 4000000 in
set_option maxRecDepth 100000 in
theorem ct_F_X10_meets (l : Launch) : CT_ l yX10_meets cX10_meets 8 (some .int) 6 143 as_F_X10_meets (rmI_) pre_F_X10_meets post_F_X10_meets := by
  refine ct_of (by decide) (fun _ => Nat.le_of_ble_eq_true rfl) ?_
  intro X G Q ad σ a hl hR E hG R hM hv hp
  obtain ⟨x1, x2, x3, x4, x5⟩ := a
  have r_x1 : -2147483648 ≤ x1 ∧ x1 ≤ 2147483647 := hv (0, x1) (List.mem_of_getElem? (i := 1) rfl)
  have r_x2 : -2147483648 ≤ x2 ∧ x2 ≤ 2147483647 := hv (0, x2) (List.mem_of_getElem? (i := 2) rfl)
  have r_x3 : -2147483648 ≤ x3 ∧ x3 ≤ 2147483647 := hv (0, x3) (List.mem_of_getElem? (i := 3) rfl)
  have r_x4 : -2147483648 ≤ x4 ∧ x4 ≤ 2147483647 := hv (0, x4) (List.mem_of_getElem? (i := 4) rfl)
  have r_x5 : -2147483648 ≤ x5 ∧ x5 ≤ 2147483647 := hv (0, x5) (List.mem_of_getElem? (i := 5) rfl)
  have B := @bk_ X G Q 0 0 ad SHS_ RX10 cX10_meets 8 (some .int) flX10 plX10 knX10 [(432, 4, TR_ as_F_X10_isPairAndDay (rmI_) pre_F_X10_isPairAndDay post_F_X10_isPairAndDay)] _ _ none kX10_meets [] flX10_ok plX10_ok knX10_ok eX10_meets oX10_meets
    (List.forall_mem_cons.mpr ⟨cok_v (t := 0) (c := 10) (N := 14) (n := 3) (idx := 216) E (ct_F_X10_isPairAndDay X.2.1) (by rw [hR]; decide) (Nat.zero_le _) (Nat.zero_le _) hG rfl rfl ⟨rfl, by decide, by decide, by decide⟩ (fun _ => ⟨_, _, rfl, rfl⟩) wl_X10_216 wi_X10_isPairAndDay ws_X10_isPairAndDay wn_X10 wc_X10_isPairAndDay, fun _ h => absurd h List.not_mem_nil⟩) R sok_no E
  show WP_ X G Q 0 0 ad SHS_ σ 0 [(10, 0), (0, x1), (0, x2), (0, x3), (0, x4), (0, x5), (9, 0), (9, 0)] []
  have hp : FX_ σ := hp
  obtain ⟨hC, hS, hN0, hN1, hN2, hN3, hN4, hN5, hF, hP, hT, hI, hRW⟩ := id hp
  refine B rfl ?_
  refine Exists.intro (x1, x3, x5) (And.intro rfl (And.intro hp ?_))
  rintro _ _ ⟨rfl, rfl⟩
  refine And.intro (fun h4 => (by exfalso; omega)) (fun h4 => ?_)
  refine Exists.intro _ (And.intro rfl ?_)
  exact And.intro rfl rfl
def as_F_X10_period : Int → List Sv_t := fun a => [(10, 0), (0, a)]
def pre_F_X10_period : Int → Me_t → Prop := fun a σ => FX_ σ
def post_F_X10_period : Int → Me_t → Int → Me_t → Prop := fun a σ z σ' => z = (-2) ∧ σ = σ'
set_option maxHeartbeats 4000000 in
set_option maxRecDepth 100000 in
theorem ct_F_X10_period (l : Launch) : CT_ l yX10_period cX10_period 4 (some .int) 1 25 as_F_X10_period (rmI_) pre_F_X10_period post_F_X10_period := by
  refine ct_of (by decide) (fun _ => Nat.le_of_ble_eq_true rfl) ?_
  intro X G Q ad σ a hl hR E hG R hM hv hp
  obtain ⟨x1, rfl⟩ : ∃ q : Int, q = a := ⟨_, rfl⟩
  have r_x1 : -2147483648 ≤ x1 ∧ x1 ≤ 2147483647 := hv (0, x1) (List.mem_of_getElem? (i := 1) rfl)
  have B := @bk_ X G Q 0 0 ad SHS_ RX10 cX10_period 4 (some .int) flX10 plX10 knX10 [(226, 2, TR_ as_F_X9_hasLand (rmI_) pre_F_X9_hasLand post_F_X9_hasLand)] _ _ none kX10_period [] flX10_ok plX10_ok knX10_ok eX10_period oX10_period
    (List.forall_mem_cons.mpr ⟨cok_v (t := 5) (c := 9) (N := 10) (n := 1) (idx := 113) E (ct_F_X9_hasLand X.2.1) (by rw [hR]; decide) (Nat.zero_le _) (Nat.zero_le _) hG rfl rfl ⟨rfl, by decide, by decide, by decide⟩ (fun _ => ⟨_, _, rfl, rfl⟩) wl_X10_113 wi_X9_hasLand ws_X9_hasLand wn_X9 wc_X9_hasLand, fun _ h => absurd h List.not_mem_nil⟩) R sok_no E
  show WP_ X G Q 0 0 ad SHS_ σ 0 [(10, 0), (0, x1), (9, 0), (9, 0)] []
  have hp : FX_ σ := hp
  obtain ⟨hC, hS, hN0, hN1, hN2, hN3, hN4, hN5, hF, hP, hT, hI, hRW⟩ := id hp
  refine B rfl ?_
  refine Exists.intro (σ 0 2, x1) (And.intro rfl (And.intro hN2 ?_))
  rintro _ _ ⟨rfl, rfl⟩
  refine And.intro (fun h4 => (by exfalso; omega)) (fun h4 => ?_)
  refine Exists.intro _ (And.intro rfl ?_)
  exact And.intro rfl rfl
def as_F_X10_alike : Int × Int × Int → List Sv_t := fun a => [(10, 0), (0, a.1), (0, a.2.1), (0, a.2.2)]
def pre_F_X10_alike : Int × Int × Int → Me_t → Prop := fun a σ => FX_ σ
def post_F_X10_alike : Int × Int × Int → Me_t → Int → Me_t → Prop := fun a σ z σ' => z = (-2) ∧ σ = σ'
set_option maxHeartbeats 4000000 in
set_option maxRecDepth 100000 in
theorem ct_F_X10_alike (l : Launch) : CT_ l yX10_alike cX10_alike 7 (some .int) 6 143 as_F_X10_alike (rmI_) pre_F_X10_alike post_F_X10_alike := by
  refine ct_of (by decide) (fun _ => Nat.le_of_ble_eq_true rfl) ?_
  intro X G Q ad σ a hl hR E hG R hM hv hp
  obtain ⟨x1, x2, x3⟩ := a
  have r_x1 : -2147483648 ≤ x1 ∧ x1 ≤ 2147483647 := hv (0, x1) (List.mem_of_getElem? (i := 1) rfl)
  have r_x2 : -2147483648 ≤ x2 ∧ x2 ≤ 2147483647 := hv (0, x2) (List.mem_of_getElem? (i := 2) rfl)
  have r_x3 : -2147483648 ≤ x3 ∧ x3 ≤ 2147483647 := hv (0, x3) (List.mem_of_getElem? (i := 3) rfl)
  have B := @bk_ X G Q 0 0 ad SHS_ RX10 cX10_alike 7 (some .int) flX10 plX10 knX10 [(432, 4, TR_ as_F_X10_isPairAndDay (rmI_) pre_F_X10_isPairAndDay post_F_X10_isPairAndDay)] _ _ none kX10_alike [] flX10_ok plX10_ok knX10_ok eX10_alike oX10_alike
    (List.forall_mem_cons.mpr ⟨cok_v (t := 0) (c := 10) (N := 14) (n := 3) (idx := 216) E (ct_F_X10_isPairAndDay X.2.1) (by rw [hR]; decide) (Nat.zero_le _) (Nat.zero_le _) hG rfl rfl ⟨rfl, by decide, by decide, by decide⟩ (fun _ => ⟨_, _, rfl, rfl⟩) wl_X10_216 wi_X10_isPairAndDay ws_X10_isPairAndDay wn_X10 wc_X10_isPairAndDay, fun _ h => absurd h List.not_mem_nil⟩) R sok_no E
  show WP_ X G Q 0 0 ad SHS_ σ 0 [(10, 0), (0, x1), (0, x2), (0, x3), (9, 0), (9, 0), (9, 0)] []
  have hp : FX_ σ := hp
  obtain ⟨hC, hS, hN0, hN1, hN2, hN3, hN4, hN5, hF, hP, hT, hI, hRW⟩ := id hp
  refine B rfl ?_
  refine Exists.intro (x1, x2, x3) (And.intro rfl (And.intro hp ?_))
  rintro _ _ ⟨rfl, rfl⟩
  refine And.intro (fun h4 => (by exfalso; omega)) (fun h4 => ?_)
  refine Exists.intro _ (And.intro rfl ?_)
  exact And.intro rfl rfl
def as_F_X10_years : Int → List Sv_t := fun a => [(10, 0), (0, a)]
def pre_F_X10_years : Int → Me_t → Prop := fun a σ => FX_ σ
def post_F_X10_years : Int → Me_t → Int → Me_t → Prop := fun a σ z σ' => z = (-2) ∧ σ = σ'
set_option maxHeartbeats 4000000 in
set_option maxRecDepth 100000 in
theorem ct_F_X10_years (l : Launch) : CT_ l yX10_years cX10_years 5 (some .int) 6 143 as_F_X10_years (rmI_) pre_F_X10_years post_F_X10_years := by
  refine ct_of (by decide) (fun _ => Nat.le_of_ble_eq_true rfl) ?_
  intro X G Q ad σ a hl hR E hG R hM hv hp
  obtain ⟨x1, rfl⟩ : ∃ q : Int, q = a := ⟨_, rfl⟩
  have r_x1 : -2147483648 ≤ x1 ∧ x1 ≤ 2147483647 := hv (0, x1) (List.mem_of_getElem? (i := 1) rfl)
  have B := @bk_ X G Q 0 0 ad SHS_ RX10 cX10_years 5 (some .int) flX10 plX10 knX10 [(372, 2, TR_ as_F_X10_isDayOfWar (rmI_) pre_F_X10_isDayOfWar post_F_X10_isDayOfWar)] _ _ none kX10_years [] flX10_ok plX10_ok knX10_ok eX10_years oX10_years
    (List.forall_mem_cons.mpr ⟨cok_v (t := 0) (c := 10) (N := 14) (n := 1) (idx := 186) E (ct_F_X10_isDayOfWar X.2.1) (by rw [hR]; decide) (Nat.zero_le _) (Nat.zero_le _) hG rfl rfl ⟨rfl, by decide, by decide, by decide⟩ (fun _ => ⟨_, _, rfl, rfl⟩) wl_X10_186 wi_X10_isDayOfWar ws_X10_isDayOfWar wn_X10 wc_X10_isDayOfWar, fun _ h => absurd h List.not_mem_nil⟩) R sok_no E
  show WP_ X G Q 0 0 ad SHS_ σ 0 [(10, 0), (0, x1), (9, 0), (9, 0), (9, 0)] []
  have hp : FX_ σ := hp
  obtain ⟨hC, hS, hN0, hN1, hN2, hN3, hN4, hN5, hF, hP, hT, hI, hRW⟩ := id hp
  refine B rfl ?_
  refine Exists.intro x1 (And.intro rfl (And.intro hp ?_))
  rintro _ _ ⟨rfl, rfl⟩
  refine And.intro (fun h4 => (by exfalso; omega)) (fun h4 => ?_)
  refine Exists.intro _ (And.intro rfl ?_)
  exact And.intro rfl rfl
def as_F_X10_comes : Int × Int → List Sv_t := fun a => [(10, 0), (0, a.1), (0, a.2)]
def pre_F_X10_comes : Int × Int → Me_t → Prop := fun a σ => FX_ σ
def post_F_X10_comes : Int × Int → Me_t → Int → Me_t → Prop := fun a σ z σ' => z = (-2) ∧ σ = σ'
set_option maxHeartbeats 4000000 in
set_option maxRecDepth 100000 in
theorem ct_F_X10_comes (l : Launch) : CT_ l yX10_comes cX10_comes 7 (some .int) 6 143 as_F_X10_comes (rmI_) pre_F_X10_comes post_F_X10_comes := by
  refine ct_of (by decide) (fun _ => Nat.le_of_ble_eq_true rfl) ?_
  intro X G Q ad σ a hl hR E hG R hM hv hp
  obtain ⟨x1, x2⟩ := a
  have r_x1 : -2147483648 ≤ x1 ∧ x1 ≤ 2147483647 := hv (0, x1) (List.mem_of_getElem? (i := 1) rfl)
  have r_x2 : -2147483648 ≤ x2 ∧ x2 ≤ 2147483647 := hv (0, x2) (List.mem_of_getElem? (i := 2) rfl)
  have B := @bk_ X G Q 0 0 ad SHS_ RX10 cX10_comes 7 (some .int) flX10 plX10 knX10 [(336, 3, TR_ as_F_X10_isLandAndDay (rmI_) pre_F_X10_isLandAndDay post_F_X10_isLandAndDay)] _ _ none kX10_comes [] flX10_ok plX10_ok knX10_ok eX10_comes oX10_comes
    (List.forall_mem_cons.mpr ⟨cok_v (t := 0) (c := 10) (N := 14) (n := 2) (idx := 168) E (ct_F_X10_isLandAndDay X.2.1) (by rw [hR]; decide) (Nat.zero_le _) (Nat.zero_le _) hG rfl rfl ⟨rfl, by decide, by decide, by decide⟩ (fun _ => ⟨_, _, rfl, rfl⟩) wl_X10_168 wi_X10_isLandAndDay ws_X10_isLandAndDay wn_X10 wc_X10_isLandAndDay, fun _ h => absurd h List.not_mem_nil⟩) R sok_no E
  show WP_ X G Q 0 0 ad SHS_ σ 0 [(10, 0), (0, x1), (0, x2), (9, 0), (9, 0), (9, 0), (9, 0)] []
  have hp : FX_ σ := hp
  obtain ⟨hC, hS, hN0, hN1, hN2, hN3, hN4, hN5, hF, hP, hT, hI, hRW⟩ := id hp
  refine B rfl ?_
  refine Exists.intro (x1, x2) (And.intro rfl (And.intro hp ?_))
  rintro _ _ ⟨rfl, rfl⟩
  refine And.intro (fun h4 => (by exfalso; omega)) (fun h4 => ?_)
  refine Exists.intro _ (And.intro rfl ?_)
  exact And.intro rfl rfl
def as_F_X10_saints : Int × Int × Int × Int × Int → List Sv_t := fun a => [(10, 0), (0, a.1), (0, a.2.1), (0, a.2.2.1), (0, a.2.2.2.1), (0, a.2.2.2.2)]
def pre_F_X10_saints : Int × Int × Int × Int × Int → Me_t → Prop := fun a σ => FX_ σ
def post_F_X10_saints : Int × Int × Int × Int × Int → Me_t → Int → Me_t → Prop := fun a σ z σ' => z = (-2) ∧ σ = σ'
set_option maxHeartbeats 4000000 in
set_option maxRecDepth 100000 in
theorem ct_F_X10_saints (l : Launch) : CT_ l yX10_saints cX10_saints 6 (some .int) 6 143 as_F_X10_saints (rmI_) pre_F_X10_saints post_F_X10_saints := by
  refine ct_of (by decide) (fun _ => Nat.le_refl _) ?_
  intro X G Q ad σ a hl hR E hG R hM hv hp
  obtain ⟨x1, x2, x3, x4, x5⟩ := a
  have r_x1 : -2147483648 ≤ x1 ∧ x1 ≤ 2147483647 := hv (0, x1) (List.mem_of_getElem? (i := 1) rfl)
  have r_x2 : -2147483648 ≤ x2 ∧ x2 ≤ 2147483647 := hv (0, x2) (List.mem_of_getElem? (i := 2) rfl)
  have r_x3 : -2147483648 ≤ x3 ∧ x3 ≤ 2147483647 := hv (0, x3) (List.mem_of_getElem? (i := 3) rfl)
  have r_x4 : -2147483648 ≤ x4 ∧ x4 ≤ 2147483647 := hv (0, x4) (List.mem_of_getElem? (i := 4) rfl)
  have r_x5 : -2147483648 ≤ x5 ∧ x5 ≤ 2147483647 := hv (0, x5) (List.mem_of_getElem? (i := 5) rfl)
  have B := @bk_ X G Q 0 0 ad SHS_ RX10 cX10_saints 6 (some .int) flX10 plX10 knX10 [(464, 6, TR_ as_F_X10_isSaintly (rmI_) pre_F_X10_isSaintly post_F_X10_isSaintly)] _ _ none kX10_saints [] flX10_ok plX10_ok knX10_ok eX10_saints oX10_saints
    (List.forall_mem_cons.mpr ⟨cok_v (t := 0) (c := 10) (N := 14) (n := 5) (idx := 232) E (ct_F_X10_isSaintly X.2.1) (by rw [hR]; decide) (Nat.zero_le _) (Nat.zero_le _) hG rfl rfl ⟨rfl, by decide, by decide, by decide⟩ (fun _ => ⟨_, _, rfl, rfl⟩) wl_X10_232 wi_X10_isSaintly ws_X10_isSaintly wn_X10 wc_X10_isSaintly, fun _ h => absurd h List.not_mem_nil⟩) R sok_no E
  show WP_ X G Q 0 0 ad SHS_ σ 0 [(10, 0), (0, x1), (0, x2), (0, x3), (0, x4), (0, x5)] []
  have hp : FX_ σ := hp
  obtain ⟨hC, hS, hN0, hN1, hN2, hN3, hN4, hN5, hF, hP, hT, hI, hRW⟩ := id hp
  refine B rfl ?_
  refine Exists.intro (x1, x2, x3, x4, x5) (And.intro rfl (And.intro hp ?_))
  rintro _ _ ⟨rfl, rfl⟩
  refine And.intro (fun h4 => (by exfalso; omega)) (fun h4 => ?_)
  refine Exists.intro _ (And.intro rfl ?_)
  exact And.intro rfl rfl
def as_F_X10_founded : Int × Int × Int × Int × Int → List Sv_t := fun a => [(10, 0), (0, a.1), (0, a.2.1), (0, a.2.2.1), (0, a.2.2.2.1), (0, a.2.2.2.2)]
def pre_F_X10_founded : Int × Int × Int × Int × Int → Me_t → Prop := fun a σ => FX_ σ
def post_F_X10_founded : Int × Int × Int × Int × Int → Me_t → Int → Me_t → Prop := fun a σ z σ' => z = (-2) ∧ σ = σ'
set_option maxHeartbeats 4000000 in
set_option maxRecDepth 100000 in
theorem ct_F_X10_founded (l : Launch) : CT_ l yX10_founded cX10_founded 6 (some .long) 6 143 as_F_X10_founded (rmL_) pre_F_X10_founded post_F_X10_founded := by
  refine ct_of (by decide) (fun _ => Nat.le_refl _) ?_
  intro X G Q ad σ a hl hR E hG R hM hv hp
  obtain ⟨x1, x2, x3, x4, x5⟩ := a
  have r_x1 : -2147483648 ≤ x1 ∧ x1 ≤ 2147483647 := hv (0, x1) (List.mem_of_getElem? (i := 1) rfl)
  have r_x2 : -2147483648 ≤ x2 ∧ x2 ≤ 2147483647 := hv (0, x2) (List.mem_of_getElem? (i := 2) rfl)
  have r_x3 : -2147483648 ≤ x3 ∧ x3 ≤ 2147483647 := hv (0, x3) (List.mem_of_getElem? (i := 3) rfl)
  have r_x4 : -2147483648 ≤ x4 ∧ x4 ≤ 2147483647 := hv (0, x4) (List.mem_of_getElem? (i := 4) rfl)
  have r_x5 : -2147483648 ≤ x5 ∧ x5 ≤ 2147483647 := hv (0, x5) (List.mem_of_getElem? (i := 5) rfl)
  have B := @bk_ X G Q 0 0 ad SHS_ RX10 cX10_founded 6 (some .long) flX10 plX10 knX10 [(464, 6, TR_ as_F_X10_isSaintly (rmI_) pre_F_X10_isSaintly post_F_X10_isSaintly)] _ _ none kX10_founded [] flX10_ok plX10_ok knX10_ok eX10_founded oX10_founded
    (List.forall_mem_cons.mpr ⟨cok_v (t := 0) (c := 10) (N := 14) (n := 5) (idx := 232) E (ct_F_X10_isSaintly X.2.1) (by rw [hR]; decide) (Nat.zero_le _) (Nat.zero_le _) hG rfl rfl ⟨rfl, by decide, by decide, by decide⟩ (fun _ => ⟨_, _, rfl, rfl⟩) wl_X10_232 wi_X10_isSaintly ws_X10_isSaintly wn_X10 wc_X10_isSaintly, fun _ h => absurd h List.not_mem_nil⟩) R sok_no E
  show WP_ X G Q 0 0 ad SHS_ σ 0 [(10, 0), (0, x1), (0, x2), (0, x3), (0, x4), (0, x5)] []
  have hp : FX_ σ := hp
  obtain ⟨hC, hS, hN0, hN1, hN2, hN3, hN4, hN5, hF, hP, hT, hI, hRW⟩ := id hp
  refine B rfl ?_
  refine Exists.intro (x1, x2, x3, x4, x5) (And.intro rfl (And.intro hp ?_))
  rintro _ _ ⟨rfl, rfl⟩
  refine And.intro (fun h4 => (by exfalso; omega)) (fun h4 => ?_)
  refine Exists.intro _ (And.intro rfl ?_)
  exact And.intro rfl rfl
def as_F_X10_bridge : Int × Int × Int × Int → List Sv_t := fun a => [(10, 0), (0, a.1), (0, a.2.1), (0, a.2.2.1), (0, a.2.2.2)]
def pre_F_X10_bridge : Int × Int × Int × Int → Me_t → Prop := fun a σ => FX_ σ
def post_F_X10_bridge : Int × Int × Int × Int → Me_t → Int → Me_t → Prop := fun a σ z σ' => z = (-2) ∧ σ = σ'
set_option maxHeartbeats 4000000 in
set_option maxRecDepth 100000 in
theorem ct_F_X10_bridge (l : Launch) : CT_ l yX10_bridge cX10_bridge 5 (some .int) 6 143 as_F_X10_bridge (rmI_) pre_F_X10_bridge post_F_X10_bridge := by
  refine ct_of (by decide) (fun _ => Nat.le_refl _) ?_
  intro X G Q ad σ a hl hR E hG R hM hv hp
  obtain ⟨x1, x2, x3, x4⟩ := a
  have r_x1 : -2147483648 ≤ x1 ∧ x1 ≤ 2147483647 := hv (0, x1) (List.mem_of_getElem? (i := 1) rfl)
  have r_x2 : -2147483648 ≤ x2 ∧ x2 ≤ 2147483647 := hv (0, x2) (List.mem_of_getElem? (i := 2) rfl)
  have r_x3 : -2147483648 ≤ x3 ∧ x3 ≤ 2147483647 := hv (0, x3) (List.mem_of_getElem? (i := 3) rfl)
  have r_x4 : -2147483648 ≤ x4 ∧ x4 ≤ 2147483647 := hv (0, x4) (List.mem_of_getElem? (i := 4) rfl)
  have B := @bk_ X G Q 0 0 ad SHS_ RX10 cX10_bridge 5 (some .int) flX10 plX10 knX10 [(226, 2, TR_ as_F_X9_hasLand (rmI_) pre_F_X9_hasLand post_F_X9_hasLand)] _ _ none kX10_bridge [] flX10_ok plX10_ok knX10_ok eX10_bridge oX10_bridge
    (List.forall_mem_cons.mpr ⟨cok_v (t := 5) (c := 9) (N := 10) (n := 1) (idx := 113) E (ct_F_X9_hasLand X.2.1) (by rw [hR]; decide) (Nat.zero_le _) (Nat.zero_le _) hG rfl rfl ⟨rfl, by decide, by decide, by decide⟩ (fun _ => ⟨_, _, rfl, rfl⟩) wl_X10_113 wi_X9_hasLand ws_X9_hasLand wn_X9 wc_X9_hasLand, fun _ h => absurd h List.not_mem_nil⟩) R sok_no E
  show WP_ X G Q 0 0 ad SHS_ σ 0 [(10, 0), (0, x1), (0, x2), (0, x3), (0, x4)] []
  have hp : FX_ σ := hp
  obtain ⟨hC, hS, hN0, hN1, hN2, hN3, hN4, hN5, hF, hP, hT, hI, hRW⟩ := id hp
  refine B rfl ?_
  refine Exists.intro (σ 0 2, x1) (And.intro rfl (And.intro hN2 ?_))
  rintro _ _ ⟨rfl, rfl⟩
  refine And.intro (fun h4 => ?_) (fun h4 => (by exfalso; omega))
  refine B rfl ?_
  refine Exists.intro _ (And.intro rfl ?_)
  exact And.intro rfl rfl
def as_F_X10_bridged : Int × Int × Int × Int → List Sv_t := fun a => [(10, 0), (0, a.1), (0, a.2.1), (0, a.2.2.1), (0, a.2.2.2)]
def pre_F_X10_bridged : Int × Int × Int × Int → Me_t → Prop := fun a σ => FX_ σ
def post_F_X10_bridged : Int × Int × Int × Int → Me_t → Int → Me_t → Prop := fun a σ z σ' => z = (-2) ∧ σ = σ'
set_option maxHeartbeats 4000000 in
set_option maxRecDepth 100000 in
theorem ct_F_X10_bridged (l : Launch) : CT_ l yX10_bridged cX10_bridged 5 (some .int) 6 143 as_F_X10_bridged (rmI_) pre_F_X10_bridged post_F_X10_bridged := by
  refine ct_of (by decide) (fun _ => Nat.le_refl _) ?_
  intro X G Q ad σ a hl hR E hG R hM hv hp
  obtain ⟨x1, x2, x3, x4⟩ := a
  have r_x1 : -2147483648 ≤ x1 ∧ x1 ≤ 2147483647 := hv (0, x1) (List.mem_of_getElem? (i := 1) rfl)
  have r_x2 : -2147483648 ≤ x2 ∧ x2 ≤ 2147483647 := hv (0, x2) (List.mem_of_getElem? (i := 2) rfl)
  have r_x3 : -2147483648 ≤ x3 ∧ x3 ≤ 2147483647 := hv (0, x3) (List.mem_of_getElem? (i := 3) rfl)
  have r_x4 : -2147483648 ≤ x4 ∧ x4 ≤ 2147483647 := hv (0, x4) (List.mem_of_getElem? (i := 4) rfl)
  have B := @bk_ X G Q 0 0 ad SHS_ RX10 cX10_bridged 5 (some .int) flX10 plX10 knX10 [(226, 2, TR_ as_F_X9_hasLand (rmI_) pre_F_X9_hasLand post_F_X9_hasLand)] _ _ none kX10_bridged [] flX10_ok plX10_ok knX10_ok eX10_bridged oX10_bridged
    (List.forall_mem_cons.mpr ⟨cok_v (t := 5) (c := 9) (N := 10) (n := 1) (idx := 113) E (ct_F_X9_hasLand X.2.1) (by rw [hR]; decide) (Nat.zero_le _) (Nat.zero_le _) hG rfl rfl ⟨rfl, by decide, by decide, by decide⟩ (fun _ => ⟨_, _, rfl, rfl⟩) wl_X10_113 wi_X9_hasLand ws_X9_hasLand wn_X9 wc_X9_hasLand, fun _ h => absurd h List.not_mem_nil⟩) R sok_no E
  show WP_ X G Q 0 0 ad SHS_ σ 0 [(10, 0), (0, x1), (0, x2), (0, x3), (0, x4)] []
  have hp : FX_ σ := hp
  obtain ⟨hC, hS, hN0, hN1, hN2, hN3, hN4, hN5, hF, hP, hT, hI, hRW⟩ := id hp
  refine B rfl ?_
  refine Exists.intro (σ 0 2, x1) (And.intro rfl (And.intro hN2 ?_))
  rintro _ _ ⟨rfl, rfl⟩
  refine And.intro (fun h4 => ?_) (fun h4 => (by exfalso; omega))
  refine B rfl ?_
  refine Exists.intro _ (And.intro rfl ?_)
  exact And.intro rfl rfl
def as_F_X10_oldest : Int → List Sv_t := fun a => [(10, 0), (0, a)]
def pre_F_X10_oldest : Int → Me_t → Prop := fun a σ => FX_ σ
def post_F_X10_oldest : Int → Me_t → Int → Me_t → Prop := fun a σ z σ' => z = (-2) ∧ σ = σ'
set_option maxHeartbeats 4000000 in
set_option maxRecDepth 100000 in
theorem ct_F_X10_oldest (l : Launch) : CT_ l yX10_oldest cX10_oldest 3 (some .int) 5 117 as_F_X10_oldest (rmI_) pre_F_X10_oldest post_F_X10_oldest := by
  refine ct_of (by decide) (fun _ => Nat.le_of_ble_eq_true rfl) ?_
  intro X G Q ad σ a hl hR E hG R hM hv hp
  obtain ⟨x1, rfl⟩ : ∃ q : Int, q = a := ⟨_, rfl⟩
  have r_x1 : -2147483648 ≤ x1 ∧ x1 ≤ 2147483647 := hv (0, x1) (List.mem_of_getElem? (i := 1) rfl)
  have B := @bk_ X G Q 0 0 ad SHS_ RX10 cX10_oldest 3 (some .int) flX10 plX10 knX10 [(504, 2, TR_ as_F_X10_readOrders (rmI_) pre_F_X10_readOrders post_F_X10_readOrders)] _ _ none kX10_oldest [] flX10_ok plX10_ok knX10_ok eX10_oldest oX10_oldest
    (List.forall_mem_cons.mpr ⟨cok_v (t := 0) (c := 10) (N := 14) (n := 1) (idx := 252) E (ct_F_X10_readOrders X.2.1) (by rw [hR]; decide) (Nat.zero_le _) (Nat.zero_le _) hG rfl rfl ⟨rfl, by decide, by decide, by decide⟩ (fun _ => ⟨_, _, rfl, rfl⟩) wl_X10_252 wi_X10_readOrders ws_X10_readOrders wn_X10 wc_X10_readOrders, fun _ h => absurd h List.not_mem_nil⟩) R sok_no E
  show WP_ X G Q 0 0 ad SHS_ σ 0 [(10, 0), (0, x1), (9, 0)] []
  have hp : FX_ σ := hp
  obtain ⟨hC, hS, hN0, hN1, hN2, hN3, hN4, hN5, hF, hP, hT, hI, hRW⟩ := id hp
  refine B rfl ?_
  refine Exists.intro x1 (And.intro rfl (And.intro hp ?_))
  rintro _ _ ⟨rfl, rfl⟩
  refine And.intro (fun h4 => (by exfalso; omega)) (fun h4 => ?_)
  refine B rfl ?_
  refine Exists.intro _ (And.intro rfl ?_)
  exact And.intro rfl rfl
def as_F_X10_older : Int × Int → List Sv_t := fun a => [(10, 0), (0, a.1), (0, a.2)]
def pre_F_X10_older : Int × Int → Me_t → Prop := fun a σ => FX_ σ
def post_F_X10_older : Int × Int → Me_t → Int → Me_t → Prop := fun a σ z σ' => z = (-2) ∧ σ = σ'
set_option maxHeartbeats 4000000 in
set_option maxRecDepth 100000 in
theorem ct_F_X10_older (l : Launch) : CT_ l yX10_older cX10_older 4 (some .int) 5 117 as_F_X10_older (rmI_) pre_F_X10_older post_F_X10_older := by
  refine ct_of (by decide) (fun _ => Nat.le_of_ble_eq_true rfl) ?_
  intro X G Q ad σ a hl hR E hG R hM hv hp
  obtain ⟨x1, x2⟩ := a
  have r_x1 : -2147483648 ≤ x1 ∧ x1 ≤ 2147483647 := hv (0, x1) (List.mem_of_getElem? (i := 1) rfl)
  have r_x2 : -2147483648 ≤ x2 ∧ x2 ≤ 2147483647 := hv (0, x2) (List.mem_of_getElem? (i := 2) rfl)
  have B := @bk_ X G Q 0 0 ad SHS_ RX10 cX10_older 4 (some .int) flX10 plX10 knX10 [(504, 2, TR_ as_F_X10_readOrders (rmI_) pre_F_X10_readOrders post_F_X10_readOrders)] _ _ none kX10_older [] flX10_ok plX10_ok knX10_ok eX10_older oX10_older
    (List.forall_mem_cons.mpr ⟨cok_v (t := 0) (c := 10) (N := 14) (n := 1) (idx := 252) E (ct_F_X10_readOrders X.2.1) (by rw [hR]; decide) (Nat.zero_le _) (Nat.zero_le _) hG rfl rfl ⟨rfl, by decide, by decide, by decide⟩ (fun _ => ⟨_, _, rfl, rfl⟩) wl_X10_252 wi_X10_readOrders ws_X10_readOrders wn_X10 wc_X10_readOrders, fun _ h => absurd h List.not_mem_nil⟩) R sok_no E
  show WP_ X G Q 0 0 ad SHS_ σ 0 [(10, 0), (0, x1), (0, x2), (9, 0)] []
  have hp : FX_ σ := hp
  obtain ⟨hC, hS, hN0, hN1, hN2, hN3, hN4, hN5, hF, hP, hT, hI, hRW⟩ := id hp
  refine B rfl ?_
  refine Exists.intro x1 (And.intro rfl (And.intro hp ?_))
  rintro _ _ ⟨rfl, rfl⟩
  refine And.intro (fun h4 => (by exfalso; omega)) (fun h4 => ?_)
  refine Exists.intro _ (And.intro rfl ?_)
  exact And.intro rfl rfl
def as_F_X10_apart : Int → List Sv_t := fun a => [(10, 0), (0, a)]
def pre_F_X10_apart : Int → Me_t → Prop := fun a σ => FX_ σ
def post_F_X10_apart : Int → Me_t → Int → Me_t → Prop := fun a σ z σ' => z = (-2) ∧ σ = σ'
set_option maxHeartbeats 4000000 in
set_option maxRecDepth 100000 in
theorem ct_F_X10_apart (l : Launch) : CT_ l yX10_apart cX10_apart 3 (some .int) 5 117 as_F_X10_apart (rmI_) pre_F_X10_apart post_F_X10_apart := by
  refine ct_of (by decide) (fun _ => Nat.le_of_ble_eq_true rfl) ?_
  intro X G Q ad σ a hl hR E hG R hM hv hp
  obtain ⟨x1, rfl⟩ : ∃ q : Int, q = a := ⟨_, rfl⟩
  have r_x1 : -2147483648 ≤ x1 ∧ x1 ≤ 2147483647 := hv (0, x1) (List.mem_of_getElem? (i := 1) rfl)
  have B := @bk_ X G Q 0 0 ad SHS_ RX10 cX10_apart 3 (some .int) flX10 plX10 knX10 [(504, 2, TR_ as_F_X10_readOrders (rmI_) pre_F_X10_readOrders post_F_X10_readOrders)] _ _ none kX10_apart [] flX10_ok plX10_ok knX10_ok eX10_apart oX10_apart
    (List.forall_mem_cons.mpr ⟨cok_v (t := 0) (c := 10) (N := 14) (n := 1) (idx := 252) E (ct_F_X10_readOrders X.2.1) (by rw [hR]; decide) (Nat.zero_le _) (Nat.zero_le _) hG rfl rfl ⟨rfl, by decide, by decide, by decide⟩ (fun _ => ⟨_, _, rfl, rfl⟩) wl_X10_252 wi_X10_readOrders ws_X10_readOrders wn_X10 wc_X10_readOrders, fun _ h => absurd h List.not_mem_nil⟩) R sok_no E
  show WP_ X G Q 0 0 ad SHS_ σ 0 [(10, 0), (0, x1), (9, 0)] []
  have hp : FX_ σ := hp
  obtain ⟨hC, hS, hN0, hN1, hN2, hN3, hN4, hN5, hF, hP, hT, hI, hRW⟩ := id hp
  refine B rfl ?_
  refine Exists.intro x1 (And.intro rfl (And.intro hp ?_))
  rintro _ _ ⟨rfl, rfl⟩
  refine And.intro (fun h4 => (by exfalso; omega)) (fun h4 => ?_)
  refine B rfl ?_
  refine Exists.intro _ (And.intro rfl ?_)
  exact And.intro rfl rfl
def as_F_X10_idle : Int → List Sv_t := fun a => [(10, 0), (0, a)]
def pre_F_X10_idle : Int → Me_t → Prop := fun a σ => FX_ σ
def post_F_X10_idle : Int → Me_t → Int → Me_t → Prop := fun a σ z σ' => z = (-2) ∧ σ = σ'
set_option maxHeartbeats 4000000 in
set_option maxRecDepth 100000 in
theorem ct_F_X10_idle (l : Launch) : CT_ l yX10_idle cX10_idle 3 (some .int) 6 143 as_F_X10_idle (rmI_) pre_F_X10_idle post_F_X10_idle := by
  refine ct_of (by decide) (fun _ => Nat.le_of_ble_eq_true rfl) ?_
  intro X G Q ad σ a hl hR E hG R hM hv hp
  obtain ⟨x1, rfl⟩ : ∃ q : Int, q = a := ⟨_, rfl⟩
  have r_x1 : -2147483648 ≤ x1 ∧ x1 ≤ 2147483647 := hv (0, x1) (List.mem_of_getElem? (i := 1) rfl)
  have B := @bk_ X G Q 0 0 ad SHS_ RX10 cX10_idle 3 (some .int) flX10 plX10 knX10 [(504, 2, TR_ as_F_X10_readOrders (rmI_) pre_F_X10_readOrders post_F_X10_readOrders)] _ _ none kX10_idle [] flX10_ok plX10_ok knX10_ok eX10_idle oX10_idle
    (List.forall_mem_cons.mpr ⟨cok_v (t := 0) (c := 10) (N := 14) (n := 1) (idx := 252) E (ct_F_X10_readOrders X.2.1) (by rw [hR]; decide) (Nat.zero_le _) (Nat.zero_le _) hG rfl rfl ⟨rfl, by decide, by decide, by decide⟩ (fun _ => ⟨_, _, rfl, rfl⟩) wl_X10_252 wi_X10_readOrders ws_X10_readOrders wn_X10 wc_X10_readOrders, fun _ h => absurd h List.not_mem_nil⟩) R sok_no E
  show WP_ X G Q 0 0 ad SHS_ σ 0 [(10, 0), (0, x1), (9, 0)] []
  have hp : FX_ σ := hp
  obtain ⟨hC, hS, hN0, hN1, hN2, hN3, hN4, hN5, hF, hP, hT, hI, hRW⟩ := id hp
  refine B rfl ?_
  refine Exists.intro x1 (And.intro rfl (And.intro hp ?_))
  rintro _ _ ⟨rfl, rfl⟩
  refine And.intro (fun h4 => (by exfalso; omega)) (fun h4 => ?_)
  refine B rfl ?_
  refine Exists.intro _ (And.intro rfl ?_)
  exact And.intro rfl rfl
def as_F_X10_fits : Int × Int × Int → List Sv_t := fun a => [(10, 0), (0, a.1), (0, a.2.1), (0, a.2.2)]
def pre_F_X10_fits : Int × Int × Int → Me_t → Prop := fun a σ => FX_ σ
def post_F_X10_fits : Int × Int × Int → Me_t → Int → Me_t → Prop := fun a σ z σ' => z = (-2) ∧ σ = σ'
set_option maxHeartbeats 4000000 in
set_option maxRecDepth 100000 in
theorem ct_F_X10_fits (l : Launch) : CT_ l yX10_fits cX10_fits 5 (some .int) 6 147 as_F_X10_fits (rmI_) pre_F_X10_fits post_F_X10_fits := by
  refine ct_of (by decide) (fun _ => Nat.le_of_ble_eq_true rfl) ?_
  intro X G Q ad σ a hl hR E hG R hM hv hp
  obtain ⟨x1, x2, x3⟩ := a
  have r_x1 : -2147483648 ≤ x1 ∧ x1 ≤ 2147483647 := hv (0, x1) (List.mem_of_getElem? (i := 1) rfl)
  have r_x2 : -2147483648 ≤ x2 ∧ x2 ≤ 2147483647 := hv (0, x2) (List.mem_of_getElem? (i := 2) rfl)
  have r_x3 : -2147483648 ≤ x3 ∧ x3 ≤ 2147483647 := hv (0, x3) (List.mem_of_getElem? (i := 3) rfl)
  have B := @bk_ X G Q 0 0 ad SHS_ RX10 cX10_fits 5 (some .int) flX10 plX10 knX10 [(540, 4, TR_ as_F_X10_readSights (rmI_) pre_F_X10_readSights post_F_X10_readSights)] _ _ none kX10_fits [] flX10_ok plX10_ok knX10_ok eX10_fits oX10_fits
    (List.forall_mem_cons.mpr ⟨cok_v (t := 0) (c := 10) (N := 14) (n := 3) (idx := 270) E (ct_F_X10_readSights X.2.1) (by rw [hR]; decide) (Nat.zero_le _) (Nat.zero_le _) hG rfl rfl ⟨rfl, by decide, by decide, by decide⟩ (fun _ => ⟨_, _, rfl, rfl⟩) wl_X10_270 wi_X10_readSights ws_X10_readSights wn_X10 wc_X10_readSights, fun _ h => absurd h List.not_mem_nil⟩) R sok_no E
  show WP_ X G Q 0 0 ad SHS_ σ 0 [(10, 0), (0, x1), (0, x2), (0, x3), (9, 0)] []
  have hp : FX_ σ := hp
  obtain ⟨hC, hS, hN0, hN1, hN2, hN3, hN4, hN5, hF, hP, hT, hI, hRW⟩ := id hp
  refine B rfl ?_
  refine Exists.intro (x1, x2, x3) (And.intro rfl (And.intro hp ?_))
  rintro _ _ ⟨rfl, rfl⟩
  refine And.intro (fun h4 => (by exfalso; omega)) (fun h4 => ?_)
  refine B rfl ?_
  refine Exists.intro _ (And.intro rfl ?_)
  exact And.intro rfl rfl
def as_F_X10_fit : Int × Int × Int × Int → List Sv_t := fun a => [(10, 0), (0, a.1), (0, a.2.1), (0, a.2.2.1), (0, a.2.2.2)]
def pre_F_X10_fit : Int × Int × Int × Int → Me_t → Prop := fun a σ => FX_ σ
def post_F_X10_fit : Int × Int × Int × Int → Me_t → Int → Me_t → Prop := fun a σ z σ' => z = (-2) ∧ σ = σ'
set_option maxHeartbeats 4000000 in
set_option maxRecDepth 100000 in
theorem ct_F_X10_fit (l : Launch) : CT_ l yX10_fit cX10_fit 6 (some .int) 6 147 as_F_X10_fit (rmI_) pre_F_X10_fit post_F_X10_fit := by
  refine ct_of (by decide) (fun _ => Nat.le_of_ble_eq_true rfl) ?_
  intro X G Q ad σ a hl hR E hG R hM hv hp
  obtain ⟨x1, x2, x3, x4⟩ := a
  have r_x1 : -2147483648 ≤ x1 ∧ x1 ≤ 2147483647 := hv (0, x1) (List.mem_of_getElem? (i := 1) rfl)
  have r_x2 : -2147483648 ≤ x2 ∧ x2 ≤ 2147483647 := hv (0, x2) (List.mem_of_getElem? (i := 2) rfl)
  have r_x3 : -2147483648 ≤ x3 ∧ x3 ≤ 2147483647 := hv (0, x3) (List.mem_of_getElem? (i := 3) rfl)
  have r_x4 : -2147483648 ≤ x4 ∧ x4 ≤ 2147483647 := hv (0, x4) (List.mem_of_getElem? (i := 4) rfl)
  have B := @bk_ X G Q 0 0 ad SHS_ RX10 cX10_fit 6 (some .int) flX10 plX10 knX10 [(540, 4, TR_ as_F_X10_readSights (rmI_) pre_F_X10_readSights post_F_X10_readSights)] _ _ none kX10_fit [] flX10_ok plX10_ok knX10_ok eX10_fit oX10_fit
    (List.forall_mem_cons.mpr ⟨cok_v (t := 0) (c := 10) (N := 14) (n := 3) (idx := 270) E (ct_F_X10_readSights X.2.1) (by rw [hR]; decide) (Nat.zero_le _) (Nat.zero_le _) hG rfl rfl ⟨rfl, by decide, by decide, by decide⟩ (fun _ => ⟨_, _, rfl, rfl⟩) wl_X10_270 wi_X10_readSights ws_X10_readSights wn_X10 wc_X10_readSights, fun _ h => absurd h List.not_mem_nil⟩) R sok_no E
  show WP_ X G Q 0 0 ad SHS_ σ 0 [(10, 0), (0, x1), (0, x2), (0, x3), (0, x4), (9, 0)] []
  have hp : FX_ σ := hp
  obtain ⟨hC, hS, hN0, hN1, hN2, hN3, hN4, hN5, hF, hP, hT, hI, hRW⟩ := id hp
  refine B rfl ?_
  refine Exists.intro (x1, x2, x3) (And.intro rfl (And.intro hp ?_))
  rintro _ _ ⟨rfl, rfl⟩
  refine And.intro (fun h4 => (by exfalso; omega)) (fun h4 => ?_)
  refine Exists.intro _ (And.intro rfl ?_)
  exact And.intro rfl rfl
def as_F_X10_sure : Int × Int × Int × Int → List Sv_t := fun a => [(10, 0), (0, a.1), (0, a.2.1), (0, a.2.2.1), (0, a.2.2.2)]
def pre_F_X10_sure : Int × Int × Int × Int → Me_t → Prop := fun a σ => FX_ σ
def post_F_X10_sure : Int × Int × Int × Int → Me_t → Int → Me_t → Prop := fun a σ z σ' => z = (-2) ∧ σ = σ'
set_option maxHeartbeats 4000000 in
set_option maxRecDepth 100000 in
theorem ct_F_X10_sure (l : Launch) : CT_ l yX10_sure cX10_sure 6 (some .int) 6 147 as_F_X10_sure (rmI_) pre_F_X10_sure post_F_X10_sure := by
  refine ct_of (by decide) (fun _ => Nat.le_of_ble_eq_true rfl) ?_
  intro X G Q ad σ a hl hR E hG R hM hv hp
  obtain ⟨x1, x2, x3, x4⟩ := a
  have r_x1 : -2147483648 ≤ x1 ∧ x1 ≤ 2147483647 := hv (0, x1) (List.mem_of_getElem? (i := 1) rfl)
  have r_x2 : -2147483648 ≤ x2 ∧ x2 ≤ 2147483647 := hv (0, x2) (List.mem_of_getElem? (i := 2) rfl)
  have r_x3 : -2147483648 ≤ x3 ∧ x3 ≤ 2147483647 := hv (0, x3) (List.mem_of_getElem? (i := 3) rfl)
  have r_x4 : -2147483648 ≤ x4 ∧ x4 ≤ 2147483647 := hv (0, x4) (List.mem_of_getElem? (i := 4) rfl)
  have B := @bk_ X G Q 0 0 ad SHS_ RX10 cX10_sure 6 (some .int) flX10 plX10 knX10 [(540, 4, TR_ as_F_X10_readSights (rmI_) pre_F_X10_readSights post_F_X10_readSights)] _ _ none kX10_sure [] flX10_ok plX10_ok knX10_ok eX10_sure oX10_sure
    (List.forall_mem_cons.mpr ⟨cok_v (t := 0) (c := 10) (N := 14) (n := 3) (idx := 270) E (ct_F_X10_readSights X.2.1) (by rw [hR]; decide) (Nat.zero_le _) (Nat.zero_le _) hG rfl rfl ⟨rfl, by decide, by decide, by decide⟩ (fun _ => ⟨_, _, rfl, rfl⟩) wl_X10_270 wi_X10_readSights ws_X10_readSights wn_X10 wc_X10_readSights, fun _ h => absurd h List.not_mem_nil⟩) R sok_no E
  show WP_ X G Q 0 0 ad SHS_ σ 0 [(10, 0), (0, x1), (0, x2), (0, x3), (0, x4), (9, 0)] []
  have hp : FX_ σ := hp
  obtain ⟨hC, hS, hN0, hN1, hN2, hN3, hN4, hN5, hF, hP, hT, hI, hRW⟩ := id hp
  refine B rfl ?_
  refine And.intro (fun h1 => ?_) (fun h1 => ?_)
  · skip
    refine B rfl ?_
    refine Exists.intro _ (And.intro rfl ?_)
    exact And.intro rfl rfl
  · skip
    refine And.intro (fun h2 => ?_) (fun h2 => ?_)
    · skip
      refine B rfl ?_
      refine Exists.intro (x1, x2, x3) (And.intro rfl (And.intro hp ?_))
      rintro _ _ ⟨rfl, rfl⟩
      refine And.intro (fun h6 => (by exfalso; omega)) (fun h6 => ?_)
      refine Exists.intro _ (And.intro rfl ?_)
      exact And.intro rfl rfl
    · skip
      refine Exists.intro _ (And.intro rfl ?_)
      exact And.intro rfl rfl
def as_F_X10_ask : Int × Int × Int → List Sv_t := fun a => [(10, 0), (0, a.1), (0, a.2.1), (0, a.2.2)]
def pre_F_X10_ask : Int × Int × Int → Me_t → Prop := fun a σ => FX_ σ
def post_F_X10_ask : Int × Int × Int → Me_t → Int → Me_t → Prop := fun a σ z σ' => z = (-2) ∧ σ = σ'
set_option maxHeartbeats 4000000 in
set_option maxRecDepth 100000 in
theorem ct_F_X10_ask (l : Launch) : CT_ l yX10_ask cX10_ask 5 (some .int) 6 147 as_F_X10_ask (rmI_) pre_F_X10_ask post_F_X10_ask := by
  refine ct_of (by decide) (fun _ => Nat.le_of_ble_eq_true rfl) ?_
  intro X G Q ad σ a hl hR E hG R hM hv hp
  obtain ⟨x1, x2, x3⟩ := a
  have r_x1 : -2147483648 ≤ x1 ∧ x1 ≤ 2147483647 := hv (0, x1) (List.mem_of_getElem? (i := 1) rfl)
  have r_x2 : -2147483648 ≤ x2 ∧ x2 ≤ 2147483647 := hv (0, x2) (List.mem_of_getElem? (i := 2) rfl)
  have r_x3 : -2147483648 ≤ x3 ∧ x3 ≤ 2147483647 := hv (0, x3) (List.mem_of_getElem? (i := 3) rfl)
  have B := @bk_ X G Q 0 0 ad SHS_ RX10 cX10_ask 5 (some .int) flX10 plX10 knX10 [(540, 4, TR_ as_F_X10_readSights (rmI_) pre_F_X10_readSights post_F_X10_readSights)] _ _ none kX10_ask [] flX10_ok plX10_ok knX10_ok eX10_ask oX10_ask
    (List.forall_mem_cons.mpr ⟨cok_v (t := 0) (c := 10) (N := 14) (n := 3) (idx := 270) E (ct_F_X10_readSights X.2.1) (by rw [hR]; decide) (Nat.zero_le _) (Nat.zero_le _) hG rfl rfl ⟨rfl, by decide, by decide, by decide⟩ (fun _ => ⟨_, _, rfl, rfl⟩) wl_X10_270 wi_X10_readSights ws_X10_readSights wn_X10 wc_X10_readSights, fun _ h => absurd h List.not_mem_nil⟩) R sok_no E
  show WP_ X G Q 0 0 ad SHS_ σ 0 [(10, 0), (0, x1), (0, x2), (0, x3), (9, 0)] []
  have hp : FX_ σ := hp
  obtain ⟨hC, hS, hN0, hN1, hN2, hN3, hN4, hN5, hF, hP, hT, hI, hRW⟩ := id hp
  refine B rfl ?_
  refine Exists.intro (x1, x2, x3) (And.intro rfl (And.intro hp ?_))
  rintro _ _ ⟨rfl, rfl⟩
  refine And.intro (fun h4 => (by exfalso; omega)) (fun h4 => ?_)
  refine Exists.intro _ (And.intro rfl ?_)
  exact And.intro rfl rfl
def as_F_X10_leaves : Int × Int × Int → List Sv_t := fun a => [(10, 0), (0, a.1), (0, a.2.1), (0, a.2.2)]
def pre_F_X10_leaves : Int × Int × Int → Me_t → Prop := fun a σ => FX_ σ
def post_F_X10_leaves : Int × Int × Int → Me_t → Int → Me_t → Prop := fun a σ z σ' => z = (-2) ∧ σ = σ'
set_option maxHeartbeats 4000000 in
set_option maxRecDepth 100000 in
theorem ct_F_X10_leaves (l : Launch) : CT_ l yX10_leaves cX10_leaves 5 (some .int) 6 147 as_F_X10_leaves (rmI_) pre_F_X10_leaves post_F_X10_leaves := by
  refine ct_of (by decide) (fun _ => Nat.le_of_ble_eq_true rfl) ?_
  intro X G Q ad σ a hl hR E hG R hM hv hp
  obtain ⟨x1, x2, x3⟩ := a
  have r_x1 : -2147483648 ≤ x1 ∧ x1 ≤ 2147483647 := hv (0, x1) (List.mem_of_getElem? (i := 1) rfl)
  have r_x2 : -2147483648 ≤ x2 ∧ x2 ≤ 2147483647 := hv (0, x2) (List.mem_of_getElem? (i := 2) rfl)
  have r_x3 : -2147483648 ≤ x3 ∧ x3 ≤ 2147483647 := hv (0, x3) (List.mem_of_getElem? (i := 3) rfl)
  have B := @bk_ X G Q 0 0 ad SHS_ RX10 cX10_leaves 5 (some .int) flX10 plX10 knX10 [(540, 4, TR_ as_F_X10_readSights (rmI_) pre_F_X10_readSights post_F_X10_readSights)] _ _ none kX10_leaves [] flX10_ok plX10_ok knX10_ok eX10_leaves oX10_leaves
    (List.forall_mem_cons.mpr ⟨cok_v (t := 0) (c := 10) (N := 14) (n := 3) (idx := 270) E (ct_F_X10_readSights X.2.1) (by rw [hR]; decide) (Nat.zero_le _) (Nat.zero_le _) hG rfl rfl ⟨rfl, by decide, by decide, by decide⟩ (fun _ => ⟨_, _, rfl, rfl⟩) wl_X10_270 wi_X10_readSights ws_X10_readSights wn_X10 wc_X10_readSights, fun _ h => absurd h List.not_mem_nil⟩) R sok_no E
  show WP_ X G Q 0 0 ad SHS_ σ 0 [(10, 0), (0, x1), (0, x2), (0, x3), (9, 0)] []
  have hp : FX_ σ := hp
  obtain ⟨hC, hS, hN0, hN1, hN2, hN3, hN4, hN5, hF, hP, hT, hI, hRW⟩ := id hp
  refine B rfl ?_
  refine Exists.intro (x1, x2, x3) (And.intro rfl (And.intro hp ?_))
  rintro _ _ ⟨rfl, rfl⟩
  refine And.intro (fun h4 => (by exfalso; omega)) (fun h4 => ?_)
  refine Exists.intro _ (And.intro rfl ?_)
  exact And.intro rfl rfl
def as_F_X10_holds : Int → List Sv_t := fun a => [(10, 0), (0, a)]
def pre_F_X10_holds : Int → Me_t → Prop := fun a σ => FX_ σ
def post_F_X10_holds : Int → Me_t → Int → Me_t → Prop := fun a σ z σ' => z = (-2) ∧ σ = σ'
set_option maxHeartbeats 4000000 in
set_option maxRecDepth 100000 in
theorem ct_F_X10_holds (l : Launch) : CT_ l yX10_holds cX10_holds 2 (some .int) 2 41 as_F_X10_holds (rmI_) pre_F_X10_holds post_F_X10_holds := by
  refine ct_of (by decide) (fun _ => Nat.le_refl _) ?_
  intro X G Q ad σ a hl hR E hG R hM hv hp
  obtain ⟨x1, rfl⟩ : ∃ q : Int, q = a := ⟨_, rfl⟩
  have r_x1 : -2147483648 ≤ x1 ∧ x1 ≤ 2147483647 := hv (0, x1) (List.mem_of_getElem? (i := 1) rfl)
  have B := @bk_ X G Q 0 0 ad SHS_ RX10 cX10_holds 2 (some .int) flX10 plX10 knX10 [(372, 2, TR_ as_F_X10_isDayOfWar (rmI_) pre_F_X10_isDayOfWar post_F_X10_isDayOfWar)] _ _ none kX10_holds [] flX10_ok plX10_ok knX10_ok eX10_holds oX10_holds
    (List.forall_mem_cons.mpr ⟨cok_v (t := 0) (c := 10) (N := 14) (n := 1) (idx := 186) E (ct_F_X10_isDayOfWar X.2.1) (by rw [hR]; decide) (Nat.zero_le _) (Nat.zero_le _) hG rfl rfl ⟨rfl, by decide, by decide, by decide⟩ (fun _ => ⟨_, _, rfl, rfl⟩) wl_X10_186 wi_X10_isDayOfWar ws_X10_isDayOfWar wn_X10 wc_X10_isDayOfWar, fun _ h => absurd h List.not_mem_nil⟩) R sok_no E
  show WP_ X G Q 0 0 ad SHS_ σ 0 [(10, 0), (0, x1)] []
  have hp : FX_ σ := hp
  obtain ⟨hC, hS, hN0, hN1, hN2, hN3, hN4, hN5, hF, hP, hT, hI, hRW⟩ := id hp
  refine B rfl ?_
  refine Exists.intro x1 (And.intro rfl (And.intro hp ?_))
  rintro _ _ ⟨rfl, rfl⟩
  refine And.intro (fun h4 => ?_) (fun h4 => (by exfalso; omega))
  refine B rfl ?_
  refine Exists.intro _ (And.intro rfl ?_)
  exact And.intro rfl rfl
def as_F_X10_overlap : Int × Int → List Sv_t := fun a => [(10, 0), (0, a.1), (0, a.2)]
def pre_F_X10_overlap : Int × Int → Me_t → Prop := fun a σ => FX_ σ
def post_F_X10_overlap : Int × Int → Me_t → Int → Me_t → Prop := fun a σ z σ' => z = (-2) ∧ σ = σ'
set_option maxHeartbeats 4000000 in
set_option maxRecDepth 100000 in
theorem ct_F_X10_overlap (l : Launch) : CT_ l yX10_overlap cX10_overlap 4 (some .int) 2 41 as_F_X10_overlap (rmI_) pre_F_X10_overlap post_F_X10_overlap := by
  refine ct_of (by decide) (fun _ => Nat.le_of_ble_eq_true rfl) ?_
  intro X G Q ad σ a hl hR E hG R hM hv hp
  obtain ⟨x1, x2⟩ := a
  have r_x1 : -2147483648 ≤ x1 ∧ x1 ≤ 2147483647 := hv (0, x1) (List.mem_of_getElem? (i := 1) rfl)
  have r_x2 : -2147483648 ≤ x2 ∧ x2 ≤ 2147483647 := hv (0, x2) (List.mem_of_getElem? (i := 2) rfl)
  have B := @bk_ X G Q 0 0 ad SHS_ RX10 cX10_overlap 4 (some .int) flX10 plX10 knX10 [(372, 2, TR_ as_F_X10_isDayOfWar (rmI_) pre_F_X10_isDayOfWar post_F_X10_isDayOfWar)] _ _ none kX10_overlap [] flX10_ok plX10_ok knX10_ok eX10_overlap oX10_overlap
    (List.forall_mem_cons.mpr ⟨cok_v (t := 0) (c := 10) (N := 14) (n := 1) (idx := 186) E (ct_F_X10_isDayOfWar X.2.1) (by rw [hR]; decide) (Nat.zero_le _) (Nat.zero_le _) hG rfl rfl ⟨rfl, by decide, by decide, by decide⟩ (fun _ => ⟨_, _, rfl, rfl⟩) wl_X10_186 wi_X10_isDayOfWar ws_X10_isDayOfWar wn_X10 wc_X10_isDayOfWar, fun _ h => absurd h List.not_mem_nil⟩) R sok_no E
  show WP_ X G Q 0 0 ad SHS_ σ 0 [(10, 0), (0, x1), (0, x2), (9, 0)] []
  have hp : FX_ σ := hp
  obtain ⟨hC, hS, hN0, hN1, hN2, hN3, hN4, hN5, hF, hP, hT, hI, hRW⟩ := id hp
  refine B rfl ?_
  refine And.intro (fun h1 => ?_) (fun h1 => ?_)
  · skip
    refine B rfl ?_
    refine Exists.intro _ (And.intro rfl ?_)
    exact And.intro rfl rfl
  · skip
    refine Exists.intro x2 (And.intro rfl (And.intro hp ?_))
    rintro _ _ ⟨rfl, rfl⟩
    refine And.intro (fun h5 => (by exfalso; omega)) (fun h5 => ?_)
    refine Exists.intro _ (And.intro rfl ?_)
    exact And.intro rfl rfl
def as_F_X10_most : Unit → List Sv_t := fun a => [(10, 0)]
def pre_F_X10_most : Unit → Me_t → Prop := fun a σ => FX_ σ
def post_F_X10_most : Unit → Me_t → Int → Me_t → Prop := fun a σ z σ' => z = (-2) ∧ σ = σ'
set_option maxHeartbeats 4000000 in
set_option maxRecDepth 100000 in
theorem ct_F_X10_most (l : Launch) : CT_ l yX10_most cX10_most 4 (some .int) 1 24 as_F_X10_most (rmI_) pre_F_X10_most post_F_X10_most := by
  refine ct_of (by decide) (fun _ => Nat.le_of_ble_eq_true rfl) ?_
  intro X G Q ad σ a hl hR E hG R hM hv hp
  have B := @bk_ X G Q 0 0 ad SHS_ RX10 cX10_most 4 (some .int) flX10 plX10 knX10 [] _ _ none kX10_most [] flX10_ok plX10_ok knX10_ok eX10_most oX10_most
    (fun _ h => absurd h List.not_mem_nil) R sok_no E
  show WP_ X G Q 0 0 ad SHS_ σ 0 [(10, 0), (9, 0), (9, 0), (9, 0)] []
  have hp : FX_ σ := hp
  obtain ⟨hC, hS, hN0, hN1, hN2, hN3, hN4, hN5, hF, hP, hT, hI, hRW⟩ := id hp
  refine B rfl ?_
  refine And.intro (fun h1 => (by exfalso; omega)) (fun h1 => ?_)
  refine Exists.intro _ (And.intro rfl ?_)
  exact And.intro rfl rfl
def as_F_X10_age : Int × Int × Int → List Sv_t := fun a => [(10, 0), (0, a.1), (0, a.2.1), (0, a.2.2)]
def pre_F_X10_age : Int × Int × Int → Me_t → Prop := fun a σ => FX_ σ
def post_F_X10_age : Int × Int × Int → Me_t → Int → Me_t → Prop := fun a σ z σ' => z = (-2) ∧ σ = σ'
set_option maxHeartbeats 4000000 in
set_option maxRecDepth 100000 in
theorem ct_F_X10_age (l : Launch) : CT_ l yX10_age cX10_age 4 (some .int) 6 143 as_F_X10_age (rmI_) pre_F_X10_age post_F_X10_age := by
  refine ct_of (by decide) (fun _ => Nat.le_refl _) ?_
  intro X G Q ad σ a hl hR E hG R hM hv hp
  obtain ⟨x1, x2, x3⟩ := a
  have r_x1 : -2147483648 ≤ x1 ∧ x1 ≤ 2147483647 := hv (0, x1) (List.mem_of_getElem? (i := 1) rfl)
  have r_x2 : -2147483648 ≤ x2 ∧ x2 ≤ 2147483647 := hv (0, x2) (List.mem_of_getElem? (i := 2) rfl)
  have r_x3 : -2147483648 ≤ x3 ∧ x3 ≤ 2147483647 := hv (0, x3) (List.mem_of_getElem? (i := 3) rfl)
  have B := @bk_ X G Q 0 0 ad SHS_ RX10 cX10_age 4 (some .int) flX10 plX10 knX10 [(336, 3, TR_ as_F_X10_isLandAndDay (rmI_) pre_F_X10_isLandAndDay post_F_X10_isLandAndDay)] _ _ none kX10_age [] flX10_ok plX10_ok knX10_ok eX10_age oX10_age
    (List.forall_mem_cons.mpr ⟨cok_v (t := 0) (c := 10) (N := 14) (n := 2) (idx := 168) E (ct_F_X10_isLandAndDay X.2.1) (by rw [hR]; decide) (Nat.zero_le _) (Nat.zero_le _) hG rfl rfl ⟨rfl, by decide, by decide, by decide⟩ (fun _ => ⟨_, _, rfl, rfl⟩) wl_X10_168 wi_X10_isLandAndDay ws_X10_isLandAndDay wn_X10 wc_X10_isLandAndDay, fun _ h => absurd h List.not_mem_nil⟩) R sok_no E
  show WP_ X G Q 0 0 ad SHS_ σ 0 [(10, 0), (0, x1), (0, x2), (0, x3)] []
  have hp : FX_ σ := hp
  obtain ⟨hC, hS, hN0, hN1, hN2, hN3, hN4, hN5, hF, hP, hT, hI, hRW⟩ := id hp
  refine B rfl ?_
  refine Exists.intro (x1, x2) (And.intro rfl (And.intro hp ?_))
  rintro _ _ ⟨rfl, rfl⟩
  refine And.intro (fun h4 => ?_) (fun h4 => (by exfalso; omega))
  refine B rfl ?_
  refine Exists.intro _ (And.intro rfl ?_)
  exact And.intro rfl rfl
def as_F_X10_march : Int × Int × Int → List Sv_t := fun a => [(10, 0), (0, a.1), (0, a.2.1), (0, a.2.2)]
def pre_F_X10_march : Int × Int × Int → Me_t → Prop := fun a σ => FX_ σ
def post_F_X10_march : Int × Int × Int → Me_t → Int → Me_t → Prop := fun a σ z σ' => z = (-2) ∧ σ = σ'
set_option maxHeartbeats 4000000 in
set_option maxRecDepth 100000 in
theorem ct_F_X10_march (l : Launch) : CT_ l yX10_march cX10_march 7 (some .int) 6 143 as_F_X10_march (rmI_) pre_F_X10_march post_F_X10_march := by
  refine ct_of (by decide) (fun _ => Nat.le_of_ble_eq_true rfl) ?_
  intro X G Q ad σ a hl hR E hG R hM hv hp
  obtain ⟨x1, x2, x3⟩ := a
  have r_x1 : -2147483648 ≤ x1 ∧ x1 ≤ 2147483647 := hv (0, x1) (List.mem_of_getElem? (i := 1) rfl)
  have r_x2 : -2147483648 ≤ x2 ∧ x2 ≤ 2147483647 := hv (0, x2) (List.mem_of_getElem? (i := 2) rfl)
  have r_x3 : -2147483648 ≤ x3 ∧ x3 ≤ 2147483647 := hv (0, x3) (List.mem_of_getElem? (i := 3) rfl)
  have B := @bk_ X G Q 0 0 ad SHS_ RX10 cX10_march 7 (some .int) flX10 plX10 knX10 [(336, 3, TR_ as_F_X10_isLandAndDay (rmI_) pre_F_X10_isLandAndDay post_F_X10_isLandAndDay)] _ _ none kX10_march [] flX10_ok plX10_ok knX10_ok eX10_march oX10_march
    (List.forall_mem_cons.mpr ⟨cok_v (t := 0) (c := 10) (N := 14) (n := 2) (idx := 168) E (ct_F_X10_isLandAndDay X.2.1) (by rw [hR]; decide) (Nat.zero_le _) (Nat.zero_le _) hG rfl rfl ⟨rfl, by decide, by decide, by decide⟩ (fun _ => ⟨_, _, rfl, rfl⟩) wl_X10_168 wi_X10_isLandAndDay ws_X10_isLandAndDay wn_X10 wc_X10_isLandAndDay, fun _ h => absurd h List.not_mem_nil⟩) R sok_no E
  show WP_ X G Q 0 0 ad SHS_ σ 0 [(10, 0), (0, x1), (0, x2), (0, x3), (9, 0), (9, 0), (9, 0)] []
  have hp : FX_ σ := hp
  obtain ⟨hC, hS, hN0, hN1, hN2, hN3, hN4, hN5, hF, hP, hT, hI, hRW⟩ := id hp
  refine B rfl ?_
  refine Exists.intro (x1, x2) (And.intro rfl (And.intro hp ?_))
  rintro _ _ ⟨rfl, rfl⟩
  refine And.intro (fun h4 => ?_) (fun h4 => (by exfalso; omega))
  refine B rfl ?_
  refine Exists.intro _ (And.intro rfl ?_)
  exact And.intro rfl rfl
def as_F_X10_clash : Int × Int × Int × Int → List Sv_t := fun a => [(10, 0), (0, a.1), (0, a.2.1), (0, a.2.2.1), (0, a.2.2.2)]
def pre_F_X10_clash : Int × Int × Int × Int → Me_t → Prop := fun a σ => FX_ σ
def post_F_X10_clash : Int × Int × Int × Int → Me_t → Int → Me_t → Prop := fun a σ z σ' => z = (-2) ∧ σ = σ'
set_option maxHeartbeats 4000000 in
set_option maxRecDepth 100000 in
theorem ct_F_X10_clash (l : Launch) : CT_ l yX10_clash cX10_clash 5 (some .int) 6 143 as_F_X10_clash (rmI_) pre_F_X10_clash post_F_X10_clash := by
  refine ct_of (by decide) (fun _ => Nat.le_refl _) ?_
  intro X G Q ad σ a hl hR E hG R hM hv hp
  obtain ⟨x1, x2, x3, x4⟩ := a
  have r_x1 : -2147483648 ≤ x1 ∧ x1 ≤ 2147483647 := hv (0, x1) (List.mem_of_getElem? (i := 1) rfl)
  have r_x2 : -2147483648 ≤ x2 ∧ x2 ≤ 2147483647 := hv (0, x2) (List.mem_of_getElem? (i := 2) rfl)
  have r_x3 : -2147483648 ≤ x3 ∧ x3 ≤ 2147483647 := hv (0, x3) (List.mem_of_getElem? (i := 3) rfl)
  have r_x4 : -2147483648 ≤ x4 ∧ x4 ≤ 2147483647 := hv (0, x4) (List.mem_of_getElem? (i := 4) rfl)
  have B := @bk_ X G Q 0 0 ad SHS_ RX10 cX10_clash 5 (some .int) flX10 plX10 knX10 [(432, 4, TR_ as_F_X10_isPairAndDay (rmI_) pre_F_X10_isPairAndDay post_F_X10_isPairAndDay)] _ _ none kX10_clash [] flX10_ok plX10_ok knX10_ok eX10_clash oX10_clash
    (List.forall_mem_cons.mpr ⟨cok_v (t := 0) (c := 10) (N := 14) (n := 3) (idx := 216) E (ct_F_X10_isPairAndDay X.2.1) (by rw [hR]; decide) (Nat.zero_le _) (Nat.zero_le _) hG rfl rfl ⟨rfl, by decide, by decide, by decide⟩ (fun _ => ⟨_, _, rfl, rfl⟩) wl_X10_216 wi_X10_isPairAndDay ws_X10_isPairAndDay wn_X10 wc_X10_isPairAndDay, fun _ h => absurd h List.not_mem_nil⟩) R sok_no E
  show WP_ X G Q 0 0 ad SHS_ σ 0 [(10, 0), (0, x1), (0, x2), (0, x3), (0, x4)] []
  have hp : FX_ σ := hp
  obtain ⟨hC, hS, hN0, hN1, hN2, hN3, hN4, hN5, hF, hP, hT, hI, hRW⟩ := id hp
  refine B rfl ?_
  refine Exists.intro (x1, x2, x3) (And.intro rfl (And.intro hp ?_))
  rintro _ _ ⟨rfl, rfl⟩
  refine And.intro (fun h4 => ?_) (fun h4 => (by exfalso; omega))
  refine B rfl ?_
  refine Exists.intro _ (And.intro rfl ?_)
  exact And.intro rfl rfl
def as_F_X10_place : Int × Int × Int × Int → List Sv_t := fun a => [(10, 0), (0, a.1), (0, a.2.1), (0, a.2.2.1), (0, a.2.2.2)]
def pre_F_X10_place : Int × Int × Int × Int → Me_t → Prop := fun a σ => FX_ σ
def post_F_X10_place : Int × Int × Int × Int → Me_t → Int → Me_t → Prop := fun a σ z σ' => z = (-2) ∧ σ = σ'
set_option maxHeartbeats 4000000 in
set_option maxRecDepth 100000 in
theorem ct_F_X10_place (l : Launch) : CT_ l yX10_place cX10_place 9 (some .int) 6 143 as_F_X10_place (rmI_) pre_F_X10_place post_F_X10_place := by
  refine ct_of (by decide) (fun _ => Nat.le_of_ble_eq_true rfl) ?_
  intro X G Q ad σ a hl hR E hG R hM hv hp
  obtain ⟨x1, x2, x3, x4⟩ := a
  have r_x1 : -2147483648 ≤ x1 ∧ x1 ≤ 2147483647 := hv (0, x1) (List.mem_of_getElem? (i := 1) rfl)
  have r_x2 : -2147483648 ≤ x2 ∧ x2 ≤ 2147483647 := hv (0, x2) (List.mem_of_getElem? (i := 2) rfl)
  have r_x3 : -2147483648 ≤ x3 ∧ x3 ≤ 2147483647 := hv (0, x3) (List.mem_of_getElem? (i := 3) rfl)
  have r_x4 : -2147483648 ≤ x4 ∧ x4 ≤ 2147483647 := hv (0, x4) (List.mem_of_getElem? (i := 4) rfl)
  have B := @bk_ X G Q 0 0 ad SHS_ RX10 cX10_place 9 (some .int) flX10 plX10 knX10 [(432, 4, TR_ as_F_X10_isPairAndDay (rmI_) pre_F_X10_isPairAndDay post_F_X10_isPairAndDay)] _ _ none kX10_place [] flX10_ok plX10_ok knX10_ok eX10_place oX10_place
    (List.forall_mem_cons.mpr ⟨cok_v (t := 0) (c := 10) (N := 14) (n := 3) (idx := 216) E (ct_F_X10_isPairAndDay X.2.1) (by rw [hR]; decide) (Nat.zero_le _) (Nat.zero_le _) hG rfl rfl ⟨rfl, by decide, by decide, by decide⟩ (fun _ => ⟨_, _, rfl, rfl⟩) wl_X10_216 wi_X10_isPairAndDay ws_X10_isPairAndDay wn_X10 wc_X10_isPairAndDay, fun _ h => absurd h List.not_mem_nil⟩) R sok_no E
  show WP_ X G Q 0 0 ad SHS_ σ 0 [(10, 0), (0, x1), (0, x2), (0, x3), (0, x4), (9, 0), (9, 0), (9, 0), (9, 0)] []
  have hp : FX_ σ := hp
  obtain ⟨hC, hS, hN0, hN1, hN2, hN3, hN4, hN5, hF, hP, hT, hI, hRW⟩ := id hp
  refine B rfl ?_
  refine Exists.intro (x1, x2, x3) (And.intro rfl (And.intro hp ?_))
  rintro _ _ ⟨rfl, rfl⟩
  refine And.intro (fun h4 => ?_) (fun h4 => (by exfalso; omega))
  refine B rfl ?_
  refine Exists.intro _ (And.intro rfl ?_)
  exact And.intro rfl rfl
def as_F_X10_alone : Int × Int × Int × Int → List Sv_t := fun a => [(10, 0), (0, a.1), (0, a.2.1), (0, a.2.2.1), (0, a.2.2.2)]
def pre_F_X10_alone : Int × Int × Int × Int → Me_t → Prop := fun a σ => FX_ σ
def post_F_X10_alone : Int × Int × Int × Int → Me_t → Int → Me_t → Prop := fun a σ z σ' => z = (-2) ∧ σ = σ'
set_option maxHeartbeats 4000000 in
set_option maxRecDepth 100000 in
theorem ct_F_X10_alone (l : Launch) : CT_ l yX10_alone cX10_alone 5 (some .int) 6 143 as_F_X10_alone (rmI_) pre_F_X10_alone post_F_X10_alone := by
  refine ct_of (by decide) (fun _ => Nat.le_refl _) ?_
  intro X G Q ad σ a hl hR E hG R hM hv hp
  obtain ⟨x1, x2, x3, x4⟩ := a
  have r_x1 : -2147483648 ≤ x1 ∧ x1 ≤ 2147483647 := hv (0, x1) (List.mem_of_getElem? (i := 1) rfl)
  have r_x2 : -2147483648 ≤ x2 ∧ x2 ≤ 2147483647 := hv (0, x2) (List.mem_of_getElem? (i := 2) rfl)
  have r_x3 : -2147483648 ≤ x3 ∧ x3 ≤ 2147483647 := hv (0, x3) (List.mem_of_getElem? (i := 3) rfl)
  have r_x4 : -2147483648 ≤ x4 ∧ x4 ≤ 2147483647 := hv (0, x4) (List.mem_of_getElem? (i := 4) rfl)
  have B := @bk_ X G Q 0 0 ad SHS_ RX10 cX10_alone 5 (some .int) flX10 plX10 knX10 [(620, 3, TR_ as_F_X10_isPair (rmI_) pre_F_X10_isPair post_F_X10_isPair)] _ _ none kX10_alone [] flX10_ok plX10_ok knX10_ok eX10_alone oX10_alone
    (List.forall_mem_cons.mpr ⟨cok_v (t := 0) (c := 10) (N := 14) (n := 2) (idx := 310) E (ct_F_X10_isPair X.2.1) (by rw [hR]; decide) (Nat.zero_le _) (Nat.zero_le _) hG rfl rfl ⟨rfl, by decide, by decide, by decide⟩ (fun _ => ⟨_, _, rfl, rfl⟩) wl_X10_310 wi_X10_isPair ws_X10_isPair wn_X10 wc_X10_isPair, fun _ h => absurd h List.not_mem_nil⟩) R sok_no E
  show WP_ X G Q 0 0 ad SHS_ σ 0 [(10, 0), (0, x1), (0, x2), (0, x3), (0, x4)] []
  have hp : FX_ σ := hp
  obtain ⟨hC, hS, hN0, hN1, hN2, hN3, hN4, hN5, hF, hP, hT, hI, hRW⟩ := id hp
  refine B rfl ?_
  refine Exists.intro (x1, x2) (And.intro rfl (And.intro hp ?_))
  rintro _ _ ⟨rfl, rfl⟩
  refine And.intro (fun h4 => ?_) (fun h4 => (by exfalso; omega))
  refine B rfl ?_
  refine Exists.intro _ (And.intro rfl ?_)
  exact And.intro rfl rfl
def as_F_X10_begin : Int × Int × Int × Int × Int → List Sv_t := fun a => [(10, 0), (0, a.1), (0, a.2.1), (0, a.2.2.1), (0, a.2.2.2.1), (0, a.2.2.2.2)]
def pre_F_X10_begin : Int × Int × Int × Int × Int → Me_t → Prop := fun a σ => FX_ σ
def post_F_X10_begin : Int × Int × Int × Int × Int → Me_t → Int → Me_t → Prop := fun a σ z σ' => z = (-2) ∧ σ = σ'
set_option maxHeartbeats 4000000 in
set_option maxRecDepth 100000 in
theorem ct_F_X10_begin (l : Launch) : CT_ l yX10_begin cX10_begin 6 (some .int) 6 143 as_F_X10_begin (rmI_) pre_F_X10_begin post_F_X10_begin := by
  refine ct_of (by decide) (fun _ => Nat.le_refl _) ?_
  intro X G Q ad σ a hl hR E hG R hM hv hp
  obtain ⟨x1, x2, x3, x4, x5⟩ := a
  have r_x1 : -2147483648 ≤ x1 ∧ x1 ≤ 2147483647 := hv (0, x1) (List.mem_of_getElem? (i := 1) rfl)
  have r_x2 : -2147483648 ≤ x2 ∧ x2 ≤ 2147483647 := hv (0, x2) (List.mem_of_getElem? (i := 2) rfl)
  have r_x3 : -2147483648 ≤ x3 ∧ x3 ≤ 2147483647 := hv (0, x3) (List.mem_of_getElem? (i := 3) rfl)
  have r_x4 : -2147483648 ≤ x4 ∧ x4 ≤ 2147483647 := hv (0, x4) (List.mem_of_getElem? (i := 4) rfl)
  have r_x5 : -2147483648 ≤ x5 ∧ x5 ≤ 2147483647 := hv (0, x5) (List.mem_of_getElem? (i := 5) rfl)
  have B := @bk_ X G Q 0 0 ad SHS_ RX10 cX10_begin 6 (some .int) flX10 plX10 knX10 [(620, 3, TR_ as_F_X10_isPair (rmI_) pre_F_X10_isPair post_F_X10_isPair)] _ _ none kX10_begin [] flX10_ok plX10_ok knX10_ok eX10_begin oX10_begin
    (List.forall_mem_cons.mpr ⟨cok_v (t := 0) (c := 10) (N := 14) (n := 2) (idx := 310) E (ct_F_X10_isPair X.2.1) (by rw [hR]; decide) (Nat.zero_le _) (Nat.zero_le _) hG rfl rfl ⟨rfl, by decide, by decide, by decide⟩ (fun _ => ⟨_, _, rfl, rfl⟩) wl_X10_310 wi_X10_isPair ws_X10_isPair wn_X10 wc_X10_isPair, fun _ h => absurd h List.not_mem_nil⟩) R sok_no E
  show WP_ X G Q 0 0 ad SHS_ σ 0 [(10, 0), (0, x1), (0, x2), (0, x3), (0, x4), (0, x5)] []
  have hp : FX_ σ := hp
  obtain ⟨hC, hS, hN0, hN1, hN2, hN3, hN4, hN5, hF, hP, hT, hI, hRW⟩ := id hp
  refine B rfl ?_
  refine Exists.intro (x1, x2) (And.intro rfl (And.intro hp ?_))
  rintro _ _ ⟨rfl, rfl⟩
  refine And.intro (fun h4 => ?_) (fun h4 => (by exfalso; omega))
  refine B rfl ?_
  refine Exists.intro _ (And.intro rfl ?_)
  exact And.intro rfl rfl
def as_F_X10_begins : Int × Int × Int × Int × Int → List Sv_t := fun a => [(10, 0), (0, a.1), (0, a.2.1), (0, a.2.2.1), (0, a.2.2.2.1), (0, a.2.2.2.2)]
def pre_F_X10_begins : Int × Int × Int × Int × Int → Me_t → Prop := fun a σ => FX_ σ
def post_F_X10_begins : Int × Int × Int × Int × Int → Me_t → Int → Me_t → Prop := fun a σ z σ' => z = (-2) ∧ σ = σ'
set_option maxHeartbeats 4000000 in
set_option maxRecDepth 100000 in
theorem ct_F_X10_begins (l : Launch) : CT_ l yX10_begins cX10_begins 6 (some .int) 6 143 as_F_X10_begins (rmI_) pre_F_X10_begins post_F_X10_begins := by
  refine ct_of (by decide) (fun _ => Nat.le_refl _) ?_
  intro X G Q ad σ a hl hR E hG R hM hv hp
  obtain ⟨x1, x2, x3, x4, x5⟩ := a
  have r_x1 : -2147483648 ≤ x1 ∧ x1 ≤ 2147483647 := hv (0, x1) (List.mem_of_getElem? (i := 1) rfl)
  have r_x2 : -2147483648 ≤ x2 ∧ x2 ≤ 2147483647 := hv (0, x2) (List.mem_of_getElem? (i := 2) rfl)
  have r_x3 : -2147483648 ≤ x3 ∧ x3 ≤ 2147483647 := hv (0, x3) (List.mem_of_getElem? (i := 3) rfl)
  have r_x4 : -2147483648 ≤ x4 ∧ x4 ≤ 2147483647 := hv (0, x4) (List.mem_of_getElem? (i := 4) rfl)
  have r_x5 : -2147483648 ≤ x5 ∧ x5 ≤ 2147483647 := hv (0, x5) (List.mem_of_getElem? (i := 5) rfl)
  have B := @bk_ X G Q 0 0 ad SHS_ RX10 cX10_begins 6 (some .int) flX10 plX10 knX10 [(620, 3, TR_ as_F_X10_isPair (rmI_) pre_F_X10_isPair post_F_X10_isPair)] _ _ none kX10_begins [] flX10_ok plX10_ok knX10_ok eX10_begins oX10_begins
    (List.forall_mem_cons.mpr ⟨cok_v (t := 0) (c := 10) (N := 14) (n := 2) (idx := 310) E (ct_F_X10_isPair X.2.1) (by rw [hR]; decide) (Nat.zero_le _) (Nat.zero_le _) hG rfl rfl ⟨rfl, by decide, by decide, by decide⟩ (fun _ => ⟨_, _, rfl, rfl⟩) wl_X10_310 wi_X10_isPair ws_X10_isPair wn_X10 wc_X10_isPair, fun _ h => absurd h List.not_mem_nil⟩) R sok_no E
  show WP_ X G Q 0 0 ad SHS_ σ 0 [(10, 0), (0, x1), (0, x2), (0, x3), (0, x4), (0, x5)] []
  have hp : FX_ σ := hp
  obtain ⟨hC, hS, hN0, hN1, hN2, hN3, hN4, hN5, hF, hP, hT, hI, hRW⟩ := id hp
  refine B rfl ?_
  refine Exists.intro (x1, x2) (And.intro rfl (And.intro hp ?_))
  rintro _ _ ⟨rfl, rfl⟩
  refine And.intro (fun h4 => ?_) (fun h4 => (by exfalso; omega))
  refine B rfl ?_
  refine Exists.intro _ (And.intro rfl ?_)
  exact And.intro rfl rfl
def as_F_X10_game : Int × Int × Int × Int → List Sv_t := fun a => [(10, 0), (0, a.1), (0, a.2.1), (0, a.2.2.1), (0, a.2.2.2)]
def pre_F_X10_game : Int × Int × Int × Int → Me_t → Prop := fun a σ => FX_ σ
def post_F_X10_game : Int × Int × Int × Int → Me_t → Int → Me_t → Prop := fun a σ z σ' => z = (-2) ∧ σ = σ'
set_option maxHeartbeats 4000000 in
set_option maxRecDepth 100000 in
theorem ct_F_X10_game (l : Launch) : CT_ l yX10_game cX10_game 5 (some .int) 6 143 as_F_X10_game (rmI_) pre_F_X10_game post_F_X10_game := by
  refine ct_of (by decide) (fun _ => Nat.le_refl _) ?_
  intro X G Q ad σ a hl hR E hG R hM hv hp
  obtain ⟨x1, x2, x3, x4⟩ := a
  have r_x1 : -2147483648 ≤ x1 ∧ x1 ≤ 2147483647 := hv (0, x1) (List.mem_of_getElem? (i := 1) rfl)
  have r_x2 : -2147483648 ≤ x2 ∧ x2 ≤ 2147483647 := hv (0, x2) (List.mem_of_getElem? (i := 2) rfl)
  have r_x3 : -2147483648 ≤ x3 ∧ x3 ≤ 2147483647 := hv (0, x3) (List.mem_of_getElem? (i := 3) rfl)
  have r_x4 : -2147483648 ≤ x4 ∧ x4 ≤ 2147483647 := hv (0, x4) (List.mem_of_getElem? (i := 4) rfl)
  have B := @bk_ X G Q 0 0 ad SHS_ RX10 cX10_game 5 (some .int) flX10 plX10 knX10 [(432, 4, TR_ as_F_X10_isPairAndDay (rmI_) pre_F_X10_isPairAndDay post_F_X10_isPairAndDay)] _ _ none kX10_game [] flX10_ok plX10_ok knX10_ok eX10_game oX10_game
    (List.forall_mem_cons.mpr ⟨cok_v (t := 0) (c := 10) (N := 14) (n := 3) (idx := 216) E (ct_F_X10_isPairAndDay X.2.1) (by rw [hR]; decide) (Nat.zero_le _) (Nat.zero_le _) hG rfl rfl ⟨rfl, by decide, by decide, by decide⟩ (fun _ => ⟨_, _, rfl, rfl⟩) wl_X10_216 wi_X10_isPairAndDay ws_X10_isPairAndDay wn_X10 wc_X10_isPairAndDay, fun _ h => absurd h List.not_mem_nil⟩) R sok_no E
  show WP_ X G Q 0 0 ad SHS_ σ 0 [(10, 0), (0, x1), (0, x2), (0, x3), (0, x4)] []
  have hp : FX_ σ := hp
  obtain ⟨hC, hS, hN0, hN1, hN2, hN3, hN4, hN5, hF, hP, hT, hI, hRW⟩ := id hp
  refine B rfl ?_
  refine Exists.intro (x1, x2, x3) (And.intro rfl (And.intro hp ?_))
  rintro _ _ ⟨rfl, rfl⟩
  refine And.intro (fun h4 => ?_) (fun h4 => (by exfalso; omega))
  refine B rfl ?_
  refine Exists.intro _ (And.intro rfl ?_)
  exact And.intro rfl rfl
def as_F_X10_takes : Int × Int × Int × Int → List Sv_t := fun a => [(10, 0), (0, a.1), (0, a.2.1), (0, a.2.2.1), (0, a.2.2.2)]
def pre_F_X10_takes : Int × Int × Int × Int → Me_t → Prop := fun a σ => FX_ σ
def post_F_X10_takes : Int × Int × Int × Int → Me_t → Int → Me_t → Prop := fun a σ z σ' => z = (-2) ∧ σ = σ'
set_option maxHeartbeats 4000000 in
set_option maxRecDepth 100000 in
theorem ct_F_X10_takes (l : Launch) : CT_ l yX10_takes cX10_takes 5 (some .int) 6 143 as_F_X10_takes (rmI_) pre_F_X10_takes post_F_X10_takes := by
  refine ct_of (by decide) (fun _ => Nat.le_refl _) ?_
  intro X G Q ad σ a hl hR E hG R hM hv hp
  obtain ⟨x1, x2, x3, x4⟩ := a
  have r_x1 : -2147483648 ≤ x1 ∧ x1 ≤ 2147483647 := hv (0, x1) (List.mem_of_getElem? (i := 1) rfl)
  have r_x2 : -2147483648 ≤ x2 ∧ x2 ≤ 2147483647 := hv (0, x2) (List.mem_of_getElem? (i := 2) rfl)
  have r_x3 : -2147483648 ≤ x3 ∧ x3 ≤ 2147483647 := hv (0, x3) (List.mem_of_getElem? (i := 3) rfl)
  have r_x4 : -2147483648 ≤ x4 ∧ x4 ≤ 2147483647 := hv (0, x4) (List.mem_of_getElem? (i := 4) rfl)
  have B := @bk_ X G Q 0 0 ad SHS_ RX10 cX10_takes 5 (some .int) flX10 plX10 knX10 [(432, 4, TR_ as_F_X10_isPairAndDay (rmI_) pre_F_X10_isPairAndDay post_F_X10_isPairAndDay)] _ _ none kX10_takes [] flX10_ok plX10_ok knX10_ok eX10_takes oX10_takes
    (List.forall_mem_cons.mpr ⟨cok_v (t := 0) (c := 10) (N := 14) (n := 3) (idx := 216) E (ct_F_X10_isPairAndDay X.2.1) (by rw [hR]; decide) (Nat.zero_le _) (Nat.zero_le _) hG rfl rfl ⟨rfl, by decide, by decide, by decide⟩ (fun _ => ⟨_, _, rfl, rfl⟩) wl_X10_216 wi_X10_isPairAndDay ws_X10_isPairAndDay wn_X10 wc_X10_isPairAndDay, fun _ h => absurd h List.not_mem_nil⟩) R sok_no E
  show WP_ X G Q 0 0 ad SHS_ σ 0 [(10, 0), (0, x1), (0, x2), (0, x3), (0, x4)] []
  have hp : FX_ σ := hp
  obtain ⟨hC, hS, hN0, hN1, hN2, hN3, hN4, hN5, hF, hP, hT, hI, hRW⟩ := id hp
  refine B rfl ?_
  refine Exists.intro (x1, x2, x3) (And.intro rfl (And.intro hp ?_))
  rintro _ _ ⟨rfl, rfl⟩
  refine And.intro (fun h4 => ?_) (fun h4 => (by exfalso; omega))
  refine B rfl ?_
  refine Exists.intro _ (And.intro rfl ?_)
  exact And.intro rfl rfl
def as_F_X10_found : Int × Int × Int × Int → List Sv_t := fun a => [(10, 0), (0, a.1), (0, a.2.1), (0, a.2.2.1), (0, a.2.2.2)]
def pre_F_X10_found : Int × Int × Int × Int → Me_t → Prop := fun a σ => FX_ σ
def post_F_X10_found : Int × Int × Int × Int → Me_t → Int → Me_t → Prop := fun a σ z σ' => z = (-2) ∧ σ = σ'
set_option maxHeartbeats 4000000 in
set_option maxRecDepth 100000 in
theorem ct_F_X10_found (l : Launch) : CT_ l yX10_found cX10_found 5 (some .int) 3 66 as_F_X10_found (rmI_) pre_F_X10_found post_F_X10_found := by
  refine ct_of (by decide) (fun _ => Nat.le_refl _) ?_
  intro X G Q ad σ a hl hR E hG R hM hv hp
  obtain ⟨x1, x2, x3, x4⟩ := a
  have r_x1 : -2147483648 ≤ x1 ∧ x1 ≤ 2147483647 := hv (0, x1) (List.mem_of_getElem? (i := 1) rfl)
  have r_x2 : -2147483648 ≤ x2 ∧ x2 ≤ 2147483647 := hv (0, x2) (List.mem_of_getElem? (i := 2) rfl)
  have r_x3 : -2147483648 ≤ x3 ∧ x3 ≤ 2147483647 := hv (0, x3) (List.mem_of_getElem? (i := 3) rfl)
  have r_x4 : -2147483648 ≤ x4 ∧ x4 ≤ 2147483647 := hv (0, x4) (List.mem_of_getElem? (i := 4) rfl)
  have B := @bk_ X G Q 0 0 ad SHS_ RX10 cX10_found 5 (some .int) flX10 plX10 knX10 [(678, 4, TR_ as_F_X9_hasPlainDate (rmI_) pre_F_X9_hasPlainDate post_F_X9_hasPlainDate)] _ _ none kX10_found [] flX10_ok plX10_ok knX10_ok eX10_found oX10_found
    (List.forall_mem_cons.mpr ⟨cok_v (t := 5) (c := 9) (N := 10) (n := 3) (idx := 339) E (ct_F_X9_hasPlainDate X.2.1) (by rw [hR]; decide) (Nat.zero_le _) (Nat.zero_le _) hG rfl rfl ⟨rfl, by decide, by decide, by decide⟩ (fun _ => ⟨_, _, rfl, rfl⟩) wl_X10_339 wi_X9_hasPlainDate ws_X9_hasPlainDate wn_X9 wc_X9_hasPlainDate, fun _ h => absurd h List.not_mem_nil⟩) R sok_no E
  show WP_ X G Q 0 0 ad SHS_ σ 0 [(10, 0), (0, x1), (0, x2), (0, x3), (0, x4)] []
  have hp : FX_ σ := hp
  obtain ⟨hC, hS, hN0, hN1, hN2, hN3, hN4, hN5, hF, hP, hT, hI, hRW⟩ := id hp
  refine B rfl ?_
  refine Exists.intro (σ 0 2, x1, x2, x3) (And.intro rfl (And.intro hN2 ?_))
  rintro _ _ ⟨rfl, rfl⟩
  refine And.intro (fun h4 => ?_) (fun h4 => (by exfalso; omega))
  refine B rfl ?_
  refine Exists.intro _ (And.intro rfl ?_)
  exact And.intro rfl rfl
def as_F_X10_grant : Int × Int × Int → List Sv_t := fun a => [(10, 0), (0, a.1), (0, a.2.1), (0, a.2.2)]
def pre_F_X10_grant : Int × Int × Int → Me_t → Prop := fun a σ => FX_ σ
def post_F_X10_grant : Int × Int × Int → Me_t → Int → Me_t → Prop := fun a σ z σ' => z = (-2) ∧ σ = σ'
set_option maxHeartbeats 4000000 in
set_option maxRecDepth 100000 in
theorem ct_F_X10_grant (l : Launch) : CT_ l yX10_grant cX10_grant 4 (some .int) 2 42 as_F_X10_grant (rmI_) pre_F_X10_grant post_F_X10_grant := by
  refine ct_of (by decide) (fun _ => Nat.le_refl _) ?_
  intro X G Q ad σ a hl hR E hG R hM hv hp
  obtain ⟨x1, x2, x3⟩ := a
  have r_x1 : -2147483648 ≤ x1 ∧ x1 ≤ 2147483647 := hv (0, x1) (List.mem_of_getElem? (i := 1) rfl)
  have r_x2 : -2147483648 ≤ x2 ∧ x2 ≤ 2147483647 := hv (0, x2) (List.mem_of_getElem? (i := 2) rfl)
  have r_x3 : -2147483648 ≤ x3 ∧ x3 ≤ 2147483647 := hv (0, x3) (List.mem_of_getElem? (i := 3) rfl)
  have B := @bk_ X G Q 0 0 ad SHS_ RX10 cX10_grant 4 (some .int) flX10 plX10 knX10 [(226, 2, TR_ as_F_X9_hasLand (rmI_) pre_F_X9_hasLand post_F_X9_hasLand)] _ _ none kX10_grant [] flX10_ok plX10_ok knX10_ok eX10_grant oX10_grant
    (List.forall_mem_cons.mpr ⟨cok_v (t := 5) (c := 9) (N := 10) (n := 1) (idx := 113) E (ct_F_X9_hasLand X.2.1) (by rw [hR]; decide) (Nat.zero_le _) (Nat.zero_le _) hG rfl rfl ⟨rfl, by decide, by decide, by decide⟩ (fun _ => ⟨_, _, rfl, rfl⟩) wl_X10_113 wi_X9_hasLand ws_X9_hasLand wn_X9 wc_X9_hasLand, fun _ h => absurd h List.not_mem_nil⟩) R sok_no E
  show WP_ X G Q 0 0 ad SHS_ σ 0 [(10, 0), (0, x1), (0, x2), (0, x3)] []
  have hp : FX_ σ := hp
  obtain ⟨hC, hS, hN0, hN1, hN2, hN3, hN4, hN5, hF, hP, hT, hI, hRW⟩ := id hp
  refine B rfl ?_
  refine Exists.intro (σ 0 2, x1) (And.intro rfl (And.intro hN2 ?_))
  rintro _ _ ⟨rfl, rfl⟩
  refine And.intro (fun h4 => ?_) (fun h4 => (by exfalso; omega))
  refine B rfl ?_
  refine Exists.intro _ (And.intro rfl ?_)
  exact And.intro rfl rfl
def as_F_X10_ends : Int → List Sv_t := fun a => [(10, 0), (0, a)]
def pre_F_X10_ends : Int → Me_t → Prop := fun a σ => FX_ σ
def post_F_X10_ends : Int → Me_t → Int → Me_t → Prop := fun a σ z σ' => z = (-2) ∧ σ = σ'
set_option maxHeartbeats 4000000 in
set_option maxRecDepth 100000 in
theorem ct_F_X10_ends (l : Launch) : CT_ l yX10_ends cX10_ends 3 (some .int) 2 62 as_F_X10_ends (rmI_) pre_F_X10_ends post_F_X10_ends := by
  refine ct_of (by decide) (fun _ => Nat.le_of_ble_eq_true rfl) ?_
  intro X G Q ad σ a hl hR E hG R hM hv hp
  obtain ⟨x1, rfl⟩ : ∃ q : Int, q = a := ⟨_, rfl⟩
  have r_x1 : -2147483648 ≤ x1 ∧ x1 ≤ 2147483647 := hv (0, x1) (List.mem_of_getElem? (i := 1) rfl)
  have B := @bk_ X G Q 0 0 ad SHS_ RX10 cX10_ends 3 (some .int) flX10 plX10 knX10 [(226, 2, TR_ as_F_X9_hasLand (rmI_) pre_F_X9_hasLand post_F_X9_hasLand)] _ _ none kX10_ends [] flX10_ok plX10_ok knX10_ok eX10_ends oX10_ends
    (List.forall_mem_cons.mpr ⟨cok_v (t := 5) (c := 9) (N := 10) (n := 1) (idx := 113) E (ct_F_X9_hasLand X.2.1) (by rw [hR]; decide) (Nat.zero_le _) (Nat.zero_le _) hG rfl rfl ⟨rfl, by decide, by decide, by decide⟩ (fun _ => ⟨_, _, rfl, rfl⟩) wl_X10_113 wi_X9_hasLand ws_X9_hasLand wn_X9 wc_X9_hasLand, fun _ h => absurd h List.not_mem_nil⟩) R sok_no E
  show WP_ X G Q 0 0 ad SHS_ σ 0 [(10, 0), (0, x1), (9, 0)] []
  have hp : FX_ σ := hp
  obtain ⟨hC, hS, hN0, hN1, hN2, hN3, hN4, hN5, hF, hP, hT, hI, hRW⟩ := id hp
  refine B rfl ?_
  refine Exists.intro (σ 0 2, x1) (And.intro rfl (And.intro hN2 ?_))
  rintro _ _ ⟨rfl, rfl⟩
  refine And.intro (fun h4 => (by exfalso; omega)) (fun h4 => ?_)
  refine Exists.intro _ (And.intro rfl ?_)
  exact And.intro rfl rfl
def as_F_X10_undo : Unit → List Sv_t := fun a => [(10, 0)]
def pre_F_X10_undo : Unit → Me_t → Prop := fun a σ => FX_ σ
def post_F_X10_undo : Unit → Me_t → Int → Me_t → Prop := fun a σ z σ' => z = (-2) ∧ σ = σ'
set_option maxHeartbeats 4000000 in
set_option maxRecDepth 100000 in
theorem ct_F_X10_undo (l : Launch) : CT_ l yX10_undo cX10_undo 1 (some .int) 3 88 as_F_X10_undo (rmI_) pre_F_X10_undo post_F_X10_undo := by
  refine ct_of (by decide) (fun _ => Nat.le_refl _) ?_
  intro X G Q ad σ a hl hR E hG R hM hv hp
  have B := @bk_ X G Q 0 0 ad SHS_ RX10 cX10_undo 1 (some .int) flX10 plX10 knX10 [] _ _ none kX10_undo [] flX10_ok plX10_ok knX10_ok eX10_undo oX10_undo
    (fun _ h => absurd h List.not_mem_nil) R sok_no E
  show WP_ X G Q 0 0 ad SHS_ σ 0 [(10, 0)] []
  have hp : FX_ σ := hp
  obtain ⟨hC, hS, hN0, hN1, hN2, hN3, hN4, hN5, hF, hP, hT, hI, hRW⟩ := id hp
  refine B rfl ?_
  refine And.intro (fun h1 => (by exfalso; omega)) (fun h1 => ?_)
  refine Exists.intro _ (And.intro rfl ?_)
  exact And.intro rfl rfl
def as_F_X10_drawn : Int × Int × Int × Int → List Sv_t := fun a => [(10, 0), (0, a.1), (0, a.2.1), (0, a.2.2.1), (0, a.2.2.2)]
def pre_F_X10_drawn : Int × Int × Int × Int → Me_t → Prop := fun a σ => FX_ σ
def post_F_X10_drawn : Int × Int × Int × Int → Me_t → Int → Me_t → Prop := fun a σ z σ' => z = (-2) ∧ σ = σ'
set_option maxHeartbeats 4000000 in
set_option maxRecDepth 100000 in
theorem ct_F_X10_drawn (l : Launch) : CT_ l yX10_drawn cX10_drawn 13 (some .int) 6 143 as_F_X10_drawn (rmI_) pre_F_X10_drawn post_F_X10_drawn := by
  refine ct_of (by decide) (fun _ => Nat.le_of_ble_eq_true rfl) ?_
  intro X G Q ad σ a hl hR E hG R hM hv hp
  obtain ⟨x1, x2, x3, x4⟩ := a
  have r_x1 : -2147483648 ≤ x1 ∧ x1 ≤ 2147483647 := hv (0, x1) (List.mem_of_getElem? (i := 1) rfl)
  have r_x2 : -2147483648 ≤ x2 ∧ x2 ≤ 2147483647 := hv (0, x2) (List.mem_of_getElem? (i := 2) rfl)
  have r_x3 : -2147483648 ≤ x3 ∧ x3 ≤ 2147483647 := hv (0, x3) (List.mem_of_getElem? (i := 3) rfl)
  have r_x4 : -2147483648 ≤ x4 ∧ x4 ≤ 2147483647 := hv (0, x4) (List.mem_of_getElem? (i := 4) rfl)
  have B := @bk_ X G Q 0 0 ad SHS_ RX10 cX10_drawn 13 (some .int) flX10 plX10 knX10 [] _ _ none kX10_drawn [] flX10_ok plX10_ok knX10_ok eX10_drawn oX10_drawn
    (fun _ h => absurd h List.not_mem_nil) R sok_no E
  show WP_ X G Q 0 0 ad SHS_ σ 0 [(10, 0), (0, x1), (0, x2), (0, x3), (0, x4), (9, 0), (9, 0), (9, 0), (9, 0), (9, 0), (9, 0), (9, 0), (9, 0)] []
  have hp : FX_ σ := hp
  obtain ⟨hC, hS, hN0, hN1, hN2, hN3, hN4, hN5, hF, hP, hT, hI, hRW⟩ := id hp
  refine B rfl ?_
  refine And.intro (fun h1 => ?_) (fun h1 => (by exfalso; omega))
  refine B rfl ?_
  refine Exists.intro _ (And.intro rfl ?_)
  exact And.intro rfl rfl
def as_F_X10_luck : Int × Int × Int × Int × Int → List Sv_t := fun a => [(10, 0), (0, a.1), (0, a.2.1), (0, a.2.2.1), (0, a.2.2.2.1), (0, a.2.2.2.2)]
def pre_F_X10_luck : Int × Int × Int × Int × Int → Me_t → Prop := fun a σ => FX_ σ
def post_F_X10_luck : Int × Int × Int × Int × Int → Me_t → Int → Me_t → Prop := fun a σ z σ' => z = (-2) ∧ σ = σ'
set_option maxHeartbeats 4000000 in
set_option maxRecDepth 100000 in
theorem ct_F_X10_luck (l : Launch) : CT_ l yX10_luck cX10_luck 9 (some .int) 6 143 as_F_X10_luck (rmI_) pre_F_X10_luck post_F_X10_luck := by
  refine ct_of (by decide) (fun _ => Nat.le_of_ble_eq_true rfl) ?_
  intro X G Q ad σ a hl hR E hG R hM hv hp
  obtain ⟨x1, x2, x3, x4, x5⟩ := a
  have r_x1 : -2147483648 ≤ x1 ∧ x1 ≤ 2147483647 := hv (0, x1) (List.mem_of_getElem? (i := 1) rfl)
  have r_x2 : -2147483648 ≤ x2 ∧ x2 ≤ 2147483647 := hv (0, x2) (List.mem_of_getElem? (i := 2) rfl)
  have r_x3 : -2147483648 ≤ x3 ∧ x3 ≤ 2147483647 := hv (0, x3) (List.mem_of_getElem? (i := 3) rfl)
  have r_x4 : -2147483648 ≤ x4 ∧ x4 ≤ 2147483647 := hv (0, x4) (List.mem_of_getElem? (i := 4) rfl)
  have r_x5 : -2147483648 ≤ x5 ∧ x5 ≤ 2147483647 := hv (0, x5) (List.mem_of_getElem? (i := 5) rfl)
  have B := @bk_ X G Q 0 0 ad SHS_ RX10 cX10_luck 9 (some .int) flX10 plX10 knX10 [(226, 2, TR_ as_F_X9_hasLand (rmI_) pre_F_X9_hasLand post_F_X9_hasLand)] _ _ none kX10_luck [] flX10_ok plX10_ok knX10_ok eX10_luck oX10_luck
    (List.forall_mem_cons.mpr ⟨cok_v (t := 5) (c := 9) (N := 10) (n := 1) (idx := 113) E (ct_F_X9_hasLand X.2.1) (by rw [hR]; decide) (Nat.zero_le _) (Nat.zero_le _) hG rfl rfl ⟨rfl, by decide, by decide, by decide⟩ (fun _ => ⟨_, _, rfl, rfl⟩) wl_X10_113 wi_X9_hasLand ws_X9_hasLand wn_X9 wc_X9_hasLand, fun _ h => absurd h List.not_mem_nil⟩) R sok_no E
  show WP_ X G Q 0 0 ad SHS_ σ 0 [(10, 0), (0, x1), (0, x2), (0, x3), (0, x4), (0, x5), (9, 0), (9, 0), (9, 0)] []
  have hp : FX_ σ := hp
  obtain ⟨hC, hS, hN0, hN1, hN2, hN3, hN4, hN5, hF, hP, hT, hI, hRW⟩ := id hp
  refine B rfl ?_
  refine Exists.intro (σ 0 2, x3) (And.intro rfl (And.intro hN2 ?_))
  rintro _ _ ⟨rfl, rfl⟩
  refine And.intro (fun h4 => ?_) (fun h4 => (by exfalso; omega))
  refine B rfl ?_
  refine Exists.intro _ (And.intro rfl ?_)
  exact And.intro rfl rfl
def as_F_X10_gains : Int × Int × Int × Int → List Sv_t := fun a => [(10, 0), (0, a.1), (0, a.2.1), (0, a.2.2.1), (0, a.2.2.2)]
def pre_F_X10_gains : Int × Int × Int × Int → Me_t → Prop := fun a σ => FX_ σ
def post_F_X10_gains : Int × Int × Int × Int → Me_t → Int → Me_t → Prop := fun a σ z σ' => z = (-2000) ∧ σ = σ'
set_option maxHeartbeats 4000000 in
set_option maxRecDepth 100000 in
theorem ct_F_X10_gains (l : Launch) : CT_ l yX10_gains cX10_gains 7 (some .int) 6 143 as_F_X10_gains (rmI_) pre_F_X10_gains post_F_X10_gains := by
  refine ct_of (by decide) (fun _ => Nat.le_of_ble_eq_true rfl) ?_
  intro X G Q ad σ a hl hR E hG R hM hv hp
  obtain ⟨x1, x2, x3, x4⟩ := a
  have r_x1 : -2147483648 ≤ x1 ∧ x1 ≤ 2147483647 := hv (0, x1) (List.mem_of_getElem? (i := 1) rfl)
  have r_x2 : -2147483648 ≤ x2 ∧ x2 ≤ 2147483647 := hv (0, x2) (List.mem_of_getElem? (i := 2) rfl)
  have r_x3 : -2147483648 ≤ x3 ∧ x3 ≤ 2147483647 := hv (0, x3) (List.mem_of_getElem? (i := 3) rfl)
  have r_x4 : -2147483648 ≤ x4 ∧ x4 ≤ 2147483647 := hv (0, x4) (List.mem_of_getElem? (i := 4) rfl)
  have B := @bk_ X G Q 0 0 ad SHS_ RX10 cX10_gains 7 (some .int) flX10 plX10 knX10 [(432, 4, TR_ as_F_X10_isPairAndDay (rmI_) pre_F_X10_isPairAndDay post_F_X10_isPairAndDay)] _ _ none kX10_gains [] flX10_ok plX10_ok knX10_ok eX10_gains oX10_gains
    (List.forall_mem_cons.mpr ⟨cok_v (t := 0) (c := 10) (N := 14) (n := 3) (idx := 216) E (ct_F_X10_isPairAndDay X.2.1) (by rw [hR]; decide) (Nat.zero_le _) (Nat.zero_le _) hG rfl rfl ⟨rfl, by decide, by decide, by decide⟩ (fun _ => ⟨_, _, rfl, rfl⟩) wl_X10_216 wi_X10_isPairAndDay ws_X10_isPairAndDay wn_X10 wc_X10_isPairAndDay, fun _ h => absurd h List.not_mem_nil⟩) R sok_no E
  show WP_ X G Q 0 0 ad SHS_ σ 0 [(10, 0), (0, x1), (0, x2), (0, x3), (0, x4), (9, 0), (9, 0)] []
  have hp : FX_ σ := hp
  obtain ⟨hC, hS, hN0, hN1, hN2, hN3, hN4, hN5, hF, hP, hT, hI, hRW⟩ := id hp
  refine B rfl ?_
  refine Exists.intro (x1, x2, x3) (And.intro rfl (And.intro hp ?_))
  rintro _ _ ⟨rfl, rfl⟩
  refine And.intro (fun h4 => ?_) (fun h4 => (by exfalso; omega))
  refine B rfl ?_
  refine Exists.intro _ (And.intro rfl ?_)
  exact And.intro rfl rfl
