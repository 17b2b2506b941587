def as_F_X11_in : Int × Int × Int → List Sv_t := fun a => [(1, a.1), (1, a.2.1), (1, a.2.2)]
def pre_F_X11_in : Int × Int × Int → Me_t → Prop := fun a σ => True
def post_F_X11_in : Int × Int × Int → Me_t → Int → Me_t → Prop := fun a σ z σ' => σ = σ' ∧ (z = 0 ∨ z = 1) ∧ (z = 1 ↔ a.2.1 ≤ a.1 ∧ a.1 ≤ a.2.2)
set_option maxHeartbeats 4000000 in
set_option maxRecDepth 100000 in
theorem ct_F_X11_in (l : Launch) : CT_ l yX11_in cX11_in 6 (some .boolean) 0 0 as_F_X11_in (rmI_) pre_F_X11_in post_F_X11_in := by
  refine ct_of (by decide) (fun _ => Nat.le_refl _) ?_
  intro X G Q ad σ a hl hR E hG R hM hv hp
  obtain ⟨v, lo, hi⟩ := a
  have r_v : -9223372036854775808 ≤ v ∧ v ≤ 9223372036854775807 := hv (1, v) (List.mem_of_getElem? (i := 0) rfl)
  have r_lo : -9223372036854775808 ≤ lo ∧ lo ≤ 9223372036854775807 := hv (1, lo) (List.mem_of_getElem? (i := 1) rfl)
  have r_hi : -9223372036854775808 ≤ hi ∧ hi ≤ 9223372036854775807 := hv (1, hi) (List.mem_of_getElem? (i := 2) rfl)
  have B := @bk_ X G Q 0 0 ad SHS_ RX11 cX11_in 6 (some .boolean) flX11 plX11 knX11 [] _ _ none kX11_in [] flX11_ok plX11_ok knX11_ok eX11_in oX11_in
    (fun _ h => absurd h List.not_mem_nil) R sok_no E
  show WP_ X G Q 0 0 ad SHS_ σ 0 [(1, v), (9, 0), (1, lo), (9, 0), (1, hi), (9, 0)] []
  refine B rfl ?_
  refine And.intro (fun h1 => ?_) (fun h1 => ?_)
  · simp only [lcmp_lt0, lcmp_ge0, lcmp_gt0, lcmp_le0, lcmp_eq0] at h1
    refine B rfl ?_
    refine And.intro (by omega) ?_
    refine Exists.intro _ (And.intro rfl ?_)
    refine And.intro rfl (And.intro ?_ ?_) <;> (try dsimp only) <;> omega
  · simp only [lcmp_lt0, lcmp_ge0, lcmp_gt0, lcmp_le0, lcmp_eq0] at h1
    refine And.intro (fun h2 => ?_) (fun h2 => ?_)
    · simp only [lcmp_lt0, lcmp_ge0, lcmp_gt0, lcmp_le0, lcmp_eq0] at h2
      refine B rfl ?_
      refine And.intro (by omega) ?_
      refine Exists.intro _ (And.intro rfl ?_)
      refine And.intro rfl (And.intro ?_ ?_) <;> (try dsimp only) <;> omega
    · simp only [lcmp_lt0, lcmp_ge0, lcmp_gt0, lcmp_le0, lcmp_eq0] at h2
      refine B rfl ?_
      refine And.intro (by omega) ?_
      refine Exists.intro _ (And.intro rfl ?_)
      refine And.intro rfl (And.intro ?_ ?_) <;> (try dsimp only) <;> omega
def as_F0_in : Int × Int × Int → List Sv_t := fun a => [(1, a.1), (1, a.2.1), (1, a.2.2)]
def pre_F0_in : Int × Int × Int → Me_t → Prop := fun a σ => a.2.2 < a.2.1
def post_F0_in : Int × Int × Int → Me_t → Int → Me_t → Prop := fun a σ z σ' => z = 0 ∧ σ = σ'
set_option maxHeartbeats 4000000 in
set_option maxRecDepth 100000 in
theorem ct_F0_in (l : Launch) : CT_ l yX11_in cX11_in 6 (some .boolean) 0 0 as_F0_in (rmI_) pre_F0_in post_F0_in := by
  refine ct_of (by decide) (fun _ => Nat.le_refl _) ?_
  intro X G Q ad σ a hl hR E hG R hM hv hp
  obtain ⟨v, lo, hi⟩ := a
  have r_v : -9223372036854775808 ≤ v ∧ v ≤ 9223372036854775807 := hv (1, v) (List.mem_of_getElem? (i := 0) rfl)
  have r_lo : -9223372036854775808 ≤ lo ∧ lo ≤ 9223372036854775807 := hv (1, lo) (List.mem_of_getElem? (i := 1) rfl)
  have r_hi : -9223372036854775808 ≤ hi ∧ hi ≤ 9223372036854775807 := hv (1, hi) (List.mem_of_getElem? (i := 2) rfl)
  have B := @bk_ X G Q 0 0 ad SHS_ RX11 cX11_in 6 (some .boolean) flX11 plX11 knX11 [] _ _ none kX11_in [] flX11_ok plX11_ok knX11_ok eX11_in oX11_in
    (fun _ h => absurd h List.not_mem_nil) R sok_no E
  show WP_ X G Q 0 0 ad SHS_ σ 0 [(1, v), (9, 0), (1, lo), (9, 0), (1, hi), (9, 0)] []
  have hp : hi < lo := hp
  refine B rfl ?_
  refine And.intro (fun h1 => ?_) (fun h1 => ?_)
  · simp only [lcmp_lt0, lcmp_ge0, lcmp_gt0, lcmp_le0, lcmp_eq0] at h1
    refine B rfl ?_
    refine And.intro (by omega) ?_
    refine Exists.intro _ (And.intro rfl ?_)
    exact And.intro (by omega) rfl
  · simp only [lcmp_lt0, lcmp_ge0, lcmp_gt0, lcmp_le0, lcmp_eq0] at h1
    refine And.intro (fun h2 => ?_) (fun h2 => ?_)
    · simp only [lcmp_lt0, lcmp_ge0, lcmp_gt0, lcmp_le0, lcmp_eq0] at h2
      refine B rfl ?_
      refine And.intro (by omega) ?_
      refine Exists.intro _ (And.intro rfl ?_)
      exact And.intro (by omega) rfl
    · simp only [lcmp_lt0, lcmp_ge0, lcmp_gt0, lcmp_le0, lcmp_eq0] at h2
      refine B rfl ?_
      refine And.intro (by omega) ?_
      refine Exists.intro _ (And.intro rfl ?_)
      exact And.intro (by omega) rfl
def as_F_X11_isDay : Int → List Sv_t := fun a => [(1, a)]
def pre_F_X11_isDay : Int → Me_t → Prop := fun a σ => True
def post_F_X11_isDay : Int → Me_t → Int → Me_t → Prop := fun a σ z σ' => σ = σ' ∧ (z = 0 ∨ z = 1) ∧ (z = 1 ↔ 0 ≤ a ∧ a ≤ 1999)
set_option maxHeartbeats 4000000 in
set_option maxRecDepth 100000 in
theorem ct_F_X11_isDay (l : Launch) : CT_ l yX11_isDay cX11_isDay 2 (some .boolean) 1 25 as_F_X11_isDay (rmI_) pre_F_X11_isDay post_F_X11_isDay := by
  refine ct_of (by decide) (fun _ => Nat.le_refl _) ?_
  intro X G Q ad σ a hl hR E hG R hM hv hp
  obtain ⟨v, rfl⟩ : ∃ q : Int, q = a := ⟨_, rfl⟩
  have r_v : -9223372036854775808 ≤ v ∧ v ≤ 9223372036854775807 := hv (1, v) (List.mem_of_getElem? (i := 0) rfl)
  have B := @bk_ X G Q 0 0 ad SHS_ RX11 cX11_isDay 2 (some .boolean) flX11 plX11 knX11 [(159, 3, TR_ as_F_X11_in (rmI_) pre_F_X11_in post_F_X11_in)] _ _ none kX11_isDay [] flX11_ok plX11_ok knX11_ok eX11_isDay oX11_isDay
    (List.forall_mem_cons.mpr ⟨cok_s (n := 3) (idx := 79) E (ct_F_X11_in X.2.1) (by rw [hR]; decide) (Nat.zero_le _) (Nat.zero_le _) hG ⟨by decide, by decide, by decide⟩ (fun _ => rfl) wl_X11_79 wt_X11_in wn_X11 wc_X11_in, fun _ h => absurd h List.not_mem_nil⟩) R sok_no E
  show WP_ X G Q 0 0 ad SHS_ σ 0 [(1, v), (9, 0)] []
  refine B rfl ?_
  refine Exists.intro (v, 0, 1999) (And.intro rfl (And.intro trivial ?_))
  rintro z1 _ ⟨rfl, h3⟩
  try dsimp only at h3
  refine And.intro (by omega) ?_
  refine Exists.intro _ (And.intro rfl ?_)
  refine And.intro rfl (And.intro ?_ ?_) <;> (try dsimp only) <;> omega
def as_F_X11_isYear : Int → List Sv_t := fun a => [(1, a)]
def pre_F_X11_isYear : Int → Me_t → Prop := fun a σ => True
def post_F_X11_isYear : Int → Me_t → Int → Me_t → Prop := fun a σ z σ' => σ = σ' ∧ (z = 0 ∨ z = 1) ∧ (z = 1 ↔ 0 ≤ a ∧ a ≤ 1999)
set_option maxHeartbeats 4000000 in
set_option maxRecDepth 100000 in
theorem ct_F_X11_isYear (l : Launch) : CT_ l yX11_isYear cX11_isYear 2 (some .boolean) 1 25 as_F_X11_isYear (rmI_) pre_F_X11_isYear post_F_X11_isYear := by
  refine ct_of (by decide) (fun _ => Nat.le_refl _) ?_
  intro X G Q ad σ a hl hR E hG R hM hv hp
  obtain ⟨v, rfl⟩ : ∃ q : Int, q = a := ⟨_, rfl⟩
  have r_v : -9223372036854775808 ≤ v ∧ v ≤ 9223372036854775807 := hv (1, v) (List.mem_of_getElem? (i := 0) rfl)
  have B := @bk_ X G Q 0 0 ad SHS_ RX11 cX11_isYear 2 (some .boolean) flX11 plX11 knX11 [(159, 3, TR_ as_F_X11_in (rmI_) pre_F_X11_in post_F_X11_in)] _ _ none kX11_isYear [] flX11_ok plX11_ok knX11_ok eX11_isYear oX11_isYear
    (List.forall_mem_cons.mpr ⟨cok_s (n := 3) (idx := 79) E (ct_F_X11_in X.2.1) (by rw [hR]; decide) (Nat.zero_le _) (Nat.zero_le _) hG ⟨by decide, by decide, by decide⟩ (fun _ => rfl) wl_X11_79 wt_X11_in wn_X11 wc_X11_in, fun _ h => absurd h List.not_mem_nil⟩) R sok_no E
  show WP_ X G Q 0 0 ad SHS_ σ 0 [(1, v), (9, 0)] []
  refine B rfl ?_
  refine Exists.intro (v, 0, 1999) (And.intro rfl (And.intro trivial ?_))
  rintro z1 _ ⟨rfl, h3⟩
  try dsimp only at h3
  refine And.intro (by omega) ?_
  refine Exists.intro _ (And.intro rfl ?_)
  refine And.intro rfl (And.intro ?_ ?_) <;> (try dsimp only) <;> omega
def as_F_X11_isSlot : Int → List Sv_t := fun a => [(0, a)]
def pre_F_X11_isSlot : Int → Me_t → Prop := fun a σ => True
def post_F_X11_isSlot : Int → Me_t → Int → Me_t → Prop := fun a σ z σ' => σ = σ' ∧ (z = 0 ∨ z = 1) ∧ (z = 1 ↔ 0 ≤ a ∧ a ≤ 3)
set_option maxHeartbeats 4000000 in
set_option maxRecDepth 100000 in
theorem ct_F_X11_isSlot (l : Launch) : CT_ l yX11_isSlot cX11_isSlot 1 (some .boolean) 1 25 as_F_X11_isSlot (rmI_) pre_F_X11_isSlot post_F_X11_isSlot := by
  refine ct_of (by decide) (fun _ => Nat.le_refl _) ?_
  intro X G Q ad σ a hl hR E hG R hM hv hp
  obtain ⟨v, rfl⟩ : ∃ q : Int, q = a := ⟨_, rfl⟩
  have r_v : -2147483648 ≤ v ∧ v ≤ 2147483647 := hv (0, v) (List.mem_of_getElem? (i := 0) rfl)
  have B := @bk_ X G Q 0 0 ad SHS_ RX11 cX11_isSlot 1 (some .boolean) flX11 plX11 knX11 [(159, 3, TR_ as_F_X11_in (rmI_) pre_F_X11_in post_F_X11_in)] _ _ none kX11_isSlot [] flX11_ok plX11_ok knX11_ok eX11_isSlot oX11_isSlot
    (List.forall_mem_cons.mpr ⟨cok_s (n := 3) (idx := 79) E (ct_F_X11_in X.2.1) (by rw [hR]; decide) (Nat.zero_le _) (Nat.zero_le _) hG ⟨by decide, by decide, by decide⟩ (fun _ => rfl) wl_X11_79 wt_X11_in wn_X11 wc_X11_in, fun _ h => absurd h List.not_mem_nil⟩) R sok_no E
  show WP_ X G Q 0 0 ad SHS_ σ 0 [(0, v)] []
  refine B rfl ?_
  refine Exists.intro (v, 0, 3) (And.intro rfl (And.intro trivial ?_))
  rintro z1 _ ⟨rfl, h3⟩
  try dsimp only at h3
  refine And.intro (by omega) ?_
  refine Exists.intro _ (And.intro rfl ?_)
  refine And.intro rfl (And.intro ?_ ?_) <;> (try dsimp only) <;> omega
def as_F_X11_isSeed : Int → List Sv_t := fun a => [(0, a)]
def pre_F_X11_isSeed : Int → Me_t → Prop := fun a σ => True
def post_F_X11_isSeed : Int → Me_t → Int → Me_t → Prop := fun a σ z σ' => σ = σ' ∧ (z = 0 ∨ z = 1)
set_option maxHeartbeats 4000000 in
set_option maxRecDepth 100000 in
theorem ct_F_X11_isSeed (l : Launch) : CT_ l yX11_isSeed cX11_isSeed 1 (some .boolean) 1 25 as_F_X11_isSeed (rmI_) pre_F_X11_isSeed post_F_X11_isSeed := by
  refine ct_of (by decide) (fun _ => Nat.le_refl _) ?_
  intro X G Q ad σ a hl hR E hG R hM hv hp
  obtain ⟨x1, rfl⟩ : ∃ q : Int, q = a := ⟨_, rfl⟩
  have r_x1 : -2147483648 ≤ x1 ∧ x1 ≤ 2147483647 := hv (0, x1) (List.mem_of_getElem? (i := 0) rfl)
  have B := @bk_ X G Q 0 0 ad SHS_ RX11 cX11_isSeed 1 (some .boolean) flX11 plX11 knX11 [(159, 3, TR_ as_F_X11_in (rmI_) pre_F_X11_in post_F_X11_in)] _ _ none kX11_isSeed [] flX11_ok plX11_ok knX11_ok eX11_isSeed oX11_isSeed
    (List.forall_mem_cons.mpr ⟨cok_s (n := 3) (idx := 79) E (ct_F_X11_in X.2.1) (by rw [hR]; decide) (Nat.zero_le _) (Nat.zero_le _) hG ⟨by decide, by decide, by decide⟩ (fun _ => rfl) wl_X11_79 wt_X11_in wn_X11 wc_X11_in, fun _ h => absurd h List.not_mem_nil⟩) R sok_no E
  show WP_ X G Q 0 0 ad SHS_ σ 0 [(0, x1)] []
  refine B rfl ?_
  refine Exists.intro (x1, 0, 2000000000) (And.intro rfl (And.intro trivial ?_))
  rintro z1 _ ⟨rfl, h3⟩
  try dsimp only at h3
  refine And.intro (by omega) ?_
  refine Exists.intro _ (And.intro rfl ?_)
  exact And.intro rfl (by omega)
def as_F_X11_isSpan : Int × Int → List Sv_t := fun a => [(0, a.1), (0, a.2)]
def pre_F_X11_isSpan : Int × Int → Me_t → Prop := fun a σ => True
def post_F_X11_isSpan : Int × Int → Me_t → Int → Me_t → Prop := fun a σ z σ' => σ = σ' ∧ (z = 0 ∨ z = 1)
set_option maxHeartbeats 4000000 in
set_option maxRecDepth 100000 in
theorem ct_F_X11_isSpan (l : Launch) : CT_ l yX11_isSpan cX11_isSpan 2 (some .boolean) 2 46 as_F_X11_isSpan (rmI_) pre_F_X11_isSpan post_F_X11_isSpan := by
  refine ct_of (by decide) (fun _ => Nat.le_refl _) ?_
  intro X G Q ad σ a hl hR E hG R hM hv hp
  obtain ⟨x1, x2⟩ := a
  have r_x1 : -2147483648 ≤ x1 ∧ x1 ≤ 2147483647 := hv (0, x1) (List.mem_of_getElem? (i := 0) rfl)
  have r_x2 : -2147483648 ≤ x2 ∧ x2 ≤ 2147483647 := hv (0, x2) (List.mem_of_getElem? (i := 1) rfl)
  have B := @bk_ X G Q 0 0 ad SHS_ RX11 cX11_isSpan 2 (some .boolean) flX11 plX11 knX11 [(179, 1, TR_ as_F_X11_isDay (rmI_) pre_F_X11_isDay post_F_X11_isDay)] _ _ none kX11_isSpan [] flX11_ok plX11_ok knX11_ok eX11_isSpan oX11_isSpan
    (List.forall_mem_cons.mpr ⟨cok_s (n := 1) (idx := 89) E (ct_F_X11_isDay X.2.1) (by rw [hR]; decide) (Nat.zero_le _) (Nat.zero_le _) hG ⟨by decide, by decide, by decide⟩ (fun _ => rfl) wl_X11_89 wt_X11_isDay wn_X11 wc_X11_isDay, fun _ h => absurd h List.not_mem_nil⟩) R sok_no E
  show WP_ X G Q 0 0 ad SHS_ σ 0 [(0, x1), (0, x2)] []
  refine B rfl ?_
  refine Exists.intro x1 (And.intro rfl (And.intro trivial ?_))
  rintro z1 _ ⟨rfl, h3⟩
  try dsimp only at h3
  refine And.intro (fun h4 => ?_) (fun h4 => ?_)
  · skip
    refine B rfl ?_
    refine And.intro (by omega) ?_
    refine Exists.intro _ (And.intro rfl ?_)
    exact And.intro rfl (by omega)
  · skip
    refine Exists.intro x2 (And.intro rfl (And.intro trivial ?_))
    rintro z5 _ ⟨rfl, h7⟩
    try dsimp only at h7
    refine And.intro (fun h8 => ?_) (fun h8 => ?_)
    · skip
      refine B rfl ?_
      refine And.intro (by omega) ?_
      refine Exists.intro _ (And.intro rfl ?_)
      exact And.intro rfl (by omega)
    · skip
      refine And.intro (fun h9 => ?_) (fun h9 => ?_)
      · skip
        refine B rfl ?_
        refine And.intro (by omega) ?_
        refine Exists.intro _ (And.intro rfl ?_)
        exact And.intro rfl (by omega)
      · skip
        refine B rfl ?_
        refine And.intro (by omega) ?_
        refine Exists.intro _ (And.intro rfl ?_)
        exact And.intro rfl (by omega)
def as_F_X11_isWar : Unit → List Sv_t := fun a => [(42, 86)]
def pre_F_X11_isWar : Unit → Me_t → Prop := fun a σ => FM_ σ
def post_F_X11_isWar : Unit → Me_t → Int → Me_t → Prop := fun a σ z σ' => z = 0 ∧ σ = σ'
set_option maxHeartbeats 4000000 in
set_option maxRecDepth 100000 in
theorem ct_F_X11_isWar (l : Launch) : CT_ l yX11_isWar cX11_isWar 1 (some .boolean) 0 0 as_F_X11_isWar (rmI_) pre_F_X11_isWar post_F_X11_isWar := by
  refine ct_of (by decide) (fun _ => Nat.le_refl _) ?_
  intro X G Q ad σ a hl hR E hG R hM hv hp
  have B := @bk_ X G Q 0 0 ad SHS_ RX11 cX11_isWar 1 (some .boolean) flX11 plX11 knX11 [] _ _ none kX11_isWar [] flX11_ok plX11_ok knX11_ok eX11_isWar oX11_isWar
    (fun _ h => absurd h List.not_mem_nil) R sok_no E
  show WP_ X G Q 0 0 ad SHS_ σ 0 [(42, 86)] []
  have hp : FM_ σ := hp
  obtain ⟨hW0, hW1, hW2, hW3, hW4, hW5, hT, hF, hP, hI, hY, hSz, hAt, hFr⟩ := id hp
  refine B rfl ?_
  refine And.intro (by omega) ?_
  refine And.intro (fun h1 => ?_) (fun h1 => (by exfalso; omega))
  refine B rfl ?_
  refine And.intro (by omega) ?_
  refine Exists.intro _ (And.intro rfl ?_)
  exact And.intro rfl rfl
def as_F_X11_isLand : Int → List Sv_t := fun a => [(42, 86), (1, a)]
def pre_F_X11_isLand : Int → Me_t → Prop := fun a σ => FM_ σ
def post_F_X11_isLand : Int → Me_t → Int → Me_t → Prop := fun a σ z σ' => z = 0 ∧ σ = σ'
set_option maxHeartbeats 4000000 in
set_option maxRecDepth 100000 in
theorem ct_F_X11_isLand (l : Launch) : CT_ l yX11_isLand cX11_isLand 3 (some .boolean) 1 25 as_F_X11_isLand (rmI_) pre_F_X11_isLand post_F_X11_isLand := by
  refine ct_of (by decide) (fun _ => Nat.le_refl _) ?_
  intro X G Q ad σ a hl hR E hG R hM hv hp
  obtain ⟨x1, rfl⟩ : ∃ q : Int, q = a := ⟨_, rfl⟩
  have r_x1 : -9223372036854775808 ≤ x1 ∧ x1 ≤ 9223372036854775807 := hv (1, x1) (List.mem_of_getElem? (i := 1) rfl)
  have B := @bk_ X G Q 0 0 ad SHS_ RX11 cX11_isLand 3 (some .boolean) flX11 plX11 knX11 [(159, 3, TR_ as_F0_in (rmI_) pre_F0_in post_F0_in)] _ _ none kX11_isLand [] flX11_ok plX11_ok knX11_ok eX11_isLand oX11_isLand
    (List.forall_mem_cons.mpr ⟨cok_s (n := 3) (idx := 79) E (ct_F0_in X.2.1) (by rw [hR]; decide) (Nat.zero_le _) (Nat.zero_le _) hG ⟨by decide, by decide, by decide⟩ (fun _ => rfl) wl_X11_79 wt_X11_in wn_X11 wc_X11_in, fun _ h => absurd h List.not_mem_nil⟩) R sok_no E
  show WP_ X G Q 0 0 ad SHS_ σ 0 [(42, 86), (1, x1), (9, 0)] []
  have hp : FM_ σ := hp
  obtain ⟨hW0, hW1, hW2, hW3, hW4, hW5, hT, hF, hP, hI, hY, hSz, hAt, hFr⟩ := id hp
  refine B rfl ?_
  refine And.intro (by omega) ?_
  refine And.intro (by omega) ?_
  refine Exists.intro (x1, 0, (σ 87 1) - 1) (And.intro rfl (And.intro (by simp only [pre_F0_in]; omega) ?_))
  rintro _ _ ⟨rfl, rfl⟩
  refine And.intro (by omega) ?_
  refine Exists.intro _ (And.intro rfl ?_)
  exact And.intro rfl rfl
def as_F_X11_areTwo : Int × Int → List Sv_t := fun a => [(42, 86), (0, a.1), (0, a.2)]
def pre_F_X11_areTwo : Int × Int → Me_t → Prop := fun a σ => FM_ σ
def post_F_X11_areTwo : Int × Int → Me_t → Int → Me_t → Prop := fun a σ z σ' => z = 0 ∧ σ = σ'
set_option maxHeartbeats 4000000 in
set_option maxRecDepth 100000 in
theorem ct_F_X11_areTwo (l : Launch) : CT_ l yX11_areTwo cX11_areTwo 3 (some .boolean) 2 47 as_F_X11_areTwo (rmI_) pre_F_X11_areTwo post_F_X11_areTwo := by
  refine ct_of (by decide) (fun _ => Nat.le_refl _) ?_
  intro X G Q ad σ a hl hR E hG R hM hv hp
  obtain ⟨x1, x2⟩ := a
  have r_x1 : -2147483648 ≤ x1 ∧ x1 ≤ 2147483647 := hv (0, x1) (List.mem_of_getElem? (i := 1) rfl)
  have r_x2 : -2147483648 ≤ x2 ∧ x2 ≤ 2147483647 := hv (0, x2) (List.mem_of_getElem? (i := 2) rfl)
  have B := @bk_ X G Q 0 0 ad SHS_ RX11 cX11_areTwo 3 (some .boolean) flX11 plX11 knX11 [(166, 2, TR_ as_F_X11_isLand (rmI_) pre_F_X11_isLand post_F_X11_isLand)] _ _ none kX11_areTwo [] flX11_ok plX11_ok knX11_ok eX11_areTwo oX11_areTwo
    (List.forall_mem_cons.mpr ⟨cok_v (t := 32) (c := 11) (N := 39) (n := 1) (idx := 83) E (ct_F_X11_isLand X.2.1) (by rw [hR]; decide) (Nat.zero_le _) (Nat.zero_le _) hG rfl rfl ⟨rfl, by decide, by decide, by decide⟩ (fun _ => ⟨_, _, rfl, rfl⟩) wl_X11_83 wi_X11_isLand ws_X11_isLand wn_X11 wc_X11_isLand, fun _ h => absurd h List.not_mem_nil⟩) R sok_no E
  show WP_ X G Q 0 0 ad SHS_ σ 0 [(42, 86), (0, x1), (0, x2)] []
  have hp : FM_ σ := hp
  obtain ⟨hW0, hW1, hW2, hW3, hW4, hW5, hT, hF, hP, hI, hY, hSz, hAt, hFr⟩ := id hp
  refine B rfl ?_
  refine Exists.intro x1 (And.intro rfl (And.intro hp ?_))
  rintro _ _ ⟨rfl, rfl⟩
  refine And.intro (fun h4 => ?_) (fun h4 => (by exfalso; omega))
  refine B rfl ?_
  refine And.intro (by omega) ?_
  refine Exists.intro _ (And.intro rfl ?_)
  exact And.intro rfl rfl
def as_F_X11_isSet : Int → List Sv_t := fun a => [(42, 86), (0, a)]
def pre_F_X11_isSet : Int → Me_t → Prop := fun a σ => FM_ σ
def post_F_X11_isSet : Int → Me_t → Int → Me_t → Prop := fun a σ z σ' => z = 0 ∧ σ = σ'
set_option maxHeartbeats 4000000 in
set_option maxRecDepth 100000 in
theorem ct_F_X11_isSet (l : Launch) : CT_ l yX11_isSet cX11_isSet 2 (some .boolean) 1 25 as_F_X11_isSet (rmI_) pre_F_X11_isSet post_F_X11_isSet := by
  refine ct_of (by decide) (fun _ => Nat.le_refl _) ?_
  intro X G Q ad σ a hl hR E hG R hM hv hp
  obtain ⟨x1, rfl⟩ : ∃ q : Int, q = a := ⟨_, rfl⟩
  have r_x1 : -2147483648 ≤ x1 ∧ x1 ≤ 2147483647 := hv (0, x1) (List.mem_of_getElem? (i := 1) rfl)
  have B := @bk_ X G Q 0 0 ad SHS_ RX11 cX11_isSet 2 (some .boolean) flX11 plX11 knX11 [(184, 1, TR_ as_F_X11_isWar (rmI_) pre_F_X11_isWar post_F_X11_isWar)] _ _ none kX11_isSet [] flX11_ok plX11_ok knX11_ok eX11_isSet oX11_isSet
    (List.forall_mem_cons.mpr ⟨cok_v (t := 32) (c := 11) (N := 39) (n := 0) (idx := 92) E (ct_F_X11_isWar X.2.1) (by rw [hR]; decide) (Nat.zero_le _) (Nat.zero_le _) hG rfl rfl ⟨rfl, by decide, by decide, by decide⟩ (fun _ => ⟨_, _, rfl, rfl⟩) wl_X11_92 wi_X11_isWar ws_X11_isWar wn_X11 wc_X11_isWar, fun _ h => absurd h List.not_mem_nil⟩) R sok_no E
  show WP_ X G Q 0 0 ad SHS_ σ 0 [(42, 86), (0, x1)] []
  have hp : FM_ σ := hp
  obtain ⟨hW0, hW1, hW2, hW3, hW4, hW5, hT, hF, hP, hI, hY, hSz, hAt, hFr⟩ := id hp
  refine B rfl ?_
  refine Exists.intro () (And.intro rfl (And.intro hp ?_))
  rintro _ _ ⟨rfl, rfl⟩
  refine And.intro (fun h4 => ?_) (fun h4 => (by exfalso; omega))
  refine B rfl ?_
  refine And.intro (by omega) ?_
  refine Exists.intro _ (And.intro rfl ?_)
  exact And.intro rfl rfl
def as_F_X11_areSaints : Int × Int × Int × Int × Int → List Sv_t := fun a => [(42, 86), (0, a.1), (0, a.2.1), (0, a.2.2.1), (0, a.2.2.2.1), (0, a.2.2.2.2)]
def pre_F_X11_areSaints : Int × Int × Int × Int × Int → Me_t → Prop := fun a σ => FM_ σ
def post_F_X11_areSaints : Int × Int × Int × Int × Int → Me_t → Int → Me_t → Prop := fun a σ z σ' => z = 0 ∧ σ = σ'
set_option maxHeartbeats 4000000 in
set_option maxRecDepth 100000 in
theorem ct_F_X11_areSaints (l : Launch) : CT_ l yX11_areSaints cX11_areSaints 6 (some .boolean) 2 48 as_F_X11_areSaints (rmI_) pre_F_X11_areSaints post_F_X11_areSaints := by
  refine ct_of (by decide) (fun _ => Nat.le_refl _) ?_
  intro X G Q ad σ a hl hR E hG R hM hv hp
  obtain ⟨x1, x2, x3, x4, x5⟩ := a
  have r_x1 : -2147483648 ≤ x1 ∧ x1 ≤ 2147483647 := hv (0, x1) (List.mem_of_getElem? (i := 1) rfl)
  have r_x2 : -2147483648 ≤ x2 ∧ x2 ≤ 2147483647 := hv (0, x2) (List.mem_of_getElem? (i := 2) rfl)
  have r_x3 : -2147483648 ≤ x3 ∧ x3 ≤ 2147483647 := hv (0, x3) (List.mem_of_getElem? (i := 3) rfl)
  have r_x4 : -2147483648 ≤ x4 ∧ x4 ≤ 2147483647 := hv (0, x4) (List.mem_of_getElem? (i := 4) rfl)
  have r_x5 : -2147483648 ≤ x5 ∧ x5 ≤ 2147483647 := hv (0, x5) (List.mem_of_getElem? (i := 5) rfl)
  have B := @bk_ X G Q 0 0 ad SHS_ RX11 cX11_areSaints 6 (some .boolean) flX11 plX11 knX11 [(166, 2, TR_ as_F_X11_isLand (rmI_) pre_F_X11_isLand post_F_X11_isLand)] _ _ none kX11_areSaints [] flX11_ok plX11_ok knX11_ok eX11_areSaints oX11_areSaints
    (List.forall_mem_cons.mpr ⟨cok_v (t := 32) (c := 11) (N := 39) (n := 1) (idx := 83) E (ct_F_X11_isLand X.2.1) (by rw [hR]; decide) (Nat.zero_le _) (Nat.zero_le _) hG rfl rfl ⟨rfl, by decide, by decide, by decide⟩ (fun _ => ⟨_, _, rfl, rfl⟩) wl_X11_83 wi_X11_isLand ws_X11_isLand wn_X11 wc_X11_isLand, fun _ h => absurd h List.not_mem_nil⟩) R sok_no E
  show WP_ X G Q 0 0 ad SHS_ σ 0 [(42, 86), (0, x1), (0, x2), (0, x3), (0, x4), (0, x5)] []
  have hp : FM_ σ := hp
  obtain ⟨hW0, hW1, hW2, hW3, hW4, hW5, hT, hF, hP, hI, hY, hSz, hAt, hFr⟩ := id hp
  refine B rfl ?_
  refine Exists.intro x1 (And.intro rfl (And.intro hp ?_))
  rintro _ _ ⟨rfl, rfl⟩
  refine And.intro (fun h4 => ?_) (fun h4 => (by exfalso; omega))
  refine B rfl ?_
  refine And.intro (by omega) ?_
  refine Exists.intro _ (And.intro rfl ?_)
  exact And.intro rfl rfl
def as_F_X11_isClash : Int × Int × Int × Int → List Sv_t := fun a => [(42, 86), (0, a.1), (0, a.2.1), (0, a.2.2.1), (0, a.2.2.2)]
def pre_F_X11_isClash : Int × Int × Int × Int → Me_t → Prop := fun a σ => FM_ σ
def post_F_X11_isClash : Int × Int × Int × Int → Me_t → Int → Me_t → Prop := fun a σ z σ' => z = 0 ∧ σ = σ'
set_option maxHeartbeats 4000000 in
set_option maxRecDepth 100000 in
theorem ct_F_X11_isClash (l : Launch) : CT_ l yX11_isClash cX11_isClash 5 (some .boolean) 3 69 as_F_X11_isClash (rmI_) pre_F_X11_isClash post_F_X11_isClash := by
  refine ct_of (by decide) (fun _ => Nat.le_refl _) ?_
  intro X G Q ad σ a hl hR E hG R hM hv hp
  obtain ⟨x1, x2, x3, x4⟩ := a
  have r_x1 : -2147483648 ≤ x1 ∧ x1 ≤ 2147483647 := hv (0, x1) (List.mem_of_getElem? (i := 1) rfl)
  have r_x2 : -2147483648 ≤ x2 ∧ x2 ≤ 2147483647 := hv (0, x2) (List.mem_of_getElem? (i := 2) rfl)
  have r_x3 : -2147483648 ≤ x3 ∧ x3 ≤ 2147483647 := hv (0, x3) (List.mem_of_getElem? (i := 3) rfl)
  have r_x4 : -2147483648 ≤ x4 ∧ x4 ≤ 2147483647 := hv (0, x4) (List.mem_of_getElem? (i := 4) rfl)
  have B := @bk_ X G Q 0 0 ad SHS_ RX11 cX11_isClash 5 (some .boolean) flX11 plX11 knX11 [(630, 3, TR_ as_F_X11_areTwo (rmI_) pre_F_X11_areTwo post_F_X11_areTwo)] _ _ none kX11_isClash [] flX11_ok plX11_ok knX11_ok eX11_isClash oX11_isClash
    (List.forall_mem_cons.mpr ⟨cok_v (t := 32) (c := 11) (N := 39) (n := 2) (idx := 315) E (ct_F_X11_areTwo X.2.1) (by rw [hR]; decide) (Nat.zero_le _) (Nat.zero_le _) hG rfl rfl ⟨rfl, by decide, by decide, by decide⟩ (fun _ => ⟨_, _, rfl, rfl⟩) wl_X11_315 wi_X11_areTwo ws_X11_areTwo wn_X11 wc_X11_areTwo, fun _ h => absurd h List.not_mem_nil⟩) R sok_no E
  show WP_ X G Q 0 0 ad SHS_ σ 0 [(42, 86), (0, x1), (0, x2), (0, x3), (0, x4)] []
  have hp : FM_ σ := hp
  obtain ⟨hW0, hW1, hW2, hW3, hW4, hW5, hT, hF, hP, hI, hY, hSz, hAt, hFr⟩ := id hp
  refine B rfl ?_
  refine Exists.intro (x1, x2) (And.intro rfl (And.intro hp ?_))
  rintro _ _ ⟨rfl, rfl⟩
  refine And.intro (fun h4 => ?_) (fun h4 => (by exfalso; omega))
  refine B rfl ?_
  refine And.intro (by omega) ?_
  refine Exists.intro _ (And.intro rfl ?_)
  exact And.intro rfl rfl
def as_F_X11_isBegin : Int × Int × Int × Int × Int → List Sv_t := fun a => [(42, 86), (0, a.1), (0, a.2.1), (0, a.2.2.1), (0, a.2.2.2.1), (0, a.2.2.2.2)]
def pre_F_X11_isBegin : Int × Int × Int × Int × Int → Me_t → Prop := fun a σ => FM_ σ
def post_F_X11_isBegin : Int × Int × Int × Int × Int → Me_t → Int → Me_t → Prop := fun a σ z σ' => z = 0 ∧ σ = σ'
set_option maxHeartbeats 4000000 in
set_option maxRecDepth 100000 in
theorem ct_F_X11_isBegin (l : Launch) : CT_ l yX11_isBegin cX11_isBegin 6 (some .boolean) 3 69 as_F_X11_isBegin (rmI_) pre_F_X11_isBegin post_F_X11_isBegin := by
  refine ct_of (by decide) (fun _ => Nat.le_refl _) ?_
  intro X G Q ad σ a hl hR E hG R hM hv hp
  obtain ⟨x1, x2, x3, x4, x5⟩ := a
  have r_x1 : -2147483648 ≤ x1 ∧ x1 ≤ 2147483647 := hv (0, x1) (List.mem_of_getElem? (i := 1) rfl)
  have r_x2 : -2147483648 ≤ x2 ∧ x2 ≤ 2147483647 := hv (0, x2) (List.mem_of_getElem? (i := 2) rfl)
  have r_x3 : -2147483648 ≤ x3 ∧ x3 ≤ 2147483647 := hv (0, x3) (List.mem_of_getElem? (i := 3) rfl)
  have r_x4 : -2147483648 ≤ x4 ∧ x4 ≤ 2147483647 := hv (0, x4) (List.mem_of_getElem? (i := 4) rfl)
  have r_x5 : -2147483648 ≤ x5 ∧ x5 ≤ 2147483647 := hv (0, x5) (List.mem_of_getElem? (i := 5) rfl)
  have B := @bk_ X G Q 0 0 ad SHS_ RX11 cX11_isBegin 6 (some .boolean) flX11 plX11 knX11 [(630, 3, TR_ as_F_X11_areTwo (rmI_) pre_F_X11_areTwo post_F_X11_areTwo)] _ _ none kX11_isBegin [] flX11_ok plX11_ok knX11_ok eX11_isBegin oX11_isBegin
    (List.forall_mem_cons.mpr ⟨cok_v (t := 32) (c := 11) (N := 39) (n := 2) (idx := 315) E (ct_F_X11_areTwo X.2.1) (by rw [hR]; decide) (Nat.zero_le _) (Nat.zero_le _) hG rfl rfl ⟨rfl, by decide, by decide, by decide⟩ (fun _ => ⟨_, _, rfl, rfl⟩) wl_X11_315 wi_X11_areTwo ws_X11_areTwo wn_X11 wc_X11_areTwo, fun _ h => absurd h List.not_mem_nil⟩) R sok_no E
  show WP_ X G Q 0 0 ad SHS_ σ 0 [(42, 86), (0, x1), (0, x2), (0, x3), (0, x4), (0, x5)] []
  have hp : FM_ σ := hp
  obtain ⟨hW0, hW1, hW2, hW3, hW4, hW5, hT, hF, hP, hI, hY, hSz, hAt, hFr⟩ := id hp
  refine B rfl ?_
  refine Exists.intro (x1, x2) (And.intro rfl (And.intro hp ?_))
  rintro _ _ ⟨rfl, rfl⟩
  refine And.intro (fun h4 => ?_) (fun h4 => (by exfalso; omega))
  refine B rfl ?_
  refine And.intro (by omega) ?_
  refine Exists.intro _ (And.intro rfl ?_)
  exact And.intro rfl rfl
def as_F_X11_isGame : Int × Int × Int × Int → List Sv_t := fun a => [(42, 86), (0, a.1), (0, a.2.1), (0, a.2.2.1), (0, a.2.2.2)]
def pre_F_X11_isGame : Int × Int × Int × Int → Me_t → Prop := fun a σ => FM_ σ
def post_F_X11_isGame : Int × Int × Int × Int → Me_t → Int → Me_t → Prop := fun a σ z σ' => z = 0 ∧ σ = σ'
set_option maxHeartbeats 4000000 in
set_option maxRecDepth 100000 in
theorem ct_F_X11_isGame (l : Launch) : CT_ l yX11_isGame cX11_isGame 5 (some .boolean) 3 69 as_F_X11_isGame (rmI_) pre_F_X11_isGame post_F_X11_isGame := by
  refine ct_of (by decide) (fun _ => Nat.le_refl _) ?_
  intro X G Q ad σ a hl hR E hG R hM hv hp
  obtain ⟨x1, x2, x3, x4⟩ := a
  have r_x1 : -2147483648 ≤ x1 ∧ x1 ≤ 2147483647 := hv (0, x1) (List.mem_of_getElem? (i := 1) rfl)
  have r_x2 : -2147483648 ≤ x2 ∧ x2 ≤ 2147483647 := hv (0, x2) (List.mem_of_getElem? (i := 2) rfl)
  have r_x3 : -2147483648 ≤ x3 ∧ x3 ≤ 2147483647 := hv (0, x3) (List.mem_of_getElem? (i := 3) rfl)
  have r_x4 : -2147483648 ≤ x4 ∧ x4 ≤ 2147483647 := hv (0, x4) (List.mem_of_getElem? (i := 4) rfl)
  have B := @bk_ X G Q 0 0 ad SHS_ RX11 cX11_isGame 5 (some .boolean) flX11 plX11 knX11 [(630, 3, TR_ as_F_X11_areTwo (rmI_) pre_F_X11_areTwo post_F_X11_areTwo)] _ _ none kX11_isGame [] flX11_ok plX11_ok knX11_ok eX11_isGame oX11_isGame
    (List.forall_mem_cons.mpr ⟨cok_v (t := 32) (c := 11) (N := 39) (n := 2) (idx := 315) E (ct_F_X11_areTwo X.2.1) (by rw [hR]; decide) (Nat.zero_le _) (Nat.zero_le _) hG rfl rfl ⟨rfl, by decide, by decide, by decide⟩ (fun _ => ⟨_, _, rfl, rfl⟩) wl_X11_315 wi_X11_areTwo ws_X11_areTwo wn_X11 wc_X11_areTwo, fun _ h => absurd h List.not_mem_nil⟩) R sok_no E
  show WP_ X G Q 0 0 ad SHS_ σ 0 [(42, 86), (0, x1), (0, x2), (0, x3), (0, x4)] []
  have hp : FM_ σ := hp
  obtain ⟨hW0, hW1, hW2, hW3, hW4, hW5, hT, hF, hP, hI, hY, hSz, hAt, hFr⟩ := id hp
  refine B rfl ?_
  refine Exists.intro (x1, x2) (And.intro rfl (And.intro hp ?_))
  rintro _ _ ⟨rfl, rfl⟩
  refine And.intro (fun h4 => ?_) (fun h4 => (by exfalso; omega))
  refine B rfl ?_
  refine And.intro (by omega) ?_
  refine Exists.intro _ (And.intro rfl ?_)
  exact And.intro rfl rfl
def as_F_X11_asksOrders : Int → List Sv_t := fun a => [(42, 86), (0, a)]
def pre_F_X11_asksOrders : Int → Me_t → Prop := fun a σ => FM_ σ
def post_F_X11_asksOrders : Int → Me_t → Int → Me_t → Prop := fun a σ z σ' => z = (-2) ∧ σ = σ'
set_option maxHeartbeats 4000000 in
set_option maxRecDepth 100000 in
theorem ct_F_X11_asksOrders (l : Launch) : CT_ l yX11_asksOrders cX11_asksOrders 3 (some .int) 5 117 as_F_X11_asksOrders (rmI_) pre_F_X11_asksOrders post_F_X11_asksOrders := by
  refine ct_of (by decide) (fun _ => Nat.le_of_ble_eq_true rfl) ?_
  intro X G Q ad σ a hl hR E hG R hM hv hp
  obtain ⟨x1, rfl⟩ : ∃ q : Int, q = a := ⟨_, rfl⟩
  have r_x1 : -2147483648 ≤ x1 ∧ x1 ≤ 2147483647 := hv (0, x1) (List.mem_of_getElem? (i := 1) rfl)
  have B := @bk_ X G Q 0 0 ad SHS_ RX11 cX11_asksOrders 3 (some .int) flX11 plX11 knX11 [(723, 1, TR_ as_F_X11_isSlot (rmI_) pre_F_X11_isSlot post_F_X11_isSlot), (184, 1, TR_ as_F_X11_isWar (rmI_) pre_F_X11_isWar post_F_X11_isWar)] _ _ none kX11_asksOrders [] flX11_ok plX11_ok knX11_ok eX11_asksOrders oX11_asksOrders
    (List.forall_mem_cons.mpr ⟨cok_s (n := 1) (idx := 361) E (ct_F_X11_isSlot X.2.1) (by rw [hR]; decide) (Nat.zero_le _) (Nat.zero_le _) hG ⟨by decide, by decide, by decide⟩ (fun _ => rfl) wl_X11_361 wt_X11_isSlot wn_X11 wc_X11_isSlot, List.forall_mem_cons.mpr ⟨cok_v (t := 32) (c := 11) (N := 39) (n := 0) (idx := 92) E (ct_F_X11_isWar X.2.1) (by rw [hR]; decide) (Nat.zero_le _) (Nat.zero_le _) hG rfl rfl ⟨rfl, by decide, by decide, by decide⟩ (fun _ => ⟨_, _, rfl, rfl⟩) wl_X11_92 wi_X11_isWar ws_X11_isWar wn_X11 wc_X11_isWar, fun _ h => absurd h List.not_mem_nil⟩⟩) R sok_no E
  show WP_ X G Q 0 0 ad SHS_ σ 0 [(42, 86), (0, x1), (9, 0)] []
  have hp : FM_ σ := hp
  obtain ⟨hW0, hW1, hW2, hW3, hW4, hW5, hT, hF, hP, hI, hY, hSz, hAt, hFr⟩ := id hp
  refine B rfl ?_
  refine Exists.intro x1 (And.intro rfl (And.intro trivial ?_))
  rintro z1 _ ⟨rfl, h3⟩
  try dsimp only at h3
  refine And.intro (fun h4 => ?_) (fun h4 => ?_)
  · skip
    refine B rfl ?_
    refine Exists.intro _ (And.intro rfl ?_)
    exact And.intro rfl rfl
  · skip
    refine Exists.intro () (And.intro rfl (And.intro hp ?_))
    rintro _ _ ⟨rfl, rfl⟩
    refine And.intro (fun h8 => (by exfalso; omega)) (fun h8 => ?_)
    refine Exists.intro _ (And.intro rfl ?_)
    exact And.intro rfl rfl
def as_F_X11_asksSeen : Int × Int × Int × Int → List Sv_t := fun a => [(42, 86), (0, a.1), (0, a.2.1), (0, a.2.2.1), (0, a.2.2.2)]
def pre_F_X11_asksSeen : Int × Int × Int × Int → Me_t → Prop := fun a σ => FM_ σ
def post_F_X11_asksSeen : Int × Int × Int × Int → Me_t → Int → Me_t → Prop := fun a σ z σ' => z = (-2) ∧ σ = σ'
set_option maxHeartbeats 4000000 in
set_option maxRecDepth 100000 in
theorem ct_F_X11_asksSeen (l : Launch) : CT_ l yX11_asksSeen cX11_asksSeen 6 (some .int) 4 92 as_F_X11_asksSeen (rmI_) pre_F_X11_asksSeen post_F_X11_asksSeen := by
  refine ct_of (by decide) (fun _ => Nat.le_of_ble_eq_true rfl) ?_
  intro X G Q ad σ a hl hR E hG R hM hv hp
  obtain ⟨x1, x2, x3, x4⟩ := a
  have r_x1 : -2147483648 ≤ x1 ∧ x1 ≤ 2147483647 := hv (0, x1) (List.mem_of_getElem? (i := 1) rfl)
  have r_x2 : -2147483648 ≤ x2 ∧ x2 ≤ 2147483647 := hv (0, x2) (List.mem_of_getElem? (i := 2) rfl)
  have r_x3 : -2147483648 ≤ x3 ∧ x3 ≤ 2147483647 := hv (0, x3) (List.mem_of_getElem? (i := 3) rfl)
  have r_x4 : -2147483648 ≤ x4 ∧ x4 ≤ 2147483647 := hv (0, x4) (List.mem_of_getElem? (i := 4) rfl)
  have B := @bk_ X G Q 0 0 ad SHS_ RX11 cX11_asksSeen 6 (some .int) flX11 plX11 knX11 [(723, 1, TR_ as_F_X11_isSlot (rmI_) pre_F_X11_isSlot post_F_X11_isSlot), (593, 2, TR_ as_F_X11_isSpan (rmI_) pre_F_X11_isSpan post_F_X11_isSpan), (184, 1, TR_ as_F_X11_isWar (rmI_) pre_F_X11_isWar post_F_X11_isWar)] _ _ none kX11_asksSeen [] flX11_ok plX11_ok knX11_ok eX11_asksSeen oX11_asksSeen
    (List.forall_mem_cons.mpr ⟨cok_s (n := 1) (idx := 361) E (ct_F_X11_isSlot X.2.1) (by rw [hR]; decide) (Nat.zero_le _) (Nat.zero_le _) hG ⟨by decide, by decide, by decide⟩ (fun _ => rfl) wl_X11_361 wt_X11_isSlot wn_X11 wc_X11_isSlot, List.forall_mem_cons.mpr ⟨cok_s (n := 2) (idx := 296) E (ct_F_X11_isSpan X.2.1) (by rw [hR]; decide) (Nat.zero_le _) (Nat.zero_le _) hG ⟨by decide, by decide, by decide⟩ (fun _ => rfl) wl_X11_296 wt_X11_isSpan wn_X11 wc_X11_isSpan, List.forall_mem_cons.mpr ⟨cok_v (t := 32) (c := 11) (N := 39) (n := 0) (idx := 92) E (ct_F_X11_isWar X.2.1) (by rw [hR]; decide) (Nat.zero_le _) (Nat.zero_le _) hG rfl rfl ⟨rfl, by decide, by decide, by decide⟩ (fun _ => ⟨_, _, rfl, rfl⟩) wl_X11_92 wi_X11_isWar ws_X11_isWar wn_X11 wc_X11_isWar, fun _ h => absurd h List.not_mem_nil⟩⟩⟩) R sok_no E
  show WP_ X G Q 0 0 ad SHS_ σ 0 [(42, 86), (0, x1), (0, x2), (0, x3), (0, x4), (9, 0)] []
  have hp : FM_ σ := hp
  obtain ⟨hW0, hW1, hW2, hW3, hW4, hW5, hT, hF, hP, hI, hY, hSz, hAt, hFr⟩ := id hp
  refine B rfl ?_
  refine Exists.intro x1 (And.intro rfl (And.intro trivial ?_))
  rintro z1 _ ⟨rfl, h3⟩
  try dsimp only at h3
  refine And.intro (fun h4 => ?_) (fun h4 => ?_)
  · skip
    refine B rfl ?_
    refine Exists.intro _ (And.intro rfl ?_)
    exact And.intro rfl rfl
  · skip
    refine Exists.intro (x2, x3) (And.intro rfl (And.intro trivial ?_))
    rintro z5 _ ⟨rfl, h7⟩
    try dsimp only at h7
    refine And.intro (fun h8 => ?_) (fun h8 => ?_)
    · skip
      refine B rfl ?_
      refine Exists.intro _ (And.intro rfl ?_)
      exact And.intro rfl rfl
    · skip
      refine Exists.intro () (And.intro rfl (And.intro hp ?_))
      rintro _ _ ⟨rfl, rfl⟩
      refine And.intro (fun h12 => ?_) (fun h12 => (by exfalso; omega))
      refine B rfl ?_
      refine Exists.intro _ (And.intro rfl ?_)
      exact And.intro rfl rfl
def as_F_X11_land : Int × Int → List Sv_t := fun a => [(42, 86), (0, a.1), (0, a.2)]
def pre_F_X11_land : Int × Int → Me_t → Prop := fun a σ => FM_ σ
def post_F_X11_land : Int × Int → Me_t → Int → Me_t → Prop := fun a σ z σ' => z = (-2) ∧ σ = σ'
set_option maxHeartbeats 4000000 in
set_option maxRecDepth 100000 in
theorem ct_F_X11_land (l : Launch) : CT_ l yX11_land cX11_land 3 (some .int) 2 47 as_F_X11_land (rmI_) pre_F_X11_land post_F_X11_land := by
  refine ct_of (by decide) (fun _ => Nat.le_refl _) ?_
  intro X G Q ad σ a hl hR E hG R hM hv hp
  obtain ⟨x1, x2⟩ := a
  have r_x1 : -2147483648 ≤ x1 ∧ x1 ≤ 2147483647 := hv (0, x1) (List.mem_of_getElem? (i := 1) rfl)
  have r_x2 : -2147483648 ≤ x2 ∧ x2 ≤ 2147483647 := hv (0, x2) (List.mem_of_getElem? (i := 2) rfl)
  have B := @bk_ X G Q 0 0 ad SHS_ RX11 cX11_land 3 (some .int) flX11 plX11 knX11 [(166, 2, TR_ as_F_X11_isLand (rmI_) pre_F_X11_isLand post_F_X11_isLand)] _ _ none kX11_land [] flX11_ok plX11_ok knX11_ok eX11_land oX11_land
    (List.forall_mem_cons.mpr ⟨cok_v (t := 32) (c := 11) (N := 39) (n := 1) (idx := 83) E (ct_F_X11_isLand X.2.1) (by rw [hR]; decide) (Nat.zero_le _) (Nat.zero_le _) hG rfl rfl ⟨rfl, by decide, by decide, by decide⟩ (fun _ => ⟨_, _, rfl, rfl⟩) wl_X11_83 wi_X11_isLand ws_X11_isLand wn_X11 wc_X11_isLand, fun _ h => absurd h List.not_mem_nil⟩) R sok_no E
  show WP_ X G Q 0 0 ad SHS_ σ 0 [(42, 86), (0, x1), (0, x2)] []
  have hp : FM_ σ := hp
  obtain ⟨hW0, hW1, hW2, hW3, hW4, hW5, hT, hF, hP, hI, hY, hSz, hAt, hFr⟩ := id hp
  refine B rfl ?_
  refine Exists.intro x1 (And.intro rfl (And.intro hp ?_))
  rintro _ _ ⟨rfl, rfl⟩
  refine And.intro (fun h4 => ?_) (fun h4 => (by exfalso; omega))
  refine B rfl ?_
  refine Exists.intro _ (And.intro rfl ?_)
  exact And.intro rfl rfl
def as_F_X11_month : Int × Int × Int → List Sv_t := fun a => [(42, 86), (0, a.1), (0, a.2.1), (0, a.2.2)]
def pre_F_X11_month : Int × Int × Int → Me_t → Prop := fun a σ => FM_ σ
def post_F_X11_month : Int × Int × Int → Me_t → Int → Me_t → Prop := fun a σ z σ' => z = (-2) ∧ σ = σ'
set_option maxHeartbeats 4000000 in
set_option maxRecDepth 100000 in
theorem ct_F_X11_month (l : Launch) : CT_ l yX11_month cX11_month 4 (some .int) 2 48 as_F_X11_month (rmI_) pre_F_X11_month post_F_X11_month := by
  refine ct_of (by decide) (fun _ => Nat.le_refl _) ?_
  intro X G Q ad σ a hl hR E hG R hM hv hp
  obtain ⟨x1, x2, x3⟩ := a
  have r_x1 : -2147483648 ≤ x1 ∧ x1 ≤ 2147483647 := hv (0, x1) (List.mem_of_getElem? (i := 1) rfl)
  have r_x2 : -2147483648 ≤ x2 ∧ x2 ≤ 2147483647 := hv (0, x2) (List.mem_of_getElem? (i := 2) rfl)
  have r_x3 : -2147483648 ≤ x3 ∧ x3 ≤ 2147483647 := hv (0, x3) (List.mem_of_getElem? (i := 3) rfl)
  have B := @bk_ X G Q 0 0 ad SHS_ RX11 cX11_month 4 (some .int) flX11 plX11 knX11 [(166, 2, TR_ as_F_X11_isLand (rmI_) pre_F_X11_isLand post_F_X11_isLand)] _ _ none kX11_month [] flX11_ok plX11_ok knX11_ok eX11_month oX11_month
    (List.forall_mem_cons.mpr ⟨cok_v (t := 32) (c := 11) (N := 39) (n := 1) (idx := 83) E (ct_F_X11_isLand X.2.1) (by rw [hR]; decide) (Nat.zero_le _) (Nat.zero_le _) hG rfl rfl ⟨rfl, by decide, by decide, by decide⟩ (fun _ => ⟨_, _, rfl, rfl⟩) wl_X11_83 wi_X11_isLand ws_X11_isLand wn_X11 wc_X11_isLand, fun _ h => absurd h List.not_mem_nil⟩) R sok_no E
  show WP_ X G Q 0 0 ad SHS_ σ 0 [(42, 86), (0, x1), (0, x2), (0, x3)] []
  have hp : FM_ σ := hp
  obtain ⟨hW0, hW1, hW2, hW3, hW4, hW5, hT, hF, hP, hI, hY, hSz, hAt, hFr⟩ := id hp
  refine B rfl ?_
  refine Exists.intro x1 (And.intro rfl (And.intro hp ?_))
  rintro _ _ ⟨rfl, rfl⟩
  refine And.intro (fun h4 => ?_) (fun h4 => (by exfalso; omega))
  refine B rfl ?_
  refine Exists.intro _ (And.intro rfl ?_)
  exact And.intro rfl rfl
def as_F_X11_feast : Int × Int → List Sv_t := fun a => [(42, 86), (0, a.1), (0, a.2)]
def pre_F_X11_feast : Int × Int → Me_t → Prop := fun a σ => FM_ σ
def post_F_X11_feast : Int × Int → Me_t → Int → Me_t → Prop := fun a σ z σ' => z = (-2) ∧ σ = σ'
set_option maxHeartbeats 4000000 in
set_option maxRecDepth 100000 in
theorem ct_F_X11_feast (l : Launch) : CT_ l yX11_feast cX11_feast 3 (some .int) 1 25 as_F_X11_feast (rmI_) pre_F_X11_feast post_F_X11_feast := by
  refine ct_of (by decide) (fun _ => Nat.le_refl _) ?_
  intro X G Q ad σ a hl hR E hG R hM hv hp
  obtain ⟨x1, x2⟩ := a
  have r_x1 : -2147483648 ≤ x1 ∧ x1 ≤ 2147483647 := hv (0, x1) (List.mem_of_getElem? (i := 1) rfl)
  have r_x2 : -2147483648 ≤ x2 ∧ x2 ≤ 2147483647 := hv (0, x2) (List.mem_of_getElem? (i := 2) rfl)
  have B := @bk_ X G Q 0 0 ad SHS_ RX11 cX11_feast 3 (some .int) flX11 plX11 knX11 [(159, 3, TR_ as_F0_in (rmI_) pre_F0_in post_F0_in)] _ _ none kX11_feast [] flX11_ok plX11_ok knX11_ok eX11_feast oX11_feast
    (List.forall_mem_cons.mpr ⟨cok_s (n := 3) (idx := 79) E (ct_F0_in X.2.1) (by rw [hR]; decide) (Nat.zero_le _) (Nat.zero_le _) hG ⟨by decide, by decide, by decide⟩ (fun _ => rfl) wl_X11_79 wt_X11_in wn_X11 wc_X11_in, fun _ h => absurd h List.not_mem_nil⟩) R sok_no E
  show WP_ X G Q 0 0 ad SHS_ σ 0 [(42, 86), (0, x1), (0, x2)] []
  have hp : FM_ σ := hp
  obtain ⟨hW0, hW1, hW2, hW3, hW4, hW5, hT, hF, hP, hI, hY, hSz, hAt, hFr⟩ := id hp
  refine B rfl ?_
  refine And.intro (by omega) ?_
  refine And.intro (by omega) ?_
  refine Exists.intro (x1, 0, (σ 87 2) - 1) (And.intro rfl (And.intro (by simp only [pre_F0_in]; omega) ?_))
  rintro _ _ ⟨rfl, rfl⟩
  refine And.intro (fun h4 => ?_) (fun h4 => (by exfalso; omega))
  refine B rfl ?_
  refine Exists.intro _ (And.intro rfl ?_)
  exact And.intro rfl rfl
def as_F_X11_truce : Int × Int → List Sv_t := fun a => [(42, 86), (0, a.1), (0, a.2)]
def pre_F_X11_truce : Int × Int → Me_t → Prop := fun a σ => FM_ σ
def post_F_X11_truce : Int × Int → Me_t → Int → Me_t → Prop := fun a σ z σ' => z = (-2) ∧ σ = σ'
set_option maxHeartbeats 4000000 in
set_option maxRecDepth 100000 in
theorem ct_F_X11_truce (l : Launch) : CT_ l yX11_truce cX11_truce 3 (some .int) 1 25 as_F_X11_truce (rmI_) pre_F_X11_truce post_F_X11_truce := by
  refine ct_of (by decide) (fun _ => Nat.le_refl _) ?_
  intro X G Q ad σ a hl hR E hG R hM hv hp
  obtain ⟨x1, x2⟩ := a
  have r_x1 : -2147483648 ≤ x1 ∧ x1 ≤ 2147483647 := hv (0, x1) (List.mem_of_getElem? (i := 1) rfl)
  have r_x2 : -2147483648 ≤ x2 ∧ x2 ≤ 2147483647 := hv (0, x2) (List.mem_of_getElem? (i := 2) rfl)
  have B := @bk_ X G Q 0 0 ad SHS_ RX11 cX11_truce 3 (some .int) flX11 plX11 knX11 [(159, 3, TR_ as_F0_in (rmI_) pre_F0_in post_F0_in)] _ _ none kX11_truce [] flX11_ok plX11_ok knX11_ok eX11_truce oX11_truce
    (List.forall_mem_cons.mpr ⟨cok_s (n := 3) (idx := 79) E (ct_F0_in X.2.1) (by rw [hR]; decide) (Nat.zero_le _) (Nat.zero_le _) hG ⟨by decide, by decide, by decide⟩ (fun _ => rfl) wl_X11_79 wt_X11_in wn_X11 wc_X11_in, fun _ h => absurd h List.not_mem_nil⟩) R sok_no E
  show WP_ X G Q 0 0 ad SHS_ σ 0 [(42, 86), (0, x1), (0, x2)] []
  have hp : FM_ σ := hp
  obtain ⟨hW0, hW1, hW2, hW3, hW4, hW5, hT, hF, hP, hI, hY, hSz, hAt, hFr⟩ := id hp
  refine B rfl ?_
  refine And.intro (by omega) ?_
  refine And.intro (by omega) ?_
  refine Exists.intro (x1, 0, (σ 87 3) - 1) (And.intro rfl (And.intro (by simp only [pre_F0_in]; omega) ?_))
  rintro _ _ ⟨rfl, rfl⟩
  refine And.intro (fun h4 => ?_) (fun h4 => (by exfalso; omega))
  refine B rfl ?_
  refine Exists.intro _ (And.intro rfl ?_)
  exact And.intro rfl rfl
def as_F_X11_date : Int × Int × Int → List Sv_t := fun a => [(42, 86), (0, a.1), (0, a.2.1), (0, a.2.2)]
def pre_F_X11_date : Int × Int × Int → Me_t → Prop := fun a σ => FM_ σ
def post_F_X11_date : Int × Int × Int → Me_t → Int → Me_t → Prop := fun a σ z σ' => z = (-2) ∧ σ = σ'
set_option maxHeartbeats 4000000 in
set_option maxRecDepth 100000 in
theorem ct_F_X11_date (l : Launch) : CT_ l yX11_date cX11_date 4 (some .int) 4 92 as_F_X11_date (rmI_) pre_F_X11_date post_F_X11_date := by
  refine ct_of (by decide) (fun _ => Nat.le_refl _) ?_
  intro X G Q ad σ a hl hR E hG R hM hv hp
  obtain ⟨x1, x2, x3⟩ := a
  have r_x1 : -2147483648 ≤ x1 ∧ x1 ≤ 2147483647 := hv (0, x1) (List.mem_of_getElem? (i := 1) rfl)
  have r_x2 : -2147483648 ≤ x2 ∧ x2 ≤ 2147483647 := hv (0, x2) (List.mem_of_getElem? (i := 2) rfl)
  have r_x3 : -2147483648 ≤ x3 ∧ x3 ≤ 2147483647 := hv (0, x3) (List.mem_of_getElem? (i := 3) rfl)
  have B := @bk_ X G Q 0 0 ad SHS_ RX11 cX11_date 4 (some .int) flX11 plX11 knX11 [(166, 2, TR_ as_F_X11_isLand (rmI_) pre_F_X11_isLand post_F_X11_isLand)] _ _ none kX11_date [] flX11_ok plX11_ok knX11_ok eX11_date oX11_date
    (List.forall_mem_cons.mpr ⟨cok_v (t := 32) (c := 11) (N := 39) (n := 1) (idx := 83) E (ct_F_X11_isLand X.2.1) (by rw [hR]; decide) (Nat.zero_le _) (Nat.zero_le _) hG rfl rfl ⟨rfl, by decide, by decide, by decide⟩ (fun _ => ⟨_, _, rfl, rfl⟩) wl_X11_83 wi_X11_isLand ws_X11_isLand wn_X11 wc_X11_isLand, fun _ h => absurd h List.not_mem_nil⟩) R sok_no E
  show WP_ X G Q 0 0 ad SHS_ σ 0 [(42, 86), (0, x1), (0, x2), (0, x3)] []
  have hp : FM_ σ := hp
  obtain ⟨hW0, hW1, hW2, hW3, hW4, hW5, hT, hF, hP, hI, hY, hSz, hAt, hFr⟩ := id hp
  refine B rfl ?_
  refine Exists.intro x1 (And.intro rfl (And.intro hp ?_))
  rintro _ _ ⟨rfl, rfl⟩
  refine And.intro (fun h4 => ?_) (fun h4 => (by exfalso; omega))
  refine B rfl ?_
  refine Exists.intro _ (And.intro rfl ?_)
  exact And.intro rfl rfl
def as_F_X11_day : Int × Int × Int × Int → List Sv_t := fun a => [(42, 86), (0, a.1), (0, a.2.1), (0, a.2.2.1), (0, a.2.2.2)]
def pre_F_X11_day : Int × Int × Int × Int → Me_t → Prop := fun a σ => FM_ σ
def post_F_X11_day : Int × Int × Int × Int → Me_t → Int → Me_t → Prop := fun a σ z σ' => z = (-2) ∧ σ = σ'
set_option maxHeartbeats 4000000 in
set_option maxRecDepth 100000 in
theorem ct_F_X11_day (l : Launch) : CT_ l yX11_day cX11_day 6 (some .int) 4 95 as_F_X11_day (rmI_) pre_F_X11_day post_F_X11_day := by
  refine ct_of (by decide) (fun _ => Nat.le_of_ble_eq_true rfl) ?_
  intro X G Q ad σ a hl hR E hG R hM hv hp
  obtain ⟨x1, x2, x3, x4⟩ := a
  have r_x1 : -2147483648 ≤ x1 ∧ x1 ≤ 2147483647 := hv (0, x1) (List.mem_of_getElem? (i := 1) rfl)
  have r_x2 : -2147483648 ≤ x2 ∧ x2 ≤ 2147483647 := hv (0, x2) (List.mem_of_getElem? (i := 2) rfl)
  have r_x3 : -2147483648 ≤ x3 ∧ x3 ≤ 2147483647 := hv (0, x3) (List.mem_of_getElem? (i := 3) rfl)
  have r_x4 : -2147483648 ≤ x4 ∧ x4 ≤ 2147483647 := hv (0, x4) (List.mem_of_getElem? (i := 4) rfl)
  have B := @bk_ X G Q 0 0 ad SHS_ RX11 cX11_day 6 (some .int) flX11 plX11 knX11 [(166, 2, TR_ as_F_X11_isLand (rmI_) pre_F_X11_isLand post_F_X11_isLand)] _ _ none kX11_day [] flX11_ok plX11_ok knX11_ok eX11_day oX11_day
    (List.forall_mem_cons.mpr ⟨cok_v (t := 32) (c := 11) (N := 39) (n := 1) (idx := 83) E (ct_F_X11_isLand X.2.1) (by rw [hR]; decide) (Nat.zero_le _) (Nat.zero_le _) hG rfl rfl ⟨rfl, by decide, by decide, by decide⟩ (fun _ => ⟨_, _, rfl, rfl⟩) wl_X11_83 wi_X11_isLand ws_X11_isLand wn_X11 wc_X11_isLand, fun _ h => absurd h List.not_mem_nil⟩) R sok_no E
  show WP_ X G Q 0 0 ad SHS_ σ 0 [(42, 86), (0, x1), (0, x2), (0, x3), (0, x4), (9, 0)] []
  have hp : FM_ σ := hp
  obtain ⟨hW0, hW1, hW2, hW3, hW4, hW5, hT, hF, hP, hI, hY, hSz, hAt, hFr⟩ := id hp
  refine B rfl ?_
  refine Exists.intro x1 (And.intro rfl (And.intro hp ?_))
  rintro _ _ ⟨rfl, rfl⟩
  refine And.intro (fun h4 => ?_) (fun h4 => (by exfalso; omega))
  refine B rfl ?_
  refine Exists.intro _ (And.intro rfl ?_)
  exact And.intro rfl rfl
def as_F_X11_may : Int × Int → List Sv_t := fun a => [(42, 86), (0, a.1), (0, a.2)]
def pre_F_X11_may : Int × Int → Me_t → Prop := fun a σ => FM_ σ
def post_F_X11_may : Int × Int → Me_t → Int → Me_t → Prop := fun a σ z σ' => z = (-2) ∧ σ = σ'
set_option maxHeartbeats 4000000 in
set_option maxRecDepth 100000 in
theorem ct_F_X11_may (l : Launch) : CT_ l yX11_may cX11_may 3 (some .int) 4 92 as_F_X11_may (rmI_) pre_F_X11_may post_F_X11_may := by
  refine ct_of (by decide) (fun _ => Nat.le_refl _) ?_
  intro X G Q ad σ a hl hR E hG R hM hv hp
  obtain ⟨x1, x2⟩ := a
  have r_x1 : -2147483648 ≤ x1 ∧ x1 ≤ 2147483647 := hv (0, x1) (List.mem_of_getElem? (i := 1) rfl)
  have r_x2 : -2147483648 ≤ x2 ∧ x2 ≤ 2147483647 := hv (0, x2) (List.mem_of_getElem? (i := 2) rfl)
  have B := @bk_ X G Q 0 0 ad SHS_ RX11 cX11_may 3 (some .int) flX11 plX11 knX11 [(166, 2, TR_ as_F_X11_isLand (rmI_) pre_F_X11_isLand post_F_X11_isLand)] _ _ none kX11_may [] flX11_ok plX11_ok knX11_ok eX11_may oX11_may
    (List.forall_mem_cons.mpr ⟨cok_v (t := 32) (c := 11) (N := 39) (n := 1) (idx := 83) E (ct_F_X11_isLand X.2.1) (by rw [hR]; decide) (Nat.zero_le _) (Nat.zero_le _) hG rfl rfl ⟨rfl, by decide, by decide, by decide⟩ (fun _ => ⟨_, _, rfl, rfl⟩) wl_X11_83 wi_X11_isLand ws_X11_isLand wn_X11 wc_X11_isLand, fun _ h => absurd h List.not_mem_nil⟩) R sok_no E
  show WP_ X G Q 0 0 ad SHS_ σ 0 [(42, 86), (0, x1), (0, x2)] []
  have hp : FM_ σ := hp
  obtain ⟨hW0, hW1, hW2, hW3, hW4, hW5, hT, hF, hP, hI, hY, hSz, hAt, hFr⟩ := id hp
  refine B rfl ?_
  refine Exists.intro x1 (And.intro rfl (And.intro hp ?_))
  rintro _ _ ⟨rfl, rfl⟩
  refine And.intro (fun h4 => ?_) (fun h4 => (by exfalso; omega))
  refine B rfl ?_
  refine Exists.intro _ (And.intro rfl ?_)
  exact And.intro rfl rfl
def as_F_X11_why : Int × Int → List Sv_t := fun a => [(42, 86), (0, a.1), (0, a.2)]
def pre_F_X11_why : Int × Int → Me_t → Prop := fun a σ => FM_ σ
def post_F_X11_why : Int × Int → Me_t → Int → Me_t → Prop := fun a σ z σ' => z = (-2) ∧ σ = σ'
set_option maxHeartbeats 4000000 in
set_option maxRecDepth 100000 in
theorem ct_F_X11_why (l : Launch) : CT_ l yX11_why cX11_why 3 (some .int) 4 92 as_F_X11_why (rmI_) pre_F_X11_why post_F_X11_why := by
  refine ct_of (by decide) (fun _ => Nat.le_refl _) ?_
  intro X G Q ad σ a hl hR E hG R hM hv hp
  obtain ⟨x1, x2⟩ := a
  have r_x1 : -2147483648 ≤ x1 ∧ x1 ≤ 2147483647 := hv (0, x1) (List.mem_of_getElem? (i := 1) rfl)
  have r_x2 : -2147483648 ≤ x2 ∧ x2 ≤ 2147483647 := hv (0, x2) (List.mem_of_getElem? (i := 2) rfl)
  have B := @bk_ X G Q 0 0 ad SHS_ RX11 cX11_why 3 (some .int) flX11 plX11 knX11 [(166, 2, TR_ as_F_X11_isLand (rmI_) pre_F_X11_isLand post_F_X11_isLand)] _ _ none kX11_why [] flX11_ok plX11_ok knX11_ok eX11_why oX11_why
    (List.forall_mem_cons.mpr ⟨cok_v (t := 32) (c := 11) (N := 39) (n := 1) (idx := 83) E (ct_F_X11_isLand X.2.1) (by rw [hR]; decide) (Nat.zero_le _) (Nat.zero_le _) hG rfl rfl ⟨rfl, by decide, by decide, by decide⟩ (fun _ => ⟨_, _, rfl, rfl⟩) wl_X11_83 wi_X11_isLand ws_X11_isLand wn_X11 wc_X11_isLand, fun _ h => absurd h List.not_mem_nil⟩) R sok_no E
  show WP_ X G Q 0 0 ad SHS_ σ 0 [(42, 86), (0, x1), (0, x2)] []
  have hp : FM_ σ := hp
  obtain ⟨hW0, hW1, hW2, hW3, hW4, hW5, hT, hF, hP, hI, hY, hSz, hAt, hFr⟩ := id hp
  refine B rfl ?_
  refine Exists.intro x1 (And.intro rfl (And.intro hp ?_))
  rintro _ _ ⟨rfl, rfl⟩
  refine And.intro (fun h4 => ?_) (fun h4 => (by exfalso; omega))
  refine B rfl ?_
  refine Exists.intro _ (And.intro rfl ?_)
  exact And.intro rfl rfl
def as_F_X11_who : Int → List Sv_t := fun a => [(42, 86), (0, a)]
def pre_F_X11_who : Int → Me_t → Prop := fun a σ => FM_ σ
def post_F_X11_who : Int → Me_t → Int → Me_t → Prop := fun a σ z σ' => z = (-2) ∧ σ = σ'
set_option maxHeartbeats 4000000 in
set_option maxRecDepth 100000 in
theorem ct_F_X11_who (l : Launch) : CT_ l yX11_who cX11_who 2 (some .int) 4 92 as_F_X11_who (rmI_) pre_F_X11_who post_F_X11_who := by
  refine ct_of (by decide) (fun _ => Nat.le_refl _) ?_
  intro X G Q ad σ a hl hR E hG R hM hv hp
  obtain ⟨x1, rfl⟩ : ∃ q : Int, q = a := ⟨_, rfl⟩
  have r_x1 : -2147483648 ≤ x1 ∧ x1 ≤ 2147483647 := hv (0, x1) (List.mem_of_getElem? (i := 1) rfl)
  have B := @bk_ X G Q 0 0 ad SHS_ RX11 cX11_who 2 (some .int) flX11 plX11 knX11 [(184, 1, TR_ as_F_X11_isWar (rmI_) pre_F_X11_isWar post_F_X11_isWar)] _ _ none kX11_who [] flX11_ok plX11_ok knX11_ok eX11_who oX11_who
    (List.forall_mem_cons.mpr ⟨cok_v (t := 32) (c := 11) (N := 39) (n := 0) (idx := 92) E (ct_F_X11_isWar X.2.1) (by rw [hR]; decide) (Nat.zero_le _) (Nat.zero_le _) hG rfl rfl ⟨rfl, by decide, by decide, by decide⟩ (fun _ => ⟨_, _, rfl, rfl⟩) wl_X11_92 wi_X11_isWar ws_X11_isWar wn_X11 wc_X11_isWar, fun _ h => absurd h List.not_mem_nil⟩) R sok_no E
  show WP_ X G Q 0 0 ad SHS_ σ 0 [(42, 86), (0, x1)] []
  have hp : FM_ σ := hp
  obtain ⟨hW0, hW1, hW2, hW3, hW4, hW5, hT, hF, hP, hI, hY, hSz, hAt, hFr⟩ := id hp
  refine B rfl ?_
  refine Exists.intro () (And.intro rfl (And.intro hp ?_))
  rintro _ _ ⟨rfl, rfl⟩
  refine And.intro (fun h4 => ?_) (fun h4 => (by exfalso; omega))
  refine B rfl ?_
  refine Exists.intro _ (And.intro rfl ?_)
  exact And.intro rfl rfl
def as_F_X11_next : Int × Int → List Sv_t := fun a => [(42, 86), (0, a.1), (0, a.2)]
def pre_F_X11_next : Int × Int → Me_t → Prop := fun a σ => FM_ σ
def post_F_X11_next : Int × Int → Me_t → Int → Me_t → Prop := fun a σ z σ' => z = (-2) ∧ σ = σ'
set_option maxHeartbeats 4000000 in
set_option maxRecDepth 100000 in
theorem ct_F_X11_next (l : Launch) : CT_ l yX11_next cX11_next 4 (some .int) 4 92 as_F_X11_next (rmI_) pre_F_X11_next post_F_X11_next := by
  refine ct_of (by decide) (fun _ => Nat.le_of_ble_eq_true rfl) ?_
  intro X G Q ad σ a hl hR E hG R hM hv hp
  obtain ⟨x1, x2⟩ := a
  have r_x1 : -2147483648 ≤ x1 ∧ x1 ≤ 2147483647 := hv (0, x1) (List.mem_of_getElem? (i := 1) rfl)
  have r_x2 : -2147483648 ≤ x2 ∧ x2 ≤ 2147483647 := hv (0, x2) (List.mem_of_getElem? (i := 2) rfl)
  have B := @bk_ X G Q 0 0 ad SHS_ RX11 cX11_next 4 (some .int) flX11 plX11 knX11 [(578, 2, TR_ as_F_X11_isSet (rmI_) pre_F_X11_isSet post_F_X11_isSet)] _ _ none kX11_next [] flX11_ok plX11_ok knX11_ok eX11_next oX11_next
    (List.forall_mem_cons.mpr ⟨cok_v (t := 32) (c := 11) (N := 39) (n := 1) (idx := 289) E (ct_F_X11_isSet X.2.1) (by rw [hR]; decide) (Nat.zero_le _) (Nat.zero_le _) hG rfl rfl ⟨rfl, by decide, by decide, by decide⟩ (fun _ => ⟨_, _, rfl, rfl⟩) wl_X11_289 wi_X11_isSet ws_X11_isSet wn_X11 wc_X11_isSet, fun _ h => absurd h List.not_mem_nil⟩) R sok_no E
  show WP_ X G Q 0 0 ad SHS_ σ 0 [(42, 86), (0, x1), (0, x2), (9, 0)] []
  have hp : FM_ σ := hp
  obtain ⟨hW0, hW1, hW2, hW3, hW4, hW5, hT, hF, hP, hI, hY, hSz, hAt, hFr⟩ := id hp
  refine B rfl ?_
  refine Exists.intro x1 (And.intro rfl (And.intro hp ?_))
  rintro _ _ ⟨rfl, rfl⟩
  refine And.intro (fun h4 => ?_) (fun h4 => (by exfalso; omega))
  refine B rfl ?_
  refine Exists.intro _ (And.intro rfl ?_)
  exact And.intro rfl rfl
def as_F_X11_many : Int × Int × Int → List Sv_t := fun a => [(42, 86), (0, a.1), (0, a.2.1), (0, a.2.2)]
def pre_F_X11_many : Int × Int × Int → Me_t → Prop := fun a σ => FM_ σ
def post_F_X11_many : Int × Int × Int → Me_t → Int → Me_t → Prop := fun a σ z σ' => z = (-2) ∧ σ = σ'
set_option maxHeartbeats 4000000 in
set_option maxRecDepth 100000 in
theorem ct_F_X11_many (l : Launch) : CT_ l yX11_many cX11_many 4 (some .int) 5 113 as_F_X11_many (rmI_) pre_F_X11_many post_F_X11_many := by
  refine ct_of (by decide) (fun _ => Nat.le_refl _) ?_
  intro X G Q ad σ a hl hR E hG R hM hv hp
  obtain ⟨x1, x2, x3⟩ := a
  have r_x1 : -2147483648 ≤ x1 ∧ x1 ≤ 2147483647 := hv (0, x1) (List.mem_of_getElem? (i := 1) rfl)
  have r_x2 : -2147483648 ≤ x2 ∧ x2 ≤ 2147483647 := hv (0, x2) (List.mem_of_getElem? (i := 2) rfl)
  have r_x3 : -2147483648 ≤ x3 ∧ x3 ≤ 2147483647 := hv (0, x3) (List.mem_of_getElem? (i := 3) rfl)
  have B := @bk_ X G Q 0 0 ad SHS_ RX11 cX11_many 4 (some .int) flX11 plX11 knX11 [(578, 2, TR_ as_F_X11_isSet (rmI_) pre_F_X11_isSet post_F_X11_isSet)] _ _ none kX11_many [] flX11_ok plX11_ok knX11_ok eX11_many oX11_many
    (List.forall_mem_cons.mpr ⟨cok_v (t := 32) (c := 11) (N := 39) (n := 1) (idx := 289) E (ct_F_X11_isSet X.2.1) (by rw [hR]; decide) (Nat.zero_le _) (Nat.zero_le _) hG rfl rfl ⟨rfl, by decide, by decide, by decide⟩ (fun _ => ⟨_, _, rfl, rfl⟩) wl_X11_289 wi_X11_isSet ws_X11_isSet wn_X11 wc_X11_isSet, fun _ h => absurd h List.not_mem_nil⟩) R sok_no E
  show WP_ X G Q 0 0 ad SHS_ σ 0 [(42, 86), (0, x1), (0, x2), (0, x3)] []
  have hp : FM_ σ := hp
  obtain ⟨hW0, hW1, hW2, hW3, hW4, hW5, hT, hF, hP, hI, hY, hSz, hAt, hFr⟩ := id hp
  refine B rfl ?_
  refine Exists.intro x1 (And.intro rfl (And.intro hp ?_))
  rintro _ _ ⟨rfl, rfl⟩
  refine And.intro (fun h4 => ?_) (fun h4 => (by exfalso; omega))
  refine B rfl ?_
  refine Exists.intro _ (And.intro rfl ?_)
  exact And.intro rfl rfl
def as_F_X11_waits : Int × Int × Int → List Sv_t := fun a => [(42, 86), (0, a.1), (0, a.2.1), (0, a.2.2)]
def pre_F_X11_waits : Int × Int × Int → Me_t → Prop := fun a σ => FM_ σ
def post_F_X11_waits : Int × Int × Int → Me_t → Int → Me_t → Prop := fun a σ z σ' => z = (-2) ∧ σ = σ'
set_option maxHeartbeats 4000000 in
set_option maxRecDepth 100000 in
theorem ct_F_X11_waits (l : Launch) : CT_ l yX11_waits cX11_waits 4 (some .int) 5 113 as_F_X11_waits (rmI_) pre_F_X11_waits post_F_X11_waits := by
  refine ct_of (by decide) (fun _ => Nat.le_refl _) ?_
  intro X G Q ad σ a hl hR E hG R hM hv hp
  obtain ⟨x1, x2, x3⟩ := a
  have r_x1 : -2147483648 ≤ x1 ∧ x1 ≤ 2147483647 := hv (0, x1) (List.mem_of_getElem? (i := 1) rfl)
  have r_x2 : -2147483648 ≤ x2 ∧ x2 ≤ 2147483647 := hv (0, x2) (List.mem_of_getElem? (i := 2) rfl)
  have r_x3 : -2147483648 ≤ x3 ∧ x3 ≤ 2147483647 := hv (0, x3) (List.mem_of_getElem? (i := 3) rfl)
  have B := @bk_ X G Q 0 0 ad SHS_ RX11 cX11_waits 4 (some .int) flX11 plX11 knX11 [(578, 2, TR_ as_F_X11_isSet (rmI_) pre_F_X11_isSet post_F_X11_isSet)] _ _ none kX11_waits [] flX11_ok plX11_ok knX11_ok eX11_waits oX11_waits
    (List.forall_mem_cons.mpr ⟨cok_v (t := 32) (c := 11) (N := 39) (n := 1) (idx := 289) E (ct_F_X11_isSet X.2.1) (by rw [hR]; decide) (Nat.zero_le _) (Nat.zero_le _) hG rfl rfl ⟨rfl, by decide, by decide, by decide⟩ (fun _ => ⟨_, _, rfl, rfl⟩) wl_X11_289 wi_X11_isSet ws_X11_isSet wn_X11 wc_X11_isSet, fun _ h => absurd h List.not_mem_nil⟩) R sok_no E
  show WP_ X G Q 0 0 ad SHS_ σ 0 [(42, 86), (0, x1), (0, x2), (0, x3)] []
  have hp : FM_ σ := hp
  obtain ⟨hW0, hW1, hW2, hW3, hW4, hW5, hT, hF, hP, hI, hY, hSz, hAt, hFr⟩ := id hp
  refine B rfl ?_
  refine Exists.intro x1 (And.intro rfl (And.intro hp ?_))
  rintro _ _ ⟨rfl, rfl⟩
  refine And.intro (fun h4 => ?_) (fun h4 => (by exfalso; omega))
  refine B rfl ?_
  refine Exists.intro _ (And.intro rfl ?_)
  exact And.intro rfl rfl
def as_F_X11_waiting : Int × Int × Int → List Sv_t := fun a => [(42, 86), (0, a.1), (0, a.2.1), (0, a.2.2)]
def pre_F_X11_waiting : Int × Int × Int → Me_t → Prop := fun a σ => FM_ σ
def post_F_X11_waiting : Int × Int × Int → Me_t → Int → Me_t → Prop := fun a σ z σ' => z = (-2) ∧ σ = σ'
set_option maxHeartbeats 4000000 in
set_option maxRecDepth 100000 in
theorem ct_F_X11_waiting (l : Launch) : CT_ l yX11_waiting cX11_waiting 4 (some .int) 5 113 as_F_X11_waiting (rmI_) pre_F_X11_waiting post_F_X11_waiting := by
  refine ct_of (by decide) (fun _ => Nat.le_refl _) ?_
  intro X G Q ad σ a hl hR E hG R hM hv hp
  obtain ⟨x1, x2, x3⟩ := a
  have r_x1 : -2147483648 ≤ x1 ∧ x1 ≤ 2147483647 := hv (0, x1) (List.mem_of_getElem? (i := 1) rfl)
  have r_x2 : -2147483648 ≤ x2 ∧ x2 ≤ 2147483647 := hv (0, x2) (List.mem_of_getElem? (i := 2) rfl)
  have r_x3 : -2147483648 ≤ x3 ∧ x3 ≤ 2147483647 := hv (0, x3) (List.mem_of_getElem? (i := 3) rfl)
  have B := @bk_ X G Q 0 0 ad SHS_ RX11 cX11_waiting 4 (some .int) flX11 plX11 knX11 [(578, 2, TR_ as_F_X11_isSet (rmI_) pre_F_X11_isSet post_F_X11_isSet)] _ _ none kX11_waiting [] flX11_ok plX11_ok knX11_ok eX11_waiting oX11_waiting
    (List.forall_mem_cons.mpr ⟨cok_v (t := 32) (c := 11) (N := 39) (n := 1) (idx := 289) E (ct_F_X11_isSet X.2.1) (by rw [hR]; decide) (Nat.zero_le _) (Nat.zero_le _) hG rfl rfl ⟨rfl, by decide, by decide, by decide⟩ (fun _ => ⟨_, _, rfl, rfl⟩) wl_X11_289 wi_X11_isSet ws_X11_isSet wn_X11 wc_X11_isSet, fun _ h => absurd h List.not_mem_nil⟩) R sok_no E
  show WP_ X G Q 0 0 ad SHS_ σ 0 [(42, 86), (0, x1), (0, x2), (0, x3)] []
  have hp : FM_ σ := hp
  obtain ⟨hW0, hW1, hW2, hW3, hW4, hW5, hT, hF, hP, hI, hY, hSz, hAt, hFr⟩ := id hp
  refine B rfl ?_
  refine Exists.intro x1 (And.intro rfl (And.intro hp ?_))
  rintro _ _ ⟨rfl, rfl⟩
  refine And.intro (fun h4 => ?_) (fun h4 => (by exfalso; omega))
  refine B rfl ?_
  refine Exists.intro _ (And.intro rfl ?_)
  exact And.intro rfl rfl
def as_F_X11_share : Int × Int × Int × Int → List Sv_t := fun a => [(42, 86), (0, a.1), (0, a.2.1), (0, a.2.2.1), (0, a.2.2.2)]
def pre_F_X11_share : Int × Int × Int × Int → Me_t → Prop := fun a σ => FM_ σ
def post_F_X11_share : Int × Int × Int × Int → Me_t → Int → Me_t → Prop := fun a σ z σ' => z = (-2) ∧ σ = σ'
set_option maxHeartbeats 4000000 in
set_option maxRecDepth 100000 in
theorem ct_F_X11_share (l : Launch) : CT_ l yX11_share cX11_share 7 (some .int) 5 113 as_F_X11_share (rmI_) pre_F_X11_share post_F_X11_share := by
  refine ct_of (by decide) (fun _ => Nat.le_of_ble_eq_true rfl) ?_
  intro X G Q ad σ a hl hR E hG R hM hv hp
  obtain ⟨x1, x2, x3, x4⟩ := a
  have r_x1 : -2147483648 ≤ x1 ∧ x1 ≤ 2147483647 := hv (0, x1) (List.mem_of_getElem? (i := 1) rfl)
  have r_x2 : -2147483648 ≤ x2 ∧ x2 ≤ 2147483647 := hv (0, x2) (List.mem_of_getElem? (i := 2) rfl)
  have r_x3 : -2147483648 ≤ x3 ∧ x3 ≤ 2147483647 := hv (0, x3) (List.mem_of_getElem? (i := 3) rfl)
  have r_x4 : -2147483648 ≤ x4 ∧ x4 ≤ 2147483647 := hv (0, x4) (List.mem_of_getElem? (i := 4) rfl)
  have B := @bk_ X G Q 0 0 ad SHS_ RX11 cX11_share 7 (some .int) flX11 plX11 knX11 [(578, 2, TR_ as_F_X11_isSet (rmI_) pre_F_X11_isSet post_F_X11_isSet)] _ _ none kX11_share [] flX11_ok plX11_ok knX11_ok eX11_share oX11_share
    (List.forall_mem_cons.mpr ⟨cok_v (t := 32) (c := 11) (N := 39) (n := 1) (idx := 289) E (ct_F_X11_isSet X.2.1) (by rw [hR]; decide) (Nat.zero_le _) (Nat.zero_le _) hG rfl rfl ⟨rfl, by decide, by decide, by decide⟩ (fun _ => ⟨_, _, rfl, rfl⟩) wl_X11_289 wi_X11_isSet ws_X11_isSet wn_X11 wc_X11_isSet, fun _ h => absurd h List.not_mem_nil⟩) R sok_no E
  show WP_ X G Q 0 0 ad SHS_ σ 0 [(42, 86), (0, x1), (0, x2), (0, x3), (0, x4), (9, 0), (9, 0)] []
  have hp : FM_ σ := hp
  obtain ⟨hW0, hW1, hW2, hW3, hW4, hW5, hT, hF, hP, hI, hY, hSz, hAt, hFr⟩ := id hp
  refine B rfl ?_
  refine Exists.intro x1 (And.intro rfl (And.intro hp ?_))
  rintro _ _ ⟨rfl, rfl⟩
  refine And.intro (fun h4 => ?_) (fun h4 => (by exfalso; omega))
  refine B rfl ?_
  refine Exists.intro _ (And.intro rfl ?_)
  exact And.intro rfl rfl
def as_F_X11_meets : Int × Int × Int × Int × Int → List Sv_t := fun a => [(42, 86), (0, a.1), (0, a.2.1), (0, a.2.2.1), (0, a.2.2.2.1), (0, a.2.2.2.2)]
def pre_F_X11_meets : Int × Int × Int × Int × Int → Me_t → Prop := fun a σ => FM_ σ
def post_F_X11_meets : Int × Int × Int × Int × Int → Me_t → Int → Me_t → Prop := fun a σ z σ' => z = (-2) ∧ σ = σ'
set_option maxHeartbeats 4000000 in
set_option maxRecDepth 100000 in
theorem ct_F_X11_meets (l : Launch) : CT_ l yX11_meets cX11_meets 8 (some .int) 3 69 as_F_X11_meets (rmI_) pre_F_X11_meets post_F_X11_meets := by
  refine ct_of (by decide) (fun _ => Nat.le_of_ble_eq_true rfl) ?_
  intro X G Q ad σ a hl hR E hG R hM hv hp
  obtain ⟨x1, x2, x3, x4, x5⟩ := a
  have r_x1 : -2147483648 ≤ x1 ∧ x1 ≤ 2147483647 := hv (0, x1) (List.mem_of_getElem? (i := 1) rfl)
  have r_x2 : -2147483648 ≤ x2 ∧ x2 ≤ 2147483647 := hv (0, x2) (List.mem_of_getElem? (i := 2) rfl)
  have r_x3 : -2147483648 ≤ x3 ∧ x3 ≤ 2147483647 := hv (0, x3) (List.mem_of_getElem? (i := 3) rfl)
  have r_x4 : -2147483648 ≤ x4 ∧ x4 ≤ 2147483647 := hv (0, x4) (List.mem_of_getElem? (i := 4) rfl)
  have r_x5 : -2147483648 ≤ x5 ∧ x5 ≤ 2147483647 := hv (0, x5) (List.mem_of_getElem? (i := 5) rfl)
  have B := @bk_ X G Q 0 0 ad SHS_ RX11 cX11_meets 8 (some .int) flX11 plX11 knX11 [(630, 3, TR_ as_F_X11_areTwo (rmI_) pre_F_X11_areTwo post_F_X11_areTwo)] _ _ none kX11_meets [] flX11_ok plX11_ok knX11_ok eX11_meets oX11_meets
    (List.forall_mem_cons.mpr ⟨cok_v (t := 32) (c := 11) (N := 39) (n := 2) (idx := 315) E (ct_F_X11_areTwo X.2.1) (by rw [hR]; decide) (Nat.zero_le _) (Nat.zero_le _) hG rfl rfl ⟨rfl, by decide, by decide, by decide⟩ (fun _ => ⟨_, _, rfl, rfl⟩) wl_X11_315 wi_X11_areTwo ws_X11_areTwo wn_X11 wc_X11_areTwo, fun _ h => absurd h List.not_mem_nil⟩) R sok_no E
  show WP_ X G Q 0 0 ad SHS_ σ 0 [(42, 86), (0, x1), (0, x2), (0, x3), (0, x4), (0, x5), (9, 0), (9, 0)] []
  have hp : FM_ σ := hp
  obtain ⟨hW0, hW1, hW2, hW3, hW4, hW5, hT, hF, hP, hI, hY, hSz, hAt, hFr⟩ := id hp
  refine B rfl ?_
  refine Exists.intro (x1, x3) (And.intro rfl (And.intro hp ?_))
  rintro _ _ ⟨rfl, rfl⟩
  refine And.intro (fun h4 => ?_) (fun h4 => (by exfalso; omega))
  refine B rfl ?_
  refine Exists.intro _ (And.intro rfl ?_)
  exact And.intro rfl rfl
def as_F_X11_period : Int → List Sv_t := fun a => [(42, 86), (0, a)]
def pre_F_X11_period : Int → Me_t → Prop := fun a σ => FM_ σ
def post_F_X11_period : Int → Me_t → Int → Me_t → Prop := fun a σ z σ' => z = (-2) ∧ σ = σ'
set_option maxHeartbeats 4000000 in
set_option maxRecDepth 100000 in
theorem ct_F_X11_period (l : Launch) : CT_ l yX11_period cX11_period 4 (some .int) 3 69 as_F_X11_period (rmI_) pre_F_X11_period post_F_X11_period := by
  refine ct_of (by decide) (fun _ => Nat.le_of_ble_eq_true rfl) ?_
  intro X G Q ad σ a hl hR E hG R hM hv hp
  obtain ⟨x1, rfl⟩ : ∃ q : Int, q = a := ⟨_, rfl⟩
  have r_x1 : -2147483648 ≤ x1 ∧ x1 ≤ 2147483647 := hv (0, x1) (List.mem_of_getElem? (i := 1) rfl)
  have B := @bk_ X G Q 0 0 ad SHS_ RX11 cX11_period 4 (some .int) flX11 plX11 knX11 [(166, 2, TR_ as_F_X11_isLand (rmI_) pre_F_X11_isLand post_F_X11_isLand)] _ _ none kX11_period [] flX11_ok plX11_ok knX11_ok eX11_period oX11_period
    (List.forall_mem_cons.mpr ⟨cok_v (t := 32) (c := 11) (N := 39) (n := 1) (idx := 83) E (ct_F_X11_isLand X.2.1) (by rw [hR]; decide) (Nat.zero_le _) (Nat.zero_le _) hG rfl rfl ⟨rfl, by decide, by decide, by decide⟩ (fun _ => ⟨_, _, rfl, rfl⟩) wl_X11_83 wi_X11_isLand ws_X11_isLand wn_X11 wc_X11_isLand, fun _ h => absurd h List.not_mem_nil⟩) R sok_no E
  show WP_ X G Q 0 0 ad SHS_ σ 0 [(42, 86), (0, x1), (9, 0), (9, 0)] []
  have hp : FM_ σ := hp
  obtain ⟨hW0, hW1, hW2, hW3, hW4, hW5, hT, hF, hP, hI, hY, hSz, hAt, hFr⟩ := id hp
  refine B rfl ?_
  refine Exists.intro x1 (And.intro rfl (And.intro hp ?_))
  rintro _ _ ⟨rfl, rfl⟩
  refine And.intro (fun h4 => (by exfalso; omega)) (fun h4 => ?_)
  refine Exists.intro _ (And.intro rfl ?_)
  exact And.intro rfl rfl
def as_F_X11_alike : Int × Int × Int → List Sv_t := fun a => [(42, 86), (0, a.1), (0, a.2.1), (0, a.2.2)]
def pre_F_X11_alike : Int × Int × Int → Me_t → Prop := fun a σ => FM_ σ
def post_F_X11_alike : Int × Int × Int → Me_t → Int → Me_t → Prop := fun a σ z σ' => z = (-2) ∧ σ = σ'
set_option maxHeartbeats 4000000 in
set_option maxRecDepth 100000 in
theorem ct_F_X11_alike (l : Launch) : CT_ l yX11_alike cX11_alike 5 (some .int) 4 92 as_F_X11_alike (rmI_) pre_F_X11_alike post_F_X11_alike := by
  refine ct_of (by decide) (fun _ => Nat.le_of_ble_eq_true rfl) ?_
  intro X G Q ad σ a hl hR E hG R hM hv hp
  obtain ⟨x1, x2, x3⟩ := a
  have r_x1 : -2147483648 ≤ x1 ∧ x1 ≤ 2147483647 := hv (0, x1) (List.mem_of_getElem? (i := 1) rfl)
  have r_x2 : -2147483648 ≤ x2 ∧ x2 ≤ 2147483647 := hv (0, x2) (List.mem_of_getElem? (i := 2) rfl)
  have r_x3 : -2147483648 ≤ x3 ∧ x3 ≤ 2147483647 := hv (0, x3) (List.mem_of_getElem? (i := 3) rfl)
  have B := @bk_ X G Q 0 0 ad SHS_ RX11 cX11_alike 5 (some .int) flX11 plX11 knX11 [(630, 3, TR_ as_F_X11_areTwo (rmI_) pre_F_X11_areTwo post_F_X11_areTwo)] _ _ none kX11_alike [] flX11_ok plX11_ok knX11_ok eX11_alike oX11_alike
    (List.forall_mem_cons.mpr ⟨cok_v (t := 32) (c := 11) (N := 39) (n := 2) (idx := 315) E (ct_F_X11_areTwo X.2.1) (by rw [hR]; decide) (Nat.zero_le _) (Nat.zero_le _) hG rfl rfl ⟨rfl, by decide, by decide, by decide⟩ (fun _ => ⟨_, _, rfl, rfl⟩) wl_X11_315 wi_X11_areTwo ws_X11_areTwo wn_X11 wc_X11_areTwo, fun _ h => absurd h List.not_mem_nil⟩) R sok_no E
  show WP_ X G Q 0 0 ad SHS_ σ 0 [(42, 86), (0, x1), (0, x2), (0, x3), (9, 0)] []
  have hp : FM_ σ := hp
  obtain ⟨hW0, hW1, hW2, hW3, hW4, hW5, hT, hF, hP, hI, hY, hSz, hAt, hFr⟩ := id hp
  refine B rfl ?_
  refine Exists.intro (x1, x2) (And.intro rfl (And.intro hp ?_))
  rintro _ _ ⟨rfl, rfl⟩
  refine And.intro (fun h4 => ?_) (fun h4 => (by exfalso; omega))
  refine B rfl ?_
  refine Exists.intro _ (And.intro rfl ?_)
  exact And.intro rfl rfl
def as_F_X11_years : Int → List Sv_t := fun a => [(42, 86), (0, a)]
def pre_F_X11_years : Int → Me_t → Prop := fun a σ => FM_ σ
def post_F_X11_years : Int → Me_t → Int → Me_t → Prop := fun a σ z σ' => z = (-2) ∧ σ = σ'
set_option maxHeartbeats 4000000 in
set_option maxRecDepth 100000 in
theorem ct_F_X11_years (l : Launch) : CT_ l yX11_years cX11_years 4 (some .int) 4 92 as_F_X11_years (rmI_) pre_F_X11_years post_F_X11_years := by
  refine ct_of (by decide) (fun _ => Nat.le_of_ble_eq_true rfl) ?_
  intro X G Q ad σ a hl hR E hG R hM hv hp
  obtain ⟨x1, rfl⟩ : ∃ q : Int, q = a := ⟨_, rfl⟩
  have r_x1 : -2147483648 ≤ x1 ∧ x1 ≤ 2147483647 := hv (0, x1) (List.mem_of_getElem? (i := 1) rfl)
  have B := @bk_ X G Q 0 0 ad SHS_ RX11 cX11_years 4 (some .int) flX11 plX11 knX11 [(184, 1, TR_ as_F_X11_isWar (rmI_) pre_F_X11_isWar post_F_X11_isWar)] _ _ none kX11_years [] flX11_ok plX11_ok knX11_ok eX11_years oX11_years
    (List.forall_mem_cons.mpr ⟨cok_v (t := 32) (c := 11) (N := 39) (n := 0) (idx := 92) E (ct_F_X11_isWar X.2.1) (by rw [hR]; decide) (Nat.zero_le _) (Nat.zero_le _) hG rfl rfl ⟨rfl, by decide, by decide, by decide⟩ (fun _ => ⟨_, _, rfl, rfl⟩) wl_X11_92 wi_X11_isWar ws_X11_isWar wn_X11 wc_X11_isWar, fun _ h => absurd h List.not_mem_nil⟩) R sok_no E
  show WP_ X G Q 0 0 ad SHS_ σ 0 [(42, 86), (0, x1), (9, 0), (9, 0)] []
  have hp : FM_ σ := hp
  obtain ⟨hW0, hW1, hW2, hW3, hW4, hW5, hT, hF, hP, hI, hY, hSz, hAt, hFr⟩ := id hp
  refine B rfl ?_
  refine Exists.intro () (And.intro rfl (And.intro hp ?_))
  rintro _ _ ⟨rfl, rfl⟩
  refine And.intro (fun h4 => ?_) (fun h4 => (by exfalso; omega))
  refine B rfl ?_
  refine Exists.intro _ (And.intro rfl ?_)
  exact And.intro rfl rfl
def as_F_X11_comes : Int × Int → List Sv_t := fun a => [(42, 86), (0, a.1), (0, a.2)]
def pre_F_X11_comes : Int × Int → Me_t → Prop := fun a σ => FM_ σ
def post_F_X11_comes : Int × Int → Me_t → Int → Me_t → Prop := fun a σ z σ' => z = (-2) ∧ σ = σ'
set_option maxHeartbeats 4000000 in
set_option maxRecDepth 100000 in
theorem ct_F_X11_comes (l : Launch) : CT_ l yX11_comes cX11_comes 4 (some .int) 4 92 as_F_X11_comes (rmI_) pre_F_X11_comes post_F_X11_comes := by
  refine ct_of (by decide) (fun _ => Nat.le_of_ble_eq_true rfl) ?_
  intro X G Q ad σ a hl hR E hG R hM hv hp
  obtain ⟨x1, x2⟩ := a
  have r_x1 : -2147483648 ≤ x1 ∧ x1 ≤ 2147483647 := hv (0, x1) (List.mem_of_getElem? (i := 1) rfl)
  have r_x2 : -2147483648 ≤ x2 ∧ x2 ≤ 2147483647 := hv (0, x2) (List.mem_of_getElem? (i := 2) rfl)
  have B := @bk_ X G Q 0 0 ad SHS_ RX11 cX11_comes 4 (some .int) flX11 plX11 knX11 [(166, 2, TR_ as_F_X11_isLand (rmI_) pre_F_X11_isLand post_F_X11_isLand)] _ _ none kX11_comes [] flX11_ok plX11_ok knX11_ok eX11_comes oX11_comes
    (List.forall_mem_cons.mpr ⟨cok_v (t := 32) (c := 11) (N := 39) (n := 1) (idx := 83) E (ct_F_X11_isLand X.2.1) (by rw [hR]; decide) (Nat.zero_le _) (Nat.zero_le _) hG rfl rfl ⟨rfl, by decide, by decide, by decide⟩ (fun _ => ⟨_, _, rfl, rfl⟩) wl_X11_83 wi_X11_isLand ws_X11_isLand wn_X11 wc_X11_isLand, fun _ h => absurd h List.not_mem_nil⟩) R sok_no E
  show WP_ X G Q 0 0 ad SHS_ σ 0 [(42, 86), (0, x1), (0, x2), (9, 0)] []
  have hp : FM_ σ := hp
  obtain ⟨hW0, hW1, hW2, hW3, hW4, hW5, hT, hF, hP, hI, hY, hSz, hAt, hFr⟩ := id hp
  refine B rfl ?_
  refine Exists.intro x1 (And.intro rfl (And.intro hp ?_))
  rintro _ _ ⟨rfl, rfl⟩
  refine And.intro (fun h4 => ?_) (fun h4 => (by exfalso; omega))
  refine B rfl ?_
  refine Exists.intro _ (And.intro rfl ?_)
  exact And.intro rfl rfl
def as_F_X11_saints : Int × Int × Int × Int × Int → List Sv_t := fun a => [(42, 86), (0, a.1), (0, a.2.1), (0, a.2.2.1), (0, a.2.2.2.1), (0, a.2.2.2.2)]
def pre_F_X11_saints : Int × Int × Int × Int × Int → Me_t → Prop := fun a σ => FM_ σ
def post_F_X11_saints : Int × Int × Int × Int × Int → Me_t → Int → Me_t → Prop := fun a σ z σ' => z = (-2) ∧ σ = σ'
set_option maxHeartbeats 4000000 in
set_option maxRecDepth 100000 in
theorem ct_F_X11_saints (l : Launch) : CT_ l yX11_saints cX11_saints 6 (some .int) 5 120 as_F_X11_saints (rmI_) pre_F_X11_saints post_F_X11_saints := by
  refine ct_of (by decide) (fun _ => Nat.le_refl _) ?_
  intro X G Q ad σ a hl hR E hG R hM hv hp
  obtain ⟨x1, x2, x3, x4, x5⟩ := a
  have r_x1 : -2147483648 ≤ x1 ∧ x1 ≤ 2147483647 := hv (0, x1) (List.mem_of_getElem? (i := 1) rfl)
  have r_x2 : -2147483648 ≤ x2 ∧ x2 ≤ 2147483647 := hv (0, x2) (List.mem_of_getElem? (i := 2) rfl)
  have r_x3 : -2147483648 ≤ x3 ∧ x3 ≤ 2147483647 := hv (0, x3) (List.mem_of_getElem? (i := 3) rfl)
  have r_x4 : -2147483648 ≤ x4 ∧ x4 ≤ 2147483647 := hv (0, x4) (List.mem_of_getElem? (i := 4) rfl)
  have r_x5 : -2147483648 ≤ x5 ∧ x5 ≤ 2147483647 := hv (0, x5) (List.mem_of_getElem? (i := 5) rfl)
  have B := @bk_ X G Q 0 0 ad SHS_ RX11 cX11_saints 6 (some .int) flX11 plX11 knX11 [(680, 6, TR_ as_F_X11_areSaints (rmI_) pre_F_X11_areSaints post_F_X11_areSaints)] _ _ none kX11_saints [] flX11_ok plX11_ok knX11_ok eX11_saints oX11_saints
    (List.forall_mem_cons.mpr ⟨cok_v (t := 32) (c := 11) (N := 39) (n := 5) (idx := 340) E (ct_F_X11_areSaints X.2.1) (by rw [hR]; decide) (Nat.zero_le _) (Nat.zero_le _) hG rfl rfl ⟨rfl, by decide, by decide, by decide⟩ (fun _ => ⟨_, _, rfl, rfl⟩) wl_X11_340 wi_X11_areSaints ws_X11_areSaints wn_X11 wc_X11_areSaints, fun _ h => absurd h List.not_mem_nil⟩) R sok_no E
  show WP_ X G Q 0 0 ad SHS_ σ 0 [(42, 86), (0, x1), (0, x2), (0, x3), (0, x4), (0, x5)] []
  have hp : FM_ σ := hp
  obtain ⟨hW0, hW1, hW2, hW3, hW4, hW5, hT, hF, hP, hI, hY, hSz, hAt, hFr⟩ := id hp
  refine B rfl ?_
  refine Exists.intro (x1, x2, x3, x4, x5) (And.intro rfl (And.intro hp ?_))
  rintro _ _ ⟨rfl, rfl⟩
  refine And.intro (fun h4 => (by exfalso; omega)) (fun h4 => ?_)
  refine Exists.intro _ (And.intro rfl ?_)
  exact And.intro rfl rfl
def as_F_X11_founded : Int × Int × Int × Int × Int → List Sv_t := fun a => [(42, 86), (0, a.1), (0, a.2.1), (0, a.2.2.1), (0, a.2.2.2.1), (0, a.2.2.2.2)]
def pre_F_X11_founded : Int × Int × Int × Int × Int → Me_t → Prop := fun a σ => FM_ σ
def post_F_X11_founded : Int × Int × Int × Int × Int → Me_t → Int → Me_t → Prop := fun a σ z σ' => z = (-2) ∧ σ = σ'
set_option maxHeartbeats 4000000 in
set_option maxRecDepth 100000 in
theorem ct_F_X11_founded (l : Launch) : CT_ l yX11_founded cX11_founded 6 (some .long) 5 120 as_F_X11_founded (rmL_) pre_F_X11_founded post_F_X11_founded := by
  refine ct_of (by decide) (fun _ => Nat.le_refl _) ?_
  intro X G Q ad σ a hl hR E hG R hM hv hp
  obtain ⟨x1, x2, x3, x4, x5⟩ := a
  have r_x1 : -2147483648 ≤ x1 ∧ x1 ≤ 2147483647 := hv (0, x1) (List.mem_of_getElem? (i := 1) rfl)
  have r_x2 : -2147483648 ≤ x2 ∧ x2 ≤ 2147483647 := hv (0, x2) (List.mem_of_getElem? (i := 2) rfl)
  have r_x3 : -2147483648 ≤ x3 ∧ x3 ≤ 2147483647 := hv (0, x3) (List.mem_of_getElem? (i := 3) rfl)
  have r_x4 : -2147483648 ≤ x4 ∧ x4 ≤ 2147483647 := hv (0, x4) (List.mem_of_getElem? (i := 4) rfl)
  have r_x5 : -2147483648 ≤ x5 ∧ x5 ≤ 2147483647 := hv (0, x5) (List.mem_of_getElem? (i := 5) rfl)
  have B := @bk_ X G Q 0 0 ad SHS_ RX11 cX11_founded 6 (some .long) flX11 plX11 knX11 [(680, 6, TR_ as_F_X11_areSaints (rmI_) pre_F_X11_areSaints post_F_X11_areSaints)] _ _ none kX11_founded [] flX11_ok plX11_ok knX11_ok eX11_founded oX11_founded
    (List.forall_mem_cons.mpr ⟨cok_v (t := 32) (c := 11) (N := 39) (n := 5) (idx := 340) E (ct_F_X11_areSaints X.2.1) (by rw [hR]; decide) (Nat.zero_le _) (Nat.zero_le _) hG rfl rfl ⟨rfl, by decide, by decide, by decide⟩ (fun _ => ⟨_, _, rfl, rfl⟩) wl_X11_340 wi_X11_areSaints ws_X11_areSaints wn_X11 wc_X11_areSaints, fun _ h => absurd h List.not_mem_nil⟩) R sok_no E
  show WP_ X G Q 0 0 ad SHS_ σ 0 [(42, 86), (0, x1), (0, x2), (0, x3), (0, x4), (0, x5)] []
  have hp : FM_ σ := hp
  obtain ⟨hW0, hW1, hW2, hW3, hW4, hW5, hT, hF, hP, hI, hY, hSz, hAt, hFr⟩ := id hp
  refine B rfl ?_
  refine Exists.intro (x1, x2, x3, x4, x5) (And.intro rfl (And.intro hp ?_))
  rintro _ _ ⟨rfl, rfl⟩
  refine And.intro (fun h4 => (by exfalso; omega)) (fun h4 => ?_)
  refine Exists.intro _ (And.intro rfl ?_)
  exact And.intro rfl rfl
def as_F_X11_bridge : Int × Int × Int × Int → List Sv_t := fun a => [(42, 86), (0, a.1), (0, a.2.1), (0, a.2.2.1), (0, a.2.2.2)]
def pre_F_X11_bridge : Int × Int × Int × Int → Me_t → Prop := fun a σ => FM_ σ
def post_F_X11_bridge : Int × Int × Int × Int → Me_t → Int → Me_t → Prop := fun a σ z σ' => z = (-2) ∧ σ = σ'
set_option maxHeartbeats 4000000 in
set_option maxRecDepth 100000 in
theorem ct_F_X11_bridge (l : Launch) : CT_ l yX11_bridge cX11_bridge 5 (some .int) 4 92 as_F_X11_bridge (rmI_) pre_F_X11_bridge post_F_X11_bridge := by
  refine ct_of (by decide) (fun _ => Nat.le_refl _) ?_
  intro X G Q ad σ a hl hR E hG R hM hv hp
  obtain ⟨x1, x2, x3, x4⟩ := a
  have r_x1 : -2147483648 ≤ x1 ∧ x1 ≤ 2147483647 := hv (0, x1) (List.mem_of_getElem? (i := 1) rfl)
  have r_x2 : -2147483648 ≤ x2 ∧ x2 ≤ 2147483647 := hv (0, x2) (List.mem_of_getElem? (i := 2) rfl)
  have r_x3 : -2147483648 ≤ x3 ∧ x3 ≤ 2147483647 := hv (0, x3) (List.mem_of_getElem? (i := 3) rfl)
  have r_x4 : -2147483648 ≤ x4 ∧ x4 ≤ 2147483647 := hv (0, x4) (List.mem_of_getElem? (i := 4) rfl)
  have B := @bk_ X G Q 0 0 ad SHS_ RX11 cX11_bridge 5 (some .int) flX11 plX11 knX11 [(166, 2, TR_ as_F_X11_isLand (rmI_) pre_F_X11_isLand post_F_X11_isLand)] _ _ none kX11_bridge [] flX11_ok plX11_ok knX11_ok eX11_bridge oX11_bridge
    (List.forall_mem_cons.mpr ⟨cok_v (t := 32) (c := 11) (N := 39) (n := 1) (idx := 83) E (ct_F_X11_isLand X.2.1) (by rw [hR]; decide) (Nat.zero_le _) (Nat.zero_le _) hG rfl rfl ⟨rfl, by decide, by decide, by decide⟩ (fun _ => ⟨_, _, rfl, rfl⟩) wl_X11_83 wi_X11_isLand ws_X11_isLand wn_X11 wc_X11_isLand, fun _ h => absurd h List.not_mem_nil⟩) R sok_no E
  show WP_ X G Q 0 0 ad SHS_ σ 0 [(42, 86), (0, x1), (0, x2), (0, x3), (0, x4)] []
  have hp : FM_ σ := hp
  obtain ⟨hW0, hW1, hW2, hW3, hW4, hW5, hT, hF, hP, hI, hY, hSz, hAt, hFr⟩ := id hp
  refine B rfl ?_
  refine Exists.intro x1 (And.intro rfl (And.intro hp ?_))
  rintro _ _ ⟨rfl, rfl⟩
  refine And.intro (fun h4 => ?_) (fun h4 => (by exfalso; omega))
  refine B rfl ?_
  refine Exists.intro _ (And.intro rfl ?_)
  exact And.intro rfl rfl
def as_F_X11_bridged : Int × Int × Int × Int → List Sv_t := fun a => [(42, 86), (0, a.1), (0, a.2.1), (0, a.2.2.1), (0, a.2.2.2)]
def pre_F_X11_bridged : Int × Int × Int × Int → Me_t → Prop := fun a σ => FM_ σ
def post_F_X11_bridged : Int × Int × Int × Int → Me_t → Int → Me_t → Prop := fun a σ z σ' => z = (-2) ∧ σ = σ'
set_option maxHeartbeats 4000000 in
set_option maxRecDepth 100000 in
theorem ct_F_X11_bridged (l : Launch) : CT_ l yX11_bridged cX11_bridged 5 (some .int) 4 92 as_F_X11_bridged (rmI_) pre_F_X11_bridged post_F_X11_bridged := by
  refine ct_of (by decide) (fun _ => Nat.le_refl _) ?_
  intro X G Q ad σ a hl hR E hG R hM hv hp
  obtain ⟨x1, x2, x3, x4⟩ := a
  have r_x1 : -2147483648 ≤ x1 ∧ x1 ≤ 2147483647 := hv (0, x1) (List.mem_of_getElem? (i := 1) rfl)
  have r_x2 : -2147483648 ≤ x2 ∧ x2 ≤ 2147483647 := hv (0, x2) (List.mem_of_getElem? (i := 2) rfl)
  have r_x3 : -2147483648 ≤ x3 ∧ x3 ≤ 2147483647 := hv (0, x3) (List.mem_of_getElem? (i := 3) rfl)
  have r_x4 : -2147483648 ≤ x4 ∧ x4 ≤ 2147483647 := hv (0, x4) (List.mem_of_getElem? (i := 4) rfl)
  have B := @bk_ X G Q 0 0 ad SHS_ RX11 cX11_bridged 5 (some .int) flX11 plX11 knX11 [(166, 2, TR_ as_F_X11_isLand (rmI_) pre_F_X11_isLand post_F_X11_isLand)] _ _ none kX11_bridged [] flX11_ok plX11_ok knX11_ok eX11_bridged oX11_bridged
    (List.forall_mem_cons.mpr ⟨cok_v (t := 32) (c := 11) (N := 39) (n := 1) (idx := 83) E (ct_F_X11_isLand X.2.1) (by rw [hR]; decide) (Nat.zero_le _) (Nat.zero_le _) hG rfl rfl ⟨rfl, by decide, by decide, by decide⟩ (fun _ => ⟨_, _, rfl, rfl⟩) wl_X11_83 wi_X11_isLand ws_X11_isLand wn_X11 wc_X11_isLand, fun _ h => absurd h List.not_mem_nil⟩) R sok_no E
  show WP_ X G Q 0 0 ad SHS_ σ 0 [(42, 86), (0, x1), (0, x2), (0, x3), (0, x4)] []
  have hp : FM_ σ := hp
  obtain ⟨hW0, hW1, hW2, hW3, hW4, hW5, hT, hF, hP, hI, hY, hSz, hAt, hFr⟩ := id hp
  refine B rfl ?_
  refine Exists.intro x1 (And.intro rfl (And.intro hp ?_))
  rintro _ _ ⟨rfl, rfl⟩
  refine And.intro (fun h4 => ?_) (fun h4 => (by exfalso; omega))
  refine B rfl ?_
  refine Exists.intro _ (And.intro rfl ?_)
  exact And.intro rfl rfl
def as_F_X11_oldest : Int → List Sv_t := fun a => [(42, 86), (0, a)]
def pre_F_X11_oldest : Int → Me_t → Prop := fun a σ => FM_ σ
def post_F_X11_oldest : Int → Me_t → Int → Me_t → Prop := fun a σ z σ' => z = (-2) ∧ σ = σ'
set_option maxHeartbeats 4000000 in
set_option maxRecDepth 100000 in
theorem ct_F_X11_oldest (l : Launch) : CT_ l yX11_oldest cX11_oldest 5 (some .int) 6 139 as_F_X11_oldest (rmI_) pre_F_X11_oldest post_F_X11_oldest := by
  refine ct_of (by decide) (fun _ => Nat.le_of_ble_eq_true rfl) ?_
  intro X G Q ad σ a hl hR E hG R hM hv hp
  obtain ⟨x1, rfl⟩ : ∃ q : Int, q = a := ⟨_, rfl⟩
  have r_x1 : -2147483648 ≤ x1 ∧ x1 ≤ 2147483647 := hv (0, x1) (List.mem_of_getElem? (i := 1) rfl)
  have B := @bk_ X G Q 0 0 ad SHS_ RX11 cX11_oldest 5 (some .int) flX11 plX11 knX11 [(734, 2, TR_ as_F_X11_asksOrders (rmI_) pre_F_X11_asksOrders post_F_X11_asksOrders)] _ _ none kX11_oldest [] flX11_ok plX11_ok knX11_ok eX11_oldest oX11_oldest
    (List.forall_mem_cons.mpr ⟨cok_v (t := 32) (c := 11) (N := 39) (n := 1) (idx := 367) E (ct_F_X11_asksOrders X.2.1) (by rw [hR]; decide) (Nat.zero_le _) (Nat.zero_le _) hG rfl rfl ⟨rfl, by decide, by decide, by decide⟩ (fun _ => ⟨_, _, rfl, rfl⟩) wl_X11_367 wi_X11_asksOrders ws_X11_asksOrders wn_X11 wc_X11_asksOrders, fun _ h => absurd h List.not_mem_nil⟩) R sok_no E
  show WP_ X G Q 0 0 ad SHS_ σ 0 [(42, 86), (0, x1), (9, 0), (9, 0), (9, 0)] []
  have hp : FM_ σ := hp
  obtain ⟨hW0, hW1, hW2, hW3, hW4, hW5, hT, hF, hP, hI, hY, hSz, hAt, hFr⟩ := id hp
  refine B rfl ?_
  refine Exists.intro x1 (And.intro rfl (And.intro hp ?_))
  rintro _ _ ⟨rfl, rfl⟩
  refine And.intro (fun h4 => (by exfalso; omega)) (fun h4 => ?_)
  refine Exists.intro _ (And.intro rfl ?_)
  exact And.intro rfl rfl
def as_F_X11_older : Int × Int → List Sv_t := fun a => [(42, 86), (0, a.1), (0, a.2)]
def pre_F_X11_older : Int × Int → Me_t → Prop := fun a σ => FM_ σ
def post_F_X11_older : Int × Int → Me_t → Int → Me_t → Prop := fun a σ z σ' => z = (-2) ∧ σ = σ'
set_option maxHeartbeats 4000000 in
set_option maxRecDepth 100000 in
theorem ct_F_X11_older (l : Launch) : CT_ l yX11_older cX11_older 6 (some .int) 6 139 as_F_X11_older (rmI_) pre_F_X11_older post_F_X11_older := by
  refine ct_of (by decide) (fun _ => Nat.le_of_ble_eq_true rfl) ?_
  intro X G Q ad σ a hl hR E hG R hM hv hp
  obtain ⟨x1, x2⟩ := a
  have r_x1 : -2147483648 ≤ x1 ∧ x1 ≤ 2147483647 := hv (0, x1) (List.mem_of_getElem? (i := 1) rfl)
  have r_x2 : -2147483648 ≤ x2 ∧ x2 ≤ 2147483647 := hv (0, x2) (List.mem_of_getElem? (i := 2) rfl)
  have B := @bk_ X G Q 0 0 ad SHS_ RX11 cX11_older 6 (some .int) flX11 plX11 knX11 [(734, 2, TR_ as_F_X11_asksOrders (rmI_) pre_F_X11_asksOrders post_F_X11_asksOrders)] _ _ none kX11_older [] flX11_ok plX11_ok knX11_ok eX11_older oX11_older
    (List.forall_mem_cons.mpr ⟨cok_v (t := 32) (c := 11) (N := 39) (n := 1) (idx := 367) E (ct_F_X11_asksOrders X.2.1) (by rw [hR]; decide) (Nat.zero_le _) (Nat.zero_le _) hG rfl rfl ⟨rfl, by decide, by decide, by decide⟩ (fun _ => ⟨_, _, rfl, rfl⟩) wl_X11_367 wi_X11_asksOrders ws_X11_asksOrders wn_X11 wc_X11_asksOrders, fun _ h => absurd h List.not_mem_nil⟩) R sok_no E
  show WP_ X G Q 0 0 ad SHS_ σ 0 [(42, 86), (0, x1), (0, x2), (9, 0), (9, 0), (9, 0)] []
  have hp : FM_ σ := hp
  obtain ⟨hW0, hW1, hW2, hW3, hW4, hW5, hT, hF, hP, hI, hY, hSz, hAt, hFr⟩ := id hp
  refine B rfl ?_
  refine Exists.intro x1 (And.intro rfl (And.intro hp ?_))
  rintro _ _ ⟨rfl, rfl⟩
  refine And.intro (fun h4 => (by exfalso; omega)) (fun h4 => ?_)
  refine Exists.intro _ (And.intro rfl ?_)
  exact And.intro rfl rfl
def as_F_X11_apart : Int → List Sv_t := fun a => [(42, 86), (0, a)]
def pre_F_X11_apart : Int → Me_t → Prop := fun a σ => FM_ σ
def post_F_X11_apart : Int → Me_t → Int → Me_t → Prop := fun a σ z σ' => z = (-2) ∧ σ = σ'
set_option maxHeartbeats 4000000 in
set_option maxRecDepth 100000 in
theorem ct_F_X11_apart (l : Launch) : CT_ l yX11_apart cX11_apart 6 (some .int) 6 139 as_F_X11_apart (rmI_) pre_F_X11_apart post_F_X11_apart := by
  refine ct_of (by decide) (fun _ => Nat.le_of_ble_eq_true rfl) ?_
  intro X G Q ad σ a hl hR E hG R hM hv hp
  obtain ⟨x1, rfl⟩ : ∃ q : Int, q = a := ⟨_, rfl⟩
  have r_x1 : -2147483648 ≤ x1 ∧ x1 ≤ 2147483647 := hv (0, x1) (List.mem_of_getElem? (i := 1) rfl)
  have B := @bk_ X G Q 0 0 ad SHS_ RX11 cX11_apart 6 (some .int) flX11 plX11 knX11 [(734, 2, TR_ as_F_X11_asksOrders (rmI_) pre_F_X11_asksOrders post_F_X11_asksOrders)] _ _ none kX11_apart [] flX11_ok plX11_ok knX11_ok eX11_apart oX11_apart
    (List.forall_mem_cons.mpr ⟨cok_v (t := 32) (c := 11) (N := 39) (n := 1) (idx := 367) E (ct_F_X11_asksOrders X.2.1) (by rw [hR]; decide) (Nat.zero_le _) (Nat.zero_le _) hG rfl rfl ⟨rfl, by decide, by decide, by decide⟩ (fun _ => ⟨_, _, rfl, rfl⟩) wl_X11_367 wi_X11_asksOrders ws_X11_asksOrders wn_X11 wc_X11_asksOrders, fun _ h => absurd h List.not_mem_nil⟩) R sok_no E
  show WP_ X G Q 0 0 ad SHS_ σ 0 [(42, 86), (0, x1), (9, 0), (9, 0), (9, 0), (9, 0)] []
  have hp : FM_ σ := hp
  obtain ⟨hW0, hW1, hW2, hW3, hW4, hW5, hT, hF, hP, hI, hY, hSz, hAt, hFr⟩ := id hp
  refine B rfl ?_
  refine Exists.intro x1 (And.intro rfl (And.intro hp ?_))
  rintro _ _ ⟨rfl, rfl⟩
  refine And.intro (fun h4 => (by exfalso; omega)) (fun h4 => ?_)
  refine Exists.intro _ (And.intro rfl ?_)
  exact And.intro rfl rfl
def as_F_X11_idle : Int → List Sv_t := fun a => [(42, 86), (0, a)]
def pre_F_X11_idle : Int → Me_t → Prop := fun a σ => FM_ σ
def post_F_X11_idle : Int → Me_t → Int → Me_t → Prop := fun a σ z σ' => z = (-2) ∧ σ = σ'
set_option maxHeartbeats 4000000 in
set_option maxRecDepth 100000 in
theorem ct_F_X11_idle (l : Launch) : CT_ l yX11_idle cX11_idle 5 (some .int) 6 139 as_F_X11_idle (rmI_) pre_F_X11_idle post_F_X11_idle := by
  refine ct_of (by decide) (fun _ => Nat.le_of_ble_eq_true rfl) ?_
  intro X G Q ad σ a hl hR E hG R hM hv hp
  obtain ⟨x1, rfl⟩ : ∃ q : Int, q = a := ⟨_, rfl⟩
  have r_x1 : -2147483648 ≤ x1 ∧ x1 ≤ 2147483647 := hv (0, x1) (List.mem_of_getElem? (i := 1) rfl)
  have B := @bk_ X G Q 0 0 ad SHS_ RX11 cX11_idle 5 (some .int) flX11 plX11 knX11 [(734, 2, TR_ as_F_X11_asksOrders (rmI_) pre_F_X11_asksOrders post_F_X11_asksOrders)] _ _ none kX11_idle [] flX11_ok plX11_ok knX11_ok eX11_idle oX11_idle
    (List.forall_mem_cons.mpr ⟨cok_v (t := 32) (c := 11) (N := 39) (n := 1) (idx := 367) E (ct_F_X11_asksOrders X.2.1) (by rw [hR]; decide) (Nat.zero_le _) (Nat.zero_le _) hG rfl rfl ⟨rfl, by decide, by decide, by decide⟩ (fun _ => ⟨_, _, rfl, rfl⟩) wl_X11_367 wi_X11_asksOrders ws_X11_asksOrders wn_X11 wc_X11_asksOrders, fun _ h => absurd h List.not_mem_nil⟩) R sok_no E
  show WP_ X G Q 0 0 ad SHS_ σ 0 [(42, 86), (0, x1), (9, 0), (9, 0), (9, 0)] []
  have hp : FM_ σ := hp
  obtain ⟨hW0, hW1, hW2, hW3, hW4, hW5, hT, hF, hP, hI, hY, hSz, hAt, hFr⟩ := id hp
  refine B rfl ?_
  refine Exists.intro x1 (And.intro rfl (And.intro hp ?_))
  rintro _ _ ⟨rfl, rfl⟩
  refine And.intro (fun h4 => (by exfalso; omega)) (fun h4 => ?_)
  refine Exists.intro _ (And.intro rfl ?_)
  exact And.intro rfl rfl
def as_F_X11_fits : Int × Int × Int → List Sv_t := fun a => [(42, 86), (0, a.1), (0, a.2.1), (0, a.2.2)]
def pre_F_X11_fits : Int × Int × Int → Me_t → Prop := fun a σ => FM_ σ
def post_F_X11_fits : Int × Int × Int → Me_t → Int → Me_t → Prop := fun a σ z σ' => z = (-2) ∧ σ = σ'
set_option maxHeartbeats 4000000 in
set_option maxRecDepth 100000 in
theorem ct_F_X11_fits (l : Launch) : CT_ l yX11_fits cX11_fits 5 (some .int) 6 139 as_F_X11_fits (rmI_) pre_F_X11_fits post_F_X11_fits := by
  refine ct_of (by decide) (fun _ => Nat.le_of_ble_eq_true rfl) ?_
  intro X G Q ad σ a hl hR E hG R hM hv hp
  obtain ⟨x1, x2, x3⟩ := a
  have r_x1 : -2147483648 ≤ x1 ∧ x1 ≤ 2147483647 := hv (0, x1) (List.mem_of_getElem? (i := 1) rfl)
  have r_x2 : -2147483648 ≤ x2 ∧ x2 ≤ 2147483647 := hv (0, x2) (List.mem_of_getElem? (i := 2) rfl)
  have r_x3 : -2147483648 ≤ x3 ∧ x3 ≤ 2147483647 := hv (0, x3) (List.mem_of_getElem? (i := 3) rfl)
  have B := @bk_ X G Q 0 0 ad SHS_ RX11 cX11_fits 5 (some .int) flX11 plX11 knX11 [(758, 5, TR_ as_F_X11_asksSeen (rmI_) pre_F_X11_asksSeen post_F_X11_asksSeen)] _ _ none kX11_fits [] flX11_ok plX11_ok knX11_ok eX11_fits oX11_fits
    (List.forall_mem_cons.mpr ⟨cok_v (t := 32) (c := 11) (N := 39) (n := 4) (idx := 379) E (ct_F_X11_asksSeen X.2.1) (by rw [hR]; decide) (Nat.zero_le _) (Nat.zero_le _) hG rfl rfl ⟨rfl, by decide, by decide, by decide⟩ (fun _ => ⟨_, _, rfl, rfl⟩) wl_X11_379 wi_X11_asksSeen ws_X11_asksSeen wn_X11 wc_X11_asksSeen, fun _ h => absurd h List.not_mem_nil⟩) R sok_no E
  show WP_ X G Q 0 0 ad SHS_ σ 0 [(42, 86), (0, x1), (0, x2), (0, x3), (9, 0)] []
  have hp : FM_ σ := hp
  obtain ⟨hW0, hW1, hW2, hW3, hW4, hW5, hT, hF, hP, hI, hY, hSz, hAt, hFr⟩ := id hp
  refine B rfl ?_
  refine Exists.intro (x1, x2, x3, 1) (And.intro rfl (And.intro hp ?_))
  rintro _ _ ⟨rfl, rfl⟩
  refine And.intro (fun h4 => (by exfalso; omega)) (fun h4 => ?_)
  refine B rfl ?_
  refine Exists.intro _ (And.intro rfl ?_)
  exact And.intro rfl rfl
def as_F_X11_fit : Int × Int × Int × Int → List Sv_t := fun a => [(42, 86), (0, a.1), (0, a.2.1), (0, a.2.2.1), (0, a.2.2.2)]
def pre_F_X11_fit : Int × Int × Int × Int → Me_t → Prop := fun a σ => FM_ σ
def post_F_X11_fit : Int × Int × Int × Int → Me_t → Int → Me_t → Prop := fun a σ z σ' => z = (-2) ∧ σ = σ'
set_option maxHeartbeats 4000000 in
set_option maxRecDepth 100000 in
theorem ct_F_X11_fit (l : Launch) : CT_ l yX11_fit cX11_fit 8 (some .int) 5 117 as_F_X11_fit (rmI_) pre_F_X11_fit post_F_X11_fit := by
  refine ct_of (by decide) (fun _ => Nat.le_of_ble_eq_true rfl) ?_
  intro X G Q ad σ a hl hR E hG R hM hv hp
  obtain ⟨x1, x2, x3, x4⟩ := a
  have r_x1 : -2147483648 ≤ x1 ∧ x1 ≤ 2147483647 := hv (0, x1) (List.mem_of_getElem? (i := 1) rfl)
  have r_x2 : -2147483648 ≤ x2 ∧ x2 ≤ 2147483647 := hv (0, x2) (List.mem_of_getElem? (i := 2) rfl)
  have r_x3 : -2147483648 ≤ x3 ∧ x3 ≤ 2147483647 := hv (0, x3) (List.mem_of_getElem? (i := 3) rfl)
  have r_x4 : -2147483648 ≤ x4 ∧ x4 ≤ 2147483647 := hv (0, x4) (List.mem_of_getElem? (i := 4) rfl)
  have B := @bk_ X G Q 0 0 ad SHS_ RX11 cX11_fit 8 (some .int) flX11 plX11 knX11 [(758, 5, TR_ as_F_X11_asksSeen (rmI_) pre_F_X11_asksSeen post_F_X11_asksSeen)] _ _ none kX11_fit [] flX11_ok plX11_ok knX11_ok eX11_fit oX11_fit
    (List.forall_mem_cons.mpr ⟨cok_v (t := 32) (c := 11) (N := 39) (n := 4) (idx := 379) E (ct_F_X11_asksSeen X.2.1) (by rw [hR]; decide) (Nat.zero_le _) (Nat.zero_le _) hG rfl rfl ⟨rfl, by decide, by decide, by decide⟩ (fun _ => ⟨_, _, rfl, rfl⟩) wl_X11_379 wi_X11_asksSeen ws_X11_asksSeen wn_X11 wc_X11_asksSeen, fun _ h => absurd h List.not_mem_nil⟩) R sok_no E
  show WP_ X G Q 0 0 ad SHS_ σ 0 [(42, 86), (0, x1), (0, x2), (0, x3), (0, x4), (9, 0), (9, 0), (9, 0)] []
  have hp : FM_ σ := hp
  obtain ⟨hW0, hW1, hW2, hW3, hW4, hW5, hT, hF, hP, hI, hY, hSz, hAt, hFr⟩ := id hp
  refine B rfl ?_
  refine Exists.intro (x1, x2, x3, 1) (And.intro rfl (And.intro hp ?_))
  rintro _ _ ⟨rfl, rfl⟩
  refine And.intro (fun h4 => (by exfalso; omega)) (fun h4 => ?_)
  refine Exists.intro _ (And.intro rfl ?_)
  exact And.intro rfl rfl
def as_F_X11_sure : Int × Int × Int × Int → List Sv_t := fun a => [(42, 86), (0, a.1), (0, a.2.1), (0, a.2.2.1), (0, a.2.2.2)]
def pre_F_X11_sure : Int × Int × Int × Int → Me_t → Prop := fun a σ => FM_ σ
def post_F_X11_sure : Int × Int × Int × Int → Me_t → Int → Me_t → Prop := fun a σ z σ' => z = (-2) ∧ σ = σ'
set_option maxHeartbeats 4000000 in
set_option maxRecDepth 100000 in
theorem ct_F_X11_sure (l : Launch) : CT_ l yX11_sure cX11_sure 10 (some .int) 5 117 as_F_X11_sure (rmI_) pre_F_X11_sure post_F_X11_sure := by
  refine ct_of (by decide) (fun _ => Nat.le_of_ble_eq_true rfl) ?_
  intro X G Q ad σ a hl hR E hG R hM hv hp
  obtain ⟨x1, x2, x3, x4⟩ := a
  have r_x1 : -2147483648 ≤ x1 ∧ x1 ≤ 2147483647 := hv (0, x1) (List.mem_of_getElem? (i := 1) rfl)
  have r_x2 : -2147483648 ≤ x2 ∧ x2 ≤ 2147483647 := hv (0, x2) (List.mem_of_getElem? (i := 2) rfl)
  have r_x3 : -2147483648 ≤ x3 ∧ x3 ≤ 2147483647 := hv (0, x3) (List.mem_of_getElem? (i := 3) rfl)
  have r_x4 : -2147483648 ≤ x4 ∧ x4 ≤ 2147483647 := hv (0, x4) (List.mem_of_getElem? (i := 4) rfl)
  have B := @bk_ X G Q 0 0 ad SHS_ RX11 cX11_sure 10 (some .int) flX11 plX11 knX11 [(159, 3, TR_ as_F_X11_in (rmI_) pre_F_X11_in post_F_X11_in), (758, 5, TR_ as_F_X11_asksSeen (rmI_) pre_F_X11_asksSeen post_F_X11_asksSeen)] _ _ none kX11_sure [] flX11_ok plX11_ok knX11_ok eX11_sure oX11_sure
    (List.forall_mem_cons.mpr ⟨cok_s (n := 3) (idx := 79) E (ct_F_X11_in X.2.1) (by rw [hR]; decide) (Nat.zero_le _) (Nat.zero_le _) hG ⟨by decide, by decide, by decide⟩ (fun _ => rfl) wl_X11_79 wt_X11_in wn_X11 wc_X11_in, List.forall_mem_cons.mpr ⟨cok_v (t := 32) (c := 11) (N := 39) (n := 4) (idx := 379) E (ct_F_X11_asksSeen X.2.1) (by rw [hR]; decide) (Nat.zero_le _) (Nat.zero_le _) hG rfl rfl ⟨rfl, by decide, by decide, by decide⟩ (fun _ => ⟨_, _, rfl, rfl⟩) wl_X11_379 wi_X11_asksSeen ws_X11_asksSeen wn_X11 wc_X11_asksSeen, fun _ h => absurd h List.not_mem_nil⟩⟩) R sok_no E
  show WP_ X G Q 0 0 ad SHS_ σ 0 [(42, 86), (0, x1), (0, x2), (0, x3), (0, x4), (9, 0), (9, 0), (9, 0), (9, 0), (9, 0)] []
  have hp : FM_ σ := hp
  obtain ⟨hW0, hW1, hW2, hW3, hW4, hW5, hT, hF, hP, hI, hY, hSz, hAt, hFr⟩ := id hp
  refine B rfl ?_
  refine Exists.intro (x4, 0, 1) (And.intro rfl (And.intro trivial ?_))
  rintro z1 _ ⟨rfl, h3⟩
  try dsimp only at h3
  refine Exists.intro (x1, x2, x3, z1) (And.intro rfl (And.intro hp ?_))
  rintro _ _ ⟨rfl, rfl⟩
  refine And.intro (fun h7 => (by exfalso; omega)) (fun h7 => ?_)
  refine Exists.intro _ (And.intro rfl ?_)
  exact And.intro rfl rfl
def as_F_X11_ask : Int × Int × Int → List Sv_t := fun a => [(42, 86), (0, a.1), (0, a.2.1), (0, a.2.2)]
def pre_F_X11_ask : Int × Int × Int → Me_t → Prop := fun a σ => FM_ σ
def post_F_X11_ask : Int × Int × Int → Me_t → Int → Me_t → Prop := fun a σ z σ' => z = (-2) ∧ σ = σ'
set_option maxHeartbeats 4000000 in
set_option maxRecDepth 100000 in
theorem ct_F_X11_ask (l : Launch) : CT_ l yX11_ask cX11_ask 5 (some .int) 7 169 as_F_X11_ask (rmI_) pre_F_X11_ask post_F_X11_ask := by
  refine ct_of (by decide) (fun _ => Nat.le_of_ble_eq_true rfl) ?_
  intro X G Q ad σ a hl hR E hG R hM hv hp
  obtain ⟨x1, x2, x3⟩ := a
  have r_x1 : -2147483648 ≤ x1 ∧ x1 ≤ 2147483647 := hv (0, x1) (List.mem_of_getElem? (i := 1) rfl)
  have r_x2 : -2147483648 ≤ x2 ∧ x2 ≤ 2147483647 := hv (0, x2) (List.mem_of_getElem? (i := 2) rfl)
  have r_x3 : -2147483648 ≤ x3 ∧ x3 ≤ 2147483647 := hv (0, x3) (List.mem_of_getElem? (i := 3) rfl)
  have B := @bk_ X G Q 0 0 ad SHS_ RX11 cX11_ask 5 (some .int) flX11 plX11 knX11 [(758, 5, TR_ as_F_X11_asksSeen (rmI_) pre_F_X11_asksSeen post_F_X11_asksSeen)] _ _ none kX11_ask [] flX11_ok plX11_ok knX11_ok eX11_ask oX11_ask
    (List.forall_mem_cons.mpr ⟨cok_v (t := 32) (c := 11) (N := 39) (n := 4) (idx := 379) E (ct_F_X11_asksSeen X.2.1) (by rw [hR]; decide) (Nat.zero_le _) (Nat.zero_le _) hG rfl rfl ⟨rfl, by decide, by decide, by decide⟩ (fun _ => ⟨_, _, rfl, rfl⟩) wl_X11_379 wi_X11_asksSeen ws_X11_asksSeen wn_X11 wc_X11_asksSeen, fun _ h => absurd h List.not_mem_nil⟩) R sok_no E
  show WP_ X G Q 0 0 ad SHS_ σ 0 [(42, 86), (0, x1), (0, x2), (0, x3), (9, 0)] []
  have hp : FM_ σ := hp
  obtain ⟨hW0, hW1, hW2, hW3, hW4, hW5, hT, hF, hP, hI, hY, hSz, hAt, hFr⟩ := id hp
  refine B rfl ?_
  refine Exists.intro (x1, x2, x3, 1) (And.intro rfl (And.intro hp ?_))
  rintro _ _ ⟨rfl, rfl⟩
  refine And.intro (fun h4 => (by exfalso; omega)) (fun h4 => ?_)
  refine B rfl ?_
  refine Exists.intro _ (And.intro rfl ?_)
  exact And.intro rfl rfl
def as_F_X11_leaves : Int × Int × Int → List Sv_t := fun a => [(42, 86), (0, a.1), (0, a.2.1), (0, a.2.2)]
def pre_F_X11_leaves : Int × Int × Int → Me_t → Prop := fun a σ => FM_ σ
def post_F_X11_leaves : Int × Int × Int → Me_t → Int → Me_t → Prop := fun a σ z σ' => z = (-2) ∧ σ = σ'
set_option maxHeartbeats 4000000 in
set_option maxRecDepth 100000 in
theorem ct_F_X11_leaves (l : Launch) : CT_ l yX11_leaves cX11_leaves 5 (some .int) 7 169 as_F_X11_leaves (rmI_) pre_F_X11_leaves post_F_X11_leaves := by
  refine ct_of (by decide) (fun _ => Nat.le_of_ble_eq_true rfl) ?_
  intro X G Q ad σ a hl hR E hG R hM hv hp
  obtain ⟨x1, x2, x3⟩ := a
  have r_x1 : -2147483648 ≤ x1 ∧ x1 ≤ 2147483647 := hv (0, x1) (List.mem_of_getElem? (i := 1) rfl)
  have r_x2 : -2147483648 ≤ x2 ∧ x2 ≤ 2147483647 := hv (0, x2) (List.mem_of_getElem? (i := 2) rfl)
  have r_x3 : -2147483648 ≤ x3 ∧ x3 ≤ 2147483647 := hv (0, x3) (List.mem_of_getElem? (i := 3) rfl)
  have B := @bk_ X G Q 0 0 ad SHS_ RX11 cX11_leaves 5 (some .int) flX11 plX11 knX11 [(758, 5, TR_ as_F_X11_asksSeen (rmI_) pre_F_X11_asksSeen post_F_X11_asksSeen)] _ _ none kX11_leaves [] flX11_ok plX11_ok knX11_ok eX11_leaves oX11_leaves
    (List.forall_mem_cons.mpr ⟨cok_v (t := 32) (c := 11) (N := 39) (n := 4) (idx := 379) E (ct_F_X11_asksSeen X.2.1) (by rw [hR]; decide) (Nat.zero_le _) (Nat.zero_le _) hG rfl rfl ⟨rfl, by decide, by decide, by decide⟩ (fun _ => ⟨_, _, rfl, rfl⟩) wl_X11_379 wi_X11_asksSeen ws_X11_asksSeen wn_X11 wc_X11_asksSeen, fun _ h => absurd h List.not_mem_nil⟩) R sok_no E
  show WP_ X G Q 0 0 ad SHS_ σ 0 [(42, 86), (0, x1), (0, x2), (0, x3), (9, 0)] []
  have hp : FM_ σ := hp
  obtain ⟨hW0, hW1, hW2, hW3, hW4, hW5, hT, hF, hP, hI, hY, hSz, hAt, hFr⟩ := id hp
  refine B rfl ?_
  refine Exists.intro (x1, x2, x3, 1) (And.intro rfl (And.intro hp ?_))
  rintro _ _ ⟨rfl, rfl⟩
  refine And.intro (fun h4 => (by exfalso; omega)) (fun h4 => ?_)
  refine Exists.intro _ (And.intro rfl ?_)
  exact And.intro rfl rfl
def as_F_X11_holds : Int → List Sv_t := fun a => [(42, 86), (0, a)]
def pre_F_X11_holds : Int → Me_t → Prop := fun a σ => FM_ σ
def post_F_X11_holds : Int → Me_t → Int → Me_t → Prop := fun a σ z σ' => z = (-2) ∧ σ = σ'
set_option maxHeartbeats 4000000 in
set_option maxRecDepth 100000 in
theorem ct_F_X11_holds (l : Launch) : CT_ l yX11_holds cX11_holds 2 (some .int) 2 48 as_F_X11_holds (rmI_) pre_F_X11_holds post_F_X11_holds := by
  refine ct_of (by decide) (fun _ => Nat.le_refl _) ?_
  intro X G Q ad σ a hl hR E hG R hM hv hp
  obtain ⟨x1, rfl⟩ : ∃ q : Int, q = a := ⟨_, rfl⟩
  have r_x1 : -2147483648 ≤ x1 ∧ x1 ≤ 2147483647 := hv (0, x1) (List.mem_of_getElem? (i := 1) rfl)
  have B := @bk_ X G Q 0 0 ad SHS_ RX11 cX11_holds 2 (some .int) flX11 plX11 knX11 [(184, 1, TR_ as_F_X11_isWar (rmI_) pre_F_X11_isWar post_F_X11_isWar)] _ _ none kX11_holds [] flX11_ok plX11_ok knX11_ok eX11_holds oX11_holds
    (List.forall_mem_cons.mpr ⟨cok_v (t := 32) (c := 11) (N := 39) (n := 0) (idx := 92) E (ct_F_X11_isWar X.2.1) (by rw [hR]; decide) (Nat.zero_le _) (Nat.zero_le _) hG rfl rfl ⟨rfl, by decide, by decide, by decide⟩ (fun _ => ⟨_, _, rfl, rfl⟩) wl_X11_92 wi_X11_isWar ws_X11_isWar wn_X11 wc_X11_isWar, fun _ h => absurd h List.not_mem_nil⟩) R sok_no E
  show WP_ X G Q 0 0 ad SHS_ σ 0 [(42, 86), (0, x1)] []
  have hp : FM_ σ := hp
  obtain ⟨hW0, hW1, hW2, hW3, hW4, hW5, hT, hF, hP, hI, hY, hSz, hAt, hFr⟩ := id hp
  refine B rfl ?_
  refine Exists.intro () (And.intro rfl (And.intro hp ?_))
  rintro _ _ ⟨rfl, rfl⟩
  refine And.intro (fun h4 => ?_) (fun h4 => (by exfalso; omega))
  refine B rfl ?_
  refine Exists.intro _ (And.intro rfl ?_)
  exact And.intro rfl rfl
def as_F_X11_overlap : Int × Int → List Sv_t := fun a => [(42, 86), (0, a.1), (0, a.2)]
def pre_F_X11_overlap : Int × Int → Me_t → Prop := fun a σ => FM_ σ
def post_F_X11_overlap : Int × Int → Me_t → Int → Me_t → Prop := fun a σ z σ' => z = (-2) ∧ σ = σ'
set_option maxHeartbeats 4000000 in
set_option maxRecDepth 100000 in
theorem ct_F_X11_overlap (l : Launch) : CT_ l yX11_overlap cX11_overlap 4 (some .int) 2 48 as_F_X11_overlap (rmI_) pre_F_X11_overlap post_F_X11_overlap := by
  refine ct_of (by decide) (fun _ => Nat.le_of_ble_eq_true rfl) ?_
  intro X G Q ad σ a hl hR E hG R hM hv hp
  obtain ⟨x1, x2⟩ := a
  have r_x1 : -2147483648 ≤ x1 ∧ x1 ≤ 2147483647 := hv (0, x1) (List.mem_of_getElem? (i := 1) rfl)
  have r_x2 : -2147483648 ≤ x2 ∧ x2 ≤ 2147483647 := hv (0, x2) (List.mem_of_getElem? (i := 2) rfl)
  have B := @bk_ X G Q 0 0 ad SHS_ RX11 cX11_overlap 4 (some .int) flX11 plX11 knX11 [(184, 1, TR_ as_F_X11_isWar (rmI_) pre_F_X11_isWar post_F_X11_isWar)] _ _ none kX11_overlap [] flX11_ok plX11_ok knX11_ok eX11_overlap oX11_overlap
    (List.forall_mem_cons.mpr ⟨cok_v (t := 32) (c := 11) (N := 39) (n := 0) (idx := 92) E (ct_F_X11_isWar X.2.1) (by rw [hR]; decide) (Nat.zero_le _) (Nat.zero_le _) hG rfl rfl ⟨rfl, by decide, by decide, by decide⟩ (fun _ => ⟨_, _, rfl, rfl⟩) wl_X11_92 wi_X11_isWar ws_X11_isWar wn_X11 wc_X11_isWar, fun _ h => absurd h List.not_mem_nil⟩) R sok_no E
  show WP_ X G Q 0 0 ad SHS_ σ 0 [(42, 86), (0, x1), (0, x2), (9, 0)] []
  have hp : FM_ σ := hp
  obtain ⟨hW0, hW1, hW2, hW3, hW4, hW5, hT, hF, hP, hI, hY, hSz, hAt, hFr⟩ := id hp
  refine B rfl ?_
  refine Exists.intro () (And.intro rfl (And.intro hp ?_))
  rintro _ _ ⟨rfl, rfl⟩
  refine And.intro (fun h4 => ?_) (fun h4 => (by exfalso; omega))
  refine B rfl ?_
  refine Exists.intro _ (And.intro rfl ?_)
  exact And.intro rfl rfl
def as_F_X11_most : Unit → List Sv_t := fun a => [(42, 86)]
def pre_F_X11_most : Unit → Me_t → Prop := fun a σ => FM_ σ
def post_F_X11_most : Unit → Me_t → Int → Me_t → Prop := fun a σ z σ' => z = (-2) ∧ σ = σ'
set_option maxHeartbeats 4000000 in
set_option maxRecDepth 100000 in
theorem ct_F_X11_most (l : Launch) : CT_ l yX11_most cX11_most 3 (some .int) 2 48 as_F_X11_most (rmI_) pre_F_X11_most post_F_X11_most := by
  refine ct_of (by decide) (fun _ => Nat.le_of_ble_eq_true rfl) ?_
  intro X G Q ad σ a hl hR E hG R hM hv hp
  have B := @bk_ X G Q 0 0 ad SHS_ RX11 cX11_most 3 (some .int) flX11 plX11 knX11 [(184, 1, TR_ as_F_X11_isWar (rmI_) pre_F_X11_isWar post_F_X11_isWar)] _ _ none kX11_most [] flX11_ok plX11_ok knX11_ok eX11_most oX11_most
    (List.forall_mem_cons.mpr ⟨cok_v (t := 32) (c := 11) (N := 39) (n := 0) (idx := 92) E (ct_F_X11_isWar X.2.1) (by rw [hR]; decide) (Nat.zero_le _) (Nat.zero_le _) hG rfl rfl ⟨rfl, by decide, by decide, by decide⟩ (fun _ => ⟨_, _, rfl, rfl⟩) wl_X11_92 wi_X11_isWar ws_X11_isWar wn_X11 wc_X11_isWar, fun _ h => absurd h List.not_mem_nil⟩) R sok_no E
  show WP_ X G Q 0 0 ad SHS_ σ 0 [(42, 86), (9, 0), (9, 0)] []
  have hp : FM_ σ := hp
  obtain ⟨hW0, hW1, hW2, hW3, hW4, hW5, hT, hF, hP, hI, hY, hSz, hAt, hFr⟩ := id hp
  refine B rfl ?_
  refine Exists.intro () (And.intro rfl (And.intro hp ?_))
  rintro _ _ ⟨rfl, rfl⟩
  refine And.intro (fun h4 => (by exfalso; omega)) (fun h4 => ?_)
  refine Exists.intro _ (And.intro rfl ?_)
  exact And.intro rfl rfl
def as_F_X11_age : Int × Int × Int → List Sv_t := fun a => [(42, 86), (0, a.1), (0, a.2.1), (0, a.2.2)]
def pre_F_X11_age : Int × Int × Int → Me_t → Prop := fun a σ => FM_ σ
def post_F_X11_age : Int × Int × Int → Me_t → Int → Me_t → Prop := fun a σ z σ' => z = (-2) ∧ σ = σ'
set_option maxHeartbeats 4000000 in
set_option maxRecDepth 100000 in
theorem ct_F_X11_age (l : Launch) : CT_ l yX11_age cX11_age 4 (some .int) 4 93 as_F_X11_age (rmI_) pre_F_X11_age post_F_X11_age := by
  refine ct_of (by decide) (fun _ => Nat.le_refl _) ?_
  intro X G Q ad σ a hl hR E hG R hM hv hp
  obtain ⟨x1, x2, x3⟩ := a
  have r_x1 : -2147483648 ≤ x1 ∧ x1 ≤ 2147483647 := hv (0, x1) (List.mem_of_getElem? (i := 1) rfl)
  have r_x2 : -2147483648 ≤ x2 ∧ x2 ≤ 2147483647 := hv (0, x2) (List.mem_of_getElem? (i := 2) rfl)
  have r_x3 : -2147483648 ≤ x3 ∧ x3 ≤ 2147483647 := hv (0, x3) (List.mem_of_getElem? (i := 3) rfl)
  have B := @bk_ X G Q 0 0 ad SHS_ RX11 cX11_age 4 (some .int) flX11 plX11 knX11 [(166, 2, TR_ as_F_X11_isLand (rmI_) pre_F_X11_isLand post_F_X11_isLand)] _ _ none kX11_age [] flX11_ok plX11_ok knX11_ok eX11_age oX11_age
    (List.forall_mem_cons.mpr ⟨cok_v (t := 32) (c := 11) (N := 39) (n := 1) (idx := 83) E (ct_F_X11_isLand X.2.1) (by rw [hR]; decide) (Nat.zero_le _) (Nat.zero_le _) hG rfl rfl ⟨rfl, by decide, by decide, by decide⟩ (fun _ => ⟨_, _, rfl, rfl⟩) wl_X11_83 wi_X11_isLand ws_X11_isLand wn_X11 wc_X11_isLand, fun _ h => absurd h List.not_mem_nil⟩) R sok_no E
  show WP_ X G Q 0 0 ad SHS_ σ 0 [(42, 86), (0, x1), (0, x2), (0, x3)] []
  have hp : FM_ σ := hp
  obtain ⟨hW0, hW1, hW2, hW3, hW4, hW5, hT, hF, hP, hI, hY, hSz, hAt, hFr⟩ := id hp
  refine B rfl ?_
  refine Exists.intro x1 (And.intro rfl (And.intro hp ?_))
  rintro _ _ ⟨rfl, rfl⟩
  refine And.intro (fun h4 => ?_) (fun h4 => (by exfalso; omega))
  refine B rfl ?_
  refine Exists.intro _ (And.intro rfl ?_)
  exact And.intro rfl rfl
def as_F_X11_march : Int × Int × Int → List Sv_t := fun a => [(42, 86), (0, a.1), (0, a.2.1), (0, a.2.2)]
def pre_F_X11_march : Int × Int × Int → Me_t → Prop := fun a σ => FM_ σ
def post_F_X11_march : Int × Int × Int → Me_t → Int → Me_t → Prop := fun a σ z σ' => z = (-2) ∧ σ = σ'
set_option maxHeartbeats 4000000 in
set_option maxRecDepth 100000 in
theorem ct_F_X11_march (l : Launch) : CT_ l yX11_march cX11_march 6 (some .int) 4 92 as_F_X11_march (rmI_) pre_F_X11_march post_F_X11_march := by
  refine ct_of (by decide) (fun _ => Nat.le_of_ble_eq_true rfl) ?_
  intro X G Q ad σ a hl hR E hG R hM hv hp
  obtain ⟨x1, x2, x3⟩ := a
  have r_x1 : -2147483648 ≤ x1 ∧ x1 ≤ 2147483647 := hv (0, x1) (List.mem_of_getElem? (i := 1) rfl)
  have r_x2 : -2147483648 ≤ x2 ∧ x2 ≤ 2147483647 := hv (0, x2) (List.mem_of_getElem? (i := 2) rfl)
  have r_x3 : -2147483648 ≤ x3 ∧ x3 ≤ 2147483647 := hv (0, x3) (List.mem_of_getElem? (i := 3) rfl)
  have B := @bk_ X G Q 0 0 ad SHS_ RX11 cX11_march 6 (some .int) flX11 plX11 knX11 [(166, 2, TR_ as_F_X11_isLand (rmI_) pre_F_X11_isLand post_F_X11_isLand)] _ _ none kX11_march [] flX11_ok plX11_ok knX11_ok eX11_march oX11_march
    (List.forall_mem_cons.mpr ⟨cok_v (t := 32) (c := 11) (N := 39) (n := 1) (idx := 83) E (ct_F_X11_isLand X.2.1) (by rw [hR]; decide) (Nat.zero_le _) (Nat.zero_le _) hG rfl rfl ⟨rfl, by decide, by decide, by decide⟩ (fun _ => ⟨_, _, rfl, rfl⟩) wl_X11_83 wi_X11_isLand ws_X11_isLand wn_X11 wc_X11_isLand, fun _ h => absurd h List.not_mem_nil⟩) R sok_no E
  show WP_ X G Q 0 0 ad SHS_ σ 0 [(42, 86), (0, x1), (0, x2), (0, x3), (9, 0), (9, 0)] []
  have hp : FM_ σ := hp
  obtain ⟨hW0, hW1, hW2, hW3, hW4, hW5, hT, hF, hP, hI, hY, hSz, hAt, hFr⟩ := id hp
  refine B rfl ?_
  refine Exists.intro x1 (And.intro rfl (And.intro hp ?_))
  rintro _ _ ⟨rfl, rfl⟩
  refine And.intro (fun h4 => ?_) (fun h4 => (by exfalso; omega))
  refine B rfl ?_
  refine Exists.intro _ (And.intro rfl ?_)
  exact And.intro rfl rfl
def as_F_X11_clash : Int × Int × Int × Int → List Sv_t := fun a => [(42, 86), (0, a.1), (0, a.2.1), (0, a.2.2.1), (0, a.2.2.2)]
def pre_F_X11_clash : Int × Int × Int × Int → Me_t → Prop := fun a σ => FM_ σ
def post_F_X11_clash : Int × Int × Int × Int → Me_t → Int → Me_t → Prop := fun a σ z σ' => z = (-2) ∧ σ = σ'
set_option maxHeartbeats 4000000 in
set_option maxRecDepth 100000 in
theorem ct_F_X11_clash (l : Launch) : CT_ l yX11_clash cX11_clash 5 (some .int) 5 120 as_F_X11_clash (rmI_) pre_F_X11_clash post_F_X11_clash := by
  refine ct_of (by decide) (fun _ => Nat.le_refl _) ?_
  intro X G Q ad σ a hl hR E hG R hM hv hp
  obtain ⟨x1, x2, x3, x4⟩ := a
  have r_x1 : -2147483648 ≤ x1 ∧ x1 ≤ 2147483647 := hv (0, x1) (List.mem_of_getElem? (i := 1) rfl)
  have r_x2 : -2147483648 ≤ x2 ∧ x2 ≤ 2147483647 := hv (0, x2) (List.mem_of_getElem? (i := 2) rfl)
  have r_x3 : -2147483648 ≤ x3 ∧ x3 ≤ 2147483647 := hv (0, x3) (List.mem_of_getElem? (i := 3) rfl)
  have r_x4 : -2147483648 ≤ x4 ∧ x4 ≤ 2147483647 := hv (0, x4) (List.mem_of_getElem? (i := 4) rfl)
  have B := @bk_ X G Q 0 0 ad SHS_ RX11 cX11_clash 5 (some .int) flX11 plX11 knX11 [(816, 5, TR_ as_F_X11_isClash (rmI_) pre_F_X11_isClash post_F_X11_isClash)] _ _ none kX11_clash [] flX11_ok plX11_ok knX11_ok eX11_clash oX11_clash
    (List.forall_mem_cons.mpr ⟨cok_v (t := 32) (c := 11) (N := 39) (n := 4) (idx := 408) E (ct_F_X11_isClash X.2.1) (by rw [hR]; decide) (Nat.zero_le _) (Nat.zero_le _) hG rfl rfl ⟨rfl, by decide, by decide, by decide⟩ (fun _ => ⟨_, _, rfl, rfl⟩) wl_X11_408 wi_X11_isClash ws_X11_isClash wn_X11 wc_X11_isClash, fun _ h => absurd h List.not_mem_nil⟩) R sok_no E
  show WP_ X G Q 0 0 ad SHS_ σ 0 [(42, 86), (0, x1), (0, x2), (0, x3), (0, x4)] []
  have hp : FM_ σ := hp
  obtain ⟨hW0, hW1, hW2, hW3, hW4, hW5, hT, hF, hP, hI, hY, hSz, hAt, hFr⟩ := id hp
  refine B rfl ?_
  refine Exists.intro (x1, x2, x3, x4) (And.intro rfl (And.intro hp ?_))
  rintro _ _ ⟨rfl, rfl⟩
  refine And.intro (fun h4 => (by exfalso; omega)) (fun h4 => ?_)
  refine Exists.intro _ (And.intro rfl ?_)
  exact And.intro rfl rfl
def as_F_X11_place : Int × Int × Int × Int → List Sv_t := fun a => [(42, 86), (0, a.1), (0, a.2.1), (0, a.2.2.1), (0, a.2.2.2)]
def pre_F_X11_place : Int × Int × Int × Int → Me_t → Prop := fun a σ => FM_ σ
def post_F_X11_place : Int × Int × Int × Int → Me_t → Int → Me_t → Prop := fun a σ z σ' => z = (-2) ∧ σ = σ'
set_option maxHeartbeats 4000000 in
set_option maxRecDepth 100000 in
theorem ct_F_X11_place (l : Launch) : CT_ l yX11_place cX11_place 5 (some .int) 5 120 as_F_X11_place (rmI_) pre_F_X11_place post_F_X11_place := by
  refine ct_of (by decide) (fun _ => Nat.le_refl _) ?_
  intro X G Q ad σ a hl hR E hG R hM hv hp
  obtain ⟨x1, x2, x3, x4⟩ := a
  have r_x1 : -2147483648 ≤ x1 ∧ x1 ≤ 2147483647 := hv (0, x1) (List.mem_of_getElem? (i := 1) rfl)
  have r_x2 : -2147483648 ≤ x2 ∧ x2 ≤ 2147483647 := hv (0, x2) (List.mem_of_getElem? (i := 2) rfl)
  have r_x3 : -2147483648 ≤ x3 ∧ x3 ≤ 2147483647 := hv (0, x3) (List.mem_of_getElem? (i := 3) rfl)
  have r_x4 : -2147483648 ≤ x4 ∧ x4 ≤ 2147483647 := hv (0, x4) (List.mem_of_getElem? (i := 4) rfl)
  have B := @bk_ X G Q 0 0 ad SHS_ RX11 cX11_place 5 (some .int) flX11 plX11 knX11 [(816, 5, TR_ as_F_X11_isClash (rmI_) pre_F_X11_isClash post_F_X11_isClash)] _ _ none kX11_place [] flX11_ok plX11_ok knX11_ok eX11_place oX11_place
    (List.forall_mem_cons.mpr ⟨cok_v (t := 32) (c := 11) (N := 39) (n := 4) (idx := 408) E (ct_F_X11_isClash X.2.1) (by rw [hR]; decide) (Nat.zero_le _) (Nat.zero_le _) hG rfl rfl ⟨rfl, by decide, by decide, by decide⟩ (fun _ => ⟨_, _, rfl, rfl⟩) wl_X11_408 wi_X11_isClash ws_X11_isClash wn_X11 wc_X11_isClash, fun _ h => absurd h List.not_mem_nil⟩) R sok_no E
  show WP_ X G Q 0 0 ad SHS_ σ 0 [(42, 86), (0, x1), (0, x2), (0, x3), (0, x4)] []
  have hp : FM_ σ := hp
  obtain ⟨hW0, hW1, hW2, hW3, hW4, hW5, hT, hF, hP, hI, hY, hSz, hAt, hFr⟩ := id hp
  refine B rfl ?_
  refine Exists.intro (x1, x2, x3, x4) (And.intro rfl (And.intro hp ?_))
  rintro _ _ ⟨rfl, rfl⟩
  refine And.intro (fun h4 => (by exfalso; omega)) (fun h4 => ?_)
  refine Exists.intro _ (And.intro rfl ?_)
  exact And.intro rfl rfl
def as_F_X11_alone : Int × Int × Int × Int → List Sv_t := fun a => [(42, 86), (0, a.1), (0, a.2.1), (0, a.2.2.1), (0, a.2.2.2)]
def pre_F_X11_alone : Int × Int × Int × Int → Me_t → Prop := fun a σ => FM_ σ
def post_F_X11_alone : Int × Int × Int × Int → Me_t → Int → Me_t → Prop := fun a σ z σ' => z = (-2) ∧ σ = σ'
set_option maxHeartbeats 4000000 in
set_option maxRecDepth 100000 in
theorem ct_F_X11_alone (l : Launch) : CT_ l yX11_alone cX11_alone 5 (some .int) 4 92 as_F_X11_alone (rmI_) pre_F_X11_alone post_F_X11_alone := by
  refine ct_of (by decide) (fun _ => Nat.le_refl _) ?_
  intro X G Q ad σ a hl hR E hG R hM hv hp
  obtain ⟨x1, x2, x3, x4⟩ := a
  have r_x1 : -2147483648 ≤ x1 ∧ x1 ≤ 2147483647 := hv (0, x1) (List.mem_of_getElem? (i := 1) rfl)
  have r_x2 : -2147483648 ≤ x2 ∧ x2 ≤ 2147483647 := hv (0, x2) (List.mem_of_getElem? (i := 2) rfl)
  have r_x3 : -2147483648 ≤ x3 ∧ x3 ≤ 2147483647 := hv (0, x3) (List.mem_of_getElem? (i := 3) rfl)
  have r_x4 : -2147483648 ≤ x4 ∧ x4 ≤ 2147483647 := hv (0, x4) (List.mem_of_getElem? (i := 4) rfl)
  have B := @bk_ X G Q 0 0 ad SHS_ RX11 cX11_alone 5 (some .int) flX11 plX11 knX11 [(630, 3, TR_ as_F_X11_areTwo (rmI_) pre_F_X11_areTwo post_F_X11_areTwo)] _ _ none kX11_alone [] flX11_ok plX11_ok knX11_ok eX11_alone oX11_alone
    (List.forall_mem_cons.mpr ⟨cok_v (t := 32) (c := 11) (N := 39) (n := 2) (idx := 315) E (ct_F_X11_areTwo X.2.1) (by rw [hR]; decide) (Nat.zero_le _) (Nat.zero_le _) hG rfl rfl ⟨rfl, by decide, by decide, by decide⟩ (fun _ => ⟨_, _, rfl, rfl⟩) wl_X11_315 wi_X11_areTwo ws_X11_areTwo wn_X11 wc_X11_areTwo, fun _ h => absurd h List.not_mem_nil⟩) R sok_no E
  show WP_ X G Q 0 0 ad SHS_ σ 0 [(42, 86), (0, x1), (0, x2), (0, x3), (0, x4)] []
  have hp : FM_ σ := hp
  obtain ⟨hW0, hW1, hW2, hW3, hW4, hW5, hT, hF, hP, hI, hY, hSz, hAt, hFr⟩ := id hp
  refine B rfl ?_
  refine Exists.intro (x1, x2) (And.intro rfl (And.intro hp ?_))
  rintro _ _ ⟨rfl, rfl⟩
  refine And.intro (fun h4 => ?_) (fun h4 => (by exfalso; omega))
  refine B rfl ?_
  refine Exists.intro _ (And.intro rfl ?_)
  exact And.intro rfl rfl
def as_F_X11_begin : Int × Int × Int × Int × Int → List Sv_t := fun a => [(42, 86), (0, a.1), (0, a.2.1), (0, a.2.2.1), (0, a.2.2.2.1), (0, a.2.2.2.2)]
def pre_F_X11_begin : Int × Int × Int × Int × Int → Me_t → Prop := fun a σ => FM_ σ
def post_F_X11_begin : Int × Int × Int × Int × Int → Me_t → Int → Me_t → Prop := fun a σ z σ' => z = (-2) ∧ σ = σ'
set_option maxHeartbeats 4000000 in
set_option maxRecDepth 100000 in
theorem ct_F_X11_begin (l : Launch) : CT_ l yX11_begin cX11_begin 6 (some .int) 5 120 as_F_X11_begin (rmI_) pre_F_X11_begin post_F_X11_begin := by
  refine ct_of (by decide) (fun _ => Nat.le_refl _) ?_
  intro X G Q ad σ a hl hR E hG R hM hv hp
  obtain ⟨x1, x2, x3, x4, x5⟩ := a
  have r_x1 : -2147483648 ≤ x1 ∧ x1 ≤ 2147483647 := hv (0, x1) (List.mem_of_getElem? (i := 1) rfl)
  have r_x2 : -2147483648 ≤ x2 ∧ x2 ≤ 2147483647 := hv (0, x2) (List.mem_of_getElem? (i := 2) rfl)
  have r_x3 : -2147483648 ≤ x3 ∧ x3 ≤ 2147483647 := hv (0, x3) (List.mem_of_getElem? (i := 3) rfl)
  have r_x4 : -2147483648 ≤ x4 ∧ x4 ≤ 2147483647 := hv (0, x4) (List.mem_of_getElem? (i := 4) rfl)
  have r_x5 : -2147483648 ≤ x5 ∧ x5 ≤ 2147483647 := hv (0, x5) (List.mem_of_getElem? (i := 5) rfl)
  have B := @bk_ X G Q 0 0 ad SHS_ RX11 cX11_begin 6 (some .int) flX11 plX11 knX11 [(846, 6, TR_ as_F_X11_isBegin (rmI_) pre_F_X11_isBegin post_F_X11_isBegin)] _ _ none kX11_begin [] flX11_ok plX11_ok knX11_ok eX11_begin oX11_begin
    (List.forall_mem_cons.mpr ⟨cok_v (t := 32) (c := 11) (N := 39) (n := 5) (idx := 423) E (ct_F_X11_isBegin X.2.1) (by rw [hR]; decide) (Nat.zero_le _) (Nat.zero_le _) hG rfl rfl ⟨rfl, by decide, by decide, by decide⟩ (fun _ => ⟨_, _, rfl, rfl⟩) wl_X11_423 wi_X11_isBegin ws_X11_isBegin wn_X11 wc_X11_isBegin, fun _ h => absurd h List.not_mem_nil⟩) R sok_no E
  show WP_ X G Q 0 0 ad SHS_ σ 0 [(42, 86), (0, x1), (0, x2), (0, x3), (0, x4), (0, x5)] []
  have hp : FM_ σ := hp
  obtain ⟨hW0, hW1, hW2, hW3, hW4, hW5, hT, hF, hP, hI, hY, hSz, hAt, hFr⟩ := id hp
  refine B rfl ?_
  refine Exists.intro (x1, x2, x3, x4, x5) (And.intro rfl (And.intro hp ?_))
  rintro _ _ ⟨rfl, rfl⟩
  refine And.intro (fun h4 => ?_) (fun h4 => (by exfalso; omega))
  refine B rfl ?_
  refine Exists.intro _ (And.intro rfl ?_)
  exact And.intro rfl rfl
def as_F_X11_begins : Int × Int × Int × Int × Int → List Sv_t := fun a => [(42, 86), (0, a.1), (0, a.2.1), (0, a.2.2.1), (0, a.2.2.2.1), (0, a.2.2.2.2)]
def pre_F_X11_begins : Int × Int × Int × Int × Int → Me_t → Prop := fun a σ => FM_ σ
def post_F_X11_begins : Int × Int × Int × Int × Int → Me_t → Int → Me_t → Prop := fun a σ z σ' => z = (-2) ∧ σ = σ'
set_option maxHeartbeats 4000000 in
set_option maxRecDepth 100000 in
theorem ct_F_X11_begins (l : Launch) : CT_ l yX11_begins cX11_begins 6 (some .int) 5 120 as_F_X11_begins (rmI_) pre_F_X11_begins post_F_X11_begins := by
  refine ct_of (by decide) (fun _ => Nat.le_refl _) ?_
  intro X G Q ad σ a hl hR E hG R hM hv hp
  obtain ⟨x1, x2, x3, x4, x5⟩ := a
  have r_x1 : -2147483648 ≤ x1 ∧ x1 ≤ 2147483647 := hv (0, x1) (List.mem_of_getElem? (i := 1) rfl)
  have r_x2 : -2147483648 ≤ x2 ∧ x2 ≤ 2147483647 := hv (0, x2) (List.mem_of_getElem? (i := 2) rfl)
  have r_x3 : -2147483648 ≤ x3 ∧ x3 ≤ 2147483647 := hv (0, x3) (List.mem_of_getElem? (i := 3) rfl)
  have r_x4 : -2147483648 ≤ x4 ∧ x4 ≤ 2147483647 := hv (0, x4) (List.mem_of_getElem? (i := 4) rfl)
  have r_x5 : -2147483648 ≤ x5 ∧ x5 ≤ 2147483647 := hv (0, x5) (List.mem_of_getElem? (i := 5) rfl)
  have B := @bk_ X G Q 0 0 ad SHS_ RX11 cX11_begins 6 (some .int) flX11 plX11 knX11 [(846, 6, TR_ as_F_X11_isBegin (rmI_) pre_F_X11_isBegin post_F_X11_isBegin)] _ _ none kX11_begins [] flX11_ok plX11_ok knX11_ok eX11_begins oX11_begins
    (List.forall_mem_cons.mpr ⟨cok_v (t := 32) (c := 11) (N := 39) (n := 5) (idx := 423) E (ct_F_X11_isBegin X.2.1) (by rw [hR]; decide) (Nat.zero_le _) (Nat.zero_le _) hG rfl rfl ⟨rfl, by decide, by decide, by decide⟩ (fun _ => ⟨_, _, rfl, rfl⟩) wl_X11_423 wi_X11_isBegin ws_X11_isBegin wn_X11 wc_X11_isBegin, fun _ h => absurd h List.not_mem_nil⟩) R sok_no E
  show WP_ X G Q 0 0 ad SHS_ σ 0 [(42, 86), (0, x1), (0, x2), (0, x3), (0, x4), (0, x5)] []
  have hp : FM_ σ := hp
  obtain ⟨hW0, hW1, hW2, hW3, hW4, hW5, hT, hF, hP, hI, hY, hSz, hAt, hFr⟩ := id hp
  refine B rfl ?_
  refine Exists.intro (x1, x2, x3, x4, x5) (And.intro rfl (And.intro hp ?_))
  rintro _ _ ⟨rfl, rfl⟩
  refine And.intro (fun h4 => (by exfalso; omega)) (fun h4 => ?_)
  refine Exists.intro _ (And.intro rfl ?_)
  exact And.intro rfl rfl
def as_F_X11_game : Int × Int × Int × Int → List Sv_t := fun a => [(42, 86), (0, a.1), (0, a.2.1), (0, a.2.2.1), (0, a.2.2.2)]
def pre_F_X11_game : Int × Int × Int × Int → Me_t → Prop := fun a σ => FM_ σ
def post_F_X11_game : Int × Int × Int × Int → Me_t → Int → Me_t → Prop := fun a σ z σ' => z = (-2) ∧ σ = σ'
set_option maxHeartbeats 4000000 in
set_option maxRecDepth 100000 in
theorem ct_F_X11_game (l : Launch) : CT_ l yX11_game cX11_game 5 (some .int) 4 94 as_F_X11_game (rmI_) pre_F_X11_game post_F_X11_game := by
  refine ct_of (by decide) (fun _ => Nat.le_refl _) ?_
  intro X G Q ad σ a hl hR E hG R hM hv hp
  obtain ⟨x1, x2, x3, x4⟩ := a
  have r_x1 : -2147483648 ≤ x1 ∧ x1 ≤ 2147483647 := hv (0, x1) (List.mem_of_getElem? (i := 1) rfl)
  have r_x2 : -2147483648 ≤ x2 ∧ x2 ≤ 2147483647 := hv (0, x2) (List.mem_of_getElem? (i := 2) rfl)
  have r_x3 : -2147483648 ≤ x3 ∧ x3 ≤ 2147483647 := hv (0, x3) (List.mem_of_getElem? (i := 3) rfl)
  have r_x4 : -2147483648 ≤ x4 ∧ x4 ≤ 2147483647 := hv (0, x4) (List.mem_of_getElem? (i := 4) rfl)
  have B := @bk_ X G Q 0 0 ad SHS_ RX11 cX11_game 5 (some .int) flX11 plX11 knX11 [(900, 5, TR_ as_F_X11_isGame (rmI_) pre_F_X11_isGame post_F_X11_isGame)] _ _ none kX11_game [] flX11_ok plX11_ok knX11_ok eX11_game oX11_game
    (List.forall_mem_cons.mpr ⟨cok_v (t := 32) (c := 11) (N := 39) (n := 4) (idx := 450) E (ct_F_X11_isGame X.2.1) (by rw [hR]; decide) (Nat.zero_le _) (Nat.zero_le _) hG rfl rfl ⟨rfl, by decide, by decide, by decide⟩ (fun _ => ⟨_, _, rfl, rfl⟩) wl_X11_450 wi_X11_isGame ws_X11_isGame wn_X11 wc_X11_isGame, fun _ h => absurd h List.not_mem_nil⟩) R sok_no E
  show WP_ X G Q 0 0 ad SHS_ σ 0 [(42, 86), (0, x1), (0, x2), (0, x3), (0, x4)] []
  have hp : FM_ σ := hp
  obtain ⟨hW0, hW1, hW2, hW3, hW4, hW5, hT, hF, hP, hI, hY, hSz, hAt, hFr⟩ := id hp
  refine B rfl ?_
  refine Exists.intro (x1, x2, x3, x4) (And.intro rfl (And.intro hp ?_))
  rintro _ _ ⟨rfl, rfl⟩
  refine And.intro (fun h4 => (by exfalso; omega)) (fun h4 => ?_)
  refine Exists.intro _ (And.intro rfl ?_)
  exact And.intro rfl rfl
def as_F_X11_takes_ : Int × Int × Int × Int → List Sv_t := fun a => [(42, 86), (0, a.1), (0, a.2.1), (0, a.2.2.1), (0, a.2.2.2)]
def pre_F_X11_takes_ : Int × Int × Int × Int → Me_t → Prop := fun a σ => FM_ σ
def post_F_X11_takes_ : Int × Int × Int × Int → Me_t → Int → Me_t → Prop := fun a σ z σ' => z = (-2) ∧ σ = σ'
set_option maxHeartbeats 4000000 in
set_option maxRecDepth 100000 in
theorem ct_F_X11_takes_ (l : Launch) : CT_ l yX11_takes_ cX11_takes_ 8 (some .int) 4 94 as_F_X11_takes_ (rmI_) pre_F_X11_takes_ post_F_X11_takes_ := by
  refine ct_of (by decide) (fun _ => Nat.le_of_ble_eq_true rfl) ?_
  intro X G Q ad σ a hl hR E hG R hM hv hp
  obtain ⟨x1, x2, x3, x4⟩ := a
  have r_x1 : -2147483648 ≤ x1 ∧ x1 ≤ 2147483647 := hv (0, x1) (List.mem_of_getElem? (i := 1) rfl)
  have r_x2 : -2147483648 ≤ x2 ∧ x2 ≤ 2147483647 := hv (0, x2) (List.mem_of_getElem? (i := 2) rfl)
  have r_x3 : -2147483648 ≤ x3 ∧ x3 ≤ 2147483647 := hv (0, x3) (List.mem_of_getElem? (i := 3) rfl)
  have r_x4 : -2147483648 ≤ x4 ∧ x4 ≤ 2147483647 := hv (0, x4) (List.mem_of_getElem? (i := 4) rfl)
  have B := @bk_ X G Q 0 0 ad SHS_ RX11 cX11_takes_ 8 (some .int) flX11 plX11 knX11 [(900, 5, TR_ as_F_X11_isGame (rmI_) pre_F_X11_isGame post_F_X11_isGame)] _ _ none kX11_takes_ [] flX11_ok plX11_ok knX11_ok eX11_takes_ oX11_takes_
    (List.forall_mem_cons.mpr ⟨cok_v (t := 32) (c := 11) (N := 39) (n := 4) (idx := 450) E (ct_F_X11_isGame X.2.1) (by rw [hR]; decide) (Nat.zero_le _) (Nat.zero_le _) hG rfl rfl ⟨rfl, by decide, by decide, by decide⟩ (fun _ => ⟨_, _, rfl, rfl⟩) wl_X11_450 wi_X11_isGame ws_X11_isGame wn_X11 wc_X11_isGame, fun _ h => absurd h List.not_mem_nil⟩) R sok_no E
  show WP_ X G Q 0 0 ad SHS_ σ 0 [(42, 86), (0, x1), (0, x2), (0, x3), (0, x4), (9, 0), (9, 0), (9, 0)] []
  have hp : FM_ σ := hp
  obtain ⟨hW0, hW1, hW2, hW3, hW4, hW5, hT, hF, hP, hI, hY, hSz, hAt, hFr⟩ := id hp
  refine B rfl ?_
  refine Exists.intro (x1, x2, x3, x4) (And.intro rfl (And.intro hp ?_))
  rintro _ _ ⟨rfl, rfl⟩
  refine And.intro (fun h4 => (by exfalso; omega)) (fun h4 => ?_)
  refine Exists.intro _ (And.intro rfl ?_)
  exact And.intro rfl rfl
def as_F_X11_found : Int × Int × Int × Int → List Sv_t := fun a => [(42, 86), (0, a.1), (0, a.2.1), (0, a.2.2.1), (0, a.2.2.2)]
def pre_F_X11_found : Int × Int × Int × Int → Me_t → Prop := fun a σ => FM_ σ
def post_F_X11_found : Int × Int × Int × Int → Me_t → Int → Me_t → Prop := fun a σ z σ' => z = (-2) ∧ σ = σ'
set_option maxHeartbeats 4000000 in
set_option maxRecDepth 100000 in
theorem ct_F_X11_found (l : Launch) : CT_ l yX11_found cX11_found 6 (some .int) 2 48 as_F_X11_found (rmI_) pre_F_X11_found post_F_X11_found := by
  refine ct_of (by decide) (fun _ => Nat.le_of_ble_eq_true rfl) ?_
  intro X G Q ad σ a hl hR E hG R hM hv hp
  obtain ⟨x1, x2, x3, x4⟩ := a
  have r_x1 : -2147483648 ≤ x1 ∧ x1 ≤ 2147483647 := hv (0, x1) (List.mem_of_getElem? (i := 1) rfl)
  have r_x2 : -2147483648 ≤ x2 ∧ x2 ≤ 2147483647 := hv (0, x2) (List.mem_of_getElem? (i := 2) rfl)
  have r_x3 : -2147483648 ≤ x3 ∧ x3 ≤ 2147483647 := hv (0, x3) (List.mem_of_getElem? (i := 3) rfl)
  have r_x4 : -2147483648 ≤ x4 ∧ x4 ≤ 2147483647 := hv (0, x4) (List.mem_of_getElem? (i := 4) rfl)
  have B := @bk_ X G Q 0 0 ad SHS_ RX11 cX11_found 6 (some .int) flX11 plX11 knX11 [(166, 2, TR_ as_F_X11_isLand (rmI_) pre_F_X11_isLand post_F_X11_isLand)] _ _ none kX11_found [] flX11_ok plX11_ok knX11_ok eX11_found oX11_found
    (List.forall_mem_cons.mpr ⟨cok_v (t := 32) (c := 11) (N := 39) (n := 1) (idx := 83) E (ct_F_X11_isLand X.2.1) (by rw [hR]; decide) (Nat.zero_le _) (Nat.zero_le _) hG rfl rfl ⟨rfl, by decide, by decide, by decide⟩ (fun _ => ⟨_, _, rfl, rfl⟩) wl_X11_83 wi_X11_isLand ws_X11_isLand wn_X11 wc_X11_isLand, fun _ h => absurd h List.not_mem_nil⟩) R sok_no E
  show WP_ X G Q 0 0 ad SHS_ σ 0 [(42, 86), (0, x1), (0, x2), (0, x3), (0, x4), (9, 0)] []
  have hp : FM_ σ := hp
  obtain ⟨hW0, hW1, hW2, hW3, hW4, hW5, hT, hF, hP, hI, hY, hSz, hAt, hFr⟩ := id hp
  refine B rfl ?_
  refine Exists.intro x1 (And.intro rfl (And.intro hp ?_))
  rintro _ _ ⟨rfl, rfl⟩
  refine And.intro (fun h4 => ?_) (fun h4 => (by exfalso; omega))
  refine B rfl ?_
  refine Exists.intro _ (And.intro rfl ?_)
  exact And.intro rfl rfl
def as_F_X11_grant : Int × Int × Int → List Sv_t := fun a => [(42, 86), (0, a.1), (0, a.2.1), (0, a.2.2)]
def pre_F_X11_grant : Int × Int × Int → Me_t → Prop := fun a σ => FM_ σ
def post_F_X11_grant : Int × Int × Int → Me_t → Int → Me_t → Prop := fun a σ z σ' => z = (-2) ∧ σ = σ'
set_option maxHeartbeats 4000000 in
set_option maxRecDepth 100000 in
theorem ct_F_X11_grant (l : Launch) : CT_ l yX11_grant cX11_grant 5 (some .int) 3 67 as_F_X11_grant (rmI_) pre_F_X11_grant post_F_X11_grant := by
  refine ct_of (by decide) (fun _ => Nat.le_of_ble_eq_true rfl) ?_
  intro X G Q ad σ a hl hR E hG R hM hv hp
  obtain ⟨x1, x2, x3⟩ := a
  have r_x1 : -2147483648 ≤ x1 ∧ x1 ≤ 2147483647 := hv (0, x1) (List.mem_of_getElem? (i := 1) rfl)
  have r_x2 : -2147483648 ≤ x2 ∧ x2 ≤ 2147483647 := hv (0, x2) (List.mem_of_getElem? (i := 2) rfl)
  have r_x3 : -2147483648 ≤ x3 ∧ x3 ≤ 2147483647 := hv (0, x3) (List.mem_of_getElem? (i := 3) rfl)
  have B := @bk_ X G Q 0 0 ad SHS_ RX11 cX11_grant 5 (some .int) flX11 plX11 knX11 [(166, 2, TR_ as_F_X11_isLand (rmI_) pre_F_X11_isLand post_F_X11_isLand)] _ _ none kX11_grant [] flX11_ok plX11_ok knX11_ok eX11_grant oX11_grant
    (List.forall_mem_cons.mpr ⟨cok_v (t := 32) (c := 11) (N := 39) (n := 1) (idx := 83) E (ct_F_X11_isLand X.2.1) (by rw [hR]; decide) (Nat.zero_le _) (Nat.zero_le _) hG rfl rfl ⟨rfl, by decide, by decide, by decide⟩ (fun _ => ⟨_, _, rfl, rfl⟩) wl_X11_83 wi_X11_isLand ws_X11_isLand wn_X11 wc_X11_isLand, fun _ h => absurd h List.not_mem_nil⟩) R sok_no E
  show WP_ X G Q 0 0 ad SHS_ σ 0 [(42, 86), (0, x1), (0, x2), (0, x3), (9, 0)] []
  have hp : FM_ σ := hp
  obtain ⟨hW0, hW1, hW2, hW3, hW4, hW5, hT, hF, hP, hI, hY, hSz, hAt, hFr⟩ := id hp
  refine B rfl ?_
  refine Exists.intro x1 (And.intro rfl (And.intro hp ?_))
  rintro _ _ ⟨rfl, rfl⟩
  refine And.intro (fun h4 => ?_) (fun h4 => (by exfalso; omega))
  refine B rfl ?_
  refine Exists.intro _ (And.intro rfl ?_)
  exact And.intro rfl rfl
def as_F_X11_ends : Int → List Sv_t := fun a => [(42, 86), (0, a)]
def pre_F_X11_ends : Int → Me_t → Prop := fun a σ => FM_ σ
def post_F_X11_ends : Int → Me_t → Int → Me_t → Prop := fun a σ z σ' => z = (-2) ∧ σ = σ'
set_option maxHeartbeats 4000000 in
set_option maxRecDepth 100000 in
theorem ct_F_X11_ends (l : Launch) : CT_ l yX11_ends cX11_ends 4 (some .int) 2 47 as_F_X11_ends (rmI_) pre_F_X11_ends post_F_X11_ends := by
  refine ct_of (by decide) (fun _ => Nat.le_of_ble_eq_true rfl) ?_
  intro X G Q ad σ a hl hR E hG R hM hv hp
  obtain ⟨x1, rfl⟩ : ∃ q : Int, q = a := ⟨_, rfl⟩
  have r_x1 : -2147483648 ≤ x1 ∧ x1 ≤ 2147483647 := hv (0, x1) (List.mem_of_getElem? (i := 1) rfl)
  have B := @bk_ X G Q 0 0 ad SHS_ RX11 cX11_ends 4 (some .int) flX11 plX11 knX11 [(166, 2, TR_ as_F_X11_isLand (rmI_) pre_F_X11_isLand post_F_X11_isLand)] _ _ none kX11_ends [] flX11_ok plX11_ok knX11_ok eX11_ends oX11_ends
    (List.forall_mem_cons.mpr ⟨cok_v (t := 32) (c := 11) (N := 39) (n := 1) (idx := 83) E (ct_F_X11_isLand X.2.1) (by rw [hR]; decide) (Nat.zero_le _) (Nat.zero_le _) hG rfl rfl ⟨rfl, by decide, by decide, by decide⟩ (fun _ => ⟨_, _, rfl, rfl⟩) wl_X11_83 wi_X11_isLand ws_X11_isLand wn_X11 wc_X11_isLand, fun _ h => absurd h List.not_mem_nil⟩) R sok_no E
  show WP_ X G Q 0 0 ad SHS_ σ 0 [(42, 86), (0, x1), (9, 0), (9, 0)] []
  have hp : FM_ σ := hp
  obtain ⟨hW0, hW1, hW2, hW3, hW4, hW5, hT, hF, hP, hI, hY, hSz, hAt, hFr⟩ := id hp
  refine B rfl ?_
  refine Exists.intro x1 (And.intro rfl (And.intro hp ?_))
  rintro _ _ ⟨rfl, rfl⟩
  refine And.intro (fun h4 => (by exfalso; omega)) (fun h4 => ?_)
  refine Exists.intro _ (And.intro rfl ?_)
  exact And.intro rfl rfl
def as_F_X11_undo : Unit → List Sv_t := fun a => [(42, 86)]
def pre_F_X11_undo : Unit → Me_t → Prop := fun a σ => FM_ σ
def post_F_X11_undo : Unit → Me_t → Int → Me_t → Prop := fun a σ z σ' => z = (-2) ∧ σ = σ'
set_option maxHeartbeats 4000000 in
set_option maxRecDepth 100000 in
theorem ct_F_X11_undo (l : Launch) : CT_ l yX11_undo cX11_undo 4 (some .int) 1 20 as_F_X11_undo (rmI_) pre_F_X11_undo post_F_X11_undo := by
  refine ct_of (by decide) (fun _ => Nat.le_of_ble_eq_true rfl) ?_
  intro X G Q ad σ a hl hR E hG R hM hv hp
  have B := @bk_ X G Q 0 0 ad SHS_ RX11 cX11_undo 4 (some .int) flX11 plX11 knX11 [(184, 1, TR_ as_F_X11_isWar (rmI_) pre_F_X11_isWar post_F_X11_isWar)] _ _ none kX11_undo [] flX11_ok plX11_ok knX11_ok eX11_undo oX11_undo
    (List.forall_mem_cons.mpr ⟨cok_v (t := 32) (c := 11) (N := 39) (n := 0) (idx := 92) E (ct_F_X11_isWar X.2.1) (by rw [hR]; decide) (Nat.zero_le _) (Nat.zero_le _) hG rfl rfl ⟨rfl, by decide, by decide, by decide⟩ (fun _ => ⟨_, _, rfl, rfl⟩) wl_X11_92 wi_X11_isWar ws_X11_isWar wn_X11 wc_X11_isWar, fun _ h => absurd h List.not_mem_nil⟩) R sok_no E
  show WP_ X G Q 0 0 ad SHS_ σ 0 [(42, 86), (9, 0), (9, 0), (9, 0)] []
  have hp : FM_ σ := hp
  obtain ⟨hW0, hW1, hW2, hW3, hW4, hW5, hT, hF, hP, hI, hY, hSz, hAt, hFr⟩ := id hp
  refine B rfl ?_
  refine Exists.intro () (And.intro rfl (And.intro hp ?_))
  rintro _ _ ⟨rfl, rfl⟩
  refine And.intro (fun h4 => (by exfalso; omega)) (fun h4 => ?_)
  refine Exists.intro _ (And.intro rfl ?_)
  exact And.intro rfl rfl
def as_F_X11_drawn : Int × Int × Int × Int → List Sv_t := fun a => [(42, 86), (0, a.1), (0, a.2.1), (0, a.2.2.1), (0, a.2.2.2)]
def pre_F_X11_drawn : Int × Int × Int × Int → Me_t → Prop := fun a σ => FM_ σ
def post_F_X11_drawn : Int × Int × Int × Int → Me_t → Int → Me_t → Prop := fun a σ z σ' => z = (-2) ∧ σ = σ'
set_option maxHeartbeats 4000000 in
set_option maxRecDepth 100000 in
theorem ct_F_X11_drawn (l : Launch) : CT_ l yX11_drawn cX11_drawn 5 (some .int) 4 95 as_F_X11_drawn (rmI_) pre_F_X11_drawn post_F_X11_drawn := by
  refine ct_of (by decide) (fun _ => Nat.le_refl _) ?_
  intro X G Q ad σ a hl hR E hG R hM hv hp
  obtain ⟨x1, x2, x3, x4⟩ := a
  have r_x1 : -2147483648 ≤ x1 ∧ x1 ≤ 2147483647 := hv (0, x1) (List.mem_of_getElem? (i := 1) rfl)
  have r_x2 : -2147483648 ≤ x2 ∧ x2 ≤ 2147483647 := hv (0, x2) (List.mem_of_getElem? (i := 2) rfl)
  have r_x3 : -2147483648 ≤ x3 ∧ x3 ≤ 2147483647 := hv (0, x3) (List.mem_of_getElem? (i := 3) rfl)
  have r_x4 : -2147483648 ≤ x4 ∧ x4 ≤ 2147483647 := hv (0, x4) (List.mem_of_getElem? (i := 4) rfl)
  have B := @bk_ X G Q 0 0 ad SHS_ RX11 cX11_drawn 5 (some .int) flX11 plX11 knX11 [(184, 1, TR_ as_F_X11_isWar (rmI_) pre_F_X11_isWar post_F_X11_isWar)] _ _ none kX11_drawn [] flX11_ok plX11_ok knX11_ok eX11_drawn oX11_drawn
    (List.forall_mem_cons.mpr ⟨cok_v (t := 32) (c := 11) (N := 39) (n := 0) (idx := 92) E (ct_F_X11_isWar X.2.1) (by rw [hR]; decide) (Nat.zero_le _) (Nat.zero_le _) hG rfl rfl ⟨rfl, by decide, by decide, by decide⟩ (fun _ => ⟨_, _, rfl, rfl⟩) wl_X11_92 wi_X11_isWar ws_X11_isWar wn_X11 wc_X11_isWar, fun _ h => absurd h List.not_mem_nil⟩) R sok_no E
  show WP_ X G Q 0 0 ad SHS_ σ 0 [(42, 86), (0, x1), (0, x2), (0, x3), (0, x4)] []
  have hp : FM_ σ := hp
  obtain ⟨hW0, hW1, hW2, hW3, hW4, hW5, hT, hF, hP, hI, hY, hSz, hAt, hFr⟩ := id hp
  refine B rfl ?_
  refine Exists.intro () (And.intro rfl (And.intro hp ?_))
  rintro _ _ ⟨rfl, rfl⟩
  refine And.intro (fun h4 => ?_) (fun h4 => (by exfalso; omega))
  refine B rfl ?_
  refine Exists.intro _ (And.intro rfl ?_)
  exact And.intro rfl rfl
def as_F_X11_luck : Int × Int × Int × Int × Int → List Sv_t := fun a => [(42, 86), (0, a.1), (0, a.2.1), (0, a.2.2.1), (0, a.2.2.2.1), (0, a.2.2.2.2)]
def pre_F_X11_luck : Int × Int × Int × Int × Int → Me_t → Prop := fun a σ => FM_ σ
def post_F_X11_luck : Int × Int × Int × Int × Int → Me_t → Int → Me_t → Prop := fun a σ z σ' => z = (-2) ∧ σ = σ'
set_option maxHeartbeats 4000000 in
set_option maxRecDepth 100000 in
theorem ct_F_X11_luck (l : Launch) : CT_ l yX11_luck cX11_luck 8 (some .int) 4 95 as_F_X11_luck (rmI_) pre_F_X11_luck post_F_X11_luck := by
  refine ct_of (by decide) (fun _ => Nat.le_of_ble_eq_true rfl) ?_
  intro X G Q ad σ a hl hR E hG R hM hv hp
  obtain ⟨x1, x2, x3, x4, x5⟩ := a
  have r_x1 : -2147483648 ≤ x1 ∧ x1 ≤ 2147483647 := hv (0, x1) (List.mem_of_getElem? (i := 1) rfl)
  have r_x2 : -2147483648 ≤ x2 ∧ x2 ≤ 2147483647 := hv (0, x2) (List.mem_of_getElem? (i := 2) rfl)
  have r_x3 : -2147483648 ≤ x3 ∧ x3 ≤ 2147483647 := hv (0, x3) (List.mem_of_getElem? (i := 3) rfl)
  have r_x4 : -2147483648 ≤ x4 ∧ x4 ≤ 2147483647 := hv (0, x4) (List.mem_of_getElem? (i := 4) rfl)
  have r_x5 : -2147483648 ≤ x5 ∧ x5 ≤ 2147483647 := hv (0, x5) (List.mem_of_getElem? (i := 5) rfl)
  have B := @bk_ X G Q 0 0 ad SHS_ RX11 cX11_luck 8 (some .int) flX11 plX11 knX11 [(963, 1, TR_ as_F_X11_isSeed (rmI_) pre_F_X11_isSeed post_F_X11_isSeed), (159, 3, TR_ as_F_X11_in (rmI_) pre_F_X11_in post_F_X11_in), (166, 2, TR_ as_F_X11_isLand (rmI_) pre_F_X11_isLand post_F_X11_isLand)] _ _ none kX11_luck [] flX11_ok plX11_ok knX11_ok eX11_luck oX11_luck
    (List.forall_mem_cons.mpr ⟨cok_s (n := 1) (idx := 481) E (ct_F_X11_isSeed X.2.1) (by rw [hR]; decide) (Nat.zero_le _) (Nat.zero_le _) hG ⟨by decide, by decide, by decide⟩ (fun _ => rfl) wl_X11_481 wt_X11_isSeed wn_X11 wc_X11_isSeed, List.forall_mem_cons.mpr ⟨cok_s (n := 3) (idx := 79) E (ct_F_X11_in X.2.1) (by rw [hR]; decide) (Nat.zero_le _) (Nat.zero_le _) hG ⟨by decide, by decide, by decide⟩ (fun _ => rfl) wl_X11_79 wt_X11_in wn_X11 wc_X11_in, List.forall_mem_cons.mpr ⟨cok_v (t := 32) (c := 11) (N := 39) (n := 1) (idx := 83) E (ct_F_X11_isLand X.2.1) (by rw [hR]; decide) (Nat.zero_le _) (Nat.zero_le _) hG rfl rfl ⟨rfl, by decide, by decide, by decide⟩ (fun _ => ⟨_, _, rfl, rfl⟩) wl_X11_83 wi_X11_isLand ws_X11_isLand wn_X11 wc_X11_isLand, fun _ h => absurd h List.not_mem_nil⟩⟩⟩) R sok_no E
  show WP_ X G Q 0 0 ad SHS_ σ 0 [(42, 86), (0, x1), (0, x2), (0, x3), (0, x4), (0, x5), (9, 0), (9, 0)] []
  have hp : FM_ σ := hp
  obtain ⟨hW0, hW1, hW2, hW3, hW4, hW5, hT, hF, hP, hI, hY, hSz, hAt, hFr⟩ := id hp
  refine B rfl ?_
  refine Exists.intro x1 (And.intro rfl (And.intro trivial ?_))
  rintro z1 _ ⟨rfl, h3⟩
  try dsimp only at h3
  refine And.intro (fun h4 => ?_) (fun h4 => ?_)
  · skip
    refine B rfl ?_
    refine Exists.intro _ (And.intro rfl ?_)
    exact And.intro rfl rfl
  · skip
    refine Exists.intro (x2, 1, 20) (And.intro rfl (And.intro trivial ?_))
    rintro z5 _ ⟨rfl, h7⟩
    try dsimp only at h7
    refine And.intro (fun h8 => ?_) (fun h8 => ?_)
    · skip
      refine B rfl ?_
      refine Exists.intro _ (And.intro rfl ?_)
      exact And.intro rfl rfl
    · skip
      refine Exists.intro x3 (And.intro rfl (And.intro hp ?_))
      rintro _ _ ⟨rfl, rfl⟩
      refine And.intro (fun h12 => ?_) (fun h12 => (by exfalso; omega))
      refine B rfl ?_
      refine Exists.intro _ (And.intro rfl ?_)
      exact And.intro rfl rfl
def as_F_X11_gains : Int × Int × Int × Int → List Sv_t := fun a => [(42, 86), (0, a.1), (0, a.2.1), (0, a.2.2.1), (0, a.2.2.2)]
def pre_F_X11_gains : Int × Int × Int × Int → Me_t → Prop := fun a σ => FM_ σ
def post_F_X11_gains : Int × Int × Int × Int → Me_t → Int → Me_t → Prop := fun a σ z σ' => z = (-2000) ∧ σ = σ'
set_option maxHeartbeats 4000000 in
set_option maxRecDepth 100000 in
theorem ct_F_X11_gains (l : Launch) : CT_ l yX11_gains cX11_gains 7 (some .int) 4 93 as_F_X11_gains (rmI_) pre_F_X11_gains post_F_X11_gains := by
  refine ct_of (by decide) (fun _ => Nat.le_of_ble_eq_true rfl) ?_
  intro X G Q ad σ a hl hR E hG R hM hv hp
  obtain ⟨x1, x2, x3, x4⟩ := a
  have r_x1 : -2147483648 ≤ x1 ∧ x1 ≤ 2147483647 := hv (0, x1) (List.mem_of_getElem? (i := 1) rfl)
  have r_x2 : -2147483648 ≤ x2 ∧ x2 ≤ 2147483647 := hv (0, x2) (List.mem_of_getElem? (i := 2) rfl)
  have r_x3 : -2147483648 ≤ x3 ∧ x3 ≤ 2147483647 := hv (0, x3) (List.mem_of_getElem? (i := 3) rfl)
  have r_x4 : -2147483648 ≤ x4 ∧ x4 ≤ 2147483647 := hv (0, x4) (List.mem_of_getElem? (i := 4) rfl)
  have B := @bk_ X G Q 0 0 ad SHS_ RX11 cX11_gains 7 (some .int) flX11 plX11 knX11 [(630, 3, TR_ as_F_X11_areTwo (rmI_) pre_F_X11_areTwo post_F_X11_areTwo)] _ _ none kX11_gains [] flX11_ok plX11_ok knX11_ok eX11_gains oX11_gains
    (List.forall_mem_cons.mpr ⟨cok_v (t := 32) (c := 11) (N := 39) (n := 2) (idx := 315) E (ct_F_X11_areTwo X.2.1) (by rw [hR]; decide) (Nat.zero_le _) (Nat.zero_le _) hG rfl rfl ⟨rfl, by decide, by decide, by decide⟩ (fun _ => ⟨_, _, rfl, rfl⟩) wl_X11_315 wi_X11_areTwo ws_X11_areTwo wn_X11 wc_X11_areTwo, fun _ h => absurd h List.not_mem_nil⟩) R sok_no E
  show WP_ X G Q 0 0 ad SHS_ σ 0 [(42, 86), (0, x1), (0, x2), (0, x3), (0, x4), (9, 0), (9, 0)] []
  have hp : FM_ σ := hp
  obtain ⟨hW0, hW1, hW2, hW3, hW4, hW5, hT, hF, hP, hI, hY, hSz, hAt, hFr⟩ := id hp
  refine B rfl ?_
  refine Exists.intro (x1, x2) (And.intro rfl (And.intro hp ?_))
  rintro _ _ ⟨rfl, rfl⟩
  refine And.intro (fun h4 => ?_) (fun h4 => (by exfalso; omega))
  refine B rfl ?_
  refine Exists.intro _ (And.intro rfl ?_)
  exact And.intro rfl rfl
