theorem ups_of {σ σ' : Me_t} {o j z a b : Int} (e : σ' = ups_ σ o j z) (h : a ≠ o ∨ b ≠ j) : σ' a b = σ a b := by rw [e, ups_n h]
theorem ups_z {σ σ' : Me_t} {o j a b : Int} (e : σ' = ups_ σ o j 0) (h : σ a b = 0) : σ' a b = 0 := by
  subst e; unfold ups_; split
  · rfl
  · exact h
theorem ups_y {σ σ' : Me_t} {o j z a b : Int} (e : σ' = ups_ σ o j z) (h : σ a b = 0) (hz : b = j → z = 0) : σ' a b = 0 := by
  subst e; unfold ups_; split
  · exact hz (by rename_i q; exact q.2)
  · exact h
def as_S_X11_end : Int → List Sv_t := fun a => [(42, 86), (0, a)]
def pre_S_X11_end : Int → Me_t → Prop := fun a σ => FM_ σ
def post_S_X11_end : Int → Me_t → Int → Me_t → Prop := fun a σ z σ' => True ∧ (a = 0 → z = 0) ∧ (¬ a = 0 → z = -1)
set_option maxHeartbeats 4000000 in
set_option maxRecDepth 100000 in
theorem ct_S_X11_end (l : Launch) : CT_ l yX11_end cX11_end 2 (some .int) 1 25 as_S_X11_end (rmI_) pre_S_X11_end post_S_X11_end := by
  refine ct_of (by decide) (fun _ => Nat.le_refl _) ?_
  intro X G Q ad σ a hl hR E hG R hM hv hp
  obtain ⟨n, rfl⟩ : ∃ q : Int, q = a := ⟨_, rfl⟩
  have r_n : -2147483648 ≤ n ∧ n ≤ 2147483647 := hv (0, n) (List.mem_of_getElem? (i := 1) rfl)
  have B := @bk_ X G Q 0 0 ad SHS_ RX11 cX11_end 2 (some .int) flX11 plX11 knX11 [(159, 3, TR_ as_F_X11_in (rmI_) pre_F_X11_in post_F_X11_in)] _ _ none kX11_end [] flX11_ok plX11_ok knX11_ok eX11_end oX11_end
    (List.forall_mem_cons.mpr ⟨cok_s (n := 3) (idx := 79) E (ct_F_X11_in X.2.1) (by rw [hR]; decide) (Nat.zero_le _) (Nat.zero_le _) hG ⟨by decide, by decide, by decide⟩ (fun _ => rfl) wl_X11_79 wt_X11_in wn_X11 wc_X11_in, fun _ h => absurd h List.not_mem_nil⟩) R sok_no E
  show WP_ X G Q 0 0 ad SHS_ σ 0 [(42, 86), (0, n)] []
  have hp : FM_ σ := hp
  obtain ⟨hW0, hW1, hW2, hW3, hW4, hW5, hT, hF, hP, hI, hY, hSz, hAt, hFr⟩ := id hp
  refine B rfl ?_
  refine Exists.intro (n, 0, σ 86 5) (And.intro rfl (And.intro trivial ?_))
  rintro z1 _ ⟨rfl, h3⟩
  try dsimp only at h3
  refine And.intro (fun h4 => ?_) (fun h4 => ?_)
  · skip
    refine B rfl ?_
    intro σ5 e6
    refine Exists.intro _ (And.intro rfl ?_)
    refine And.intro trivial ?_
    (try dsimp only)
    omega
  · skip
    refine Exists.intro _ (And.intro rfl ?_)
    refine And.intro trivial ?_
    (try dsimp only)
    omega
def as_S_X11_fault : Int → List Sv_t := fun a => [(42, 86), (0, a)]
def pre_S_X11_fault : Int → Me_t → Prop := fun a σ => FM_ σ
def post_S_X11_fault : Int → Me_t → Int → Me_t → Prop := fun a σ z σ' => True ∧ (a = 0 → z = 0) ∧ (¬ a = 0 → z = -1)
set_option maxHeartbeats 4000000 in
set_option maxRecDepth 100000 in
theorem ct_S_X11_fault (l : Launch) : CT_ l yX11_fault cX11_fault 2 (some .int) 0 0 as_S_X11_fault (rmI_) pre_S_X11_fault post_S_X11_fault := by
  refine ct_of (by decide) (fun _ => Nat.le_refl _) ?_
  intro X G Q ad σ a hl hR E hG R hM hv hp
  obtain ⟨n, rfl⟩ : ∃ q : Int, q = a := ⟨_, rfl⟩
  have r_n : -2147483648 ≤ n ∧ n ≤ 2147483647 := hv (0, n) (List.mem_of_getElem? (i := 1) rfl)
  have B := @bk_ X G Q 0 0 ad SHS_ RX11 cX11_fault 2 (some .int) flX11 plX11 knX11 [] _ _ none kX11_fault [] flX11_ok plX11_ok knX11_ok eX11_fault oX11_fault
    (fun _ h => absurd h List.not_mem_nil) R sok_no E
  show WP_ X G Q 0 0 ad SHS_ σ 0 [(42, 86), (0, n)] []
  have hp : FM_ σ := hp
  obtain ⟨hW0, hW1, hW2, hW3, hW4, hW5, hT, hF, hP, hI, hY, hSz, hAt, hFr⟩ := id hp
  refine B rfl ?_
  refine And.intro (fun h1 => ?_) (fun h1 => ?_)
  · skip
    refine B rfl ?_
    refine And.intro (fun h2 => ?_) (fun h2 => ?_)
    · skip
      refine B rfl ?_
      refine Exists.intro _ (And.intro rfl ?_)
      refine And.intro trivial ?_
      (try dsimp only)
      omega
    · skip
      refine B rfl ?_
      refine Exists.intro _ (And.intro rfl ?_)
      refine And.intro trivial ?_
      (try dsimp only)
      omega
  · skip
    refine B rfl ?_
    refine Exists.intro _ (And.intro rfl ?_)
    refine And.intro trivial ?_
    (try dsimp only)
    omega
def as_S_X11_count : Int → List Sv_t := fun a => [(42, 86), (0, a)]
def pre_S_X11_count : Int → Me_t → Prop := fun a σ => FM_ σ
def post_S_X11_count : Int → Me_t → Int → Me_t → Prop := fun a σ z σ' => True ∧ (0 ≤ a ∧ a ≤ 7 → z = 0) ∧ (¬ (0 ≤ a ∧ a ≤ 7) → z = -1)
set_option maxHeartbeats 4000000 in
set_option maxRecDepth 100000 in
theorem ct_S_X11_count (l : Launch) : CT_ l yX11_count cX11_count 4 (some .int) 0 0 as_S_X11_count (rmI_) pre_S_X11_count post_S_X11_count := by
  refine ct_of (by decide) (fun _ => Nat.le_of_ble_eq_true rfl) ?_
  intro X G Q ad σ a hl hR E hG R hM hv hp
  obtain ⟨n, rfl⟩ : ∃ q : Int, q = a := ⟨_, rfl⟩
  have r_n : -2147483648 ≤ n ∧ n ≤ 2147483647 := hv (0, n) (List.mem_of_getElem? (i := 1) rfl)
  have B := @bk_ X G Q 0 0 ad SHS_ RX11 cX11_count 4 (some .int) flX11 plX11 knX11 [] _ _ none kX11_count [97] flX11_ok plX11_ok knX11_ok eX11_count oX11_count
    (fun _ h => absurd h List.not_mem_nil) R sok_no E
  show WP_ X G Q 0 0 ad SHS_ σ 0 [(42, 86), (0, n), (9, 0), (9, 0)] []
  have hp : FM_ σ := hp
  obtain ⟨hW0, hW1, hW2, hW3, hW4, hW5, hT, hF, hP, hI, hY, hSz, hAt, hFr⟩ := id hp
  refine B rfl ?_
  refine And.intro (fun h1 => ?_) ?_
  · skip
    refine B rfl ?_
    refine Exists.intro _ (And.intro rfl ?_)
    refine And.intro trivial ?_
    (try dsimp only)
    omega
  refine And.intro (fun h1 => ?_) ?_
  · skip
    refine B rfl ?_
    refine And.intro (by omega) ?_
    refine Exists.intro _ (And.intro rfl ?_)
    refine And.intro trivial ?_
    (try dsimp only)
    omega
  refine And.intro (fun h1 => ?_) ?_
  · skip
    refine B rfl ?_
    refine And.intro (by omega) ?_
    refine Exists.intro _ (And.intro rfl ?_)
    refine And.intro trivial ?_
    (try dsimp only)
    omega
  refine And.intro (fun h1 => ?_) ?_
  · skip
    refine B rfl ?_
    refine And.intro (by omega) ?_
    refine Exists.intro _ (And.intro rfl ?_)
    refine And.intro trivial ?_
    (try dsimp only)
    omega
  refine And.intro (fun h1 => ?_) ?_
  · skip
    refine B rfl ?_
    refine And.intro (by omega) ?_
    refine Exists.intro _ (And.intro rfl ?_)
    refine And.intro trivial ?_
    (try dsimp only)
    omega
  refine And.intro (fun h1 => ?_) ?_
  · skip
    refine B rfl ?_
    refine And.intro (by omega) ?_
    refine Exists.intro _ (And.intro rfl ?_)
    refine And.intro trivial ?_
    (try dsimp only)
    omega
  refine And.intro (fun h1 => ?_) ?_
  · skip
    refine B rfl ?_
    refine Exists.intro _ (And.intro rfl ?_)
    refine And.intro trivial ?_
    (try dsimp only)
    omega
  refine And.intro (fun h1 => ?_) ?_
  · skip
    refine B rfl ?_
    refine And.intro (by omega) ?_
    refine Exists.intro _ (And.intro rfl ?_)
    refine And.intro trivial ?_
    (try dsimp only)
    omega
  refine And.intro (fun h1 => ?_) ?_
  · skip
    refine B rfl ?_
    have lp_97 : ∀ (nq_ : Nat) (i : Int) (τ97 : Me_t), (∀ k j, τ97 k j = σ k j) → 0 ≤ i → i ≤ 4 → (4 - i).toNat < nq_ → WP_ X G Q 0 0 ad SHS_ τ97 97 [(42, 86), (0, n), (0, 0), (0, i)] [] := by
      intro nq_
      induction nq_ with
      | zero => intros; omega
      | succ nq_ ih_97 =>
        intro i τ97 hi97_0 hlo97 hhi97 hm97
        refine B rfl ?_
        refine And.intro (fun h2 => ?_) (fun h2 => ?_)
        · skip
          refine B rfl ?_
          refine Exists.intro _ (And.intro rfl ?_)
          refine And.intro trivial ?_
          (try dsimp only)
          omega
        · skip
          refine And.intro (by omega) ?_
          have hmade := hY i (by omega) (by omega)
          have hmad2 := hi97_0 102 i
          refine And.intro (fun h3 => (by exfalso; omega)) (fun h3 => ?_)
          refine B rfl ?_
          refine And.intro (by omega) ?_
          refine And.intro (by omega) ?_
          exact ih_97 _ τ97 hi97_0 (by omega) (by omega) (by omega)
    exact lp_97 ((4 - 0 : Int).toNat + 1) _ σ (fun k j => rfl) (by omega) (by omega) (by omega)
  exact True.intro
def as_S_X11_image : Int → List Sv_t := fun a => [(42, 86), (0, a)]
def pre_S_X11_image : Int → Me_t → Prop := fun a σ => FM_ σ
def post_S_X11_image : Int → Me_t → Int → Me_t → Prop := fun a σ z σ' => True ∧ (0 ≤ a ∧ a ≤ 2 → z = 0) ∧ (¬ (0 ≤ a ∧ a ≤ 2) → z = -2)
set_option maxHeartbeats 4000000 in
set_option maxRecDepth 100000 in
theorem ct_S_X11_image (l : Launch) : CT_ l yX11_image cX11_image 3 (some .int) 1 25 as_S_X11_image (rmI_) pre_S_X11_image post_S_X11_image := by
  refine ct_of (by decide) (fun _ => Nat.le_of_ble_eq_true rfl) ?_
  intro X G Q ad σ a hl hR E hG R hM hv hp
  obtain ⟨n, rfl⟩ : ∃ q : Int, q = a := ⟨_, rfl⟩
  have r_n : -2147483648 ≤ n ∧ n ≤ 2147483647 := hv (0, n) (List.mem_of_getElem? (i := 1) rfl)
  have B := @bk_ X G Q 0 0 ad SHS_ RX11 cX11_image 3 (some .int) flX11 plX11 knX11 [(159, 3, TR_ as_F_X11_in (rmI_) pre_F_X11_in post_F_X11_in)] _ _ none kX11_image [17] flX11_ok plX11_ok knX11_ok eX11_image oX11_image
    (List.forall_mem_cons.mpr ⟨cok_s (n := 3) (idx := 79) E (ct_F_X11_in X.2.1) (by rw [hR]; decide) (Nat.zero_le _) (Nat.zero_le _) hG ⟨by decide, by decide, by decide⟩ (fun _ => rfl) wl_X11_79 wt_X11_in wn_X11 wc_X11_in, fun _ h => absurd h List.not_mem_nil⟩) R sok_no E
  show WP_ X G Q 0 0 ad SHS_ σ 0 [(42, 86), (0, n), (9, 0)] []
  have hp : FM_ σ := hp
  obtain ⟨hW0, hW1, hW2, hW3, hW4, hW5, hT, hF, hP, hI, hY, hSz, hAt, hFr⟩ := id hp
  refine B rfl ?_
  refine Exists.intro (n, 0, 2) (And.intro rfl (And.intro trivial ?_))
  rintro z1 _ ⟨rfl, h3⟩
  try dsimp only at h3
  refine And.intro (fun h4 => ?_) (fun h4 => ?_)
  · skip
    refine B rfl ?_
    have lp_17 : ∀ (nq_ : Nat) (i : Int) (τ17 : Me_t), 0 ≤ i → i ≤ 495 → (495 - i).toNat < nq_ → WP_ X G Q 0 0 ad SHS_ τ17 17 [(42, 86), (0, n), (0, i)] [] := by
      intro nq_
      induction nq_ with
      | zero => intros; omega
      | succ nq_ ih_17 =>
        intro i τ17  hlo17 hhi17 hm17
        refine B rfl ?_
        refine And.intro (fun h5 => ?_) (fun h5 => ?_)
        · skip
          refine B rfl ?_
          refine And.intro (by omega) ?_
          refine And.intro (by show (0 : Int) ≤ _ ∧ _ ≤ (1 : Int); omega) ?_
          intro σ6 e7
          refine Exists.intro _ (And.intro rfl ?_)
          refine And.intro trivial ?_
          (try dsimp only)
          omega
        · skip
          refine And.intro (by omega) ?_
          refine And.intro (by omega) ?_
          refine And.intro (by omega) ?_
          refine And.intro (by omega) ?_
          intro σ8 e9
          refine And.intro (by omega) ?_
          exact ih_17 _ σ8 (by omega) (by omega) (by omega)
    exact lp_17 ((495 - 0 : Int).toNat + 1) _ σ (by omega) (by omega) (by omega)
  · skip
    refine Exists.intro _ (And.intro rfl ?_)
    refine And.intro trivial ?_
    (try dsimp only)
    omega
def as_S_X11_back : Int → List Sv_t := fun a => [(42, 86), (0, a)]
def pre_S_X11_back : Int → Me_t → Prop := fun a σ => FM_ σ
def post_S_X11_back : Int → Me_t → Int → Me_t → Prop := fun a σ z σ' => True ∧ (0 ≤ a ∧ a ≤ 2 → z = -6) ∧ (¬ (0 ≤ a ∧ a ≤ 2) → z = -2)
set_option maxHeartbeats 4000000 in
set_option maxRecDepth 100000 in
theorem ct_S_X11_back (l : Launch) : CT_ l yX11_back cX11_back 3 (some .int) 1 25 as_S_X11_back (rmI_) pre_S_X11_back post_S_X11_back := by
  refine ct_of (by decide) (fun _ => Nat.le_of_ble_eq_true rfl) ?_
  intro X G Q ad σ a hl hR E hG R hM hv hp
  obtain ⟨n, rfl⟩ : ∃ q : Int, q = a := ⟨_, rfl⟩
  have r_n : -2147483648 ≤ n ∧ n ≤ 2147483647 := hv (0, n) (List.mem_of_getElem? (i := 1) rfl)
  have B := @bk_ X G Q 0 0 ad SHS_ RX11 cX11_back 3 (some .int) flX11 plX11 knX11 [(159, 3, TR_ as_F_X11_in (rmI_) pre_F_X11_in post_F_X11_in)] _ _ none kX11_back [] flX11_ok plX11_ok knX11_ok eX11_back oX11_back
    (List.forall_mem_cons.mpr ⟨cok_s (n := 3) (idx := 79) E (ct_F_X11_in X.2.1) (by rw [hR]; decide) (Nat.zero_le _) (Nat.zero_le _) hG ⟨by decide, by decide, by decide⟩ (fun _ => rfl) wl_X11_79 wt_X11_in wn_X11 wc_X11_in, fun _ h => absurd h List.not_mem_nil⟩) R sok_no E
  show WP_ X G Q 0 0 ad SHS_ σ 0 [(42, 86), (0, n), (9, 0)] []
  have hp : FM_ σ := hp
  obtain ⟨hW0, hW1, hW2, hW3, hW4, hW5, hT, hF, hP, hI, hY, hSz, hAt, hFr⟩ := id hp
  refine B rfl ?_
  refine Exists.intro (n, 0, 2) (And.intro rfl (And.intro trivial ?_))
  rintro z1 _ ⟨rfl, h3⟩
  try dsimp only at h3
  refine And.intro (fun h4 => ?_) (fun h4 => ?_)
  · skip
    refine B rfl ?_
    have him := hI n (by omega) (by omega)
    refine And.intro (by omega) ?_
    refine And.intro (fun h5 => (by exfalso; omega)) (fun h5 => ?_)
    refine Exists.intro _ (And.intro rfl ?_)
    refine And.intro trivial ?_
    (try dsimp only)
    omega
  · skip
    refine Exists.intro _ (And.intro rfl ?_)
    refine And.intro trivial ?_
    (try dsimp only)
    omega
def as_S_X11_row : Int × Int × Int → List Sv_t := fun a => [(42, 86), (0, a.1), (0, a.2.1), (0, a.2.2)]
def pre_S_X11_row : Int × Int × Int → Me_t → Prop := fun a σ => FM_ σ
def post_S_X11_row : Int × Int × Int → Me_t → Int → Me_t → Prop := fun a σ z σ' => True ∧ (((0 ≤ a.1 ∧ a.1 < 4) ∧ (0 ≤ a.2.1 ∧ a.2.1 < 4) ∧ a.2.2 ≤ 60) → a.2.2 < 0 → z = -3) ∧ (((0 ≤ a.1 ∧ a.1 < 4) ∧ (0 ≤ a.2.1 ∧ a.2.1 < 4) ∧ a.2.2 ≤ 60) → 0 ≤ a.2.2 → z = 0) ∧ (¬ ((0 ≤ a.1 ∧ a.1 < 4) ∧ (0 ≤ a.2.1 ∧ a.2.1 < 4) ∧ a.2.2 ≤ 60) → z = -2)
set_option maxHeartbeats 4000000 in
set_option maxRecDepth 100000 in
theorem ct_S_X11_row (l : Launch) : CT_ l yX11_row cX11_row 5 (some .int) 2 45 as_S_X11_row (rmI_) pre_S_X11_row post_S_X11_row := by
  refine ct_of (by decide) (fun _ => Nat.le_of_ble_eq_true rfl) ?_
  intro X G Q ad σ a hl hR E hG R hM hv hp
  obtain ⟨s, w, n⟩ := a
  have r_s : -2147483648 ≤ s ∧ s ≤ 2147483647 := hv (0, s) (List.mem_of_getElem? (i := 1) rfl)
  have r_w : -2147483648 ≤ w ∧ w ≤ 2147483647 := hv (0, w) (List.mem_of_getElem? (i := 2) rfl)
  have r_n : -2147483648 ≤ n ∧ n ≤ 2147483647 := hv (0, n) (List.mem_of_getElem? (i := 3) rfl)
  have B := @bk_ X G Q 0 0 ad SHS_ RX11 cX11_row 5 (some .int) flX11 plX11 knX11 [(723, 1, TR_ as_F_X11_isSlot (rmI_) pre_F_X11_isSlot post_F_X11_isSlot), (159, 3, TR_ as_F_X11_in (rmI_) pre_F_X11_in post_F_X11_in)] _ _ none kX11_row [52] flX11_ok plX11_ok knX11_ok eX11_row oX11_row
    (List.forall_mem_cons.mpr ⟨cok_s (n := 1) (idx := 361) E (ct_F_X11_isSlot X.2.1) (by rw [hR]; decide) (Nat.zero_le _) (Nat.zero_le _) hG ⟨by decide, by decide, by decide⟩ (fun _ => rfl) wl_X11_361 wt_X11_isSlot wn_X11 wc_X11_isSlot, List.forall_mem_cons.mpr ⟨cok_s (n := 3) (idx := 79) E (ct_F_X11_in X.2.1) (by rw [hR]; decide) (Nat.zero_le _) (Nat.zero_le _) hG ⟨by decide, by decide, by decide⟩ (fun _ => rfl) wl_X11_79 wt_X11_in wn_X11 wc_X11_in, fun _ h => absurd h List.not_mem_nil⟩⟩) R sok_no E
  show WP_ X G Q 0 0 ad SHS_ σ 0 [(42, 86), (0, s), (0, w), (0, n), (9, 0)] []
  have hp : FM_ σ := hp
  obtain ⟨hW0, hW1, hW2, hW3, hW4, hW5, hT, hF, hP, hI, hY, hSz, hAt, hFr⟩ := id hp
  refine B rfl ?_
  refine Exists.intro s (And.intro rfl (And.intro trivial ?_))
  rintro z1 _ ⟨rfl, h3⟩
  try dsimp only at h3
  refine And.intro (fun h4 => ?_) (fun h4 => ?_)
  · skip
    refine B rfl ?_
    refine Exists.intro _ (And.intro rfl ?_)
    refine And.intro trivial ?_
    (try dsimp only)
    omega
  · skip
    refine Exists.intro (w, 0, 3) (And.intro rfl (And.intro trivial ?_))
    rintro z5 _ ⟨rfl, h7⟩
    try dsimp only at h7
    refine And.intro (fun h8 => ?_) (fun h8 => ?_)
    · skip
      refine B rfl ?_
      refine Exists.intro _ (And.intro rfl ?_)
      refine And.intro trivial ?_
      (try dsimp only)
      omega
    · skip
      refine And.intro (fun h9 => ?_) (fun h9 => ?_)
      · skip
        refine B rfl ?_
        refine And.intro (fun h10 => ?_) (fun h10 => ?_)
        · skip
          refine B rfl ?_
          refine And.intro (by omega) ?_
          intro σ11 e12
          refine And.intro (by omega) ?_
          intro σ13 e14
          have lp_52 : ∀ (nq_ : Nat) (i : Int) (τ52 : Me_t), 0 ≤ i → i ≤ 60 → (60 - i).toNat < nq_ → WP_ X G Q 0 0 ad SHS_ τ52 52 [(42, 86), (0, s), (0, w), (0, n), (0, i)] [] := by
            intro nq_
            induction nq_ with
            | zero => intros; omega
            | succ nq_ ih_52 =>
              intro i τ52  hlo52 hhi52 hm52
              refine B rfl ?_
              refine And.intro (fun h15 => ?_) (fun h15 => ?_)
              · skip
                refine B rfl ?_
                refine Exists.intro _ (And.intro rfl ?_)
                refine And.intro trivial ?_
                (try dsimp only)
                omega
              · skip
                refine And.intro (by omega) ?_
                refine And.intro (by omega) ?_
                refine And.intro (by omega) ?_
                intro σ16 e17
                refine And.intro (by omega) ?_
                exact ih_52 _ σ16 (by omega) (by omega) (by omega)
          exact lp_52 ((60 - 0 : Int).toNat + 1) _ σ13 (by omega) (by omega) (by omega)
        · skip
          refine Exists.intro _ (And.intro rfl ?_)
          refine And.intro trivial ?_
          (try dsimp only)
          omega
      · skip
        refine Exists.intro _ (And.intro rfl ?_)
        refine And.intro trivial ?_
        (try dsimp only)
        omega
def as_S_X11_write : Int × Int × Int → List Sv_t := fun a => [(42, 86), (0, a.1), (0, a.2.1), (1, a.2.2)]
def pre_S_X11_write : Int × Int × Int → Me_t → Prop := fun a σ => FM_ σ
def post_S_X11_write : Int × Int × Int → Me_t → Int → Me_t → Prop := fun a σ z σ' => True ∧ (0 ≤ a.1 ∧ a.1 < 4 → z = -6) ∧ (¬ (0 ≤ a.1 ∧ a.1 < 4) → z = -2)
set_option maxHeartbeats 4000000 in
set_option maxRecDepth 100000 in
theorem ct_S_X11_write (l : Launch) : CT_ l yX11_write cX11_write 5 (some .int) 2 45 as_S_X11_write (rmI_) pre_S_X11_write post_S_X11_write := by
  refine ct_of (by decide) (fun _ => Nat.le_refl _) ?_
  intro X G Q ad σ a hl hR E hG R hM hv hp
  obtain ⟨s, i, v⟩ := a
  have r_s : -2147483648 ≤ s ∧ s ≤ 2147483647 := hv (0, s) (List.mem_of_getElem? (i := 1) rfl)
  have r_i : -2147483648 ≤ i ∧ i ≤ 2147483647 := hv (0, i) (List.mem_of_getElem? (i := 2) rfl)
  have r_v : -9223372036854775808 ≤ v ∧ v ≤ 9223372036854775807 := hv (1, v) (List.mem_of_getElem? (i := 3) rfl)
  have B := @bk_ X G Q 0 0 ad SHS_ RX11 cX11_write 5 (some .int) flX11 plX11 knX11 [(723, 1, TR_ as_F_X11_isSlot (rmI_) pre_F_X11_isSlot post_F_X11_isSlot)] _ _ none kX11_write [] flX11_ok plX11_ok knX11_ok eX11_write oX11_write
    (List.forall_mem_cons.mpr ⟨cok_s (n := 1) (idx := 361) E (ct_F_X11_isSlot X.2.1) (by rw [hR]; decide) (Nat.zero_le _) (Nat.zero_le _) hG ⟨by decide, by decide, by decide⟩ (fun _ => rfl) wl_X11_361 wt_X11_isSlot wn_X11 wc_X11_isSlot, fun _ h => absurd h List.not_mem_nil⟩) R sok_no E
  show WP_ X G Q 0 0 ad SHS_ σ 0 [(42, 86), (0, s), (0, i), (1, v), (9, 0)] []
  have hp : FM_ σ := hp
  obtain ⟨hW0, hW1, hW2, hW3, hW4, hW5, hT, hF, hP, hI, hY, hSz, hAt, hFr⟩ := id hp
  refine B rfl ?_
  refine Exists.intro s (And.intro rfl (And.intro trivial ?_))
  rintro z1 _ ⟨rfl, h3⟩
  try dsimp only at h3
  refine And.intro (fun h4 => ?_) (fun h4 => ?_)
  · skip
    refine B rfl ?_
    have hmade := hY s (by omega) (by omega)
    refine And.intro (by omega) ?_
    refine And.intro (fun h5 => (by exfalso; omega)) (fun h5 => ?_)
    refine Exists.intro _ (And.intro rfl ?_)
    refine And.intro trivial ?_
    (try dsimp only)
    omega
  · skip
    refine Exists.intro _ (And.intro rfl ?_)
    refine And.intro trivial ?_
    (try dsimp only)
    omega
def as_S_X11_paste : Int × Int × Int × Int × Int → List Sv_t := fun a => [(42, 86), (0, a.1), (0, a.2.1), (0, a.2.2.1), (0, a.2.2.2.1), (0, a.2.2.2.2)]
def pre_S_X11_paste : Int × Int × Int × Int × Int → Me_t → Prop := fun a σ => FM_ σ
def post_S_X11_paste : Int × Int × Int × Int × Int → Me_t → Int → Me_t → Prop := fun a σ z σ' => True ∧ (((0 ≤ a.1 ∧ a.1 < 4) ∧ (0 ≤ a.2.2.1 ∧ a.2.2.1 < 4)) → z = -6) ∧ (¬ ((0 ≤ a.1 ∧ a.1 < 4) ∧ (0 ≤ a.2.2.1 ∧ a.2.2.1 < 4)) → z = -2)
set_option maxHeartbeats 4000000 in
set_option maxRecDepth 100000 in
theorem ct_S_X11_paste (l : Launch) : CT_ l yX11_paste cX11_paste 7 (some .int) 2 45 as_S_X11_paste (rmI_) pre_S_X11_paste post_S_X11_paste := by
  refine ct_of (by decide) (fun _ => Nat.le_of_ble_eq_true rfl) ?_
  intro X G Q ad σ a hl hR E hG R hM hv hp
  obtain ⟨s, i, t, p, n⟩ := a
  have r_s : -2147483648 ≤ s ∧ s ≤ 2147483647 := hv (0, s) (List.mem_of_getElem? (i := 1) rfl)
  have r_i : -2147483648 ≤ i ∧ i ≤ 2147483647 := hv (0, i) (List.mem_of_getElem? (i := 2) rfl)
  have r_t : -2147483648 ≤ t ∧ t ≤ 2147483647 := hv (0, t) (List.mem_of_getElem? (i := 3) rfl)
  have r_p : -2147483648 ≤ p ∧ p ≤ 2147483647 := hv (0, p) (List.mem_of_getElem? (i := 4) rfl)
  have r_n : -2147483648 ≤ n ∧ n ≤ 2147483647 := hv (0, n) (List.mem_of_getElem? (i := 5) rfl)
  have B := @bk_ X G Q 0 0 ad SHS_ RX11 cX11_paste 7 (some .int) flX11 plX11 knX11 [(723, 1, TR_ as_F_X11_isSlot (rmI_) pre_F_X11_isSlot post_F_X11_isSlot)] _ _ none kX11_paste [] flX11_ok plX11_ok knX11_ok eX11_paste oX11_paste
    (List.forall_mem_cons.mpr ⟨cok_s (n := 1) (idx := 361) E (ct_F_X11_isSlot X.2.1) (by rw [hR]; decide) (Nat.zero_le _) (Nat.zero_le _) hG ⟨by decide, by decide, by decide⟩ (fun _ => rfl) wl_X11_361 wt_X11_isSlot wn_X11 wc_X11_isSlot, fun _ h => absurd h List.not_mem_nil⟩) R sok_no E
  show WP_ X G Q 0 0 ad SHS_ σ 0 [(42, 86), (0, s), (0, i), (0, t), (0, p), (0, n), (9, 0)] []
  have hp : FM_ σ := hp
  obtain ⟨hW0, hW1, hW2, hW3, hW4, hW5, hT, hF, hP, hI, hY, hSz, hAt, hFr⟩ := id hp
  refine B rfl ?_
  refine Exists.intro s (And.intro rfl (And.intro trivial ?_))
  rintro z1 _ ⟨rfl, h3⟩
  try dsimp only at h3
  refine And.intro (fun h4 => ?_) (fun h4 => ?_)
  · skip
    refine B rfl ?_
    refine Exists.intro _ (And.intro rfl ?_)
    refine And.intro trivial ?_
    (try dsimp only)
    omega
  · skip
    refine Exists.intro t (And.intro rfl (And.intro trivial ?_))
    rintro z5 _ ⟨rfl, h7⟩
    try dsimp only at h7
    refine And.intro (fun h8 => ?_) (fun h8 => ?_)
    · skip
      refine B rfl ?_
      have hmade := hY s (by omega) (by omega)
      refine And.intro (by omega) ?_
      refine And.intro (fun h9 => ?_) (fun h9 => (by exfalso; omega))
      refine B rfl ?_
      refine Exists.intro _ (And.intro rfl ?_)
      refine And.intro trivial ?_
      (try dsimp only)
      omega
    · skip
      refine Exists.intro _ (And.intro rfl ?_)
      refine And.intro trivial ?_
      (try dsimp only)
      omega
def as_S_X11_feed : Int × Int × Int × Int × Int → List Sv_t := fun a => [(42, 86), (0, a.1), (0, a.2.1), (0, a.2.2.1), (0, a.2.2.2.1), (0, a.2.2.2.2)]
def pre_S_X11_feed : Int × Int × Int × Int × Int → Me_t → Prop := fun a σ => FM_ σ
def post_S_X11_feed : Int × Int × Int × Int × Int → Me_t → Int → Me_t → Prop := fun a σ z σ' => True ∧ z = 20
set_option maxHeartbeats 4000000 in
set_option maxRecDepth 100000 in
theorem ct_S_X11_feed (l : Launch) : CT_ l yX11_feed cX11_feed 7 (some .int) 0 0 as_S_X11_feed (rmI_) pre_S_X11_feed post_S_X11_feed := by
  refine ct_of (by decide) (fun _ => Nat.le_of_ble_eq_true rfl) ?_
  intro X G Q ad σ a hl hR E hG R hM hv hp
  obtain ⟨a1, a2, a3, a4, a5⟩ := a
  have r_a1 : -2147483648 ≤ a1 ∧ a1 ≤ 2147483647 := hv (0, a1) (List.mem_of_getElem? (i := 1) rfl)
  have r_a2 : -2147483648 ≤ a2 ∧ a2 ≤ 2147483647 := hv (0, a2) (List.mem_of_getElem? (i := 2) rfl)
  have r_a3 : -2147483648 ≤ a3 ∧ a3 ≤ 2147483647 := hv (0, a3) (List.mem_of_getElem? (i := 3) rfl)
  have r_a4 : -2147483648 ≤ a4 ∧ a4 ≤ 2147483647 := hv (0, a4) (List.mem_of_getElem? (i := 4) rfl)
  have r_a5 : -2147483648 ≤ a5 ∧ a5 ≤ 2147483647 := hv (0, a5) (List.mem_of_getElem? (i := 5) rfl)
  have B := @bk_ X G Q 0 0 ad SHS_ RX11 cX11_feed 7 (some .int) flX11 plX11 knX11 [] _ _ none kX11_feed [55] flX11_ok plX11_ok knX11_ok eX11_feed oX11_feed
    (fun _ h => absurd h List.not_mem_nil) R sok_no E
  show WP_ X G Q 0 0 ad SHS_ σ 0 [(42, 86), (0, a1), (0, a2), (0, a3), (0, a4), (0, a5), (9, 0)] []
  have hp : FM_ σ := hp
  obtain ⟨hW0, hW1, hW2, hW3, hW4, hW5, hT, hF, hP, hI, hY, hSz, hAt, hFr⟩ := id hp
  refine B rfl ?_
  refine And.intro (by omega) ?_
  refine And.intro (fun h1 => ?_) (fun h1 => (by exfalso; omega))
  refine B rfl ?_
  refine And.intro (by omega) ?_
  intro σ2 e3
  have t4 : σ2 86 5 = 0 := by (rw [e3, ups_n (by omega)]) <;> exact hT
  refine And.intro (by omega) ?_
  intro σ5 e6
  have t7 : σ5 86 5 = 0 := by (rw [e6, ups_n (by omega)]) <;> exact t4
  refine And.intro (by omega) ?_
  intro σ8 e9
  have t10 : σ8 86 5 = 0 := by (rw [e9, ups_n (by omega)]) <;> exact t7
  refine And.intro (by omega) ?_
  intro σ11 e12
  have t13 : σ11 86 5 = 0 := by (rw [e12, ups_n (by omega)]) <;> exact t10
  refine And.intro (by omega) ?_
  intro σ14 e15
  have t16 : σ14 86 5 = 0 := by (rw [e15, ups_n (by omega)]) <;> exact t13
  have lp_55 : ∀ (nq_ : Nat) (i : Int) (τ55 : Me_t), (τ55 86 5 = 0) → 0 ≤ i → i ≤ 20 → (20 - i).toNat < nq_ → WP_ X G Q 0 0 ad SHS_ τ55 55 [(42, 86), (0, a1), (0, a2), (0, a3), (0, a4), (0, a5), (0, i)] [] := by
    intro nq_
    induction nq_ with
    | zero => intros; omega
    | succ nq_ ih_55 =>
      intro i τ55 hi55_0 hlo55 hhi55 hm55
      refine B rfl ?_
      refine And.intro (fun h17 => ?_) (fun h17 => ?_)
      · skip
        refine B rfl ?_
        refine And.intro (by omega) ?_
        intro σ18 e19
        have t20 : σ18 86 5 = (τ55 86 5) + 20 := by rw [e19, ups_s]
        refine Exists.intro _ (And.intro rfl ?_)
        refine And.intro trivial ?_
        (try dsimp only)
        omega
      · skip
        refine And.intro (by omega) ?_
        have q21 : Int.tdiv i 4 = i / 4 := Int.tdiv_eq_ediv_of_nonneg (by omega)
        refine And.intro (by omega) ?_
        refine And.intro (by omega) ?_
        have q22 : Int.tmod i 4 = i % 4 := Int.tmod_eq_emod_of_nonneg (by omega)
        refine And.intro (by omega) ?_
        refine And.intro (by omega) ?_
        refine And.intro (by omega) ?_
        refine And.intro (by omega) ?_
        refine And.intro (i2b_r _) ?_
        intro σ23 e24
        have t25 : σ23 86 5 = 0 := by (rw [e24, ups_n (by omega)]) <;> exact hi55_0
        refine And.intro (by omega) ?_
        exact ih_55 _ σ23 (by rw [ups_of e24 (by omega)]; exact hi55_0) (by omega) (by omega) (by omega)
  exact lp_55 ((20 - 0 : Int).toNat + 1) _ σ14 t16 (by omega) (by omega) (by omega)
def as_F_X11_see : Int → List Sv_t := fun a => [(42, 86), (0, a)]
def pre_F_X11_see : Int → Me_t → Prop := fun a σ => σ 86 7 ≤ a
def post_F_X11_see : Int → Me_t → Int → Me_t → Prop := fun a σ z σ' => z = -1 ∧ σ = σ'
set_option maxHeartbeats 4000000 in
set_option maxRecDepth 100000 in
theorem ct_F_X11_see (l : Launch) : CT_ l yX11_see cX11_see 2 (some .int) 0 0 as_F_X11_see (rmI_) pre_F_X11_see post_F_X11_see := by
  refine ct_of (by decide) (fun _ => Nat.le_refl _) ?_
  intro X G Q ad σ a hl hR E hG R hM hv hp
  obtain ⟨k, rfl⟩ : ∃ q : Int, q = a := ⟨_, rfl⟩
  have r_k : -2147483648 ≤ k ∧ k ≤ 2147483647 := hv (0, k) (List.mem_of_getElem? (i := 1) rfl)
  have B := @bk_ X G Q 0 0 ad SHS_ RX11 cX11_see 2 (some .int) flX11 plX11 knX11 [] _ _ none kX11_see [] flX11_ok plX11_ok knX11_ok eX11_see oX11_see
    (fun _ h => absurd h List.not_mem_nil) R sok_no E
  show WP_ X G Q 0 0 ad SHS_ σ 0 [(42, 86), (0, k)] []
  have hp : σ 86 7 ≤ k := hp
  refine B rfl ?_
  refine And.intro (fun h1 => ?_) (fun h1 => (by exfalso; omega))
  refine B rfl ?_
  refine Exists.intro _ (And.intro rfl ?_)
  exact And.intro rfl rfl
def as_F_X11_good : Unit → List Sv_t := fun a => [(42, 86)]
def pre_F_X11_good : Unit → Me_t → Prop := fun a σ => σ 86 12 = 0
def post_F_X11_good : Unit → Me_t → Int → Me_t → Prop := fun a σ z σ' => z = 1 ∧ σ = σ'
set_option maxHeartbeats 4000000 in
set_option maxRecDepth 100000 in
theorem ct_F_X11_good (l : Launch) : CT_ l yX11_good cX11_good 1 (some .boolean) 0 0 as_F_X11_good (rmI_) pre_F_X11_good post_F_X11_good := by
  refine ct_of (by decide) (fun _ => Nat.le_refl _) ?_
  intro X G Q ad σ a hl hR E hG R hM hv hp
  have B := @bk_ X G Q 0 0 ad SHS_ RX11 cX11_good 1 (some .boolean) flX11 plX11 knX11 [] _ _ none kX11_good [] flX11_ok plX11_ok knX11_ok eX11_good oX11_good
    (fun _ h => absurd h List.not_mem_nil) R sok_no E
  show WP_ X G Q 0 0 ad SHS_ σ 0 [(42, 86)] []
  have hp : σ 86 12 = 0 := hp
  refine B rfl ?_
  refine And.intro (fun h1 => (by exfalso; omega)) (fun h1 => ?_)
  refine B rfl ?_
  refine And.intro (by omega) ?_
  refine Exists.intro _ (And.intro rfl ?_)
  exact And.intro rfl rfl
def as_S_X11_advance : Unit → List Sv_t := fun a => [(42, 86)]
def pre_S_X11_advance : Unit → Me_t → Prop := fun a σ => σ 86 7 = 0 ∧ σ 86 8 = 0
def post_S_X11_advance : Unit → Me_t → Int → Me_t → Prop := fun a σ z σ' => True ∧ σ' 86 10 = 0 ∧ σ' 86 12 = σ 86 12 ∧ (∀ k j, k ≠ 86 → σ' k j = σ k j)
set_option maxHeartbeats 4000000 in
set_option maxRecDepth 100000 in
theorem ct_S_X11_advance (l : Launch) : CT_ l yX11_advance cX11_advance 2 none 1 25 as_S_X11_advance (rmV_) pre_S_X11_advance post_S_X11_advance := by
  refine ct_of (by decide) (fun _ => Nat.le_of_ble_eq_true rfl) ?_
  intro X G Q ad σ a hl hR E hG R hM hv hp
  have B := @bk_ X G Q 0 0 ad SHS_ RX11 cX11_advance 2 none flX11 plX11 knX11 [(234, 2, TR_ as_F_X11_see (rmI_) pre_F_X11_see post_F_X11_see)] _ _ none kX11_advance [] flX11_ok plX11_ok knX11_ok eX11_advance oX11_advance
    (List.forall_mem_cons.mpr ⟨cok_v (t := 32) (c := 11) (N := 39) (n := 1) (idx := 117) E (ct_F_X11_see X.2.1) (by rw [hR]; decide) (Nat.zero_le _) (Nat.zero_le _) hG rfl rfl ⟨rfl, by decide, by decide, by decide⟩ (fun _ => ⟨_, _, rfl, rfl⟩) wl_X11_117 wi_X11_see ws_X11_see wn_X11 wc_X11_see, fun _ h => absurd h List.not_mem_nil⟩) R sok_no E
  show WP_ X G Q 0 0 ad SHS_ σ 0 [(42, 86), (9, 0)] []
  have hp : σ 86 7 = 0 ∧ σ 86 8 = 0 := hp
  refine B rfl ?_
  refine Exists.intro (σ 86 8) (And.intro rfl (And.intro (by simp only [pre_F_X11_see]; omega) ?_))
  rintro _ _ ⟨rfl, rfl⟩
  refine And.intro (fun h4 => (by exfalso; omega)) (fun h4 => ?_)
  refine Exists.intro (σ 86 8) (And.intro rfl (And.intro (by simp only [pre_F_X11_see]; omega) ?_))
  rintro _ _ ⟨rfl, rfl⟩
  refine And.intro (fun h8 => ?_) (fun h8 => (by exfalso; omega))
  refine B rfl ?_
  intro σ9 e10
  have t11 : σ9 86 7 = 0 := by (rw [e10, ups_n (by omega)]) <;> exact hp.1
  have t12 : σ9 86 8 = 0 := by (rw [e10, ups_n (by omega)]) <;> exact hp.2
  have t13 : σ9 86 10 = σ 86 10 := by (rw [e10, ups_n (by omega)]) <;> exact rfl
  have t14 : σ9 86 12 = σ 86 12 := by (rw [e10, ups_n (by omega)]) <;> exact rfl
  refine Exists.intro (σ9 86 8) (And.intro rfl (And.intro (by simp only [pre_F_X11_see]; omega) ?_))
  rintro _ _ ⟨rfl, rfl⟩
  refine And.intro (fun h18 => (by exfalso; omega)) (fun h18 => ?_)
  intro σ19 e20
  have t21 : σ19 86 7 = 0 := by (rw [e20, ups_n (by omega)]) <;> exact t11
  have t22 : σ19 86 8 = 0 := by (rw [e20, ups_n (by omega)]) <;> exact t12
  have t23 : σ19 86 10 = 0 := by rw [e20, ups_s]
  have t24 : σ19 86 12 = σ 86 12 := by (rw [e20, ups_n (by omega)]) <;> exact t14
  refine B rfl ?_
  refine Exists.intro 0 (And.intro rfl ?_)
  exact And.intro trivial (And.intro t23 (And.intro t24 (fun k j hk => by rw [st_n e20 (by omega), st_n e10 (by omega)])))
def as_S_X11_war : Unit → List Sv_t := fun a => [(42, 86)]
def pre_S_X11_war : Unit → Me_t → Prop := fun a σ => FM_ σ
def post_S_X11_war : Unit → Me_t → Int → Me_t → Prop := fun a σ z σ' => True ∧ z = 0
set_option maxHeartbeats 4000000 in
set_option maxRecDepth 100000 in
theorem ct_S_X11_war (l : Launch) : CT_ l yX11_war cX11_war 2 (some .int) 12 258 as_S_X11_war (rmI_) pre_S_X11_war post_S_X11_war := by
  refine ct_of (by decide) (fun _ => Nat.le_of_ble_eq_true rfl) ?_
  intro X G Q ad σ a hl hR E hG R hM hv hp
  have B := @bk_ X G Q 0 0 ad SHS_ RX11 cX11_war 2 (some .int) flX11 plX11 knX11 [(326, 1, TR_ as_S_X11_advance (rmV_) pre_S_X11_advance post_S_X11_advance), (294, 1, TR_ as_F_X11_good (rmI_) pre_F_X11_good post_F_X11_good)] _ _ none kX11_war [30, 87] flX11_ok plX11_ok knX11_ok eX11_war oX11_war
    (List.forall_mem_cons.mpr ⟨cok_v (t := 32) (c := 11) (N := 39) (n := 0) (idx := 163) E (ct_S_X11_advance X.2.1) (by rw [hR]; decide) (Nat.zero_le _) (Nat.zero_le _) hG rfl rfl ⟨rfl, by decide, by decide, by decide⟩ (fun _ => ⟨_, _, rfl, rfl⟩) wl_X11_163 wi_X11_advance ws_X11_advance wn_X11 wc_X11_advance, List.forall_mem_cons.mpr ⟨cok_v (t := 32) (c := 11) (N := 39) (n := 0) (idx := 147) E (ct_F_X11_good X.2.1) (by rw [hR]; decide) (Nat.zero_le _) (Nat.zero_le _) hG rfl rfl ⟨rfl, by decide, by decide, by decide⟩ (fun _ => ⟨_, _, rfl, rfl⟩) wl_X11_147 wi_X11_good ws_X11_good wn_X11 wc_X11_good, fun _ h => absurd h List.not_mem_nil⟩⟩) R sok_no E
  show WP_ X G Q 0 0 ad SHS_ σ 0 [(42, 86), (9, 0)] []
  have hp : FM_ σ := hp
  obtain ⟨hW0, hW1, hW2, hW3, hW4, hW5, hT, hF, hP, hI, hY, hSz, hAt, hFr⟩ := id hp
  refine B rfl ?_
  intro σ1 e2
  have t3 : σ1 86 7 = 0 := by (rw [e2, ups_s]) <;> omega
  have t4 : σ1 86 8 = 0 := by (rw [e2, ups_n (by omega)]) <;> exact hAt
  have t5 : σ1 86 12 = 0 := by (rw [e2, ups_n (by omega)]) <;> exact hF
  have t6 : σ1 92 4 = 0 := by (rw [e2, ups_n (by omega)]) <;> exact hFr
  have t7 : σ1 87 4 = 0 := by (rw [e2, ups_n (by omega)]) <;> exact hW4
  have t8 : σ1 86 5 = 0 := by (rw [e2, ups_n (by omega)]) <;> exact hT
  intro σ9 e10
  have t11 : σ9 86 7 = 0 := by (rw [e10, ups_n (by omega)]) <;> exact t3
  have t12 : σ9 86 8 = 0 := by (rw [e10, ups_n (by omega)]) <;> exact t4
  have t13 : σ9 86 12 = 0 := by (rw [e10, ups_n (by omega)]) <;> exact t5
  have t14 : σ9 92 4 = 0 := by (rw [e10, ups_n (by omega)]) <;> exact t6
  have t15 : σ9 87 4 = 0 := by (rw [e10, ups_n (by omega)]) <;> exact t7
  have t16 : σ9 86 5 = 0 := by rw [e10, ups_s]
  intro σ17 e18
  have t19 : σ17 86 7 = 0 := by (rw [e18, ups_n (by omega)]) <;> exact t11
  have t20 : σ17 86 8 = 0 := by rw [e18, ups_s]
  have t21 : σ17 86 12 = 0 := by (rw [e18, ups_n (by omega)]) <;> exact t13
  have t22 : σ17 92 4 = 0 := by (rw [e18, ups_n (by omega)]) <;> exact t14
  have t23 : σ17 87 4 = 0 := by (rw [e18, ups_n (by omega)]) <;> exact t15
  have t24 : σ17 86 5 = 0 := by (rw [e18, ups_n (by omega)]) <;> exact t16
  intro σ25 e26
  have t27 : σ25 86 7 = 0 := by (rw [e26, ups_n (by omega)]) <;> exact t19
  have t28 : σ25 86 8 = 0 := by (rw [e26, ups_n (by omega)]) <;> exact t20
  have t29 : σ25 86 12 = 0 := by rw [e26, ups_s]
  have t30 : σ25 92 4 = 0 := by (rw [e26, ups_n (by omega)]) <;> exact t22
  have t31 : σ25 87 4 = 0 := by (rw [e26, ups_n (by omega)]) <;> exact t23
  have t32 : σ25 86 5 = 0 := by (rw [e26, ups_n (by omega)]) <;> exact t24
  intro σ33 e34
  have t35 : σ33 86 7 = 0 := by (rw [e34, ups_n (by omega)]) <;> exact t27
  have t36 : σ33 86 8 = 0 := by (rw [e34, ups_n (by omega)]) <;> exact t28
  have t37 : σ33 86 12 = 0 := by (rw [e34, ups_n (by omega)]) <;> exact t29
  have t38 : σ33 92 4 = 0 := by (rw [e34, ups_n (by omega)]) <;> exact t30
  have t39 : σ33 87 4 = 0 := by (rw [e34, ups_n (by omega)]) <;> exact t31
  have t40 : σ33 86 5 = 0 := by (rw [e34, ups_n (by omega)]) <;> exact t32
  have lp_30 : ∀ (nq_ : Nat) (i : Int) (τ30 : Me_t), (τ30 86 7 = 0) → (τ30 86 8 = 0) → (τ30 86 12 = 0) → (τ30 92 4 = 0) → (τ30 87 4 = 0) → 0 ≤ i → i ≤ 495 → (495 - i).toNat < nq_ → WP_ X G Q 0 0 ad SHS_ τ30 30 [(42, 86), (0, i)] [] := by
    intro nq_
    induction nq_ with
    | zero => intros; omega
    | succ nq_ ih_30 =>
      intro i τ30 hi30_0 hi30_1 hi30_2 hi30_3 hi30_4 hlo30 hhi30 hm30
      refine B rfl ?_
      refine And.intro (fun h41 => ?_) (fun h41 => ?_)
      · skip
        refine B rfl ?_
        refine Exists.intro () (And.intro rfl (And.intro (And.intro hi30_0 hi30_1) ?_))
        intro z42 σ43 h44
        have c45 : σ43 86 10 = 0 := h44.2.1
        have c46 : σ43 86 12 = 0 := by rw [h44.2.2.1]; exact hi30_2
        have c47 : σ43 92 4 = 0 := by rw [h44.2.2.2 92 4 (by omega)]; exact hi30_3
        have c48 : σ43 87 4 = 0 := by rw [h44.2.2.2 87 4 (by omega)]; exact hi30_4
        refine Exists.intro () (And.intro rfl (And.intro (by simp only [pre_F_X11_good]; assumption) ?_))
        rintro _ _ ⟨rfl, rfl⟩
        refine And.intro (fun h52 => (by exfalso; omega)) (fun h52 => ?_)
        refine And.intro (fun h53 => ?_) (fun h53 => (by exfalso; omega))
        refine B rfl ?_
        refine Exists.intro () (And.intro rfl (And.intro (by simp only [pre_F_X11_good]; assumption) ?_))
        rintro _ _ ⟨rfl, rfl⟩
        refine And.intro (fun h57 => ?_) (fun h57 => (by exfalso; omega))
        refine B rfl ?_
        have lp_87 : ∀ (nq_ : Nat) (i2 : Int) (τ87 : Me_t), (τ87 92 4 = 0) → (τ87 87 4 = 0) → 0 ≤ i2 → i2 ≤ 495 → (495 - i2).toNat < nq_ → WP_ X G Q 0 0 ad SHS_ τ87 87 [(42, 86), (0, i2)] [] := by
          intro nq_
          induction nq_ with
          | zero => intros; omega
          | succ nq_ ih_87 =>
            intro i2 τ87 hi87_0 hi87_1 hlo87 hhi87 hm87
            refine B rfl ?_
            refine And.intro (fun h58 => ?_) (fun h58 => ?_)
            · skip
              refine B rfl ?_
              refine And.intro (by omega) ?_
              refine Exists.intro _ (And.intro rfl ?_)
              exact And.intro trivial hi87_1
            · skip
              refine And.intro (by omega) ?_
              refine And.intro (by omega) ?_
              intro σ59 e60
              have t61 : σ59 92 4 = 0 := by (rw [e60, ups_n (by omega)]) <;> exact hi87_0
              refine And.intro (by omega) ?_
              exact ih_87 _ σ59 (by rw [ups_of e60 (by omega)]; exact hi87_0) (ups_y e60 hi87_1 (fun q => by subst q; exact hi87_0)) (by omega) (by omega) (by omega)
        exact lp_87 ((495 - 0 : Int).toNat + 1) _ σ43 c47 c48 (by omega) (by omega) (by omega)
      · skip
        refine And.intro (by omega) ?_
        intro σ63 e64
        have t65 : σ63 86 7 = 0 := by (rw [e64, ups_n (by omega)]) <;> exact hi30_0
        have t66 : σ63 86 8 = 0 := by (rw [e64, ups_n (by omega)]) <;> exact hi30_1
        have t67 : σ63 86 12 = 0 := by (rw [e64, ups_n (by omega)]) <;> exact hi30_2
        have t69 : σ63 87 4 = 0 := by (rw [e64, ups_n (by omega)]) <;> exact hi30_4
        refine And.intro (by omega) ?_
        exact ih_30 _ σ63 (ups_z e64 hi30_0) (ups_z e64 hi30_1) (ups_z e64 hi30_2) (ups_z e64 hi30_3) (ups_z e64 hi30_4) (by omega) (by omega) (by omega)
  exact lp_30 ((495 - 0 : Int).toNat + 1) _ σ33 t35 t36 t37 t38 t39 (by omega) (by omega) (by omega)
