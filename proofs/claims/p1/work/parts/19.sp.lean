def as_S_J7_fill_d0a16 : Int × Int → List Sv_t := fun a => [(41, a.1), (1, a.2)]
def pre_S_J7_fill_d0a16 : Int × Int → Me_t → Prop := fun a σ => True
def post_S_J7_fill_d0a16 : Int × Int → Me_t → Int → Me_t → Prop := fun a σ z σ' => (∀ k j, k ≠ a.1 → σ' k j = σ k j) ∧ True
set_option maxHeartbeats 4000000 in
set_option maxRecDepth 100000 in
theorem ct_S_J7_fill_d0a16 (l : Launch) : CT_ l yJ7_fill_d0a16 cJ7_fill_d0a16 5 none 0 0 as_S_J7_fill_d0a16 (rmV_) pre_S_J7_fill_d0a16 post_S_J7_fill_d0a16 := by
  refine ct_of (by decide) (fun _ => Nat.le_of_ble_eq_true rfl) ?_
  intro X G Q ad σ a hl hR E hG R hM hv hp
  obtain ⟨o, v⟩ := a
  have r_v : -9223372036854775808 ≤ v ∧ v ≤ 9223372036854775807 := hv (1, v) (List.mem_of_getElem? (i := 1) rfl)
  have B := @bk_ X G Q 0 0 ad SHS_ RJ7 cJ7_fill_d0a16 5 none flJ7 plJ7 knJ7 [] _ _ none kJ7_fill_d0a16 [6] flJ7_ok plJ7_ok knJ7_ok eJ7_fill_d0a16 oJ7_fill_d0a16
    (fun _ h => absurd h List.not_mem_nil) R sok_no E
  show WP_ X G Q 0 0 ad SHS_ σ 0 [(41, o), (1, v), (9, 0), (9, 0), (9, 0)] []
  refine B rfl ?_
  have lp_6 : ∀ (nq_ : Nat) (i : Int) (τ6 : Me_t), (∀ k j, k ≠ o → τ6 k j = σ k j) → 0 ≤ i → i ≤ 60 → (60 - i).toNat < nq_ → WP_ X G Q 0 0 ad SHS_ τ6 6 [(41, o), (1, v), (9, 0), (0, i), (0, 60)] [] := by
    intro nq_
    induction nq_ with
    | zero => intros; omega
    | succ nq_ ih_6 =>
      intro i τ6 hi6_0 hlo6 hhi6 hm6
      refine B rfl ?_
      refine And.intro (fun h1 => ?_) (fun h1 => ?_)
      · skip
        refine B rfl ?_
        refine Exists.intro 0 (And.intro rfl ?_)
        exact And.intro (fun k j hk => by rw [hi6_0 k j hk]) trivial
      · skip
        refine And.intro (by omega) ?_
        intro σ2 e3
        refine And.intro (by omega) ?_
        exact ih_6 _ σ2 (fun k j hk => by rw [st_n e3 (by omega), hi6_0 k j hk]) (by omega) (by omega) (by omega)
  exact lp_6 ((60 - 0 : Int).toNat + 1) _ σ (fun k j hk => rfl) (by omega) (by omega) (by omega)
def as_S_X4_renew : Int × Int × Int → List Sv_t := fun a => [(40, a.1), (0, a.2.1), (0, a.2.2)]
def pre_S_X4_renew : Int × Int × Int → Me_t → Prop := fun a σ => True
def post_S_X4_renew : Int × Int × Int → Me_t → Int → Me_t → Prop := fun a σ z σ' => (∀ k j, (k ≠ a.1 ∧ k ≠ a.1 + 1) → σ' k j = σ k j) ∧ True
set_option maxHeartbeats 4000000 in
set_option maxRecDepth 100000 in
theorem ct_S_X4_renew (l : Launch) : CT_ l yX4_renew cX4_renew 3 none 1 24 as_S_X4_renew (rmV_) pre_S_X4_renew post_S_X4_renew := by
  refine ct_of (by decide) (fun _ => Nat.le_refl _) ?_
  intro X G Q ad σ a hl hR E hG R hM hv hp
  obtain ⟨o, w, n⟩ := a
  have r_w : -2147483648 ≤ w ∧ w ≤ 2147483647 := hv (0, w) (List.mem_of_getElem? (i := 1) rfl)
  have r_n : -2147483648 ≤ n ∧ n ≤ 2147483647 := hv (0, n) (List.mem_of_getElem? (i := 2) rfl)
  have B := @bk_ X G Q 0 0 ad SHS_ RX4 cX4_renew 3 none flX4 plX4 knX4 [(53, 2, TR_ as_S_J7_fill_d0a16 (rmV_) pre_S_J7_fill_d0a16 post_S_J7_fill_d0a16)] _ _ none kX4_renew [] flX4_ok plX4_ok knX4_ok eX4_renew oX4_renew
    (List.forall_mem_cons.mpr ⟨cok_s (n := 2) (idx := 26) E (ct_S_J7_fill_d0a16 X.2.1) (by rw [hR]; decide) (Nat.zero_le _) (Nat.zero_le _) hG ⟨by decide, by decide, by decide⟩ (fun _ => rfl) wl_X4_26 wt_J7_fill_d0a16 wn_J7 wc_J7_fill_d0a16, fun _ h => absurd h List.not_mem_nil⟩) R sok_no E
  show WP_ X G Q 0 0 ad SHS_ σ 0 [(40, o), (0, w), (0, n)] []
  refine B rfl ?_
  refine And.intro (by omega) ?_
  intro σ1 e2
  intro σ3 e4
  intro σ5 e6
  refine Exists.intro (o + 1, 0) (And.intro rfl (And.intro trivial ?_))
  intro z7 σ8 h9
  refine Exists.intro 0 (And.intro rfl ?_)
  exact And.intro (fun k j hk => by rw [h9.1 k j (by omega), st_n e6 (by omega), st_n e4 (by omega), st_n e2 (by omega)]) trivial
def as_S_X10_row : Int × Int × Int → List Sv_t := fun a => [(10, 0), (0, a.1), (0, a.2.1), (0, a.2.2)]
def pre_S_X10_row : Int × Int × Int → Me_t → Prop := fun a σ => FX_ σ
def post_S_X10_row : Int × Int × Int → Me_t → Int → Me_t → Prop := fun a σ z σ' => (∀ k j, 86 ≤ k → σ' k j = σ k j) ∧ (((0 ≤ a.1 ∧ a.1 < 4) ∧ (0 ≤ a.2.1 ∧ a.2.1 < 4) ∧ a.2.2 ≤ 60) → a.2.2 < 0 → z = -3) ∧ (((0 ≤ a.1 ∧ a.1 < 4) ∧ (0 ≤ a.2.1 ∧ a.2.1 < 4) ∧ a.2.2 ≤ 60) → 0 ≤ a.2.2 → z = 0) ∧ (¬ ((0 ≤ a.1 ∧ a.1 < 4) ∧ (0 ≤ a.2.1 ∧ a.2.1 < 4) ∧ a.2.2 ≤ 60) → z = -2)
set_option maxHeartbeats 4000000 in
set_option maxRecDepth 100000 in
theorem ct_S_X10_row (l : Launch) : CT_ l yX10_row cX10_row 4 (some .int) 2 46 as_S_X10_row (rmI_) pre_S_X10_row post_S_X10_row := by
  refine ct_of (by decide) (fun _ => Nat.le_refl _) ?_
  intro X G Q ad σ a hl hR E hG R hM hv hp
  obtain ⟨s, w, n⟩ := a
  have r_s : -2147483648 ≤ s ∧ s ≤ 2147483647 := hv (0, s) (List.mem_of_getElem? (i := 1) rfl)
  have r_w : -2147483648 ≤ w ∧ w ≤ 2147483647 := hv (0, w) (List.mem_of_getElem? (i := 2) rfl)
  have r_n : -2147483648 ≤ n ∧ n ≤ 2147483647 := hv (0, n) (List.mem_of_getElem? (i := 3) rfl)
  have B := @bk_ X G Q 0 0 ad SHS_ RX10 cX10_row 4 (some .int) flX10 plX10 knX10 [(797, 1, TR_ as_F_X10_isSlot (rmI_) pre_F_X10_isSlot post_F_X10_isSlot), (802, 3, TR_ as_S_X4_renew (rmV_) pre_S_X4_renew post_S_X4_renew)] _ _ none kX10_row [] flX10_ok plX10_ok knX10_ok eX10_row oX10_row
    (List.forall_mem_cons.mpr ⟨cok_s (n := 1) (idx := 398) E (ct_F_X10_isSlot X.2.1) (by rw [hR]; decide) (Nat.zero_le _) (Nat.zero_le _) hG ⟨by decide, by decide, by decide⟩ (fun _ => rfl) wl_X10_398 wt_X10_isSlot wn_X10 wc_X10_isSlot, List.forall_mem_cons.mpr ⟨cok_v (t := 30) (c := 4) (N := 4) (n := 2) (idx := 401) E (ct_S_X4_renew X.2.1) (by rw [hR]; decide) (Nat.zero_le _) (Nat.zero_le _) hG rfl rfl ⟨rfl, by decide, by decide, by decide⟩ (fun _ => ⟨_, _, rfl, rfl⟩) wl_X10_401 wi_X4_renew ws_X4_renew wn_X4 wc_X4_renew, fun _ h => absurd h List.not_mem_nil⟩⟩) R sok_no E
  show WP_ X G Q 0 0 ad SHS_ σ 0 [(10, 0), (0, s), (0, w), (0, n)] []
  have hp : FX_ σ := hp
  obtain ⟨hC, hS, hN0, hN1, hN2, hN3, hN4, hN5, hF, hP, hT, hI, hRW⟩ := id hp
  refine B rfl ?_
  refine Exists.intro s (And.intro rfl (And.intro trivial ?_))
  rintro z1 _ ⟨rfl, h3⟩
  try dsimp only at h3
  refine And.intro (fun h4 => ?_) (fun h4 => ?_)
  · skip
    refine B rfl ?_
    refine Exists.intro _ (And.intro rfl ?_)
    refine And.intro (fun k j hk => rfl) ?_
    (try dsimp only)
    omega
  · skip
    refine And.intro (fun h5 => ?_) (fun h5 => ?_)
    · skip
      refine B rfl ?_
      refine Exists.intro _ (And.intro rfl ?_)
      refine And.intro (fun k j hk => rfl) ?_
      (try dsimp only)
      omega
    · skip
      refine And.intro (fun h6 => ?_) (fun h6 => ?_)
      · skip
        refine B rfl ?_
        refine Exists.intro _ (And.intro rfl ?_)
        refine And.intro (fun k j hk => rfl) ?_
        (try dsimp only)
        omega
      · skip
        refine And.intro (fun h7 => ?_) (fun h7 => ?_)
        · skip
          refine B rfl ?_
          refine And.intro (fun h8 => ?_) (fun h8 => ?_)
          · skip
            refine B rfl ?_
            refine And.intro (by omega) ?_
            refine Exists.intro (78 + 2 * s, w, n) (And.intro rfl (And.intro trivial ?_))
            intro z9 σ10 h11
            refine Exists.intro _ (And.intro rfl ?_)
            refine And.intro (fun k j hk => by rw [h11.1 k j (by omega)]) ?_
            (try dsimp only)
            omega
          · skip
            refine Exists.intro _ (And.intro rfl ?_)
            refine And.intro (fun k j hk => rfl) ?_
            (try dsimp only)
            omega
        · skip
          refine Exists.intro _ (And.intro rfl ?_)
          refine And.intro (fun k j hk => rfl) ?_
          (try dsimp only)
          omega
def as_S_X10_write : Int × Int × Int → List Sv_t := fun a => [(10, 0), (0, a.1), (0, a.2.1), (1, a.2.2)]
def pre_S_X10_write : Int × Int × Int → Me_t → Prop := fun a σ => FX_ σ
def post_S_X10_write : Int × Int × Int → Me_t → Int → Me_t → Prop := fun a σ z σ' => (∀ k j, 86 ≤ k → σ' k j = σ k j) ∧ (0 ≤ a.1 ∧ a.1 < 4 → z = -6) ∧ (¬ (0 ≤ a.1 ∧ a.1 < 4) → z = -2)
set_option maxHeartbeats 4000000 in
set_option maxRecDepth 100000 in
theorem ct_S_X10_write (l : Launch) : CT_ l yX10_write cX10_write 6 (some .int) 1 22 as_S_X10_write (rmI_) pre_S_X10_write post_S_X10_write := by
  refine ct_of (by decide) (fun _ => Nat.le_of_ble_eq_true rfl) ?_
  intro X G Q ad σ a hl hR E hG R hM hv hp
  obtain ⟨s, i, v⟩ := a
  have r_s : -2147483648 ≤ s ∧ s ≤ 2147483647 := hv (0, s) (List.mem_of_getElem? (i := 1) rfl)
  have r_i : -2147483648 ≤ i ∧ i ≤ 2147483647 := hv (0, i) (List.mem_of_getElem? (i := 2) rfl)
  have r_v : -9223372036854775808 ≤ v ∧ v ≤ 9223372036854775807 := hv (1, v) (List.mem_of_getElem? (i := 3) rfl)
  have B := @bk_ X G Q 0 0 ad SHS_ RX10 cX10_write 6 (some .int) flX10 plX10 knX10 [(797, 1, TR_ as_F_X10_isSlot (rmI_) pre_F_X10_isSlot post_F_X10_isSlot)] _ _ none kX10_write [] flX10_ok plX10_ok knX10_ok eX10_write oX10_write
    (List.forall_mem_cons.mpr ⟨cok_s (n := 1) (idx := 398) E (ct_F_X10_isSlot X.2.1) (by rw [hR]; decide) (Nat.zero_le _) (Nat.zero_le _) hG ⟨by decide, by decide, by decide⟩ (fun _ => rfl) wl_X10_398 wt_X10_isSlot wn_X10 wc_X10_isSlot, fun _ h => absurd h List.not_mem_nil⟩) R sok_no E
  show WP_ X G Q 0 0 ad SHS_ σ 0 [(10, 0), (0, s), (0, i), (1, v), (9, 0), (9, 0)] []
  have hp : FX_ σ := hp
  obtain ⟨hC, hS, hN0, hN1, hN2, hN3, hN4, hN5, hF, hP, hT, hI, hRW⟩ := id hp
  refine B rfl ?_
  refine Exists.intro s (And.intro rfl (And.intro trivial ?_))
  rintro z1 _ ⟨rfl, h3⟩
  try dsimp only at h3
  refine And.intro (fun h4 => ?_) (fun h4 => ?_)
  · skip
    refine B rfl ?_
    refine And.intro (by omega) ?_
    have hmade := hRW s (by omega) (by omega)
    refine And.intro (fun h5 => (by exfalso; omega)) (fun h5 => ?_)
    refine Exists.intro _ (And.intro rfl ?_)
    refine And.intro (fun k j hk => rfl) ?_
    (try dsimp only)
    omega
  · skip
    refine Exists.intro _ (And.intro rfl ?_)
    refine And.intro (fun k j hk => rfl) ?_
    (try dsimp only)
    omega
def as_S_X10_paste : Int × Int × Int × Int × Int → List Sv_t := fun a => [(10, 0), (0, a.1), (0, a.2.1), (0, a.2.2.1), (0, a.2.2.2.1), (0, a.2.2.2.2)]
def pre_S_X10_paste : Int × Int × Int × Int × Int → Me_t → Prop := fun a σ => FX_ σ
def post_S_X10_paste : Int × Int × Int × Int × Int → Me_t → Int → Me_t → Prop := fun a σ z σ' => (∀ k j, 86 ≤ k → σ' k j = σ k j) ∧ (((0 ≤ a.1 ∧ a.1 < 4) ∧ (0 ≤ a.2.2.1 ∧ a.2.2.1 < 4)) → z = -6) ∧ (¬ ((0 ≤ a.1 ∧ a.1 < 4) ∧ (0 ≤ a.2.2.1 ∧ a.2.2.1 < 4)) → z = -2)
set_option maxHeartbeats 4000000 in
set_option maxRecDepth 100000 in
theorem ct_S_X10_paste (l : Launch) : CT_ l yX10_paste cX10_paste 8 (some .int) 1 40 as_S_X10_paste (rmI_) pre_S_X10_paste post_S_X10_paste := by
  refine ct_of (by decide) (fun _ => Nat.le_of_ble_eq_true rfl) ?_
  intro X G Q ad σ a hl hR E hG R hM hv hp
  obtain ⟨s, i, t, p, n⟩ := a
  have r_s : -2147483648 ≤ s ∧ s ≤ 2147483647 := hv (0, s) (List.mem_of_getElem? (i := 1) rfl)
  have r_i : -2147483648 ≤ i ∧ i ≤ 2147483647 := hv (0, i) (List.mem_of_getElem? (i := 2) rfl)
  have r_t : -2147483648 ≤ t ∧ t ≤ 2147483647 := hv (0, t) (List.mem_of_getElem? (i := 3) rfl)
  have r_p : -2147483648 ≤ p ∧ p ≤ 2147483647 := hv (0, p) (List.mem_of_getElem? (i := 4) rfl)
  have r_n : -2147483648 ≤ n ∧ n ≤ 2147483647 := hv (0, n) (List.mem_of_getElem? (i := 5) rfl)
  have B := @bk_ X G Q 0 0 ad SHS_ RX10 cX10_paste 8 (some .int) flX10 plX10 knX10 [(797, 1, TR_ as_F_X10_isSlot (rmI_) pre_F_X10_isSlot post_F_X10_isSlot)] _ _ none kX10_paste [] flX10_ok plX10_ok knX10_ok eX10_paste oX10_paste
    (List.forall_mem_cons.mpr ⟨cok_s (n := 1) (idx := 398) E (ct_F_X10_isSlot X.2.1) (by rw [hR]; decide) (Nat.zero_le _) (Nat.zero_le _) hG ⟨by decide, by decide, by decide⟩ (fun _ => rfl) wl_X10_398 wt_X10_isSlot wn_X10 wc_X10_isSlot, fun _ h => absurd h List.not_mem_nil⟩) R sok_no E
  show WP_ X G Q 0 0 ad SHS_ σ 0 [(10, 0), (0, s), (0, i), (0, t), (0, p), (0, n), (9, 0), (9, 0)] []
  have hp : FX_ σ := hp
  obtain ⟨hC, hS, hN0, hN1, hN2, hN3, hN4, hN5, hF, hP, hT, hI, hRW⟩ := id hp
  refine B rfl ?_
  refine Exists.intro s (And.intro rfl (And.intro trivial ?_))
  rintro z1 _ ⟨rfl, h3⟩
  try dsimp only at h3
  refine And.intro (fun h4 => ?_) (fun h4 => ?_)
  · skip
    refine B rfl ?_
    refine Exists.intro _ (And.intro rfl ?_)
    refine And.intro (fun k j hk => rfl) ?_
    (try dsimp only)
    omega
  · skip
    refine Exists.intro t (And.intro rfl (And.intro trivial ?_))
    rintro z5 _ ⟨rfl, h7⟩
    try dsimp only at h7
    refine And.intro (fun h8 => ?_) (fun h8 => ?_)
    · skip
      refine B rfl ?_
      refine And.intro (by omega) ?_
      refine And.intro (by omega) ?_
      have hmade := hRW s (by omega) (by omega)
      refine And.intro (fun h9 => ?_) (fun h9 => (by exfalso; omega))
      refine B rfl ?_
      refine Exists.intro _ (And.intro rfl ?_)
      refine And.intro (fun k j hk => rfl) ?_
      (try dsimp only)
      omega
    · skip
      refine Exists.intro _ (And.intro rfl ?_)
      refine And.intro (fun k j hk => rfl) ?_
      (try dsimp only)
      omega
def as_S_X10_back : Int → List Sv_t := fun a => [(10, 0), (0, a)]
def pre_S_X10_back : Int → Me_t → Prop := fun a σ => FX_ σ
def post_S_X10_back : Int → Me_t → Int → Me_t → Prop := fun a σ z σ' => (∀ k j, 86 ≤ k → σ' k j = σ k j) ∧ (0 ≤ a ∧ a ≤ 2 → z = -6) ∧ (¬ (0 ≤ a ∧ a ≤ 2) → z = -2)
set_option maxHeartbeats 4000000 in
set_option maxRecDepth 100000 in
theorem ct_S_X10_back (l : Launch) : CT_ l yX10_back cX10_back 2 (some .int) 3 83 as_S_X10_back (rmI_) pre_S_X10_back post_S_X10_back := by
  refine ct_of (by decide) (fun _ => Nat.le_refl _) ?_
  intro X G Q ad σ a hl hR E hG R hM hv hp
  obtain ⟨n, rfl⟩ : ∃ q : Int, q = a := ⟨_, rfl⟩
  have r_n : -2147483648 ≤ n ∧ n ≤ 2147483647 := hv (0, n) (List.mem_of_getElem? (i := 1) rfl)
  have B := @bk_ X G Q 0 0 ad SHS_ RX10 cX10_back 2 (some .int) flX10 plX10 knX10 [] _ _ none kX10_back [] flX10_ok plX10_ok knX10_ok eX10_back oX10_back
    (fun _ h => absurd h List.not_mem_nil) R sok_no E
  show WP_ X G Q 0 0 ad SHS_ σ 0 [(10, 0), (0, n)] []
  have hp : FX_ σ := hp
  obtain ⟨hC, hS, hN0, hN1, hN2, hN3, hN4, hN5, hF, hP, hT, hI, hRW⟩ := id hp
  refine B rfl ?_
  refine And.intro (fun h1 => ?_) (fun h1 => ?_)
  · skip
    refine B rfl ?_
    refine Exists.intro _ (And.intro rfl ?_)
    refine And.intro (fun k j hk => rfl) ?_
    (try dsimp only)
    omega
  · skip
    refine And.intro (fun h2 => ?_) (fun h2 => ?_)
    · skip
      refine B rfl ?_
      have him := hI n (by omega) (by omega)
      refine And.intro (by omega) ?_
      refine And.intro (fun h3 => (by exfalso; omega)) (fun h3 => ?_)
      refine Exists.intro _ (And.intro rfl ?_)
      refine And.intro (fun k j hk => rfl) ?_
      (try dsimp only)
      omega
    · skip
      refine Exists.intro _ (And.intro rfl ?_)
      refine And.intro (fun k j hk => rfl) ?_
      (try dsimp only)
      omega
def as_S_X10_fault : Int → List Sv_t := fun a => [(10, 0), (0, a)]
def pre_S_X10_fault : Int → Me_t → Prop := fun a σ => FX_ σ
def post_S_X10_fault : Int → Me_t → Int → Me_t → Prop := fun a σ z σ' => (∀ k j, 86 ≤ k → σ' k j = σ k j) ∧ (a = 0 → z = 0) ∧ (¬ a = 0 → z = -1)
set_option maxHeartbeats 4000000 in
set_option maxRecDepth 100000 in
theorem ct_S_X10_fault (l : Launch) : CT_ l yX10_fault cX10_fault 2 (some .int) 0 0 as_S_X10_fault (rmI_) pre_S_X10_fault post_S_X10_fault := by
  refine ct_of (by decide) (fun _ => Nat.le_refl _) ?_
  intro X G Q ad σ a hl hR E hG R hM hv hp
  obtain ⟨n, rfl⟩ : ∃ q : Int, q = a := ⟨_, rfl⟩
  have r_n : -2147483648 ≤ n ∧ n ≤ 2147483647 := hv (0, n) (List.mem_of_getElem? (i := 1) rfl)
  have B := @bk_ X G Q 0 0 ad SHS_ RX10 cX10_fault 2 (some .int) flX10 plX10 knX10 [] _ _ none kX10_fault [] flX10_ok plX10_ok knX10_ok eX10_fault oX10_fault
    (fun _ h => absurd h List.not_mem_nil) R sok_no E
  show WP_ X G Q 0 0 ad SHS_ σ 0 [(10, 0), (0, n)] []
  have hp : FX_ σ := hp
  obtain ⟨hC, hS, hN0, hN1, hN2, hN3, hN4, hN5, hF, hP, hT, hI, hRW⟩ := id hp
  refine B rfl ?_
  refine And.intro (fun h1 => ?_) (fun h1 => ?_)
  · skip
    refine B rfl ?_
    refine And.intro (fun h2 => ?_) (fun h2 => ?_)
    · skip
      refine B rfl ?_
      refine Exists.intro _ (And.intro rfl ?_)
      refine And.intro (fun k j hk => rfl) ?_
      (try dsimp only)
      omega
    · skip
      refine B rfl ?_
      refine Exists.intro _ (And.intro rfl ?_)
      refine And.intro (fun k j hk => rfl) ?_
      (try dsimp only)
      omega
  · skip
    refine Exists.intro _ (And.intro rfl ?_)
    refine And.intro (fun k j hk => rfl) ?_
    (try dsimp only)
    omega
def as_S_X10_end : Int → List Sv_t := fun a => [(10, 0), (0, a)]
def pre_S_X10_end : Int → Me_t → Prop := fun a σ => FX_ σ
def post_S_X10_end : Int → Me_t → Int → Me_t → Prop := fun a σ z σ' => (∀ k j, 86 ≤ k → σ' k j = σ k j) ∧ (a = 0 → z = 0) ∧ (¬ a = 0 → z = -1)
set_option maxHeartbeats 4000000 in
set_option maxRecDepth 100000 in
theorem ct_S_X10_end (l : Launch) : CT_ l yX10_end cX10_end 2 (some .int) 0 0 as_S_X10_end (rmI_) pre_S_X10_end post_S_X10_end := by
  refine ct_of (by decide) (fun _ => Nat.le_refl _) ?_
  intro X G Q ad σ a hl hR E hG R hM hv hp
  obtain ⟨n, rfl⟩ : ∃ q : Int, q = a := ⟨_, rfl⟩
  have r_n : -2147483648 ≤ n ∧ n ≤ 2147483647 := hv (0, n) (List.mem_of_getElem? (i := 1) rfl)
  have B := @bk_ X G Q 0 0 ad SHS_ RX10 cX10_end 2 (some .int) flX10 plX10 knX10 [] _ _ none kX10_end [] flX10_ok plX10_ok knX10_ok eX10_end oX10_end
    (fun _ h => absurd h List.not_mem_nil) R sok_no E
  show WP_ X G Q 0 0 ad SHS_ σ 0 [(10, 0), (0, n)] []
  have hp : FX_ σ := hp
  obtain ⟨hC, hS, hN0, hN1, hN2, hN3, hN4, hN5, hF, hP, hT, hI, hRW⟩ := id hp
  refine B rfl ?_
  refine And.intro (fun h1 => ?_) (fun h1 => ?_)
  · skip
    refine B rfl ?_
    refine Exists.intro _ (And.intro rfl ?_)
    refine And.intro (fun k j hk => rfl) ?_
    (try dsimp only)
    omega
  · skip
    refine And.intro (fun h2 => ?_) (fun h2 => ?_)
    · skip
      refine B rfl ?_
      intro σ3 e4
      refine Exists.intro _ (And.intro rfl ?_)
      refine And.intro (fun k j hk => by rw [st_n e4 (by omega)]) ?_
      (try dsimp only)
      omega
    · skip
      refine Exists.intro _ (And.intro rfl ?_)
      refine And.intro (fun k j hk => rfl) ?_
      (try dsimp only)
      omega
def as_S_X10_slotsWithRow : Unit → List Sv_t := fun a => [(10, 0)]
def pre_S_X10_slotsWithRow : Unit → Me_t → Prop := fun a σ => FX_ σ
def post_S_X10_slotsWithRow : Unit → Me_t → Int → Me_t → Prop := fun a σ z σ' => (∀ k j, 0 ≤ k → σ' k j = σ k j) ∧ z = 0
set_option maxHeartbeats 4000000 in
set_option maxRecDepth 100000 in
theorem ct_S_X10_slotsWithRow (l : Launch) : CT_ l yX10_slotsWithRow cX10_slotsWithRow 3 (some .int) 0 0 as_S_X10_slotsWithRow (rmI_) pre_S_X10_slotsWithRow post_S_X10_slotsWithRow := by
  refine ct_of (by decide) (fun _ => Nat.le_of_ble_eq_true rfl) ?_
  intro X G Q ad σ a hl hR E hG R hM hv hp
  have B := @bk_ X G Q 0 0 ad SHS_ RX10 cX10_slotsWithRow 3 (some .int) flX10 plX10 knX10 [] _ _ none kX10_slotsWithRow [4] flX10_ok plX10_ok knX10_ok eX10_slotsWithRow oX10_slotsWithRow
    (fun _ h => absurd h List.not_mem_nil) R sok_no E
  show WP_ X G Q 0 0 ad SHS_ σ 0 [(10, 0), (9, 0), (9, 0)] []
  have hp : FX_ σ := hp
  obtain ⟨hC, hS, hN0, hN1, hN2, hN3, hN4, hN5, hF, hP, hT, hI, hRW⟩ := id hp
  refine B rfl ?_
  have lp_4 : ∀ (nq_ : Nat) (i : Int) (τ4 : Me_t), (∀ k j, 0 ≤ k → τ4 k j = σ k j) → 0 ≤ i → i ≤ 4 → (4 - i).toNat < nq_ → WP_ X G Q 0 0 ad SHS_ τ4 4 [(10, 0), (0, 0), (0, i)] [] := by
    intro nq_
    induction nq_ with
    | zero => intros; omega
    | succ nq_ ih_4 =>
      intro i τ4 hi4_0 hlo4 hhi4 hm4
      refine B rfl ?_
      refine And.intro (fun h1 => ?_) (fun h1 => ?_)
      · skip
        refine B rfl ?_
        refine Exists.intro _ (And.intro rfl ?_)
        exact And.intro (fun k j hk => hi4_0 k j hk) rfl
      · skip
        have hmade := hRW i (by omega) (by omega)
        have hmad2 := hi4_0 (78 + 2 * i) 1 (by omega)
        refine And.intro (by omega) ?_
        refine And.intro (fun h2 => ?_) (fun h2 => (by exfalso; omega))
        refine B rfl ?_
        refine And.intro (by omega) ?_
        exact ih_4 _ τ4 hi4_0 (by omega) (by omega) (by omega)
  exact lp_4 ((4 - 0 : Int).toNat + 1) _ σ (fun k j hk => rfl) (by omega) (by omega) (by omega)
def as_S_X10_count : Int → List Sv_t := fun a => [(10, 0), (0, a)]
def pre_S_X10_count : Int → Me_t → Prop := fun a σ => FX_ σ
def post_S_X10_count : Int → Me_t → Int → Me_t → Prop := fun a σ z σ' => (∀ k j, 86 ≤ k → σ' k j = σ k j) ∧ (0 ≤ a ∧ a ≤ 7 → z = 0) ∧ (¬ (0 ≤ a ∧ a ≤ 7) → z = -1)
set_option maxHeartbeats 4000000 in
set_option maxRecDepth 100000 in
theorem ct_S_X10_count (l : Launch) : CT_ l yX10_count cX10_count 2 (some .int) 1 22 as_S_X10_count (rmI_) pre_S_X10_count post_S_X10_count := by
  refine ct_of (by decide) (fun _ => Nat.le_refl _) ?_
  intro X G Q ad σ a hl hR E hG R hM hv hp
  obtain ⟨n, rfl⟩ : ∃ q : Int, q = a := ⟨_, rfl⟩
  have r_n : -2147483648 ≤ n ∧ n ≤ 2147483647 := hv (0, n) (List.mem_of_getElem? (i := 1) rfl)
  have B := @bk_ X G Q 0 0 ad SHS_ RX10 cX10_count 2 (some .int) flX10 plX10 knX10 [(782, 1, TR_ as_S_X10_slotsWithRow (rmI_) pre_S_X10_slotsWithRow post_S_X10_slotsWithRow)] _ _ none kX10_count [] flX10_ok plX10_ok knX10_ok eX10_count oX10_count
    (List.forall_mem_cons.mpr ⟨cok_v (t := 0) (c := 10) (N := 14) (n := 0) (idx := 391) E (ct_S_X10_slotsWithRow X.2.1) (by rw [hR]; decide) (Nat.zero_le _) (Nat.zero_le _) hG rfl rfl ⟨rfl, by decide, by decide, by decide⟩ (fun _ => ⟨_, _, rfl, rfl⟩) wl_X10_391 wi_X10_slotsWithRow ws_X10_slotsWithRow wn_X10 wc_X10_slotsWithRow, fun _ h => absurd h List.not_mem_nil⟩) R sok_no E
  show WP_ X G Q 0 0 ad SHS_ σ 0 [(10, 0), (0, n)] []
  have hp : FX_ σ := hp
  obtain ⟨hC, hS, hN0, hN1, hN2, hN3, hN4, hN5, hF, hP, hT, hI, hRW⟩ := id hp
  refine B rfl ?_
  refine And.intro (fun h1 => ?_) ?_
  · skip
    refine B rfl ?_
    refine Exists.intro _ (And.intro rfl ?_)
    refine And.intro (fun k j hk => rfl) ?_
    (try dsimp only)
    omega
  refine And.intro (fun h1 => ?_) ?_
  · skip
    refine B rfl ?_
    refine Exists.intro _ (And.intro rfl ?_)
    refine And.intro (fun k j hk => rfl) ?_
    (try dsimp only)
    omega
  refine And.intro (fun h1 => ?_) ?_
  · skip
    refine B rfl ?_
    refine Exists.intro _ (And.intro rfl ?_)
    refine And.intro (fun k j hk => rfl) ?_
    (try dsimp only)
    omega
  refine And.intro (fun h1 => ?_) ?_
  · skip
    refine B rfl ?_
    refine Exists.intro _ (And.intro rfl ?_)
    refine And.intro (fun k j hk => rfl) ?_
    (try dsimp only)
    omega
  refine And.intro (fun h1 => ?_) ?_
  · skip
    refine B rfl ?_
    refine Exists.intro _ (And.intro rfl ?_)
    refine And.intro (fun k j hk => rfl) ?_
    (try dsimp only)
    omega
  refine And.intro (fun h1 => ?_) ?_
  · skip
    refine B rfl ?_
    refine Exists.intro _ (And.intro rfl ?_)
    refine And.intro (fun k j hk => rfl) ?_
    (try dsimp only)
    omega
  refine And.intro (fun h1 => ?_) ?_
  · skip
    refine B rfl ?_
    refine Exists.intro _ (And.intro rfl ?_)
    refine And.intro (fun k j hk => rfl) ?_
    (try dsimp only)
    omega
  refine And.intro (fun h1 => ?_) ?_
  · skip
    refine B rfl ?_
    refine Exists.intro _ (And.intro rfl ?_)
    refine And.intro (fun k j hk => rfl) ?_
    (try dsimp only)
    omega
  refine And.intro (fun h1 => ?_) ?_
  · skip
    refine B rfl ?_
    refine Exists.intro () (And.intro rfl (And.intro hp ?_))
    intro z2 σ3 h4
    have hz := h4.2
    refine Exists.intro _ (And.intro rfl ?_)
    refine And.intro (fun k j hk => by rw [h4.1 k j (by omega)]) ?_
    (try dsimp only)
    omega
  exact True.intro
