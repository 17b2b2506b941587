def as_G_X10_isSpan : Int × Int → List Sv_t := fun a => [(0, a.1), (0, a.2)]
def pre_G_X10_isSpan : Int × Int → Me_t → Prop := fun a σ => True
def post_G_X10_isSpan : Int × Int → Me_t → Int → Me_t → Prop := fun a σ z σ' => ((z = 1 ∧ 0 ≤ a.1 ∧ a.1 ≤ a.2 ∧ a.2 ≤ 1999) ∨ z = 0) ∧ (σ = σ')
set_option maxHeartbeats 1500000 in
set_option maxRecDepth 100000 in
theorem ct_G_X10_isSpan (l : Launch) : CT_ l yX10_isSpan cX10_isSpan 2 (some .boolean) 1 20 as_G_X10_isSpan (rmI_) pre_G_X10_isSpan post_G_X10_isSpan := by
  refine ct_of (by decide) (fun _ => Nat.le_of_ble_eq_true rfl) ?_
  intro X G Q ad σ a hl hR E hG R hM hv hp
  obtain ⟨a0, a1⟩ := a
  have r_a0 : -2147483648 ≤ a0 ∧ a0 ≤ 2147483647 := hv (0, a0) (List.mem_of_getElem? (i := 0) rfl)
  have r_a1 : -2147483648 ≤ a1 ∧ a1 ≤ 2147483647 := hv (0, a1) (List.mem_of_getElem? (i := 1) rfl)
  have B := @bk_ X G Q 0 0 ad SHS_ RX10 cX10_isSpan 2 (some .boolean) flX10 plX10 knX10 [(603, 1, TR_ as_G_X10_isDay (rmI_) pre_G_X10_isDay post_G_X10_isDay)] _ _ none kX10_isSpan [] flX10_ok plX10_ok knX10_ok eX10_isSpan oX10_isSpan
    (List.forall_mem_cons.mpr ⟨cok_s (n := 1) (idx := 301) E (ct_G_X10_isDay X.2.1) (by rw [hR]; decide) (Nat.zero_le _) (Nat.zero_le _) hG ⟨by decide, by decide, by decide⟩ (fun _ => rfl) wl_X10_301 wt_X10_isDay wn_X10 wc_X10_isDay, fun _ h => absurd h List.not_mem_nil⟩) R sok_no E
  show WP_ X G Q 0 0 ad SHS_ σ 0 [(0, a0), (0, a1)] []
  refine B rfl ?_
  refine Exists.intro a0 (And.intro rfl (And.intro True.intro ?_))
  rintro z1 m_ h2
  obtain rfl : σ = m_ := h2.2
  have h3 : (z1 = 1 ∧ 0 ≤ a0 ∧ a0 ≤ 1999) ∨ z1 = 0 := h2.1
  refine And.intro (fun h4 => ?_) (fun h4 => ?_)
  · skip
    refine B rfl ?_
    refine And.intro (by omega) ?_
    refine Exists.intro _ (And.intro rfl ?_)
    exact (And.intro (by show (0 = 1 ∧ 0 ≤ a0 ∧ a0 ≤ a1 ∧ a1 ≤ 1999) ∨ 0 = 0; omega) rfl)
  · skip
    refine Exists.intro a1 (And.intro rfl (And.intro True.intro ?_))
    rintro z5 m_ h6
    obtain rfl : σ = m_ := h6.2
    have h7 : (z5 = 1 ∧ 0 ≤ a1 ∧ a1 ≤ 1999) ∨ z5 = 0 := h6.1
    refine And.intro (fun h8 => ?_) (fun h8 => ?_)
    · skip
      refine B rfl ?_
      refine And.intro (by omega) ?_
      refine Exists.intro _ (And.intro rfl ?_)
      exact (And.intro (by show (0 = 1 ∧ 0 ≤ a0 ∧ a0 ≤ a1 ∧ a1 ≤ 1999) ∨ 0 = 0; omega) rfl)
    · skip
      refine And.intro (fun h9 => ?_) (fun h9 => ?_)
      · skip
        refine B rfl ?_
        refine And.intro (by omega) ?_
        refine Exists.intro _ (And.intro rfl ?_)
        exact (And.intro (by show (0 = 1 ∧ 0 ≤ a0 ∧ a0 ≤ a1 ∧ a1 ≤ 1999) ∨ 0 = 0; omega) rfl)
      · skip
        refine B rfl ?_
        refine And.intro (by omega) ?_
        refine Exists.intro _ (And.intro rfl ?_)
        exact (And.intro (by show (1 = 1 ∧ 0 ≤ a0 ∧ a0 ≤ a1 ∧ a1 ≤ 1999) ∨ 1 = 0; omega) rfl)
def as_G_X10_isSlot : Int → List Sv_t := fun a => [(0, a)]
def pre_G_X10_isSlot : Int → Me_t → Prop := fun a σ => True
def post_G_X10_isSlot : Int → Me_t → Int → Me_t → Prop := fun a σ z σ' => ((z = 1 ∧ 0 ≤ a ∧ a ≤ 3) ∨ (z = 0 ∧ ¬ (0 ≤ a ∧ a ≤ 3))) ∧ (σ = σ')
set_option maxHeartbeats 1500000 in
set_option maxRecDepth 100000 in
theorem ct_G_X10_isSlot (l : Launch) : CT_ l yX10_isSlot cX10_isSlot 1 (some .boolean) 0 0 as_G_X10_isSlot (rmI_) pre_G_X10_isSlot post_G_X10_isSlot := by
  refine ct_of (by decide) (fun _ => Nat.le_of_ble_eq_true rfl) ?_
  intro X G Q ad σ a hl hR E hG R hM hv hp
  obtain ⟨a0, rfl⟩ : ∃ q : Int, q = a := ⟨_, rfl⟩
  have r_a0 : -2147483648 ≤ a0 ∧ a0 ≤ 2147483647 := hv (0, a0) (List.mem_of_getElem? (i := 0) rfl)
  have B := @bk_ X G Q 0 0 ad SHS_ RX10 cX10_isSlot 1 (some .boolean) flX10 plX10 knX10 [] _ _ none kX10_isSlot [] flX10_ok plX10_ok knX10_ok eX10_isSlot oX10_isSlot
    (fun _ h => absurd h List.not_mem_nil) R sok_no E
  show WP_ X G Q 0 0 ad SHS_ σ 0 [(0, a0)] []
  refine B rfl ?_
  refine And.intro (fun h1 => ?_) (fun h1 => ?_)
  · skip
    refine B rfl ?_
    refine And.intro (by omega) ?_
    refine Exists.intro _ (And.intro rfl ?_)
    exact (And.intro (by show (0 = 1 ∧ 0 ≤ a0 ∧ a0 ≤ 3) ∨ (0 = 0 ∧ ¬ (0 ≤ a0 ∧ a0 ≤ 3)); omega) rfl)
  · skip
    refine And.intro (fun h2 => ?_) (fun h2 => ?_)
    · skip
      refine B rfl ?_
      refine And.intro (by omega) ?_
      refine Exists.intro _ (And.intro rfl ?_)
      exact (And.intro (by show (0 = 1 ∧ 0 ≤ a0 ∧ a0 ≤ 3) ∨ (0 = 0 ∧ ¬ (0 ≤ a0 ∧ a0 ≤ 3)); omega) rfl)
    · skip
      refine B rfl ?_
      refine And.intro (by omega) ?_
      refine Exists.intro _ (And.intro rfl ?_)
      exact (And.intro (by show (1 = 1 ∧ 0 ≤ a0 ∧ a0 ≤ 3) ∨ (1 = 0 ∧ ¬ (0 ≤ a0 ∧ a0 ≤ 3)); omega) rfl)
def as_G_X10_isRain : Int × Int × Int → List Sv_t := fun a => [(0, a.1), (0, a.2.1), (0, a.2.2)]
def pre_G_X10_isRain : Int × Int × Int → Me_t → Prop := fun a σ => True
def post_G_X10_isRain : Int × Int × Int → Me_t → Int → Me_t → Prop := fun a σ z σ' => ((z = 1 ∧ 0 ≤ a.1 ∧ a.1 ≤ 2000000000 ∧ 0 ≤ a.2.1 ∧ a.2.1 ≤ 1999 ∧ 1 ≤ a.2.2 ∧ a.2.2 ≤ 100) ∨ z = 0) ∧ (σ = σ')
set_option maxHeartbeats 1500000 in
set_option maxRecDepth 100000 in
theorem ct_G_X10_isRain (l : Launch) : CT_ l yX10_isRain cX10_isRain 3 (some .boolean) 1 20 as_G_X10_isRain (rmI_) pre_G_X10_isRain post_G_X10_isRain := by
  refine ct_of (by decide) (fun _ => Nat.le_of_ble_eq_true rfl) ?_
  intro X G Q ad σ a hl hR E hG R hM hv hp
  obtain ⟨a0, a1, a2⟩ := a
  have r_a0 : -2147483648 ≤ a0 ∧ a0 ≤ 2147483647 := hv (0, a0) (List.mem_of_getElem? (i := 0) rfl)
  have r_a1 : -2147483648 ≤ a1 ∧ a1 ≤ 2147483647 := hv (0, a1) (List.mem_of_getElem? (i := 1) rfl)
  have r_a2 : -2147483648 ≤ a2 ∧ a2 ≤ 2147483647 := hv (0, a2) (List.mem_of_getElem? (i := 2) rfl)
  have B := @bk_ X G Q 0 0 ad SHS_ RX10 cX10_isRain 3 (some .boolean) flX10 plX10 knX10 [(603, 1, TR_ as_G_X10_isDay (rmI_) pre_G_X10_isDay post_G_X10_isDay)] _ _ none kX10_isRain [] flX10_ok plX10_ok knX10_ok eX10_isRain oX10_isRain
    (List.forall_mem_cons.mpr ⟨cok_s (n := 1) (idx := 301) E (ct_G_X10_isDay X.2.1) (by rw [hR]; decide) (Nat.zero_le _) (Nat.zero_le _) hG ⟨by decide, by decide, by decide⟩ (fun _ => rfl) wl_X10_301 wt_X10_isDay wn_X10 wc_X10_isDay, fun _ h => absurd h List.not_mem_nil⟩) R sok_no E
  show WP_ X G Q 0 0 ad SHS_ σ 0 [(0, a0), (0, a1), (0, a2)] []
  refine B rfl ?_
  refine And.intro (fun h1 => ?_) (fun h1 => ?_)
  · skip
    refine B rfl ?_
    refine And.intro (by omega) ?_
    refine Exists.intro _ (And.intro rfl ?_)
    exact (And.intro (by show (0 = 1 ∧ 0 ≤ a0 ∧ a0 ≤ 2000000000 ∧ 0 ≤ a1 ∧ a1 ≤ 1999 ∧ 1 ≤ a2 ∧ a2 ≤ 100) ∨ 0 = 0; omega) rfl)
  · skip
    refine And.intro (fun h2 => ?_) (fun h2 => ?_)
    · skip
      refine B rfl ?_
      refine And.intro (by omega) ?_
      refine Exists.intro _ (And.intro rfl ?_)
      exact (And.intro (by show (0 = 1 ∧ 0 ≤ a0 ∧ a0 ≤ 2000000000 ∧ 0 ≤ a1 ∧ a1 ≤ 1999 ∧ 1 ≤ a2 ∧ a2 ≤ 100) ∨ 0 = 0; omega) rfl)
    · skip
      refine Exists.intro a1 (And.intro rfl (And.intro True.intro ?_))
      rintro z3 m_ h4
      obtain rfl : σ = m_ := h4.2
      have h5 : (z3 = 1 ∧ 0 ≤ a1 ∧ a1 ≤ 1999) ∨ z3 = 0 := h4.1
      refine And.intro (fun h6 => ?_) (fun h6 => ?_)
      · skip
        refine B rfl ?_
        refine And.intro (by omega) ?_
        refine Exists.intro _ (And.intro rfl ?_)
        exact (And.intro (by show (0 = 1 ∧ 0 ≤ a0 ∧ a0 ≤ 2000000000 ∧ 0 ≤ a1 ∧ a1 ≤ 1999 ∧ 1 ≤ a2 ∧ a2 ≤ 100) ∨ 0 = 0; omega) rfl)
      · skip
        refine And.intro (fun h7 => ?_) (fun h7 => ?_)
        · skip
          refine B rfl ?_
          refine And.intro (by omega) ?_
          refine Exists.intro _ (And.intro rfl ?_)
          exact (And.intro (by show (0 = 1 ∧ 0 ≤ a0 ∧ a0 ≤ 2000000000 ∧ 0 ≤ a1 ∧ a1 ≤ 1999 ∧ 1 ≤ a2 ∧ a2 ≤ 100) ∨ 0 = 0; omega) rfl)
        · skip
          refine And.intro (fun h8 => ?_) (fun h8 => ?_)
          · skip
            refine B rfl ?_
            refine And.intro (by omega) ?_
            refine Exists.intro _ (And.intro rfl ?_)
            exact (And.intro (by show (0 = 1 ∧ 0 ≤ a0 ∧ a0 ≤ 2000000000 ∧ 0 ≤ a1 ∧ a1 ≤ 1999 ∧ 1 ≤ a2 ∧ a2 ≤ 100) ∨ 0 = 0; omega) rfl)
          · skip
            refine B rfl ?_
            refine And.intro (by omega) ?_
            refine Exists.intro _ (And.intro rfl ?_)
            exact (And.intro (by show (1 = 1 ∧ 0 ≤ a0 ∧ a0 ≤ 2000000000 ∧ 0 ≤ a1 ∧ a1 ≤ 1999 ∧ 1 ≤ a2 ∧ a2 ≤ 100) ∨ 1 = 0; omega) rfl)
def as_G_X10_isDayOfWar : Int → List Sv_t := fun a => [(10, 0), (0, a)]
def pre_G_X10_isDayOfWar : Int → Me_t → Prop := fun a σ => True
def post_G_X10_isDayOfWar : Int → Me_t → Int → Me_t → Prop := fun a σ z σ' => ((z = 1 ∧ 0 ≤ a ∧ a ≤ 1999) ∨ z = 0) ∧ (σ = σ')
set_option maxHeartbeats 1500000 in
set_option maxRecDepth 100000 in
theorem ct_G_X10_isDayOfWar (l : Launch) : CT_ l yX10_isDayOfWar cX10_isDayOfWar 2 (some .boolean) 1 20 as_G_X10_isDayOfWar (rmI_) pre_G_X10_isDayOfWar post_G_X10_isDayOfWar := by
  refine ct_of (by decide) (fun _ => Nat.le_of_ble_eq_true rfl) ?_
  intro X G Q ad σ a hl hR E hG R hM hv hp
  obtain ⟨a1, rfl⟩ : ∃ q : Int, q = a := ⟨_, rfl⟩
  have r_a1 : -2147483648 ≤ a1 ∧ a1 ≤ 2147483647 := hv (0, a1) (List.mem_of_getElem? (i := 1) rfl)
  have B := @bk_ X G Q 0 0 ad SHS_ RX10 cX10_isDayOfWar 2 (some .boolean) flX10 plX10 knX10 [(603, 1, TR_ as_G_X10_isDay (rmI_) pre_G_X10_isDay post_G_X10_isDay)] _ _ none kX10_isDayOfWar [] flX10_ok plX10_ok knX10_ok eX10_isDayOfWar oX10_isDayOfWar
    (List.forall_mem_cons.mpr ⟨cok_s (n := 1) (idx := 301) E (ct_G_X10_isDay X.2.1) (by rw [hR]; decide) (Nat.zero_le _) (Nat.zero_le _) hG ⟨by decide, by decide, by decide⟩ (fun _ => rfl) wl_X10_301 wt_X10_isDay wn_X10 wc_X10_isDay, fun _ h => absurd h List.not_mem_nil⟩) R sok_no E
  show WP_ X G Q 0 0 ad SHS_ σ 0 [(10, 0), (0, a1)] []
  refine B rfl ?_
  intro z1 ez1 hz1
  intro z2 ez2 hz2
  have hz2 : (0 : Int) ≤ z2 ∧ z2 ≤ (1201 : Int) := hz2
  refine And.intro (fun h3 => ?_) (fun h3 => ?_)
  · skip
    refine B rfl ?_
    refine And.intro (by omega) ?_
    refine Exists.intro _ (And.intro rfl ?_)
    exact (And.intro (by show (0 = 1 ∧ 0 ≤ a1 ∧ a1 ≤ 1999) ∨ 0 = 0; omega) rfl)
  · skip
    refine Exists.intro a1 (And.intro rfl (And.intro True.intro ?_))
    rintro z4 m_ h5
    obtain rfl : σ = m_ := h5.2
    have h6 : (z4 = 1 ∧ 0 ≤ a1 ∧ a1 ≤ 1999) ∨ z4 = 0 := h5.1
    refine And.intro (fun h7 => ?_) (fun h7 => ?_)
    · skip
      refine B rfl ?_
      refine And.intro (by omega) ?_
      refine Exists.intro _ (And.intro rfl ?_)
      exact (And.intro (by show (0 = 1 ∧ 0 ≤ a1 ∧ a1 ≤ 1999) ∨ 0 = 0; omega) rfl)
    · skip
      refine B rfl ?_
      refine And.intro (by omega) ?_
      refine Exists.intro _ (And.intro rfl ?_)
      exact (And.intro (by show (1 = 1 ∧ 0 ≤ a1 ∧ a1 ≤ 1999) ∨ 1 = 0; omega) rfl)
def as_G_X10_isLandAndDay : Int × Int → List Sv_t := fun a => [(10, 0), (0, a.1), (0, a.2)]
def pre_G_X10_isLandAndDay : Int × Int → Me_t → Prop := fun a σ => True
def post_G_X10_isLandAndDay : Int × Int → Me_t → Int → Me_t → Prop := fun a σ z σ' => ((z = 1 ∧ 0 ≤ a.1 ∧ a.1 ≤ 2 ∧ 0 ≤ a.2 ∧ a.2 ≤ 1999) ∨ z = 0) ∧ (σ = σ')
set_option maxHeartbeats 1500000 in
set_option maxRecDepth 100000 in
theorem ct_G_X10_isLandAndDay (l : Launch) : CT_ l yX10_isLandAndDay cX10_isLandAndDay 3 (some .boolean) 1 21 as_G_X10_isLandAndDay (rmI_) pre_G_X10_isLandAndDay post_G_X10_isLandAndDay := by
  refine ct_of (by decide) (fun _ => Nat.le_of_ble_eq_true rfl) ?_
  intro X G Q ad σ a hl hR E hG R hM hv hp
  obtain ⟨a1, a2⟩ := a
  have r_a1 : -2147483648 ≤ a1 ∧ a1 ≤ 2147483647 := hv (0, a1) (List.mem_of_getElem? (i := 1) rfl)
  have r_a2 : -2147483648 ≤ a2 ∧ a2 ≤ 2147483647 := hv (0, a2) (List.mem_of_getElem? (i := 2) rfl)
  have B := @bk_ X G Q 0 0 ad SHS_ RX10 cX10_isLandAndDay 3 (some .boolean) flX10 plX10 knX10 [(226, 2, TR_ as_G_X9_hasLand (rmI_) pre_G_X9_hasLand post_G_X9_hasLand), (603, 1, TR_ as_G_X10_isDay (rmI_) pre_G_X10_isDay post_G_X10_isDay)] _ _ none kX10_isLandAndDay [] flX10_ok plX10_ok knX10_ok eX10_isLandAndDay oX10_isLandAndDay
    (List.forall_mem_cons.mpr ⟨cok_v (t := 5) (c := 9) (N := 10) (n := 1) (idx := 113) E (ct_G_X9_hasLand X.2.1) (by rw [hR]; decide) (Nat.zero_le _) (Nat.zero_le _) hG rfl rfl ⟨rfl, by decide, by decide, by decide⟩ (fun _ => ⟨_, _, rfl, rfl⟩) wl_X10_113 wi_X9_hasLand ws_X9_hasLand wn_X9 wc_X9_hasLand, List.forall_mem_cons.mpr ⟨cok_s (n := 1) (idx := 301) E (ct_G_X10_isDay X.2.1) (by rw [hR]; decide) (Nat.zero_le _) (Nat.zero_le _) hG ⟨by decide, by decide, by decide⟩ (fun _ => rfl) wl_X10_301 wt_X10_isDay wn_X10 wc_X10_isDay, fun _ h => absurd h List.not_mem_nil⟩⟩) R sok_no E
  show WP_ X G Q 0 0 ad SHS_ σ 0 [(10, 0), (0, a1), (0, a2)] []
  refine B rfl ?_
  intro z1 ez1 hz1
  refine Exists.intro (z1, a1) (And.intro rfl (And.intro True.intro ?_))
  rintro z2 m_ h3
  obtain rfl : σ = m_ := h3.2
  have h4 : (z2 = 1 ∧ 0 ≤ a1 ∧ a1 ≤ 2 ∧ a1 < σ z1 2) ∨ z2 = 0 := h3.1
  refine And.intro (fun h5 => ?_) (fun h5 => ?_)
  · skip
    refine B rfl ?_
    refine And.intro (by omega) ?_
    refine Exists.intro _ (And.intro rfl ?_)
    exact (And.intro (by show (0 = 1 ∧ 0 ≤ a1 ∧ a1 ≤ 2 ∧ 0 ≤ a2 ∧ a2 ≤ 1999) ∨ 0 = 0; omega) rfl)
  · skip
    refine Exists.intro a2 (And.intro rfl (And.intro True.intro ?_))
    rintro z6 m_ h7
    obtain rfl : σ = m_ := h7.2
    have h8 : (z6 = 1 ∧ 0 ≤ a2 ∧ a2 ≤ 1999) ∨ z6 = 0 := h7.1
    refine And.intro (fun h9 => ?_) (fun h9 => ?_)
    · skip
      refine B rfl ?_
      refine And.intro (by omega) ?_
      refine Exists.intro _ (And.intro rfl ?_)
      exact (And.intro (by show (0 = 1 ∧ 0 ≤ a1 ∧ a1 ≤ 2 ∧ 0 ≤ a2 ∧ a2 ≤ 1999) ∨ 0 = 0; omega) rfl)
    · skip
      refine B rfl ?_
      refine And.intro (by omega) ?_
      refine Exists.intro _ (And.intro rfl ?_)
      exact (And.intro (by show (1 = 1 ∧ 0 ≤ a1 ∧ a1 ≤ 2 ∧ 0 ≤ a2 ∧ a2 ≤ 1999) ∨ 1 = 0; omega) rfl)
def as_G_X10_isPair : Int × Int → List Sv_t := fun a => [(10, 0), (0, a.1), (0, a.2)]
def pre_G_X10_isPair : Int × Int → Me_t → Prop := fun a σ => True
def post_G_X10_isPair : Int × Int → Me_t → Int → Me_t → Prop := fun a σ z σ' => ((z = 1 ∧ 0 ≤ a.1 ∧ a.1 ≤ 2 ∧ 0 ≤ a.2 ∧ a.2 ≤ 2 ∧ a.1 ≠ a.2) ∨ z = 0) ∧ (σ = σ')
set_option maxHeartbeats 1500000 in
set_option maxRecDepth 100000 in
theorem ct_G_X10_isPair (l : Launch) : CT_ l yX10_isPair cX10_isPair 3 (some .boolean) 1 21 as_G_X10_isPair (rmI_) pre_G_X10_isPair post_G_X10_isPair := by
  refine ct_of (by decide) (fun _ => Nat.le_of_ble_eq_true rfl) ?_
  intro X G Q ad σ a hl hR E hG R hM hv hp
  obtain ⟨a1, a2⟩ := a
  have r_a1 : -2147483648 ≤ a1 ∧ a1 ≤ 2147483647 := hv (0, a1) (List.mem_of_getElem? (i := 1) rfl)
  have r_a2 : -2147483648 ≤ a2 ∧ a2 ≤ 2147483647 := hv (0, a2) (List.mem_of_getElem? (i := 2) rfl)
  have B := @bk_ X G Q 0 0 ad SHS_ RX10 cX10_isPair 3 (some .boolean) flX10 plX10 knX10 [(226, 2, TR_ as_G_X9_hasLand (rmI_) pre_G_X9_hasLand post_G_X9_hasLand)] _ _ none kX10_isPair [] flX10_ok plX10_ok knX10_ok eX10_isPair oX10_isPair
    (List.forall_mem_cons.mpr ⟨cok_v (t := 5) (c := 9) (N := 10) (n := 1) (idx := 113) E (ct_G_X9_hasLand X.2.1) (by rw [hR]; decide) (Nat.zero_le _) (Nat.zero_le _) hG rfl rfl ⟨rfl, by decide, by decide, by decide⟩ (fun _ => ⟨_, _, rfl, rfl⟩) wl_X10_113 wi_X9_hasLand ws_X9_hasLand wn_X9 wc_X9_hasLand, fun _ h => absurd h List.not_mem_nil⟩) R sok_no E
  show WP_ X G Q 0 0 ad SHS_ σ 0 [(10, 0), (0, a1), (0, a2)] []
  refine B rfl ?_
  intro z1 ez1 hz1
  refine Exists.intro (z1, a1) (And.intro rfl (And.intro True.intro ?_))
  rintro z2 m_ h3
  obtain rfl : σ = m_ := h3.2
  have h4 : (z2 = 1 ∧ 0 ≤ a1 ∧ a1 ≤ 2 ∧ a1 < σ z1 2) ∨ z2 = 0 := h3.1
  refine And.intro (fun h5 => ?_) (fun h5 => ?_)
  · skip
    refine B rfl ?_
    refine And.intro (by omega) ?_
    refine Exists.intro _ (And.intro rfl ?_)
    exact (And.intro (by show (0 = 1 ∧ 0 ≤ a1 ∧ a1 ≤ 2 ∧ 0 ≤ a2 ∧ a2 ≤ 2 ∧ a1 ≠ a2) ∨ 0 = 0; omega) rfl)
  · skip
    intro z6 ez6 hz6
    have q7 : z1 = z6 := ez1.trans ez6.symm
    subst q7
    refine Exists.intro (z1, a2) (And.intro rfl (And.intro True.intro ?_))
    rintro z8 m_ h9
    obtain rfl : σ = m_ := h9.2
    have h10 : (z8 = 1 ∧ 0 ≤ a2 ∧ a2 ≤ 2 ∧ a2 < σ z1 2) ∨ z8 = 0 := h9.1
    refine And.intro (fun h11 => ?_) (fun h11 => ?_)
    · skip
      refine B rfl ?_
      refine And.intro (by omega) ?_
      refine Exists.intro _ (And.intro rfl ?_)
      exact (And.intro (by show (0 = 1 ∧ 0 ≤ a1 ∧ a1 ≤ 2 ∧ 0 ≤ a2 ∧ a2 ≤ 2 ∧ a1 ≠ a2) ∨ 0 = 0; omega) rfl)
    · skip
      refine And.intro (fun h12 => ?_) (fun h12 => ?_)
      · skip
        refine B rfl ?_
        refine And.intro (by omega) ?_
        refine Exists.intro _ (And.intro rfl ?_)
        exact (And.intro (by show (0 = 1 ∧ 0 ≤ a1 ∧ a1 ≤ 2 ∧ 0 ≤ a2 ∧ a2 ≤ 2 ∧ a1 ≠ a2) ∨ 0 = 0; omega) rfl)
      · skip
        refine B rfl ?_
        refine And.intro (by omega) ?_
        refine Exists.intro _ (And.intro rfl ?_)
        exact (And.intro (by show (1 = 1 ∧ 0 ≤ a1 ∧ a1 ≤ 2 ∧ 0 ≤ a2 ∧ a2 ≤ 2 ∧ a1 ≠ a2) ∨ 1 = 0; omega) rfl)
def as_G_X10_isPairAndDay : Int × Int × Int → List Sv_t := fun a => [(10, 0), (0, a.1), (0, a.2.1), (0, a.2.2)]
def pre_G_X10_isPairAndDay : Int × Int × Int → Me_t → Prop := fun a σ => True
def post_G_X10_isPairAndDay : Int × Int × Int → Me_t → Int → Me_t → Prop := fun a σ z σ' => ((z = 1 ∧ 0 ≤ a.1 ∧ a.1 ≤ 2 ∧ 0 ≤ a.2.1 ∧ a.2.1 ≤ 2 ∧ a.1 ≠ a.2.1 ∧ 0 ≤ a.2.2 ∧ a.2.2 ≤ 1999) ∨ z = 0) ∧ (σ = σ')
set_option maxHeartbeats 1500000 in
set_option maxRecDepth 100000 in
theorem ct_G_X10_isPairAndDay (l : Launch) : CT_ l yX10_isPairAndDay cX10_isPairAndDay 4 (some .boolean) 2 43 as_G_X10_isPairAndDay (rmI_) pre_G_X10_isPairAndDay post_G_X10_isPairAndDay := by
  refine ct_of (by decide) (fun _ => Nat.le_of_ble_eq_true rfl) ?_
  intro X G Q ad σ a hl hR E hG R hM hv hp
  obtain ⟨a1, a2, a3⟩ := a
  have r_a1 : -2147483648 ≤ a1 ∧ a1 ≤ 2147483647 := hv (0, a1) (List.mem_of_getElem? (i := 1) rfl)
  have r_a2 : -2147483648 ≤ a2 ∧ a2 ≤ 2147483647 := hv (0, a2) (List.mem_of_getElem? (i := 2) rfl)
  have r_a3 : -2147483648 ≤ a3 ∧ a3 ≤ 2147483647 := hv (0, a3) (List.mem_of_getElem? (i := 3) rfl)
  have B := @bk_ X G Q 0 0 ad SHS_ RX10 cX10_isPairAndDay 4 (some .boolean) flX10 plX10 knX10 [(620, 3, TR_ as_G_X10_isPair (rmI_) pre_G_X10_isPair post_G_X10_isPair), (603, 1, TR_ as_G_X10_isDay (rmI_) pre_G_X10_isDay post_G_X10_isDay)] _ _ none kX10_isPairAndDay [] flX10_ok plX10_ok knX10_ok eX10_isPairAndDay oX10_isPairAndDay
    (List.forall_mem_cons.mpr ⟨cok_v (t := 0) (c := 10) (N := 14) (n := 2) (idx := 310) E (ct_G_X10_isPair X.2.1) (by rw [hR]; decide) (Nat.zero_le _) (Nat.zero_le _) hG rfl rfl ⟨rfl, by decide, by decide, by decide⟩ (fun _ => ⟨_, _, rfl, rfl⟩) wl_X10_310 wi_X10_isPair ws_X10_isPair wn_X10 wc_X10_isPair, List.forall_mem_cons.mpr ⟨cok_s (n := 1) (idx := 301) E (ct_G_X10_isDay X.2.1) (by rw [hR]; decide) (Nat.zero_le _) (Nat.zero_le _) hG ⟨by decide, by decide, by decide⟩ (fun _ => rfl) wl_X10_301 wt_X10_isDay wn_X10 wc_X10_isDay, fun _ h => absurd h List.not_mem_nil⟩⟩) R sok_no E
  show WP_ X G Q 0 0 ad SHS_ σ 0 [(10, 0), (0, a1), (0, a2), (0, a3)] []
  refine B rfl ?_
  refine Exists.intro (a1, a2) (And.intro rfl (And.intro True.intro ?_))
  rintro z1 m_ h2
  obtain rfl : σ = m_ := h2.2
  have h3 : (z1 = 1 ∧ 0 ≤ a1 ∧ a1 ≤ 2 ∧ 0 ≤ a2 ∧ a2 ≤ 2 ∧ a1 ≠ a2) ∨ z1 = 0 := h2.1
  refine And.intro (fun h4 => ?_) (fun h4 => ?_)
  · skip
    refine B rfl ?_
    refine And.intro (by omega) ?_
    refine Exists.intro _ (And.intro rfl ?_)
    exact (And.intro (by show (0 = 1 ∧ 0 ≤ a1 ∧ a1 ≤ 2 ∧ 0 ≤ a2 ∧ a2 ≤ 2 ∧ a1 ≠ a2 ∧ 0 ≤ a3 ∧ a3 ≤ 1999) ∨ 0 = 0; omega) rfl)
  · skip
    refine Exists.intro a3 (And.intro rfl (And.intro True.intro ?_))
    rintro z5 m_ h6
    obtain rfl : σ = m_ := h6.2
    have h7 : (z5 = 1 ∧ 0 ≤ a3 ∧ a3 ≤ 1999) ∨ z5 = 0 := h6.1
    refine And.intro (fun h8 => ?_) (fun h8 => ?_)
    · skip
      refine B rfl ?_
      refine And.intro (by omega) ?_
      refine Exists.intro _ (And.intro rfl ?_)
      exact (And.intro (by show (0 = 1 ∧ 0 ≤ a1 ∧ a1 ≤ 2 ∧ 0 ≤ a2 ∧ a2 ≤ 2 ∧ a1 ≠ a2 ∧ 0 ≤ a3 ∧ a3 ≤ 1999) ∨ 0 = 0; omega) rfl)
    · skip
      refine B rfl ?_
      refine And.intro (by omega) ?_
      refine Exists.intro _ (And.intro rfl ?_)
      exact (And.intro (by show (1 = 1 ∧ 0 ≤ a1 ∧ a1 ≤ 2 ∧ 0 ≤ a2 ∧ a2 ≤ 2 ∧ a1 ≠ a2 ∧ 0 ≤ a3 ∧ a3 ≤ 1999) ∨ 1 = 0; omega) rfl)
def as_G_X10_isSetInSpan : Int × Int × Int → List Sv_t := fun a => [(10, 0), (0, a.1), (0, a.2.1), (0, a.2.2)]
def pre_G_X10_isSetInSpan : Int × Int × Int → Me_t → Prop := fun a σ => True
def post_G_X10_isSetInSpan : Int × Int × Int → Me_t → Int → Me_t → Prop := fun a σ z σ' => ((z = 1 ∧ 0 ≤ a.1 ∧ 0 ≤ a.2.1 ∧ a.2.1 ≤ a.2.2 ∧ a.2.2 ≤ 1999) ∨ z = 0) ∧ (σ = σ')
set_option maxHeartbeats 1500000 in
set_option maxRecDepth 100000 in
theorem ct_G_X10_isSetInSpan (l : Launch) : CT_ l yX10_isSetInSpan cX10_isSetInSpan 4 (some .boolean) 2 41 as_G_X10_isSetInSpan (rmI_) pre_G_X10_isSetInSpan post_G_X10_isSetInSpan := by
  refine ct_of (by decide) (fun _ => Nat.le_of_ble_eq_true rfl) ?_
  intro X G Q ad σ a hl hR E hG R hM hv hp
  obtain ⟨a1, a2, a3⟩ := a
  have r_a1 : -2147483648 ≤ a1 ∧ a1 ≤ 2147483647 := hv (0, a1) (List.mem_of_getElem? (i := 1) rfl)
  have r_a2 : -2147483648 ≤ a2 ∧ a2 ≤ 2147483647 := hv (0, a2) (List.mem_of_getElem? (i := 2) rfl)
  have r_a3 : -2147483648 ≤ a3 ∧ a3 ≤ 2147483647 := hv (0, a3) (List.mem_of_getElem? (i := 3) rfl)
  have B := @bk_ X G Q 0 0 ad SHS_ RX10 cX10_isSetInSpan 4 (some .boolean) flX10 plX10 knX10 [(499, 2, TR_ as_G_X10_isSpan (rmI_) pre_G_X10_isSpan post_G_X10_isSpan)] _ _ none kX10_isSetInSpan [] flX10_ok plX10_ok knX10_ok eX10_isSetInSpan oX10_isSetInSpan
    (List.forall_mem_cons.mpr ⟨cok_s (n := 2) (idx := 249) E (ct_G_X10_isSpan X.2.1) (by rw [hR]; decide) (Nat.zero_le _) (Nat.zero_le _) hG ⟨by decide, by decide, by decide⟩ (fun _ => rfl) wl_X10_249 wt_X10_isSpan wn_X10 wc_X10_isSpan, fun _ h => absurd h List.not_mem_nil⟩) R sok_no E
  show WP_ X G Q 0 0 ad SHS_ σ 0 [(10, 0), (0, a1), (0, a2), (0, a3)] []
  refine B rfl ?_
  intro z1 ez1 hz1
  intro z2 ez2 hz2
  have hz2 : (0 : Int) ≤ z2 ∧ z2 ≤ (1201 : Int) := hz2
  refine And.intro (fun h3 => ?_) (fun h3 => ?_)
  · skip
    refine B rfl ?_
    refine And.intro (by omega) ?_
    refine Exists.intro _ (And.intro rfl ?_)
    exact (And.intro (by show (0 = 1 ∧ 0 ≤ a1 ∧ 0 ≤ a2 ∧ a2 ≤ a3 ∧ a3 ≤ 1999) ∨ 0 = 0; omega) rfl)
  · skip
    refine And.intro (fun h4 => ?_) (fun h4 => ?_)
    · skip
      refine B rfl ?_
      refine And.intro (by omega) ?_
      refine Exists.intro _ (And.intro rfl ?_)
      exact (And.intro (by show (0 = 1 ∧ 0 ≤ a1 ∧ 0 ≤ a2 ∧ a2 ≤ a3 ∧ a3 ≤ 1999) ∨ 0 = 0; omega) rfl)
    · skip
      intro z5 ez5 hz5
      have q6 : z1 = z5 := ez1.trans ez5.symm
      subst q6
      intro z7 ez7 hz7
      have hz7 : (0 : Int) ≤ z7 ∧ z7 ≤ (3 : Int) := hz7
      try have q8 := shl3_1 (b := z7) (by omega) (by omega)
      try have q9 := shl3_b (b := z7) (by omega) (by omega)
      refine And.intro (fun h10 => ?_) (fun h10 => ?_)
      · skip
        refine B rfl ?_
        refine And.intro (by omega) ?_
        refine Exists.intro _ (And.intro rfl ?_)
        exact (And.intro (by show (0 = 1 ∧ 0 ≤ a1 ∧ 0 ≤ a2 ∧ a2 ≤ a3 ∧ a3 ≤ 1999) ∨ 0 = 0; omega) rfl)
      · skip
        refine Exists.intro (a2, a3) (And.intro rfl (And.intro True.intro ?_))
        rintro z11 m_ h12
        obtain rfl : σ = m_ := h12.2
        have h13 : (z11 = 1 ∧ 0 ≤ a2 ∧ a2 ≤ a3 ∧ a3 ≤ 1999) ∨ z11 = 0 := h12.1
        refine And.intro (fun h14 => ?_) (fun h14 => ?_)
        · skip
          refine B rfl ?_
          refine And.intro (by omega) ?_
          refine Exists.intro _ (And.intro rfl ?_)
          exact (And.intro (by show (0 = 1 ∧ 0 ≤ a1 ∧ 0 ≤ a2 ∧ a2 ≤ a3 ∧ a3 ≤ 1999) ∨ 0 = 0; omega) rfl)
        · skip
          refine B rfl ?_
          refine And.intro (by omega) ?_
          refine Exists.intro _ (And.intro rfl ?_)
          exact (And.intro (by show (1 = 1 ∧ 0 ≤ a1 ∧ 0 ≤ a2 ∧ a2 ≤ a3 ∧ a3 ≤ 1999) ∨ 1 = 0; omega) rfl)
def as_G_X10_isSaintly : Int × Int × Int × Int × Int → List Sv_t := fun a => [(10, 0), (0, a.1), (0, a.2.1), (0, a.2.2.1), (0, a.2.2.2.1), (0, a.2.2.2.2)]
def pre_G_X10_isSaintly : Int × Int × Int × Int × Int → Me_t → Prop := fun a σ => True
def post_G_X10_isSaintly : Int × Int × Int × Int × Int → Me_t → Int → Me_t → Prop := fun a σ z σ' => ((z = 1 ∧ 0 ≤ a.1 ∧ a.1 ≤ 2 ∧ 0 ≤ a.2.1 ∧ a.2.1 ≤ 7 ∧ 0 ≤ a.2.2.1 ∧ a.2.2.1 ≤ 1999 ∧ 1 ≤ a.2.2.2.1 ∧ a.2.2.2.1 ≤ 20 ∧ 1 ≤ a.2.2.2.2 ∧ a.2.2.2.2 ≤ 9) ∨ z = 0) ∧ (σ = σ')
set_option maxHeartbeats 1500000 in
set_option maxRecDepth 100000 in
theorem ct_G_X10_isSaintly (l : Launch) : CT_ l yX10_isSaintly cX10_isSaintly 6 (some .boolean) 2 43 as_G_X10_isSaintly (rmI_) pre_G_X10_isSaintly post_G_X10_isSaintly := by
  refine ct_of (by decide) (fun _ => Nat.le_of_ble_eq_true rfl) ?_
  intro X G Q ad σ a hl hR E hG R hM hv hp
  obtain ⟨a1, a2, a3, a4, a5⟩ := a
  have r_a1 : -2147483648 ≤ a1 ∧ a1 ≤ 2147483647 := hv (0, a1) (List.mem_of_getElem? (i := 1) rfl)
  have r_a2 : -2147483648 ≤ a2 ∧ a2 ≤ 2147483647 := hv (0, a2) (List.mem_of_getElem? (i := 2) rfl)
  have r_a3 : -2147483648 ≤ a3 ∧ a3 ≤ 2147483647 := hv (0, a3) (List.mem_of_getElem? (i := 3) rfl)
  have r_a4 : -2147483648 ≤ a4 ∧ a4 ≤ 2147483647 := hv (0, a4) (List.mem_of_getElem? (i := 4) rfl)
  have r_a5 : -2147483648 ≤ a5 ∧ a5 ≤ 2147483647 := hv (0, a5) (List.mem_of_getElem? (i := 5) rfl)
  have B := @bk_ X G Q 0 0 ad SHS_ RX10 cX10_isSaintly 6 (some .boolean) flX10 plX10 knX10 [(288, 3, TR_ as_G_X9_hasMonth (rmI_) pre_G_X9_hasMonth post_G_X9_hasMonth), (297, 1, TR_ as_G_X10_isYear (rmI_) pre_G_X10_isYear post_G_X10_isYear)] _ _ none kX10_isSaintly [] flX10_ok plX10_ok knX10_ok eX10_isSaintly oX10_isSaintly
    (List.forall_mem_cons.mpr ⟨cok_v (t := 5) (c := 9) (N := 10) (n := 2) (idx := 144) E (ct_G_X9_hasMonth X.2.1) (by rw [hR]; decide) (Nat.zero_le _) (Nat.zero_le _) hG rfl rfl ⟨rfl, by decide, by decide, by decide⟩ (fun _ => ⟨_, _, rfl, rfl⟩) wl_X10_144 wi_X9_hasMonth ws_X9_hasMonth wn_X9 wc_X9_hasMonth, List.forall_mem_cons.mpr ⟨cok_s (n := 1) (idx := 148) E (ct_G_X10_isYear X.2.1) (by rw [hR]; decide) (Nat.zero_le _) (Nat.zero_le _) hG ⟨by decide, by decide, by decide⟩ (fun _ => rfl) wl_X10_148 wt_X10_isYear wn_X10 wc_X10_isYear, fun _ h => absurd h List.not_mem_nil⟩⟩) R sok_no E
  show WP_ X G Q 0 0 ad SHS_ σ 0 [(10, 0), (0, a1), (0, a2), (0, a3), (0, a4), (0, a5)] []
  refine B rfl ?_
  intro z1 ez1 hz1
  refine Exists.intro (z1, a1, a2) (And.intro rfl (And.intro True.intro ?_))
  rintro z2 m_ h3
  obtain rfl : σ = m_ := h3.2
  have h4 : (z2 = 1 ∧ 0 ≤ a1 ∧ a1 ≤ 2 ∧ a1 < σ z1 2 ∧ 0 ≤ a2 ∧ a2 ≤ 7) ∨ z2 = 0 := h3.1
  refine And.intro (fun h5 => ?_) (fun h5 => ?_)
  · skip
    refine B rfl ?_
    refine And.intro (by omega) ?_
    refine Exists.intro _ (And.intro rfl ?_)
    exact (And.intro (by show (0 = 1 ∧ 0 ≤ a1 ∧ a1 ≤ 2 ∧ 0 ≤ a2 ∧ a2 ≤ 7 ∧ 0 ≤ a3 ∧ a3 ≤ 1999 ∧ 1 ≤ a4 ∧ a4 ≤ 20 ∧ 1 ≤ a5 ∧ a5 ≤ 9) ∨ 0 = 0; omega) rfl)
  · skip
    refine Exists.intro a3 (And.intro rfl (And.intro True.intro ?_))
    rintro z6 m_ h7
    obtain rfl : σ = m_ := h7.2
    have h8 : (z6 = 1 ∧ 0 ≤ a3 ∧ a3 ≤ 1999) ∨ z6 = 0 := h7.1
    refine And.intro (fun h9 => ?_) (fun h9 => ?_)
    · skip
      refine B rfl ?_
      refine And.intro (by omega) ?_
      refine Exists.intro _ (And.intro rfl ?_)
      exact (And.intro (by show (0 = 1 ∧ 0 ≤ a1 ∧ a1 ≤ 2 ∧ 0 ≤ a2 ∧ a2 ≤ 7 ∧ 0 ≤ a3 ∧ a3 ≤ 1999 ∧ 1 ≤ a4 ∧ a4 ≤ 20 ∧ 1 ≤ a5 ∧ a5 ≤ 9) ∨ 0 = 0; omega) rfl)
    · skip
      refine And.intro (fun h10 => ?_) (fun h10 => ?_)
      · skip
        refine B rfl ?_
        refine And.intro (by omega) ?_
        refine Exists.intro _ (And.intro rfl ?_)
        exact (And.intro (by show (0 = 1 ∧ 0 ≤ a1 ∧ a1 ≤ 2 ∧ 0 ≤ a2 ∧ a2 ≤ 7 ∧ 0 ≤ a3 ∧ a3 ≤ 1999 ∧ 1 ≤ a4 ∧ a4 ≤ 20 ∧ 1 ≤ a5 ∧ a5 ≤ 9) ∨ 0 = 0; omega) rfl)
      · skip
        refine And.intro (fun h11 => ?_) (fun h11 => ?_)
        · skip
          refine B rfl ?_
          refine And.intro (by omega) ?_
          refine Exists.intro _ (And.intro rfl ?_)
          exact (And.intro (by show (0 = 1 ∧ 0 ≤ a1 ∧ a1 ≤ 2 ∧ 0 ≤ a2 ∧ a2 ≤ 7 ∧ 0 ≤ a3 ∧ a3 ≤ 1999 ∧ 1 ≤ a4 ∧ a4 ≤ 20 ∧ 1 ≤ a5 ∧ a5 ≤ 9) ∨ 0 = 0; omega) rfl)
        · skip
          refine And.intro (fun h12 => ?_) (fun h12 => ?_)
          · skip
            refine B rfl ?_
            refine And.intro (by omega) ?_
            refine Exists.intro _ (And.intro rfl ?_)
            exact (And.intro (by show (0 = 1 ∧ 0 ≤ a1 ∧ a1 ≤ 2 ∧ 0 ≤ a2 ∧ a2 ≤ 7 ∧ 0 ≤ a3 ∧ a3 ≤ 1999 ∧ 1 ≤ a4 ∧ a4 ≤ 20 ∧ 1 ≤ a5 ∧ a5 ≤ 9) ∨ 0 = 0; omega) rfl)
          · skip
            refine And.intro (fun h13 => ?_) (fun h13 => ?_)
            · skip
              refine B rfl ?_
              refine And.intro (by omega) ?_
              refine Exists.intro _ (And.intro rfl ?_)
              exact (And.intro (by show (0 = 1 ∧ 0 ≤ a1 ∧ a1 ≤ 2 ∧ 0 ≤ a2 ∧ a2 ≤ 7 ∧ 0 ≤ a3 ∧ a3 ≤ 1999 ∧ 1 ≤ a4 ∧ a4 ≤ 20 ∧ 1 ≤ a5 ∧ a5 ≤ 9) ∨ 0 = 0; omega) rfl)
            · skip
              refine B rfl ?_
              refine And.intro (by omega) ?_
              refine Exists.intro _ (And.intro rfl ?_)
              exact (And.intro (by show (1 = 1 ∧ 0 ≤ a1 ∧ a1 ≤ 2 ∧ 0 ≤ a2 ∧ a2 ≤ 7 ∧ 0 ≤ a3 ∧ a3 ≤ 1999 ∧ 1 ≤ a4 ∧ a4 ≤ 20 ∧ 1 ≤ a5 ∧ a5 ≤ 9) ∨ 1 = 0; omega) rfl)
def as_G_X10_commonDivisor : Int × Int → List Sv_t := fun a => [(0, a.1), (0, a.2)]
def pre_G_X10_commonDivisor : Int × Int → Me_t → Prop := fun a σ => (0 ≤ a.1) ∧ (0 ≤ a.2)
def post_G_X10_commonDivisor : Int × Int → Me_t → Int → Me_t → Prop := fun a σ z σ' => (1 ≤ z) ∧ (σ = σ')
set_option maxHeartbeats 1500000 in
set_option maxRecDepth 100000 in
theorem ct_G_X10_commonDivisor (l : Launch) : CT_ l yX10_commonDivisor cX10_commonDivisor 6 (some .int) 0 0 as_G_X10_commonDivisor (rmI_) pre_G_X10_commonDivisor post_G_X10_commonDivisor := by
  refine ct_of (by decide) (fun _ => Nat.le_of_ble_eq_true rfl) ?_
  intro X G Q ad σ a hl hR E hG R hM hv hp
  obtain ⟨a0, a1⟩ := a
  have r_a0 : -2147483648 ≤ a0 ∧ a0 ≤ 2147483647 := hv (0, a0) (List.mem_of_getElem? (i := 0) rfl)
  have r_a1 : -2147483648 ≤ a1 ∧ a1 ≤ 2147483647 := hv (0, a1) (List.mem_of_getElem? (i := 1) rfl)
  have hp0 : 0 ≤ a0 := hp.1
  have hp1 : 0 ≤ a1 := hp.2
  have B := @bk_ X G Q 0 0 ad SHS_ RX10 cX10_commonDivisor 6 (some .int) flX10 plX10 knX10 [] _ _ none kX10_commonDivisor [7] flX10_ok plX10_ok knX10_ok eX10_commonDivisor oX10_commonDivisor
    (fun _ h => absurd h List.not_mem_nil) R sok_no E
  show WP_ X G Q 0 0 ad SHS_ σ 0 [(0, a0), (0, a1), (9, 0), (9, 0), (9, 0), (9, 0)] []
  refine B rfl ?_
  show WP_ X G Q 0 0 ad SHS_ σ 7 [(0, a0), (0, a1), (0, a0), (0, a1), (0, 0), (9, 0)] []
  refine wdrop_ (L' := [(9, 0), (9, 0), (0, a0), (0, a1), (0, 0), (9, 0)]) ⟨Or.inl rfl, ⟨Or.inl rfl, ⟨Or.inr rfl, ⟨Or.inr rfl, ⟨Or.inr rfl, ⟨Or.inl rfl, trivial⟩⟩⟩⟩⟩⟩ ?_
  have lp_7 : ∀ (nq_ : Nat) (v2 : Int) (v3 : Int) (v4 : Int), (0 ≤ v2) → (0 ≤ v3) → (0 ≤ v4) → (v4 ≤ 100) → (100 - v4 : Int).toNat < nq_ → WP_ X G Q 0 0 ad SHS_ σ 7 [(9, 0), (9, 0), (0, v2), (0, v3), (0, v4), (9, 0)] [] := by
    intro nq_
    induction nq_ with
    | zero => intros; omega
    | succ nq_ ih_7 =>
      intro v2 v3 v4 hi7_0 hi7_1 hi7_2 hi7_3 hm7
      refine B rfl ?_
      refine And.intro (fun h1 => ?_) (fun h1 => ?_)
      · skip
        refine B rfl ?_
        refine And.intro (fun h2 => ?_) (fun h2 => ?_)
        · skip
          refine B rfl ?_
          refine Exists.intro _ (And.intro rfl ?_)
          exact (And.intro (by show 1 ≤ v2; omega) rfl)
        · skip
          refine B rfl ?_
          refine Exists.intro _ (And.intro rfl ?_)
          exact (And.intro (by show 1 ≤ 1; omega) rfl)
      · skip
        refine And.intro (fun h3 => ?_) (fun h3 => ?_)
        · skip
          refine B rfl ?_
          refine And.intro (fun h4 => ?_) (fun h4 => ?_)
          · skip
            refine B rfl ?_
            refine Exists.intro _ (And.intro rfl ?_)
            exact (And.intro (by show 1 ≤ v2; omega) rfl)
          · skip
            refine B rfl ?_
            refine Exists.intro _ (And.intro rfl ?_)
            exact (And.intro (by show 1 ≤ 1; omega) rfl)
        · skip
          have q5 := tmod_r (x := v2) (y := v3) (by omega) (by omega)
          refine And.intro (by omega) ?_
          refine And.intro (by omega) ?_
          show WP_ X G Q 0 0 ad SHS_ σ 7 [(9, 0), (9, 0), (0, v3), (0, Int.tmod v2 v3), (0, v4 + 1), (0, Int.tmod v2 v3)] []
          refine wdrop_ (L' := [(9, 0), (9, 0), (0, v3), (0, Int.tmod v2 v3), (0, v4 + 1), (9, 0)]) ⟨Or.inl rfl, ⟨Or.inl rfl, ⟨Or.inr rfl, ⟨Or.inr rfl, ⟨Or.inr rfl, ⟨Or.inl rfl, trivial⟩⟩⟩⟩⟩⟩ ?_
          exact ih_7 v3 (Int.tmod v2 v3) (v4 + 1) (by show 0 ≤ v3; omega) (by show 0 ≤ (Int.tmod v2 v3); omega) (by show 0 ≤ (v4 + 1); omega) (by show (v4 + 1) ≤ 100; omega) (by omega)
  exact lp_7 ((100 - 0 : Int).toNat + 1) a0 a1 0 (by show 0 ≤ a0; omega) (by show 0 ≤ a1; omega) (by show 0 ≤ 0; omega) (by show 0 ≤ 100; omega) (by omega)
def as_G_X10_nextDraw : Int → List Sv_t := fun a => [(1, a)]
def pre_G_X10_nextDraw : Int → Me_t → Prop := fun a σ => (0 ≤ a) ∧ (a ≤ 4000000000)
def post_G_X10_nextDraw : Int → Me_t → Int → Me_t → Prop := fun a σ z σ' => (0 ≤ z ∧ z ≤ 2147483647) ∧ (σ = σ')
set_option maxHeartbeats 1500000 in
set_option maxRecDepth 100000 in
theorem ct_G_X10_nextDraw (l : Launch) : CT_ l yX10_nextDraw cX10_nextDraw 2 (some .long) 0 0 as_G_X10_nextDraw (rmL_) pre_G_X10_nextDraw post_G_X10_nextDraw := by
  refine ct_of (by decide) (fun _ => Nat.le_of_ble_eq_true rfl) ?_
  intro X G Q ad σ a hl hR E hG R hM hv hp
  obtain ⟨a0, rfl⟩ : ∃ q : Int, q = a := ⟨_, rfl⟩
  have r_a0 : -9223372036854775808 ≤ a0 ∧ a0 ≤ 9223372036854775807 := hv (1, a0) (List.mem_of_getElem? (i := 0) rfl)
  have hp0 : 0 ≤ a0 := hp.1
  have hp1 : a0 ≤ 4000000000 := hp.2
  have B := @bk_ X G Q 0 0 ad SHS_ RX10 cX10_nextDraw 2 (some .long) flX10 plX10 knX10 [] _ _ none kX10_nextDraw [] flX10_ok plX10_ok knX10_ok eX10_nextDraw oX10_nextDraw
    (fun _ h => absurd h List.not_mem_nil) R sok_no E
  show WP_ X G Q 0 0 ad SHS_ σ 0 [(1, a0), (9, 0)] []
  refine B rfl ?_
  refine And.intro (by omega) ?_
  refine And.intro (by omega) ?_
  have q1 : Int.tmod ((1103515245 * a0) + 12345) 2147483648 = ((1103515245 * a0) + 12345) % 2147483648 := Int.tmod_eq_emod_of_nonneg (by omega)
  refine And.intro (by omega) ?_
  refine Exists.intro _ (And.intro rfl ?_)
  exact (And.intro (by show 0 ≤ (Int.tmod ((1103515245 * a0) + 12345) 2147483648) ∧ (Int.tmod ((1103515245 * a0) + 12345) 2147483648) ≤ 2147483647; omega) rfl)
def as_G_X10_isWet : Int × Int → List Sv_t := fun a => [(1, a.1), (0, a.2)]
def pre_G_X10_isWet : Int × Int → Me_t → Prop := fun a σ => (0 ≤ a.1)
def post_G_X10_isWet : Int × Int → Me_t → Int → Me_t → Prop := fun a σ z σ' => (0 ≤ z ∧ z ≤ 1) ∧ (σ = σ')
set_option maxHeartbeats 1500000 in
set_option maxRecDepth 100000 in
theorem ct_G_X10_isWet (l : Launch) : CT_ l yX10_isWet cX10_isWet 3 (some .boolean) 0 0 as_G_X10_isWet (rmI_) pre_G_X10_isWet post_G_X10_isWet := by
  refine ct_of (by decide) (fun _ => Nat.le_of_ble_eq_true rfl) ?_
  intro X G Q ad σ a hl hR E hG R hM hv hp
  obtain ⟨a0, a1⟩ := a
  have r_a0 : -9223372036854775808 ≤ a0 ∧ a0 ≤ 9223372036854775807 := hv (1, a0) (List.mem_of_getElem? (i := 0) rfl)
  have r_a1 : -2147483648 ≤ a1 ∧ a1 ≤ 2147483647 := hv (0, a1) (List.mem_of_getElem? (i := 1) rfl)
  have hp0 : 0 ≤ a0 := hp
  have B := @bk_ X G Q 0 0 ad SHS_ RX10 cX10_isWet 3 (some .boolean) flX10 plX10 knX10 [] _ _ none kX10_isWet [] flX10_ok plX10_ok knX10_ok eX10_isWet oX10_isWet
    (fun _ h => absurd h List.not_mem_nil) R sok_no E
  show WP_ X G Q 0 0 ad SHS_ σ 0 [(1, a0), (9, 0), (0, a1)] []
  refine B rfl ?_
  have q1 : Int.tdiv a0 65536 = a0 / 65536 := Int.tdiv_eq_ediv_of_nonneg (by omega)
  refine And.intro (by omega) ?_
  have q2 : Int.tmod (Int.tdiv a0 65536) 100 = (Int.tdiv a0 65536) % 100 := Int.tmod_eq_emod_of_nonneg (by omega)
  refine And.intro (by omega) ?_
  refine And.intro (fun h3 => ?_) (fun h3 => ?_)
  · simp only [lcmp_lt0, lcmp_ge0, lcmp_gt0, lcmp_le0, lcmp_eq0] at h3
    refine B rfl ?_
    refine And.intro (by omega) ?_
    refine Exists.intro _ (And.intro rfl ?_)
    exact (And.intro (by show 0 ≤ 0 ∧ 0 ≤ 1; omega) rfl)
  · simp only [lcmp_lt0, lcmp_ge0, lcmp_gt0, lcmp_le0, lcmp_eq0] at h3
    refine B rfl ?_
    refine And.intro (by omega) ?_
    refine Exists.intro _ (And.intro rfl ?_)
    exact (And.intro (by show 0 ≤ 1 ∧ 1 ≤ 1; omega) rfl)
def as_G_X10_fightsInRain : Int × Int × Int × Int → List Sv_t := fun a => [(10, 0), (25, 30), (1, a.1), (0, a.2.1), (0, a.2.2.1), (0, a.2.2.2)]
def pre_G_X10_fightsInRain : Int × Int × Int × Int → Me_t → Prop := fun a σ => (DT σ) ∧ (0 ≤ a.1) ∧ (a.1 ≤ 4000000000) ∧ (0 ≤ a.2.2.1) ∧ (a.2.2.1 ≤ 1999) ∧ (1 ≤ a.2.2.2) ∧ (a.2.2.2 ≤ 100)
def post_G_X10_fightsInRain : Int × Int × Int × Int → Me_t → Int → Me_t → Prop := fun a σ z σ' => (0 ≤ z ∧ z ≤ 1) ∧ (σ = σ')
set_option maxHeartbeats 1500000 in
set_option maxRecDepth 100000 in
theorem ct_G_X10_fightsInRain (l : Launch) : CT_ l yX10_fightsInRain cX10_fightsInRain 11 (some .boolean) 1 24 as_G_X10_fightsInRain (rmI_) pre_G_X10_fightsInRain post_G_X10_fightsInRain := by
  refine ct_of (by decide) (fun _ => Nat.le_of_ble_eq_true rfl) ?_
  intro X G Q ad σ a hl hR E hG R hM hv hp
  obtain ⟨a2, a3, a4, a5⟩ := a
  have r_a2 : -9223372036854775808 ≤ a2 ∧ a2 ≤ 9223372036854775807 := hv (1, a2) (List.mem_of_getElem? (i := 2) rfl)
  have r_a3 : -2147483648 ≤ a3 ∧ a3 ≤ 2147483647 := hv (0, a3) (List.mem_of_getElem? (i := 3) rfl)
  have r_a4 : -2147483648 ≤ a4 ∧ a4 ≤ 2147483647 := hv (0, a4) (List.mem_of_getElem? (i := 4) rfl)
  have r_a5 : -2147483648 ≤ a5 ∧ a5 ≤ 2147483647 := hv (0, a5) (List.mem_of_getElem? (i := 5) rfl)
  have hp0 : DT σ := hp.1
  have hp1 : 0 ≤ a2 := hp.2.1
  have hp2 : a2 ≤ 4000000000 := hp.2.2.1
  have hp3 : 0 ≤ a4 := hp.2.2.2.1
  have hp4 : a4 ≤ 1999 := hp.2.2.2.2.1
  have hp5 : 1 ≤ a5 := hp.2.2.2.2.2.1
  have hp6 : a5 ≤ 100 := hp.2.2.2.2.2.2
  have B := @bk_ X G Q 0 0 ad SHS_ RX10 cX10_fightsInRain 11 (some .boolean) flX10 plX10 knX10 [(753, 1, TR_ as_G_X10_nextDraw (rmL_) pre_G_X10_nextDraw post_G_X10_nextDraw), (767, 2, TR_ as_G_X10_isWet (rmI_) pre_G_X10_isWet post_G_X10_isWet), (350, 4, TR_ as_G_X0_part (rmI_) pre_G_X0_part post_G_X0_part), (653, 2, TMIN_)] _ _ none kX10_fightsInRain [20] flX10_ok plX10_ok knX10_ok eX10_fightsInRain oX10_fightsInRain
    (List.forall_mem_cons.mpr ⟨cok_s (n := 1) (idx := 376) E (ct_G_X10_nextDraw X.2.1) (by rw [hR]; decide) (Nat.zero_le _) (Nat.zero_le _) hG ⟨by decide, by decide, by decide⟩ (fun _ => rfl) wl_X10_376 wt_X10_nextDraw wn_X10 wc_X10_nextDraw, List.forall_mem_cons.mpr ⟨cok_s (n := 2) (idx := 383) E (ct_G_X10_isWet X.2.1) (by rw [hR]; decide) (Nat.zero_le _) (Nat.zero_le _) hG ⟨by decide, by decide, by decide⟩ (fun _ => rfl) wl_X10_383 wt_X10_isWet wn_X10 wc_X10_isWet, List.forall_mem_cons.mpr ⟨cok_v (t := 15) (c := 0) (N := 9) (n := 3) (idx := 175) E (ct_G_X0_part X.2.1) (by rw [hR]; decide) (Nat.zero_le _) (Nat.zero_le _) hG rfl rfl ⟨rfl, by decide, by decide, by decide⟩ (fun _ => ⟨_, _, rfl, rfl⟩) wl_X10_175 wi_X0_part ws_X0_part wn_X0 wc_X0_part, List.forall_mem_cons.mpr ⟨cok_min (idx := 326) E (by rw [hR]; decide) (Nat.zero_le _) (Nat.zero_le _) wl_X10_326, fun _ h => absurd h List.not_mem_nil⟩⟩⟩⟩) R sok_no E
  show WP_ X G Q 0 0 ad SHS_ σ 0 [(10, 0), (25, 30), (1, a2), (9, 0), (0, a3), (0, a4), (0, a5), (9, 0), (9, 0), (9, 0), (9, 0)] []
  refine B rfl ?_
  refine And.intro (by omega) ?_
  refine Exists.intro 2000 (Exists.intro (a4 + a5) (And.intro rfl ?_))
  intro z1 hz1
  show WP_ X G Q 0 0 ad SHS_ σ 20 [(10, 0), (25, 30), (1, a2), (9, 0), (0, a3), (0, a4), (0, a5), (0, z1), (1, a2), (9, 0), (0, a4)] []
  refine wdrop_ (L' := [(10, 0), (25, 30), (9, 0), (9, 0), (0, a3), (9, 0), (9, 0), (0, z1), (1, a2), (9, 0), (0, a4)]) ⟨Or.inr rfl, ⟨Or.inr rfl, ⟨Or.inl rfl, ⟨Or.inl rfl, ⟨Or.inr rfl, ⟨Or.inl rfl, ⟨Or.inl rfl, ⟨Or.inr rfl, ⟨Or.inr rfl, ⟨Or.inl rfl, ⟨Or.inr rfl, trivial⟩⟩⟩⟩⟩⟩⟩⟩⟩⟩⟩ ?_
  have lp_20 : ∀ (nq_ : Nat) (v8 : Int) (v10 : Int), (0 ≤ v8) → (v8 ≤ 4000000000) → (a4 ≤ v10) → (v10 ≤ 2000) → (2000 - v10 : Int).toNat < nq_ → WP_ X G Q 0 0 ad SHS_ σ 20 [(10, 0), (25, 30), (9, 0), (9, 0), (0, a3), (9, 0), (9, 0), (0, z1), (1, v8), (9, 0), (0, v10)] [] := by
    intro nq_
    induction nq_ with
    | zero => intros; omega
    | succ nq_ ih_20 =>
      intro v8 v10 hi20_0 hi20_1 hi20_2 hi20_3 hm20
      refine B rfl ?_
      refine And.intro (fun h2 => ?_) (fun h2 => ?_)
      · skip
        refine B rfl ?_
        refine And.intro (by omega) ?_
        refine Exists.intro _ (And.intro rfl ?_)
        exact (And.intro (by show 0 ≤ 0 ∧ 0 ≤ 1; omega) rfl)
      · skip
        refine Exists.intro v8 (And.intro rfl (And.intro (And.intro (by show 0 ≤ v8; omega) (by show v8 ≤ 4000000000; omega)) ?_))
        rintro z3 m_ h4
        obtain rfl : σ = m_ := h4.2
        have h5 : 0 ≤ z3 ∧ z3 ≤ 2147483647 := h4.1
        intro z6 ez6 hz6
        intro z7 ez7 hz7
        have hz7 : (0 : Int) ≤ z7 ∧ z7 ≤ (100 : Int) := hz7
        refine Exists.intro (z3, z7) (And.intro rfl (And.intro (by show 0 ≤ z3; omega) ?_))
        rintro z8 m_ h9
        obtain rfl : σ = m_ := h9.2
        have h10 : 0 ≤ z8 ∧ z8 ≤ 1 := h9.1
        refine And.intro (fun h11 => ?_) (fun h11 => ?_)
        · skip
          refine B rfl ?_
          refine And.intro (by omega) ?_
          exact ih_20 z3 (v10 + 1) (by show 0 ≤ z3; omega) (by show z3 ≤ 4000000000; omega) (by show a4 ≤ (v10 + 1); omega) (by show (v10 + 1) ≤ 2000; omega) (by omega)
        · skip
          refine Exists.intro (a3, v10, 4) (And.intro rfl (And.intro (And.intro hp0 (And.intro (by show 0 ≤ v10; omega) (And.intro (by show v10 ≤ 1999; omega) (by show 4 = 4 ∨ (0 ≤ a3 ∧ a3 ≤ 2); omega)))) ?_))
          rintro z12 m_ h13
          obtain rfl : σ = m_ := h13.2.2.2.2
          have h14 : -1 ≤ z12 ∧ z12 ≤ 200000 := h13.1
          have h15 : (4 : Int) = 4 → 0 ≤ z12 ∧ z12 ≤ 1 := h13.2.1
          have h16 : (4 : Int) = 1 → z12 ≤ 7 := h13.2.2.1
          have h17 : (4 : Int) = 3 → z12 ≤ 10 := h13.2.2.2.1
          refine And.intro (fun h18 => ?_) (fun h18 => ?_)
          · skip
            refine B rfl ?_
            refine And.intro (by omega) ?_
            exact ih_20 z3 (v10 + 1) (by show 0 ≤ z3; omega) (by show z3 ≤ 4000000000; omega) (by show a4 ≤ (v10 + 1); omega) (by show (v10 + 1) ≤ 2000; omega) (by omega)
          · skip
            refine And.intro (by omega) ?_
            refine Exists.intro _ (And.intro rfl ?_)
            exact (And.intro (by show 0 ≤ 1 ∧ 1 ≤ 1; omega) rfl)
  exact lp_20 ((2000 - a4 : Int).toNat + 1) a2 a4 (by show 0 ≤ a2; omega) (by show a2 ≤ 4000000000; omega) (by show a4 ≤ a4; omega) (by show a4 ≤ 2000; omega) (by omega)
def as_G_X10_told : Unit → List Sv_t := fun a => [(10, 0)]
def pre_G_X10_told : Unit → Me_t → Prop := fun a σ => (CI σ)
def post_G_X10_told : Unit → Me_t → Int → Me_t → Prop := fun a σ z σ' => (CI σ') ∧ (z = 30) ∧ (∀ k j : Int, ¬ (30 ≤ k ∧ k ≤ 33) → σ' k j = σ k j)
set_option maxHeartbeats 1500000 in
set_option maxRecDepth 100000 in
theorem ct_G_X10_told (l : Launch) : CT_ l yX10_told cX10_told 1 (some (.object "TwoCalendars$Almanac")) 5 123 as_G_X10_told (rmR_ 25) pre_G_X10_told post_G_X10_told := by
  refine ct_of (by decide) (fun _ => Nat.le_of_ble_eq_true rfl) ?_
  intro X G Q ad σ a hl hR E hG R hM hv hp
  have hp0 : CI σ := hp
  have B := @bk_ X G Q 0 0 ad SHS_ RX10 cX10_told 1 (some (.object "TwoCalendars$Almanac")) flX10 plX10 knX10 [(880, 2, TR_ as_G_X0_bringUpToDate (rmV_) pre_G_X0_bringUpToDate post_G_X0_bringUpToDate)] _ _ none kX10_told [] flX10_ok plX10_ok knX10_ok eX10_told oX10_told
    (List.forall_mem_cons.mpr ⟨cok_v (t := 15) (c := 0) (N := 9) (n := 1) (idx := 440) E (ct_G_X0_bringUpToDate X.2.1) (by rw [hR]; decide) (Nat.zero_le _) (Nat.zero_le _) hG rfl rfl ⟨rfl, by decide, by decide, by decide⟩ (fun _ => ⟨_, _, rfl, rfl⟩) wl_X10_440 wi_X0_bringUpToDate ws_X0_bringUpToDate wn_X0 wc_X0_bringUpToDate, fun _ h => absurd h List.not_mem_nil⟩) R sok_no E
  show WP_ X G Q 0 0 ad SHS_ σ 0 [(10, 0)] []
  refine B rfl ?_
  intro z1 ez1 hz1
  have cz1 : z1 = 5 ∨ z1 = 16 := by have := (hp0).1; omega
  have lz1 : LG σ z1 := by rw [ez1]; exact (hp0).2.1.1
  have uz1 : UW σ z1 := by rw [ez1]; exact (hp0).2.1.2
  have p2 : DT σ := (hp0).2.2.2
  refine Exists.intro z1 (And.intro rfl (And.intro (And.intro lz1 p2) ?_))
  intro z3 σ5 h4
  have f6 : ∀ k j : Int, ¬ (30 ≤ k ∧ k ≤ 33) → σ5 k j = σ k j := h4.2
  have h7 : DT σ5 := h4.1
  have ciT : CI σ5 := CI_told hp0 h7 (fun k j hk => (f6 _ _ (by omega)))
  refine Exists.intro _ (And.intro rfl ?_)
  exact (And.intro ciT (And.intro (by show 30 = 30; omega) (fun k j hk => (f6 _ _ (by omega)))))
def as_G_X10_slotsWithRow : Unit → List Sv_t := fun a => [(10, 0)]
def pre_G_X10_slotsWithRow : Unit → Me_t → Prop := fun a σ => True
def post_G_X10_slotsWithRow : Unit → Me_t → Int → Me_t → Prop := fun a σ z σ' => (σ = σ')
set_option maxHeartbeats 1500000 in
set_option maxRecDepth 100000 in
theorem ct_G_X10_slotsWithRow (l : Launch) : CT_ l yX10_slotsWithRow cX10_slotsWithRow 3 (some .int) 0 0 as_G_X10_slotsWithRow (rmI_) pre_G_X10_slotsWithRow post_G_X10_slotsWithRow := by
  refine ct_of (by decide) (fun _ => Nat.le_of_ble_eq_true rfl) ?_
  intro X G Q ad σ a hl hR E hG R hM hv hp
  have B := @bk_ X G Q 0 0 ad SHS_ RX10 cX10_slotsWithRow 3 (some .int) flX10 plX10 knX10 [] _ _ none kX10_slotsWithRow [4] flX10_ok plX10_ok knX10_ok eX10_slotsWithRow oX10_slotsWithRow
    (fun _ h => absurd h List.not_mem_nil) R sok_no E
  show WP_ X G Q 0 0 ad SHS_ σ 0 [(10, 0), (9, 0), (9, 0)] []
  refine B rfl ?_
  have lp_4 : ∀ (nq_ : Nat) (v1 : Int) (v2 : Int), (0 ≤ v2) → (v2 ≤ 4) → (0 ≤ v1) → (v1 ≤ v2) → (4 - v2 : Int).toNat < nq_ → WP_ X G Q 0 0 ad SHS_ σ 4 [(10, 0), (0, v1), (0, v2)] [] := by
    intro nq_
    induction nq_ with
    | zero => intros; omega
    | succ nq_ ih_4 =>
      intro v1 v2 hi4_0 hi4_1 hi4_2 hi4_3 hm4
      refine B rfl ?_
      refine And.intro (fun h1 => ?_) (fun h1 => ?_)
      · skip
        refine B rfl ?_
        refine Exists.intro _ (And.intro rfl ?_)
        exact rfl
      · skip
        refine And.intro (by omega) ?_
        intro z2 ez2 hz2
        have hz2 : (0 : Int) ≤ z2 ∧ z2 ≤ (1 : Int) := hz2
        refine And.intro (fun h3 => ?_) (fun h3 => ?_)
        · skip
          refine B rfl ?_
          refine And.intro (by omega) ?_
          exact ih_4 v1 (v2 + 1) (by show 0 ≤ (v2 + 1); omega) (by show (v2 + 1) ≤ 4; omega) (by show 0 ≤ v1; omega) (by show v1 ≤ (v2 + 1); omega) (by omega)
        · skip
          refine And.intro (by omega) ?_
          refine And.intro (by omega) ?_
          exact ih_4 (v1 + 1) (v2 + 1) (by show 0 ≤ (v2 + 1); omega) (by show (v2 + 1) ≤ 4; omega) (by show 0 ≤ (v1 + 1); omega) (by show (v1 + 1) ≤ (v2 + 1); omega) (by omega)
  exact lp_4 ((4 - 0 : Int).toNat + 1) 0 0 (by show 0 ≤ 0; omega) (by show 0 ≤ 4; omega) (by show 0 ≤ 0; omega) (by show 0 ≤ 0; omega) (by omega)
def as_G_X10_readOrders : Int → List Sv_t := fun a => [(10, 0), (0, a)]
def pre_G_X10_readOrders : Int → Me_t → Prop := fun a σ => (CI σ)
def post_G_X10_readOrders : Int → Me_t → Int → Me_t → Prop := fun a σ z σ' => (CI σ') ∧ (z < 0 ∨ ∀ j : Int, 0 ≤ j → j < σ' 36 2 → 0 ≤ σ' 38 j) ∧ (∀ k j : Int, ¬ (36 ≤ k ∧ k ≤ 38) → σ' k j = σ k j)
set_option maxHeartbeats 1500000 in
set_option maxRecDepth 100000 in
theorem ct_G_X10_readOrders (l : Launch) : CT_ l yX10_readOrders cX10_readOrders 2 (some .int) 4 96 as_G_X10_readOrders (rmI_) pre_G_X10_readOrders post_G_X10_readOrders := by
  refine ct_of (by decide) (fun _ => Nat.le_of_ble_eq_true rfl) ?_
  intro X G Q ad σ a hl hR E hG R hM hv hp
  obtain ⟨a1, rfl⟩ : ∃ q : Int, q = a := ⟨_, rfl⟩
  have r_a1 : -2147483648 ≤ a1 ∧ a1 ≤ 2147483647 := hv (0, a1) (List.mem_of_getElem? (i := 1) rfl)
  have hp0 : CI σ := hp
  have B := @bk_ X G Q 0 0 ad SHS_ RX10 cX10_readOrders 2 (some .int) flX10 plX10 knX10 [(797, 1, TR_ as_G_X10_isSlot (rmI_) pre_G_X10_isSlot post_G_X10_isSlot), (886, 3, TR_ as_G_X2_read (rmI_) pre_G_X2_read post_G_X2_read)] _ _ none kX10_readOrders [] flX10_ok plX10_ok knX10_ok eX10_readOrders oX10_readOrders
    (List.forall_mem_cons.mpr ⟨cok_s (n := 1) (idx := 398) E (ct_G_X10_isSlot X.2.1) (by rw [hR]; decide) (Nat.zero_le _) (Nat.zero_le _) hG ⟨by decide, by decide, by decide⟩ (fun _ => rfl) wl_X10_398 wt_X10_isSlot wn_X10 wc_X10_isSlot, List.forall_mem_cons.mpr ⟨cok_v (t := 21) (c := 2) (N := 3) (n := 2) (idx := 443) E (ct_G_X2_read X.2.1) (by rw [hR]; decide) (Nat.zero_le _) (Nat.zero_le _) hG rfl rfl ⟨rfl, by decide, by decide, by decide⟩ (fun _ => ⟨_, _, rfl, rfl⟩) wl_X10_443 wi_X2_read ws_X2_read wn_X2 wc_X2_read, fun _ h => absurd h List.not_mem_nil⟩⟩) R sok_no E
  show WP_ X G Q 0 0 ad SHS_ σ 0 [(10, 0), (0, a1)] []
  refine B rfl ?_
  refine Exists.intro a1 (And.intro rfl (And.intro True.intro ?_))
  rintro z1 m_ h2
  obtain rfl : σ = m_ := h2.2
  have h3 : (z1 = 1 ∧ 0 ≤ a1 ∧ a1 ≤ 3) ∨ (z1 = 0 ∧ ¬ (0 ≤ a1 ∧ a1 ≤ 3)) := h2.1
  refine And.intro (fun h4 => ?_) (fun h4 => ?_)
  · skip
    refine B rfl ?_
    refine Exists.intro _ (And.intro rfl ?_)
    exact (And.intro hp0 (And.intro (by show (-2) < 0 ∨ ∀ j : Int, 0 ≤ j → j < σ 36 2 → 0 ≤ σ 38 j; first | exact Or.inl (by omega) | (rcases hro with h | h; omega; exact Or.inr h)) (fun k j hk => rfl)))
  · skip
    intro z5 ez5 hz5
    have cz5 : z5 = 5 ∨ z5 = 16 := by have := (hp0).1; omega
    have lz5 : LG σ z5 := by rw [ez5]; exact (hp0).2.1.1
    have uz5 : UW σ z5 := by rw [ez5]; exact (hp0).2.1.2
    intro z6 ez6 hz6
    have hz6 : (0 : Int) ≤ z6 ∧ z6 ≤ (1201 : Int) := hz6
    refine And.intro (fun h7 => ?_) (fun h7 => ?_)
    · skip
      refine B rfl ?_
      refine And.intro (by omega) ?_
      intro z8 ez8 hz8
      have hz8 : (0 : Int) ≤ z8 ∧ z8 ≤ (1 : Int) := hz8
      refine And.intro (fun h9 => ?_) (fun h9 => ?_)
      · skip
        refine B rfl ?_
        refine And.intro (by omega) ?_
        intro z10 ez10 hz10
        have q11 : z5 = z10 := ez5.trans ez10.symm
        subst q11
        refine Exists.intro (78 + 2 * a1, z5) (And.intro rfl (And.intro True.intro ?_))
        intro z12 σ14 h13
        have f15 : ∀ k j : Int, ¬ (36 ≤ k ∧ k ≤ 38) → σ14 k j = σ k j := h13.2
        have h16 : z12 = 0 ∨ ∀ j : Int, 0 ≤ j → j < σ14 36 2 → 0 ≤ σ14 38 j := h13.1
        have hro := h13.1
        try dsimp only at hro
        refine And.intro (fun h17 => ?_) (fun h17 => ?_)
        · skip
          refine B rfl ?_
          refine Exists.intro _ (And.intro rfl ?_)
          have p18 : CI σ14 := CI_fr hp0 (fun k j hk => (f15 _ _ (by omega)))
          try have t19 : σ14 36 2 = σ 36 2 := (f15 _ _ (by omega))
          exact (And.intro p18 (And.intro (by show (-2) < 0 ∨ ∀ j : Int, 0 ≤ j → j < σ14 36 2 → 0 ≤ σ14 38 j; first | exact Or.inl (by omega) | (rcases hro with h | h; omega; exact Or.inr h)) (fun k j hk => (f15 _ _ (by omega)))))
        · skip
          refine B rfl ?_
          refine Exists.intro _ (And.intro rfl ?_)
          have p20 : CI σ14 := CI_fr hp0 (fun k j hk => (f15 _ _ (by omega)))
          try have t21 : σ14 36 2 = σ 36 2 := (f15 _ _ (by omega))
          exact (And.intro p20 (And.intro (by show 0 < 0 ∨ ∀ j : Int, 0 ≤ j → j < σ14 36 2 → 0 ≤ σ14 38 j; first | exact Or.inl (by omega) | (rcases hro with h | h; omega; exact Or.inr h)) (fun k j hk => (f15 _ _ (by omega)))))
      · skip
        refine Exists.intro _ (And.intro rfl ?_)
        exact (And.intro hp0 (And.intro (by show (-6) < 0 ∨ ∀ j : Int, 0 ≤ j → j < σ 36 2 → 0 ≤ σ 38 j; first | exact Or.inl (by omega) | (rcases hro with h | h; omega; exact Or.inr h)) (fun k j hk => rfl)))
    · skip
      refine Exists.intro _ (And.intro rfl ?_)
      exact (And.intro hp0 (And.intro (by show (-2) < 0 ∨ ∀ j : Int, 0 ≤ j → j < σ 36 2 → 0 ≤ σ 38 j; first | exact Or.inl (by omega) | (rcases hro with h | h; omega; exact Or.inr h)) (fun k j hk => rfl)))
def as_G_X10_readSights : Int × Int × Int → List Sv_t := fun a => [(10, 0), (0, a.1), (0, a.2.1), (0, a.2.2)]
def pre_G_X10_readSights : Int × Int × Int → Me_t → Prop := fun a σ => (CI σ)
def post_G_X10_readSights : Int × Int × Int → Me_t → Int → Me_t → Prop := fun a σ z σ' => (CI σ') ∧ (∀ k j : Int, ¬ ((30 ≤ k ∧ k ≤ 33) ∨ k = 39 ∨ k = 40) → σ' k j = σ k j)
set_option maxHeartbeats 1500000 in
set_option maxRecDepth 100000 in
theorem ct_G_X10_readSights (l : Launch) : CT_ l yX10_readSights cX10_readSights 5 (some .int) 5 123 as_G_X10_readSights (rmI_) pre_G_X10_readSights post_G_X10_readSights := by
  refine ct_of (by decide) (fun _ => Nat.le_of_ble_eq_true rfl) ?_
  intro X G Q ad σ a hl hR E hG R hM hv hp
  obtain ⟨a1, a2, a3⟩ := a
  have r_a1 : -2147483648 ≤ a1 ∧ a1 ≤ 2147483647 := hv (0, a1) (List.mem_of_getElem? (i := 1) rfl)
  have r_a2 : -2147483648 ≤ a2 ∧ a2 ≤ 2147483647 := hv (0, a2) (List.mem_of_getElem? (i := 2) rfl)
  have r_a3 : -2147483648 ≤ a3 ∧ a3 ≤ 2147483647 := hv (0, a3) (List.mem_of_getElem? (i := 3) rfl)
  have hp0 : CI σ := hp
  have B := @bk_ X G Q 0 0 ad SHS_ RX10 cX10_readSights 5 (some .int) flX10 plX10 knX10 [(797, 1, TR_ as_G_X10_isSlot (rmI_) pre_G_X10_isSlot post_G_X10_isSlot), (499, 2, TR_ as_G_X10_isSpan (rmI_) pre_G_X10_isSpan post_G_X10_isSpan), (892, 3, TR_ as_G_X6_isTold (rmI_) pre_G_X6_isTold post_G_X6_isTold), (880, 2, TR_ as_G_X0_bringUpToDate (rmV_) pre_G_X0_bringUpToDate post_G_X0_bringUpToDate), (900, 5, TR_ as_G_X6_gather (rmV_) pre_G_X6_gather post_G_X6_gather)] _ _ none kX10_readSights [7, 15, 25, 44, 66] flX10_ok plX10_ok knX10_ok eX10_readSights oX10_readSights
    (List.forall_mem_cons.mpr ⟨cok_s (n := 1) (idx := 398) E (ct_G_X10_isSlot X.2.1) (by rw [hR]; decide) (Nat.zero_le _) (Nat.zero_le _) hG ⟨by decide, by decide, by decide⟩ (fun _ => rfl) wl_X10_398 wt_X10_isSlot wn_X10 wc_X10_isSlot, List.forall_mem_cons.mpr ⟨cok_s (n := 2) (idx := 249) E (ct_G_X10_isSpan X.2.1) (by rw [hR]; decide) (Nat.zero_le _) (Nat.zero_le _) hG ⟨by decide, by decide, by decide⟩ (fun _ => rfl) wl_X10_249 wt_X10_isSpan wn_X10 wc_X10_isSpan, List.forall_mem_cons.mpr ⟨cok_v (t := 24) (c := 6) (N := 5) (n := 2) (idx := 446) E (ct_G_X6_isTold X.2.1) (by rw [hR]; decide) (Nat.zero_le _) (Nat.zero_le _) hG rfl rfl ⟨rfl, by decide, by decide, by decide⟩ (fun _ => ⟨_, _, rfl, rfl⟩) wl_X10_446 wi_X6_isTold ws_X6_isTold wn_X6 wc_X6_isTold, List.forall_mem_cons.mpr ⟨cok_v (t := 15) (c := 0) (N := 9) (n := 1) (idx := 440) E (ct_G_X0_bringUpToDate X.2.1) (by rw [hR]; decide) (Nat.zero_le _) (Nat.zero_le _) hG rfl rfl ⟨rfl, by decide, by decide, by decide⟩ (fun _ => ⟨_, _, rfl, rfl⟩) wl_X10_440 wi_X0_bringUpToDate ws_X0_bringUpToDate wn_X0 wc_X0_bringUpToDate, List.forall_mem_cons.mpr ⟨cok_v (t := 24) (c := 6) (N := 5) (n := 4) (idx := 450) E (ct_G_X6_gather X.2.1) (by rw [hR]; decide) (Nat.zero_le _) (Nat.zero_le _) hG rfl rfl ⟨rfl, by decide, by decide, by decide⟩ (fun _ => ⟨_, _, rfl, rfl⟩) wl_X10_450 wi_X6_gather ws_X6_gather wn_X6 wc_X6_gather, fun _ h => absurd h List.not_mem_nil⟩⟩⟩⟩⟩) R sok_no E
  show WP_ X G Q 0 0 ad SHS_ σ 0 [(10, 0), (0, a1), (0, a2), (0, a3), (9, 0)] []
  refine B rfl ?_
  refine Exists.intro a1 (And.intro rfl (And.intro True.intro ?_))
  rintro z1 m_ h2
  obtain rfl : σ = m_ := h2.2
  have h3 : (z1 = 1 ∧ 0 ≤ a1 ∧ a1 ≤ 3) ∨ (z1 = 0 ∧ ¬ (0 ≤ a1 ∧ a1 ≤ 3)) := h2.1
  refine And.intro (fun h4 => ?_) (fun h4 => ?_)
  · skip
    refine B rfl ?_
    refine Exists.intro _ (And.intro rfl ?_)
    exact (And.intro hp0 (fun k j hk => rfl))
  · skip
    show WP_ X G Q 0 0 ad SHS_ σ 7 [(10, 0), (0, a1), (0, a2), (0, a3), (9, 0)] []
    refine B rfl ?_
    refine Exists.intro (a2, a3) (And.intro rfl (And.intro True.intro ?_))
    rintro z5 m_ h6
    obtain rfl : σ = m_ := h6.2
    have h7 : (z5 = 1 ∧ 0 ≤ a2 ∧ a2 ≤ a3 ∧ a3 ≤ 1999) ∨ z5 = 0 := h6.1
    refine And.intro (fun h8 => ?_) (fun h8 => ?_)
    · skip
      refine B rfl ?_
      refine Exists.intro _ (And.intro rfl ?_)
      exact (And.intro hp0 (fun k j hk => rfl))
    · skip
      show WP_ X G Q 0 0 ad SHS_ σ 15 [(10, 0), (0, a1), (0, a2), (0, a3), (9, 0)] []
      refine B rfl ?_
      intro z9 ez9 hz9
      have cz9 : z9 = 5 ∨ z9 = 16 := by have := (hp0).1; omega
      have lz9 : LG σ z9 := by rw [ez9]; exact (hp0).2.1.1
      have uz9 : UW σ z9 := by rw [ez9]; exact (hp0).2.1.2
      intro z10 ez10 hz10
      have hz10 : (0 : Int) ≤ z10 ∧ z10 ≤ (1201 : Int) := hz10
      refine And.intro (fun h11 => ?_) (fun h11 => ?_)
      · skip
        refine B rfl ?_
        refine And.intro (by omega) ?_
        intro z12 ez12 hz12
        have hz12 : (0 : Int) ≤ z12 ∧ z12 ≤ (1 : Int) := hz12
        refine And.intro (fun h13 => ?_) (fun h13 => ?_)
        · skip
          refine B rfl ?_
          intro z14 ez14 hz14
          have q15 : z9 = z14 := ez9.trans ez14.symm
          subst q15
          intro z16 ez16 hz16
          have hz16 : (0 : Int) ≤ z16 ∧ z16 ≤ (3 : Int) := hz16
          refine Exists.intro (78 + 2 * a1, z16) (And.intro rfl (And.intro (And.intro (by show 0 ≤ z16; omega) (by show z16 ≤ 3; omega)) ?_))
          rintro z17 m_ h18
          obtain rfl : σ = m_ := h18.2
          have h19 : z17 = 0 ∨ TD σ (78 + 2 * a1) := h18.1
          have hst := h18.1
          try dsimp only at hst
          refine And.intro (fun h20 => ?_) (fun h20 => ?_)
          · skip
            refine B rfl ?_
            have htd : TD σ (78 + 2 * a1) := by
              rcases hst with h | h
              · omega
              · exact h
            intro z21 ez21 hz21
            have q22 : z9 = z21 := ez9.trans ez21.symm
            subst q22
            have p23 : DT σ := (hp0).2.2.2
            refine Exists.intro z9 (And.intro rfl (And.intro (And.intro lz9 p23) ?_))
            intro z24 σ26 h25
            have f27 : ∀ k j : Int, ¬ (30 ≤ k ∧ k ≤ 33) → σ26 k j = σ k j := h25.2
            have h28 : DT σ26 := h25.1
            have ciT : CI σ26 := CI_told hp0 h28 (fun k j hk => (f27 _ _ (by omega)))
            have p29 : TD σ26 (78 + 2 * a1) := TD_fr htd (fun k j hk => (f27 _ _ (by omega)))
            refine Exists.intro (78 + 2 * a1, a2, a3) (And.intro rfl (And.intro (And.intro h28 (And.intro p29 (And.intro (by show 0 ≤ a2; omega) (And.intro (by show a2 ≤ a3 + 1; omega) (by show a3 ≤ 1999; omega))))) ?_))
            intro z30 σ32 h31
            have f33 : ∀ k j : Int, ¬ (k = 39 ∨ k = 40) → σ32 k j = σ26 k j := h31
            refine Exists.intro _ (And.intro rfl ?_)
            have p34 : CI σ32 := CI_fr ciT (fun k j hk => (f33 _ _ (by omega)))
            exact (And.intro p34 (fun k j hk => ((f33 _ _ (by omega)).trans (f27 _ _ (by omega)))))
          · skip
            show WP_ X G Q 0 0 ad SHS_ σ 66 [(10, 0), (0, a1), (0, a2), (0, a3), (40, 78 + 2 * a1)] []
            refine B rfl ?_
            refine Exists.intro _ (And.intro rfl ?_)
            exact (And.intro hp0 (fun k j hk => rfl))
        · skip
          show WP_ X G Q 0 0 ad SHS_ σ 44 [(10, 0), (0, a1), (0, a2), (0, a3), (40, 78 + 2 * a1)] []
          refine B rfl ?_
          refine Exists.intro _ (And.intro rfl ?_)
          exact (And.intro hp0 (fun k j hk => rfl))
      · skip
        show WP_ X G Q 0 0 ad SHS_ σ 25 [(10, 0), (0, a1), (0, a2), (0, a3), (9, 0)] []
        refine B rfl ?_
        refine Exists.intro _ (And.intro rfl ?_)
        exact (And.intro hp0 (fun k j hk => rfl))
def as_G_X10_feed : Int × Int × Int × Int × Int → List Sv_t := fun a => [(10, 0), (0, a.1), (0, a.2.1), (0, a.2.2.1), (0, a.2.2.2.1), (0, a.2.2.2.2)]
def pre_G_X10_feed : Int × Int × Int × Int × Int → Me_t → Prop := fun a σ => (CI σ)
def post_G_X10_feed : Int × Int × Int × Int × Int → Me_t → Int → Me_t → Prop := fun a σ z σ' => (CI σ') ∧ (∀ k j : Int, ¬ (k ≤ 27 ∨ (29 ≤ k ∧ k ≤ 77)) → σ' k j = σ k j)
set_option maxHeartbeats 1500000 in
set_option maxRecDepth 100000 in
theorem ct_G_X10_feed (l : Launch) : CT_ l yX10_feed cX10_feed 6 (some .int) 1 22 as_G_X10_feed (rmI_) pre_G_X10_feed post_G_X10_feed := by
  refine ct_of (by decide) (fun _ => Nat.le_of_ble_eq_true rfl) ?_
  intro X G Q ad σ a hl hR E hG R hM hv hp
  obtain ⟨a1, a2, a3, a4, a5⟩ := a
  have r_a1 : -2147483648 ≤ a1 ∧ a1 ≤ 2147483647 := hv (0, a1) (List.mem_of_getElem? (i := 1) rfl)
  have r_a2 : -2147483648 ≤ a2 ∧ a2 ≤ 2147483647 := hv (0, a2) (List.mem_of_getElem? (i := 2) rfl)
  have r_a3 : -2147483648 ≤ a3 ∧ a3 ≤ 2147483647 := hv (0, a3) (List.mem_of_getElem? (i := 3) rfl)
  have r_a4 : -2147483648 ≤ a4 ∧ a4 ≤ 2147483647 := hv (0, a4) (List.mem_of_getElem? (i := 4) rfl)
  have r_a5 : -2147483648 ≤ a5 ∧ a5 ≤ 2147483647 := hv (0, a5) (List.mem_of_getElem? (i := 5) rfl)
  have hp0 : CI σ := hp
  have B := @bk_ X G Q 0 0 ad SHS_ RX10 cX10_feed 6 (some .int) flX10 plX10 knX10 [(186, 2, TR_ as_G_X8_append (rmV_) pre_G_X8_append post_G_X8_append)] _ _ none kX10_feed [] flX10_ok plX10_ok knX10_ok eX10_feed oX10_feed
    (List.forall_mem_cons.mpr ⟨cok_v (t := 1) (c := 8) (N := 2) (n := 1) (idx := 93) E (ct_G_X8_append X.2.1) (by rw [hR]; decide) (Nat.zero_le _) (Nat.zero_le _) hG rfl rfl ⟨rfl, by decide, by decide, by decide⟩ (fun _ => ⟨_, _, rfl, rfl⟩) wl_X10_93 wi_X8_append ws_X8_append wn_X8 wc_X8_append, fun _ h => absurd h List.not_mem_nil⟩) R sok_no E
  show WP_ X G Q 0 0 ad SHS_ σ 0 [(10, 0), (0, a1), (0, a2), (0, a3), (0, a4), (0, a5)] []
  refine B rfl ?_
  intro z1 ez1 hz1
  have hz1 : (0 : Int) ≤ z1 ∧ z1 ≤ (1200 : Int) := hz1
  refine And.intro (by omega) ?_
  refine And.intro (fun h2 => ?_) (fun h2 => ?_)
  · skip
    refine B rfl ?_
    refine Exists.intro a1 (And.intro rfl (And.intro True.intro ?_))
    intro z3 σ5 h4
    have f6 : ∀ k j : Int, ¬ (k = 1 ∨ k = 2) → σ5 k j = σ k j := h4
    refine Exists.intro a2 (And.intro rfl (And.intro True.intro ?_))
    intro z7 σ9 h8
    have f10 : ∀ k j : Int, ¬ (k = 1 ∨ k = 2) → σ9 k j = σ5 k j := h8
    refine Exists.intro a3 (And.intro rfl (And.intro True.intro ?_))
    intro z11 σ13 h12
    have f14 : ∀ k j : Int, ¬ (k = 1 ∨ k = 2) → σ13 k j = σ9 k j := h12
    refine Exists.intro a4 (And.intro rfl (And.intro True.intro ?_))
    intro z15 σ17 h16
    have f18 : ∀ k j : Int, ¬ (k = 1 ∨ k = 2) → σ17 k j = σ13 k j := h16
    refine Exists.intro a5 (And.intro rfl (And.intro True.intro ?_))
    intro z19 σ21 h20
    have f22 : ∀ k j : Int, ¬ (k = 1 ∨ k = 2) → σ21 k j = σ17 k j := h20
    intro z23 ez23 hz23
    have hz23 : (0 : Int) ≤ z23 ∧ z23 ≤ (1200 : Int) := hz23
    try have t24 : σ21 1 1 = σ 1 1 := ((f22 _ _ (by omega)).trans ((f18 _ _ (by omega)).trans ((f14 _ _ (by omega)).trans ((f10 _ _ (by omega)).trans (f6 _ _ (by omega))))))
    refine Exists.intro _ (And.intro rfl ?_)
    have p25 : CI σ21 := CI_fr hp0 (fun k j hk => ((f22 _ _ (by omega)).trans ((f18 _ _ (by omega)).trans ((f14 _ _ (by omega)).trans ((f10 _ _ (by omega)).trans (f6 _ _ (by omega)))))))
    exact (And.intro p25 (fun k j hk => ((f22 _ _ (by omega)).trans ((f18 _ _ (by omega)).trans ((f14 _ _ (by omega)).trans ((f10 _ _ (by omega)).trans (f6 _ _ (by omega))))))))
  · skip
    refine Exists.intro _ (And.intro rfl ?_)
    exact (And.intro hp0 (fun k j hk => rfl))
def as_G_X10_end : Int → List Sv_t := fun a => [(10, 0), (0, a)]
def pre_G_X10_end : Int → Me_t → Prop := fun a σ => (CI σ)
def post_G_X10_end : Int → Me_t → Int → Me_t → Prop := fun a σ z σ' => (CI σ') ∧ (∀ k j : Int, ¬ (k ≤ 27 ∨ (29 ≤ k ∧ k ≤ 77)) → σ' k j = σ k j)
set_option maxHeartbeats 1500000 in
set_option maxRecDepth 100000 in
theorem ct_G_X10_end (l : Launch) : CT_ l yX10_end cX10_end 2 (some .int) 0 0 as_G_X10_end (rmI_) pre_G_X10_end post_G_X10_end := by
  refine ct_of (by decide) (fun _ => Nat.le_of_ble_eq_true rfl) ?_
  intro X G Q ad σ a hl hR E hG R hM hv hp
  obtain ⟨a1, rfl⟩ : ∃ q : Int, q = a := ⟨_, rfl⟩
  have r_a1 : -2147483648 ≤ a1 ∧ a1 ≤ 2147483647 := hv (0, a1) (List.mem_of_getElem? (i := 1) rfl)
  have hp0 : CI σ := hp
  have B := @bk_ X G Q 0 0 ad SHS_ RX10 cX10_end 2 (some .int) flX10 plX10 knX10 [] _ _ none kX10_end [] flX10_ok plX10_ok knX10_ok eX10_end oX10_end
    (fun _ h => absurd h List.not_mem_nil) R sok_no E
  show WP_ X G Q 0 0 ad SHS_ σ 0 [(10, 0), (0, a1)] []
  refine B rfl ?_
  refine And.intro (fun h1 => ?_) (fun h1 => ?_)
  · skip
    refine B rfl ?_
    refine Exists.intro _ (And.intro rfl ?_)
    exact (And.intro hp0 (fun k j hk => rfl))
  · skip
    intro z2 ez2 hz2
    have hz2 : (0 : Int) ≤ z2 ∧ z2 ≤ (1200 : Int) := hz2
    refine And.intro (fun h3 => ?_) (fun h3 => ?_)
    · skip
      refine B rfl ?_
      refine And.intro (by omega) ?_
      intro σ4 e5
      refine Exists.intro _ (And.intro rfl ?_)
      have p6 : CI σ4 := CI_fr hp0 (fun k j hk => (ups_r e5 (by omega)))
      exact (And.intro p6 (fun k j hk => (ups_r e5 (by omega))))
    · skip
      refine Exists.intro _ (And.intro rfl ?_)
      exact (And.intro hp0 (fun k j hk => rfl))
def as_G_X10_fault : Int → List Sv_t := fun a => [(10, 0), (0, a)]
def pre_G_X10_fault : Int → Me_t → Prop := fun a σ => (CI σ)
def post_G_X10_fault : Int → Me_t → Int → Me_t → Prop := fun a σ z σ' => (CI σ') ∧ (∀ k j : Int, ¬ (k ≤ 27 ∨ (29 ≤ k ∧ k ≤ 77)) → σ' k j = σ k j)
set_option maxHeartbeats 1500000 in
set_option maxRecDepth 100000 in
theorem ct_G_X10_fault (l : Launch) : CT_ l yX10_fault cX10_fault 2 (some .int) 0 0 as_G_X10_fault (rmI_) pre_G_X10_fault post_G_X10_fault := by
  refine ct_of (by decide) (fun _ => Nat.le_of_ble_eq_true rfl) ?_
  intro X G Q ad σ a hl hR E hG R hM hv hp
  obtain ⟨a1, rfl⟩ : ∃ q : Int, q = a := ⟨_, rfl⟩
  have r_a1 : -2147483648 ≤ a1 ∧ a1 ≤ 2147483647 := hv (0, a1) (List.mem_of_getElem? (i := 1) rfl)
  have hp0 : CI σ := hp
  have B := @bk_ X G Q 0 0 ad SHS_ RX10 cX10_fault 2 (some .int) flX10 plX10 knX10 [] _ _ none kX10_fault [] flX10_ok plX10_ok knX10_ok eX10_fault oX10_fault
    (fun _ h => absurd h List.not_mem_nil) R sok_no E
  show WP_ X G Q 0 0 ad SHS_ σ 0 [(10, 0), (0, a1)] []
  refine B rfl ?_
  refine And.intro (fun h1 => ?_) (fun h1 => ?_)
  · skip
    refine B rfl ?_
    refine And.intro (fun h2 => ?_) (fun h2 => ?_)
    · skip
      refine B rfl ?_
      refine Exists.intro _ (And.intro rfl ?_)
      exact (And.intro hp0 (fun k j hk => rfl))
    · skip
      intro z3 ez3 hz3
      have hz3 : ((-1) : Int) ≤ z3 ∧ z3 ≤ (1200 : Int) := hz3
      refine B rfl ?_
      refine Exists.intro _ (And.intro rfl ?_)
      exact (And.intro hp0 (fun k j hk => rfl))
  · skip
    intro z4 ez4 hz4
    have hz4 : (0 : Int) ≤ z4 ∧ z4 ≤ (3 : Int) := hz4
    refine Exists.intro _ (And.intro rfl ?_)
    exact (And.intro hp0 (fun k j hk => rfl))
def as_G_X10_land : Int × Int → List Sv_t := fun a => [(10, 0), (0, a.1), (0, a.2)]
def pre_G_X10_land : Int × Int → Me_t → Prop := fun a σ => (CI σ)
def post_G_X10_land : Int × Int → Me_t → Int → Me_t → Prop := fun a σ z σ' => (CI σ') ∧ (∀ k j : Int, ¬ (k ≤ 27 ∨ (29 ≤ k ∧ k ≤ 77)) → σ' k j = σ k j)
set_option maxHeartbeats 1500000 in
set_option maxRecDepth 100000 in
theorem ct_G_X10_land (l : Launch) : CT_ l yX10_land cX10_land 4 (some .int) 1 21 as_G_X10_land (rmI_) pre_G_X10_land post_G_X10_land := by
  refine ct_of (by decide) (fun _ => Nat.le_of_ble_eq_true rfl) ?_
  intro X G Q ad σ a hl hR E hG R hM hv hp
  obtain ⟨a1, a2⟩ := a
  have r_a1 : -2147483648 ≤ a1 ∧ a1 ≤ 2147483647 := hv (0, a1) (List.mem_of_getElem? (i := 1) rfl)
  have r_a2 : -2147483648 ≤ a2 ∧ a2 ≤ 2147483647 := hv (0, a2) (List.mem_of_getElem? (i := 2) rfl)
  have hp0 : CI σ := hp
  have B := @bk_ X G Q 0 0 ad SHS_ RX10 cX10_land 4 (some .int) flX10 plX10 knX10 [(226, 2, TR_ as_G_X9_hasLand (rmI_) pre_G_X9_hasLand post_G_X9_hasLand)] _ _ none kX10_land [] flX10_ok plX10_ok knX10_ok eX10_land oX10_land
    (List.forall_mem_cons.mpr ⟨cok_v (t := 5) (c := 9) (N := 10) (n := 1) (idx := 113) E (ct_G_X9_hasLand X.2.1) (by rw [hR]; decide) (Nat.zero_le _) (Nat.zero_le _) hG rfl rfl ⟨rfl, by decide, by decide, by decide⟩ (fun _ => ⟨_, _, rfl, rfl⟩) wl_X10_113 wi_X9_hasLand ws_X9_hasLand wn_X9 wc_X9_hasLand, fun _ h => absurd h List.not_mem_nil⟩) R sok_no E
  show WP_ X G Q 0 0 ad SHS_ σ 0 [(10, 0), (0, a1), (0, a2), (9, 0)] []
  refine B rfl ?_
  intro z1 ez1 hz1
  have cz1 : z1 = 5 ∨ z1 = 16 := by have := (hp0).1; omega
  have lz1 : LG σ z1 := by rw [ez1]; exact (hp0).2.1.1
  have uz1 : UW σ z1 := by rw [ez1]; exact (hp0).2.1.2
  refine Exists.intro (z1, a1) (And.intro rfl (And.intro True.intro ?_))
  rintro z2 m_ h3
  obtain rfl : σ = m_ := h3.2
  have h4 : (z2 = 1 ∧ 0 ≤ a1 ∧ a1 ≤ 2 ∧ a1 < σ z1 2) ∨ z2 = 0 := h3.1
  refine And.intro (fun h5 => ?_) (fun h5 => ?_)
  · skip
    refine B rfl ?_
    intro z6 ez6 hz6
    have q7 : z1 = z6 := ez1.trans ez6.symm
    subst q7
    refine And.intro (by omega) ?_
    refine And.intro (fun h8 => ?_) ?_
    · skip
      refine B rfl ?_
      refine Exists.intro _ (And.intro rfl ?_)
      exact (And.intro hp0 (fun k j hk => rfl))
    refine And.intro (fun h8 => ?_) ?_
    · skip
      refine B rfl ?_
      intro z9 ez9 hz9
      have hz9 : (0 : Int) ≤ z9 ∧ z9 ≤ (999 : Int) := hz9
      refine Exists.intro _ (And.intro rfl ?_)
      exact (And.intro hp0 (fun k j hk => rfl))
    refine And.intro (fun h8 => ?_) ?_
    · skip
      refine B rfl ?_
      intro z10 ez10 hz10
      have hz10 : (0 : Int) ≤ z10 ∧ z10 ≤ (10 : Int) := hz10
      refine Exists.intro _ (And.intro rfl ?_)
      exact (And.intro hp0 (fun k j hk => rfl))
    refine And.intro (fun h8 => ?_) ?_
    · skip
      refine B rfl ?_
      intro z11 ez11 hz11
      have hz11 : (0 : Int) ≤ z11 ∧ z11 ≤ (1022 : Int) := hz11
      refine Exists.intro _ (And.intro rfl ?_)
      exact (And.intro hp0 (fun k j hk => rfl))
    refine And.intro (fun h8 => ?_) ?_
    · skip
      refine B rfl ?_
      intro z12 ez12 hz12
      have hz12 : (0 : Int) ≤ z12 ∧ z12 ≤ (8 : Int) := hz12
      refine Exists.intro _ (And.intro rfl ?_)
      exact (And.intro hp0 (fun k j hk => rfl))
    refine And.intro (fun h8 => ?_) ?_
    · skip
      refine B rfl ?_
      intro z13 ez13 hz13
      have hz13 : (0 : Int) ≤ z13 ∧ z13 ≤ (9 : Int) := hz13
      refine Exists.intro _ (And.intro rfl ?_)
      exact (And.intro hp0 (fun k j hk => rfl))
    refine And.intro (fun h8 => ?_) ?_
    · skip
      refine B rfl ?_
      intro z14 ez14 hz14
      have hz14 : ((-1) : Int) ≤ z14 ∧ z14 ≤ (7 : Int) := hz14
      refine Exists.intro _ (And.intro rfl ?_)
      exact (And.intro hp0 (fun k j hk => rfl))
    refine And.intro (fun h8 => ?_) ?_
    · skip
      refine B rfl ?_
      intro z15 ez15 hz15
      have hz15 : (0 : Int) ≤ z15 ∧ z15 ≤ (9 : Int) := hz15
      refine Exists.intro _ (And.intro rfl ?_)
      exact (And.intro hp0 (fun k j hk => rfl))
    exact True.intro
  · skip
    refine Exists.intro _ (And.intro rfl ?_)
    exact (And.intro hp0 (fun k j hk => rfl))
def as_G_X10_month : Int × Int × Int → List Sv_t := fun a => [(10, 0), (0, a.1), (0, a.2.1), (0, a.2.2)]
def pre_G_X10_month : Int × Int × Int → Me_t → Prop := fun a σ => (CI σ)
def post_G_X10_month : Int × Int × Int → Me_t → Int → Me_t → Prop := fun a σ z σ' => (CI σ') ∧ (∀ k j : Int, ¬ (k ≤ 27 ∨ (29 ≤ k ∧ k ≤ 77)) → σ' k j = σ k j)
set_option maxHeartbeats 1500000 in
set_option maxRecDepth 100000 in
theorem ct_G_X10_month (l : Launch) : CT_ l yX10_month cX10_month 4 (some .int) 2 43 as_G_X10_month (rmI_) pre_G_X10_month post_G_X10_month := by
  refine ct_of (by decide) (fun _ => Nat.le_of_ble_eq_true rfl) ?_
  intro X G Q ad σ a hl hR E hG R hM hv hp
  obtain ⟨a1, a2, a3⟩ := a
  have r_a1 : -2147483648 ≤ a1 ∧ a1 ≤ 2147483647 := hv (0, a1) (List.mem_of_getElem? (i := 1) rfl)
  have r_a2 : -2147483648 ≤ a2 ∧ a2 ≤ 2147483647 := hv (0, a2) (List.mem_of_getElem? (i := 2) rfl)
  have r_a3 : -2147483648 ≤ a3 ∧ a3 ≤ 2147483647 := hv (0, a3) (List.mem_of_getElem? (i := 3) rfl)
  have hp0 : CI σ := hp
  have B := @bk_ X G Q 0 0 ad SHS_ RX10 cX10_month 4 (some .int) flX10 plX10 knX10 [(288, 3, TR_ as_G_X9_hasMonth (rmI_) pre_G_X9_hasMonth post_G_X9_hasMonth), (297, 1, TR_ as_G_X10_isYear (rmI_) pre_G_X10_isYear post_G_X10_isYear), (302, 3, TR_ as_G_X1_lengthIn (rmI_) pre_G_X1_lengthIn post_G_X1_lengthIn)] _ _ none kX10_month [] flX10_ok plX10_ok knX10_ok eX10_month oX10_month
    (List.forall_mem_cons.mpr ⟨cok_v (t := 5) (c := 9) (N := 10) (n := 2) (idx := 144) E (ct_G_X9_hasMonth X.2.1) (by rw [hR]; decide) (Nat.zero_le _) (Nat.zero_le _) hG rfl rfl ⟨rfl, by decide, by decide, by decide⟩ (fun _ => ⟨_, _, rfl, rfl⟩) wl_X10_144 wi_X9_hasMonth ws_X9_hasMonth wn_X9 wc_X9_hasMonth, List.forall_mem_cons.mpr ⟨cok_s (n := 1) (idx := 148) E (ct_G_X10_isYear X.2.1) (by rw [hR]; decide) (Nat.zero_le _) (Nat.zero_le _) hG ⟨by decide, by decide, by decide⟩ (fun _ => rfl) wl_X10_148 wt_X10_isYear wn_X10 wc_X10_isYear, List.forall_mem_cons.mpr ⟨cok_v (t := 10) (c := 1) (N := 9) (n := 2) (idx := 151) E (ct_G_X1_lengthIn X.2.1) (by rw [hR]; decide) (Nat.zero_le _) (Nat.zero_le _) hG rfl rfl ⟨rfl, by decide, by decide, by decide⟩ (fun _ => ⟨_, _, rfl, rfl⟩) wl_X10_151 wi_X1_lengthIn ws_X1_lengthIn wn_X1 wc_X1_lengthIn, fun _ h => absurd h List.not_mem_nil⟩⟩⟩) R sok_no E
  show WP_ X G Q 0 0 ad SHS_ σ 0 [(10, 0), (0, a1), (0, a2), (0, a3)] []
  refine B rfl ?_
  intro z1 ez1 hz1
  have cz1 : z1 = 5 ∨ z1 = 16 := by have := (hp0).1; omega
  have lz1 : LG σ z1 := by rw [ez1]; exact (hp0).2.1.1
  have uz1 : UW σ z1 := by rw [ez1]; exact (hp0).2.1.2
  refine Exists.intro (z1, a1, a2) (And.intro rfl (And.intro True.intro ?_))
  rintro z2 m_ h3
  obtain rfl : σ = m_ := h3.2
  have h4 : (z2 = 1 ∧ 0 ≤ a1 ∧ a1 ≤ 2 ∧ a1 < σ z1 2 ∧ 0 ≤ a2 ∧ a2 ≤ 7) ∨ z2 = 0 := h3.1
  refine And.intro (fun h5 => ?_) (fun h5 => ?_)
  · skip
    refine B rfl ?_
    refine Exists.intro _ (And.intro rfl ?_)
    exact (And.intro hp0 (fun k j hk => rfl))
  · skip
    refine Exists.intro a3 (And.intro rfl (And.intro True.intro ?_))
    rintro z6 m_ h7
    obtain rfl : σ = m_ := h7.2
    have h8 : (z6 = 1 ∧ 0 ≤ a3 ∧ a3 ≤ 1999) ∨ z6 = 0 := h7.1
    refine And.intro (fun h9 => ?_) (fun h9 => ?_)
    · skip
      refine B rfl ?_
      intro z10 ez10 hz10
      have q11 : z1 = z10 := ez1.trans ez10.symm
      subst q11
      refine And.intro (by omega) ?_
      refine Exists.intro ((z1 + 1) + 4 + 2 * a1, a2, a3) (And.intro rfl (And.intro (And.intro (by show 0 ≤ a2; omega) (And.intro (by show a2 ≤ 7; omega) (by show 0 ≤ a3; omega))) ?_))
      rintro z12 m_ h13
      obtain rfl : σ = m_ := h13.2
      have h14 : 0 ≤ z12 ∧ z12 ≤ 69 := h13.1
      refine Exists.intro _ (And.intro rfl ?_)
      exact (And.intro hp0 (fun k j hk => rfl))
    · skip
      refine Exists.intro _ (And.intro rfl ?_)
      exact (And.intro hp0 (fun k j hk => rfl))
def as_G_X10_feast : Int × Int → List Sv_t := fun a => [(10, 0), (0, a.1), (0, a.2)]
def pre_G_X10_feast : Int × Int → Me_t → Prop := fun a σ => (CI σ)
def post_G_X10_feast : Int × Int → Me_t → Int → Me_t → Prop := fun a σ z σ' => (CI σ') ∧ (∀ k j : Int, ¬ (k ≤ 27 ∨ (29 ≤ k ∧ k ≤ 77)) → σ' k j = σ k j)
set_option maxHeartbeats 1500000 in
set_option maxRecDepth 100000 in
theorem ct_G_X10_feast (l : Launch) : CT_ l yX10_feast cX10_feast 3 (some .int) 0 0 as_G_X10_feast (rmI_) pre_G_X10_feast post_G_X10_feast := by
  refine ct_of (by decide) (fun _ => Nat.le_of_ble_eq_true rfl) ?_
  intro X G Q ad σ a hl hR E hG R hM hv hp
  obtain ⟨a1, a2⟩ := a
  have r_a1 : -2147483648 ≤ a1 ∧ a1 ≤ 2147483647 := hv (0, a1) (List.mem_of_getElem? (i := 1) rfl)
  have r_a2 : -2147483648 ≤ a2 ∧ a2 ≤ 2147483647 := hv (0, a2) (List.mem_of_getElem? (i := 2) rfl)
  have hp0 : CI σ := hp
  have B := @bk_ X G Q 0 0 ad SHS_ RX10 cX10_feast 3 (some .int) flX10 plX10 knX10 [] _ _ none kX10_feast [] flX10_ok plX10_ok knX10_ok eX10_feast oX10_feast
    (fun _ h => absurd h List.not_mem_nil) R sok_no E
  show WP_ X G Q 0 0 ad SHS_ σ 0 [(10, 0), (0, a1), (0, a2)] []
  refine B rfl ?_
  refine And.intro (fun h1 => ?_) (fun h1 => ?_)
  · skip
    refine B rfl ?_
    refine Exists.intro _ (And.intro rfl ?_)
    exact (And.intro hp0 (fun k j hk => rfl))
  · skip
    intro z2 ez2 hz2
    have cz2 : z2 = 5 ∨ z2 = 16 := by have := (hp0).1; omega
    have lz2 : LG σ z2 := by rw [ez2]; exact (hp0).2.1.1
    have uz2 : UW σ z2 := by rw [ez2]; exact (hp0).2.1.2
    intro z3 ez3 hz3
    have hz3 : (0 : Int) ≤ z3 ∧ z3 ≤ (12 : Int) := hz3
    refine And.intro (fun h4 => ?_) (fun h4 => ?_)
    · skip
      refine B rfl ?_
      refine Exists.intro _ (And.intro rfl ?_)
      exact (And.intro hp0 (fun k j hk => rfl))
    · skip
      refine And.intro (fun h5 => ?_) (fun h5 => ?_)
      · skip
        refine B rfl ?_
        refine Exists.intro _ (And.intro rfl ?_)
        exact (And.intro hp0 (fun k j hk => rfl))
      · skip
        refine And.intro (fun h6 => ?_) (fun h6 => ?_)
        · skip
          refine B rfl ?_
          intro z7 ez7 hz7
          have q8 : z2 = z7 := ez2.trans ez7.symm
          subst q8
          refine And.intro (by omega) ?_
          refine And.intro (by omega) ?_
          refine And.intro (by omega) ?_
          intro z9 ez9 hz9
          have hz9 : (0 : Int) ≤ z9 ∧ z9 ≤ (59 : Int) := hz9
          refine Exists.intro _ (And.intro rfl ?_)
          exact (And.intro hp0 (fun k j hk => rfl))
        · skip
          refine Exists.intro _ (And.intro rfl ?_)
          exact (And.intro hp0 (fun k j hk => rfl))
def as_G_X10_truce : Int × Int → List Sv_t := fun a => [(10, 0), (0, a.1), (0, a.2)]
def pre_G_X10_truce : Int × Int → Me_t → Prop := fun a σ => (CI σ)
def post_G_X10_truce : Int × Int → Me_t → Int → Me_t → Prop := fun a σ z σ' => (CI σ') ∧ (∀ k j : Int, ¬ (k ≤ 27 ∨ (29 ≤ k ∧ k ≤ 77)) → σ' k j = σ k j)
set_option maxHeartbeats 1500000 in
set_option maxRecDepth 100000 in
theorem ct_G_X10_truce (l : Launch) : CT_ l yX10_truce cX10_truce 3 (some .int) 0 0 as_G_X10_truce (rmI_) pre_G_X10_truce post_G_X10_truce := by
  refine ct_of (by decide) (fun _ => Nat.le_of_ble_eq_true rfl) ?_
  intro X G Q ad σ a hl hR E hG R hM hv hp
  obtain ⟨a1, a2⟩ := a
  have r_a1 : -2147483648 ≤ a1 ∧ a1 ≤ 2147483647 := hv (0, a1) (List.mem_of_getElem? (i := 1) rfl)
  have r_a2 : -2147483648 ≤ a2 ∧ a2 ≤ 2147483647 := hv (0, a2) (List.mem_of_getElem? (i := 2) rfl)
  have hp0 : CI σ := hp
  have B := @bk_ X G Q 0 0 ad SHS_ RX10 cX10_truce 3 (some .int) flX10 plX10 knX10 [] _ _ none kX10_truce [] flX10_ok plX10_ok knX10_ok eX10_truce oX10_truce
    (fun _ h => absurd h List.not_mem_nil) R sok_no E
  show WP_ X G Q 0 0 ad SHS_ σ 0 [(10, 0), (0, a1), (0, a2)] []
  refine B rfl ?_
  refine And.intro (fun h1 => ?_) (fun h1 => ?_)
  · skip
    refine B rfl ?_
    refine Exists.intro _ (And.intro rfl ?_)
    exact (And.intro hp0 (fun k j hk => rfl))
  · skip
    intro z2 ez2 hz2
    have cz2 : z2 = 5 ∨ z2 = 16 := by have := (hp0).1; omega
    have lz2 : LG σ z2 := by rw [ez2]; exact (hp0).2.1.1
    have uz2 : UW σ z2 := by rw [ez2]; exact (hp0).2.1.2
    intro z3 ez3 hz3
    have hz3 : (0 : Int) ≤ z3 ∧ z3 ≤ (12 : Int) := hz3
    refine And.intro (fun h4 => ?_) (fun h4 => ?_)
    · skip
      refine B rfl ?_
      refine Exists.intro _ (And.intro rfl ?_)
      exact (And.intro hp0 (fun k j hk => rfl))
    · skip
      refine And.intro (fun h5 => ?_) (fun h5 => ?_)
      · skip
        refine B rfl ?_
        refine Exists.intro _ (And.intro rfl ?_)
        exact (And.intro hp0 (fun k j hk => rfl))
      · skip
        refine And.intro (fun h6 => ?_) (fun h6 => ?_)
        · skip
          refine B rfl ?_
          intro z7 ez7 hz7
          have q8 : z2 = z7 := ez2.trans ez7.symm
          subst q8
          refine And.intro (by omega) ?_
          refine And.intro (by omega) ?_
          refine And.intro (by omega) ?_
          intro z9 ez9 hz9
          have hz9 : (0 : Int) ≤ z9 ∧ z9 ≤ (1999 : Int) := hz9
          refine Exists.intro _ (And.intro rfl ?_)
          exact (And.intro hp0 (fun k j hk => rfl))
        · skip
          refine Exists.intro _ (And.intro rfl ?_)
          exact (And.intro hp0 (fun k j hk => rfl))
def as_G_X10_date : Int × Int × Int → List Sv_t := fun a => [(10, 0), (0, a.1), (0, a.2.1), (0, a.2.2)]
def pre_G_X10_date : Int × Int × Int → Me_t → Prop := fun a σ => (CI σ)
def post_G_X10_date : Int × Int × Int → Me_t → Int → Me_t → Prop := fun a σ z σ' => (CI σ') ∧ (∀ k j : Int, ¬ (k ≤ 27 ∨ (29 ≤ k ∧ k ≤ 77)) → σ' k j = σ k j)
set_option maxHeartbeats 1500000 in
set_option maxRecDepth 100000 in
theorem ct_G_X10_date (l : Launch) : CT_ l yX10_date cX10_date 4 (some .int) 6 143 as_G_X10_date (rmI_) pre_G_X10_date post_G_X10_date := by
  refine ct_of (by decide) (fun _ => Nat.le_of_ble_eq_true rfl) ?_
  intro X G Q ad σ a hl hR E hG R hM hv hp
  obtain ⟨a1, a2, a3⟩ := a
  have r_a1 : -2147483648 ≤ a1 ∧ a1 ≤ 2147483647 := hv (0, a1) (List.mem_of_getElem? (i := 1) rfl)
  have r_a2 : -2147483648 ≤ a2 ∧ a2 ≤ 2147483647 := hv (0, a2) (List.mem_of_getElem? (i := 2) rfl)
  have r_a3 : -2147483648 ≤ a3 ∧ a3 ≤ 2147483647 := hv (0, a3) (List.mem_of_getElem? (i := 3) rfl)
  have hp0 : CI σ := hp
  have B := @bk_ X G Q 0 0 ad SHS_ RX10 cX10_date 4 (some .int) flX10 plX10 knX10 [(336, 3, TR_ as_G_X10_isLandAndDay (rmI_) pre_G_X10_isLandAndDay post_G_X10_isLandAndDay), (342, 1, TR_ as_G_X10_told (rmR_ 25) pre_G_X10_told post_G_X10_told), (350, 4, TR_ as_G_X0_part (rmI_) pre_G_X0_part post_G_X0_part)] _ _ none kX10_date [] flX10_ok plX10_ok knX10_ok eX10_date oX10_date
    (List.forall_mem_cons.mpr ⟨cok_v (t := 0) (c := 10) (N := 14) (n := 2) (idx := 168) E (ct_G_X10_isLandAndDay X.2.1) (by rw [hR]; decide) (Nat.zero_le _) (Nat.zero_le _) hG rfl rfl ⟨rfl, by decide, by decide, by decide⟩ (fun _ => ⟨_, _, rfl, rfl⟩) wl_X10_168 wi_X10_isLandAndDay ws_X10_isLandAndDay wn_X10 wc_X10_isLandAndDay, List.forall_mem_cons.mpr ⟨cok_v (t := 0) (c := 10) (N := 14) (n := 0) (idx := 171) E (ct_G_X10_told X.2.1) (by rw [hR]; decide) (Nat.zero_le _) (Nat.zero_le _) hG rfl rfl ⟨rfl, by decide, by decide, by decide⟩ (fun _ => ⟨_, _, rfl, rfl⟩) wl_X10_171 wi_X10_told ws_X10_told wn_X10 wc_X10_told, List.forall_mem_cons.mpr ⟨cok_v (t := 15) (c := 0) (N := 9) (n := 3) (idx := 175) E (ct_G_X0_part X.2.1) (by rw [hR]; decide) (Nat.zero_le _) (Nat.zero_le _) hG rfl rfl ⟨rfl, by decide, by decide, by decide⟩ (fun _ => ⟨_, _, rfl, rfl⟩) wl_X10_175 wi_X0_part ws_X0_part wn_X0 wc_X0_part, fun _ h => absurd h List.not_mem_nil⟩⟩⟩) R sok_no E
  show WP_ X G Q 0 0 ad SHS_ σ 0 [(10, 0), (0, a1), (0, a2), (0, a3)] []
  refine B rfl ?_
  refine Exists.intro (a1, a2) (And.intro rfl (And.intro True.intro ?_))
  rintro z1 m_ h2
  obtain rfl : σ = m_ := h2.2
  have h3 : (z1 = 1 ∧ 0 ≤ a1 ∧ a1 ≤ 2 ∧ 0 ≤ a2 ∧ a2 ≤ 1999) ∨ z1 = 0 := h2.1
  refine And.intro (fun h4 => ?_) (fun h4 => ?_)
  · skip
    refine B rfl ?_
    refine Exists.intro _ (And.intro rfl ?_)
    exact (And.intro hp0 (fun k j hk => rfl))
  · skip
    refine And.intro (fun h5 => ?_) (fun h5 => ?_)
    · skip
      refine B rfl ?_
      refine Exists.intro _ (And.intro rfl ?_)
      exact (And.intro hp0 (fun k j hk => rfl))
    · skip
      refine And.intro (fun h6 => ?_) (fun h6 => ?_)
      · skip
        refine B rfl ?_
        refine Exists.intro () (And.intro rfl (And.intro hp0 ?_))
        intro z7 σ9 h8
        have f10 : ∀ k j : Int, ¬ (30 ≤ k ∧ k ≤ 33) → σ9 k j = σ k j := h8.2.2
        have h11 : CI σ9 := h8.1
        have h12 : z7 = 30 := h8.2.1
        obtain rfl : z7 = 30 := by omega
        have p13 : DT σ9 := (h11).2.2.2
        refine Exists.intro (a1, a2, a3) (And.intro rfl (And.intro (And.intro p13 (And.intro (by show 0 ≤ a2; omega) (And.intro (by show a2 ≤ 1999; omega) (by show a3 = 4 ∨ (0 ≤ a1 ∧ a1 ≤ 2); omega)))) ?_))
        rintro z14 m_ h15
        obtain rfl : σ9 = m_ := h15.2.2.2.2
        have h16 : -1 ≤ z14 ∧ z14 ≤ 200000 := h15.1
        have h17 : a3 = 4 → 0 ≤ z14 ∧ z14 ≤ 1 := h15.2.1
        have h18 : a3 = 1 → z14 ≤ 7 := h15.2.2.1
        have h19 : a3 = 3 → z14 ≤ 10 := h15.2.2.2.1
        refine Exists.intro _ (And.intro rfl ?_)
        exact (And.intro h11 (fun k j hk => (f10 _ _ (by omega))))
      · skip
        refine Exists.intro _ (And.intro rfl ?_)
        exact (And.intro hp0 (fun k j hk => rfl))
def as_G_X10_day : Int × Int × Int × Int → List Sv_t := fun a => [(10, 0), (0, a.1), (0, a.2.1), (0, a.2.2.1), (0, a.2.2.2)]
def pre_G_X10_day : Int × Int × Int × Int → Me_t → Prop := fun a σ => (CI σ)
def post_G_X10_day : Int × Int × Int × Int → Me_t → Int → Me_t → Prop := fun a σ z σ' => (CI σ') ∧ (∀ k j : Int, ¬ (k ≤ 27 ∨ (29 ≤ k ∧ k ≤ 77)) → σ' k j = σ k j)
set_option maxHeartbeats 1500000 in
set_option maxRecDepth 100000 in
theorem ct_G_X10_day (l : Launch) : CT_ l yX10_day cX10_day 5 (some .int) 3 72 as_G_X10_day (rmI_) pre_G_X10_day post_G_X10_day := by
  refine ct_of (by decide) (fun _ => Nat.le_of_ble_eq_true rfl) ?_
  intro X G Q ad σ a hl hR E hG R hM hv hp
  obtain ⟨a1, a2, a3, a4⟩ := a
  have r_a1 : -2147483648 ≤ a1 ∧ a1 ≤ 2147483647 := hv (0, a1) (List.mem_of_getElem? (i := 1) rfl)
  have r_a2 : -2147483648 ≤ a2 ∧ a2 ≤ 2147483647 := hv (0, a2) (List.mem_of_getElem? (i := 2) rfl)
  have r_a3 : -2147483648 ≤ a3 ∧ a3 ≤ 2147483647 := hv (0, a3) (List.mem_of_getElem? (i := 3) rfl)
  have r_a4 : -2147483648 ≤ a4 ∧ a4 ≤ 2147483647 := hv (0, a4) (List.mem_of_getElem? (i := 4) rfl)
  have hp0 : CI σ := hp
  have B := @bk_ X G Q 0 0 ad SHS_ RX10 cX10_day 5 (some .int) flX10 plX10 knX10 [(358, 5, TR_ as_G_X9_dayOfDate (rmI_) pre_G_X9_dayOfDate post_G_X9_dayOfDate)] _ _ none kX10_day [] flX10_ok plX10_ok knX10_ok eX10_day oX10_day
    (List.forall_mem_cons.mpr ⟨cok_v (t := 5) (c := 9) (N := 10) (n := 4) (idx := 179) E (ct_G_X9_dayOfDate X.2.1) (by rw [hR]; decide) (Nat.zero_le _) (Nat.zero_le _) hG rfl rfl ⟨rfl, by decide, by decide, by decide⟩ (fun _ => ⟨_, _, rfl, rfl⟩) wl_X10_179 wi_X9_dayOfDate ws_X9_dayOfDate wn_X9 wc_X9_dayOfDate, fun _ h => absurd h List.not_mem_nil⟩) R sok_no E
  show WP_ X G Q 0 0 ad SHS_ σ 0 [(10, 0), (0, a1), (0, a2), (0, a3), (0, a4)] []
  refine B rfl ?_
  intro z1 ez1 hz1
  have cz1 : z1 = 5 ∨ z1 = 16 := by have := (hp0).1; omega
  have lz1 : LG σ z1 := by rw [ez1]; exact (hp0).2.1.1
  have uz1 : UW σ z1 := by rw [ez1]; exact (hp0).2.1.2
  refine Exists.intro (z1, a1, a2, a3, a4) (And.intro rfl (And.intro True.intro ?_))
  rintro z2 m_ h3
  obtain rfl : σ = m_ := h3.2
  have h4 : -2 ≤ z2 ∧ z2 ≤ 1999 := h3.1
  refine Exists.intro _ (And.intro rfl ?_)
  exact (And.intro hp0 (fun k j hk => rfl))
def as_G_X10_may : Int × Int → List Sv_t := fun a => [(10, 0), (0, a.1), (0, a.2)]
def pre_G_X10_may : Int × Int → Me_t → Prop := fun a σ => (CI σ)
def post_G_X10_may : Int × Int → Me_t → Int → Me_t → Prop := fun a σ z σ' => (CI σ') ∧ (∀ k j : Int, ¬ (k ≤ 27 ∨ (29 ≤ k ∧ k ≤ 77)) → σ' k j = σ k j)
set_option maxHeartbeats 1500000 in
set_option maxRecDepth 100000 in
theorem ct_G_X10_may (l : Launch) : CT_ l yX10_may cX10_may 3 (some .int) 6 143 as_G_X10_may (rmI_) pre_G_X10_may post_G_X10_may := by
  refine ct_of (by decide) (fun _ => Nat.le_of_ble_eq_true rfl) ?_
  intro X G Q ad σ a hl hR E hG R hM hv hp
  obtain ⟨a1, a2⟩ := a
  have r_a1 : -2147483648 ≤ a1 ∧ a1 ≤ 2147483647 := hv (0, a1) (List.mem_of_getElem? (i := 1) rfl)
  have r_a2 : -2147483648 ≤ a2 ∧ a2 ≤ 2147483647 := hv (0, a2) (List.mem_of_getElem? (i := 2) rfl)
  have hp0 : CI σ := hp
  have B := @bk_ X G Q 0 0 ad SHS_ RX10 cX10_may 3 (some .int) flX10 plX10 knX10 [(336, 3, TR_ as_G_X10_isLandAndDay (rmI_) pre_G_X10_isLandAndDay post_G_X10_isLandAndDay), (342, 1, TR_ as_G_X10_told (rmR_ 25) pre_G_X10_told post_G_X10_told), (350, 4, TR_ as_G_X0_part (rmI_) pre_G_X0_part post_G_X0_part)] _ _ none kX10_may [] flX10_ok plX10_ok knX10_ok eX10_may oX10_may
    (List.forall_mem_cons.mpr ⟨cok_v (t := 0) (c := 10) (N := 14) (n := 2) (idx := 168) E (ct_G_X10_isLandAndDay X.2.1) (by rw [hR]; decide) (Nat.zero_le _) (Nat.zero_le _) hG rfl rfl ⟨rfl, by decide, by decide, by decide⟩ (fun _ => ⟨_, _, rfl, rfl⟩) wl_X10_168 wi_X10_isLandAndDay ws_X10_isLandAndDay wn_X10 wc_X10_isLandAndDay, List.forall_mem_cons.mpr ⟨cok_v (t := 0) (c := 10) (N := 14) (n := 0) (idx := 171) E (ct_G_X10_told X.2.1) (by rw [hR]; decide) (Nat.zero_le _) (Nat.zero_le _) hG rfl rfl ⟨rfl, by decide, by decide, by decide⟩ (fun _ => ⟨_, _, rfl, rfl⟩) wl_X10_171 wi_X10_told ws_X10_told wn_X10 wc_X10_told, List.forall_mem_cons.mpr ⟨cok_v (t := 15) (c := 0) (N := 9) (n := 3) (idx := 175) E (ct_G_X0_part X.2.1) (by rw [hR]; decide) (Nat.zero_le _) (Nat.zero_le _) hG rfl rfl ⟨rfl, by decide, by decide, by decide⟩ (fun _ => ⟨_, _, rfl, rfl⟩) wl_X10_175 wi_X0_part ws_X0_part wn_X0 wc_X0_part, fun _ h => absurd h List.not_mem_nil⟩⟩⟩) R sok_no E
  show WP_ X G Q 0 0 ad SHS_ σ 0 [(10, 0), (0, a1), (0, a2)] []
  refine B rfl ?_
  refine Exists.intro (a1, a2) (And.intro rfl (And.intro True.intro ?_))
  rintro z1 m_ h2
  obtain rfl : σ = m_ := h2.2
  have h3 : (z1 = 1 ∧ 0 ≤ a1 ∧ a1 ≤ 2 ∧ 0 ≤ a2 ∧ a2 ≤ 1999) ∨ z1 = 0 := h2.1
  refine And.intro (fun h4 => ?_) (fun h4 => ?_)
  · skip
    refine B rfl ?_
    refine Exists.intro () (And.intro rfl (And.intro hp0 ?_))
    intro z5 σ7 h6
    have f8 : ∀ k j : Int, ¬ (30 ≤ k ∧ k ≤ 33) → σ7 k j = σ k j := h6.2.2
    have h9 : CI σ7 := h6.1
    have h10 : z5 = 30 := h6.2.1
    obtain rfl : z5 = 30 := by omega
    have p11 : DT σ7 := (h9).2.2.2
    refine Exists.intro (a1, a2, 4) (And.intro rfl (And.intro (And.intro p11 (And.intro (by show 0 ≤ a2; omega) (And.intro (by show a2 ≤ 1999; omega) (by show 4 = 4 ∨ (0 ≤ a1 ∧ a1 ≤ 2); omega)))) ?_))
    rintro z12 m_ h13
    obtain rfl : σ7 = m_ := h13.2.2.2.2
    have h14 : -1 ≤ z12 ∧ z12 ≤ 200000 := h13.1
    have h15 : (4 : Int) = 4 → 0 ≤ z12 ∧ z12 ≤ 1 := h13.2.1
    have h16 : (4 : Int) = 1 → z12 ≤ 7 := h13.2.2.1
    have h17 : (4 : Int) = 3 → z12 ≤ 10 := h13.2.2.2.1
    refine Exists.intro _ (And.intro rfl ?_)
    exact (And.intro h9 (fun k j hk => (f8 _ _ (by omega))))
  · skip
    refine Exists.intro _ (And.intro rfl ?_)
    exact (And.intro hp0 (fun k j hk => rfl))
def as_G_X10_why : Int × Int → List Sv_t := fun a => [(10, 0), (0, a.1), (0, a.2)]
def pre_G_X10_why : Int × Int → Me_t → Prop := fun a σ => (CI σ)
def post_G_X10_why : Int × Int → Me_t → Int → Me_t → Prop := fun a σ z σ' => (CI σ') ∧ (∀ k j : Int, ¬ (k ≤ 27 ∨ (29 ≤ k ∧ k ≤ 77)) → σ' k j = σ k j)
set_option maxHeartbeats 1500000 in
set_option maxRecDepth 100000 in
theorem ct_G_X10_why (l : Launch) : CT_ l yX10_why cX10_why 3 (some .int) 6 143 as_G_X10_why (rmI_) pre_G_X10_why post_G_X10_why := by
  refine ct_of (by decide) (fun _ => Nat.le_of_ble_eq_true rfl) ?_
  intro X G Q ad σ a hl hR E hG R hM hv hp
  obtain ⟨a1, a2⟩ := a
  have r_a1 : -2147483648 ≤ a1 ∧ a1 ≤ 2147483647 := hv (0, a1) (List.mem_of_getElem? (i := 1) rfl)
  have r_a2 : -2147483648 ≤ a2 ∧ a2 ≤ 2147483647 := hv (0, a2) (List.mem_of_getElem? (i := 2) rfl)
  have hp0 : CI σ := hp
  have B := @bk_ X G Q 0 0 ad SHS_ RX10 cX10_why 3 (some .int) flX10 plX10 knX10 [(336, 3, TR_ as_G_X10_isLandAndDay (rmI_) pre_G_X10_isLandAndDay post_G_X10_isLandAndDay), (342, 1, TR_ as_G_X10_told (rmR_ 25) pre_G_X10_told post_G_X10_told), (366, 3, TR_ as_G_X0_reason (rmI_) pre_G_X0_reason post_G_X0_reason)] _ _ none kX10_why [] flX10_ok plX10_ok knX10_ok eX10_why oX10_why
    (List.forall_mem_cons.mpr ⟨cok_v (t := 0) (c := 10) (N := 14) (n := 2) (idx := 168) E (ct_G_X10_isLandAndDay X.2.1) (by rw [hR]; decide) (Nat.zero_le _) (Nat.zero_le _) hG rfl rfl ⟨rfl, by decide, by decide, by decide⟩ (fun _ => ⟨_, _, rfl, rfl⟩) wl_X10_168 wi_X10_isLandAndDay ws_X10_isLandAndDay wn_X10 wc_X10_isLandAndDay, List.forall_mem_cons.mpr ⟨cok_v (t := 0) (c := 10) (N := 14) (n := 0) (idx := 171) E (ct_G_X10_told X.2.1) (by rw [hR]; decide) (Nat.zero_le _) (Nat.zero_le _) hG rfl rfl ⟨rfl, by decide, by decide, by decide⟩ (fun _ => ⟨_, _, rfl, rfl⟩) wl_X10_171 wi_X10_told ws_X10_told wn_X10 wc_X10_told, List.forall_mem_cons.mpr ⟨cok_v (t := 15) (c := 0) (N := 9) (n := 2) (idx := 183) E (ct_G_X0_reason X.2.1) (by rw [hR]; decide) (Nat.zero_le _) (Nat.zero_le _) hG rfl rfl ⟨rfl, by decide, by decide, by decide⟩ (fun _ => ⟨_, _, rfl, rfl⟩) wl_X10_183 wi_X0_reason ws_X0_reason wn_X0 wc_X0_reason, fun _ h => absurd h List.not_mem_nil⟩⟩⟩) R sok_no E
  show WP_ X G Q 0 0 ad SHS_ σ 0 [(10, 0), (0, a1), (0, a2)] []
  refine B rfl ?_
  refine Exists.intro (a1, a2) (And.intro rfl (And.intro True.intro ?_))
  rintro z1 m_ h2
  obtain rfl : σ = m_ := h2.2
  have h3 : (z1 = 1 ∧ 0 ≤ a1 ∧ a1 ≤ 2 ∧ 0 ≤ a2 ∧ a2 ≤ 1999) ∨ z1 = 0 := h2.1
  refine And.intro (fun h4 => ?_) (fun h4 => ?_)
  · skip
    refine B rfl ?_
    refine Exists.intro () (And.intro rfl (And.intro hp0 ?_))
    intro z5 σ7 h6
    have f8 : ∀ k j : Int, ¬ (30 ≤ k ∧ k ≤ 33) → σ7 k j = σ k j := h6.2.2
    have h9 : CI σ7 := h6.1
    have h10 : z5 = 30 := h6.2.1
    obtain rfl : z5 = 30 := by omega
    refine Exists.intro (a1, a2) (And.intro rfl (And.intro (And.intro (by show 0 ≤ a1; omega) (And.intro (by show a1 ≤ 2; omega) (And.intro (by show 0 ≤ a2; omega) (by show a2 ≤ 1999; omega)))) ?_))
    rintro z11 m_ h12
    obtain rfl : σ7 = m_ := h12
    refine Exists.intro _ (And.intro rfl ?_)
    exact (And.intro h9 (fun k j hk => (f8 _ _ (by omega))))
  · skip
    refine Exists.intro _ (And.intro rfl ?_)
    exact (And.intro hp0 (fun k j hk => rfl))
def as_G_X10_who : Int → List Sv_t := fun a => [(10, 0), (0, a)]
def pre_G_X10_who : Int → Me_t → Prop := fun a σ => (CI σ)
def post_G_X10_who : Int → Me_t → Int → Me_t → Prop := fun a σ z σ' => (CI σ') ∧ (∀ k j : Int, ¬ (k ≤ 27 ∨ (29 ≤ k ∧ k ≤ 77)) → σ' k j = σ k j)
set_option maxHeartbeats 1500000 in
set_option maxRecDepth 100000 in
theorem ct_G_X10_who (l : Launch) : CT_ l yX10_who cX10_who 2 (some .int) 6 143 as_G_X10_who (rmI_) pre_G_X10_who post_G_X10_who := by
  refine ct_of (by decide) (fun _ => Nat.le_of_ble_eq_true rfl) ?_
  intro X G Q ad σ a hl hR E hG R hM hv hp
  obtain ⟨a1, rfl⟩ : ∃ q : Int, q = a := ⟨_, rfl⟩
  have r_a1 : -2147483648 ≤ a1 ∧ a1 ≤ 2147483647 := hv (0, a1) (List.mem_of_getElem? (i := 1) rfl)
  have hp0 : CI σ := hp
  have B := @bk_ X G Q 0 0 ad SHS_ RX10 cX10_who 2 (some .int) flX10 plX10 knX10 [(372, 2, TR_ as_G_X10_isDayOfWar (rmI_) pre_G_X10_isDayOfWar post_G_X10_isDayOfWar), (342, 1, TR_ as_G_X10_told (rmR_ 25) pre_G_X10_told post_G_X10_told)] _ _ none kX10_who [] flX10_ok plX10_ok knX10_ok eX10_who oX10_who
    (List.forall_mem_cons.mpr ⟨cok_v (t := 0) (c := 10) (N := 14) (n := 1) (idx := 186) E (ct_G_X10_isDayOfWar X.2.1) (by rw [hR]; decide) (Nat.zero_le _) (Nat.zero_le _) hG rfl rfl ⟨rfl, by decide, by decide, by decide⟩ (fun _ => ⟨_, _, rfl, rfl⟩) wl_X10_186 wi_X10_isDayOfWar ws_X10_isDayOfWar wn_X10 wc_X10_isDayOfWar, List.forall_mem_cons.mpr ⟨cok_v (t := 0) (c := 10) (N := 14) (n := 0) (idx := 171) E (ct_G_X10_told X.2.1) (by rw [hR]; decide) (Nat.zero_le _) (Nat.zero_le _) hG rfl rfl ⟨rfl, by decide, by decide, by decide⟩ (fun _ => ⟨_, _, rfl, rfl⟩) wl_X10_171 wi_X10_told ws_X10_told wn_X10 wc_X10_told, fun _ h => absurd h List.not_mem_nil⟩⟩) R sok_no E
  show WP_ X G Q 0 0 ad SHS_ σ 0 [(10, 0), (0, a1)] []
  refine B rfl ?_
  refine Exists.intro a1 (And.intro rfl (And.intro True.intro ?_))
  rintro z1 m_ h2
  obtain rfl : σ = m_ := h2.2
  have h3 : (z1 = 1 ∧ 0 ≤ a1 ∧ a1 ≤ 1999) ∨ z1 = 0 := h2.1
  refine And.intro (fun h4 => ?_) (fun h4 => ?_)
  · skip
    refine B rfl ?_
    refine Exists.intro () (And.intro rfl (And.intro hp0 ?_))
    intro z5 σ7 h6
    have f8 : ∀ k j : Int, ¬ (30 ≤ k ∧ k ≤ 33) → σ7 k j = σ k j := h6.2.2
    have h9 : CI σ7 := h6.1
    have h10 : z5 = 30 := h6.2.1
    obtain rfl : z5 = 30 := by omega
    refine And.intro (by omega) ?_
    intro z11 ez11 hz11
    have hz11 : ((-128) : Int) ≤ z11 ∧ z11 ≤ (127 : Int) := hz11
    try have t12 : σ7 33 a1 = σ 33 a1 := (f8 _ _ (by omega))
    refine Exists.intro _ (And.intro rfl ?_)
    exact (And.intro h9 (fun k j hk => (f8 _ _ (by omega))))
  · skip
    refine Exists.intro _ (And.intro rfl ?_)
    exact (And.intro hp0 (fun k j hk => rfl))
def as_G_X10_many : Int × Int × Int → List Sv_t := fun a => [(10, 0), (0, a.1), (0, a.2.1), (0, a.2.2)]
def pre_G_X10_many : Int × Int × Int → Me_t → Prop := fun a σ => (CI σ)
def post_G_X10_many : Int × Int × Int → Me_t → Int → Me_t → Prop := fun a σ z σ' => (CI σ') ∧ (∀ k j : Int, ¬ (k ≤ 27 ∨ (29 ≤ k ∧ k ≤ 77)) → σ' k j = σ k j)
set_option maxHeartbeats 1500000 in
set_option maxRecDepth 100000 in
theorem ct_G_X10_many (l : Launch) : CT_ l yX10_many cX10_many 4 (some .int) 6 143 as_G_X10_many (rmI_) pre_G_X10_many post_G_X10_many := by
  refine ct_of (by decide) (fun _ => Nat.le_of_ble_eq_true rfl) ?_
  intro X G Q ad σ a hl hR E hG R hM hv hp
  obtain ⟨a1, a2, a3⟩ := a
  have r_a1 : -2147483648 ≤ a1 ∧ a1 ≤ 2147483647 := hv (0, a1) (List.mem_of_getElem? (i := 1) rfl)
  have r_a2 : -2147483648 ≤ a2 ∧ a2 ≤ 2147483647 := hv (0, a2) (List.mem_of_getElem? (i := 2) rfl)
  have r_a3 : -2147483648 ≤ a3 ∧ a3 ≤ 2147483647 := hv (0, a3) (List.mem_of_getElem? (i := 3) rfl)
  have hp0 : CI σ := hp
  have B := @bk_ X G Q 0 0 ad SHS_ RX10 cX10_many 4 (some .int) flX10 plX10 knX10 [(386, 4, TR_ as_G_X10_isSetInSpan (rmI_) pre_G_X10_isSetInSpan post_G_X10_isSetInSpan), (342, 1, TR_ as_G_X10_told (rmR_ 25) pre_G_X10_told post_G_X10_told), (400, 4, TR_ as_G_X0_fightingDays (rmI_) pre_G_X0_fightingDays post_G_X0_fightingDays)] _ _ none kX10_many [] flX10_ok plX10_ok knX10_ok eX10_many oX10_many
    (List.forall_mem_cons.mpr ⟨cok_v (t := 0) (c := 10) (N := 14) (n := 3) (idx := 193) E (ct_G_X10_isSetInSpan X.2.1) (by rw [hR]; decide) (Nat.zero_le _) (Nat.zero_le _) hG rfl rfl ⟨rfl, by decide, by decide, by decide⟩ (fun _ => ⟨_, _, rfl, rfl⟩) wl_X10_193 wi_X10_isSetInSpan ws_X10_isSetInSpan wn_X10 wc_X10_isSetInSpan, List.forall_mem_cons.mpr ⟨cok_v (t := 0) (c := 10) (N := 14) (n := 0) (idx := 171) E (ct_G_X10_told X.2.1) (by rw [hR]; decide) (Nat.zero_le _) (Nat.zero_le _) hG rfl rfl ⟨rfl, by decide, by decide, by decide⟩ (fun _ => ⟨_, _, rfl, rfl⟩) wl_X10_171 wi_X10_told ws_X10_told wn_X10 wc_X10_told, List.forall_mem_cons.mpr ⟨cok_v (t := 15) (c := 0) (N := 9) (n := 3) (idx := 200) E (ct_G_X0_fightingDays X.2.1) (by rw [hR]; decide) (Nat.zero_le _) (Nat.zero_le _) hG rfl rfl ⟨rfl, by decide, by decide, by decide⟩ (fun _ => ⟨_, _, rfl, rfl⟩) wl_X10_200 wi_X0_fightingDays ws_X0_fightingDays wn_X0 wc_X0_fightingDays, fun _ h => absurd h List.not_mem_nil⟩⟩⟩) R sok_no E
  show WP_ X G Q 0 0 ad SHS_ σ 0 [(10, 0), (0, a1), (0, a2), (0, a3)] []
  refine B rfl ?_
  refine Exists.intro (a1, a2, a3) (And.intro rfl (And.intro True.intro ?_))
  rintro z1 m_ h2
  obtain rfl : σ = m_ := h2.2
  have h3 : (z1 = 1 ∧ 0 ≤ a1 ∧ 0 ≤ a2 ∧ a2 ≤ a3 ∧ a3 ≤ 1999) ∨ z1 = 0 := h2.1
  refine And.intro (fun h4 => ?_) (fun h4 => ?_)
  · skip
    refine B rfl ?_
    refine Exists.intro () (And.intro rfl (And.intro hp0 ?_))
    intro z5 σ7 h6
    have f8 : ∀ k j : Int, ¬ (30 ≤ k ∧ k ≤ 33) → σ7 k j = σ k j := h6.2.2
    have h9 : CI σ7 := h6.1
    have h10 : z5 = 30 := h6.2.1
    obtain rfl : z5 = 30 := by omega
    refine Exists.intro (a1, a2, a3) (And.intro rfl (And.intro (And.intro (by show 0 ≤ a2; omega) (And.intro (by show a2 ≤ a3 + 1; omega) (by show a3 ≤ 1999; omega))) ?_))
    rintro z11 m_ h12
    obtain rfl : σ7 = m_ := h12.2
    have h13 : 0 ≤ z11 ∧ z11 ≤ 2000 := h12.1
    refine Exists.intro _ (And.intro rfl ?_)
    exact (And.intro h9 (fun k j hk => (f8 _ _ (by omega))))
  · skip
    refine Exists.intro _ (And.intro rfl ?_)
    exact (And.intro hp0 (fun k j hk => rfl))
def as_G_X10_waits : Int × Int × Int → List Sv_t := fun a => [(10, 0), (0, a.1), (0, a.2.1), (0, a.2.2)]
def pre_G_X10_waits : Int × Int × Int → Me_t → Prop := fun a σ => (CI σ)
def post_G_X10_waits : Int × Int × Int → Me_t → Int → Me_t → Prop := fun a σ z σ' => (CI σ') ∧ (∀ k j : Int, ¬ (k ≤ 27 ∨ (29 ≤ k ∧ k ≤ 77)) → σ' k j = σ k j)
set_option maxHeartbeats 1500000 in
set_option maxRecDepth 100000 in
theorem ct_G_X10_waits (l : Launch) : CT_ l yX10_waits cX10_waits 4 (some .int) 6 143 as_G_X10_waits (rmI_) pre_G_X10_waits post_G_X10_waits := by
  refine ct_of (by decide) (fun _ => Nat.le_of_ble_eq_true rfl) ?_
  intro X G Q ad σ a hl hR E hG R hM hv hp
  obtain ⟨a1, a2, a3⟩ := a
  have r_a1 : -2147483648 ≤ a1 ∧ a1 ≤ 2147483647 := hv (0, a1) (List.mem_of_getElem? (i := 1) rfl)
  have r_a2 : -2147483648 ≤ a2 ∧ a2 ≤ 2147483647 := hv (0, a2) (List.mem_of_getElem? (i := 2) rfl)
  have r_a3 : -2147483648 ≤ a3 ∧ a3 ≤ 2147483647 := hv (0, a3) (List.mem_of_getElem? (i := 3) rfl)
  have hp0 : CI σ := hp
  have B := @bk_ X G Q 0 0 ad SHS_ RX10 cX10_waits 4 (some .int) flX10 plX10 knX10 [(386, 4, TR_ as_G_X10_isSetInSpan (rmI_) pre_G_X10_isSetInSpan post_G_X10_isSetInSpan), (342, 1, TR_ as_G_X10_told (rmR_ 25) pre_G_X10_told post_G_X10_told), (406, 5, TR_ as_G_X0_seekWait (rmV_) pre_G_X0_seekWait post_G_X0_seekWait)] _ _ none kX10_waits [] flX10_ok plX10_ok knX10_ok eX10_waits oX10_waits
    (List.forall_mem_cons.mpr ⟨cok_v (t := 0) (c := 10) (N := 14) (n := 3) (idx := 193) E (ct_G_X10_isSetInSpan X.2.1) (by rw [hR]; decide) (Nat.zero_le _) (Nat.zero_le _) hG rfl rfl ⟨rfl, by decide, by decide, by decide⟩ (fun _ => ⟨_, _, rfl, rfl⟩) wl_X10_193 wi_X10_isSetInSpan ws_X10_isSetInSpan wn_X10 wc_X10_isSetInSpan, List.forall_mem_cons.mpr ⟨cok_v (t := 0) (c := 10) (N := 14) (n := 0) (idx := 171) E (ct_G_X10_told X.2.1) (by rw [hR]; decide) (Nat.zero_le _) (Nat.zero_le _) hG rfl rfl ⟨rfl, by decide, by decide, by decide⟩ (fun _ => ⟨_, _, rfl, rfl⟩) wl_X10_171 wi_X10_told ws_X10_told wn_X10 wc_X10_told, List.forall_mem_cons.mpr ⟨cok_v (t := 15) (c := 0) (N := 9) (n := 4) (idx := 203) E (ct_G_X0_seekWait X.2.1) (by rw [hR]; decide) (Nat.zero_le _) (Nat.zero_le _) hG rfl rfl ⟨rfl, by decide, by decide, by decide⟩ (fun _ => ⟨_, _, rfl, rfl⟩) wl_X10_203 wi_X0_seekWait ws_X0_seekWait wn_X0 wc_X0_seekWait, fun _ h => absurd h List.not_mem_nil⟩⟩⟩) R sok_no E
  show WP_ X G Q 0 0 ad SHS_ σ 0 [(10, 0), (0, a1), (0, a2), (0, a3)] []
  refine B rfl ?_
  refine Exists.intro (a1, a2, a3) (And.intro rfl (And.intro True.intro ?_))
  rintro z1 m_ h2
  obtain rfl : σ = m_ := h2.2
  have h3 : (z1 = 1 ∧ 0 ≤ a1 ∧ 0 ≤ a2 ∧ a2 ≤ a3 ∧ a3 ≤ 1999) ∨ z1 = 0 := h2.1
  refine And.intro (fun h4 => ?_) (fun h4 => ?_)
  · skip
    refine B rfl ?_
    refine Exists.intro () (And.intro rfl (And.intro hp0 ?_))
    intro z5 σ7 h6
    have f8 : ∀ k j : Int, ¬ (30 ≤ k ∧ k ≤ 33) → σ7 k j = σ k j := h6.2.2
    have h9 : CI σ7 := h6.1
    have h10 : z5 = 30 := h6.2.1
    obtain rfl : z5 = 30 := by omega
    refine Exists.intro (a1, a2, a3, 0) (And.intro rfl (And.intro (And.intro (by show 0 ≤ a2; omega) (And.intro (by show a2 ≤ a3 + 1; omega) (And.intro (by show a3 ≤ 1999; omega) (by show 0 ≤ 0; omega)))) ?_))
    intro z11 σ13 h12
    have f14 : ∀ k j : Int, ¬ (k = 30) → σ13 k j = σ7 k j := h12
    intro z15 ez15 hz15
    have hz15 : ((-2147483648) : Int) ≤ z15 ∧ z15 ≤ (2147483647 : Int) := rgl_ hz15 (by decide +kernel) (by decide +kernel) (by decide +kernel)
    try have t16 : σ13 30 5 = σ 30 5 := ((f14 _ _ (by omega)).trans (f8 _ _ (by omega)))
    refine Exists.intro _ (And.intro rfl ?_)
    have p17 : CI σ13 := CI_fr h9 (fun k j hk => (f14 _ _ (by omega)))
    exact (And.intro p17 (fun k j hk => ((f14 _ _ (by omega)).trans (f8 _ _ (by omega)))))
  · skip
    refine Exists.intro _ (And.intro rfl ?_)
    exact (And.intro hp0 (fun k j hk => rfl))
def as_G_X10_waiting : Int × Int × Int → List Sv_t := fun a => [(10, 0), (0, a.1), (0, a.2.1), (0, a.2.2)]
def pre_G_X10_waiting : Int × Int × Int → Me_t → Prop := fun a σ => (CI σ)
def post_G_X10_waiting : Int × Int × Int → Me_t → Int → Me_t → Prop := fun a σ z σ' => (CI σ') ∧ (∀ k j : Int, ¬ (k ≤ 27 ∨ (29 ≤ k ∧ k ≤ 77)) → σ' k j = σ k j)
set_option maxHeartbeats 1500000 in
set_option maxRecDepth 100000 in
theorem ct_G_X10_waiting (l : Launch) : CT_ l yX10_waiting cX10_waiting 4 (some .int) 6 143 as_G_X10_waiting (rmI_) pre_G_X10_waiting post_G_X10_waiting := by
  refine ct_of (by decide) (fun _ => Nat.le_of_ble_eq_true rfl) ?_
  intro X G Q ad σ a hl hR E hG R hM hv hp
  obtain ⟨a1, a2, a3⟩ := a
  have r_a1 : -2147483648 ≤ a1 ∧ a1 ≤ 2147483647 := hv (0, a1) (List.mem_of_getElem? (i := 1) rfl)
  have r_a2 : -2147483648 ≤ a2 ∧ a2 ≤ 2147483647 := hv (0, a2) (List.mem_of_getElem? (i := 2) rfl)
  have r_a3 : -2147483648 ≤ a3 ∧ a3 ≤ 2147483647 := hv (0, a3) (List.mem_of_getElem? (i := 3) rfl)
  have hp0 : CI σ := hp
  have B := @bk_ X G Q 0 0 ad SHS_ RX10 cX10_waiting 4 (some .int) flX10 plX10 knX10 [(386, 4, TR_ as_G_X10_isSetInSpan (rmI_) pre_G_X10_isSetInSpan post_G_X10_isSetInSpan), (342, 1, TR_ as_G_X10_told (rmR_ 25) pre_G_X10_told post_G_X10_told), (406, 5, TR_ as_G_X0_seekWait (rmV_) pre_G_X0_seekWait post_G_X0_seekWait)] _ _ none kX10_waiting [] flX10_ok plX10_ok knX10_ok eX10_waiting oX10_waiting
    (List.forall_mem_cons.mpr ⟨cok_v (t := 0) (c := 10) (N := 14) (n := 3) (idx := 193) E (ct_G_X10_isSetInSpan X.2.1) (by rw [hR]; decide) (Nat.zero_le _) (Nat.zero_le _) hG rfl rfl ⟨rfl, by decide, by decide, by decide⟩ (fun _ => ⟨_, _, rfl, rfl⟩) wl_X10_193 wi_X10_isSetInSpan ws_X10_isSetInSpan wn_X10 wc_X10_isSetInSpan, List.forall_mem_cons.mpr ⟨cok_v (t := 0) (c := 10) (N := 14) (n := 0) (idx := 171) E (ct_G_X10_told X.2.1) (by rw [hR]; decide) (Nat.zero_le _) (Nat.zero_le _) hG rfl rfl ⟨rfl, by decide, by decide, by decide⟩ (fun _ => ⟨_, _, rfl, rfl⟩) wl_X10_171 wi_X10_told ws_X10_told wn_X10 wc_X10_told, List.forall_mem_cons.mpr ⟨cok_v (t := 15) (c := 0) (N := 9) (n := 4) (idx := 203) E (ct_G_X0_seekWait X.2.1) (by rw [hR]; decide) (Nat.zero_le _) (Nat.zero_le _) hG rfl rfl ⟨rfl, by decide, by decide, by decide⟩ (fun _ => ⟨_, _, rfl, rfl⟩) wl_X10_203 wi_X0_seekWait ws_X0_seekWait wn_X0 wc_X0_seekWait, fun _ h => absurd h List.not_mem_nil⟩⟩⟩) R sok_no E
  show WP_ X G Q 0 0 ad SHS_ σ 0 [(10, 0), (0, a1), (0, a2), (0, a3)] []
  refine B rfl ?_
  refine Exists.intro (a1, a2, a3) (And.intro rfl (And.intro True.intro ?_))
  rintro z1 m_ h2
  obtain rfl : σ = m_ := h2.2
  have h3 : (z1 = 1 ∧ 0 ≤ a1 ∧ 0 ≤ a2 ∧ a2 ≤ a3 ∧ a3 ≤ 1999) ∨ z1 = 0 := h2.1
  refine And.intro (fun h4 => ?_) (fun h4 => ?_)
  · skip
    refine B rfl ?_
    refine Exists.intro () (And.intro rfl (And.intro hp0 ?_))
    intro z5 σ7 h6
    have f8 : ∀ k j : Int, ¬ (30 ≤ k ∧ k ≤ 33) → σ7 k j = σ k j := h6.2.2
    have h9 : CI σ7 := h6.1
    have h10 : z5 = 30 := h6.2.1
    obtain rfl : z5 = 30 := by omega
    refine Exists.intro (a1, a2, a3, 0) (And.intro rfl (And.intro (And.intro (by show 0 ≤ a2; omega) (And.intro (by show a2 ≤ a3 + 1; omega) (And.intro (by show a3 ≤ 1999; omega) (by show 0 ≤ 0; omega)))) ?_))
    intro z11 σ13 h12
    have f14 : ∀ k j : Int, ¬ (k = 30) → σ13 k j = σ7 k j := h12
    intro z15 ez15 hz15
    have hz15 : ((-2147483648) : Int) ≤ z15 ∧ z15 ≤ (2147483647 : Int) := rgl_ hz15 (by decide +kernel) (by decide +kernel) (by decide +kernel)
    try have t16 : σ13 30 6 = σ 30 6 := ((f14 _ _ (by omega)).trans (f8 _ _ (by omega)))
    refine Exists.intro _ (And.intro rfl ?_)
    have p17 : CI σ13 := CI_fr h9 (fun k j hk => (f14 _ _ (by omega)))
    exact (And.intro p17 (fun k j hk => ((f14 _ _ (by omega)).trans (f8 _ _ (by omega)))))
  · skip
    refine Exists.intro _ (And.intro rfl ?_)
    exact (And.intro hp0 (fun k j hk => rfl))
def as_G_X10_share : Int × Int × Int × Int → List Sv_t := fun a => [(10, 0), (0, a.1), (0, a.2.1), (0, a.2.2.1), (0, a.2.2.2)]
def pre_G_X10_share : Int × Int × Int × Int → Me_t → Prop := fun a σ => (CI σ)
def post_G_X10_share : Int × Int × Int × Int → Me_t → Int → Me_t → Prop := fun a σ z σ' => (CI σ') ∧ (∀ k j : Int, ¬ (k ≤ 27 ∨ (29 ≤ k ∧ k ≤ 77)) → σ' k j = σ k j)
set_option maxHeartbeats 1500000 in
set_option maxRecDepth 100000 in
theorem ct_G_X10_share (l : Launch) : CT_ l yX10_share cX10_share 8 (some .int) 6 143 as_G_X10_share (rmI_) pre_G_X10_share post_G_X10_share := by
  refine ct_of (by decide) (fun _ => Nat.le_of_ble_eq_true rfl) ?_
  intro X G Q ad σ a hl hR E hG R hM hv hp
  obtain ⟨a1, a2, a3, a4⟩ := a
  have r_a1 : -2147483648 ≤ a1 ∧ a1 ≤ 2147483647 := hv (0, a1) (List.mem_of_getElem? (i := 1) rfl)
  have r_a2 : -2147483648 ≤ a2 ∧ a2 ≤ 2147483647 := hv (0, a2) (List.mem_of_getElem? (i := 2) rfl)
  have r_a3 : -2147483648 ≤ a3 ∧ a3 ≤ 2147483647 := hv (0, a3) (List.mem_of_getElem? (i := 3) rfl)
  have r_a4 : -2147483648 ≤ a4 ∧ a4 ≤ 2147483647 := hv (0, a4) (List.mem_of_getElem? (i := 4) rfl)
  have hp0 : CI σ := hp
  have B := @bk_ X G Q 0 0 ad SHS_ RX10 cX10_share 8 (some .int) flX10 plX10 knX10 [(386, 4, TR_ as_G_X10_isSetInSpan (rmI_) pre_G_X10_isSetInSpan post_G_X10_isSetInSpan), (342, 1, TR_ as_G_X10_told (rmR_ 25) pre_G_X10_told post_G_X10_told), (400, 4, TR_ as_G_X0_fightingDays (rmI_) pre_G_X0_fightingDays post_G_X0_fightingDays), (427, 2, TR_ as_G_X10_commonDivisor (rmI_) pre_G_X10_commonDivisor post_G_X10_commonDivisor)] _ _ none kX10_share [] flX10_ok plX10_ok knX10_ok eX10_share oX10_share
    (List.forall_mem_cons.mpr ⟨cok_v (t := 0) (c := 10) (N := 14) (n := 3) (idx := 193) E (ct_G_X10_isSetInSpan X.2.1) (by rw [hR]; decide) (Nat.zero_le _) (Nat.zero_le _) hG rfl rfl ⟨rfl, by decide, by decide, by decide⟩ (fun _ => ⟨_, _, rfl, rfl⟩) wl_X10_193 wi_X10_isSetInSpan ws_X10_isSetInSpan wn_X10 wc_X10_isSetInSpan, List.forall_mem_cons.mpr ⟨cok_v (t := 0) (c := 10) (N := 14) (n := 0) (idx := 171) E (ct_G_X10_told X.2.1) (by rw [hR]; decide) (Nat.zero_le _) (Nat.zero_le _) hG rfl rfl ⟨rfl, by decide, by decide, by decide⟩ (fun _ => ⟨_, _, rfl, rfl⟩) wl_X10_171 wi_X10_told ws_X10_told wn_X10 wc_X10_told, List.forall_mem_cons.mpr ⟨cok_v (t := 15) (c := 0) (N := 9) (n := 3) (idx := 200) E (ct_G_X0_fightingDays X.2.1) (by rw [hR]; decide) (Nat.zero_le _) (Nat.zero_le _) hG rfl rfl ⟨rfl, by decide, by decide, by decide⟩ (fun _ => ⟨_, _, rfl, rfl⟩) wl_X10_200 wi_X0_fightingDays ws_X0_fightingDays wn_X0 wc_X0_fightingDays, List.forall_mem_cons.mpr ⟨cok_s (n := 2) (idx := 213) E (ct_G_X10_commonDivisor X.2.1) (by rw [hR]; decide) (Nat.zero_le _) (Nat.zero_le _) hG ⟨by decide, by decide, by decide⟩ (fun _ => rfl) wl_X10_213 wt_X10_commonDivisor wn_X10 wc_X10_commonDivisor, fun _ h => absurd h List.not_mem_nil⟩⟩⟩⟩) R sok_no E
  show WP_ X G Q 0 0 ad SHS_ σ 0 [(10, 0), (0, a1), (0, a2), (0, a3), (0, a4), (9, 0), (9, 0), (9, 0)] []
  refine B rfl ?_
  refine Exists.intro (a1, a2, a3) (And.intro rfl (And.intro True.intro ?_))
  rintro z1 m_ h2
  obtain rfl : σ = m_ := h2.2
  have h3 : (z1 = 1 ∧ 0 ≤ a1 ∧ 0 ≤ a2 ∧ a2 ≤ a3 ∧ a3 ≤ 1999) ∨ z1 = 0 := h2.1
  refine And.intro (fun h4 => ?_) (fun h4 => ?_)
  · skip
    refine B rfl ?_
    refine Exists.intro _ (And.intro rfl ?_)
    exact (And.intro hp0 (fun k j hk => rfl))
  · skip
    refine And.intro (fun h5 => ?_) (fun h5 => ?_)
    · skip
      refine B rfl ?_
      refine Exists.intro _ (And.intro rfl ?_)
      exact (And.intro hp0 (fun k j hk => rfl))
    · skip
      refine And.intro (fun h6 => ?_) (fun h6 => ?_)
      · skip
        refine B rfl ?_
        refine Exists.intro () (And.intro rfl (And.intro hp0 ?_))
        intro z7 σ9 h8
        have f10 : ∀ k j : Int, ¬ (30 ≤ k ∧ k ≤ 33) → σ9 k j = σ k j := h8.2.2
        have h11 : CI σ9 := h8.1
        have h12 : z7 = 30 := h8.2.1
        obtain rfl : z7 = 30 := by omega
        refine Exists.intro (a1, a2, a3) (And.intro rfl (And.intro (And.intro (by show 0 ≤ a2; omega) (And.intro (by show a2 ≤ a3 + 1; omega) (by show a3 ≤ 1999; omega))) ?_))
        rintro z13 m_ h14
        obtain rfl : σ9 = m_ := h14.2
        have h15 : 0 ≤ z13 ∧ z13 ≤ 2000 := h14.1
        refine And.intro (by omega) ?_
        refine And.intro (by omega) ?_
        refine Exists.intro (z13, (a3 - a2) + 1) (And.intro rfl (And.intro (And.intro (by show 0 ≤ z13; omega) (by show 0 ≤ ((a3 - a2) + 1); omega)) ?_))
        rintro z16 m_ h17
        obtain rfl : σ9 = m_ := h17.2
        have h18 : 1 ≤ z16 := h17.1
        refine And.intro (fun h19 => ?_) (fun h19 => ?_)
        · skip
          refine B rfl ?_
          have q20 := tdiv_r (x := (a3 - a2) + 1) (y := z16) (by omega) (by omega)
          refine And.intro (by omega) ?_
          refine Exists.intro _ (And.intro rfl ?_)
          exact (And.intro h11 (fun k j hk => (f10 _ _ (by omega))))
        · skip
          have q21 := tdiv_r (x := z13) (y := z16) (by omega) (by omega)
          refine And.intro (by omega) ?_
          refine B rfl ?_
          refine Exists.intro _ (And.intro rfl ?_)
          exact (And.intro h11 (fun k j hk => (f10 _ _ (by omega))))
      · skip
        refine Exists.intro _ (And.intro rfl ?_)
        exact (And.intro hp0 (fun k j hk => rfl))
def as_G_X10_saints : Int × Int × Int × Int × Int → List Sv_t := fun a => [(10, 0), (0, a.1), (0, a.2.1), (0, a.2.2.1), (0, a.2.2.2.1), (0, a.2.2.2.2)]
def pre_G_X10_saints : Int × Int × Int × Int × Int → Me_t → Prop := fun a σ => (CI σ)
def post_G_X10_saints : Int × Int × Int × Int × Int → Me_t → Int → Me_t → Prop := fun a σ z σ' => (CI σ') ∧ (∀ k j : Int, ¬ (k ≤ 27 ∨ (29 ≤ k ∧ k ≤ 77)) → σ' k j = σ k j)
set_option maxHeartbeats 1500000 in
set_option maxRecDepth 100000 in
theorem ct_G_X10_saints (l : Launch) : CT_ l yX10_saints cX10_saints 6 (some .int) 6 143 as_G_X10_saints (rmI_) pre_G_X10_saints post_G_X10_saints := by
  refine ct_of (by decide) (fun _ => Nat.le_of_ble_eq_true rfl) ?_
  intro X G Q ad σ a hl hR E hG R hM hv hp
  obtain ⟨a1, a2, a3, a4, a5⟩ := a
  have r_a1 : -2147483648 ≤ a1 ∧ a1 ≤ 2147483647 := hv (0, a1) (List.mem_of_getElem? (i := 1) rfl)
  have r_a2 : -2147483648 ≤ a2 ∧ a2 ≤ 2147483647 := hv (0, a2) (List.mem_of_getElem? (i := 2) rfl)
  have r_a3 : -2147483648 ≤ a3 ∧ a3 ≤ 2147483647 := hv (0, a3) (List.mem_of_getElem? (i := 3) rfl)
  have r_a4 : -2147483648 ≤ a4 ∧ a4 ≤ 2147483647 := hv (0, a4) (List.mem_of_getElem? (i := 4) rfl)
  have r_a5 : -2147483648 ≤ a5 ∧ a5 ≤ 2147483647 := hv (0, a5) (List.mem_of_getElem? (i := 5) rfl)
  have hp0 : CI σ := hp
  have B := @bk_ X G Q 0 0 ad SHS_ RX10 cX10_saints 6 (some .int) flX10 plX10 knX10 [(464, 6, TR_ as_G_X10_isSaintly (rmI_) pre_G_X10_isSaintly post_G_X10_isSaintly), (342, 1, TR_ as_G_X10_told (rmR_ 25) pre_G_X10_told post_G_X10_told), (472, 8, TR_ as_G_X5_seek (rmV_) pre_G_X5_seek post_G_X5_seek)] _ _ none kX10_saints [] flX10_ok plX10_ok knX10_ok eX10_saints oX10_saints
    (List.forall_mem_cons.mpr ⟨cok_v (t := 0) (c := 10) (N := 14) (n := 5) (idx := 232) E (ct_G_X10_isSaintly X.2.1) (by rw [hR]; decide) (Nat.zero_le _) (Nat.zero_le _) hG rfl rfl ⟨rfl, by decide, by decide, by decide⟩ (fun _ => ⟨_, _, rfl, rfl⟩) wl_X10_232 wi_X10_isSaintly ws_X10_isSaintly wn_X10 wc_X10_isSaintly, List.forall_mem_cons.mpr ⟨cok_v (t := 0) (c := 10) (N := 14) (n := 0) (idx := 171) E (ct_G_X10_told X.2.1) (by rw [hR]; decide) (Nat.zero_le _) (Nat.zero_le _) hG rfl rfl ⟨rfl, by decide, by decide, by decide⟩ (fun _ => ⟨_, _, rfl, rfl⟩) wl_X10_171 wi_X10_told ws_X10_told wn_X10 wc_X10_told, List.forall_mem_cons.mpr ⟨cok_v (t := 19) (c := 5) (N := 3) (n := 7) (idx := 236) E (ct_G_X5_seek X.2.1) (by rw [hR]; decide) (Nat.zero_le _) (Nat.zero_le _) hG rfl rfl ⟨rfl, by decide, by decide, by decide⟩ (fun _ => ⟨_, _, rfl, rfl⟩) wl_X10_236 wi_X5_seek ws_X5_seek wn_X5 wc_X5_seek, fun _ h => absurd h List.not_mem_nil⟩⟩⟩) R sok_no E
  show WP_ X G Q 0 0 ad SHS_ σ 0 [(10, 0), (0, a1), (0, a2), (0, a3), (0, a4), (0, a5)] []
  refine B rfl ?_
  refine Exists.intro (a1, a2, a3, a4, a5) (And.intro rfl (And.intro True.intro ?_))
  rintro z1 m_ h2
  obtain rfl : σ = m_ := h2.2
  have h3 : (z1 = 1 ∧ 0 ≤ a1 ∧ a1 ≤ 2 ∧ 0 ≤ a2 ∧ a2 ≤ 7 ∧ 0 ≤ a3 ∧ a3 ≤ 1999 ∧ 1 ≤ a4 ∧ a4 ≤ 20 ∧ 1 ≤ a5 ∧ a5 ≤ 9) ∨ z1 = 0 := h2.1
  refine And.intro (fun h4 => ?_) (fun h4 => ?_)
  · skip
    refine B rfl ?_
    intro z5 ez5 hz5
    have cz5 : z5 = 5 ∨ z5 = 16 := by have := (hp0).1; omega
    have lz5 : LG σ z5 := by rw [ez5]; exact (hp0).2.1.1
    have uz5 : UW σ z5 := by rw [ez5]; exact (hp0).2.1.2
    refine And.intro (by omega) ?_
    refine Exists.intro () (And.intro rfl (And.intro hp0 ?_))
    intro z6 σ8 h7
    have f9 : ∀ k j : Int, ¬ (30 ≤ k ∧ k ≤ 33) → σ8 k j = σ k j := h7.2.2
    have h10 : CI σ8 := h7.1
    have h11 : z6 = 30 := h7.2.1
    obtain rfl : z6 = 30 := by omega
    have p12 : DT σ8 := (h10).2.2.2
    refine Exists.intro ((z5 + 1) + 4 + 2 * a1, a1, a2, a3, a4, a5) (And.intro rfl (And.intro (And.intro p12 (And.intro (by show 0 ≤ a1; omega) (And.intro (by show a1 ≤ 2; omega) (And.intro (by show 0 ≤ a2; omega) (And.intro (by show a2 ≤ 7; omega) (And.intro (by show 0 ≤ a3; omega) (And.intro (by show a3 ≤ 1999; omega) (And.intro (by show 1 ≤ a4; omega) (And.intro (by show a4 ≤ 20; omega) (And.intro (by show 1 ≤ a5; omega) (by show a5 ≤ 9; omega))))))))))) ?_))
    intro z13 σ15 h14
    have f16 : ∀ k j : Int, ¬ (k = 34 ∨ k = 35) → σ15 k j = σ8 k j := h14
    intro z17 ez17 hz17
    have hz17 : ((-1) : Int) ≤ z17 ∧ z17 ≤ (69 : Int) := hz17
    try have t18 : σ15 34 1 = σ 34 1 := ((f16 _ _ (by omega)).trans (f9 _ _ (by omega)))
    refine Exists.intro _ (And.intro rfl ?_)
    have p19 : CI σ15 := CI_fr h10 (fun k j hk => (f16 _ _ (by omega)))
    exact (And.intro p19 (fun k j hk => ((f16 _ _ (by omega)).trans (f9 _ _ (by omega)))))
  · skip
    refine Exists.intro _ (And.intro rfl ?_)
    exact (And.intro hp0 (fun k j hk => rfl))
def as_G_X10_founded : Int × Int × Int × Int × Int → List Sv_t := fun a => [(10, 0), (0, a.1), (0, a.2.1), (0, a.2.2.1), (0, a.2.2.2.1), (0, a.2.2.2.2)]
def pre_G_X10_founded : Int × Int × Int × Int × Int → Me_t → Prop := fun a σ => (CI σ)
def post_G_X10_founded : Int × Int × Int × Int × Int → Me_t → Int → Me_t → Prop := fun a σ z σ' => (CI σ') ∧ (∀ k j : Int, ¬ (k ≤ 27 ∨ (29 ≤ k ∧ k ≤ 77)) → σ' k j = σ k j)
set_option maxHeartbeats 1500000 in
set_option maxRecDepth 100000 in
theorem ct_G_X10_founded (l : Launch) : CT_ l yX10_founded cX10_founded 6 (some .long) 6 143 as_G_X10_founded (rmL_) pre_G_X10_founded post_G_X10_founded := by
  refine ct_of (by decide) (fun _ => Nat.le_of_ble_eq_true rfl) ?_
  intro X G Q ad σ a hl hR E hG R hM hv hp
  obtain ⟨a1, a2, a3, a4, a5⟩ := a
  have r_a1 : -2147483648 ≤ a1 ∧ a1 ≤ 2147483647 := hv (0, a1) (List.mem_of_getElem? (i := 1) rfl)
  have r_a2 : -2147483648 ≤ a2 ∧ a2 ≤ 2147483647 := hv (0, a2) (List.mem_of_getElem? (i := 2) rfl)
  have r_a3 : -2147483648 ≤ a3 ∧ a3 ≤ 2147483647 := hv (0, a3) (List.mem_of_getElem? (i := 3) rfl)
  have r_a4 : -2147483648 ≤ a4 ∧ a4 ≤ 2147483647 := hv (0, a4) (List.mem_of_getElem? (i := 4) rfl)
  have r_a5 : -2147483648 ≤ a5 ∧ a5 ≤ 2147483647 := hv (0, a5) (List.mem_of_getElem? (i := 5) rfl)
  have hp0 : CI σ := hp
  have B := @bk_ X G Q 0 0 ad SHS_ RX10 cX10_founded 6 (some .long) flX10 plX10 knX10 [(464, 6, TR_ as_G_X10_isSaintly (rmI_) pre_G_X10_isSaintly post_G_X10_isSaintly), (342, 1, TR_ as_G_X10_told (rmR_ 25) pre_G_X10_told post_G_X10_told), (472, 8, TR_ as_G_X5_seek (rmV_) pre_G_X5_seek post_G_X5_seek)] _ _ none kX10_founded [] flX10_ok plX10_ok knX10_ok eX10_founded oX10_founded
    (List.forall_mem_cons.mpr ⟨cok_v (t := 0) (c := 10) (N := 14) (n := 5) (idx := 232) E (ct_G_X10_isSaintly X.2.1) (by rw [hR]; decide) (Nat.zero_le _) (Nat.zero_le _) hG rfl rfl ⟨rfl, by decide, by decide, by decide⟩ (fun _ => ⟨_, _, rfl, rfl⟩) wl_X10_232 wi_X10_isSaintly ws_X10_isSaintly wn_X10 wc_X10_isSaintly, List.forall_mem_cons.mpr ⟨cok_v (t := 0) (c := 10) (N := 14) (n := 0) (idx := 171) E (ct_G_X10_told X.2.1) (by rw [hR]; decide) (Nat.zero_le _) (Nat.zero_le _) hG rfl rfl ⟨rfl, by decide, by decide, by decide⟩ (fun _ => ⟨_, _, rfl, rfl⟩) wl_X10_171 wi_X10_told ws_X10_told wn_X10 wc_X10_told, List.forall_mem_cons.mpr ⟨cok_v (t := 19) (c := 5) (N := 3) (n := 7) (idx := 236) E (ct_G_X5_seek X.2.1) (by rw [hR]; decide) (Nat.zero_le _) (Nat.zero_le _) hG rfl rfl ⟨rfl, by decide, by decide, by decide⟩ (fun _ => ⟨_, _, rfl, rfl⟩) wl_X10_236 wi_X5_seek ws_X5_seek wn_X5 wc_X5_seek, fun _ h => absurd h List.not_mem_nil⟩⟩⟩) R sok_no E
  show WP_ X G Q 0 0 ad SHS_ σ 0 [(10, 0), (0, a1), (0, a2), (0, a3), (0, a4), (0, a5)] []
  refine B rfl ?_
  refine Exists.intro (a1, a2, a3, a4, a5) (And.intro rfl (And.intro True.intro ?_))
  rintro z1 m_ h2
  obtain rfl : σ = m_ := h2.2
  have h3 : (z1 = 1 ∧ 0 ≤ a1 ∧ a1 ≤ 2 ∧ 0 ≤ a2 ∧ a2 ≤ 7 ∧ 0 ≤ a3 ∧ a3 ≤ 1999 ∧ 1 ≤ a4 ∧ a4 ≤ 20 ∧ 1 ≤ a5 ∧ a5 ≤ 9) ∨ z1 = 0 := h2.1
  refine And.intro (fun h4 => ?_) (fun h4 => ?_)
  · skip
    refine B rfl ?_
    intro z5 ez5 hz5
    have cz5 : z5 = 5 ∨ z5 = 16 := by have := (hp0).1; omega
    have lz5 : LG σ z5 := by rw [ez5]; exact (hp0).2.1.1
    have uz5 : UW σ z5 := by rw [ez5]; exact (hp0).2.1.2
    refine And.intro (by omega) ?_
    refine Exists.intro () (And.intro rfl (And.intro hp0 ?_))
    intro z6 σ8 h7
    have f9 : ∀ k j : Int, ¬ (30 ≤ k ∧ k ≤ 33) → σ8 k j = σ k j := h7.2.2
    have h10 : CI σ8 := h7.1
    have h11 : z6 = 30 := h7.2.1
    obtain rfl : z6 = 30 := by omega
    have p12 : DT σ8 := (h10).2.2.2
    refine Exists.intro ((z5 + 1) + 4 + 2 * a1, a1, a2, a3, a4, a5) (And.intro rfl (And.intro (And.intro p12 (And.intro (by show 0 ≤ a1; omega) (And.intro (by show a1 ≤ 2; omega) (And.intro (by show 0 ≤ a2; omega) (And.intro (by show a2 ≤ 7; omega) (And.intro (by show 0 ≤ a3; omega) (And.intro (by show a3 ≤ 1999; omega) (And.intro (by show 1 ≤ a4; omega) (And.intro (by show a4 ≤ 20; omega) (And.intro (by show 1 ≤ a5; omega) (by show a5 ≤ 9; omega))))))))))) ?_))
    intro z13 σ15 h14
    have f16 : ∀ k j : Int, ¬ (k = 34 ∨ k = 35) → σ15 k j = σ8 k j := h14
    intro z17 ez17 _
    try have t18 : σ15 34 2 = σ 34 2 := ((f16 _ _ (by omega)).trans (f9 _ _ (by omega)))
    refine Exists.intro _ (And.intro rfl ?_)
    have p19 : CI σ15 := CI_fr h10 (fun k j hk => (f16 _ _ (by omega)))
    exact (And.intro p19 (fun k j hk => ((f16 _ _ (by omega)).trans (f9 _ _ (by omega)))))
  · skip
    refine Exists.intro _ (And.intro rfl ?_)
    exact (And.intro hp0 (fun k j hk => rfl))
def as_G_X10_bridge : Int × Int × Int × Int → List Sv_t := fun a => [(10, 0), (0, a.1), (0, a.2.1), (0, a.2.2.1), (0, a.2.2.2)]
def pre_G_X10_bridge : Int × Int × Int × Int → Me_t → Prop := fun a σ => (CI σ)
def post_G_X10_bridge : Int × Int × Int × Int → Me_t → Int → Me_t → Prop := fun a σ z σ' => (CI σ') ∧ (∀ k j : Int, ¬ (k ≤ 27 ∨ (29 ≤ k ∧ k ≤ 77)) → σ' k j = σ k j)
set_option maxHeartbeats 1500000 in
set_option maxRecDepth 100000 in
theorem ct_G_X10_bridge (l : Launch) : CT_ l yX10_bridge cX10_bridge 5 (some .int) 6 143 as_G_X10_bridge (rmI_) pre_G_X10_bridge post_G_X10_bridge := by
  refine ct_of (by decide) (fun _ => Nat.le_of_ble_eq_true rfl) ?_
  intro X G Q ad σ a hl hR E hG R hM hv hp
  obtain ⟨a1, a2, a3, a4⟩ := a
  have r_a1 : -2147483648 ≤ a1 ∧ a1 ≤ 2147483647 := hv (0, a1) (List.mem_of_getElem? (i := 1) rfl)
  have r_a2 : -2147483648 ≤ a2 ∧ a2 ≤ 2147483647 := hv (0, a2) (List.mem_of_getElem? (i := 2) rfl)
  have r_a3 : -2147483648 ≤ a3 ∧ a3 ≤ 2147483647 := hv (0, a3) (List.mem_of_getElem? (i := 3) rfl)
  have r_a4 : -2147483648 ≤ a4 ∧ a4 ≤ 2147483647 := hv (0, a4) (List.mem_of_getElem? (i := 4) rfl)
  have hp0 : CI σ := hp
  have B := @bk_ X G Q 0 0 ad SHS_ RX10 cX10_bridge 5 (some .int) flX10 plX10 knX10 [(226, 2, TR_ as_G_X9_hasLand (rmI_) pre_G_X9_hasLand post_G_X9_hasLand), (499, 2, TR_ as_G_X10_isSpan (rmI_) pre_G_X10_isSpan post_G_X10_isSpan), (342, 1, TR_ as_G_X10_told (rmR_ 25) pre_G_X10_told post_G_X10_told), (406, 5, TR_ as_G_X0_seekWait (rmV_) pre_G_X0_seekWait post_G_X0_seekWait)] _ _ none kX10_bridge [] flX10_ok plX10_ok knX10_ok eX10_bridge oX10_bridge
    (List.forall_mem_cons.mpr ⟨cok_v (t := 5) (c := 9) (N := 10) (n := 1) (idx := 113) E (ct_G_X9_hasLand X.2.1) (by rw [hR]; decide) (Nat.zero_le _) (Nat.zero_le _) hG rfl rfl ⟨rfl, by decide, by decide, by decide⟩ (fun _ => ⟨_, _, rfl, rfl⟩) wl_X10_113 wi_X9_hasLand ws_X9_hasLand wn_X9 wc_X9_hasLand, List.forall_mem_cons.mpr ⟨cok_s (n := 2) (idx := 249) E (ct_G_X10_isSpan X.2.1) (by rw [hR]; decide) (Nat.zero_le _) (Nat.zero_le _) hG ⟨by decide, by decide, by decide⟩ (fun _ => rfl) wl_X10_249 wt_X10_isSpan wn_X10 wc_X10_isSpan, List.forall_mem_cons.mpr ⟨cok_v (t := 0) (c := 10) (N := 14) (n := 0) (idx := 171) E (ct_G_X10_told X.2.1) (by rw [hR]; decide) (Nat.zero_le _) (Nat.zero_le _) hG rfl rfl ⟨rfl, by decide, by decide, by decide⟩ (fun _ => ⟨_, _, rfl, rfl⟩) wl_X10_171 wi_X10_told ws_X10_told wn_X10 wc_X10_told, List.forall_mem_cons.mpr ⟨cok_v (t := 15) (c := 0) (N := 9) (n := 4) (idx := 203) E (ct_G_X0_seekWait X.2.1) (by rw [hR]; decide) (Nat.zero_le _) (Nat.zero_le _) hG rfl rfl ⟨rfl, by decide, by decide, by decide⟩ (fun _ => ⟨_, _, rfl, rfl⟩) wl_X10_203 wi_X0_seekWait ws_X0_seekWait wn_X0 wc_X0_seekWait, fun _ h => absurd h List.not_mem_nil⟩⟩⟩⟩) R sok_no E
  show WP_ X G Q 0 0 ad SHS_ σ 0 [(10, 0), (0, a1), (0, a2), (0, a3), (0, a4)] []
  refine B rfl ?_
  intro z1 ez1 hz1
  have cz1 : z1 = 5 ∨ z1 = 16 := by have := (hp0).1; omega
  have lz1 : LG σ z1 := by rw [ez1]; exact (hp0).2.1.1
  have uz1 : UW σ z1 := by rw [ez1]; exact (hp0).2.1.2
  refine Exists.intro (z1, a1) (And.intro rfl (And.intro True.intro ?_))
  rintro z2 m_ h3
  obtain rfl : σ = m_ := h3.2
  have h4 : (z2 = 1 ∧ 0 ≤ a1 ∧ a1 ≤ 2 ∧ a1 < σ z1 2) ∨ z2 = 0 := h3.1
  refine And.intro (fun h5 => ?_) (fun h5 => ?_)
  · skip
    refine B rfl ?_
    refine Exists.intro _ (And.intro rfl ?_)
    exact (And.intro hp0 (fun k j hk => rfl))
  · skip
    refine Exists.intro (a2, a3) (And.intro rfl (And.intro True.intro ?_))
    rintro z6 m_ h7
    obtain rfl : σ = m_ := h7.2
    have h8 : (z6 = 1 ∧ 0 ≤ a2 ∧ a2 ≤ a3 ∧ a3 ≤ 1999) ∨ z6 = 0 := h7.1
    refine And.intro (fun h9 => ?_) (fun h9 => ?_)
    · skip
      refine B rfl ?_
      refine Exists.intro _ (And.intro rfl ?_)
      exact (And.intro hp0 (fun k j hk => rfl))
    · skip
      refine And.intro (fun h10 => ?_) (fun h10 => ?_)
      · skip
        refine B rfl ?_
        refine Exists.intro _ (And.intro rfl ?_)
        exact (And.intro hp0 (fun k j hk => rfl))
      · skip
        refine And.intro (fun h11 => ?_) (fun h11 => ?_)
        · skip
          refine B rfl ?_
          refine Exists.intro () (And.intro rfl (And.intro hp0 ?_))
          intro z12 σ14 h13
          have f15 : ∀ k j : Int, ¬ (30 ≤ k ∧ k ≤ 33) → σ14 k j = σ k j := h13.2.2
          have h16 : CI σ14 := h13.1
          have h17 : z12 = 30 := h13.2.1
          obtain rfl : z12 = 30 := by omega
          try have q18 := shl3_1 (b := a1) (by omega) (by omega)
          try have q19 := shl3_b (b := a1) (by omega) (by omega)
          refine Exists.intro (shl3_ 1 a1, a2, a3, a4) (And.intro rfl (And.intro (And.intro (by show 0 ≤ a2; omega) (And.intro (by show a2 ≤ a3 + 1; omega) (And.intro (by show a3 ≤ 1999; omega) (by show 0 ≤ a4; omega)))) ?_))
          intro z20 σ22 h21
          have f23 : ∀ k j : Int, ¬ (k = 30) → σ22 k j = σ14 k j := h21
          intro z24 ez24 hz24
          have hz24 : ((-2147483648) : Int) ≤ z24 ∧ z24 ≤ (2147483647 : Int) := rgl_ hz24 (by decide +kernel) (by decide +kernel) (by decide +kernel)
          try have t25 : σ22 30 5 = σ 30 5 := ((f23 _ _ (by omega)).trans (f15 _ _ (by omega)))
          refine Exists.intro _ (And.intro rfl ?_)
          have p26 : CI σ22 := CI_fr h16 (fun k j hk => (f23 _ _ (by omega)))
          exact (And.intro p26 (fun k j hk => ((f23 _ _ (by omega)).trans (f15 _ _ (by omega)))))
        · skip
          refine Exists.intro _ (And.intro rfl ?_)
          exact (And.intro hp0 (fun k j hk => rfl))
def as_G_X10_bridged : Int × Int × Int × Int → List Sv_t := fun a => [(10, 0), (0, a.1), (0, a.2.1), (0, a.2.2.1), (0, a.2.2.2)]
def pre_G_X10_bridged : Int × Int × Int × Int → Me_t → Prop := fun a σ => (CI σ)
def post_G_X10_bridged : Int × Int × Int × Int → Me_t → Int → Me_t → Prop := fun a σ z σ' => (CI σ') ∧ (∀ k j : Int, ¬ (k ≤ 27 ∨ (29 ≤ k ∧ k ≤ 77)) → σ' k j = σ k j)
set_option maxHeartbeats 1500000 in
set_option maxRecDepth 100000 in
theorem ct_G_X10_bridged (l : Launch) : CT_ l yX10_bridged cX10_bridged 5 (some .int) 6 143 as_G_X10_bridged (rmI_) pre_G_X10_bridged post_G_X10_bridged := by
  refine ct_of (by decide) (fun _ => Nat.le_of_ble_eq_true rfl) ?_
  intro X G Q ad σ a hl hR E hG R hM hv hp
  obtain ⟨a1, a2, a3, a4⟩ := a
  have r_a1 : -2147483648 ≤ a1 ∧ a1 ≤ 2147483647 := hv (0, a1) (List.mem_of_getElem? (i := 1) rfl)
  have r_a2 : -2147483648 ≤ a2 ∧ a2 ≤ 2147483647 := hv (0, a2) (List.mem_of_getElem? (i := 2) rfl)
  have r_a3 : -2147483648 ≤ a3 ∧ a3 ≤ 2147483647 := hv (0, a3) (List.mem_of_getElem? (i := 3) rfl)
  have r_a4 : -2147483648 ≤ a4 ∧ a4 ≤ 2147483647 := hv (0, a4) (List.mem_of_getElem? (i := 4) rfl)
  have hp0 : CI σ := hp
  have B := @bk_ X G Q 0 0 ad SHS_ RX10 cX10_bridged 5 (some .int) flX10 plX10 knX10 [(226, 2, TR_ as_G_X9_hasLand (rmI_) pre_G_X9_hasLand post_G_X9_hasLand), (499, 2, TR_ as_G_X10_isSpan (rmI_) pre_G_X10_isSpan post_G_X10_isSpan), (342, 1, TR_ as_G_X10_told (rmR_ 25) pre_G_X10_told post_G_X10_told), (406, 5, TR_ as_G_X0_seekWait (rmV_) pre_G_X0_seekWait post_G_X0_seekWait)] _ _ none kX10_bridged [] flX10_ok plX10_ok knX10_ok eX10_bridged oX10_bridged
    (List.forall_mem_cons.mpr ⟨cok_v (t := 5) (c := 9) (N := 10) (n := 1) (idx := 113) E (ct_G_X9_hasLand X.2.1) (by rw [hR]; decide) (Nat.zero_le _) (Nat.zero_le _) hG rfl rfl ⟨rfl, by decide, by decide, by decide⟩ (fun _ => ⟨_, _, rfl, rfl⟩) wl_X10_113 wi_X9_hasLand ws_X9_hasLand wn_X9 wc_X9_hasLand, List.forall_mem_cons.mpr ⟨cok_s (n := 2) (idx := 249) E (ct_G_X10_isSpan X.2.1) (by rw [hR]; decide) (Nat.zero_le _) (Nat.zero_le _) hG ⟨by decide, by decide, by decide⟩ (fun _ => rfl) wl_X10_249 wt_X10_isSpan wn_X10 wc_X10_isSpan, List.forall_mem_cons.mpr ⟨cok_v (t := 0) (c := 10) (N := 14) (n := 0) (idx := 171) E (ct_G_X10_told X.2.1) (by rw [hR]; decide) (Nat.zero_le _) (Nat.zero_le _) hG rfl rfl ⟨rfl, by decide, by decide, by decide⟩ (fun _ => ⟨_, _, rfl, rfl⟩) wl_X10_171 wi_X10_told ws_X10_told wn_X10 wc_X10_told, List.forall_mem_cons.mpr ⟨cok_v (t := 15) (c := 0) (N := 9) (n := 4) (idx := 203) E (ct_G_X0_seekWait X.2.1) (by rw [hR]; decide) (Nat.zero_le _) (Nat.zero_le _) hG rfl rfl ⟨rfl, by decide, by decide, by decide⟩ (fun _ => ⟨_, _, rfl, rfl⟩) wl_X10_203 wi_X0_seekWait ws_X0_seekWait wn_X0 wc_X0_seekWait, fun _ h => absurd h List.not_mem_nil⟩⟩⟩⟩) R sok_no E
  show WP_ X G Q 0 0 ad SHS_ σ 0 [(10, 0), (0, a1), (0, a2), (0, a3), (0, a4)] []
  refine B rfl ?_
  intro z1 ez1 hz1
  have cz1 : z1 = 5 ∨ z1 = 16 := by have := (hp0).1; omega
  have lz1 : LG σ z1 := by rw [ez1]; exact (hp0).2.1.1
  have uz1 : UW σ z1 := by rw [ez1]; exact (hp0).2.1.2
  refine Exists.intro (z1, a1) (And.intro rfl (And.intro True.intro ?_))
  rintro z2 m_ h3
  obtain rfl : σ = m_ := h3.2
  have h4 : (z2 = 1 ∧ 0 ≤ a1 ∧ a1 ≤ 2 ∧ a1 < σ z1 2) ∨ z2 = 0 := h3.1
  refine And.intro (fun h5 => ?_) (fun h5 => ?_)
  · skip
    refine B rfl ?_
    refine Exists.intro _ (And.intro rfl ?_)
    exact (And.intro hp0 (fun k j hk => rfl))
  · skip
    refine Exists.intro (a2, a3) (And.intro rfl (And.intro True.intro ?_))
    rintro z6 m_ h7
    obtain rfl : σ = m_ := h7.2
    have h8 : (z6 = 1 ∧ 0 ≤ a2 ∧ a2 ≤ a3 ∧ a3 ≤ 1999) ∨ z6 = 0 := h7.1
    refine And.intro (fun h9 => ?_) (fun h9 => ?_)
    · skip
      refine B rfl ?_
      refine Exists.intro _ (And.intro rfl ?_)
      exact (And.intro hp0 (fun k j hk => rfl))
    · skip
      refine And.intro (fun h10 => ?_) (fun h10 => ?_)
      · skip
        refine B rfl ?_
        refine Exists.intro _ (And.intro rfl ?_)
        exact (And.intro hp0 (fun k j hk => rfl))
      · skip
        refine And.intro (fun h11 => ?_) (fun h11 => ?_)
        · skip
          refine B rfl ?_
          refine Exists.intro () (And.intro rfl (And.intro hp0 ?_))
          intro z12 σ14 h13
          have f15 : ∀ k j : Int, ¬ (30 ≤ k ∧ k ≤ 33) → σ14 k j = σ k j := h13.2.2
          have h16 : CI σ14 := h13.1
          have h17 : z12 = 30 := h13.2.1
          obtain rfl : z12 = 30 := by omega
          try have q18 := shl3_1 (b := a1) (by omega) (by omega)
          try have q19 := shl3_b (b := a1) (by omega) (by omega)
          refine Exists.intro (shl3_ 1 a1, a2, a3, a4) (And.intro rfl (And.intro (And.intro (by show 0 ≤ a2; omega) (And.intro (by show a2 ≤ a3 + 1; omega) (And.intro (by show a3 ≤ 1999; omega) (by show 0 ≤ a4; omega)))) ?_))
          intro z20 σ22 h21
          have f23 : ∀ k j : Int, ¬ (k = 30) → σ22 k j = σ14 k j := h21
          intro z24 ez24 hz24
          have hz24 : ((-2147483648) : Int) ≤ z24 ∧ z24 ≤ (2147483647 : Int) := rgl_ hz24 (by decide +kernel) (by decide +kernel) (by decide +kernel)
          try have t25 : σ22 30 6 = σ 30 6 := ((f23 _ _ (by omega)).trans (f15 _ _ (by omega)))
          refine Exists.intro _ (And.intro rfl ?_)
          have p26 : CI σ22 := CI_fr h16 (fun k j hk => (f23 _ _ (by omega)))
          exact (And.intro p26 (fun k j hk => ((f23 _ _ (by omega)).trans (f15 _ _ (by omega)))))
        · skip
          refine Exists.intro _ (And.intro rfl ?_)
          exact (And.intro hp0 (fun k j hk => rfl))
def as_G_X10_oldest : Int → List Sv_t := fun a => [(10, 0), (0, a)]
def pre_G_X10_oldest : Int → Me_t → Prop := fun a σ => (CI σ)
def post_G_X10_oldest : Int → Me_t → Int → Me_t → Prop := fun a σ z σ' => (CI σ') ∧ (∀ k j : Int, ¬ (k ≤ 27 ∨ (29 ≤ k ∧ k ≤ 77)) → σ' k j = σ k j)
set_option maxHeartbeats 1500000 in
set_option maxRecDepth 100000 in
theorem ct_G_X10_oldest (l : Launch) : CT_ l yX10_oldest cX10_oldest 3 (some .int) 5 117 as_G_X10_oldest (rmI_) pre_G_X10_oldest post_G_X10_oldest := by
  refine ct_of (by decide) (fun _ => Nat.le_of_ble_eq_true rfl) ?_
  intro X G Q ad σ a hl hR E hG R hM hv hp
  obtain ⟨a1, rfl⟩ : ∃ q : Int, q = a := ⟨_, rfl⟩
  have r_a1 : -2147483648 ≤ a1 ∧ a1 ≤ 2147483647 := hv (0, a1) (List.mem_of_getElem? (i := 1) rfl)
  have hp0 : CI σ := hp
  have B := @bk_ X G Q 0 0 ad SHS_ RX10 cX10_oldest 3 (some .int) flX10 plX10 knX10 [(504, 2, TR_ as_G_X10_readOrders (rmI_) pre_G_X10_readOrders post_G_X10_readOrders), (512, 1, TR_ as_G_X2_placeOfOldest (rmI_) pre_G_X2_placeOfOldest post_G_X2_placeOfOldest)] _ _ none kX10_oldest [] flX10_ok plX10_ok knX10_ok eX10_oldest oX10_oldest
    (List.forall_mem_cons.mpr ⟨cok_v (t := 0) (c := 10) (N := 14) (n := 1) (idx := 252) E (ct_G_X10_readOrders X.2.1) (by rw [hR]; decide) (Nat.zero_le _) (Nat.zero_le _) hG rfl rfl ⟨rfl, by decide, by decide, by decide⟩ (fun _ => ⟨_, _, rfl, rfl⟩) wl_X10_252 wi_X10_readOrders ws_X10_readOrders wn_X10 wc_X10_readOrders, List.forall_mem_cons.mpr ⟨cok_v (t := 21) (c := 2) (N := 3) (n := 0) (idx := 256) E (ct_G_X2_placeOfOldest X.2.1) (by rw [hR]; decide) (Nat.zero_le _) (Nat.zero_le _) hG rfl rfl ⟨rfl, by decide, by decide, by decide⟩ (fun _ => ⟨_, _, rfl, rfl⟩) wl_X10_256 wi_X2_placeOfOldest ws_X2_placeOfOldest wn_X2 wc_X2_placeOfOldest, fun _ h => absurd h List.not_mem_nil⟩⟩) R sok_no E
  show WP_ X G Q 0 0 ad SHS_ σ 0 [(10, 0), (0, a1), (9, 0)] []
  refine B rfl ?_
  refine Exists.intro a1 (And.intro rfl (And.intro hp0 ?_))
  intro z1 σ3 h2
  have f4 : ∀ k j : Int, ¬ (36 ≤ k ∧ k ≤ 38) → σ3 k j = σ k j := h2.2.2
  have h5 : CI σ3 := h2.1
  have h6 : z1 < 0 ∨ ∀ j : Int, 0 ≤ j → j < σ3 36 2 → 0 ≤ σ3 38 j := h2.2.1
  refine And.intro (fun h7 => ?_) (fun h7 => ?_)
  · skip
    refine B rfl ?_
    refine Exists.intro () (And.intro rfl (And.intro True.intro ?_))
    rintro z8 m_ h9
    obtain rfl : σ3 = m_ := h9
    refine Exists.intro _ (And.intro rfl ?_)
    exact (And.intro h5 (fun k j hk => (f4 _ _ (by omega))))
  · skip
    refine B rfl ?_
    refine Exists.intro _ (And.intro rfl ?_)
    exact (And.intro h5 (fun k j hk => (f4 _ _ (by omega))))
def as_G_X10_apart : Int → List Sv_t := fun a => [(10, 0), (0, a)]
def pre_G_X10_apart : Int → Me_t → Prop := fun a σ => (CI σ)
def post_G_X10_apart : Int → Me_t → Int → Me_t → Prop := fun a σ z σ' => (CI σ') ∧ (∀ k j : Int, ¬ (k ≤ 27 ∨ (29 ≤ k ∧ k ≤ 77)) → σ' k j = σ k j)
set_option maxHeartbeats 1500000 in
set_option maxRecDepth 100000 in
theorem ct_G_X10_apart (l : Launch) : CT_ l yX10_apart cX10_apart 3 (some .int) 5 117 as_G_X10_apart (rmI_) pre_G_X10_apart post_G_X10_apart := by
  refine ct_of (by decide) (fun _ => Nat.le_of_ble_eq_true rfl) ?_
  intro X G Q ad σ a hl hR E hG R hM hv hp
  obtain ⟨a1, rfl⟩ : ∃ q : Int, q = a := ⟨_, rfl⟩
  have r_a1 : -2147483648 ≤ a1 ∧ a1 ≤ 2147483647 := hv (0, a1) (List.mem_of_getElem? (i := 1) rfl)
  have hp0 : CI σ := hp
  have B := @bk_ X G Q 0 0 ad SHS_ RX10 cX10_apart 3 (some .int) flX10 plX10 knX10 [(504, 2, TR_ as_G_X10_readOrders (rmI_) pre_G_X10_readOrders post_G_X10_readOrders), (526, 1, TR_ as_G_X2_daysApart (rmI_) pre_G_X2_daysApart post_G_X2_daysApart)] _ _ none kX10_apart [] flX10_ok plX10_ok knX10_ok eX10_apart oX10_apart
    (List.forall_mem_cons.mpr ⟨cok_v (t := 0) (c := 10) (N := 14) (n := 1) (idx := 252) E (ct_G_X10_readOrders X.2.1) (by rw [hR]; decide) (Nat.zero_le _) (Nat.zero_le _) hG rfl rfl ⟨rfl, by decide, by decide, by decide⟩ (fun _ => ⟨_, _, rfl, rfl⟩) wl_X10_252 wi_X10_readOrders ws_X10_readOrders wn_X10 wc_X10_readOrders, List.forall_mem_cons.mpr ⟨cok_v (t := 21) (c := 2) (N := 3) (n := 0) (idx := 263) E (ct_G_X2_daysApart X.2.1) (by rw [hR]; decide) (Nat.zero_le _) (Nat.zero_le _) hG rfl rfl ⟨rfl, by decide, by decide, by decide⟩ (fun _ => ⟨_, _, rfl, rfl⟩) wl_X10_263 wi_X2_daysApart ws_X2_daysApart wn_X2 wc_X2_daysApart, fun _ h => absurd h List.not_mem_nil⟩⟩) R sok_no E
  show WP_ X G Q 0 0 ad SHS_ σ 0 [(10, 0), (0, a1), (9, 0)] []
  refine B rfl ?_
  refine Exists.intro a1 (And.intro rfl (And.intro hp0 ?_))
  intro z1 σ3 h2
  have f4 : ∀ k j : Int, ¬ (36 ≤ k ∧ k ≤ 38) → σ3 k j = σ k j := h2.2.2
  have h5 : CI σ3 := h2.1
  have h6 : z1 < 0 ∨ ∀ j : Int, 0 ≤ j → j < σ3 36 2 → 0 ≤ σ3 38 j := h2.2.1
  refine And.intro (fun h7 => ?_) (fun h7 => ?_)
  · skip
    refine B rfl ?_
    refine Exists.intro () (And.intro rfl (And.intro True.intro ?_))
    rintro z8 m_ h9
    obtain rfl : σ3 = m_ := h9
    refine Exists.intro _ (And.intro rfl ?_)
    exact (And.intro h5 (fun k j hk => (f4 _ _ (by omega))))
  · skip
    refine B rfl ?_
    refine Exists.intro _ (And.intro rfl ?_)
    exact (And.intro h5 (fun k j hk => (f4 _ _ (by omega))))
def as_G_X10_fits : Int × Int × Int → List Sv_t := fun a => [(10, 0), (0, a.1), (0, a.2.1), (0, a.2.2)]
def pre_G_X10_fits : Int × Int × Int → Me_t → Prop := fun a σ => (CI σ)
def post_G_X10_fits : Int × Int × Int → Me_t → Int → Me_t → Prop := fun a σ z σ' => (CI σ') ∧ (∀ k j : Int, ¬ (k ≤ 27 ∨ (29 ≤ k ∧ k ≤ 77)) → σ' k j = σ k j)
set_option maxHeartbeats 1500000 in
set_option maxRecDepth 100000 in
theorem ct_G_X10_fits (l : Launch) : CT_ l yX10_fits cX10_fits 5 (some .int) 6 147 as_G_X10_fits (rmI_) pre_G_X10_fits post_G_X10_fits := by
  refine ct_of (by decide) (fun _ => Nat.le_of_ble_eq_true rfl) ?_
  intro X G Q ad σ a hl hR E hG R hM hv hp
  obtain ⟨a1, a2, a3⟩ := a
  have r_a1 : -2147483648 ≤ a1 ∧ a1 ≤ 2147483647 := hv (0, a1) (List.mem_of_getElem? (i := 1) rfl)
  have r_a2 : -2147483648 ≤ a2 ∧ a2 ≤ 2147483647 := hv (0, a2) (List.mem_of_getElem? (i := 2) rfl)
  have r_a3 : -2147483648 ≤ a3 ∧ a3 ≤ 2147483647 := hv (0, a3) (List.mem_of_getElem? (i := 3) rfl)
  have hp0 : CI σ := hp
  have B := @bk_ X G Q 0 0 ad SHS_ RX10 cX10_fits 5 (some .int) flX10 plX10 knX10 [(540, 4, TR_ as_G_X10_readSights (rmI_) pre_G_X10_readSights post_G_X10_readSights)] _ _ none kX10_fits [] flX10_ok plX10_ok knX10_ok eX10_fits oX10_fits
    (List.forall_mem_cons.mpr ⟨cok_v (t := 0) (c := 10) (N := 14) (n := 3) (idx := 270) E (ct_G_X10_readSights X.2.1) (by rw [hR]; decide) (Nat.zero_le _) (Nat.zero_le _) hG rfl rfl ⟨rfl, by decide, by decide, by decide⟩ (fun _ => ⟨_, _, rfl, rfl⟩) wl_X10_270 wi_X10_readSights ws_X10_readSights wn_X10 wc_X10_readSights, fun _ h => absurd h List.not_mem_nil⟩) R sok_no E
  show WP_ X G Q 0 0 ad SHS_ σ 0 [(10, 0), (0, a1), (0, a2), (0, a3), (9, 0)] []
  refine B rfl ?_
  refine Exists.intro (a1, a2, a3) (And.intro rfl (And.intro hp0 ?_))
  intro z1 σ3 h2
  have f4 : ∀ k j : Int, ¬ ((30 ≤ k ∧ k ≤ 33) ∨ k = 39 ∨ k = 40) → σ3 k j = σ k j := h2.2
  have h5 : CI σ3 := h2.1
  refine And.intro (fun h6 => ?_) (fun h6 => ?_)
  · skip
    refine B rfl ?_
    intro z7 ez7 hz7
    have hz7 : (0 : Int) ≤ z7 ∧ z7 ≤ (2000 : Int) := hz7
    try have t8 : σ3 39 1 = σ 39 1 := (f4 _ _ (by omega))
    refine Exists.intro _ (And.intro rfl ?_)
    exact (And.intro h5 (fun k j hk => (f4 _ _ (by omega))))
  · skip
    refine B rfl ?_
    refine Exists.intro _ (And.intro rfl ?_)
    exact (And.intro h5 (fun k j hk => (f4 _ _ (by omega))))
def as_G_X10_ask : Int × Int × Int → List Sv_t := fun a => [(10, 0), (0, a.1), (0, a.2.1), (0, a.2.2)]
def pre_G_X10_ask : Int × Int × Int → Me_t → Prop := fun a σ => (CI σ)
def post_G_X10_ask : Int × Int × Int → Me_t → Int → Me_t → Prop := fun a σ z σ' => (CI σ') ∧ (∀ k j : Int, ¬ (k ≤ 27 ∨ (29 ≤ k ∧ k ≤ 77)) → σ' k j = σ k j)
set_option maxHeartbeats 1500000 in
set_option maxRecDepth 100000 in
theorem ct_G_X10_ask (l : Launch) : CT_ l yX10_ask cX10_ask 5 (some .int) 6 147 as_G_X10_ask (rmI_) pre_G_X10_ask post_G_X10_ask := by
  refine ct_of (by decide) (fun _ => Nat.le_of_ble_eq_true rfl) ?_
  intro X G Q ad σ a hl hR E hG R hM hv hp
  obtain ⟨a1, a2, a3⟩ := a
  have r_a1 : -2147483648 ≤ a1 ∧ a1 ≤ 2147483647 := hv (0, a1) (List.mem_of_getElem? (i := 1) rfl)
  have r_a2 : -2147483648 ≤ a2 ∧ a2 ≤ 2147483647 := hv (0, a2) (List.mem_of_getElem? (i := 2) rfl)
  have r_a3 : -2147483648 ≤ a3 ∧ a3 ≤ 2147483647 := hv (0, a3) (List.mem_of_getElem? (i := 3) rfl)
  have hp0 : CI σ := hp
  have B := @bk_ X G Q 0 0 ad SHS_ RX10 cX10_ask 5 (some .int) flX10 plX10 knX10 [(540, 4, TR_ as_G_X10_readSights (rmI_) pre_G_X10_readSights post_G_X10_readSights), (342, 1, TR_ as_G_X10_told (rmR_ 25) pre_G_X10_told post_G_X10_told), (566, 3, TR_ as_G_X6_seekQuestion (rmV_) pre_G_X6_seekQuestion post_G_X6_seekQuestion)] _ _ none kX10_ask [] flX10_ok plX10_ok knX10_ok eX10_ask oX10_ask
    (List.forall_mem_cons.mpr ⟨cok_v (t := 0) (c := 10) (N := 14) (n := 3) (idx := 270) E (ct_G_X10_readSights X.2.1) (by rw [hR]; decide) (Nat.zero_le _) (Nat.zero_le _) hG rfl rfl ⟨rfl, by decide, by decide, by decide⟩ (fun _ => ⟨_, _, rfl, rfl⟩) wl_X10_270 wi_X10_readSights ws_X10_readSights wn_X10 wc_X10_readSights, List.forall_mem_cons.mpr ⟨cok_v (t := 0) (c := 10) (N := 14) (n := 0) (idx := 171) E (ct_G_X10_told X.2.1) (by rw [hR]; decide) (Nat.zero_le _) (Nat.zero_le _) hG rfl rfl ⟨rfl, by decide, by decide, by decide⟩ (fun _ => ⟨_, _, rfl, rfl⟩) wl_X10_171 wi_X10_told ws_X10_told wn_X10 wc_X10_told, List.forall_mem_cons.mpr ⟨cok_v (t := 24) (c := 6) (N := 5) (n := 2) (idx := 283) E (ct_G_X6_seekQuestion X.2.1) (by rw [hR]; decide) (Nat.zero_le _) (Nat.zero_le _) hG rfl rfl ⟨rfl, by decide, by decide, by decide⟩ (fun _ => ⟨_, _, rfl, rfl⟩) wl_X10_283 wi_X6_seekQuestion ws_X6_seekQuestion wn_X6 wc_X6_seekQuestion, fun _ h => absurd h List.not_mem_nil⟩⟩⟩) R sok_no E
  show WP_ X G Q 0 0 ad SHS_ σ 0 [(10, 0), (0, a1), (0, a2), (0, a3), (9, 0)] []
  refine B rfl ?_
  refine Exists.intro (a1, a2, a3) (And.intro rfl (And.intro hp0 ?_))
  intro z1 σ3 h2
  have f4 : ∀ k j : Int, ¬ ((30 ≤ k ∧ k ≤ 33) ∨ k = 39 ∨ k = 40) → σ3 k j = σ k j := h2.2
  have h5 : CI σ3 := h2.1
  refine And.intro (fun h6 => ?_) (fun h6 => ?_)
  · skip
    refine B rfl ?_
    refine Exists.intro () (And.intro rfl (And.intro h5 ?_))
    intro z7 σ9 h8
    have f10 : ∀ k j : Int, ¬ (30 ≤ k ∧ k ≤ 33) → σ9 k j = σ3 k j := h8.2.2
    have h11 : CI σ9 := h8.1
    have h12 : z7 = 30 := h8.2.1
    obtain rfl : z7 = 30 := by omega
    intro z13 ez13 hz13
    try have t14 : σ9 0 2 = σ 0 2 := ((f10 _ _ (by omega)).trans (f4 _ _ (by omega)))
    have cz13 : z13 = 5 ∨ z13 = 16 := by have := (h11).1; omega
    have lz13 : LG σ9 z13 := by rw [ez13]; exact (h11).2.1.1
    have uz13 : UW σ9 z13 := by rw [ez13]; exact (h11).2.1.2
    intro z15 ez15 hz15
    have hz15 : (0 : Int) ≤ z15 ∧ z15 ≤ (3 : Int) := hz15
    try have t16 : σ9 z13 2 = σ z13 2 := ((f10 _ _ (by omega)).trans (f4 _ _ (by omega)))
    have p17 : DT σ9 := (h11).2.2.2
    refine Exists.intro z15 (And.intro rfl (And.intro (And.intro p17 (And.intro (by show 0 ≤ z15; omega) (by show z15 ≤ 3; omega))) ?_))
    intro z18 σ20 h19
    have f21 : ∀ k j : Int, ¬ (k = 39 ∨ k = 41) → σ20 k j = σ9 k j := h19
    intro z22 ez22 hz22
    have hz22 : ((-2147483648) : Int) ≤ z22 ∧ z22 ≤ (2147483647 : Int) := rgl_ hz22 (by decide +kernel) (by decide +kernel) (by decide +kernel)
    try have t23 : σ20 39 3 = σ 39 3 := ((f21 _ _ (by omega)).trans ((f10 _ _ (by omega)).trans (f4 _ _ (by omega))))
    refine Exists.intro _ (And.intro rfl ?_)
    have p24 : CI σ20 := CI_fr h11 (fun k j hk => (f21 _ _ (by omega)))
    exact (And.intro p24 (fun k j hk => ((f21 _ _ (by omega)).trans ((f10 _ _ (by omega)).trans (f4 _ _ (by omega))))))
  · skip
    refine Exists.intro _ (And.intro rfl ?_)
    exact (And.intro h5 (fun k j hk => (f4 _ _ (by omega))))
def as_G_X10_leaves : Int × Int × Int → List Sv_t := fun a => [(10, 0), (0, a.1), (0, a.2.1), (0, a.2.2)]
def pre_G_X10_leaves : Int × Int × Int → Me_t → Prop := fun a σ => (CI σ)
def post_G_X10_leaves : Int × Int × Int → Me_t → Int → Me_t → Prop := fun a σ z σ' => (CI σ') ∧ (∀ k j : Int, ¬ (k ≤ 27 ∨ (29 ≤ k ∧ k ≤ 77)) → σ' k j = σ k j)
set_option maxHeartbeats 1500000 in
set_option maxRecDepth 100000 in
theorem ct_G_X10_leaves (l : Launch) : CT_ l yX10_leaves cX10_leaves 5 (some .int) 6 147 as_G_X10_leaves (rmI_) pre_G_X10_leaves post_G_X10_leaves := by
  refine ct_of (by decide) (fun _ => Nat.le_of_ble_eq_true rfl) ?_
  intro X G Q ad σ a hl hR E hG R hM hv hp
  obtain ⟨a1, a2, a3⟩ := a
  have r_a1 : -2147483648 ≤ a1 ∧ a1 ≤ 2147483647 := hv (0, a1) (List.mem_of_getElem? (i := 1) rfl)
  have r_a2 : -2147483648 ≤ a2 ∧ a2 ≤ 2147483647 := hv (0, a2) (List.mem_of_getElem? (i := 2) rfl)
  have r_a3 : -2147483648 ≤ a3 ∧ a3 ≤ 2147483647 := hv (0, a3) (List.mem_of_getElem? (i := 3) rfl)
  have hp0 : CI σ := hp
  have B := @bk_ X G Q 0 0 ad SHS_ RX10 cX10_leaves 5 (some .int) flX10 plX10 knX10 [(540, 4, TR_ as_G_X10_readSights (rmI_) pre_G_X10_readSights post_G_X10_readSights), (342, 1, TR_ as_G_X10_told (rmR_ 25) pre_G_X10_told post_G_X10_told), (566, 3, TR_ as_G_X6_seekQuestion (rmV_) pre_G_X6_seekQuestion post_G_X6_seekQuestion)] _ _ none kX10_leaves [] flX10_ok plX10_ok knX10_ok eX10_leaves oX10_leaves
    (List.forall_mem_cons.mpr ⟨cok_v (t := 0) (c := 10) (N := 14) (n := 3) (idx := 270) E (ct_G_X10_readSights X.2.1) (by rw [hR]; decide) (Nat.zero_le _) (Nat.zero_le _) hG rfl rfl ⟨rfl, by decide, by decide, by decide⟩ (fun _ => ⟨_, _, rfl, rfl⟩) wl_X10_270 wi_X10_readSights ws_X10_readSights wn_X10 wc_X10_readSights, List.forall_mem_cons.mpr ⟨cok_v (t := 0) (c := 10) (N := 14) (n := 0) (idx := 171) E (ct_G_X10_told X.2.1) (by rw [hR]; decide) (Nat.zero_le _) (Nat.zero_le _) hG rfl rfl ⟨rfl, by decide, by decide, by decide⟩ (fun _ => ⟨_, _, rfl, rfl⟩) wl_X10_171 wi_X10_told ws_X10_told wn_X10 wc_X10_told, List.forall_mem_cons.mpr ⟨cok_v (t := 24) (c := 6) (N := 5) (n := 2) (idx := 283) E (ct_G_X6_seekQuestion X.2.1) (by rw [hR]; decide) (Nat.zero_le _) (Nat.zero_le _) hG rfl rfl ⟨rfl, by decide, by decide, by decide⟩ (fun _ => ⟨_, _, rfl, rfl⟩) wl_X10_283 wi_X6_seekQuestion ws_X6_seekQuestion wn_X6 wc_X6_seekQuestion, fun _ h => absurd h List.not_mem_nil⟩⟩⟩) R sok_no E
  show WP_ X G Q 0 0 ad SHS_ σ 0 [(10, 0), (0, a1), (0, a2), (0, a3), (9, 0)] []
  refine B rfl ?_
  refine Exists.intro (a1, a2, a3) (And.intro rfl (And.intro hp0 ?_))
  intro z1 σ3 h2
  have f4 : ∀ k j : Int, ¬ ((30 ≤ k ∧ k ≤ 33) ∨ k = 39 ∨ k = 40) → σ3 k j = σ k j := h2.2
  have h5 : CI σ3 := h2.1
  refine And.intro (fun h6 => ?_) (fun h6 => ?_)
  · skip
    refine B rfl ?_
    refine Exists.intro () (And.intro rfl (And.intro h5 ?_))
    intro z7 σ9 h8
    have f10 : ∀ k j : Int, ¬ (30 ≤ k ∧ k ≤ 33) → σ9 k j = σ3 k j := h8.2.2
    have h11 : CI σ9 := h8.1
    have h12 : z7 = 30 := h8.2.1
    obtain rfl : z7 = 30 := by omega
    intro z13 ez13 hz13
    try have t14 : σ9 0 2 = σ 0 2 := ((f10 _ _ (by omega)).trans (f4 _ _ (by omega)))
    have cz13 : z13 = 5 ∨ z13 = 16 := by have := (h11).1; omega
    have lz13 : LG σ9 z13 := by rw [ez13]; exact (h11).2.1.1
    have uz13 : UW σ9 z13 := by rw [ez13]; exact (h11).2.1.2
    intro z15 ez15 hz15
    have hz15 : (0 : Int) ≤ z15 ∧ z15 ≤ (3 : Int) := hz15
    try have t16 : σ9 z13 2 = σ z13 2 := ((f10 _ _ (by omega)).trans (f4 _ _ (by omega)))
    have p17 : DT σ9 := (h11).2.2.2
    refine Exists.intro z15 (And.intro rfl (And.intro (And.intro p17 (And.intro (by show 0 ≤ z15; omega) (by show z15 ≤ 3; omega))) ?_))
    intro z18 σ20 h19
    have f21 : ∀ k j : Int, ¬ (k = 39 ∨ k = 41) → σ20 k j = σ9 k j := h19
    intro z22 ez22 hz22
    have hz22 : ((-2147483648) : Int) ≤ z22 ∧ z22 ≤ (2147483647 : Int) := rgl_ hz22 (by decide +kernel) (by decide +kernel) (by decide +kernel)
    try have t23 : σ20 39 4 = σ 39 4 := ((f21 _ _ (by omega)).trans ((f10 _ _ (by omega)).trans (f4 _ _ (by omega))))
    refine Exists.intro _ (And.intro rfl ?_)
    have p24 : CI σ20 := CI_fr h11 (fun k j hk => (f21 _ _ (by omega)))
    exact (And.intro p24 (fun k j hk => ((f21 _ _ (by omega)).trans ((f10 _ _ (by omega)).trans (f4 _ _ (by omega))))))
  · skip
    refine Exists.intro _ (And.intro rfl ?_)
    exact (And.intro h5 (fun k j hk => (f4 _ _ (by omega))))
def as_G_X10_holds : Int → List Sv_t := fun a => [(10, 0), (0, a)]
def pre_G_X10_holds : Int → Me_t → Prop := fun a σ => (CI σ)
def post_G_X10_holds : Int → Me_t → Int → Me_t → Prop := fun a σ z σ' => (CI σ') ∧ (∀ k j : Int, ¬ (k ≤ 27 ∨ (29 ≤ k ∧ k ≤ 77)) → σ' k j = σ k j)
set_option maxHeartbeats 1500000 in
set_option maxRecDepth 100000 in
theorem ct_G_X10_holds (l : Launch) : CT_ l yX10_holds cX10_holds 2 (some .int) 2 41 as_G_X10_holds (rmI_) pre_G_X10_holds post_G_X10_holds := by
  refine ct_of (by decide) (fun _ => Nat.le_of_ble_eq_true rfl) ?_
  intro X G Q ad σ a hl hR E hG R hM hv hp
  obtain ⟨a1, rfl⟩ : ∃ q : Int, q = a := ⟨_, rfl⟩
  have r_a1 : -2147483648 ≤ a1 ∧ a1 ≤ 2147483647 := hv (0, a1) (List.mem_of_getElem? (i := 1) rfl)
  have hp0 : CI σ := hp
  have B := @bk_ X G Q 0 0 ad SHS_ RX10 cX10_holds 2 (some .int) flX10 plX10 knX10 [(372, 2, TR_ as_G_X10_isDayOfWar (rmI_) pre_G_X10_isDayOfWar post_G_X10_isDayOfWar), (586, 2, TR_ as_G_X9_trucesOn (rmI_) pre_G_X9_trucesOn post_G_X9_trucesOn)] _ _ none kX10_holds [] flX10_ok plX10_ok knX10_ok eX10_holds oX10_holds
    (List.forall_mem_cons.mpr ⟨cok_v (t := 0) (c := 10) (N := 14) (n := 1) (idx := 186) E (ct_G_X10_isDayOfWar X.2.1) (by rw [hR]; decide) (Nat.zero_le _) (Nat.zero_le _) hG rfl rfl ⟨rfl, by decide, by decide, by decide⟩ (fun _ => ⟨_, _, rfl, rfl⟩) wl_X10_186 wi_X10_isDayOfWar ws_X10_isDayOfWar wn_X10 wc_X10_isDayOfWar, List.forall_mem_cons.mpr ⟨cok_v (t := 5) (c := 9) (N := 10) (n := 1) (idx := 293) E (ct_G_X9_trucesOn X.2.1) (by rw [hR]; decide) (Nat.zero_le _) (Nat.zero_le _) hG rfl rfl ⟨rfl, by decide, by decide, by decide⟩ (fun _ => ⟨_, _, rfl, rfl⟩) wl_X10_293 wi_X9_trucesOn ws_X9_trucesOn wn_X9 wc_X9_trucesOn, fun _ h => absurd h List.not_mem_nil⟩⟩) R sok_no E
  show WP_ X G Q 0 0 ad SHS_ σ 0 [(10, 0), (0, a1)] []
  refine B rfl ?_
  refine Exists.intro a1 (And.intro rfl (And.intro True.intro ?_))
  rintro z1 m_ h2
  obtain rfl : σ = m_ := h2.2
  have h3 : (z1 = 1 ∧ 0 ≤ a1 ∧ a1 ≤ 1999) ∨ z1 = 0 := h2.1
  refine And.intro (fun h4 => ?_) (fun h4 => ?_)
  · skip
    refine B rfl ?_
    refine Exists.intro _ (And.intro rfl ?_)
    exact (And.intro hp0 (fun k j hk => rfl))
  · skip
    intro z5 ez5 hz5
    have cz5 : z5 = 5 ∨ z5 = 16 := by have := (hp0).1; omega
    have lz5 : LG σ z5 := by rw [ez5]; exact (hp0).2.1.1
    have uz5 : UW σ z5 := by rw [ez5]; exact (hp0).2.1.2
    refine Exists.intro (z5, a1) (And.intro rfl (And.intro True.intro ?_))
    rintro z6 m_ h7
    obtain rfl : σ = m_ := h7.2
    have h8 : 0 ≤ z6 ∧ z6 ≤ 12 := h7.1
    refine B rfl ?_
    refine Exists.intro _ (And.intro rfl ?_)
    exact (And.intro hp0 (fun k j hk => rfl))
def as_G_X10_age : Int × Int × Int → List Sv_t := fun a => [(10, 0), (0, a.1), (0, a.2.1), (0, a.2.2)]
def pre_G_X10_age : Int × Int × Int → Me_t → Prop := fun a σ => (CI σ)
def post_G_X10_age : Int × Int × Int → Me_t → Int → Me_t → Prop := fun a σ z σ' => (CI σ') ∧ (∀ k j : Int, ¬ (k ≤ 27 ∨ (29 ≤ k ∧ k ≤ 77)) → σ' k j = σ k j)
set_option maxHeartbeats 1500000 in
set_option maxRecDepth 100000 in
theorem ct_G_X10_age (l : Launch) : CT_ l yX10_age cX10_age 4 (some .int) 6 143 as_G_X10_age (rmI_) pre_G_X10_age post_G_X10_age := by
  refine ct_of (by decide) (fun _ => Nat.le_of_ble_eq_true rfl) ?_
  intro X G Q ad σ a hl hR E hG R hM hv hp
  obtain ⟨a1, a2, a3⟩ := a
  have r_a1 : -2147483648 ≤ a1 ∧ a1 ≤ 2147483647 := hv (0, a1) (List.mem_of_getElem? (i := 1) rfl)
  have r_a2 : -2147483648 ≤ a2 ∧ a2 ≤ 2147483647 := hv (0, a2) (List.mem_of_getElem? (i := 2) rfl)
  have r_a3 : -2147483648 ≤ a3 ∧ a3 ≤ 2147483647 := hv (0, a3) (List.mem_of_getElem? (i := 3) rfl)
  have hp0 : CI σ := hp
  have B := @bk_ X G Q 0 0 ad SHS_ RX10 cX10_age 4 (some .int) flX10 plX10 knX10 [(336, 3, TR_ as_G_X10_isLandAndDay (rmI_) pre_G_X10_isLandAndDay post_G_X10_isLandAndDay), (603, 1, TR_ as_G_X10_isDay (rmI_) pre_G_X10_isDay post_G_X10_isDay), (342, 1, TR_ as_G_X10_told (rmR_ 25) pre_G_X10_told post_G_X10_told), (608, 4, TR_ as_G_X0_ageBy (rmI_) pre_G_X0_ageBy post_G_X0_ageBy)] _ _ none kX10_age [] flX10_ok plX10_ok knX10_ok eX10_age oX10_age
    (List.forall_mem_cons.mpr ⟨cok_v (t := 0) (c := 10) (N := 14) (n := 2) (idx := 168) E (ct_G_X10_isLandAndDay X.2.1) (by rw [hR]; decide) (Nat.zero_le _) (Nat.zero_le _) hG rfl rfl ⟨rfl, by decide, by decide, by decide⟩ (fun _ => ⟨_, _, rfl, rfl⟩) wl_X10_168 wi_X10_isLandAndDay ws_X10_isLandAndDay wn_X10 wc_X10_isLandAndDay, List.forall_mem_cons.mpr ⟨cok_s (n := 1) (idx := 301) E (ct_G_X10_isDay X.2.1) (by rw [hR]; decide) (Nat.zero_le _) (Nat.zero_le _) hG ⟨by decide, by decide, by decide⟩ (fun _ => rfl) wl_X10_301 wt_X10_isDay wn_X10 wc_X10_isDay, List.forall_mem_cons.mpr ⟨cok_v (t := 0) (c := 10) (N := 14) (n := 0) (idx := 171) E (ct_G_X10_told X.2.1) (by rw [hR]; decide) (Nat.zero_le _) (Nat.zero_le _) hG rfl rfl ⟨rfl, by decide, by decide, by decide⟩ (fun _ => ⟨_, _, rfl, rfl⟩) wl_X10_171 wi_X10_told ws_X10_told wn_X10 wc_X10_told, List.forall_mem_cons.mpr ⟨cok_v (t := 15) (c := 0) (N := 9) (n := 3) (idx := 304) E (ct_G_X0_ageBy X.2.1) (by rw [hR]; decide) (Nat.zero_le _) (Nat.zero_le _) hG rfl rfl ⟨rfl, by decide, by decide, by decide⟩ (fun _ => ⟨_, _, rfl, rfl⟩) wl_X10_304 wi_X0_ageBy ws_X0_ageBy wn_X0 wc_X0_ageBy, fun _ h => absurd h List.not_mem_nil⟩⟩⟩⟩) R sok_no E
  show WP_ X G Q 0 0 ad SHS_ σ 0 [(10, 0), (0, a1), (0, a2), (0, a3)] []
  refine B rfl ?_
  refine Exists.intro (a1, a2) (And.intro rfl (And.intro True.intro ?_))
  rintro z1 m_ h2
  obtain rfl : σ = m_ := h2.2
  have h3 : (z1 = 1 ∧ 0 ≤ a1 ∧ a1 ≤ 2 ∧ 0 ≤ a2 ∧ a2 ≤ 1999) ∨ z1 = 0 := h2.1
  refine And.intro (fun h4 => ?_) (fun h4 => ?_)
  · skip
    refine B rfl ?_
    refine Exists.intro _ (And.intro rfl ?_)
    exact (And.intro hp0 (fun k j hk => rfl))
  · skip
    refine Exists.intro a3 (And.intro rfl (And.intro True.intro ?_))
    rintro z5 m_ h6
    obtain rfl : σ = m_ := h6.2
    have h7 : (z5 = 1 ∧ 0 ≤ a3 ∧ a3 ≤ 1999) ∨ z5 = 0 := h6.1
    refine And.intro (fun h8 => ?_) (fun h8 => ?_)
    · skip
      refine B rfl ?_
      refine Exists.intro () (And.intro rfl (And.intro hp0 ?_))
      intro z9 σ11 h10
      have f12 : ∀ k j : Int, ¬ (30 ≤ k ∧ k ≤ 33) → σ11 k j = σ k j := h10.2.2
      have h13 : CI σ11 := h10.1
      have h14 : z9 = 30 := h10.2.1
      obtain rfl : z9 = 30 := by omega
      have p15 : DT σ11 := (h13).2.2.2
      refine Exists.intro (a1, a2, a3) (And.intro rfl (And.intro (And.intro p15 (And.intro (by show 0 ≤ a1; omega) (And.intro (by show a1 ≤ 2; omega) (And.intro (by show 0 ≤ a2; omega) (And.intro (by show a2 ≤ 1999; omega) (And.intro (by show 0 ≤ a3; omega) (by show a3 ≤ 1999; omega))))))) ?_))
      rintro z16 m_ h17
      obtain rfl : σ11 = m_ := h17.2
      have h18 : -300000 ≤ z16 ∧ z16 ≤ 300000 := h17.1
      refine Exists.intro _ (And.intro rfl ?_)
      exact (And.intro h13 (fun k j hk => (f12 _ _ (by omega))))
    · skip
      refine Exists.intro _ (And.intro rfl ?_)
      exact (And.intro hp0 (fun k j hk => rfl))
def as_G_X10_gains : Int × Int × Int × Int → List Sv_t := fun a => [(10, 0), (0, a.1), (0, a.2.1), (0, a.2.2.1), (0, a.2.2.2)]
def pre_G_X10_gains : Int × Int × Int × Int → Me_t → Prop := fun a σ => (CI σ)
def post_G_X10_gains : Int × Int × Int × Int → Me_t → Int → Me_t → Prop := fun a σ z σ' => (CI σ') ∧ (∀ k j : Int, ¬ (k ≤ 27 ∨ (29 ≤ k ∧ k ≤ 77)) → σ' k j = σ k j)
set_option maxHeartbeats 1500000 in
set_option maxRecDepth 100000 in
theorem ct_G_X10_gains (l : Launch) : CT_ l yX10_gains cX10_gains 7 (some .int) 6 143 as_G_X10_gains (rmI_) pre_G_X10_gains post_G_X10_gains := by
  refine ct_of (by decide) (fun _ => Nat.le_of_ble_eq_true rfl) ?_
  intro X G Q ad σ a hl hR E hG R hM hv hp
  obtain ⟨a1, a2, a3, a4⟩ := a
  have r_a1 : -2147483648 ≤ a1 ∧ a1 ≤ 2147483647 := hv (0, a1) (List.mem_of_getElem? (i := 1) rfl)
  have r_a2 : -2147483648 ≤ a2 ∧ a2 ≤ 2147483647 := hv (0, a2) (List.mem_of_getElem? (i := 2) rfl)
  have r_a3 : -2147483648 ≤ a3 ∧ a3 ≤ 2147483647 := hv (0, a3) (List.mem_of_getElem? (i := 3) rfl)
  have r_a4 : -2147483648 ≤ a4 ∧ a4 ≤ 2147483647 := hv (0, a4) (List.mem_of_getElem? (i := 4) rfl)
  have hp0 : CI σ := hp
  have B := @bk_ X G Q 0 0 ad SHS_ RX10 cX10_gains 7 (some .int) flX10 plX10 knX10 [(432, 4, TR_ as_G_X10_isPairAndDay (rmI_) pre_G_X10_isPairAndDay post_G_X10_isPairAndDay), (603, 1, TR_ as_G_X10_isDay (rmI_) pre_G_X10_isDay post_G_X10_isDay), (342, 1, TR_ as_G_X10_told (rmR_ 25) pre_G_X10_told post_G_X10_told), (608, 4, TR_ as_G_X0_ageBy (rmI_) pre_G_X0_ageBy post_G_X0_ageBy)] _ _ none kX10_gains [] flX10_ok plX10_ok knX10_ok eX10_gains oX10_gains
    (List.forall_mem_cons.mpr ⟨cok_v (t := 0) (c := 10) (N := 14) (n := 3) (idx := 216) E (ct_G_X10_isPairAndDay X.2.1) (by rw [hR]; decide) (Nat.zero_le _) (Nat.zero_le _) hG rfl rfl ⟨rfl, by decide, by decide, by decide⟩ (fun _ => ⟨_, _, rfl, rfl⟩) wl_X10_216 wi_X10_isPairAndDay ws_X10_isPairAndDay wn_X10 wc_X10_isPairAndDay, List.forall_mem_cons.mpr ⟨cok_s (n := 1) (idx := 301) E (ct_G_X10_isDay X.2.1) (by rw [hR]; decide) (Nat.zero_le _) (Nat.zero_le _) hG ⟨by decide, by decide, by decide⟩ (fun _ => rfl) wl_X10_301 wt_X10_isDay wn_X10 wc_X10_isDay, List.forall_mem_cons.mpr ⟨cok_v (t := 0) (c := 10) (N := 14) (n := 0) (idx := 171) E (ct_G_X10_told X.2.1) (by rw [hR]; decide) (Nat.zero_le _) (Nat.zero_le _) hG rfl rfl ⟨rfl, by decide, by decide, by decide⟩ (fun _ => ⟨_, _, rfl, rfl⟩) wl_X10_171 wi_X10_told ws_X10_told wn_X10 wc_X10_told, List.forall_mem_cons.mpr ⟨cok_v (t := 15) (c := 0) (N := 9) (n := 3) (idx := 304) E (ct_G_X0_ageBy X.2.1) (by rw [hR]; decide) (Nat.zero_le _) (Nat.zero_le _) hG rfl rfl ⟨rfl, by decide, by decide, by decide⟩ (fun _ => ⟨_, _, rfl, rfl⟩) wl_X10_304 wi_X0_ageBy ws_X0_ageBy wn_X0 wc_X0_ageBy, fun _ h => absurd h List.not_mem_nil⟩⟩⟩⟩) R sok_no E
  show WP_ X G Q 0 0 ad SHS_ σ 0 [(10, 0), (0, a1), (0, a2), (0, a3), (0, a4), (9, 0), (9, 0)] []
  refine B rfl ?_
  refine Exists.intro (a1, a2, a3) (And.intro rfl (And.intro True.intro ?_))
  rintro z1 m_ h2
  obtain rfl : σ = m_ := h2.2
  have h3 : (z1 = 1 ∧ 0 ≤ a1 ∧ a1 ≤ 2 ∧ 0 ≤ a2 ∧ a2 ≤ 2 ∧ a1 ≠ a2 ∧ 0 ≤ a3 ∧ a3 ≤ 1999) ∨ z1 = 0 := h2.1
  refine And.intro (fun h4 => ?_) (fun h4 => ?_)
  · skip
    refine B rfl ?_
    refine Exists.intro _ (And.intro rfl ?_)
    exact (And.intro hp0 (fun k j hk => rfl))
  · skip
    refine Exists.intro a4 (And.intro rfl (And.intro True.intro ?_))
    rintro z5 m_ h6
    obtain rfl : σ = m_ := h6.2
    have h7 : (z5 = 1 ∧ 0 ≤ a4 ∧ a4 ≤ 1999) ∨ z5 = 0 := h6.1
    refine And.intro (fun h8 => ?_) (fun h8 => ?_)
    · skip
      refine B rfl ?_
      refine Exists.intro () (And.intro rfl (And.intro hp0 ?_))
      intro z9 σ11 h10
      have f12 : ∀ k j : Int, ¬ (30 ≤ k ∧ k ≤ 33) → σ11 k j = σ k j := h10.2.2
      have h13 : CI σ11 := h10.1
      have h14 : z9 = 30 := h10.2.1
      obtain rfl : z9 = 30 := by omega
      have p15 : DT σ11 := (h13).2.2.2
      refine Exists.intro (a1, a3, a4) (And.intro rfl (And.intro (And.intro p15 (And.intro (by show 0 ≤ a1; omega) (And.intro (by show a1 ≤ 2; omega) (And.intro (by show 0 ≤ a3; omega) (And.intro (by show a3 ≤ 1999; omega) (And.intro (by show 0 ≤ a4; omega) (by show a4 ≤ 1999; omega))))))) ?_))
      rintro z16 m_ h17
      obtain rfl : σ11 = m_ := h17.2
      have h18 : -300000 ≤ z16 ∧ z16 ≤ 300000 := h17.1
      refine Exists.intro () (And.intro rfl (And.intro h13 ?_))
      intro z19 σ21 h20
      have f22 : ∀ k j : Int, ¬ (30 ≤ k ∧ k ≤ 33) → σ21 k j = σ11 k j := h20.2.2
      have h23 : CI σ21 := h20.1
      have h24 : z19 = 30 := h20.2.1
      obtain rfl : z19 = 30 := by omega
      have p25 : DT σ21 := (h23).2.2.2
      refine Exists.intro (a2, a3, a4) (And.intro rfl (And.intro (And.intro p25 (And.intro (by show 0 ≤ a2; omega) (And.intro (by show a2 ≤ 2; omega) (And.intro (by show 0 ≤ a3; omega) (And.intro (by show a3 ≤ 1999; omega) (And.intro (by show 0 ≤ a4; omega) (by show a4 ≤ 1999; omega))))))) ?_))
      rintro z26 m_ h27
      obtain rfl : σ21 = m_ := h27.2
      have h28 : -300000 ≤ z26 ∧ z26 ≤ 300000 := h27.1
      refine And.intro (fun h29 => ?_) (fun h29 => ?_)
      · skip
        refine B rfl ?_
        refine B rfl ?_
        refine Exists.intro _ (And.intro rfl ?_)
        exact (And.intro h23 (fun k j hk => ((f22 _ _ (by omega)).trans (f12 _ _ (by omega)))))
      · skip
        refine And.intro (fun h30 => ?_) (fun h30 => ?_)
        · skip
          refine B rfl ?_
          refine And.intro (by omega) ?_
          refine Exists.intro _ (And.intro rfl ?_)
          exact (And.intro h23 (fun k j hk => ((f22 _ _ (by omega)).trans (f12 _ _ (by omega)))))
        · skip
          refine B rfl ?_
          refine Exists.intro _ (And.intro rfl ?_)
          exact (And.intro h23 (fun k j hk => ((f22 _ _ (by omega)).trans (f12 _ _ (by omega)))))
    · skip
      refine Exists.intro _ (And.intro rfl ?_)
      exact (And.intro hp0 (fun k j hk => rfl))
def as_G_X10_clash : Int × Int × Int × Int → List Sv_t := fun a => [(10, 0), (0, a.1), (0, a.2.1), (0, a.2.2.1), (0, a.2.2.2)]
def pre_G_X10_clash : Int × Int × Int × Int → Me_t → Prop := fun a σ => (CI σ)
def post_G_X10_clash : Int × Int × Int × Int → Me_t → Int → Me_t → Prop := fun a σ z σ' => (CI σ') ∧ (∀ k j : Int, ¬ (k ≤ 27 ∨ (29 ≤ k ∧ k ≤ 77)) → σ' k j = σ k j)
set_option maxHeartbeats 1500000 in
set_option maxRecDepth 100000 in
theorem ct_G_X10_clash (l : Launch) : CT_ l yX10_clash cX10_clash 5 (some .int) 6 143 as_G_X10_clash (rmI_) pre_G_X10_clash post_G_X10_clash := by
  refine ct_of (by decide) (fun _ => Nat.le_of_ble_eq_true rfl) ?_
  intro X G Q ad σ a hl hR E hG R hM hv hp
  obtain ⟨a1, a2, a3, a4⟩ := a
  have r_a1 : -2147483648 ≤ a1 ∧ a1 ≤ 2147483647 := hv (0, a1) (List.mem_of_getElem? (i := 1) rfl)
  have r_a2 : -2147483648 ≤ a2 ∧ a2 ≤ 2147483647 := hv (0, a2) (List.mem_of_getElem? (i := 2) rfl)
  have r_a3 : -2147483648 ≤ a3 ∧ a3 ≤ 2147483647 := hv (0, a3) (List.mem_of_getElem? (i := 3) rfl)
  have r_a4 : -2147483648 ≤ a4 ∧ a4 ≤ 2147483647 := hv (0, a4) (List.mem_of_getElem? (i := 4) rfl)
  have hp0 : CI σ := hp
  have B := @bk_ X G Q 0 0 ad SHS_ RX10 cX10_clash 5 (some .int) flX10 plX10 knX10 [(432, 4, TR_ as_G_X10_isPairAndDay (rmI_) pre_G_X10_isPairAndDay post_G_X10_isPairAndDay), (342, 1, TR_ as_G_X10_told (rmR_ 25) pre_G_X10_told post_G_X10_told), (614, 5, TR_ as_G_X0_clashDay (rmI_) pre_G_X0_clashDay post_G_X0_clashDay)] _ _ none kX10_clash [] flX10_ok plX10_ok knX10_ok eX10_clash oX10_clash
    (List.forall_mem_cons.mpr ⟨cok_v (t := 0) (c := 10) (N := 14) (n := 3) (idx := 216) E (ct_G_X10_isPairAndDay X.2.1) (by rw [hR]; decide) (Nat.zero_le _) (Nat.zero_le _) hG rfl rfl ⟨rfl, by decide, by decide, by decide⟩ (fun _ => ⟨_, _, rfl, rfl⟩) wl_X10_216 wi_X10_isPairAndDay ws_X10_isPairAndDay wn_X10 wc_X10_isPairAndDay, List.forall_mem_cons.mpr ⟨cok_v (t := 0) (c := 10) (N := 14) (n := 0) (idx := 171) E (ct_G_X10_told X.2.1) (by rw [hR]; decide) (Nat.zero_le _) (Nat.zero_le _) hG rfl rfl ⟨rfl, by decide, by decide, by decide⟩ (fun _ => ⟨_, _, rfl, rfl⟩) wl_X10_171 wi_X10_told ws_X10_told wn_X10 wc_X10_told, List.forall_mem_cons.mpr ⟨cok_v (t := 15) (c := 0) (N := 9) (n := 4) (idx := 307) E (ct_G_X0_clashDay X.2.1) (by rw [hR]; decide) (Nat.zero_le _) (Nat.zero_le _) hG rfl rfl ⟨rfl, by decide, by decide, by decide⟩ (fun _ => ⟨_, _, rfl, rfl⟩) wl_X10_307 wi_X0_clashDay ws_X0_clashDay wn_X0 wc_X0_clashDay, fun _ h => absurd h List.not_mem_nil⟩⟩⟩) R sok_no E
  show WP_ X G Q 0 0 ad SHS_ σ 0 [(10, 0), (0, a1), (0, a2), (0, a3), (0, a4)] []
  refine B rfl ?_
  refine Exists.intro (a1, a2, a3) (And.intro rfl (And.intro True.intro ?_))
  rintro z1 m_ h2
  obtain rfl : σ = m_ := h2.2
  have h3 : (z1 = 1 ∧ 0 ≤ a1 ∧ a1 ≤ 2 ∧ 0 ≤ a2 ∧ a2 ≤ 2 ∧ a1 ≠ a2 ∧ 0 ≤ a3 ∧ a3 ≤ 1999) ∨ z1 = 0 := h2.1
  refine And.intro (fun h4 => ?_) (fun h4 => ?_)
  · skip
    refine B rfl ?_
    refine Exists.intro _ (And.intro rfl ?_)
    exact (And.intro hp0 (fun k j hk => rfl))
  · skip
    refine And.intro (fun h5 => ?_) (fun h5 => ?_)
    · skip
      refine B rfl ?_
      refine Exists.intro () (And.intro rfl (And.intro hp0 ?_))
      intro z6 σ8 h7
      have f9 : ∀ k j : Int, ¬ (30 ≤ k ∧ k ≤ 33) → σ8 k j = σ k j := h7.2.2
      have h10 : CI σ8 := h7.1
      have h11 : z6 = 30 := h7.2.1
      obtain rfl : z6 = 30 := by omega
      have p12 : DT σ8 := (h10).2.2.2
      refine Exists.intro (a1, a2, a3, a4) (And.intro rfl (And.intro (And.intro p12 (And.intro (by show 0 ≤ a3; omega) (by show a3 ≤ 2000; omega))) ?_))
      rintro z13 m_ h14
      obtain rfl : σ8 = m_ := h14.2
      have h15 : z13 = -1 ∨ (a3 ≤ z13 ∧ z13 ≤ 1999) := h14.1
      refine Exists.intro _ (And.intro rfl ?_)
      exact (And.intro h10 (fun k j hk => (f9 _ _ (by omega))))
    · skip
      refine Exists.intro _ (And.intro rfl ?_)
      exact (And.intro hp0 (fun k j hk => rfl))
def as_G_X10_place : Int × Int × Int × Int → List Sv_t := fun a => [(10, 0), (0, a.1), (0, a.2.1), (0, a.2.2.1), (0, a.2.2.2)]
def pre_G_X10_place : Int × Int × Int × Int → Me_t → Prop := fun a σ => (CI σ)
def post_G_X10_place : Int × Int × Int × Int → Me_t → Int → Me_t → Prop := fun a σ z σ' => (CI σ') ∧ (∀ k j : Int, ¬ (k ≤ 27 ∨ (29 ≤ k ∧ k ≤ 77)) → σ' k j = σ k j)
set_option maxHeartbeats 1500000 in
set_option maxRecDepth 100000 in
theorem ct_G_X10_place (l : Launch) : CT_ l yX10_place cX10_place 9 (some .int) 6 143 as_G_X10_place (rmI_) pre_G_X10_place post_G_X10_place := by
  refine ct_of (by decide) (fun _ => Nat.le_of_ble_eq_true rfl) ?_
  intro X G Q ad σ a hl hR E hG R hM hv hp
  obtain ⟨a1, a2, a3, a4⟩ := a
  have r_a1 : -2147483648 ≤ a1 ∧ a1 ≤ 2147483647 := hv (0, a1) (List.mem_of_getElem? (i := 1) rfl)
  have r_a2 : -2147483648 ≤ a2 ∧ a2 ≤ 2147483647 := hv (0, a2) (List.mem_of_getElem? (i := 2) rfl)
  have r_a3 : -2147483648 ≤ a3 ∧ a3 ≤ 2147483647 := hv (0, a3) (List.mem_of_getElem? (i := 3) rfl)
  have r_a4 : -2147483648 ≤ a4 ∧ a4 ≤ 2147483647 := hv (0, a4) (List.mem_of_getElem? (i := 4) rfl)
  have hp0 : CI σ := hp
  have B := @bk_ X G Q 0 0 ad SHS_ RX10 cX10_place 9 (some .int) flX10 plX10 knX10 [(432, 4, TR_ as_G_X10_isPairAndDay (rmI_) pre_G_X10_isPairAndDay post_G_X10_isPairAndDay), (342, 1, TR_ as_G_X10_told (rmR_ 25) pre_G_X10_told post_G_X10_told), (614, 5, TR_ as_G_X0_clashDay (rmI_) pre_G_X0_clashDay post_G_X0_clashDay), (400, 4, TR_ as_G_X0_fightingDays (rmI_) pre_G_X0_fightingDays post_G_X0_fightingDays)] _ _ none kX10_place [10, 16, 43, 81, 86] flX10_ok plX10_ok knX10_ok eX10_place oX10_place
    (List.forall_mem_cons.mpr ⟨cok_v (t := 0) (c := 10) (N := 14) (n := 3) (idx := 216) E (ct_G_X10_isPairAndDay X.2.1) (by rw [hR]; decide) (Nat.zero_le _) (Nat.zero_le _) hG rfl rfl ⟨rfl, by decide, by decide, by decide⟩ (fun _ => ⟨_, _, rfl, rfl⟩) wl_X10_216 wi_X10_isPairAndDay ws_X10_isPairAndDay wn_X10 wc_X10_isPairAndDay, List.forall_mem_cons.mpr ⟨cok_v (t := 0) (c := 10) (N := 14) (n := 0) (idx := 171) E (ct_G_X10_told X.2.1) (by rw [hR]; decide) (Nat.zero_le _) (Nat.zero_le _) hG rfl rfl ⟨rfl, by decide, by decide, by decide⟩ (fun _ => ⟨_, _, rfl, rfl⟩) wl_X10_171 wi_X10_told ws_X10_told wn_X10 wc_X10_told, List.forall_mem_cons.mpr ⟨cok_v (t := 15) (c := 0) (N := 9) (n := 4) (idx := 307) E (ct_G_X0_clashDay X.2.1) (by rw [hR]; decide) (Nat.zero_le _) (Nat.zero_le _) hG rfl rfl ⟨rfl, by decide, by decide, by decide⟩ (fun _ => ⟨_, _, rfl, rfl⟩) wl_X10_307 wi_X0_clashDay ws_X0_clashDay wn_X0 wc_X0_clashDay, List.forall_mem_cons.mpr ⟨cok_v (t := 15) (c := 0) (N := 9) (n := 3) (idx := 200) E (ct_G_X0_fightingDays X.2.1) (by rw [hR]; decide) (Nat.zero_le _) (Nat.zero_le _) hG rfl rfl ⟨rfl, by decide, by decide, by decide⟩ (fun _ => ⟨_, _, rfl, rfl⟩) wl_X10_200 wi_X0_fightingDays ws_X0_fightingDays wn_X0 wc_X0_fightingDays, fun _ h => absurd h List.not_mem_nil⟩⟩⟩⟩) R sok_no E
  show WP_ X G Q 0 0 ad SHS_ σ 0 [(10, 0), (0, a1), (0, a2), (0, a3), (0, a4), (9, 0), (9, 0), (9, 0), (9, 0)] []
  refine B rfl ?_
  refine Exists.intro (a1, a2, a3) (And.intro rfl (And.intro True.intro ?_))
  rintro z1 m_ h2
  obtain rfl : σ = m_ := h2.2
  have h3 : (z1 = 1 ∧ 0 ≤ a1 ∧ a1 ≤ 2 ∧ 0 ≤ a2 ∧ a2 ≤ 2 ∧ a1 ≠ a2 ∧ 0 ≤ a3 ∧ a3 ≤ 1999) ∨ z1 = 0 := h2.1
  refine And.intro (fun h4 => ?_) (fun h4 => ?_)
  · skip
    refine B rfl ?_
    refine Exists.intro _ (And.intro rfl ?_)
    exact (And.intro hp0 (fun k j hk => rfl))
  · skip
    show WP_ X G Q 0 0 ad SHS_ σ 10 [(10, 0), (0, a1), (0, a2), (0, a3), (0, a4), (9, 0), (9, 0), (9, 0), (9, 0)] []
    refine B rfl ?_
    refine And.intro (fun h5 => ?_) (fun h5 => ?_)
    · skip
      refine B rfl ?_
      refine Exists.intro () (And.intro rfl (And.intro hp0 ?_))
      intro z6 σ8 h7
      have f9 : ∀ k j : Int, ¬ (30 ≤ k ∧ k ≤ 33) → σ8 k j = σ k j := h7.2.2
      have h10 : CI σ8 := h7.1
      have h11 : z6 = 30 := h7.2.1
      obtain rfl : z6 = 30 := by omega
      have p12 : DT σ8 := (h10).2.2.2
      refine Exists.intro (a1, a2, a3, a4) (And.intro rfl (And.intro (And.intro p12 (And.intro (by show 0 ≤ a3; omega) (by show a3 ≤ 2000; omega))) ?_))
      rintro z13 m_ h14
      obtain rfl : σ8 = m_ := h14.2
      have h15 : z13 = -1 ∨ (a3 ≤ z13 ∧ z13 ≤ 1999) := h14.1
      refine And.intro (fun h16 => ?_) (fun h16 => ?_)
      · skip
        refine B rfl ?_
        try have q17 := shl3_1 (b := a1) (by omega) (by omega)
        try have q18 := shl3_b (b := a1) (by omega) (by omega)
        refine Exists.intro (shl3_ 1 a1, a3, z13) (And.intro rfl (And.intro (And.intro (by show 0 ≤ a3; omega) (And.intro (by show a3 ≤ z13 + 1; omega) (by show z13 ≤ 1999; omega))) ?_))
        rintro z19 m_ h20
        obtain rfl : σ8 = m_ := h20.2
        have h21 : 0 ≤ z19 ∧ z19 ≤ 2000 := h20.1
        try have q22 := shl3_1 (b := a2) (by omega) (by omega)
        try have q23 := shl3_b (b := a2) (by omega) (by omega)
        refine Exists.intro (shl3_ 1 a2, a3, z13) (And.intro rfl (And.intro (And.intro (by show 0 ≤ a3; omega) (And.intro (by show a3 ≤ z13 + 1; omega) (by show z13 ≤ 1999; omega))) ?_))
        rintro z24 m_ h25
        obtain rfl : σ8 = m_ := h25.2
        have h26 : 0 ≤ z24 ∧ z24 ≤ 2000 := h25.1
        refine And.intro (by omega) ?_
        refine And.intro (fun h27 => ?_) (fun h27 => ?_)
        · skip
          refine B rfl ?_
          refine Exists.intro _ (And.intro rfl ?_)
          exact (And.intro h10 (fun k j hk => (f9 _ _ (by omega))))
        · skip
          show WP_ X G Q 0 0 ad SHS_ σ8 81 [(10, 0), (0, a1), (0, a2), (0, a3), (0, a4), (25, 30), (0, z13), (0, z19), (0, z19 + z24)] []
          refine B rfl ?_
          refine And.intro (fun h28 => ?_) (fun h28 => ?_)
          · skip
            refine B rfl ?_
            refine Exists.intro _ (And.intro rfl ?_)
            exact (And.intro h10 (fun k j hk => (f9 _ _ (by omega))))
          · skip
            show WP_ X G Q 0 0 ad SHS_ σ8 86 [(10, 0), (0, a1), (0, a2), (0, a3), (0, a4), (25, 30), (0, z13), (0, z19), (0, z19 + z24)] []
            refine B rfl ?_
            refine And.intro (by omega) ?_
            refine B rfl ?_
            refine Exists.intro _ (And.intro rfl ?_)
            exact (And.intro h10 (fun k j hk => (f9 _ _ (by omega))))
      · skip
        show WP_ X G Q 0 0 ad SHS_ σ8 43 [(10, 0), (0, a1), (0, a2), (0, a3), (0, a4), (25, 30), (0, z13), (9, 0), (9, 0)] []
        refine B rfl ?_
        refine Exists.intro _ (And.intro rfl ?_)
        exact (And.intro h10 (fun k j hk => (f9 _ _ (by omega))))
    · skip
      show WP_ X G Q 0 0 ad SHS_ σ 16 [(10, 0), (0, a1), (0, a2), (0, a3), (0, a4), (9, 0), (9, 0), (9, 0), (9, 0)] []
      refine B rfl ?_
      refine Exists.intro _ (And.intro rfl ?_)
      exact (And.intro hp0 (fun k j hk => rfl))
def as_G_X10_alone : Int × Int × Int × Int → List Sv_t := fun a => [(10, 0), (0, a.1), (0, a.2.1), (0, a.2.2.1), (0, a.2.2.2)]
def pre_G_X10_alone : Int × Int × Int × Int → Me_t → Prop := fun a σ => (CI σ)
def post_G_X10_alone : Int × Int × Int × Int → Me_t → Int → Me_t → Prop := fun a σ z σ' => (CI σ') ∧ (∀ k j : Int, ¬ (k ≤ 27 ∨ (29 ≤ k ∧ k ≤ 77)) → σ' k j = σ k j)
set_option maxHeartbeats 1500000 in
set_option maxRecDepth 100000 in
theorem ct_G_X10_alone (l : Launch) : CT_ l yX10_alone cX10_alone 5 (some .int) 6 143 as_G_X10_alone (rmI_) pre_G_X10_alone post_G_X10_alone := by
  refine ct_of (by decide) (fun _ => Nat.le_of_ble_eq_true rfl) ?_
  intro X G Q ad σ a hl hR E hG R hM hv hp
  obtain ⟨a1, a2, a3, a4⟩ := a
  have r_a1 : -2147483648 ≤ a1 ∧ a1 ≤ 2147483647 := hv (0, a1) (List.mem_of_getElem? (i := 1) rfl)
  have r_a2 : -2147483648 ≤ a2 ∧ a2 ≤ 2147483647 := hv (0, a2) (List.mem_of_getElem? (i := 2) rfl)
  have r_a3 : -2147483648 ≤ a3 ∧ a3 ≤ 2147483647 := hv (0, a3) (List.mem_of_getElem? (i := 3) rfl)
  have r_a4 : -2147483648 ≤ a4 ∧ a4 ≤ 2147483647 := hv (0, a4) (List.mem_of_getElem? (i := 4) rfl)
  have hp0 : CI σ := hp
  have B := @bk_ X G Q 0 0 ad SHS_ RX10 cX10_alone 5 (some .int) flX10 plX10 knX10 [(620, 3, TR_ as_G_X10_isPair (rmI_) pre_G_X10_isPair post_G_X10_isPair), (499, 2, TR_ as_G_X10_isSpan (rmI_) pre_G_X10_isSpan post_G_X10_isSpan), (342, 1, TR_ as_G_X10_told (rmR_ 25) pre_G_X10_told post_G_X10_told), (626, 5, TR_ as_G_X0_daysAlone (rmI_) pre_G_X0_daysAlone post_G_X0_daysAlone)] _ _ none kX10_alone [] flX10_ok plX10_ok knX10_ok eX10_alone oX10_alone
    (List.forall_mem_cons.mpr ⟨cok_v (t := 0) (c := 10) (N := 14) (n := 2) (idx := 310) E (ct_G_X10_isPair X.2.1) (by rw [hR]; decide) (Nat.zero_le _) (Nat.zero_le _) hG rfl rfl ⟨rfl, by decide, by decide, by decide⟩ (fun _ => ⟨_, _, rfl, rfl⟩) wl_X10_310 wi_X10_isPair ws_X10_isPair wn_X10 wc_X10_isPair, List.forall_mem_cons.mpr ⟨cok_s (n := 2) (idx := 249) E (ct_G_X10_isSpan X.2.1) (by rw [hR]; decide) (Nat.zero_le _) (Nat.zero_le _) hG ⟨by decide, by decide, by decide⟩ (fun _ => rfl) wl_X10_249 wt_X10_isSpan wn_X10 wc_X10_isSpan, List.forall_mem_cons.mpr ⟨cok_v (t := 0) (c := 10) (N := 14) (n := 0) (idx := 171) E (ct_G_X10_told X.2.1) (by rw [hR]; decide) (Nat.zero_le _) (Nat.zero_le _) hG rfl rfl ⟨rfl, by decide, by decide, by decide⟩ (fun _ => ⟨_, _, rfl, rfl⟩) wl_X10_171 wi_X10_told ws_X10_told wn_X10 wc_X10_told, List.forall_mem_cons.mpr ⟨cok_v (t := 15) (c := 0) (N := 9) (n := 4) (idx := 313) E (ct_G_X0_daysAlone X.2.1) (by rw [hR]; decide) (Nat.zero_le _) (Nat.zero_le _) hG rfl rfl ⟨rfl, by decide, by decide, by decide⟩ (fun _ => ⟨_, _, rfl, rfl⟩) wl_X10_313 wi_X0_daysAlone ws_X0_daysAlone wn_X0 wc_X0_daysAlone, fun _ h => absurd h List.not_mem_nil⟩⟩⟩⟩) R sok_no E
  show WP_ X G Q 0 0 ad SHS_ σ 0 [(10, 0), (0, a1), (0, a2), (0, a3), (0, a4)] []
  refine B rfl ?_
  refine Exists.intro (a1, a2) (And.intro rfl (And.intro True.intro ?_))
  rintro z1 m_ h2
  obtain rfl : σ = m_ := h2.2
  have h3 : (z1 = 1 ∧ 0 ≤ a1 ∧ a1 ≤ 2 ∧ 0 ≤ a2 ∧ a2 ≤ 2 ∧ a1 ≠ a2) ∨ z1 = 0 := h2.1
  refine And.intro (fun h4 => ?_) (fun h4 => ?_)
  · skip
    refine B rfl ?_
    refine Exists.intro _ (And.intro rfl ?_)
    exact (And.intro hp0 (fun k j hk => rfl))
  · skip
    refine Exists.intro (a3, a4) (And.intro rfl (And.intro True.intro ?_))
    rintro z5 m_ h6
    obtain rfl : σ = m_ := h6.2
    have h7 : (z5 = 1 ∧ 0 ≤ a3 ∧ a3 ≤ a4 ∧ a4 ≤ 1999) ∨ z5 = 0 := h6.1
    refine And.intro (fun h8 => ?_) (fun h8 => ?_)
    · skip
      refine B rfl ?_
      refine Exists.intro () (And.intro rfl (And.intro hp0 ?_))
      intro z9 σ11 h10
      have f12 : ∀ k j : Int, ¬ (30 ≤ k ∧ k ≤ 33) → σ11 k j = σ k j := h10.2.2
      have h13 : CI σ11 := h10.1
      have h14 : z9 = 30 := h10.2.1
      obtain rfl : z9 = 30 := by omega
      have p15 : DT σ11 := (h13).2.2.2
      refine Exists.intro (a1, a2, a3, a4) (And.intro rfl (And.intro (And.intro p15 (And.intro (by show 0 ≤ a3; omega) (And.intro (by show a3 ≤ a4 + 1; omega) (by show a4 ≤ 1999; omega)))) ?_))
      rintro z16 m_ h17
      obtain rfl : σ11 = m_ := h17.2
      have h18 : 0 ≤ z16 ∧ z16 ≤ 2000 := h17.1
      refine Exists.intro _ (And.intro rfl ?_)
      exact (And.intro h13 (fun k j hk => (f12 _ _ (by omega))))
    · skip
      refine Exists.intro _ (And.intro rfl ?_)
      exact (And.intro hp0 (fun k j hk => rfl))
def as_G_X10_begin : Int × Int × Int × Int × Int → List Sv_t := fun a => [(10, 0), (0, a.1), (0, a.2.1), (0, a.2.2.1), (0, a.2.2.2.1), (0, a.2.2.2.2)]
def pre_G_X10_begin : Int × Int × Int × Int × Int → Me_t → Prop := fun a σ => (CI σ)
def post_G_X10_begin : Int × Int × Int × Int × Int → Me_t → Int → Me_t → Prop := fun a σ z σ' => (CI σ') ∧ (∀ k j : Int, ¬ (k ≤ 27 ∨ (29 ≤ k ∧ k ≤ 77)) → σ' k j = σ k j)
set_option maxHeartbeats 1500000 in
set_option maxRecDepth 100000 in
theorem ct_G_X10_begin (l : Launch) : CT_ l yX10_begin cX10_begin 6 (some .int) 6 143 as_G_X10_begin (rmI_) pre_G_X10_begin post_G_X10_begin := by
  refine ct_of (by decide) (fun _ => Nat.le_of_ble_eq_true rfl) ?_
  intro X G Q ad σ a hl hR E hG R hM hv hp
  obtain ⟨a1, a2, a3, a4, a5⟩ := a
  have r_a1 : -2147483648 ≤ a1 ∧ a1 ≤ 2147483647 := hv (0, a1) (List.mem_of_getElem? (i := 1) rfl)
  have r_a2 : -2147483648 ≤ a2 ∧ a2 ≤ 2147483647 := hv (0, a2) (List.mem_of_getElem? (i := 2) rfl)
  have r_a3 : -2147483648 ≤ a3 ∧ a3 ≤ 2147483647 := hv (0, a3) (List.mem_of_getElem? (i := 3) rfl)
  have r_a4 : -2147483648 ≤ a4 ∧ a4 ≤ 2147483647 := hv (0, a4) (List.mem_of_getElem? (i := 4) rfl)
  have r_a5 : -2147483648 ≤ a5 ∧ a5 ≤ 2147483647 := hv (0, a5) (List.mem_of_getElem? (i := 5) rfl)
  have hp0 : CI σ := hp
  have B := @bk_ X G Q 0 0 ad SHS_ RX10 cX10_begin 6 (some .int) flX10 plX10 knX10 [(620, 3, TR_ as_G_X10_isPair (rmI_) pre_G_X10_isPair post_G_X10_isPair), (499, 2, TR_ as_G_X10_isSpan (rmI_) pre_G_X10_isSpan post_G_X10_isSpan), (342, 1, TR_ as_G_X10_told (rmR_ 25) pre_G_X10_told post_G_X10_told), (632, 6, TR_ as_G_X0_seekBeginning (rmV_) pre_G_X0_seekBeginning post_G_X0_seekBeginning)] _ _ none kX10_begin [] flX10_ok plX10_ok knX10_ok eX10_begin oX10_begin
    (List.forall_mem_cons.mpr ⟨cok_v (t := 0) (c := 10) (N := 14) (n := 2) (idx := 310) E (ct_G_X10_isPair X.2.1) (by rw [hR]; decide) (Nat.zero_le _) (Nat.zero_le _) hG rfl rfl ⟨rfl, by decide, by decide, by decide⟩ (fun _ => ⟨_, _, rfl, rfl⟩) wl_X10_310 wi_X10_isPair ws_X10_isPair wn_X10 wc_X10_isPair, List.forall_mem_cons.mpr ⟨cok_s (n := 2) (idx := 249) E (ct_G_X10_isSpan X.2.1) (by rw [hR]; decide) (Nat.zero_le _) (Nat.zero_le _) hG ⟨by decide, by decide, by decide⟩ (fun _ => rfl) wl_X10_249 wt_X10_isSpan wn_X10 wc_X10_isSpan, List.forall_mem_cons.mpr ⟨cok_v (t := 0) (c := 10) (N := 14) (n := 0) (idx := 171) E (ct_G_X10_told X.2.1) (by rw [hR]; decide) (Nat.zero_le _) (Nat.zero_le _) hG rfl rfl ⟨rfl, by decide, by decide, by decide⟩ (fun _ => ⟨_, _, rfl, rfl⟩) wl_X10_171 wi_X10_told ws_X10_told wn_X10 wc_X10_told, List.forall_mem_cons.mpr ⟨cok_v (t := 15) (c := 0) (N := 9) (n := 5) (idx := 316) E (ct_G_X0_seekBeginning X.2.1) (by rw [hR]; decide) (Nat.zero_le _) (Nat.zero_le _) hG rfl rfl ⟨rfl, by decide, by decide, by decide⟩ (fun _ => ⟨_, _, rfl, rfl⟩) wl_X10_316 wi_X0_seekBeginning ws_X0_seekBeginning wn_X0 wc_X0_seekBeginning, fun _ h => absurd h List.not_mem_nil⟩⟩⟩⟩) R sok_no E
  show WP_ X G Q 0 0 ad SHS_ σ 0 [(10, 0), (0, a1), (0, a2), (0, a3), (0, a4), (0, a5)] []
  refine B rfl ?_
  refine Exists.intro (a1, a2) (And.intro rfl (And.intro True.intro ?_))
  rintro z1 m_ h2
  obtain rfl : σ = m_ := h2.2
  have h3 : (z1 = 1 ∧ 0 ≤ a1 ∧ a1 ≤ 2 ∧ 0 ≤ a2 ∧ a2 ≤ 2 ∧ a1 ≠ a2) ∨ z1 = 0 := h2.1
  refine And.intro (fun h4 => ?_) (fun h4 => ?_)
  · skip
    refine B rfl ?_
    refine Exists.intro _ (And.intro rfl ?_)
    exact (And.intro hp0 (fun k j hk => rfl))
  · skip
    refine Exists.intro (a3, a4) (And.intro rfl (And.intro True.intro ?_))
    rintro z5 m_ h6
    obtain rfl : σ = m_ := h6.2
    have h7 : (z5 = 1 ∧ 0 ≤ a3 ∧ a3 ≤ a4 ∧ a4 ≤ 1999) ∨ z5 = 0 := h6.1
    refine And.intro (fun h8 => ?_) (fun h8 => ?_)
    · skip
      refine B rfl ?_
      refine Exists.intro _ (And.intro rfl ?_)
      exact (And.intro hp0 (fun k j hk => rfl))
    · skip
      refine And.intro (fun h9 => ?_) (fun h9 => ?_)
      · skip
        refine B rfl ?_
        refine Exists.intro _ (And.intro rfl ?_)
        exact (And.intro hp0 (fun k j hk => rfl))
      · skip
        refine And.intro (fun h10 => ?_) (fun h10 => ?_)
        · skip
          refine B rfl ?_
          refine Exists.intro () (And.intro rfl (And.intro hp0 ?_))
          intro z11 σ13 h12
          have f14 : ∀ k j : Int, ¬ (30 ≤ k ∧ k ≤ 33) → σ13 k j = σ k j := h12.2.2
          have h15 : CI σ13 := h12.1
          have h16 : z11 = 30 := h12.2.1
          obtain rfl : z11 = 30 := by omega
          have p17 : DT σ13 := (h15).2.2.2
          refine Exists.intro (a1, a2, a3, a4, a5) (And.intro rfl (And.intro (And.intro p17 (And.intro (by show 0 ≤ a3; omega) (And.intro (by show a3 ≤ a4; omega) (And.intro (by show a4 ≤ 1999; omega) (And.intro (by show 1 ≤ a5; omega) (by show a5 ≤ 200; omega)))))) ?_))
          intro z18 σ20 h19
          have f21 : ∀ k j : Int, ¬ (k = 30) → σ20 k j = σ13 k j := h19
          intro z22 ez22 hz22
          have hz22 : ((-2147483648) : Int) ≤ z22 ∧ z22 ≤ (2147483647 : Int) := rgl_ hz22 (by decide +kernel) (by decide +kernel) (by decide +kernel)
          try have t23 : σ20 30 7 = σ 30 7 := ((f21 _ _ (by omega)).trans (f14 _ _ (by omega)))
          refine Exists.intro _ (And.intro rfl ?_)
          have p24 : CI σ20 := CI_fr h15 (fun k j hk => (f21 _ _ (by omega)))
          exact (And.intro p24 (fun k j hk => ((f21 _ _ (by omega)).trans (f14 _ _ (by omega)))))
        · skip
          refine Exists.intro _ (And.intro rfl ?_)
          exact (And.intro hp0 (fun k j hk => rfl))
def as_G_X10_begins : Int × Int × Int × Int × Int → List Sv_t := fun a => [(10, 0), (0, a.1), (0, a.2.1), (0, a.2.2.1), (0, a.2.2.2.1), (0, a.2.2.2.2)]
def pre_G_X10_begins : Int × Int × Int × Int × Int → Me_t → Prop := fun a σ => (CI σ)
def post_G_X10_begins : Int × Int × Int × Int × Int → Me_t → Int → Me_t → Prop := fun a σ z σ' => (CI σ') ∧ (∀ k j : Int, ¬ (k ≤ 27 ∨ (29 ≤ k ∧ k ≤ 77)) → σ' k j = σ k j)
set_option maxHeartbeats 1500000 in
set_option maxRecDepth 100000 in
theorem ct_G_X10_begins (l : Launch) : CT_ l yX10_begins cX10_begins 6 (some .int) 6 143 as_G_X10_begins (rmI_) pre_G_X10_begins post_G_X10_begins := by
  refine ct_of (by decide) (fun _ => Nat.le_of_ble_eq_true rfl) ?_
  intro X G Q ad σ a hl hR E hG R hM hv hp
  obtain ⟨a1, a2, a3, a4, a5⟩ := a
  have r_a1 : -2147483648 ≤ a1 ∧ a1 ≤ 2147483647 := hv (0, a1) (List.mem_of_getElem? (i := 1) rfl)
  have r_a2 : -2147483648 ≤ a2 ∧ a2 ≤ 2147483647 := hv (0, a2) (List.mem_of_getElem? (i := 2) rfl)
  have r_a3 : -2147483648 ≤ a3 ∧ a3 ≤ 2147483647 := hv (0, a3) (List.mem_of_getElem? (i := 3) rfl)
  have r_a4 : -2147483648 ≤ a4 ∧ a4 ≤ 2147483647 := hv (0, a4) (List.mem_of_getElem? (i := 4) rfl)
  have r_a5 : -2147483648 ≤ a5 ∧ a5 ≤ 2147483647 := hv (0, a5) (List.mem_of_getElem? (i := 5) rfl)
  have hp0 : CI σ := hp
  have B := @bk_ X G Q 0 0 ad SHS_ RX10 cX10_begins 6 (some .int) flX10 plX10 knX10 [(620, 3, TR_ as_G_X10_isPair (rmI_) pre_G_X10_isPair post_G_X10_isPair), (499, 2, TR_ as_G_X10_isSpan (rmI_) pre_G_X10_isSpan post_G_X10_isSpan), (342, 1, TR_ as_G_X10_told (rmR_ 25) pre_G_X10_told post_G_X10_told), (632, 6, TR_ as_G_X0_seekBeginning (rmV_) pre_G_X0_seekBeginning post_G_X0_seekBeginning)] _ _ none kX10_begins [] flX10_ok plX10_ok knX10_ok eX10_begins oX10_begins
    (List.forall_mem_cons.mpr ⟨cok_v (t := 0) (c := 10) (N := 14) (n := 2) (idx := 310) E (ct_G_X10_isPair X.2.1) (by rw [hR]; decide) (Nat.zero_le _) (Nat.zero_le _) hG rfl rfl ⟨rfl, by decide, by decide, by decide⟩ (fun _ => ⟨_, _, rfl, rfl⟩) wl_X10_310 wi_X10_isPair ws_X10_isPair wn_X10 wc_X10_isPair, List.forall_mem_cons.mpr ⟨cok_s (n := 2) (idx := 249) E (ct_G_X10_isSpan X.2.1) (by rw [hR]; decide) (Nat.zero_le _) (Nat.zero_le _) hG ⟨by decide, by decide, by decide⟩ (fun _ => rfl) wl_X10_249 wt_X10_isSpan wn_X10 wc_X10_isSpan, List.forall_mem_cons.mpr ⟨cok_v (t := 0) (c := 10) (N := 14) (n := 0) (idx := 171) E (ct_G_X10_told X.2.1) (by rw [hR]; decide) (Nat.zero_le _) (Nat.zero_le _) hG rfl rfl ⟨rfl, by decide, by decide, by decide⟩ (fun _ => ⟨_, _, rfl, rfl⟩) wl_X10_171 wi_X10_told ws_X10_told wn_X10 wc_X10_told, List.forall_mem_cons.mpr ⟨cok_v (t := 15) (c := 0) (N := 9) (n := 5) (idx := 316) E (ct_G_X0_seekBeginning X.2.1) (by rw [hR]; decide) (Nat.zero_le _) (Nat.zero_le _) hG rfl rfl ⟨rfl, by decide, by decide, by decide⟩ (fun _ => ⟨_, _, rfl, rfl⟩) wl_X10_316 wi_X0_seekBeginning ws_X0_seekBeginning wn_X0 wc_X0_seekBeginning, fun _ h => absurd h List.not_mem_nil⟩⟩⟩⟩) R sok_no E
  show WP_ X G Q 0 0 ad SHS_ σ 0 [(10, 0), (0, a1), (0, a2), (0, a3), (0, a4), (0, a5)] []
  refine B rfl ?_
  refine Exists.intro (a1, a2) (And.intro rfl (And.intro True.intro ?_))
  rintro z1 m_ h2
  obtain rfl : σ = m_ := h2.2
  have h3 : (z1 = 1 ∧ 0 ≤ a1 ∧ a1 ≤ 2 ∧ 0 ≤ a2 ∧ a2 ≤ 2 ∧ a1 ≠ a2) ∨ z1 = 0 := h2.1
  refine And.intro (fun h4 => ?_) (fun h4 => ?_)
  · skip
    refine B rfl ?_
    refine Exists.intro _ (And.intro rfl ?_)
    exact (And.intro hp0 (fun k j hk => rfl))
  · skip
    refine Exists.intro (a3, a4) (And.intro rfl (And.intro True.intro ?_))
    rintro z5 m_ h6
    obtain rfl : σ = m_ := h6.2
    have h7 : (z5 = 1 ∧ 0 ≤ a3 ∧ a3 ≤ a4 ∧ a4 ≤ 1999) ∨ z5 = 0 := h6.1
    refine And.intro (fun h8 => ?_) (fun h8 => ?_)
    · skip
      refine B rfl ?_
      refine Exists.intro _ (And.intro rfl ?_)
      exact (And.intro hp0 (fun k j hk => rfl))
    · skip
      refine And.intro (fun h9 => ?_) (fun h9 => ?_)
      · skip
        refine B rfl ?_
        refine Exists.intro _ (And.intro rfl ?_)
        exact (And.intro hp0 (fun k j hk => rfl))
      · skip
        refine And.intro (fun h10 => ?_) (fun h10 => ?_)
        · skip
          refine B rfl ?_
          refine Exists.intro () (And.intro rfl (And.intro hp0 ?_))
          intro z11 σ13 h12
          have f14 : ∀ k j : Int, ¬ (30 ≤ k ∧ k ≤ 33) → σ13 k j = σ k j := h12.2.2
          have h15 : CI σ13 := h12.1
          have h16 : z11 = 30 := h12.2.1
          obtain rfl : z11 = 30 := by omega
          have p17 : DT σ13 := (h15).2.2.2
          refine Exists.intro (a1, a2, a3, a4, a5) (And.intro rfl (And.intro (And.intro p17 (And.intro (by show 0 ≤ a3; omega) (And.intro (by show a3 ≤ a4; omega) (And.intro (by show a4 ≤ 1999; omega) (And.intro (by show 1 ≤ a5; omega) (by show a5 ≤ 200; omega)))))) ?_))
          intro z18 σ20 h19
          have f21 : ∀ k j : Int, ¬ (k = 30) → σ20 k j = σ13 k j := h19
          intro z22 ez22 hz22
          have hz22 : ((-2147483648) : Int) ≤ z22 ∧ z22 ≤ (2147483647 : Int) := rgl_ hz22 (by decide +kernel) (by decide +kernel) (by decide +kernel)
          try have t23 : σ20 30 8 = σ 30 8 := ((f21 _ _ (by omega)).trans (f14 _ _ (by omega)))
          refine Exists.intro _ (And.intro rfl ?_)
          have p24 : CI σ20 := CI_fr h15 (fun k j hk => (f21 _ _ (by omega)))
          exact (And.intro p24 (fun k j hk => ((f21 _ _ (by omega)).trans (f14 _ _ (by omega)))))
        · skip
          refine Exists.intro _ (And.intro rfl ?_)
          exact (And.intro hp0 (fun k j hk => rfl))
def as_G_X10_game : Int × Int × Int × Int → List Sv_t := fun a => [(10, 0), (0, a.1), (0, a.2.1), (0, a.2.2.1), (0, a.2.2.2)]
def pre_G_X10_game : Int × Int × Int × Int → Me_t → Prop := fun a σ => (CI σ)
def post_G_X10_game : Int × Int × Int × Int → Me_t → Int → Me_t → Prop := fun a σ z σ' => (CI σ') ∧ (∀ k j : Int, ¬ (k ≤ 27 ∨ (29 ≤ k ∧ k ≤ 77)) → σ' k j = σ k j)
set_option maxHeartbeats 1500000 in
set_option maxRecDepth 100000 in
theorem ct_G_X10_game (l : Launch) : CT_ l yX10_game cX10_game 5 (some .int) 6 143 as_G_X10_game (rmI_) pre_G_X10_game post_G_X10_game := by
  refine ct_of (by decide) (fun _ => Nat.le_of_ble_eq_true rfl) ?_
  intro X G Q ad σ a hl hR E hG R hM hv hp
  obtain ⟨a1, a2, a3, a4⟩ := a
  have r_a1 : -2147483648 ≤ a1 ∧ a1 ≤ 2147483647 := hv (0, a1) (List.mem_of_getElem? (i := 1) rfl)
  have r_a2 : -2147483648 ≤ a2 ∧ a2 ≤ 2147483647 := hv (0, a2) (List.mem_of_getElem? (i := 2) rfl)
  have r_a3 : -2147483648 ≤ a3 ∧ a3 ≤ 2147483647 := hv (0, a3) (List.mem_of_getElem? (i := 3) rfl)
  have r_a4 : -2147483648 ≤ a4 ∧ a4 ≤ 2147483647 := hv (0, a4) (List.mem_of_getElem? (i := 4) rfl)
  have hp0 : CI σ := hp
  have B := @bk_ X G Q 0 0 ad SHS_ RX10 cX10_game 5 (some .int) flX10 plX10 knX10 [(432, 4, TR_ as_G_X10_isPairAndDay (rmI_) pre_G_X10_isPairAndDay post_G_X10_isPairAndDay), (342, 1, TR_ as_G_X10_told (rmR_ 25) pre_G_X10_told post_G_X10_told), (658, 6, TR_ as_G_X7_play (rmV_) pre_G_X7_play post_G_X7_play), (653, 2, TMIN_), (593, 2, TMAX_)] _ _ none kX10_game [] flX10_ok plX10_ok knX10_ok eX10_game oX10_game
    (List.forall_mem_cons.mpr ⟨cok_v (t := 0) (c := 10) (N := 14) (n := 3) (idx := 216) E (ct_G_X10_isPairAndDay X.2.1) (by rw [hR]; decide) (Nat.zero_le _) (Nat.zero_le _) hG rfl rfl ⟨rfl, by decide, by decide, by decide⟩ (fun _ => ⟨_, _, rfl, rfl⟩) wl_X10_216 wi_X10_isPairAndDay ws_X10_isPairAndDay wn_X10 wc_X10_isPairAndDay, List.forall_mem_cons.mpr ⟨cok_v (t := 0) (c := 10) (N := 14) (n := 0) (idx := 171) E (ct_G_X10_told X.2.1) (by rw [hR]; decide) (Nat.zero_le _) (Nat.zero_le _) hG rfl rfl ⟨rfl, by decide, by decide, by decide⟩ (fun _ => ⟨_, _, rfl, rfl⟩) wl_X10_171 wi_X10_told ws_X10_told wn_X10 wc_X10_told, List.forall_mem_cons.mpr ⟨cok_v (t := 27) (c := 7) (N := 5) (n := 5) (idx := 329) E (ct_G_X7_play X.2.1) (by rw [hR]; decide) (Nat.zero_le _) (Nat.zero_le _) hG rfl rfl ⟨rfl, by decide, by decide, by decide⟩ (fun _ => ⟨_, _, rfl, rfl⟩) wl_X10_329 wi_X7_play ws_X7_play wn_X7 wc_X7_play, List.forall_mem_cons.mpr ⟨cok_min (idx := 326) E (by rw [hR]; decide) (Nat.zero_le _) (Nat.zero_le _) wl_X10_326, List.forall_mem_cons.mpr ⟨cok_max (idx := 296) E (by rw [hR]; decide) (Nat.zero_le _) (Nat.zero_le _) wl_X10_296, fun _ h => absurd h List.not_mem_nil⟩⟩⟩⟩⟩) R sok_no E
  show WP_ X G Q 0 0 ad SHS_ σ 0 [(10, 0), (0, a1), (0, a2), (0, a3), (0, a4)] []
  refine B rfl ?_
  refine Exists.intro (a1, a2, a3) (And.intro rfl (And.intro True.intro ?_))
  rintro z1 m_ h2
  obtain rfl : σ = m_ := h2.2
  have h3 : (z1 = 1 ∧ 0 ≤ a1 ∧ a1 ≤ 2 ∧ 0 ≤ a2 ∧ a2 ≤ 2 ∧ a1 ≠ a2 ∧ 0 ≤ a3 ∧ a3 ≤ 1999) ∨ z1 = 0 := h2.1
  refine And.intro (fun h4 => ?_) (fun h4 => ?_)
  · skip
    refine B rfl ?_
    refine Exists.intro _ (And.intro rfl ?_)
    exact (And.intro hp0 (fun k j hk => rfl))
  · skip
    refine And.intro (fun h5 => ?_) (fun h5 => ?_)
    · skip
      refine B rfl ?_
      refine Exists.intro _ (And.intro rfl ?_)
      exact (And.intro hp0 (fun k j hk => rfl))
    · skip
      refine And.intro (fun h6 => ?_) (fun h6 => ?_)
      · skip
        refine B rfl ?_
        refine Exists.intro () (And.intro rfl (And.intro hp0 ?_))
        intro z7 σ9 h8
        have f10 : ∀ k j : Int, ¬ (30 ≤ k ∧ k ≤ 33) → σ9 k j = σ k j := h8.2.2
        have h11 : CI σ9 := h8.1
        have h12 : z7 = 30 := h8.2.1
        obtain rfl : z7 = 30 := by omega
        refine Exists.intro a1 (Exists.intro a2 (And.intro rfl ?_))
        intro z13 hz13
        refine Exists.intro a1 (Exists.intro a2 (And.intro rfl ?_))
        intro z14 hz14
        have p15 : DT σ9 := (h11).2.2.2
        refine Exists.intro (z13, z14, a3, a4) (And.intro rfl (And.intro (And.intro p15 (And.intro (by show 0 ≤ a3; omega) (And.intro (by show a3 ≤ 2000; omega) (And.intro (by show 1 ≤ a4; omega) (by show a4 ≤ 40; omega))))) ?_))
        intro z16 σ18 h17
        have f19 : ∀ k j : Int, ¬ (42 ≤ k ∧ k ≤ 44) → σ18 k j = σ9 k j := h17
        intro z20 ez20 hz20
        have hz20 : ((-2147483648) : Int) ≤ z20 ∧ z20 ≤ (2147483647 : Int) := rgl_ hz20 (by decide +kernel) (by decide +kernel) (by decide +kernel)
        try have t21 : σ18 42 3 = σ 42 3 := ((f19 _ _ (by omega)).trans (f10 _ _ (by omega)))
        refine Exists.intro _ (And.intro rfl ?_)
        have p22 : CI σ18 := CI_fr h11 (fun k j hk => (f19 _ _ (by omega)))
        exact (And.intro p22 (fun k j hk => ((f19 _ _ (by omega)).trans (f10 _ _ (by omega)))))
      · skip
        refine Exists.intro _ (And.intro rfl ?_)
        exact (And.intro hp0 (fun k j hk => rfl))
def as_G_X10_takes : Int × Int × Int × Int → List Sv_t := fun a => [(10, 0), (0, a.1), (0, a.2.1), (0, a.2.2.1), (0, a.2.2.2)]
def pre_G_X10_takes : Int × Int × Int × Int → Me_t → Prop := fun a σ => (CI σ)
def post_G_X10_takes : Int × Int × Int × Int → Me_t → Int → Me_t → Prop := fun a σ z σ' => (CI σ') ∧ (∀ k j : Int, ¬ (k ≤ 27 ∨ (29 ≤ k ∧ k ≤ 77)) → σ' k j = σ k j)
set_option maxHeartbeats 1500000 in
set_option maxRecDepth 100000 in
theorem ct_G_X10_takes (l : Launch) : CT_ l yX10_takes cX10_takes 5 (some .int) 6 143 as_G_X10_takes (rmI_) pre_G_X10_takes post_G_X10_takes := by
  refine ct_of (by decide) (fun _ => Nat.le_of_ble_eq_true rfl) ?_
  intro X G Q ad σ a hl hR E hG R hM hv hp
  obtain ⟨a1, a2, a3, a4⟩ := a
  have r_a1 : -2147483648 ≤ a1 ∧ a1 ≤ 2147483647 := hv (0, a1) (List.mem_of_getElem? (i := 1) rfl)
  have r_a2 : -2147483648 ≤ a2 ∧ a2 ≤ 2147483647 := hv (0, a2) (List.mem_of_getElem? (i := 2) rfl)
  have r_a3 : -2147483648 ≤ a3 ∧ a3 ≤ 2147483647 := hv (0, a3) (List.mem_of_getElem? (i := 3) rfl)
  have r_a4 : -2147483648 ≤ a4 ∧ a4 ≤ 2147483647 := hv (0, a4) (List.mem_of_getElem? (i := 4) rfl)
  have hp0 : CI σ := hp
  have B := @bk_ X G Q 0 0 ad SHS_ RX10 cX10_takes 5 (some .int) flX10 plX10 knX10 [(432, 4, TR_ as_G_X10_isPairAndDay (rmI_) pre_G_X10_isPairAndDay post_G_X10_isPairAndDay), (342, 1, TR_ as_G_X10_told (rmR_ 25) pre_G_X10_told post_G_X10_told), (658, 6, TR_ as_G_X7_play (rmV_) pre_G_X7_play post_G_X7_play), (653, 2, TMIN_), (593, 2, TMAX_)] _ _ none kX10_takes [] flX10_ok plX10_ok knX10_ok eX10_takes oX10_takes
    (List.forall_mem_cons.mpr ⟨cok_v (t := 0) (c := 10) (N := 14) (n := 3) (idx := 216) E (ct_G_X10_isPairAndDay X.2.1) (by rw [hR]; decide) (Nat.zero_le _) (Nat.zero_le _) hG rfl rfl ⟨rfl, by decide, by decide, by decide⟩ (fun _ => ⟨_, _, rfl, rfl⟩) wl_X10_216 wi_X10_isPairAndDay ws_X10_isPairAndDay wn_X10 wc_X10_isPairAndDay, List.forall_mem_cons.mpr ⟨cok_v (t := 0) (c := 10) (N := 14) (n := 0) (idx := 171) E (ct_G_X10_told X.2.1) (by rw [hR]; decide) (Nat.zero_le _) (Nat.zero_le _) hG rfl rfl ⟨rfl, by decide, by decide, by decide⟩ (fun _ => ⟨_, _, rfl, rfl⟩) wl_X10_171 wi_X10_told ws_X10_told wn_X10 wc_X10_told, List.forall_mem_cons.mpr ⟨cok_v (t := 27) (c := 7) (N := 5) (n := 5) (idx := 329) E (ct_G_X7_play X.2.1) (by rw [hR]; decide) (Nat.zero_le _) (Nat.zero_le _) hG rfl rfl ⟨rfl, by decide, by decide, by decide⟩ (fun _ => ⟨_, _, rfl, rfl⟩) wl_X10_329 wi_X7_play ws_X7_play wn_X7 wc_X7_play, List.forall_mem_cons.mpr ⟨cok_min (idx := 326) E (by rw [hR]; decide) (Nat.zero_le _) (Nat.zero_le _) wl_X10_326, List.forall_mem_cons.mpr ⟨cok_max (idx := 296) E (by rw [hR]; decide) (Nat.zero_le _) (Nat.zero_le _) wl_X10_296, fun _ h => absurd h List.not_mem_nil⟩⟩⟩⟩⟩) R sok_no E
  show WP_ X G Q 0 0 ad SHS_ σ 0 [(10, 0), (0, a1), (0, a2), (0, a3), (0, a4)] []
  refine B rfl ?_
  refine Exists.intro (a1, a2, a3) (And.intro rfl (And.intro True.intro ?_))
  rintro z1 m_ h2
  obtain rfl : σ = m_ := h2.2
  have h3 : (z1 = 1 ∧ 0 ≤ a1 ∧ a1 ≤ 2 ∧ 0 ≤ a2 ∧ a2 ≤ 2 ∧ a1 ≠ a2 ∧ 0 ≤ a3 ∧ a3 ≤ 1999) ∨ z1 = 0 := h2.1
  refine And.intro (fun h4 => ?_) (fun h4 => ?_)
  · skip
    refine B rfl ?_
    refine Exists.intro _ (And.intro rfl ?_)
    exact (And.intro hp0 (fun k j hk => rfl))
  · skip
    refine And.intro (fun h5 => ?_) (fun h5 => ?_)
    · skip
      refine B rfl ?_
      refine Exists.intro _ (And.intro rfl ?_)
      exact (And.intro hp0 (fun k j hk => rfl))
    · skip
      refine And.intro (fun h6 => ?_) (fun h6 => ?_)
      · skip
        refine B rfl ?_
        refine Exists.intro () (And.intro rfl (And.intro hp0 ?_))
        intro z7 σ9 h8
        have f10 : ∀ k j : Int, ¬ (30 ≤ k ∧ k ≤ 33) → σ9 k j = σ k j := h8.2.2
        have h11 : CI σ9 := h8.1
        have h12 : z7 = 30 := h8.2.1
        obtain rfl : z7 = 30 := by omega
        refine Exists.intro a1 (Exists.intro a2 (And.intro rfl ?_))
        intro z13 hz13
        refine Exists.intro a1 (Exists.intro a2 (And.intro rfl ?_))
        intro z14 hz14
        have p15 : DT σ9 := (h11).2.2.2
        refine Exists.intro (z13, z14, a3, a4) (And.intro rfl (And.intro (And.intro p15 (And.intro (by show 0 ≤ a3; omega) (And.intro (by show a3 ≤ 2000; omega) (And.intro (by show 1 ≤ a4; omega) (by show a4 ≤ 40; omega))))) ?_))
        intro z16 σ18 h17
        have f19 : ∀ k j : Int, ¬ (42 ≤ k ∧ k ≤ 44) → σ18 k j = σ9 k j := h17
        intro z20 ez20 hz20
        have hz20 : ((-2147483648) : Int) ≤ z20 ∧ z20 ≤ (2147483647 : Int) := rgl_ hz20 (by decide +kernel) (by decide +kernel) (by decide +kernel)
        try have t21 : σ18 42 4 = σ 42 4 := ((f19 _ _ (by omega)).trans (f10 _ _ (by omega)))
        refine Exists.intro _ (And.intro rfl ?_)
        have p22 : CI σ18 := CI_fr h11 (fun k j hk => (f19 _ _ (by omega)))
        exact (And.intro p22 (fun k j hk => ((f19 _ _ (by omega)).trans (f10 _ _ (by omega)))))
      · skip
        refine Exists.intro _ (And.intro rfl ?_)
        exact (And.intro hp0 (fun k j hk => rfl))
def as_G_X10_count : Int → List Sv_t := fun a => [(10, 0), (0, a)]
def pre_G_X10_count : Int → Me_t → Prop := fun a σ => (CI σ)
def post_G_X10_count : Int → Me_t → Int → Me_t → Prop := fun a σ z σ' => (CI σ') ∧ (∀ k j : Int, ¬ (k ≤ 27 ∨ (29 ≤ k ∧ k ≤ 77)) → σ' k j = σ k j)
set_option maxHeartbeats 1500000 in
set_option maxRecDepth 100000 in
theorem ct_G_X10_count (l : Launch) : CT_ l yX10_count cX10_count 2 (some .int) 1 22 as_G_X10_count (rmI_) pre_G_X10_count post_G_X10_count := by
  refine ct_of (by decide) (fun _ => Nat.le_of_ble_eq_true rfl) ?_
  intro X G Q ad σ a hl hR E hG R hM hv hp
  obtain ⟨a1, rfl⟩ : ∃ q : Int, q = a := ⟨_, rfl⟩
  have r_a1 : -2147483648 ≤ a1 ∧ a1 ≤ 2147483647 := hv (0, a1) (List.mem_of_getElem? (i := 1) rfl)
  have hp0 : CI σ := hp
  have B := @bk_ X G Q 0 0 ad SHS_ RX10 cX10_count 2 (some .int) flX10 plX10 knX10 [(782, 1, TR_ as_G_X10_slotsWithRow (rmI_) pre_G_X10_slotsWithRow post_G_X10_slotsWithRow)] _ _ none kX10_count [] flX10_ok plX10_ok knX10_ok eX10_count oX10_count
    (List.forall_mem_cons.mpr ⟨cok_v (t := 0) (c := 10) (N := 14) (n := 0) (idx := 391) E (ct_G_X10_slotsWithRow X.2.1) (by rw [hR]; decide) (Nat.zero_le _) (Nat.zero_le _) hG rfl rfl ⟨rfl, by decide, by decide, by decide⟩ (fun _ => ⟨_, _, rfl, rfl⟩) wl_X10_391 wi_X10_slotsWithRow ws_X10_slotsWithRow wn_X10 wc_X10_slotsWithRow, fun _ h => absurd h List.not_mem_nil⟩) R sok_no E
  show WP_ X G Q 0 0 ad SHS_ σ 0 [(10, 0), (0, a1)] []
  refine B rfl ?_
  refine And.intro (fun h1 => ?_) ?_
  · skip
    refine B rfl ?_
    refine Exists.intro _ (And.intro rfl ?_)
    exact (And.intro hp0 (fun k j hk => rfl))
  refine And.intro (fun h1 => ?_) ?_
  · skip
    refine B rfl ?_
    intro z2 ez2 hz2
    have cz2 : z2 = 5 ∨ z2 = 16 := by have := (hp0).1; omega
    have lz2 : LG σ z2 := by rw [ez2]; exact (hp0).2.1.1
    have uz2 : UW σ z2 := by rw [ez2]; exact (hp0).2.1.2
    intro z3 ez3 hz3
    have hz3 : (0 : Int) ≤ z3 ∧ z3 ≤ (3 : Int) := hz3
    refine Exists.intro _ (And.intro rfl ?_)
    exact (And.intro hp0 (fun k j hk => rfl))
  refine And.intro (fun h1 => ?_) ?_
  · skip
    refine B rfl ?_
    intro z4 ez4 hz4
    have cz4 : z4 = 5 ∨ z4 = 16 := by have := (hp0).1; omega
    have lz4 : LG σ z4 := by rw [ez4]; exact (hp0).2.1.1
    have uz4 : UW σ z4 := by rw [ez4]; exact (hp0).2.1.2
    intro z5 ez5 hz5
    have hz5 : (0 : Int) ≤ z5 ∧ z5 ≤ (12 : Int) := hz5
    refine Exists.intro _ (And.intro rfl ?_)
    exact (And.intro hp0 (fun k j hk => rfl))
  refine And.intro (fun h1 => ?_) ?_
  · skip
    refine B rfl ?_
    intro z6 ez6 hz6
    have cz6 : z6 = 5 ∨ z6 = 16 := by have := (hp0).1; omega
    have lz6 : LG σ z6 := by rw [ez6]; exact (hp0).2.1.1
    have uz6 : UW σ z6 := by rw [ez6]; exact (hp0).2.1.2
    intro z7 ez7 hz7
    have hz7 : (0 : Int) ≤ z7 ∧ z7 ≤ (12 : Int) := hz7
    refine Exists.intro _ (And.intro rfl ?_)
    exact (And.intro hp0 (fun k j hk => rfl))
  refine And.intro (fun h1 => ?_) ?_
  · skip
    refine B rfl ?_
    intro z8 ez8 hz8
    have cz8 : z8 = 5 ∨ z8 = 16 := by have := (hp0).1; omega
    have lz8 : LG σ z8 := by rw [ez8]; exact (hp0).2.1.1
    have uz8 : UW σ z8 := by rw [ez8]; exact (hp0).2.1.2
    intro z9 ez9 hz9
    have hz9 : (0 : Int) ≤ z9 ∧ z9 ≤ (100 : Int) := hz9
    refine Exists.intro _ (And.intro rfl ?_)
    exact (And.intro hp0 (fun k j hk => rfl))
  refine And.intro (fun h1 => ?_) ?_
  · skip
    refine B rfl ?_
    intro z10 ez10 hz10
    have cz10 : z10 = 5 ∨ z10 = 16 := by have := (hp0).1; omega
    have lz10 : LG σ z10 := by rw [ez10]; exact (hp0).2.1.1
    have uz10 : UW σ z10 := by rw [ez10]; exact (hp0).2.1.2
    intro z11 ez11 hz11
    have hz11 : (0 : Int) ≤ z11 ∧ z11 ≤ (1201 : Int) := hz11
    refine Exists.intro _ (And.intro rfl ?_)
    exact (And.intro hp0 (fun k j hk => rfl))
  refine And.intro (fun h1 => ?_) ?_
  · skip
    refine B rfl ?_
    intro z12 ez12 hz12
    have hz12 : (0 : Int) ≤ z12 ∧ z12 ≤ (1200 : Int) := hz12
    refine Exists.intro _ (And.intro rfl ?_)
    exact (And.intro hp0 (fun k j hk => rfl))
  refine And.intro (fun h1 => ?_) ?_
  · skip
    refine B rfl ?_
    intro z13 ez13 hz13
    have cz13 : z13 = 5 ∨ z13 = 16 := by have := (hp0).1; omega
    have lz13 : LG σ z13 := by rw [ez13]; exact (hp0).2.1.1
    have uz13 : UW σ z13 := by rw [ez13]; exact (hp0).2.1.2
    intro z14 ez14 hz14
    have hz14 : (0 : Int) ≤ z14 ∧ z14 ≤ (60 : Int) := hz14
    refine Exists.intro _ (And.intro rfl ?_)
    exact (And.intro hp0 (fun k j hk => rfl))
  refine And.intro (fun h1 => ?_) ?_
  · skip
    refine B rfl ?_
    refine Exists.intro () (And.intro rfl (And.intro True.intro ?_))
    rintro z15 m_ h16
    obtain rfl : σ = m_ := h16
    refine Exists.intro _ (And.intro rfl ?_)
    exact (And.intro hp0 (fun k j hk => rfl))
  exact True.intro
def as_G_X10_next : Int × Int → List Sv_t := fun a => [(10, 0), (0, a.1), (0, a.2)]
def pre_G_X10_next : Int × Int → Me_t → Prop := fun a σ => (CI σ)
def post_G_X10_next : Int × Int → Me_t → Int → Me_t → Prop := fun a σ z σ' => (CI σ') ∧ (∀ k j : Int, ¬ (k ≤ 27 ∨ (29 ≤ k ∧ k ≤ 77)) → σ' k j = σ k j)
set_option maxHeartbeats 1500000 in
set_option maxRecDepth 100000 in
theorem ct_G_X10_next (l : Launch) : CT_ l yX10_next cX10_next 5 (some .int) 6 143 as_G_X10_next (rmI_) pre_G_X10_next post_G_X10_next := by
  refine ct_of (by decide) (fun _ => Nat.le_of_ble_eq_true rfl) ?_
  intro X G Q ad σ a hl hR E hG R hM hv hp
  obtain ⟨a1, a2⟩ := a
  have r_a1 : -2147483648 ≤ a1 ∧ a1 ≤ 2147483647 := hv (0, a1) (List.mem_of_getElem? (i := 1) rfl)
  have r_a2 : -2147483648 ≤ a2 ∧ a2 ≤ 2147483647 := hv (0, a2) (List.mem_of_getElem? (i := 2) rfl)
  have hp0 : CI σ := hp
  have B := @bk_ X G Q 0 0 ad SHS_ RX10 cX10_next 5 (some .int) flX10 plX10 knX10 [(386, 4, TR_ as_G_X10_isSetInSpan (rmI_) pre_G_X10_isSetInSpan post_G_X10_isSetInSpan), (342, 1, TR_ as_G_X10_told (rmR_ 25) pre_G_X10_told post_G_X10_told), (394, 3, TR_ as_G_X0_allFight (rmI_) pre_G_X0_allFight post_G_X0_allFight)] _ _ none kX10_next [21] flX10_ok plX10_ok knX10_ok eX10_next oX10_next
    (List.forall_mem_cons.mpr ⟨cok_v (t := 0) (c := 10) (N := 14) (n := 3) (idx := 193) E (ct_G_X10_isSetInSpan X.2.1) (by rw [hR]; decide) (Nat.zero_le _) (Nat.zero_le _) hG rfl rfl ⟨rfl, by decide, by decide, by decide⟩ (fun _ => ⟨_, _, rfl, rfl⟩) wl_X10_193 wi_X10_isSetInSpan ws_X10_isSetInSpan wn_X10 wc_X10_isSetInSpan, List.forall_mem_cons.mpr ⟨cok_v (t := 0) (c := 10) (N := 14) (n := 0) (idx := 171) E (ct_G_X10_told X.2.1) (by rw [hR]; decide) (Nat.zero_le _) (Nat.zero_le _) hG rfl rfl ⟨rfl, by decide, by decide, by decide⟩ (fun _ => ⟨_, _, rfl, rfl⟩) wl_X10_171 wi_X10_told ws_X10_told wn_X10 wc_X10_told, List.forall_mem_cons.mpr ⟨cok_v (t := 15) (c := 0) (N := 9) (n := 2) (idx := 197) E (ct_G_X0_allFight X.2.1) (by rw [hR]; decide) (Nat.zero_le _) (Nat.zero_le _) hG rfl rfl ⟨rfl, by decide, by decide, by decide⟩ (fun _ => ⟨_, _, rfl, rfl⟩) wl_X10_197 wi_X0_allFight ws_X0_allFight wn_X0 wc_X0_allFight, fun _ h => absurd h List.not_mem_nil⟩⟩⟩) R sok_no E
  show WP_ X G Q 0 0 ad SHS_ σ 0 [(10, 0), (0, a1), (0, a2), (9, 0), (9, 0)] []
  refine B rfl ?_
  refine Exists.intro (a1, a2, a2) (And.intro rfl (And.intro True.intro ?_))
  rintro z1 m_ h2
  obtain rfl : σ = m_ := h2.2
  have h3 : (z1 = 1 ∧ 0 ≤ a1 ∧ 0 ≤ a2 ∧ a2 ≤ a2 ∧ a2 ≤ 1999) ∨ z1 = 0 := h2.1
  refine And.intro (fun h4 => ?_) (fun h4 => ?_)
  · skip
    refine B rfl ?_
    refine Exists.intro () (And.intro rfl (And.intro hp0 ?_))
    intro z5 σ7 h6
    have f8 : ∀ k j : Int, ¬ (30 ≤ k ∧ k ≤ 33) → σ7 k j = σ k j := h6.2.2
    have h9 : CI σ7 := h6.1
    have h10 : z5 = 30 := h6.2.1
    obtain rfl : z5 = 30 := by omega
    show WP_ X G Q 0 0 ad SHS_ σ7 21 [(10, 0), (0, a1), (0, a2), (25, 30), (0, a2)] []
    refine wdrop_ (L' := [(9, 0), (0, a1), (9, 0), (25, 30), (0, a2)]) ⟨Or.inl rfl, ⟨Or.inr rfl, ⟨Or.inl rfl, ⟨Or.inr rfl, ⟨Or.inr rfl, trivial⟩⟩⟩⟩⟩ ?_
    have lp_21 : ∀ (nq_ : Nat) (v4 : Int), (a2 ≤ v4) → (v4 ≤ 2000) → (2000 - v4 : Int).toNat < nq_ → WP_ X G Q 0 0 ad SHS_ σ7 21 [(9, 0), (0, a1), (9, 0), (25, 30), (0, v4)] [] := by
      intro nq_
      induction nq_ with
      | zero => intros; omega
      | succ nq_ ih_21 =>
        intro v4 hi21_0 hi21_1 hm21
        refine B rfl ?_
        refine And.intro (fun h11 => ?_) (fun h11 => ?_)
        · skip
          refine B rfl ?_
          refine Exists.intro _ (And.intro rfl ?_)
          exact (And.intro h9 (fun k j hk => (f8 _ _ (by omega))))
        · skip
          refine Exists.intro (a1, v4) (And.intro rfl (And.intro (And.intro (by show 0 ≤ v4; omega) (by show v4 ≤ 1999; omega)) ?_))
          rintro z12 m_ h13
          obtain rfl : σ7 = m_ := h13.2
          have h14 : 0 ≤ z12 ∧ z12 ≤ 1 := h13.1
          refine And.intro (fun h15 => ?_) (fun h15 => ?_)
          · skip
            refine B rfl ?_
            refine And.intro (by omega) ?_
            exact ih_21 (v4 + 1) (by show a2 ≤ (v4 + 1); omega) (by show (v4 + 1) ≤ 2000; omega) (by omega)
          · skip
            refine Exists.intro _ (And.intro rfl ?_)
            exact (And.intro h9 (fun k j hk => (f8 _ _ (by omega))))
    exact lp_21 ((2000 - a2 : Int).toNat + 1) a2 (by show a2 ≤ a2; omega) (by show a2 ≤ 2000; omega) (by omega)
  · skip
    refine Exists.intro _ (And.intro rfl ?_)
    exact (And.intro hp0 (fun k j hk => rfl))
def as_G_X10_meets : Int × Int × Int × Int × Int → List Sv_t := fun a => [(10, 0), (0, a.1), (0, a.2.1), (0, a.2.2.1), (0, a.2.2.2.1), (0, a.2.2.2.2)]
def pre_G_X10_meets : Int × Int × Int × Int × Int → Me_t → Prop := fun a σ => (CI σ)
def post_G_X10_meets : Int × Int × Int × Int × Int → Me_t → Int → Me_t → Prop := fun a σ z σ' => (CI σ') ∧ (∀ k j : Int, ¬ (k ≤ 27 ∨ (29 ≤ k ∧ k ≤ 77)) → σ' k j = σ k j)
set_option maxHeartbeats 1500000 in
set_option maxRecDepth 100000 in
theorem ct_G_X10_meets (l : Launch) : CT_ l yX10_meets cX10_meets 8 (some .int) 6 143 as_G_X10_meets (rmI_) pre_G_X10_meets post_G_X10_meets := by
  refine ct_of (by decide) (fun _ => Nat.le_of_ble_eq_true rfl) ?_
  intro X G Q ad σ a hl hR E hG R hM hv hp
  obtain ⟨a1, a2, a3, a4, a5⟩ := a
  have r_a1 : -2147483648 ≤ a1 ∧ a1 ≤ 2147483647 := hv (0, a1) (List.mem_of_getElem? (i := 1) rfl)
  have r_a2 : -2147483648 ≤ a2 ∧ a2 ≤ 2147483647 := hv (0, a2) (List.mem_of_getElem? (i := 2) rfl)
  have r_a3 : -2147483648 ≤ a3 ∧ a3 ≤ 2147483647 := hv (0, a3) (List.mem_of_getElem? (i := 3) rfl)
  have r_a4 : -2147483648 ≤ a4 ∧ a4 ≤ 2147483647 := hv (0, a4) (List.mem_of_getElem? (i := 4) rfl)
  have r_a5 : -2147483648 ≤ a5 ∧ a5 ≤ 2147483647 := hv (0, a5) (List.mem_of_getElem? (i := 5) rfl)
  have hp0 : CI σ := hp
  have B := @bk_ X G Q 0 0 ad SHS_ RX10 cX10_meets 8 (some .int) flX10 plX10 knX10 [(432, 4, TR_ as_G_X10_isPairAndDay (rmI_) pre_G_X10_isPairAndDay post_G_X10_isPairAndDay), (438, 2, TR_ as_G_X1_hasWeekday (rmI_) pre_G_X1_hasWeekday post_G_X1_hasWeekday), (342, 1, TR_ as_G_X10_told (rmR_ 25) pre_G_X10_told post_G_X10_told), (350, 4, TR_ as_G_X0_part (rmI_) pre_G_X0_part post_G_X0_part)] _ _ none kX10_meets [11, 30, 47, 60, 68, 81, 95] flX10_ok plX10_ok knX10_ok eX10_meets oX10_meets
    (List.forall_mem_cons.mpr ⟨cok_v (t := 0) (c := 10) (N := 14) (n := 3) (idx := 216) E (ct_G_X10_isPairAndDay X.2.1) (by rw [hR]; decide) (Nat.zero_le _) (Nat.zero_le _) hG rfl rfl ⟨rfl, by decide, by decide, by decide⟩ (fun _ => ⟨_, _, rfl, rfl⟩) wl_X10_216 wi_X10_isPairAndDay ws_X10_isPairAndDay wn_X10 wc_X10_isPairAndDay, List.forall_mem_cons.mpr ⟨cok_v (t := 10) (c := 1) (N := 9) (n := 1) (idx := 219) E (ct_G_X1_hasWeekday X.2.1) (by rw [hR]; decide) (Nat.zero_le _) (Nat.zero_le _) hG rfl rfl ⟨rfl, by decide, by decide, by decide⟩ (fun _ => ⟨_, _, rfl, rfl⟩) wl_X10_219 wi_X1_hasWeekday ws_X1_hasWeekday wn_X1 wc_X1_hasWeekday, List.forall_mem_cons.mpr ⟨cok_v (t := 0) (c := 10) (N := 14) (n := 0) (idx := 171) E (ct_G_X10_told X.2.1) (by rw [hR]; decide) (Nat.zero_le _) (Nat.zero_le _) hG rfl rfl ⟨rfl, by decide, by decide, by decide⟩ (fun _ => ⟨_, _, rfl, rfl⟩) wl_X10_171 wi_X10_told ws_X10_told wn_X10 wc_X10_told, List.forall_mem_cons.mpr ⟨cok_v (t := 15) (c := 0) (N := 9) (n := 3) (idx := 175) E (ct_G_X0_part X.2.1) (by rw [hR]; decide) (Nat.zero_le _) (Nat.zero_le _) hG rfl rfl ⟨rfl, by decide, by decide, by decide⟩ (fun _ => ⟨_, _, rfl, rfl⟩) wl_X10_175 wi_X0_part ws_X0_part wn_X0 wc_X0_part, fun _ h => absurd h List.not_mem_nil⟩⟩⟩⟩) R sok_no E
  show WP_ X G Q 0 0 ad SHS_ σ 0 [(10, 0), (0, a1), (0, a2), (0, a3), (0, a4), (0, a5), (9, 0), (9, 0)] []
  refine B rfl ?_
  refine Exists.intro (a1, a3, a5) (And.intro rfl (And.intro True.intro ?_))
  rintro z1 m_ h2
  obtain rfl : σ = m_ := h2.2
  have h3 : (z1 = 1 ∧ 0 ≤ a1 ∧ a1 ≤ 2 ∧ 0 ≤ a3 ∧ a3 ≤ 2 ∧ a1 ≠ a3 ∧ 0 ≤ a5 ∧ a5 ≤ 1999) ∨ z1 = 0 := h2.1
  refine And.intro (fun h4 => ?_) (fun h4 => ?_)
  · skip
    refine B rfl ?_
    intro z5 ez5 hz5
    have cz5 : z5 = 5 ∨ z5 = 16 := by have := (hp0).1; omega
    have lz5 : LG σ z5 := by rw [ez5]; exact (hp0).2.1.1
    have uz5 : UW σ z5 := by rw [ez5]; exact (hp0).2.1.2
    refine And.intro (by omega) ?_
    refine Exists.intro ((z5 + 1) + 4 + 2 * a1, a2) (And.intro rfl (And.intro True.intro ?_))
    rintro z6 m_ h7
    obtain rfl : σ = m_ := h7.2
    have h8 : 0 ≤ z6 ∧ z6 ≤ 1 := h7.1
    refine And.intro (fun h9 => ?_) (fun h9 => ?_)
    · skip
      refine B rfl ?_
      refine Exists.intro _ (And.intro rfl ?_)
      exact (And.intro hp0 (fun k j hk => rfl))
    · skip
      show WP_ X G Q 0 0 ad SHS_ σ 30 [(10, 0), (0, a1), (0, a2), (0, a3), (0, a4), (0, a5), (9, 0), (9, 0)] []
      refine B rfl ?_
      intro z10 ez10 hz10
      have q11 : z5 = z10 := ez5.trans ez10.symm
      subst q11
      refine And.intro (by omega) ?_
      refine Exists.intro ((z5 + 1) + 4 + 2 * a3, a4) (And.intro rfl (And.intro True.intro ?_))
      rintro z12 m_ h13
      obtain rfl : σ = m_ := h13.2
      have h14 : 0 ≤ z12 ∧ z12 ≤ 1 := h13.1
      refine And.intro (fun h15 => ?_) (fun h15 => ?_)
      · skip
        refine B rfl ?_
        refine Exists.intro () (And.intro rfl (And.intro hp0 ?_))
        intro z16 σ18 h17
        have f19 : ∀ k j : Int, ¬ (30 ≤ k ∧ k ≤ 33) → σ18 k j = σ k j := h17.2.2
        have h20 : CI σ18 := h17.1
        have h21 : z16 = 30 := h17.2.1
        obtain rfl : z16 = 30 := by omega
        show WP_ X G Q 0 0 ad SHS_ σ18 60 [(10, 0), (0, a1), (0, a2), (0, a3), (0, a4), (0, a5), (25, 30), (0, a5)] []
        refine wdrop_ (L' := [(9, 0), (0, a1), (0, a2), (0, a3), (0, a4), (9, 0), (25, 30), (0, a5)]) ⟨Or.inl rfl, ⟨Or.inr rfl, ⟨Or.inr rfl, ⟨Or.inr rfl, ⟨Or.inr rfl, ⟨Or.inl rfl, ⟨Or.inr rfl, ⟨Or.inr rfl, trivial⟩⟩⟩⟩⟩⟩⟩⟩ ?_
        have lp_60 : ∀ (nq_ : Nat) (v7 : Int), (a5 ≤ v7) → (v7 ≤ 2000) → (2000 - v7 : Int).toNat < nq_ → WP_ X G Q 0 0 ad SHS_ σ18 60 [(9, 0), (0, a1), (0, a2), (0, a3), (0, a4), (9, 0), (25, 30), (0, v7)] [] := by
          intro nq_
          induction nq_ with
          | zero => intros; omega
          | succ nq_ ih_60 =>
            intro v7 hi60_0 hi60_1 hm60
            refine B rfl ?_
            refine And.intro (fun h22 => ?_) (fun h22 => ?_)
            · skip
              refine B rfl ?_
              refine Exists.intro _ (And.intro rfl ?_)
              exact (And.intro h20 (fun k j hk => (f19 _ _ (by omega))))
            · skip
              show WP_ X G Q 0 0 ad SHS_ σ18 68 [(9, 0), (0, a1), (0, a2), (0, a3), (0, a4), (9, 0), (25, 30), (0, v7)] []
              refine B rfl ?_
              have p23 : DT σ18 := (h20).2.2.2
              refine Exists.intro (a1, v7, 3) (And.intro rfl (And.intro (And.intro p23 (And.intro (by show 0 ≤ v7; omega) (And.intro (by show v7 ≤ 1999; omega) (by show 3 = 4 ∨ (0 ≤ a1 ∧ a1 ≤ 2); omega)))) ?_))
              rintro z24 m_ h25
              obtain rfl : σ18 = m_ := h25.2.2.2.2
              have h26 : -1 ≤ z24 ∧ z24 ≤ 200000 := h25.1
              have h27 : (3 : Int) = 4 → 0 ≤ z24 ∧ z24 ≤ 1 := h25.2.1
              have h28 : (3 : Int) = 1 → z24 ≤ 7 := h25.2.2.1
              have h29 : (3 : Int) = 3 → z24 ≤ 10 := h25.2.2.2.1
              refine And.intro (fun h30 => ?_) (fun h30 => ?_)
              · skip
                refine B rfl ?_
                refine And.intro (by omega) ?_
                exact ih_60 (v7 + 1) (by show a5 ≤ (v7 + 1); omega) (by show (v7 + 1) ≤ 2000; omega) (by omega)
              · skip
                show WP_ X G Q 0 0 ad SHS_ σ18 81 [(9, 0), (0, a1), (0, a2), (0, a3), (0, a4), (9, 0), (25, 30), (0, v7)] []
                refine B rfl ?_
                refine Exists.intro (a3, v7, 3) (And.intro rfl (And.intro (And.intro p23 (And.intro (by show 0 ≤ v7; omega) (And.intro (by show v7 ≤ 1999; omega) (by show 3 = 4 ∨ (0 ≤ a3 ∧ a3 ≤ 2); omega)))) ?_))
                rintro z31 m_ h32
                obtain rfl : σ18 = m_ := h32.2.2.2.2
                have h33 : -1 ≤ z31 ∧ z31 ≤ 200000 := h32.1
                have h34 : (3 : Int) = 4 → 0 ≤ z31 ∧ z31 ≤ 1 := h32.2.1
                have h35 : (3 : Int) = 1 → z31 ≤ 7 := h32.2.2.1
                have h36 : (3 : Int) = 3 → z31 ≤ 10 := h32.2.2.2.1
                refine And.intro (fun h37 => ?_) (fun h37 => ?_)
                · skip
                  refine B rfl ?_
                  refine And.intro (by omega) ?_
                  exact ih_60 (v7 + 1) (by show a5 ≤ (v7 + 1); omega) (by show (v7 + 1) ≤ 2000; omega) (by omega)
                · skip
                  show WP_ X G Q 0 0 ad SHS_ σ18 95 [(9, 0), (0, a1), (0, a2), (0, a3), (0, a4), (9, 0), (25, 30), (0, v7)] []
                  refine B rfl ?_
                  refine Exists.intro _ (And.intro rfl ?_)
                  exact (And.intro h20 (fun k j hk => (f19 _ _ (by omega))))
        exact lp_60 ((2000 - a5 : Int).toNat + 1) a5 (by show a5 ≤ a5; omega) (by show a5 ≤ 2000; omega) (by omega)
      · skip
        show WP_ X G Q 0 0 ad SHS_ σ 47 [(10, 0), (0, a1), (0, a2), (0, a3), (0, a4), (0, a5), (9, 0), (9, 0)] []
        refine B rfl ?_
        refine Exists.intro _ (And.intro rfl ?_)
        exact (And.intro hp0 (fun k j hk => rfl))
  · skip
    show WP_ X G Q 0 0 ad SHS_ σ 11 [(10, 0), (0, a1), (0, a2), (0, a3), (0, a4), (0, a5), (9, 0), (9, 0)] []
    refine B rfl ?_
    refine Exists.intro _ (And.intro rfl ?_)
    exact (And.intro hp0 (fun k j hk => rfl))
def as_G_X10_period : Int → List Sv_t := fun a => [(10, 0), (0, a)]
def pre_G_X10_period : Int → Me_t → Prop := fun a σ => (CI σ)
def post_G_X10_period : Int → Me_t → Int → Me_t → Prop := fun a σ z σ' => (CI σ') ∧ (∀ k j : Int, ¬ (k ≤ 27 ∨ (29 ≤ k ∧ k ≤ 77)) → σ' k j = σ k j)
set_option maxHeartbeats 1500000 in
set_option maxRecDepth 100000 in
theorem ct_G_X10_period (l : Launch) : CT_ l yX10_period cX10_period 4 (some .int) 1 25 as_G_X10_period (rmI_) pre_G_X10_period post_G_X10_period := by
  refine ct_of (by decide) (fun _ => Nat.le_of_ble_eq_true rfl) ?_
  intro X G Q ad σ a hl hR E hG R hM hv hp
  obtain ⟨a1, rfl⟩ : ∃ q : Int, q = a := ⟨_, rfl⟩
  have r_a1 : -2147483648 ≤ a1 ∧ a1 ≤ 2147483647 := hv (0, a1) (List.mem_of_getElem? (i := 1) rfl)
  have hp0 : CI σ := hp
  have B := @bk_ X G Q 0 0 ad SHS_ RX10 cX10_period 4 (some .int) flX10 plX10 knX10 [(226, 2, TR_ as_G_X9_hasLand (rmI_) pre_G_X9_hasLand post_G_X9_hasLand), (444, 1, TR_ as_G_X1_leapCycle (rmI_) pre_G_X1_leapCycle post_G_X1_leapCycle), (427, 2, TR_ as_G_X10_commonDivisor (rmI_) pre_G_X10_commonDivisor post_G_X10_commonDivisor)] _ _ none kX10_period [] flX10_ok plX10_ok knX10_ok eX10_period oX10_period
    (List.forall_mem_cons.mpr ⟨cok_v (t := 5) (c := 9) (N := 10) (n := 1) (idx := 113) E (ct_G_X9_hasLand X.2.1) (by rw [hR]; decide) (Nat.zero_le _) (Nat.zero_le _) hG rfl rfl ⟨rfl, by decide, by decide, by decide⟩ (fun _ => ⟨_, _, rfl, rfl⟩) wl_X10_113 wi_X9_hasLand ws_X9_hasLand wn_X9 wc_X9_hasLand, List.forall_mem_cons.mpr ⟨cok_v (t := 10) (c := 1) (N := 9) (n := 0) (idx := 222) E (ct_G_X1_leapCycle X.2.1) (by rw [hR]; decide) (Nat.zero_le _) (Nat.zero_le _) hG rfl rfl ⟨rfl, by decide, by decide, by decide⟩ (fun _ => ⟨_, _, rfl, rfl⟩) wl_X10_222 wi_X1_leapCycle ws_X1_leapCycle wn_X1 wc_X1_leapCycle, List.forall_mem_cons.mpr ⟨cok_s (n := 2) (idx := 213) E (ct_G_X10_commonDivisor X.2.1) (by rw [hR]; decide) (Nat.zero_le _) (Nat.zero_le _) hG ⟨by decide, by decide, by decide⟩ (fun _ => rfl) wl_X10_213 wt_X10_commonDivisor wn_X10 wc_X10_commonDivisor, fun _ h => absurd h List.not_mem_nil⟩⟩⟩) R sok_no E
  show WP_ X G Q 0 0 ad SHS_ σ 0 [(10, 0), (0, a1), (9, 0), (9, 0)] []
  refine B rfl ?_
  intro z1 ez1 hz1
  have cz1 : z1 = 5 ∨ z1 = 16 := by have := (hp0).1; omega
  have lz1 : LG σ z1 := by rw [ez1]; exact (hp0).2.1.1
  have uz1 : UW σ z1 := by rw [ez1]; exact (hp0).2.1.2
  refine Exists.intro (z1, a1) (And.intro rfl (And.intro True.intro ?_))
  rintro z2 m_ h3
  obtain rfl : σ = m_ := h3.2
  have h4 : (z2 = 1 ∧ 0 ≤ a1 ∧ a1 ≤ 2 ∧ a1 < σ z1 2) ∨ z2 = 0 := h3.1
  refine And.intro (fun h5 => ?_) (fun h5 => ?_)
  · skip
    refine B rfl ?_
    intro z6 ez6 hz6
    have q7 : z1 = z6 := ez1.trans ez6.symm
    subst q7
    refine And.intro (by omega) ?_
    refine Exists.intro ((z1 + 1) + 4 + 2 * a1) (And.intro rfl (And.intro True.intro ?_))
    rintro z8 m_ h9
    obtain rfl : σ = m_ := h9.2
    have h10 : 0 ≤ z8 ∧ z8 ≤ 4329 := h9.1
    intro z11 ez11 hz11
    have q12 : z1 = z11 := ez1.trans ez11.symm
    subst q12
    refine And.intro (by omega) ?_
    intro z13 ez13 hz13
    have hz13 : (0 : Int) ≤ z13 ∧ z13 ≤ (10 : Int) := hz13
    refine Exists.intro (z8, z13) (And.intro rfl (And.intro (And.intro (by show 0 ≤ z8; omega) (by show 0 ≤ z13; omega)) ?_))
    rintro z14 m_ h15
    obtain rfl : σ = m_ := h15.2
    have h16 : 1 ≤ z14 := h15.1
    have q17 := tdiv_r (x := z8) (y := z14) (by omega) (by omega)
    refine And.intro (by omega) ?_
    have q18 : 0 ≤ (Int.tdiv z8 z14) * z13 ∧ (Int.tdiv z8 z14) * z13 ≤ 43290 := mul_r (A := 4329) (B := 10) (by omega) (by omega) (by omega) (by omega)
    refine And.intro (by omega) ?_
    refine Exists.intro _ (And.intro rfl ?_)
    exact (And.intro hp0 (fun k j hk => rfl))
  · skip
    refine Exists.intro _ (And.intro rfl ?_)
    exact (And.intro hp0 (fun k j hk => rfl))
def as_G_X10_alike : Int × Int × Int → List Sv_t := fun a => [(10, 0), (0, a.1), (0, a.2.1), (0, a.2.2)]
def pre_G_X10_alike : Int × Int × Int → Me_t → Prop := fun a σ => (CI σ)
def post_G_X10_alike : Int × Int × Int → Me_t → Int → Me_t → Prop := fun a σ z σ' => (CI σ') ∧ (∀ k j : Int, ¬ (k ≤ 27 ∨ (29 ≤ k ∧ k ≤ 77)) → σ' k j = σ k j)
set_option maxHeartbeats 1500000 in
set_option maxRecDepth 100000 in
theorem ct_G_X10_alike (l : Launch) : CT_ l yX10_alike cX10_alike 7 (some .int) 6 143 as_G_X10_alike (rmI_) pre_G_X10_alike post_G_X10_alike := by
  refine ct_of (by decide) (fun _ => Nat.le_of_ble_eq_true rfl) ?_
  intro X G Q ad σ a hl hR E hG R hM hv hp
  obtain ⟨a1, a2, a3⟩ := a
  have r_a1 : -2147483648 ≤ a1 ∧ a1 ≤ 2147483647 := hv (0, a1) (List.mem_of_getElem? (i := 1) rfl)
  have r_a2 : -2147483648 ≤ a2 ∧ a2 ≤ 2147483647 := hv (0, a2) (List.mem_of_getElem? (i := 2) rfl)
  have r_a3 : -2147483648 ≤ a3 ∧ a3 ≤ 2147483647 := hv (0, a3) (List.mem_of_getElem? (i := 3) rfl)
  have hp0 : CI σ := hp
  have B := @bk_ X G Q 0 0 ad SHS_ RX10 cX10_alike 7 (some .int) flX10 plX10 knX10 [(432, 4, TR_ as_G_X10_isPairAndDay (rmI_) pre_G_X10_isPairAndDay post_G_X10_isPairAndDay), (342, 1, TR_ as_G_X10_told (rmR_ 25) pre_G_X10_told post_G_X10_told), (452, 3, TR_ as_G_X0_monthDay (rmI_) pre_G_X0_monthDay post_G_X0_monthDay)] _ _ none kX10_alike [22] flX10_ok plX10_ok knX10_ok eX10_alike oX10_alike
    (List.forall_mem_cons.mpr ⟨cok_v (t := 0) (c := 10) (N := 14) (n := 3) (idx := 216) E (ct_G_X10_isPairAndDay X.2.1) (by rw [hR]; decide) (Nat.zero_le _) (Nat.zero_le _) hG rfl rfl ⟨rfl, by decide, by decide, by decide⟩ (fun _ => ⟨_, _, rfl, rfl⟩) wl_X10_216 wi_X10_isPairAndDay ws_X10_isPairAndDay wn_X10 wc_X10_isPairAndDay, List.forall_mem_cons.mpr ⟨cok_v (t := 0) (c := 10) (N := 14) (n := 0) (idx := 171) E (ct_G_X10_told X.2.1) (by rw [hR]; decide) (Nat.zero_le _) (Nat.zero_le _) hG rfl rfl ⟨rfl, by decide, by decide, by decide⟩ (fun _ => ⟨_, _, rfl, rfl⟩) wl_X10_171 wi_X10_told ws_X10_told wn_X10 wc_X10_told, List.forall_mem_cons.mpr ⟨cok_v (t := 15) (c := 0) (N := 9) (n := 2) (idx := 226) E (ct_G_X0_monthDay X.2.1) (by rw [hR]; decide) (Nat.zero_le _) (Nat.zero_le _) hG rfl rfl ⟨rfl, by decide, by decide, by decide⟩ (fun _ => ⟨_, _, rfl, rfl⟩) wl_X10_226 wi_X0_monthDay ws_X0_monthDay wn_X0 wc_X0_monthDay, fun _ h => absurd h List.not_mem_nil⟩⟩⟩) R sok_no E
  show WP_ X G Q 0 0 ad SHS_ σ 0 [(10, 0), (0, a1), (0, a2), (0, a3), (9, 0), (9, 0), (9, 0)] []
  refine B rfl ?_
  refine Exists.intro (a1, a2, a3) (And.intro rfl (And.intro True.intro ?_))
  rintro z1 m_ h2
  obtain rfl : σ = m_ := h2.2
  have h3 : (z1 = 1 ∧ 0 ≤ a1 ∧ a1 ≤ 2 ∧ 0 ≤ a2 ∧ a2 ≤ 2 ∧ a1 ≠ a2 ∧ 0 ≤ a3 ∧ a3 ≤ 1999) ∨ z1 = 0 := h2.1
  refine And.intro (fun h4 => ?_) (fun h4 => ?_)
  · skip
    refine B rfl ?_
    refine Exists.intro () (And.intro rfl (And.intro hp0 ?_))
    intro z5 σ7 h6
    have f8 : ∀ k j : Int, ¬ (30 ≤ k ∧ k ≤ 33) → σ7 k j = σ k j := h6.2.2
    have h9 : CI σ7 := h6.1
    have h10 : z5 = 30 := h6.2.1
    obtain rfl : z5 = 30 := by omega
    show WP_ X G Q 0 0 ad SHS_ σ7 22 [(10, 0), (0, a1), (0, a2), (0, a3), (25, 30), (0, a3), (9, 0)] []
    refine wdrop_ (L' := [(9, 0), (0, a1), (0, a2), (9, 0), (25, 30), (0, a3), (9, 0)]) ⟨Or.inl rfl, ⟨Or.inr rfl, ⟨Or.inr rfl, ⟨Or.inl rfl, ⟨Or.inr rfl, ⟨Or.inr rfl, ⟨Or.inl rfl, trivial⟩⟩⟩⟩⟩⟩⟩ ?_
    have lp_22 : ∀ (nq_ : Nat) (v5 : Int), (a3 ≤ v5) → (v5 ≤ 2000) → (2000 - v5 : Int).toNat < nq_ → WP_ X G Q 0 0 ad SHS_ σ7 22 [(9, 0), (0, a1), (0, a2), (9, 0), (25, 30), (0, v5), (9, 0)] [] := by
      intro nq_
      induction nq_ with
      | zero => intros; omega
      | succ nq_ ih_22 =>
        intro v5 hi22_0 hi22_1 hm22
        refine B rfl ?_
        refine And.intro (fun h11 => ?_) (fun h11 => ?_)
        · skip
          refine B rfl ?_
          refine Exists.intro _ (And.intro rfl ?_)
          exact (And.intro h9 (fun k j hk => (f8 _ _ (by omega))))
        · skip
          refine Exists.intro (a1, v5) (And.intro rfl (And.intro (And.intro (by show 0 ≤ a1; omega) (And.intro (by show a1 ≤ 2; omega) (And.intro (by show 0 ≤ v5; omega) (by show v5 ≤ 1999; omega)))) ?_))
          rintro z12 m_ h13
          obtain rfl : σ7 = m_ := h13.2
          have h14 : -1 ≤ z12 ∧ z12 ≤ 1023 := h13.1
          refine And.intro (fun h15 => ?_) (fun h15 => ?_)
          · skip
            refine B rfl ?_
            refine And.intro (by omega) ?_
            show WP_ X G Q 0 0 ad SHS_ σ7 22 [(9, 0), (0, a1), (0, a2), (9, 0), (25, 30), (0, v5 + 1), (0, z12)] []
            refine wdrop_ (L' := [(9, 0), (0, a1), (0, a2), (9, 0), (25, 30), (0, v5 + 1), (9, 0)]) ⟨Or.inl rfl, ⟨Or.inr rfl, ⟨Or.inr rfl, ⟨Or.inl rfl, ⟨Or.inr rfl, ⟨Or.inr rfl, ⟨Or.inl rfl, trivial⟩⟩⟩⟩⟩⟩⟩ ?_
            exact ih_22 (v5 + 1) (by show a3 ≤ (v5 + 1); omega) (by show (v5 + 1) ≤ 2000; omega) (by omega)
          · skip
            refine Exists.intro (a2, v5) (And.intro rfl (And.intro (And.intro (by show 0 ≤ a2; omega) (And.intro (by show a2 ≤ 2; omega) (And.intro (by show 0 ≤ v5; omega) (by show v5 ≤ 1999; omega)))) ?_))
            rintro z16 m_ h17
            obtain rfl : σ7 = m_ := h17.2
            have h18 : -1 ≤ z16 ∧ z16 ≤ 1023 := h17.1
            refine And.intro (fun h19 => ?_) (fun h19 => ?_)
            · skip
              refine B rfl ?_
              refine And.intro (by omega) ?_
              show WP_ X G Q 0 0 ad SHS_ σ7 22 [(9, 0), (0, a1), (0, a2), (9, 0), (25, 30), (0, v5 + 1), (0, z12)] []
              refine wdrop_ (L' := [(9, 0), (0, a1), (0, a2), (9, 0), (25, 30), (0, v5 + 1), (9, 0)]) ⟨Or.inl rfl, ⟨Or.inr rfl, ⟨Or.inr rfl, ⟨Or.inl rfl, ⟨Or.inr rfl, ⟨Or.inr rfl, ⟨Or.inl rfl, trivial⟩⟩⟩⟩⟩⟩⟩ ?_
              exact ih_22 (v5 + 1) (by show a3 ≤ (v5 + 1); omega) (by show (v5 + 1) ≤ 2000; omega) (by omega)
            · skip
              refine Exists.intro _ (And.intro rfl ?_)
              exact (And.intro h9 (fun k j hk => (f8 _ _ (by omega))))
    exact lp_22 ((2000 - a3 : Int).toNat + 1) a3 (by show a3 ≤ a3; omega) (by show a3 ≤ 2000; omega) (by omega)
  · skip
    refine Exists.intro _ (And.intro rfl ?_)
    exact (And.intro hp0 (fun k j hk => rfl))
def as_G_X10_years : Int → List Sv_t := fun a => [(10, 0), (0, a)]
def pre_G_X10_years : Int → Me_t → Prop := fun a σ => (CI σ)
def post_G_X10_years : Int → Me_t → Int → Me_t → Prop := fun a σ z σ' => (CI σ') ∧ (∀ k j : Int, ¬ (k ≤ 27 ∨ (29 ≤ k ∧ k ≤ 77)) → σ' k j = σ k j)
set_option maxHeartbeats 1500000 in
set_option maxRecDepth 100000 in
theorem ct_G_X10_years (l : Launch) : CT_ l yX10_years cX10_years 5 (some .int) 6 143 as_G_X10_years (rmI_) pre_G_X10_years post_G_X10_years := by
  refine ct_of (by decide) (fun _ => Nat.le_of_ble_eq_true rfl) ?_
  intro X G Q ad σ a hl hR E hG R hM hv hp
  obtain ⟨a1, rfl⟩ : ∃ q : Int, q = a := ⟨_, rfl⟩
  have r_a1 : -2147483648 ≤ a1 ∧ a1 ≤ 2147483647 := hv (0, a1) (List.mem_of_getElem? (i := 1) rfl)
  have hp0 : CI σ := hp
  have B := @bk_ X G Q 0 0 ad SHS_ RX10 cX10_years 5 (some .int) flX10 plX10 knX10 [(372, 2, TR_ as_G_X10_isDayOfWar (rmI_) pre_G_X10_isDayOfWar post_G_X10_isDayOfWar), (342, 1, TR_ as_G_X10_told (rmR_ 25) pre_G_X10_told post_G_X10_told), (452, 3, TR_ as_G_X0_monthDay (rmI_) pre_G_X0_monthDay post_G_X0_monthDay)] _ _ none kX10_years [21] flX10_ok plX10_ok knX10_ok eX10_years oX10_years
    (List.forall_mem_cons.mpr ⟨cok_v (t := 0) (c := 10) (N := 14) (n := 1) (idx := 186) E (ct_G_X10_isDayOfWar X.2.1) (by rw [hR]; decide) (Nat.zero_le _) (Nat.zero_le _) hG rfl rfl ⟨rfl, by decide, by decide, by decide⟩ (fun _ => ⟨_, _, rfl, rfl⟩) wl_X10_186 wi_X10_isDayOfWar ws_X10_isDayOfWar wn_X10 wc_X10_isDayOfWar, List.forall_mem_cons.mpr ⟨cok_v (t := 0) (c := 10) (N := 14) (n := 0) (idx := 171) E (ct_G_X10_told X.2.1) (by rw [hR]; decide) (Nat.zero_le _) (Nat.zero_le _) hG rfl rfl ⟨rfl, by decide, by decide, by decide⟩ (fun _ => ⟨_, _, rfl, rfl⟩) wl_X10_171 wi_X10_told ws_X10_told wn_X10 wc_X10_told, List.forall_mem_cons.mpr ⟨cok_v (t := 15) (c := 0) (N := 9) (n := 2) (idx := 226) E (ct_G_X0_monthDay X.2.1) (by rw [hR]; decide) (Nat.zero_le _) (Nat.zero_le _) hG rfl rfl ⟨rfl, by decide, by decide, by decide⟩ (fun _ => ⟨_, _, rfl, rfl⟩) wl_X10_226 wi_X0_monthDay ws_X0_monthDay wn_X0 wc_X0_monthDay, fun _ h => absurd h List.not_mem_nil⟩⟩⟩) R sok_no E
  show WP_ X G Q 0 0 ad SHS_ σ 0 [(10, 0), (0, a1), (9, 0), (9, 0), (9, 0)] []
  refine B rfl ?_
  refine Exists.intro a1 (And.intro rfl (And.intro True.intro ?_))
  rintro z1 m_ h2
  obtain rfl : σ = m_ := h2.2
  have h3 : (z1 = 1 ∧ 0 ≤ a1 ∧ a1 ≤ 1999) ∨ z1 = 0 := h2.1
  refine And.intro (fun h4 => ?_) (fun h4 => ?_)
  · skip
    refine B rfl ?_
    refine Exists.intro () (And.intro rfl (And.intro hp0 ?_))
    intro z5 σ7 h6
    have f8 : ∀ k j : Int, ¬ (30 ≤ k ∧ k ≤ 33) → σ7 k j = σ k j := h6.2.2
    have h9 : CI σ7 := h6.1
    have h10 : z5 = 30 := h6.2.1
    obtain rfl : z5 = 30 := by omega
    have lp_21 : ∀ (nq_ : Nat) (v3 : Int) (v4 : Int), (0 ≤ v4) → (v4 ≤ 3) → (3 - v4 : Int).toNat < nq_ → WP_ X G Q 0 0 ad SHS_ σ7 21 [(10, 0), (0, a1), (25, 30), (0, v3), (0, v4)] [] := by
      intro nq_
      induction nq_ with
      | zero => intros; omega
      | succ nq_ ih_21 =>
        intro v3 v4 hi21_0 hi21_1 hm21
        refine B rfl ?_
        intro z11 ez11 hz11
        try have t12 : σ7 0 2 = σ 0 2 := (f8 _ _ (by omega))
        have cz11 : z11 = 5 ∨ z11 = 16 := by have := (h9).1; omega
        have lz11 : LG σ7 z11 := by rw [ez11]; exact (h9).2.1.1
        have uz11 : UW σ7 z11 := by rw [ez11]; exact (h9).2.1.2
        intro z13 ez13 hz13
        have hz13 : (0 : Int) ≤ z13 ∧ z13 ≤ (3 : Int) := hz13
        try have t14 : σ7 z11 2 = σ z11 2 := (f8 _ _ (by omega))
        refine And.intro (fun h15 => ?_) (fun h15 => ?_)
        · skip
          refine B rfl ?_
          refine Exists.intro _ (And.intro rfl ?_)
          exact (And.intro h9 (fun k j hk => (f8 _ _ (by omega))))
        · skip
          refine Exists.intro (v4, a1) (And.intro rfl (And.intro (And.intro (by show 0 ≤ v4; omega) (And.intro (by show v4 ≤ 2; omega) (And.intro (by show 0 ≤ a1; omega) (by show a1 ≤ 1999; omega)))) ?_))
          rintro z16 m_ h17
          obtain rfl : σ7 = m_ := h17.2
          have h18 : -1 ≤ z16 ∧ z16 ≤ 1023 := h17.1
          refine And.intro (fun h19 => ?_) (fun h19 => ?_)
          · skip
            refine B rfl ?_
            refine And.intro (by omega) ?_
            exact ih_21 v3 (v4 + 1) (by show 0 ≤ (v4 + 1); omega) (by show (v4 + 1) ≤ 3; omega) (by omega)
          · skip
            try have q20 := shl3_1 (b := v4) (by omega) (by omega)
            try have q21 := shl3_b (b := v4) (by omega) (by omega)
            refine And.intro (by omega) ?_
            exact ih_21 (or3_ v3 (shl3_ 1 v4)) (v4 + 1) (by show 0 ≤ (v4 + 1); omega) (by show (v4 + 1) ≤ 3; omega) (by omega)
    exact lp_21 ((3 - 0 : Int).toNat + 1) 0 0 (by show 0 ≤ 0; omega) (by show 0 ≤ 3; omega) (by omega)
  · skip
    refine Exists.intro _ (And.intro rfl ?_)
    exact (And.intro hp0 (fun k j hk => rfl))
def as_G_X10_comes : Int × Int → List Sv_t := fun a => [(10, 0), (0, a.1), (0, a.2)]
def pre_G_X10_comes : Int × Int → Me_t → Prop := fun a σ => (CI σ)
def post_G_X10_comes : Int × Int → Me_t → Int → Me_t → Prop := fun a σ z σ' => (CI σ') ∧ (∀ k j : Int, ¬ (k ≤ 27 ∨ (29 ≤ k ∧ k ≤ 77)) → σ' k j = σ k j)
set_option maxHeartbeats 1500000 in
set_option maxRecDepth 100000 in
theorem ct_G_X10_comes (l : Launch) : CT_ l yX10_comes cX10_comes 7 (some .int) 6 143 as_G_X10_comes (rmI_) pre_G_X10_comes post_G_X10_comes := by
  refine ct_of (by decide) (fun _ => Nat.le_of_ble_eq_true rfl) ?_
  intro X G Q ad σ a hl hR E hG R hM hv hp
  obtain ⟨a1, a2⟩ := a
  have r_a1 : -2147483648 ≤ a1 ∧ a1 ≤ 2147483647 := hv (0, a1) (List.mem_of_getElem? (i := 1) rfl)
  have r_a2 : -2147483648 ≤ a2 ∧ a2 ≤ 2147483647 := hv (0, a2) (List.mem_of_getElem? (i := 2) rfl)
  have hp0 : CI σ := hp
  have B := @bk_ X G Q 0 0 ad SHS_ RX10 cX10_comes 7 (some .int) flX10 plX10 knX10 [(336, 3, TR_ as_G_X10_isLandAndDay (rmI_) pre_G_X10_isLandAndDay post_G_X10_isLandAndDay), (342, 1, TR_ as_G_X10_told (rmR_ 25) pre_G_X10_told post_G_X10_told), (452, 3, TR_ as_G_X0_monthDay (rmI_) pre_G_X0_monthDay post_G_X0_monthDay), (350, 4, TR_ as_G_X0_part (rmI_) pre_G_X0_part post_G_X0_part)] _ _ none kX10_comes [9, 31, 47, 55, 67, 80] flX10_ok plX10_ok knX10_ok eX10_comes oX10_comes
    (List.forall_mem_cons.mpr ⟨cok_v (t := 0) (c := 10) (N := 14) (n := 2) (idx := 168) E (ct_G_X10_isLandAndDay X.2.1) (by rw [hR]; decide) (Nat.zero_le _) (Nat.zero_le _) hG rfl rfl ⟨rfl, by decide, by decide, by decide⟩ (fun _ => ⟨_, _, rfl, rfl⟩) wl_X10_168 wi_X10_isLandAndDay ws_X10_isLandAndDay wn_X10 wc_X10_isLandAndDay, List.forall_mem_cons.mpr ⟨cok_v (t := 0) (c := 10) (N := 14) (n := 0) (idx := 171) E (ct_G_X10_told X.2.1) (by rw [hR]; decide) (Nat.zero_le _) (Nat.zero_le _) hG rfl rfl ⟨rfl, by decide, by decide, by decide⟩ (fun _ => ⟨_, _, rfl, rfl⟩) wl_X10_171 wi_X10_told ws_X10_told wn_X10 wc_X10_told, List.forall_mem_cons.mpr ⟨cok_v (t := 15) (c := 0) (N := 9) (n := 2) (idx := 226) E (ct_G_X0_monthDay X.2.1) (by rw [hR]; decide) (Nat.zero_le _) (Nat.zero_le _) hG rfl rfl ⟨rfl, by decide, by decide, by decide⟩ (fun _ => ⟨_, _, rfl, rfl⟩) wl_X10_226 wi_X0_monthDay ws_X0_monthDay wn_X0 wc_X0_monthDay, List.forall_mem_cons.mpr ⟨cok_v (t := 15) (c := 0) (N := 9) (n := 3) (idx := 175) E (ct_G_X0_part X.2.1) (by rw [hR]; decide) (Nat.zero_le _) (Nat.zero_le _) hG rfl rfl ⟨rfl, by decide, by decide, by decide⟩ (fun _ => ⟨_, _, rfl, rfl⟩) wl_X10_175 wi_X0_part ws_X0_part wn_X0 wc_X0_part, fun _ h => absurd h List.not_mem_nil⟩⟩⟩⟩) R sok_no E
  show WP_ X G Q 0 0 ad SHS_ σ 0 [(10, 0), (0, a1), (0, a2), (9, 0), (9, 0), (9, 0), (9, 0)] []
  refine B rfl ?_
  refine Exists.intro (a1, a2) (And.intro rfl (And.intro True.intro ?_))
  rintro z1 m_ h2
  obtain rfl : σ = m_ := h2.2
  have h3 : (z1 = 1 ∧ 0 ≤ a1 ∧ a1 ≤ 2 ∧ 0 ≤ a2 ∧ a2 ≤ 1999) ∨ z1 = 0 := h2.1
  refine And.intro (fun h4 => ?_) (fun h4 => ?_)
  · skip
    refine B rfl ?_
    refine Exists.intro () (And.intro rfl (And.intro hp0 ?_))
    intro z5 σ7 h6
    have f8 : ∀ k j : Int, ¬ (30 ≤ k ∧ k ≤ 33) → σ7 k j = σ k j := h6.2.2
    have h9 : CI σ7 := h6.1
    have h10 : z5 = 30 := h6.2.1
    obtain rfl : z5 = 30 := by omega
    refine Exists.intro (a1, a2) (And.intro rfl (And.intro (And.intro (by show 0 ≤ a1; omega) (And.intro (by show a1 ≤ 2; omega) (And.intro (by show 0 ≤ a2; omega) (by show a2 ≤ 1999; omega)))) ?_))
    rintro z11 m_ h12
    obtain rfl : σ7 = m_ := h12.2
    have h13 : -1 ≤ z11 ∧ z11 ≤ 1023 := h12.1
    refine And.intro (fun h14 => ?_) (fun h14 => ?_)
    · skip
      refine B rfl ?_
      have p15 : DT σ7 := (h9).2.2.2
      refine Exists.intro (a1, a2, 3) (And.intro rfl (And.intro (And.intro p15 (And.intro (by show 0 ≤ a2; omega) (And.intro (by show a2 ≤ 1999; omega) (by show 3 = 4 ∨ (0 ≤ a1 ∧ a1 ≤ 2); omega)))) ?_))
      rintro z16 m_ h17
      obtain rfl : σ7 = m_ := h17.2.2.2.2
      have h18 : -1 ≤ z16 ∧ z16 ≤ 200000 := h17.1
      have h19 : (3 : Int) = 4 → 0 ≤ z16 ∧ z16 ≤ 1 := h17.2.1
      have h20 : (3 : Int) = 1 → z16 ≤ 7 := h17.2.2.1
      have h21 : (3 : Int) = 3 → z16 ≤ 10 := h17.2.2.2.1
      refine And.intro (by omega) ?_
      show WP_ X G Q 0 0 ad SHS_ σ7 47 [(10, 0), (0, a1), (0, a2), (25, 30), (0, z11), (0, z16), (0, a2 + 1)] []
      refine wdrop_ (L' := [(9, 0), (0, a1), (9, 0), (25, 30), (0, z11), (0, z16), (0, a2 + 1)]) ⟨Or.inl rfl, ⟨Or.inr rfl, ⟨Or.inl rfl, ⟨Or.inr rfl, ⟨Or.inr rfl, ⟨Or.inr rfl, ⟨Or.inr rfl, trivial⟩⟩⟩⟩⟩⟩⟩ ?_
      have lp_47 : ∀ (nq_ : Nat) (v6 : Int), (a2 ≤ v6) → (v6 ≤ 2000) → (2000 - v6 : Int).toNat < nq_ → WP_ X G Q 0 0 ad SHS_ σ7 47 [(9, 0), (0, a1), (9, 0), (25, 30), (0, z11), (0, z16), (0, v6)] [] := by
        intro nq_
        induction nq_ with
        | zero => intros; omega
        | succ nq_ ih_47 =>
          intro v6 hi47_0 hi47_1 hm47
          refine B rfl ?_
          refine And.intro (fun h22 => ?_) (fun h22 => ?_)
          · skip
            refine B rfl ?_
            refine Exists.intro _ (And.intro rfl ?_)
            exact (And.intro h9 (fun k j hk => (f8 _ _ (by omega))))
          · skip
            show WP_ X G Q 0 0 ad SHS_ σ7 55 [(9, 0), (0, a1), (9, 0), (25, 30), (0, z11), (0, z16), (0, v6)] []
            refine B rfl ?_
            refine Exists.intro (a1, v6) (And.intro rfl (And.intro (And.intro (by show 0 ≤ a1; omega) (And.intro (by show a1 ≤ 2; omega) (And.intro (by show 0 ≤ v6; omega) (by show v6 ≤ 1999; omega)))) ?_))
            rintro z23 m_ h24
            obtain rfl : σ7 = m_ := h24.2
            have h25 : -1 ≤ z23 ∧ z23 ≤ 1023 := h24.1
            refine And.intro (fun h26 => ?_) (fun h26 => ?_)
            · skip
              refine B rfl ?_
              refine And.intro (by omega) ?_
              exact ih_47 (v6 + 1) (by show a2 ≤ (v6 + 1); omega) (by show (v6 + 1) ≤ 2000; omega) (by omega)
            · skip
              show WP_ X G Q 0 0 ad SHS_ σ7 67 [(9, 0), (0, a1), (9, 0), (25, 30), (0, z11), (0, z16), (0, v6)] []
              refine B rfl ?_
              refine Exists.intro (a1, v6, 3) (And.intro rfl (And.intro (And.intro p15 (And.intro (by show 0 ≤ v6; omega) (And.intro (by show v6 ≤ 1999; omega) (by show 3 = 4 ∨ (0 ≤ a1 ∧ a1 ≤ 2); omega)))) ?_))
              rintro z27 m_ h28
              obtain rfl : σ7 = m_ := h28.2.2.2.2
              have h29 : -1 ≤ z27 ∧ z27 ≤ 200000 := h28.1
              have h30 : (3 : Int) = 4 → 0 ≤ z27 ∧ z27 ≤ 1 := h28.2.1
              have h31 : (3 : Int) = 1 → z27 ≤ 7 := h28.2.2.1
              have h32 : (3 : Int) = 3 → z27 ≤ 10 := h28.2.2.2.1
              refine And.intro (fun h33 => ?_) (fun h33 => ?_)
              · skip
                refine B rfl ?_
                refine And.intro (by omega) ?_
                exact ih_47 (v6 + 1) (by show a2 ≤ (v6 + 1); omega) (by show (v6 + 1) ≤ 2000; omega) (by omega)
              · skip
                show WP_ X G Q 0 0 ad SHS_ σ7 80 [(9, 0), (0, a1), (9, 0), (25, 30), (0, z11), (0, z16), (0, v6)] []
                refine B rfl ?_
                refine Exists.intro _ (And.intro rfl ?_)
                exact (And.intro h9 (fun k j hk => (f8 _ _ (by omega))))
      exact lp_47 ((2000 - (a2 + 1) : Int).toNat + 1) (a2 + 1) (by show a2 ≤ (a2 + 1); omega) (by show (a2 + 1) ≤ 2000; omega) (by omega)
    · skip
      show WP_ X G Q 0 0 ad SHS_ σ7 31 [(10, 0), (0, a1), (0, a2), (25, 30), (0, z11), (9, 0), (9, 0)] []
      refine B rfl ?_
      refine Exists.intro _ (And.intro rfl ?_)
      exact (And.intro h9 (fun k j hk => (f8 _ _ (by omega))))
  · skip
    show WP_ X G Q 0 0 ad SHS_ σ 9 [(10, 0), (0, a1), (0, a2), (9, 0), (9, 0), (9, 0), (9, 0)] []
    refine B rfl ?_
    refine Exists.intro _ (And.intro rfl ?_)
    exact (And.intro hp0 (fun k j hk => rfl))
def as_G_X10_older : Int × Int → List Sv_t := fun a => [(10, 0), (0, a.1), (0, a.2)]
def pre_G_X10_older : Int × Int → Me_t → Prop := fun a σ => (CI σ)
def post_G_X10_older : Int × Int → Me_t → Int → Me_t → Prop := fun a σ z σ' => (CI σ') ∧ (∀ k j : Int, ¬ (k ≤ 27 ∨ (29 ≤ k ∧ k ≤ 77)) → σ' k j = σ k j)
set_option maxHeartbeats 1500000 in
set_option maxRecDepth 100000 in
theorem ct_G_X10_older (l : Launch) : CT_ l yX10_older cX10_older 4 (some .int) 5 117 as_G_X10_older (rmI_) pre_G_X10_older post_G_X10_older := by
  refine ct_of (by decide) (fun _ => Nat.le_of_ble_eq_true rfl) ?_
  intro X G Q ad σ a hl hR E hG R hM hv hp
  obtain ⟨a1, a2⟩ := a
  have r_a1 : -2147483648 ≤ a1 ∧ a1 ≤ 2147483647 := hv (0, a1) (List.mem_of_getElem? (i := 1) rfl)
  have r_a2 : -2147483648 ≤ a2 ∧ a2 ≤ 2147483647 := hv (0, a2) (List.mem_of_getElem? (i := 2) rfl)
  have hp0 : CI σ := hp
  have B := @bk_ X G Q 0 0 ad SHS_ RX10 cX10_older 4 (some .int) flX10 plX10 knX10 [(504, 2, TR_ as_G_X10_readOrders (rmI_) pre_G_X10_readOrders post_G_X10_readOrders), (520, 2, TR_ as_G_X2_earlierThan (rmI_) pre_G_X2_earlierThan post_G_X2_earlierThan)] _ _ none kX10_older [] flX10_ok plX10_ok knX10_ok eX10_older oX10_older
    (List.forall_mem_cons.mpr ⟨cok_v (t := 0) (c := 10) (N := 14) (n := 1) (idx := 252) E (ct_G_X10_readOrders X.2.1) (by rw [hR]; decide) (Nat.zero_le _) (Nat.zero_le _) hG rfl rfl ⟨rfl, by decide, by decide, by decide⟩ (fun _ => ⟨_, _, rfl, rfl⟩) wl_X10_252 wi_X10_readOrders ws_X10_readOrders wn_X10 wc_X10_readOrders, List.forall_mem_cons.mpr ⟨cok_v (t := 21) (c := 2) (N := 3) (n := 1) (idx := 260) E (ct_G_X2_earlierThan X.2.1) (by rw [hR]; decide) (Nat.zero_le _) (Nat.zero_le _) hG rfl rfl ⟨rfl, by decide, by decide, by decide⟩ (fun _ => ⟨_, _, rfl, rfl⟩) wl_X10_260 wi_X2_earlierThan ws_X2_earlierThan wn_X2 wc_X2_earlierThan, fun _ h => absurd h List.not_mem_nil⟩⟩) R sok_no E
  show WP_ X G Q 0 0 ad SHS_ σ 0 [(10, 0), (0, a1), (0, a2), (9, 0)] []
  refine B rfl ?_
  refine Exists.intro a1 (And.intro rfl (And.intro hp0 ?_))
  intro z1 σ3 h2
  have f4 : ∀ k j : Int, ¬ (36 ≤ k ∧ k ≤ 38) → σ3 k j = σ k j := h2.2.2
  have h5 : CI σ3 := h2.1
  have h6 : z1 < 0 ∨ ∀ j : Int, 0 ≤ j → j < σ3 36 2 → 0 ≤ σ3 38 j := h2.2.1
  refine And.intro (fun h7 => ?_) (fun h7 => ?_)
  · skip
    refine B rfl ?_
    refine And.intro (fun h8 => ?_) (fun h8 => ?_)
    · skip
      refine B rfl ?_
      refine B rfl ?_
      refine Exists.intro _ (And.intro rfl ?_)
      exact (And.intro h5 (fun k j hk => (f4 _ _ (by omega))))
    · skip
      intro z9 ez9 hz9
      have hz9 : (0 : Int) ≤ z9 ∧ z9 ≤ (15 : Int) := hz9
      try have t10 : σ3 36 2 = σ 36 2 := (f4 _ _ (by omega))
      refine And.intro (fun h11 => ?_) (fun h11 => ?_)
      · skip
        refine B rfl ?_
        refine Exists.intro a2 (And.intro rfl (And.intro (And.intro (by show 0 ≤ a2; omega) (by show a2 < 15; omega)) ?_))
        rintro z12 m_ h13
        obtain rfl : σ3 = m_ := h13
        refine Exists.intro _ (And.intro rfl ?_)
        exact (And.intro h5 (fun k j hk => (f4 _ _ (by omega))))
      · skip
        refine B rfl ?_
        refine Exists.intro _ (And.intro rfl ?_)
        exact (And.intro h5 (fun k j hk => (f4 _ _ (by omega))))
  · skip
    refine Exists.intro _ (And.intro rfl ?_)
    exact (And.intro h5 (fun k j hk => (f4 _ _ (by omega))))
def as_G_X10_fit : Int × Int × Int × Int → List Sv_t := fun a => [(10, 0), (0, a.1), (0, a.2.1), (0, a.2.2.1), (0, a.2.2.2)]
def pre_G_X10_fit : Int × Int × Int × Int → Me_t → Prop := fun a σ => (CI σ)
def post_G_X10_fit : Int × Int × Int × Int → Me_t → Int → Me_t → Prop := fun a σ z σ' => (CI σ') ∧ (∀ k j : Int, ¬ (k ≤ 27 ∨ (29 ≤ k ∧ k ≤ 77)) → σ' k j = σ k j)
set_option maxHeartbeats 1500000 in
set_option maxRecDepth 100000 in
theorem ct_G_X10_fit (l : Launch) : CT_ l yX10_fit cX10_fit 6 (some .int) 6 147 as_G_X10_fit (rmI_) pre_G_X10_fit post_G_X10_fit := by
  refine ct_of (by decide) (fun _ => Nat.le_of_ble_eq_true rfl) ?_
  intro X G Q ad σ a hl hR E hG R hM hv hp
  obtain ⟨a1, a2, a3, a4⟩ := a
  have r_a1 : -2147483648 ≤ a1 ∧ a1 ≤ 2147483647 := hv (0, a1) (List.mem_of_getElem? (i := 1) rfl)
  have r_a2 : -2147483648 ≤ a2 ∧ a2 ≤ 2147483647 := hv (0, a2) (List.mem_of_getElem? (i := 2) rfl)
  have r_a3 : -2147483648 ≤ a3 ∧ a3 ≤ 2147483647 := hv (0, a3) (List.mem_of_getElem? (i := 3) rfl)
  have r_a4 : -2147483648 ≤ a4 ∧ a4 ≤ 2147483647 := hv (0, a4) (List.mem_of_getElem? (i := 4) rfl)
  have hp0 : CI σ := hp
  have B := @bk_ X G Q 0 0 ad SHS_ RX10 cX10_fit 6 (some .int) flX10 plX10 knX10 [(540, 4, TR_ as_G_X10_readSights (rmI_) pre_G_X10_readSights post_G_X10_readSights)] _ _ none kX10_fit [] flX10_ok plX10_ok knX10_ok eX10_fit oX10_fit
    (List.forall_mem_cons.mpr ⟨cok_v (t := 0) (c := 10) (N := 14) (n := 3) (idx := 270) E (ct_G_X10_readSights X.2.1) (by rw [hR]; decide) (Nat.zero_le _) (Nat.zero_le _) hG rfl rfl ⟨rfl, by decide, by decide, by decide⟩ (fun _ => ⟨_, _, rfl, rfl⟩) wl_X10_270 wi_X10_readSights ws_X10_readSights wn_X10 wc_X10_readSights, fun _ h => absurd h List.not_mem_nil⟩) R sok_no E
  show WP_ X G Q 0 0 ad SHS_ σ 0 [(10, 0), (0, a1), (0, a2), (0, a3), (0, a4), (9, 0)] []
  refine B rfl ?_
  refine Exists.intro (a1, a2, a3) (And.intro rfl (And.intro hp0 ?_))
  intro z1 σ3 h2
  have f4 : ∀ k j : Int, ¬ ((30 ≤ k ∧ k ≤ 33) ∨ k = 39 ∨ k = 40) → σ3 k j = σ k j := h2.2
  have h5 : CI σ3 := h2.1
  refine And.intro (fun h6 => ?_) (fun h6 => ?_)
  · skip
    refine B rfl ?_
    refine And.intro (fun h7 => ?_) (fun h7 => ?_)
    · skip
      refine B rfl ?_
      refine B rfl ?_
      refine Exists.intro _ (And.intro rfl ?_)
      exact (And.intro h5 (fun k j hk => (f4 _ _ (by omega))))
    · skip
      intro z8 ez8 hz8
      have hz8 : (0 : Int) ≤ z8 ∧ z8 ≤ (2000 : Int) := hz8
      try have t9 : σ3 39 1 = σ 39 1 := (f4 _ _ (by omega))
      refine And.intro (fun h10 => ?_) (fun h10 => ?_)
      · skip
        refine B rfl ?_
        refine And.intro (by omega) ?_
        intro z11 ez11 hz11
        have hz11 : (0 : Int) ≤ z11 ∧ z11 ≤ (1999 : Int) := hz11
        try have t12 : σ3 40 a4 = σ 40 a4 := (f4 _ _ (by omega))
        refine Exists.intro _ (And.intro rfl ?_)
        exact (And.intro h5 (fun k j hk => (f4 _ _ (by omega))))
      · skip
        refine B rfl ?_
        refine Exists.intro _ (And.intro rfl ?_)
        exact (And.intro h5 (fun k j hk => (f4 _ _ (by omega))))
  · skip
    refine Exists.intro _ (And.intro rfl ?_)
    exact (And.intro h5 (fun k j hk => (f4 _ _ (by omega))))
def as_G_X10_sure : Int × Int × Int × Int → List Sv_t := fun a => [(10, 0), (0, a.1), (0, a.2.1), (0, a.2.2.1), (0, a.2.2.2)]
def pre_G_X10_sure : Int × Int × Int × Int → Me_t → Prop := fun a σ => (CI σ)
def post_G_X10_sure : Int × Int × Int × Int → Me_t → Int → Me_t → Prop := fun a σ z σ' => (CI σ') ∧ (∀ k j : Int, ¬ (k ≤ 27 ∨ (29 ≤ k ∧ k ≤ 77)) → σ' k j = σ k j)
set_option maxHeartbeats 1500000 in
set_option maxRecDepth 100000 in
theorem ct_G_X10_sure (l : Launch) : CT_ l yX10_sure cX10_sure 6 (some .int) 6 147 as_G_X10_sure (rmI_) pre_G_X10_sure post_G_X10_sure := by
  refine ct_of (by decide) (fun _ => Nat.le_of_ble_eq_true rfl) ?_
  intro X G Q ad σ a hl hR E hG R hM hv hp
  obtain ⟨a1, a2, a3, a4⟩ := a
  have r_a1 : -2147483648 ≤ a1 ∧ a1 ≤ 2147483647 := hv (0, a1) (List.mem_of_getElem? (i := 1) rfl)
  have r_a2 : -2147483648 ≤ a2 ∧ a2 ≤ 2147483647 := hv (0, a2) (List.mem_of_getElem? (i := 2) rfl)
  have r_a3 : -2147483648 ≤ a3 ∧ a3 ≤ 2147483647 := hv (0, a3) (List.mem_of_getElem? (i := 3) rfl)
  have r_a4 : -2147483648 ≤ a4 ∧ a4 ≤ 2147483647 := hv (0, a4) (List.mem_of_getElem? (i := 4) rfl)
  have hp0 : CI σ := hp
  have B := @bk_ X G Q 0 0 ad SHS_ RX10 cX10_sure 6 (some .int) flX10 plX10 knX10 [(540, 4, TR_ as_G_X10_readSights (rmI_) pre_G_X10_readSights post_G_X10_readSights), (342, 1, TR_ as_G_X10_told (rmR_ 25) pre_G_X10_told post_G_X10_told), (560, 2, TR_ as_G_X6_fightersOnSome (rmI_) pre_G_X6_fightersOnSome post_G_X6_fightersOnSome), (554, 2, TR_ as_G_X6_fightersOnAll (rmI_) pre_G_X6_fightersOnAll post_G_X6_fightersOnAll)] _ _ none kX10_sure [] flX10_ok plX10_ok knX10_ok eX10_sure oX10_sure
    (List.forall_mem_cons.mpr ⟨cok_v (t := 0) (c := 10) (N := 14) (n := 3) (idx := 270) E (ct_G_X10_readSights X.2.1) (by rw [hR]; decide) (Nat.zero_le _) (Nat.zero_le _) hG rfl rfl ⟨rfl, by decide, by decide, by decide⟩ (fun _ => ⟨_, _, rfl, rfl⟩) wl_X10_270 wi_X10_readSights ws_X10_readSights wn_X10 wc_X10_readSights, List.forall_mem_cons.mpr ⟨cok_v (t := 0) (c := 10) (N := 14) (n := 0) (idx := 171) E (ct_G_X10_told X.2.1) (by rw [hR]; decide) (Nat.zero_le _) (Nat.zero_le _) hG rfl rfl ⟨rfl, by decide, by decide, by decide⟩ (fun _ => ⟨_, _, rfl, rfl⟩) wl_X10_171 wi_X10_told ws_X10_told wn_X10 wc_X10_told, List.forall_mem_cons.mpr ⟨cok_v (t := 24) (c := 6) (N := 5) (n := 1) (idx := 280) E (ct_G_X6_fightersOnSome X.2.1) (by rw [hR]; decide) (Nat.zero_le _) (Nat.zero_le _) hG rfl rfl ⟨rfl, by decide, by decide, by decide⟩ (fun _ => ⟨_, _, rfl, rfl⟩) wl_X10_280 wi_X6_fightersOnSome ws_X6_fightersOnSome wn_X6 wc_X6_fightersOnSome, List.forall_mem_cons.mpr ⟨cok_v (t := 24) (c := 6) (N := 5) (n := 1) (idx := 277) E (ct_G_X6_fightersOnAll X.2.1) (by rw [hR]; decide) (Nat.zero_le _) (Nat.zero_le _) hG rfl rfl ⟨rfl, by decide, by decide, by decide⟩ (fun _ => ⟨_, _, rfl, rfl⟩) wl_X10_277 wi_X6_fightersOnAll ws_X6_fightersOnAll wn_X6 wc_X6_fightersOnAll, fun _ h => absurd h List.not_mem_nil⟩⟩⟩⟩) R sok_no E
  show WP_ X G Q 0 0 ad SHS_ σ 0 [(10, 0), (0, a1), (0, a2), (0, a3), (0, a4), (9, 0)] []
  refine B rfl ?_
  refine And.intro (fun h1 => ?_) (fun h1 => ?_)
  · skip
    refine B rfl ?_
    refine Exists.intro _ (And.intro rfl ?_)
    exact (And.intro hp0 (fun k j hk => rfl))
  · skip
    refine And.intro (fun h2 => ?_) (fun h2 => ?_)
    · skip
      refine B rfl ?_
      refine Exists.intro (a1, a2, a3) (And.intro rfl (And.intro hp0 ?_))
      intro z3 σ5 h4
      have f6 : ∀ k j : Int, ¬ ((30 ≤ k ∧ k ≤ 33) ∨ k = 39 ∨ k = 40) → σ5 k j = σ k j := h4.2
      have h7 : CI σ5 := h4.1
      refine And.intro (fun h8 => ?_) (fun h8 => ?_)
      · skip
        refine B rfl ?_
        refine And.intro (fun h9 => ?_) (fun h9 => ?_)
        · skip
          refine B rfl ?_
          refine Exists.intro () (And.intro rfl (And.intro h7 ?_))
          intro z10 σ12 h11
          have f13 : ∀ k j : Int, ¬ (30 ≤ k ∧ k ≤ 33) → σ12 k j = σ5 k j := h11.2.2
          have h14 : CI σ12 := h11.1
          have h15 : z10 = 30 := h11.2.1
          obtain rfl : z10 = 30 := by omega
          refine Exists.intro () (And.intro rfl (And.intro True.intro ?_))
          rintro z16 m_ h17
          obtain rfl : σ12 = m_ := h17
          refine Exists.intro _ (And.intro rfl ?_)
          exact (And.intro h14 (fun k j hk => ((f13 _ _ (by omega)).trans (f6 _ _ (by omega)))))
        · skip
          refine Exists.intro () (And.intro rfl (And.intro h7 ?_))
          intro z18 σ20 h19
          have f21 : ∀ k j : Int, ¬ (30 ≤ k ∧ k ≤ 33) → σ20 k j = σ5 k j := h19.2.2
          have h22 : CI σ20 := h19.1
          have h23 : z18 = 30 := h19.2.1
          obtain rfl : z18 = 30 := by omega
          refine Exists.intro () (And.intro rfl (And.intro True.intro ?_))
          rintro z24 m_ h25
          obtain rfl : σ20 = m_ := h25
          refine B rfl ?_
          refine Exists.intro _ (And.intro rfl ?_)
          exact (And.intro h22 (fun k j hk => ((f21 _ _ (by omega)).trans (f6 _ _ (by omega)))))
      · skip
        refine Exists.intro _ (And.intro rfl ?_)
        exact (And.intro h7 (fun k j hk => (f6 _ _ (by omega))))
    · skip
      refine Exists.intro _ (And.intro rfl ?_)
      exact (And.intro hp0 (fun k j hk => rfl))
def as_G_X10_idle : Int → List Sv_t := fun a => [(10, 0), (0, a)]
def pre_G_X10_idle : Int → Me_t → Prop := fun a σ => (CI σ)
def post_G_X10_idle : Int → Me_t → Int → Me_t → Prop := fun a σ z σ' => (CI σ') ∧ (∀ k j : Int, ¬ (k ≤ 27 ∨ (29 ≤ k ∧ k ≤ 77)) → σ' k j = σ k j)
set_option maxHeartbeats 1500000 in
set_option maxRecDepth 100000 in
theorem ct_G_X10_idle (l : Launch) : CT_ l yX10_idle cX10_idle 3 (some .int) 6 143 as_G_X10_idle (rmI_) pre_G_X10_idle post_G_X10_idle := by
  refine ct_of (by decide) (fun _ => Nat.le_of_ble_eq_true rfl) ?_
  intro X G Q ad σ a hl hR E hG R hM hv hp
  obtain ⟨a1, rfl⟩ : ∃ q : Int, q = a := ⟨_, rfl⟩
  have r_a1 : -2147483648 ≤ a1 ∧ a1 ≤ 2147483647 := hv (0, a1) (List.mem_of_getElem? (i := 1) rfl)
  have hp0 : CI σ := hp
  have B := @bk_ X G Q 0 0 ad SHS_ RX10 cX10_idle 3 (some .int) flX10 plX10 knX10 [(504, 2, TR_ as_G_X10_readOrders (rmI_) pre_G_X10_readOrders post_G_X10_readOrders), (342, 1, TR_ as_G_X10_told (rmR_ 25) pre_G_X10_told post_G_X10_told), (532, 2, TR_ as_G_X2_datedAtRest (rmI_) pre_G_X2_datedAtRest post_G_X2_datedAtRest)] _ _ none kX10_idle [] flX10_ok plX10_ok knX10_ok eX10_idle oX10_idle
    (List.forall_mem_cons.mpr ⟨cok_v (t := 0) (c := 10) (N := 14) (n := 1) (idx := 252) E (ct_G_X10_readOrders X.2.1) (by rw [hR]; decide) (Nat.zero_le _) (Nat.zero_le _) hG rfl rfl ⟨rfl, by decide, by decide, by decide⟩ (fun _ => ⟨_, _, rfl, rfl⟩) wl_X10_252 wi_X10_readOrders ws_X10_readOrders wn_X10 wc_X10_readOrders, List.forall_mem_cons.mpr ⟨cok_v (t := 0) (c := 10) (N := 14) (n := 0) (idx := 171) E (ct_G_X10_told X.2.1) (by rw [hR]; decide) (Nat.zero_le _) (Nat.zero_le _) hG rfl rfl ⟨rfl, by decide, by decide, by decide⟩ (fun _ => ⟨_, _, rfl, rfl⟩) wl_X10_171 wi_X10_told ws_X10_told wn_X10 wc_X10_told, List.forall_mem_cons.mpr ⟨cok_v (t := 21) (c := 2) (N := 3) (n := 1) (idx := 266) E (ct_G_X2_datedAtRest X.2.1) (by rw [hR]; decide) (Nat.zero_le _) (Nat.zero_le _) hG rfl rfl ⟨rfl, by decide, by decide, by decide⟩ (fun _ => ⟨_, _, rfl, rfl⟩) wl_X10_266 wi_X2_datedAtRest ws_X2_datedAtRest wn_X2 wc_X2_datedAtRest, fun _ h => absurd h List.not_mem_nil⟩⟩⟩) R sok_no E
  show WP_ X G Q 0 0 ad SHS_ σ 0 [(10, 0), (0, a1), (9, 0)] []
  refine B rfl ?_
  refine Exists.intro a1 (And.intro rfl (And.intro hp0 ?_))
  intro z1 σ3 h2
  have f4 : ∀ k j : Int, ¬ (36 ≤ k ∧ k ≤ 38) → σ3 k j = σ k j := h2.2.2
  have h5 : CI σ3 := h2.1
  have h6 : z1 < 0 ∨ ∀ j : Int, 0 ≤ j → j < σ3 36 2 → 0 ≤ σ3 38 j := h2.2.1
  have hro := h2.2.1
  try dsimp only at hro
  refine And.intro (fun h7 => ?_) (fun h7 => ?_)
  · skip
    refine B rfl ?_
    refine Exists.intro () (And.intro rfl (And.intro h5 ?_))
    intro z8 σ10 h9
    have f11 : ∀ k j : Int, ¬ (30 ≤ k ∧ k ≤ 33) → σ10 k j = σ3 k j := h9.2.2
    have h12 : CI σ10 := h9.1
    have h13 : z8 = 30 := h9.2.1
    obtain rfl : z8 = 30 := by omega
    have p14 : DT σ10 := (h12).2.2.2
    try have t15 : σ10 36 2 = σ 36 2 := ((f11 _ _ (by omega)).trans (f4 _ _ (by omega)))
    refine Exists.intro () (And.intro rfl (And.intro (And.intro p14 (by show ∀ j : Int, 0 ≤ j → j < σ10 36 2 → 0 ≤ σ10 38 j; rcases hro with h | h; omega; intro j h1 h2; rw [show σ10 38 j = σ3 38 j from (f11 _ _ (by omega))]; rw [show σ10 36 2 = σ3 36 2 from (f11 _ _ (by omega))] at h2; exact h j h1 h2)) ?_))
    rintro z16 m_ h17
    obtain rfl : σ10 = m_ := h17
    refine Exists.intro _ (And.intro rfl ?_)
    exact (And.intro h12 (fun k j hk => ((f11 _ _ (by omega)).trans (f4 _ _ (by omega)))))
  · skip
    refine B rfl ?_
    refine Exists.intro _ (And.intro rfl ?_)
    exact (And.intro h5 (fun k j hk => (f4 _ _ (by omega))))
def as_G_X10_overlap : Int × Int → List Sv_t := fun a => [(10, 0), (0, a.1), (0, a.2)]
def pre_G_X10_overlap : Int × Int → Me_t → Prop := fun a σ => (CI σ)
def post_G_X10_overlap : Int × Int → Me_t → Int → Me_t → Prop := fun a σ z σ' => (CI σ') ∧ (∀ k j : Int, ¬ (k ≤ 27 ∨ (29 ≤ k ∧ k ≤ 77)) → σ' k j = σ k j)
set_option maxHeartbeats 1500000 in
set_option maxRecDepth 100000 in
theorem ct_G_X10_overlap (l : Launch) : CT_ l yX10_overlap cX10_overlap 4 (some .int) 2 41 as_G_X10_overlap (rmI_) pre_G_X10_overlap post_G_X10_overlap := by
  refine ct_of (by decide) (fun _ => Nat.le_of_ble_eq_true rfl) ?_
  intro X G Q ad σ a hl hR E hG R hM hv hp
  obtain ⟨a1, a2⟩ := a
  have r_a1 : -2147483648 ≤ a1 ∧ a1 ≤ 2147483647 := hv (0, a1) (List.mem_of_getElem? (i := 1) rfl)
  have r_a2 : -2147483648 ≤ a2 ∧ a2 ≤ 2147483647 := hv (0, a2) (List.mem_of_getElem? (i := 2) rfl)
  have hp0 : CI σ := hp
  have B := @bk_ X G Q 0 0 ad SHS_ RX10 cX10_overlap 4 (some .int) flX10 plX10 knX10 [(372, 2, TR_ as_G_X10_isDayOfWar (rmI_) pre_G_X10_isDayOfWar post_G_X10_isDayOfWar), (586, 2, TR_ as_G_X9_trucesOn (rmI_) pre_G_X9_trucesOn post_G_X9_trucesOn)] _ _ none kX10_overlap [31] flX10_ok plX10_ok knX10_ok eX10_overlap oX10_overlap
    (List.forall_mem_cons.mpr ⟨cok_v (t := 0) (c := 10) (N := 14) (n := 1) (idx := 186) E (ct_G_X10_isDayOfWar X.2.1) (by rw [hR]; decide) (Nat.zero_le _) (Nat.zero_le _) hG rfl rfl ⟨rfl, by decide, by decide, by decide⟩ (fun _ => ⟨_, _, rfl, rfl⟩) wl_X10_186 wi_X10_isDayOfWar ws_X10_isDayOfWar wn_X10 wc_X10_isDayOfWar, List.forall_mem_cons.mpr ⟨cok_v (t := 5) (c := 9) (N := 10) (n := 1) (idx := 293) E (ct_G_X9_trucesOn X.2.1) (by rw [hR]; decide) (Nat.zero_le _) (Nat.zero_le _) hG rfl rfl ⟨rfl, by decide, by decide, by decide⟩ (fun _ => ⟨_, _, rfl, rfl⟩) wl_X10_293 wi_X9_trucesOn ws_X9_trucesOn wn_X9 wc_X9_trucesOn, fun _ h => absurd h List.not_mem_nil⟩⟩) R sok_no E
  show WP_ X G Q 0 0 ad SHS_ σ 0 [(10, 0), (0, a1), (0, a2), (9, 0)] []
  refine B rfl ?_
  refine And.intro (fun h1 => ?_) (fun h1 => ?_)
  · skip
    refine B rfl ?_
    refine Exists.intro _ (And.intro rfl ?_)
    exact (And.intro hp0 (fun k j hk => rfl))
  · skip
    refine Exists.intro a2 (And.intro rfl (And.intro True.intro ?_))
    rintro z2 m_ h3
    obtain rfl : σ = m_ := h3.2
    have h4 : (z2 = 1 ∧ 0 ≤ a2 ∧ a2 ≤ 1999) ∨ z2 = 0 := h3.1
    refine And.intro (fun h5 => ?_) (fun h5 => ?_)
    · skip
      refine B rfl ?_
      intro z6 ez6 hz6
      have cz6 : z6 = 5 ∨ z6 = 16 := by have := (hp0).1; omega
      have lz6 : LG σ z6 := by rw [ez6]; exact (hp0).2.1.1
      have uz6 : UW σ z6 := by rw [ez6]; exact (hp0).2.1.2
      intro z7 ez7 hz7
      have hz7 : (0 : Int) ≤ z7 ∧ z7 ≤ (12 : Int) := hz7
      refine And.intro (fun h8 => ?_) (fun h8 => ?_)
      · skip
        refine B rfl ?_
        show WP_ X G Q 0 0 ad SHS_ σ 31 [(10, 0), (0, a1), (0, a2), (0, a2)] []
        refine wdrop_ (L' := [(10, 0), (0, a1), (9, 0), (0, a2)]) ⟨Or.inr rfl, ⟨Or.inr rfl, ⟨Or.inl rfl, ⟨Or.inr rfl, trivial⟩⟩⟩⟩ ?_
        have lp_31 : ∀ (nq_ : Nat) (v3 : Int), (a2 ≤ v3) → (v3 ≤ 2000) → (2000 - v3 : Int).toNat < nq_ → WP_ X G Q 0 0 ad SHS_ σ 31 [(10, 0), (0, a1), (9, 0), (0, v3)] [] := by
          intro nq_
          induction nq_ with
          | zero => intros; omega
          | succ nq_ ih_31 =>
            intro v3 hi31_0 hi31_1 hm31
            refine B rfl ?_
            refine And.intro (fun h9 => ?_) (fun h9 => ?_)
            · skip
              refine B rfl ?_
              refine Exists.intro _ (And.intro rfl ?_)
              exact (And.intro hp0 (fun k j hk => rfl))
            · skip
              intro z10 ez10 hz10
              have q11 : z6 = z10 := ez6.trans ez10.symm
              subst q11
              refine Exists.intro (z6, v3) (And.intro rfl (And.intro True.intro ?_))
              rintro z12 m_ h13
              obtain rfl : σ = m_ := h13.2
              have h14 : 0 ≤ z12 ∧ z12 ≤ 12 := h13.1
              refine And.intro (fun h15 => ?_) (fun h15 => ?_)
              · skip
                refine B rfl ?_
                refine And.intro (by omega) ?_
                exact ih_31 (v3 + 1) (by show a2 ≤ (v3 + 1); omega) (by show (v3 + 1) ≤ 2000; omega) (by omega)
              · skip
                refine Exists.intro _ (And.intro rfl ?_)
                exact (And.intro hp0 (fun k j hk => rfl))
        exact lp_31 ((2000 - a2 : Int).toNat + 1) a2 (by show a2 ≤ a2; omega) (by show a2 ≤ 2000; omega) (by omega)
      · skip
        refine Exists.intro _ (And.intro rfl ?_)
        exact (And.intro hp0 (fun k j hk => rfl))
    · skip
      refine Exists.intro _ (And.intro rfl ?_)
      exact (And.intro hp0 (fun k j hk => rfl))
def as_G_X10_most : Unit → List Sv_t := fun a => [(10, 0)]
def pre_G_X10_most : Unit → Me_t → Prop := fun a σ => (CI σ)
def post_G_X10_most : Unit → Me_t → Int → Me_t → Prop := fun a σ z σ' => (CI σ') ∧ (∀ k j : Int, ¬ (k ≤ 27 ∨ (29 ≤ k ∧ k ≤ 77)) → σ' k j = σ k j)
set_option maxHeartbeats 1500000 in
set_option maxRecDepth 100000 in
theorem ct_G_X10_most (l : Launch) : CT_ l yX10_most cX10_most 4 (some .int) 1 24 as_G_X10_most (rmI_) pre_G_X10_most post_G_X10_most := by
  refine ct_of (by decide) (fun _ => Nat.le_of_ble_eq_true rfl) ?_
  intro X G Q ad σ a hl hR E hG R hM hv hp
  have hp0 : CI σ := hp
  have B := @bk_ X G Q 0 0 ad SHS_ RX10 cX10_most 4 (some .int) flX10 plX10 knX10 [(586, 2, TR_ as_G_X9_trucesOn (rmI_) pre_G_X9_trucesOn post_G_X9_trucesOn), (593, 2, TMAX_)] _ _ none kX10_most [17] flX10_ok plX10_ok knX10_ok eX10_most oX10_most
    (List.forall_mem_cons.mpr ⟨cok_v (t := 5) (c := 9) (N := 10) (n := 1) (idx := 293) E (ct_G_X9_trucesOn X.2.1) (by rw [hR]; decide) (Nat.zero_le _) (Nat.zero_le _) hG rfl rfl ⟨rfl, by decide, by decide, by decide⟩ (fun _ => ⟨_, _, rfl, rfl⟩) wl_X10_293 wi_X9_trucesOn ws_X9_trucesOn wn_X9 wc_X9_trucesOn, List.forall_mem_cons.mpr ⟨cok_max (idx := 296) E (by rw [hR]; decide) (Nat.zero_le _) (Nat.zero_le _) wl_X10_296, fun _ h => absurd h List.not_mem_nil⟩⟩) R sok_no E
  show WP_ X G Q 0 0 ad SHS_ σ 0 [(10, 0), (9, 0), (9, 0), (9, 0)] []
  refine B rfl ?_
  intro z1 ez1 hz1
  have cz1 : z1 = 5 ∨ z1 = 16 := by have := (hp0).1; omega
  have lz1 : LG σ z1 := by rw [ez1]; exact (hp0).2.1.1
  have uz1 : UW σ z1 := by rw [ez1]; exact (hp0).2.1.2
  intro z2 ez2 hz2
  have hz2 : (0 : Int) ≤ z2 ∧ z2 ≤ (1201 : Int) := hz2
  refine And.intro (fun h3 => ?_) (fun h3 => ?_)
  · skip
    refine B rfl ?_
    have lp_17 : ∀ (nq_ : Nat) (v1 : Int) (v2 : Int), (0 ≤ v2) → (v2 ≤ 12) → (0 ≤ v1) → (v1 ≤ 12) → (12 - v2 : Int).toNat < nq_ → WP_ X G Q 0 0 ad SHS_ σ 17 [(10, 0), (0, v1), (0, v2), (9, 0)] [] := by
      intro nq_
      induction nq_ with
      | zero => intros; omega
      | succ nq_ ih_17 =>
        intro v1 v2 hi17_0 hi17_1 hi17_2 hi17_3 hm17
        refine B rfl ?_
        intro z4 ez4 hz4
        have q5 : z1 = z4 := ez1.trans ez4.symm
        subst q5
        intro z6 ez6 hz6
        have hz6 : (0 : Int) ≤ z6 ∧ z6 ≤ (12 : Int) := hz6
        refine And.intro (fun h7 => ?_) (fun h7 => ?_)
        · skip
          refine B rfl ?_
          refine Exists.intro _ (And.intro rfl ?_)
          exact (And.intro hp0 (fun k j hk => rfl))
        · skip
          intro z8 ez8 hz8
          have q9 : z1 = z8 := ez1.trans ez8.symm
          subst q9
          refine And.intro (by omega) ?_
          refine And.intro (by omega) ?_
          refine And.intro (by omega) ?_
          intro z10 ez10 hz10
          have hz10 : (0 : Int) ≤ z10 ∧ z10 ≤ (1999 : Int) := hz10
          intro z11 ez11 hz11
          have q12 : z1 = z11 := ez1.trans ez11.symm
          subst q12
          refine Exists.intro (z1, z10) (And.intro rfl (And.intro True.intro ?_))
          rintro z13 m_ h14
          obtain rfl : σ = m_ := h14.2
          have h15 : 0 ≤ z13 ∧ z13 ≤ 12 := h14.1
          refine Exists.intro v1 (Exists.intro z13 (And.intro rfl ?_))
          intro z16 hz16
          refine And.intro (by omega) ?_
          show WP_ X G Q 0 0 ad SHS_ σ 17 [(10, 0), (0, z16), (0, v2 + 1), (0, z10)] []
          refine wdrop_ (L' := [(10, 0), (0, z16), (0, v2 + 1), (9, 0)]) ⟨Or.inr rfl, ⟨Or.inr rfl, ⟨Or.inr rfl, ⟨Or.inl rfl, trivial⟩⟩⟩⟩ ?_
          exact ih_17 z16 (v2 + 1) (by show 0 ≤ (v2 + 1); omega) (by show (v2 + 1) ≤ 12; omega) (by show 0 ≤ z16; omega) (by show z16 ≤ 12; omega) (by omega)
    exact lp_17 ((12 - 0 : Int).toNat + 1) 0 0 (by show 0 ≤ 0; omega) (by show 0 ≤ 12; omega) (by show 0 ≤ 0; omega) (by show 0 ≤ 12; omega) (by omega)
  · skip
    refine Exists.intro _ (And.intro rfl ?_)
    exact (And.intro hp0 (fun k j hk => rfl))
def as_G_X10_march : Int × Int × Int → List Sv_t := fun a => [(10, 0), (0, a.1), (0, a.2.1), (0, a.2.2)]
def pre_G_X10_march : Int × Int × Int → Me_t → Prop := fun a σ => (CI σ)
def post_G_X10_march : Int × Int × Int → Me_t → Int → Me_t → Prop := fun a σ z σ' => (CI σ') ∧ (∀ k j : Int, ¬ (k ≤ 27 ∨ (29 ≤ k ∧ k ≤ 77)) → σ' k j = σ k j)
set_option maxHeartbeats 1500000 in
set_option maxRecDepth 100000 in
theorem ct_G_X10_march (l : Launch) : CT_ l yX10_march cX10_march 7 (some .int) 6 143 as_G_X10_march (rmI_) pre_G_X10_march post_G_X10_march := by
  refine ct_of (by decide) (fun _ => Nat.le_of_ble_eq_true rfl) ?_
  intro X G Q ad σ a hl hR E hG R hM hv hp
  obtain ⟨a1, a2, a3⟩ := a
  have r_a1 : -2147483648 ≤ a1 ∧ a1 ≤ 2147483647 := hv (0, a1) (List.mem_of_getElem? (i := 1) rfl)
  have r_a2 : -2147483648 ≤ a2 ∧ a2 ≤ 2147483647 := hv (0, a2) (List.mem_of_getElem? (i := 2) rfl)
  have r_a3 : -2147483648 ≤ a3 ∧ a3 ≤ 2147483647 := hv (0, a3) (List.mem_of_getElem? (i := 3) rfl)
  have hp0 : CI σ := hp
  have B := @bk_ X G Q 0 0 ad SHS_ RX10 cX10_march 7 (some .int) flX10 plX10 knX10 [(336, 3, TR_ as_G_X10_isLandAndDay (rmI_) pre_G_X10_isLandAndDay post_G_X10_isLandAndDay), (342, 1, TR_ as_G_X10_told (rmR_ 25) pre_G_X10_told post_G_X10_told), (350, 4, TR_ as_G_X0_part (rmI_) pre_G_X0_part post_G_X0_part)] _ _ none kX10_march [29] flX10_ok plX10_ok knX10_ok eX10_march oX10_march
    (List.forall_mem_cons.mpr ⟨cok_v (t := 0) (c := 10) (N := 14) (n := 2) (idx := 168) E (ct_G_X10_isLandAndDay X.2.1) (by rw [hR]; decide) (Nat.zero_le _) (Nat.zero_le _) hG rfl rfl ⟨rfl, by decide, by decide, by decide⟩ (fun _ => ⟨_, _, rfl, rfl⟩) wl_X10_168 wi_X10_isLandAndDay ws_X10_isLandAndDay wn_X10 wc_X10_isLandAndDay, List.forall_mem_cons.mpr ⟨cok_v (t := 0) (c := 10) (N := 14) (n := 0) (idx := 171) E (ct_G_X10_told X.2.1) (by rw [hR]; decide) (Nat.zero_le _) (Nat.zero_le _) hG rfl rfl ⟨rfl, by decide, by decide, by decide⟩ (fun _ => ⟨_, _, rfl, rfl⟩) wl_X10_171 wi_X10_told ws_X10_told wn_X10 wc_X10_told, List.forall_mem_cons.mpr ⟨cok_v (t := 15) (c := 0) (N := 9) (n := 3) (idx := 175) E (ct_G_X0_part X.2.1) (by rw [hR]; decide) (Nat.zero_le _) (Nat.zero_le _) hG rfl rfl ⟨rfl, by decide, by decide, by decide⟩ (fun _ => ⟨_, _, rfl, rfl⟩) wl_X10_175 wi_X0_part ws_X0_part wn_X0 wc_X0_part, fun _ h => absurd h List.not_mem_nil⟩⟩⟩) R sok_no E
  show WP_ X G Q 0 0 ad SHS_ σ 0 [(10, 0), (0, a1), (0, a2), (0, a3), (9, 0), (9, 0), (9, 0)] []
  refine B rfl ?_
  refine Exists.intro (a1, a2) (And.intro rfl (And.intro True.intro ?_))
  rintro z1 m_ h2
  obtain rfl : σ = m_ := h2.2
  have h3 : (z1 = 1 ∧ 0 ≤ a1 ∧ a1 ≤ 2 ∧ 0 ≤ a2 ∧ a2 ≤ 1999) ∨ z1 = 0 := h2.1
  refine And.intro (fun h4 => ?_) (fun h4 => ?_)
  · skip
    refine B rfl ?_
    refine Exists.intro _ (And.intro rfl ?_)
    exact (And.intro hp0 (fun k j hk => rfl))
  · skip
    refine And.intro (fun h5 => ?_) (fun h5 => ?_)
    · skip
      refine B rfl ?_
      refine Exists.intro () (And.intro rfl (And.intro hp0 ?_))
      intro z6 σ8 h7
      have f9 : ∀ k j : Int, ¬ (30 ≤ k ∧ k ≤ 33) → σ8 k j = σ k j := h7.2.2
      have h10 : CI σ8 := h7.1
      have h11 : z6 = 30 := h7.2.1
      obtain rfl : z6 = 30 := by omega
      show WP_ X G Q 0 0 ad SHS_ σ8 29 [(10, 0), (0, a1), (0, a2), (0, a3), (25, 30), (0, 0), (0, a2)] []
      refine wdrop_ (L' := [(9, 0), (0, a1), (9, 0), (0, a3), (25, 30), (0, 0), (0, a2)]) ⟨Or.inl rfl, ⟨Or.inr rfl, ⟨Or.inl rfl, ⟨Or.inr rfl, ⟨Or.inr rfl, ⟨Or.inr rfl, ⟨Or.inr rfl, trivial⟩⟩⟩⟩⟩⟩⟩ ?_
      have lp_29 : ∀ (nq_ : Nat) (v5 : Int) (v6 : Int), (a2 ≤ v6) → (v6 ≤ 2000) → (0 ≤ v5) → (v5 ≤ v6 - a2) → (2000 - v6 : Int).toNat < nq_ → WP_ X G Q 0 0 ad SHS_ σ8 29 [(9, 0), (0, a1), (9, 0), (0, a3), (25, 30), (0, v5), (0, v6)] [] := by
        intro nq_
        induction nq_ with
        | zero => intros; omega
        | succ nq_ ih_29 =>
          intro v5 v6 hi29_0 hi29_1 hi29_2 hi29_3 hm29
          refine B rfl ?_
          refine And.intro (fun h12 => ?_) (fun h12 => ?_)
          · skip
            refine B rfl ?_
            refine Exists.intro _ (And.intro rfl ?_)
            exact (And.intro h10 (fun k j hk => (f9 _ _ (by omega))))
          · skip
            have p13 : DT σ8 := (h10).2.2.2
            refine Exists.intro (a1, v6, 4) (And.intro rfl (And.intro (And.intro p13 (And.intro (by show 0 ≤ v6; omega) (And.intro (by show v6 ≤ 1999; omega) (by show 4 = 4 ∨ (0 ≤ a1 ∧ a1 ≤ 2); omega)))) ?_))
            rintro z14 m_ h15
            obtain rfl : σ8 = m_ := h15.2.2.2.2
            have h16 : -1 ≤ z14 ∧ z14 ≤ 200000 := h15.1
            have h17 : (4 : Int) = 4 → 0 ≤ z14 ∧ z14 ≤ 1 := h15.2.1
            have h18 : (4 : Int) = 1 → z14 ≤ 7 := h15.2.2.1
            have h19 : (4 : Int) = 3 → z14 ≤ 10 := h15.2.2.2.1
            refine And.intro (by omega) ?_
            refine And.intro (fun h20 => ?_) (fun h20 => ?_)
            · skip
              refine B rfl ?_
              refine And.intro (by omega) ?_
              exact ih_29 (v5 + z14) (v6 + 1) (by show a2 ≤ (v6 + 1); omega) (by show (v6 + 1) ≤ 2000; omega) (by show 0 ≤ (v5 + z14); omega) (by show (v5 + z14) ≤ (v6 + 1) - a2; omega) (by omega)
            · skip
              refine Exists.intro _ (And.intro rfl ?_)
              exact (And.intro h10 (fun k j hk => (f9 _ _ (by omega))))
      exact lp_29 ((2000 - a2 : Int).toNat + 1) 0 a2 (by show a2 ≤ a2; omega) (by show a2 ≤ 2000; omega) (by show 0 ≤ 0; omega) (by show 0 ≤ a2 - a2; omega) (by omega)
    · skip
      refine Exists.intro _ (And.intro rfl ?_)
      exact (And.intro hp0 (fun k j hk => rfl))
def as_G_X10_drawn : Int × Int × Int × Int → List Sv_t := fun a => [(10, 0), (0, a.1), (0, a.2.1), (0, a.2.2.1), (0, a.2.2.2)]
def pre_G_X10_drawn : Int × Int × Int × Int → Me_t → Prop := fun a σ => (CI σ)
def post_G_X10_drawn : Int × Int × Int × Int → Me_t → Int → Me_t → Prop := fun a σ z σ' => (CI σ') ∧ (∀ k j : Int, ¬ (k ≤ 27 ∨ (29 ≤ k ∧ k ≤ 77)) → σ' k j = σ k j)
set_option maxHeartbeats 1500000 in
set_option maxRecDepth 100000 in
theorem ct_G_X10_drawn (l : Launch) : CT_ l yX10_drawn cX10_drawn 13 (some .int) 6 143 as_G_X10_drawn (rmI_) pre_G_X10_drawn post_G_X10_drawn := by
  refine ct_of (by decide) (fun _ => Nat.le_of_ble_eq_true rfl) ?_
  intro X G Q ad σ a hl hR E hG R hM hv hp
  obtain ⟨a1, a2, a3, a4⟩ := a
  have r_a1 : -2147483648 ≤ a1 ∧ a1 ≤ 2147483647 := hv (0, a1) (List.mem_of_getElem? (i := 1) rfl)
  have r_a2 : -2147483648 ≤ a2 ∧ a2 ≤ 2147483647 := hv (0, a2) (List.mem_of_getElem? (i := 2) rfl)
  have r_a3 : -2147483648 ≤ a3 ∧ a3 ≤ 2147483647 := hv (0, a3) (List.mem_of_getElem? (i := 3) rfl)
  have r_a4 : -2147483648 ≤ a4 ∧ a4 ≤ 2147483647 := hv (0, a4) (List.mem_of_getElem? (i := 4) rfl)
  have hp0 : CI σ := hp
  have B := @bk_ X G Q 0 0 ad SHS_ RX10 cX10_drawn 13 (some .int) flX10 plX10 knX10 [(747, 3, TR_ as_G_X10_isRain (rmI_) pre_G_X10_isRain post_G_X10_isRain), (342, 1, TR_ as_G_X10_told (rmR_ 25) pre_G_X10_told post_G_X10_told), (753, 1, TR_ as_G_X10_nextDraw (rmL_) pre_G_X10_nextDraw post_G_X10_nextDraw), (767, 2, TR_ as_G_X10_isWet (rmI_) pre_G_X10_isWet post_G_X10_isWet), (394, 3, TR_ as_G_X0_allFight (rmI_) pre_G_X0_allFight post_G_X0_allFight), (653, 2, TMIN_)] _ _ none kX10_drawn [10, 19, 24, 30, 73, 80, 106, 111, 119, 131] flX10_ok plX10_ok knX10_ok eX10_drawn oX10_drawn
    (List.forall_mem_cons.mpr ⟨cok_s (n := 3) (idx := 373) E (ct_G_X10_isRain X.2.1) (by rw [hR]; decide) (Nat.zero_le _) (Nat.zero_le _) hG ⟨by decide, by decide, by decide⟩ (fun _ => rfl) wl_X10_373 wt_X10_isRain wn_X10 wc_X10_isRain, List.forall_mem_cons.mpr ⟨cok_v (t := 0) (c := 10) (N := 14) (n := 0) (idx := 171) E (ct_G_X10_told X.2.1) (by rw [hR]; decide) (Nat.zero_le _) (Nat.zero_le _) hG rfl rfl ⟨rfl, by decide, by decide, by decide⟩ (fun _ => ⟨_, _, rfl, rfl⟩) wl_X10_171 wi_X10_told ws_X10_told wn_X10 wc_X10_told, List.forall_mem_cons.mpr ⟨cok_s (n := 1) (idx := 376) E (ct_G_X10_nextDraw X.2.1) (by rw [hR]; decide) (Nat.zero_le _) (Nat.zero_le _) hG ⟨by decide, by decide, by decide⟩ (fun _ => rfl) wl_X10_376 wt_X10_nextDraw wn_X10 wc_X10_nextDraw, List.forall_mem_cons.mpr ⟨cok_s (n := 2) (idx := 383) E (ct_G_X10_isWet X.2.1) (by rw [hR]; decide) (Nat.zero_le _) (Nat.zero_le _) hG ⟨by decide, by decide, by decide⟩ (fun _ => rfl) wl_X10_383 wt_X10_isWet wn_X10 wc_X10_isWet, List.forall_mem_cons.mpr ⟨cok_v (t := 15) (c := 0) (N := 9) (n := 2) (idx := 197) E (ct_G_X0_allFight X.2.1) (by rw [hR]; decide) (Nat.zero_le _) (Nat.zero_le _) hG rfl rfl ⟨rfl, by decide, by decide, by decide⟩ (fun _ => ⟨_, _, rfl, rfl⟩) wl_X10_197 wi_X0_allFight ws_X0_allFight wn_X0 wc_X0_allFight, List.forall_mem_cons.mpr ⟨cok_min (idx := 326) E (by rw [hR]; decide) (Nat.zero_le _) (Nat.zero_le _) wl_X10_326, fun _ h => absurd h List.not_mem_nil⟩⟩⟩⟩⟩⟩) R sok_no E
  show WP_ X G Q 0 0 ad SHS_ σ 0 [(10, 0), (0, a1), (0, a2), (0, a3), (0, a4), (9, 0), (9, 0), (9, 0), (9, 0), (9, 0), (9, 0), (9, 0), (9, 0)] []
  refine B rfl ?_
  intro z1 ez1 hz1
  have cz1 : z1 = 5 ∨ z1 = 16 := by have := (hp0).1; omega
  have lz1 : LG σ z1 := by rw [ez1]; exact (hp0).2.1.1
  have uz1 : UW σ z1 := by rw [ez1]; exact (hp0).2.1.2
  intro z2 ez2 hz2
  have hz2 : (0 : Int) ≤ z2 ∧ z2 ≤ (1201 : Int) := hz2
  refine And.intro (fun h3 => ?_) (fun h3 => ?_)
  · skip
    refine B rfl ?_
    refine Exists.intro _ (And.intro rfl ?_)
    exact (And.intro hp0 (fun k j hk => rfl))
  · skip
    show WP_ X G Q 0 0 ad SHS_ σ 10 [(10, 0), (0, a1), (0, a2), (0, a3), (0, a4), (9, 0), (9, 0), (9, 0), (9, 0), (9, 0), (9, 0), (9, 0), (9, 0)] []
    refine B rfl ?_
    refine Exists.intro (a1, a2, a3) (And.intro rfl (And.intro True.intro ?_))
    rintro z4 m_ h5
    obtain rfl : σ = m_ := h5.2
    have h6 : (z4 = 1 ∧ 0 ≤ a1 ∧ a1 ≤ 2000000000 ∧ 0 ≤ a2 ∧ a2 ≤ 1999 ∧ 1 ≤ a3 ∧ a3 ≤ 100) ∨ z4 = 0 := h5.1
    refine And.intro (fun h7 => ?_) (fun h7 => ?_)
    · skip
      refine B rfl ?_
      refine Exists.intro _ (And.intro rfl ?_)
      exact (And.intro hp0 (fun k j hk => rfl))
    · skip
      show WP_ X G Q 0 0 ad SHS_ σ 19 [(10, 0), (0, a1), (0, a2), (0, a3), (0, a4), (9, 0), (9, 0), (9, 0), (9, 0), (9, 0), (9, 0), (9, 0), (9, 0)] []
      refine B rfl ?_
      refine And.intro (fun h8 => ?_) (fun h8 => ?_)
      · skip
        refine B rfl ?_
        refine Exists.intro _ (And.intro rfl ?_)
        exact (And.intro hp0 (fun k j hk => rfl))
      · skip
        show WP_ X G Q 0 0 ad SHS_ σ 24 [(10, 0), (0, a1), (0, a2), (0, a3), (0, a4), (9, 0), (9, 0), (9, 0), (9, 0), (9, 0), (9, 0), (9, 0), (9, 0)] []
        refine B rfl ?_
        refine And.intro (fun h9 => ?_) (fun h9 => ?_)
        · skip
          refine B rfl ?_
          intro z10 ez10 hz10
          have q11 : z1 = z10 := ez1.trans ez10.symm
          subst q11
          intro z12 ez12 hz12
          have hz12 : (0 : Int) ≤ z12 ∧ z12 ≤ (3 : Int) := hz12
          try have q13 := shl3_1 (b := z12) (by omega) (by omega)
          try have q14 := shl3_b (b := z12) (by omega) (by omega)
          refine And.intro (by omega) ?_
          refine And.intro (by omega) ?_
          refine Exists.intro 2000 (Exists.intro (a2 + a3) (And.intro rfl ?_))
          intro z15 hz15
          refine Exists.intro () (And.intro rfl (And.intro hp0 ?_))
          intro z16 σ18 h17
          have f19 : ∀ k j : Int, ¬ (30 ≤ k ∧ k ≤ 33) → σ18 k j = σ k j := h17.2.2
          have h20 : CI σ18 := h17.1
          have h21 : z16 = 30 := h17.2.1
          obtain rfl : z16 = 30 := by omega
          show WP_ X G Q 0 0 ad SHS_ σ18 73 [(10, 0), (0, a1), (0, a2), (0, a3), (0, a4), (0, (shl3_ 1 z12) - 1), (0, z15), (25, 30), (1, a1), (9, 0), (0, 0), (0, a2), (9, 0)] []
          refine wdrop_ (L' := [(10, 0), (9, 0), (9, 0), (9, 0), (0, a4), (0, (shl3_ 1 z12) - 1), (0, z15), (25, 30), (1, a1), (9, 0), (0, 0), (0, a2), (9, 0)]) ⟨Or.inr rfl, ⟨Or.inl rfl, ⟨Or.inl rfl, ⟨Or.inl rfl, ⟨Or.inr rfl, ⟨Or.inr rfl, ⟨Or.inr rfl, ⟨Or.inr rfl, ⟨Or.inr rfl, ⟨Or.inl rfl, ⟨Or.inr rfl, ⟨Or.inr rfl, ⟨Or.inl rfl, trivial⟩⟩⟩⟩⟩⟩⟩⟩⟩⟩⟩⟩⟩ ?_
          have lp_73 : ∀ (nq_ : Nat) (v8 : Int) (v10 : Int) (v11 : Int), (0 ≤ v8) → (v8 ≤ 4000000000) → (a2 ≤ v11) → (v11 ≤ 2000) → (0 ≤ v10) → (v10 ≤ v11 - a2) → (2000 - v11 : Int).toNat < nq_ → WP_ X G Q 0 0 ad SHS_ σ18 73 [(10, 0), (9, 0), (9, 0), (9, 0), (0, a4), (0, (shl3_ 1 z12) - 1), (0, z15), (25, 30), (1, v8), (9, 0), (0, v10), (0, v11), (9, 0)] [] := by
            intro nq_
            induction nq_ with
            | zero => intros; omega
            | succ nq_ ih_73 =>
              intro v8 v10 v11 hi73_0 hi73_1 hi73_2 hi73_3 hi73_4 hi73_5 hm73
              refine B rfl ?_
              refine And.intro (fun h22 => ?_) (fun h22 => ?_)
              · skip
                refine B rfl ?_
                refine Exists.intro _ (And.intro rfl ?_)
                exact (And.intro h20 (fun k j hk => (f19 _ _ (by omega))))
              · skip
                show WP_ X G Q 0 0 ad SHS_ σ18 80 [(10, 0), (9, 0), (9, 0), (9, 0), (0, a4), (0, (shl3_ 1 z12) - 1), (0, z15), (25, 30), (1, v8), (9, 0), (0, v10), (0, v11), (9, 0)] []
                refine B rfl ?_
                refine Exists.intro v8 (And.intro rfl (And.intro (And.intro (by show 0 ≤ v8; omega) (by show v8 ≤ 4000000000; omega)) ?_))
                rintro z23 m_ h24
                obtain rfl : σ18 = m_ := h24.2
                have h25 : 0 ≤ z23 ∧ z23 ≤ 2147483647 := h24.1
                intro z26 ez26 hz26
                try have t27 : σ18 0 2 = σ 0 2 := (f19 _ _ (by omega))
                have q28 : z1 = z26 := by omega
                subst q28
                intro z29 ez29 hz29
                have hz29 : (0 : Int) ≤ z29 ∧ z29 ≤ (100 : Int) := hz29
                try have t30 : σ18 z1 1 = σ z1 1 := (f19 _ _ (by omega))
                refine Exists.intro (z23, z29) (And.intro rfl (And.intro (by show 0 ≤ z23; omega) ?_))
                rintro z31 m_ h32
                obtain rfl : σ18 = m_ := h32.2
                have h33 : 0 ≤ z31 ∧ z31 ≤ 1 := h32.1
                refine And.intro (fun h34 => ?_) (fun h34 => ?_)
                · skip
                  refine B rfl ?_
                  refine And.intro (fun h35 => ?_) (fun h35 => ?_)
                  · skip
                    refine B rfl ?_
                    refine And.intro (by omega) ?_
                    show WP_ X G Q 0 0 ad SHS_ σ18 73 [(10, 0), (9, 0), (9, 0), (9, 0), (0, a4), (0, (shl3_ 1 z12) - 1), (0, z15), (25, 30), (1, z23), (9, 0), (0, v10), (0, v11 + 1), (0, z31)] []
                    refine wdrop_ (L' := [(10, 0), (9, 0), (9, 0), (9, 0), (0, a4), (0, (shl3_ 1 z12) - 1), (0, z15), (25, 30), (1, z23), (9, 0), (0, v10), (0, v11 + 1), (9, 0)]) ⟨Or.inr rfl, ⟨Or.inl rfl, ⟨Or.inl rfl, ⟨Or.inl rfl, ⟨Or.inr rfl, ⟨Or.inr rfl, ⟨Or.inr rfl, ⟨Or.inr rfl, ⟨Or.inr rfl, ⟨Or.inl rfl, ⟨Or.inr rfl, ⟨Or.inr rfl, ⟨Or.inl rfl, trivial⟩⟩⟩⟩⟩⟩⟩⟩⟩⟩⟩⟩⟩ ?_
                    exact ih_73 z23 v10 (v11 + 1) (by show 0 ≤ z23; omega) (by show z23 ≤ 4000000000; omega) (by show a2 ≤ (v11 + 1); omega) (by show (v11 + 1) ≤ 2000; omega) (by show 0 ≤ v10; omega) (by show v10 ≤ (v11 + 1) - a2; omega) (by omega)
                  · skip
                    show WP_ X G Q 0 0 ad SHS_ σ18 119 [(10, 0), (9, 0), (9, 0), (9, 0), (0, a4), (0, (shl3_ 1 z12) - 1), (0, z15), (25, 30), (1, z23), (9, 0), (0, v10), (0, v11), (0, z31)] []
                    refine B rfl ?_
                    refine Exists.intro ((shl3_ 1 z12) - 1, v11) (And.intro rfl (And.intro (And.intro (by show 0 ≤ v11; omega) (by show v11 ≤ 1999; omega)) ?_))
                    rintro z36 m_ h37
                    obtain rfl : σ18 = m_ := h37.2
                    have h38 : 0 ≤ z36 ∧ z36 ≤ 1 := h37.1
                    refine And.intro (fun h39 => ?_) (fun h39 => ?_)
                    · skip
                      refine B rfl ?_
                      refine And.intro (by omega) ?_
                      show WP_ X G Q 0 0 ad SHS_ σ18 73 [(10, 0), (9, 0), (9, 0), (9, 0), (0, a4), (0, (shl3_ 1 z12) - 1), (0, z15), (25, 30), (1, z23), (9, 0), (0, v10), (0, v11 + 1), (0, z31)] []
                      refine wdrop_ (L' := [(10, 0), (9, 0), (9, 0), (9, 0), (0, a4), (0, (shl3_ 1 z12) - 1), (0, z15), (25, 30), (1, z23), (9, 0), (0, v10), (0, v11 + 1), (9, 0)]) ⟨Or.inr rfl, ⟨Or.inl rfl, ⟨Or.inl rfl, ⟨Or.inl rfl, ⟨Or.inr rfl, ⟨Or.inr rfl, ⟨Or.inr rfl, ⟨Or.inr rfl, ⟨Or.inr rfl, ⟨Or.inl rfl, ⟨Or.inr rfl, ⟨Or.inr rfl, ⟨Or.inl rfl, trivial⟩⟩⟩⟩⟩⟩⟩⟩⟩⟩⟩⟩⟩ ?_
                      exact ih_73 z23 v10 (v11 + 1) (by show 0 ≤ z23; omega) (by show z23 ≤ 4000000000; omega) (by show a2 ≤ (v11 + 1); omega) (by show (v11 + 1) ≤ 2000; omega) (by show 0 ≤ v10; omega) (by show v10 ≤ (v11 + 1) - a2; omega) (by omega)
                    · skip
                      show WP_ X G Q 0 0 ad SHS_ σ18 131 [(10, 0), (9, 0), (9, 0), (9, 0), (0, a4), (0, (shl3_ 1 z12) - 1), (0, z15), (25, 30), (1, z23), (9, 0), (0, v10), (0, v11), (0, z31)] []
                      refine B rfl ?_
                      refine And.intro (by omega) ?_
                      refine And.intro (by omega) ?_
                      show WP_ X G Q 0 0 ad SHS_ σ18 73 [(10, 0), (9, 0), (9, 0), (9, 0), (0, a4), (0, (shl3_ 1 z12) - 1), (0, z15), (25, 30), (1, z23), (9, 0), (0, v10 + 1), (0, v11 + 1), (0, z31)] []
                      refine wdrop_ (L' := [(10, 0), (9, 0), (9, 0), (9, 0), (0, a4), (0, (shl3_ 1 z12) - 1), (0, z15), (25, 30), (1, z23), (9, 0), (0, v10 + 1), (0, v11 + 1), (9, 0)]) ⟨Or.inr rfl, ⟨Or.inl rfl, ⟨Or.inl rfl, ⟨Or.inl rfl, ⟨Or.inr rfl, ⟨Or.inr rfl, ⟨Or.inr rfl, ⟨Or.inr rfl, ⟨Or.inr rfl, ⟨Or.inl rfl, ⟨Or.inr rfl, ⟨Or.inr rfl, ⟨Or.inl rfl, trivial⟩⟩⟩⟩⟩⟩⟩⟩⟩⟩⟩⟩⟩ ?_
                      exact ih_73 z23 (v10 + 1) (v11 + 1) (by show 0 ≤ z23; omega) (by show z23 ≤ 4000000000; omega) (by show a2 ≤ (v11 + 1); omega) (by show (v11 + 1) ≤ 2000; omega) (by show 0 ≤ (v10 + 1); omega) (by show (v10 + 1) ≤ (v11 + 1) - a2; omega) (by omega)
                · skip
                  show WP_ X G Q 0 0 ad SHS_ σ18 106 [(10, 0), (9, 0), (9, 0), (9, 0), (0, a4), (0, (shl3_ 1 z12) - 1), (0, z15), (25, 30), (1, z23), (9, 0), (0, v10), (0, v11), (0, z31)] []
                  refine B rfl ?_
                  refine And.intro (fun h40 => ?_) (fun h40 => ?_)
                  · skip
                    refine B rfl ?_
                    refine And.intro (by omega) ?_
                    show WP_ X G Q 0 0 ad SHS_ σ18 73 [(10, 0), (9, 0), (9, 0), (9, 0), (0, a4), (0, (shl3_ 1 z12) - 1), (0, z15), (25, 30), (1, z23), (9, 0), (0, v10), (0, v11 + 1), (0, z31)] []
                    refine wdrop_ (L' := [(10, 0), (9, 0), (9, 0), (9, 0), (0, a4), (0, (shl3_ 1 z12) - 1), (0, z15), (25, 30), (1, z23), (9, 0), (0, v10), (0, v11 + 1), (9, 0)]) ⟨Or.inr rfl, ⟨Or.inl rfl, ⟨Or.inl rfl, ⟨Or.inl rfl, ⟨Or.inr rfl, ⟨Or.inr rfl, ⟨Or.inr rfl, ⟨Or.inr rfl, ⟨Or.inr rfl, ⟨Or.inl rfl, ⟨Or.inr rfl, ⟨Or.inr rfl, ⟨Or.inl rfl, trivial⟩⟩⟩⟩⟩⟩⟩⟩⟩⟩⟩⟩⟩ ?_
                    exact ih_73 z23 v10 (v11 + 1) (by show 0 ≤ z23; omega) (by show z23 ≤ 4000000000; omega) (by show a2 ≤ (v11 + 1); omega) (by show (v11 + 1) ≤ 2000; omega) (by show 0 ≤ v10; omega) (by show v10 ≤ (v11 + 1) - a2; omega) (by omega)
                  · skip
                    show WP_ X G Q 0 0 ad SHS_ σ18 111 [(10, 0), (9, 0), (9, 0), (9, 0), (0, a4), (0, (shl3_ 1 z12) - 1), (0, z15), (25, 30), (1, z23), (9, 0), (0, v10), (0, v11), (0, z31)] []
                    refine B rfl ?_
                    refine B rfl ?_
                    refine And.intro (by omega) ?_
                    refine And.intro (by omega) ?_
                    show WP_ X G Q 0 0 ad SHS_ σ18 73 [(10, 0), (9, 0), (9, 0), (9, 0), (0, a4), (0, (shl3_ 1 z12) - 1), (0, z15), (25, 30), (1, z23), (9, 0), (0, v10 + 1), (0, v11 + 1), (0, z31)] []
                    refine wdrop_ (L' := [(10, 0), (9, 0), (9, 0), (9, 0), (0, a4), (0, (shl3_ 1 z12) - 1), (0, z15), (25, 30), (1, z23), (9, 0), (0, v10 + 1), (0, v11 + 1), (9, 0)]) ⟨Or.inr rfl, ⟨Or.inl rfl, ⟨Or.inl rfl, ⟨Or.inl rfl, ⟨Or.inr rfl, ⟨Or.inr rfl, ⟨Or.inr rfl, ⟨Or.inr rfl, ⟨Or.inr rfl, ⟨Or.inl rfl, ⟨Or.inr rfl, ⟨Or.inr rfl, ⟨Or.inl rfl, trivial⟩⟩⟩⟩⟩⟩⟩⟩⟩⟩⟩⟩⟩ ?_
                    exact ih_73 z23 (v10 + 1) (v11 + 1) (by show 0 ≤ z23; omega) (by show z23 ≤ 4000000000; omega) (by show a2 ≤ (v11 + 1); omega) (by show (v11 + 1) ≤ 2000; omega) (by show 0 ≤ (v10 + 1); omega) (by show (v10 + 1) ≤ (v11 + 1) - a2; omega) (by omega)
          exact lp_73 ((2000 - a2 : Int).toNat + 1) a1 0 a2 (by show 0 ≤ a1; omega) (by show a1 ≤ 4000000000; omega) (by show a2 ≤ a2; omega) (by show a2 ≤ 2000; omega) (by show 0 ≤ 0; omega) (by show 0 ≤ a2 - a2; omega) (by omega)
        · skip
          show WP_ X G Q 0 0 ad SHS_ σ 30 [(10, 0), (0, a1), (0, a2), (0, a3), (0, a4), (9, 0), (9, 0), (9, 0), (9, 0), (9, 0), (9, 0), (9, 0), (9, 0)] []
          refine B rfl ?_
          refine Exists.intro _ (And.intro rfl ?_)
          exact (And.intro hp0 (fun k j hk => rfl))
def as_G_X10_luck : Int × Int × Int × Int × Int → List Sv_t := fun a => [(10, 0), (0, a.1), (0, a.2.1), (0, a.2.2.1), (0, a.2.2.2.1), (0, a.2.2.2.2)]
def pre_G_X10_luck : Int × Int × Int × Int × Int → Me_t → Prop := fun a σ => (CI σ)
def post_G_X10_luck : Int × Int × Int × Int × Int → Me_t → Int → Me_t → Prop := fun a σ z σ' => (CI σ') ∧ (∀ k j : Int, ¬ (k ≤ 27 ∨ (29 ≤ k ∧ k ≤ 77)) → σ' k j = σ k j)
set_option maxHeartbeats 1500000 in
set_option maxRecDepth 100000 in
theorem ct_G_X10_luck (l : Launch) : CT_ l yX10_luck cX10_luck 9 (some .int) 6 143 as_G_X10_luck (rmI_) pre_G_X10_luck post_G_X10_luck := by
  refine ct_of (by decide) (fun _ => Nat.le_of_ble_eq_true rfl) ?_
  intro X G Q ad σ a hl hR E hG R hM hv hp
  obtain ⟨a1, a2, a3, a4, a5⟩ := a
  have r_a1 : -2147483648 ≤ a1 ∧ a1 ≤ 2147483647 := hv (0, a1) (List.mem_of_getElem? (i := 1) rfl)
  have r_a2 : -2147483648 ≤ a2 ∧ a2 ≤ 2147483647 := hv (0, a2) (List.mem_of_getElem? (i := 2) rfl)
  have r_a3 : -2147483648 ≤ a3 ∧ a3 ≤ 2147483647 := hv (0, a3) (List.mem_of_getElem? (i := 3) rfl)
  have r_a4 : -2147483648 ≤ a4 ∧ a4 ≤ 2147483647 := hv (0, a4) (List.mem_of_getElem? (i := 4) rfl)
  have r_a5 : -2147483648 ≤ a5 ∧ a5 ≤ 2147483647 := hv (0, a5) (List.mem_of_getElem? (i := 5) rfl)
  have hp0 : CI σ := hp
  have B := @bk_ X G Q 0 0 ad SHS_ RX10 cX10_luck 9 (some .int) flX10 plX10 knX10 [(226, 2, TR_ as_G_X9_hasLand (rmI_) pre_G_X9_hasLand post_G_X9_hasLand), (747, 3, TR_ as_G_X10_isRain (rmI_) pre_G_X10_isRain post_G_X10_isRain), (342, 1, TR_ as_G_X10_told (rmR_ 25) pre_G_X10_told post_G_X10_told), (774, 6, TR_ as_G_X10_fightsInRain (rmI_) pre_G_X10_fightsInRain post_G_X10_fightsInRain)] _ _ none kX10_luck [11, 22, 27, 33, 48, 54, 74] flX10_ok plX10_ok knX10_ok eX10_luck oX10_luck
    (List.forall_mem_cons.mpr ⟨cok_v (t := 5) (c := 9) (N := 10) (n := 1) (idx := 113) E (ct_G_X9_hasLand X.2.1) (by rw [hR]; decide) (Nat.zero_le _) (Nat.zero_le _) hG rfl rfl ⟨rfl, by decide, by decide, by decide⟩ (fun _ => ⟨_, _, rfl, rfl⟩) wl_X10_113 wi_X9_hasLand ws_X9_hasLand wn_X9 wc_X9_hasLand, List.forall_mem_cons.mpr ⟨cok_s (n := 3) (idx := 373) E (ct_G_X10_isRain X.2.1) (by rw [hR]; decide) (Nat.zero_le _) (Nat.zero_le _) hG ⟨by decide, by decide, by decide⟩ (fun _ => rfl) wl_X10_373 wt_X10_isRain wn_X10 wc_X10_isRain, List.forall_mem_cons.mpr ⟨cok_v (t := 0) (c := 10) (N := 14) (n := 0) (idx := 171) E (ct_G_X10_told X.2.1) (by rw [hR]; decide) (Nat.zero_le _) (Nat.zero_le _) hG rfl rfl ⟨rfl, by decide, by decide, by decide⟩ (fun _ => ⟨_, _, rfl, rfl⟩) wl_X10_171 wi_X10_told ws_X10_told wn_X10 wc_X10_told, List.forall_mem_cons.mpr ⟨cok_v (t := 0) (c := 10) (N := 14) (n := 5) (idx := 387) E (ct_G_X10_fightsInRain X.2.1) (by rw [hR]; decide) (Nat.zero_le _) (Nat.zero_le _) hG rfl rfl ⟨rfl, by decide, by decide, by decide⟩ (fun _ => ⟨_, _, rfl, rfl⟩) wl_X10_387 wi_X10_fightsInRain ws_X10_fightsInRain wn_X10 wc_X10_fightsInRain, fun _ h => absurd h List.not_mem_nil⟩⟩⟩⟩) R sok_no E
  show WP_ X G Q 0 0 ad SHS_ σ 0 [(10, 0), (0, a1), (0, a2), (0, a3), (0, a4), (0, a5), (9, 0), (9, 0), (9, 0)] []
  refine B rfl ?_
  intro z1 ez1 hz1
  have cz1 : z1 = 5 ∨ z1 = 16 := by have := (hp0).1; omega
  have lz1 : LG σ z1 := by rw [ez1]; exact (hp0).2.1.1
  have uz1 : UW σ z1 := by rw [ez1]; exact (hp0).2.1.2
  refine Exists.intro (z1, a3) (And.intro rfl (And.intro True.intro ?_))
  rintro z2 m_ h3
  obtain rfl : σ = m_ := h3.2
  have h4 : (z2 = 1 ∧ 0 ≤ a3 ∧ a3 ≤ 2 ∧ a3 < σ z1 2) ∨ z2 = 0 := h3.1
  refine And.intro (fun h5 => ?_) (fun h5 => ?_)
  · skip
    refine B rfl ?_
    refine Exists.intro _ (And.intro rfl ?_)
    exact (And.intro hp0 (fun k j hk => rfl))
  · skip
    show WP_ X G Q 0 0 ad SHS_ σ 11 [(10, 0), (0, a1), (0, a2), (0, a3), (0, a4), (0, a5), (9, 0), (9, 0), (9, 0)] []
    refine B rfl ?_
    refine Exists.intro (a1, a4, a5) (And.intro rfl (And.intro True.intro ?_))
    rintro z6 m_ h7
    obtain rfl : σ = m_ := h7.2
    have h8 : (z6 = 1 ∧ 0 ≤ a1 ∧ a1 ≤ 2000000000 ∧ 0 ≤ a4 ∧ a4 ≤ 1999 ∧ 1 ≤ a5 ∧ a5 ≤ 100) ∨ z6 = 0 := h7.1
    refine And.intro (fun h9 => ?_) (fun h9 => ?_)
    · skip
      refine B rfl ?_
      refine Exists.intro _ (And.intro rfl ?_)
      exact (And.intro hp0 (fun k j hk => rfl))
    · skip
      show WP_ X G Q 0 0 ad SHS_ σ 22 [(10, 0), (0, a1), (0, a2), (0, a3), (0, a4), (0, a5), (9, 0), (9, 0), (9, 0)] []
      refine B rfl ?_
      refine And.intro (fun h10 => ?_) (fun h10 => ?_)
      · skip
        refine B rfl ?_
        refine Exists.intro _ (And.intro rfl ?_)
        exact (And.intro hp0 (fun k j hk => rfl))
      · skip
        show WP_ X G Q 0 0 ad SHS_ σ 27 [(10, 0), (0, a1), (0, a2), (0, a3), (0, a4), (0, a5), (9, 0), (9, 0), (9, 0)] []
        refine B rfl ?_
        refine And.intro (fun h11 => ?_) (fun h11 => ?_)
        · skip
          refine B rfl ?_
          refine Exists.intro () (And.intro rfl (And.intro hp0 ?_))
          intro z12 σ14 h13
          have f15 : ∀ k j : Int, ¬ (30 ≤ k ∧ k ≤ 33) → σ14 k j = σ k j := h13.2.2
          have h16 : CI σ14 := h13.1
          have h17 : z12 = 30 := h13.2.1
          obtain rfl : z12 = 30 := by omega
          have lp_48 : ∀ (nq_ : Nat) (v7 : Int) (v8 : Int), (0 ≤ v8) → (v8 ≤ a2) → (0 ≤ v7) → (v7 ≤ v8) → (a2 - v8 : Int).toNat < nq_ → WP_ X G Q 0 0 ad SHS_ σ14 48 [(10, 0), (0, a1), (0, a2), (0, a3), (0, a4), (0, a5), (25, 30), (0, v7), (0, v8)] [] := by
            intro nq_
            induction nq_ with
            | zero => intros; omega
            | succ nq_ ih_48 =>
              intro v7 v8 hi48_0 hi48_1 hi48_2 hi48_3 hm48
              refine B rfl ?_
              refine And.intro (fun h18 => ?_) (fun h18 => ?_)
              · skip
                refine B rfl ?_
                refine Exists.intro _ (And.intro rfl ?_)
                exact (And.intro h16 (fun k j hk => (f15 _ _ (by omega))))
              · skip
                show WP_ X G Q 0 0 ad SHS_ σ14 54 [(10, 0), (0, a1), (0, a2), (0, a3), (0, a4), (0, a5), (25, 30), (0, v7), (0, v8)] []
                refine B rfl ?_
                refine And.intro (by omega) ?_
                have p19 : DT σ14 := (h16).2.2.2
                refine Exists.intro (a1 + v8, a3, a4, a5) (And.intro rfl (And.intro (And.intro p19 (And.intro (by show 0 ≤ (a1 + v8); omega) (And.intro (by show (a1 + v8) ≤ 4000000000; omega) (And.intro (by show 0 ≤ a4; omega) (And.intro (by show a4 ≤ 1999; omega) (And.intro (by show 1 ≤ a5; omega) (by show a5 ≤ 100; omega))))))) ?_))
                rintro z20 m_ h21
                obtain rfl : σ14 = m_ := h21.2
                have h22 : 0 ≤ z20 ∧ z20 ≤ 1 := h21.1
                refine And.intro (fun h23 => ?_) (fun h23 => ?_)
                · skip
                  refine B rfl ?_
                  refine And.intro (by omega) ?_
                  exact ih_48 v7 (v8 + 1) (by show 0 ≤ (v8 + 1); omega) (by show (v8 + 1) ≤ a2; omega) (by show 0 ≤ v7; omega) (by show v7 ≤ (v8 + 1); omega) (by omega)
                · skip
                  show WP_ X G Q 0 0 ad SHS_ σ14 74 [(10, 0), (0, a1), (0, a2), (0, a3), (0, a4), (0, a5), (25, 30), (0, v7), (0, v8)] []
                  refine B rfl ?_
                  refine And.intro (by omega) ?_
                  refine And.intro (by omega) ?_
                  exact ih_48 (v7 + 1) (v8 + 1) (by show 0 ≤ (v8 + 1); omega) (by show (v8 + 1) ≤ a2; omega) (by show 0 ≤ (v7 + 1); omega) (by show (v7 + 1) ≤ (v8 + 1); omega) (by omega)
          exact lp_48 ((a2 - 0 : Int).toNat + 1) 0 0 (by show 0 ≤ 0; omega) (by show 0 ≤ a2; omega) (by show 0 ≤ 0; omega) (by show 0 ≤ 0; omega) (by omega)
        · skip
          show WP_ X G Q 0 0 ad SHS_ σ 33 [(10, 0), (0, a1), (0, a2), (0, a3), (0, a4), (0, a5), (9, 0), (9, 0), (9, 0)] []
          refine B rfl ?_
          refine Exists.intro _ (And.intro rfl ?_)
          exact (And.intro hp0 (fun k j hk => rfl))
