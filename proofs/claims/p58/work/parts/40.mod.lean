def TOR_ (T1 T2 : Tr_t) : Tr_t := fun a s k => T1 a s k ∨ T2 a s k
theorem cok_or {X : Cx_t} {G : Gx_t} {Q : State → Prop} {cl sl : Nat} {ad shs : List Nat} {cc : ByteArray} {nL n na : Nat} {T1 T2 : Tr_t} (h1 : COK_ X G Q cl sl ad shs cc nL n na T1) (h2 : COK_ X G Q cl sl ad shs cc nL n na T2) : COK_ X G Q cl sl ad shs cc nL n na (TOR_ T1 T2) := by
  intro pc i σ L as S k hi hd hlen hcs hL hT hk
  rcases hT with h | h
  · exact h1 pc i σ L as S k hi hd hlen hcs hL h hk
  · exact h2 pc i σ L as S k hi hd hlen hcs hL h hk
def as_G_X11_in : Int × Int × Int → List Sv_t := fun a => [(1, a.1), (1, a.2.1), (1, a.2.2)]
def pre_G_X11_in : Int × Int × Int → Me_t → Prop := fun a σ => True
def post_G_X11_in : Int × Int × Int → Me_t → Int → Me_t → Prop := fun a σ z σ' => ((z = 1 ∧ a.2.1 ≤ a.1 ∧ a.1 ≤ a.2.2) ∨ (z = 0 ∧ ¬ (a.2.1 ≤ a.1 ∧ a.1 ≤ a.2.2))) ∧ (σ = σ')
set_option maxHeartbeats 1500000 in
set_option maxRecDepth 100000 in
theorem ct_G_X11_in (l : Launch) : CT_ l yX11_in cX11_in 6 (some .boolean) 0 0 as_G_X11_in (rmI_) pre_G_X11_in post_G_X11_in := by
  refine ct_of (by decide) (fun _ => Nat.le_of_ble_eq_true rfl) ?_
  intro X G Q ad σ a hl hR E hG R hM hv hp
  obtain ⟨a0, a1, a2⟩ := a
  have r_a0 : -9223372036854775808 ≤ a0 ∧ a0 ≤ 9223372036854775807 := hv (1, a0) (List.mem_of_getElem? (i := 0) rfl)
  have r_a1 : -9223372036854775808 ≤ a1 ∧ a1 ≤ 9223372036854775807 := hv (1, a1) (List.mem_of_getElem? (i := 1) rfl)
  have r_a2 : -9223372036854775808 ≤ a2 ∧ a2 ≤ 9223372036854775807 := hv (1, a2) (List.mem_of_getElem? (i := 2) rfl)
  have B := @bk_ X G Q 0 0 ad SHS_ RX11 cX11_in 6 (some .boolean) flX11 plX11 knX11 [] _ _ none kX11_in [] flX11_ok plX11_ok knX11_ok eX11_in oX11_in
    (fun _ h => absurd h List.not_mem_nil) R sok_no E
  show WP_ X G Q 0 0 ad SHS_ σ 0 [(1, a0), (9, 0), (1, a1), (9, 0), (1, a2), (9, 0)] []
  refine B rfl ?_
  refine And.intro (fun h1 => ?_) (fun h1 => ?_)
  · simp only [lcmp_lt0, lcmp_ge0, lcmp_gt0, lcmp_le0, lcmp_eq0] at h1
    refine B rfl ?_
    refine And.intro (by omega) ?_
    refine Exists.intro _ (And.intro rfl ?_)
    exact (And.intro (by show (0 = 1 ∧ a1 ≤ a0 ∧ a0 ≤ a2) ∨ (0 = 0 ∧ ¬ (a1 ≤ a0 ∧ a0 ≤ a2)); omega) rfl)
  · simp only [lcmp_lt0, lcmp_ge0, lcmp_gt0, lcmp_le0, lcmp_eq0] at h1
    refine And.intro (fun h2 => ?_) (fun h2 => ?_)
    · simp only [lcmp_lt0, lcmp_ge0, lcmp_gt0, lcmp_le0, lcmp_eq0] at h2
      refine B rfl ?_
      refine And.intro (by omega) ?_
      refine Exists.intro _ (And.intro rfl ?_)
      exact (And.intro (by show (0 = 1 ∧ a1 ≤ a0 ∧ a0 ≤ a2) ∨ (0 = 0 ∧ ¬ (a1 ≤ a0 ∧ a0 ≤ a2)); omega) rfl)
    · simp only [lcmp_lt0, lcmp_ge0, lcmp_gt0, lcmp_le0, lcmp_eq0] at h2
      refine B rfl ?_
      refine And.intro (by omega) ?_
      refine Exists.intro _ (And.intro rfl ?_)
      exact (And.intro (by show (1 = 1 ∧ a1 ≤ a0 ∧ a0 ≤ a2) ∨ (1 = 0 ∧ ¬ (a1 ≤ a0 ∧ a0 ≤ a2)); omega) rfl)
def as_G_X11_bit : Int × Int → List Sv_t := fun a => [(0, a.1), (0, a.2)]
def pre_G_X11_bit : Int × Int → Me_t → Prop := fun a σ => True
def post_G_X11_bit : Int × Int → Me_t → Int → Me_t → Prop := fun a σ z σ' => (0 ≤ z ∧ z ≤ 1) ∧ (σ = σ')
set_option maxHeartbeats 1500000 in
set_option maxRecDepth 100000 in
theorem ct_G_X11_bit (l : Launch) : CT_ l yX11_bit cX11_bit 2 (some .int) 0 0 as_G_X11_bit (rmI_) pre_G_X11_bit post_G_X11_bit := by
  refine ct_of (by decide) (fun _ => Nat.le_of_ble_eq_true rfl) ?_
  intro X G Q ad σ a hl hR E hG R hM hv hp
  obtain ⟨a0, a1⟩ := a
  have r_a0 : -2147483648 ≤ a0 ∧ a0 ≤ 2147483647 := hv (0, a0) (List.mem_of_getElem? (i := 0) rfl)
  have r_a1 : -2147483648 ≤ a1 ∧ a1 ≤ 2147483647 := hv (0, a1) (List.mem_of_getElem? (i := 1) rfl)
  have B := @bk_ X G Q 0 0 ad SHS_ RX11 cX11_bit 2 (some .int) flX11 plX11 knX11 [] _ _ none kX11_bit [] flX11_ok plX11_ok knX11_ok eX11_bit oX11_bit
    (fun _ h => absurd h List.not_mem_nil) R sok_no E
  show WP_ X G Q 0 0 ad SHS_ σ 0 [(0, a0), (0, a1)] []
  refine B rfl ?_
  have q1 := and3_r (x := shr3_ a0 a1) (c := 1) (by omega) (by omega)
  refine Exists.intro _ (And.intro rfl ?_)
  exact (And.intro (by show 0 ≤ (and3_ (shr3_ a0 a1) 1) ∧ (and3_ (shr3_ a0 a1) 1) ≤ 1; omega) rfl)
def as_G_X11_isWar : Unit → List Sv_t := fun a => [(42, 86)]
def pre_G_X11_isWar : Unit → Me_t → Prop := fun a σ => True
def post_G_X11_isWar : Unit → Me_t → Int → Me_t → Prop := fun a σ z σ' => (0 ≤ z ∧ z ≤ 1) ∧ (σ = σ')
set_option maxHeartbeats 1500000 in
set_option maxRecDepth 100000 in
theorem ct_G_X11_isWar (l : Launch) : CT_ l yX11_isWar cX11_isWar 1 (some .boolean) 0 0 as_G_X11_isWar (rmI_) pre_G_X11_isWar post_G_X11_isWar := by
  refine ct_of (by decide) (fun _ => Nat.le_of_ble_eq_true rfl) ?_
  intro X G Q ad σ a hl hR E hG R hM hv hp
  have B := @bk_ X G Q 0 0 ad SHS_ RX11 cX11_isWar 1 (some .boolean) flX11 plX11 knX11 [] _ _ none kX11_isWar [] flX11_ok plX11_ok knX11_ok eX11_isWar oX11_isWar
    (fun _ h => absurd h List.not_mem_nil) R sok_no E
  show WP_ X G Q 0 0 ad SHS_ σ 0 [(42, 86)] []
  refine B rfl ?_
  refine And.intro (by omega) ?_
  intro z1 ez1 hz1
  have hz1 : ((-1) : Int) ≤ z1 ∧ z1 ≤ (1999 : Int) := hz1
  refine And.intro (fun h2 => ?_) (fun h2 => ?_)
  · skip
    refine B rfl ?_
    refine And.intro (by omega) ?_
    refine Exists.intro _ (And.intro rfl ?_)
    exact (And.intro (by show 0 ≤ 0 ∧ 0 ≤ 1; omega) rfl)
  · skip
    refine B rfl ?_
    refine And.intro (by omega) ?_
    refine Exists.intro _ (And.intro rfl ?_)
    exact (And.intro (by show 0 ≤ 1 ∧ 1 ≤ 1; omega) rfl)
def as_G_X11_isLand : Int → List Sv_t := fun a => [(42, 86), (1, a)]
def pre_G_X11_isLand : Int → Me_t → Prop := fun a σ => (BW σ 87)
def post_G_X11_isLand : Int → Me_t → Int → Me_t → Prop := fun a σ z σ' => ((z = 1 ∧ 0 ≤ a ∧ a ≤ 2 ∧ a < σ 87 1) ∨ z = 0) ∧ (σ = σ')
set_option maxHeartbeats 1500000 in
set_option maxRecDepth 100000 in
theorem ct_G_X11_isLand (l : Launch) : CT_ l yX11_isLand cX11_isLand 3 (some .boolean) 1 25 as_G_X11_isLand (rmI_) pre_G_X11_isLand post_G_X11_isLand := by
  refine ct_of (by decide) (fun _ => Nat.le_of_ble_eq_true rfl) ?_
  intro X G Q ad σ a hl hR E hG R hM hv hp
  obtain ⟨a1, rfl⟩ : ∃ q : Int, q = a := ⟨_, rfl⟩
  have r_a1 : -9223372036854775808 ≤ a1 ∧ a1 ≤ 9223372036854775807 := hv (1, a1) (List.mem_of_getElem? (i := 1) rfl)
  have hp0 : BW σ 87 := hp
  have B := @bk_ X G Q 0 0 ad SHS_ RX11 cX11_isLand 3 (some .boolean) flX11 plX11 knX11 [(159, 3, TR_ as_G_X11_in (rmI_) pre_G_X11_in post_G_X11_in)] _ _ none kX11_isLand [] flX11_ok plX11_ok knX11_ok eX11_isLand oX11_isLand
    (List.forall_mem_cons.mpr ⟨cok_s (n := 3) (idx := 79) E (ct_G_X11_in X.2.1) (by rw [hR]; decide) (Nat.zero_le _) (Nat.zero_le _) hG ⟨by decide, by decide, by decide⟩ (fun _ => rfl) wl_X11_79 wt_X11_in wn_X11 wc_X11_in, fun _ h => absurd h List.not_mem_nil⟩) R sok_no E
  show WP_ X G Q 0 0 ad SHS_ σ 0 [(42, 86), (1, a1), (9, 0)] []
  refine B rfl ?_
  refine And.intro (by omega) ?_
  intro z1 ez1 hz1
  have hz1 : ((-1) : Int) ≤ z1 ∧ z1 ≤ (1999 : Int) := hz1
  have b2 := wrh_ hp0 (i := 1) (by omega)
  have b2 : (0 : Int) ≤ σ 87 1 ∧ σ 87 1 ≤ (3 : Int) := b2
  refine And.intro (by omega) ?_
  refine Exists.intro (a1, 0, z1 - 1) (And.intro rfl (And.intro True.intro ?_))
  rintro z3 m_ h4
  obtain rfl : σ = m_ := h4.2
  have h5 : (z3 = 1 ∧ 0 ≤ a1 ∧ a1 ≤ (z1 - 1)) ∨ (z3 = 0 ∧ ¬ (0 ≤ a1 ∧ a1 ≤ (z1 - 1))) := h4.1
  refine And.intro (by omega) ?_
  refine Exists.intro _ (And.intro rfl ?_)
  exact (And.intro (by show (z3 = 1 ∧ 0 ≤ a1 ∧ a1 ≤ 2 ∧ a1 < σ 87 1) ∨ z3 = 0; omega) rfl)
def as_G_X11_areTwo : Int × Int → List Sv_t := fun a => [(42, 86), (0, a.1), (0, a.2)]
def pre_G_X11_areTwo : Int × Int → Me_t → Prop := fun a σ => (BW σ 87)
def post_G_X11_areTwo : Int × Int → Me_t → Int → Me_t → Prop := fun a σ z σ' => ((z = 1 ∧ 0 ≤ a.1 ∧ a.1 ≤ 2 ∧ a.1 < σ 87 1 ∧ 0 ≤ a.2 ∧ a.2 ≤ 2 ∧ a.2 < σ 87 1 ∧ a.1 ≠ a.2) ∨ z = 0) ∧ (σ = σ')
set_option maxHeartbeats 1500000 in
set_option maxRecDepth 100000 in
theorem ct_G_X11_areTwo (l : Launch) : CT_ l yX11_areTwo cX11_areTwo 3 (some .boolean) 2 47 as_G_X11_areTwo (rmI_) pre_G_X11_areTwo post_G_X11_areTwo := by
  refine ct_of (by decide) (fun _ => Nat.le_of_ble_eq_true rfl) ?_
  intro X G Q ad σ a hl hR E hG R hM hv hp
  obtain ⟨a1, a2⟩ := a
  have r_a1 : -2147483648 ≤ a1 ∧ a1 ≤ 2147483647 := hv (0, a1) (List.mem_of_getElem? (i := 1) rfl)
  have r_a2 : -2147483648 ≤ a2 ∧ a2 ≤ 2147483647 := hv (0, a2) (List.mem_of_getElem? (i := 2) rfl)
  have hp0 : BW σ 87 := hp
  have B := @bk_ X G Q 0 0 ad SHS_ RX11 cX11_areTwo 3 (some .boolean) flX11 plX11 knX11 [(166, 2, TR_ as_G_X11_isLand (rmI_) pre_G_X11_isLand post_G_X11_isLand)] _ _ none kX11_areTwo [] flX11_ok plX11_ok knX11_ok eX11_areTwo oX11_areTwo
    (List.forall_mem_cons.mpr ⟨cok_v (t := 32) (c := 11) (N := 39) (n := 1) (idx := 83) E (ct_G_X11_isLand X.2.1) (by rw [hR]; decide) (Nat.zero_le _) (Nat.zero_le _) hG rfl rfl ⟨rfl, by decide, by decide, by decide⟩ (fun _ => ⟨_, _, rfl, rfl⟩) wl_X11_83 wi_X11_isLand ws_X11_isLand wn_X11 wc_X11_isLand, fun _ h => absurd h List.not_mem_nil⟩) R sok_no E
  show WP_ X G Q 0 0 ad SHS_ σ 0 [(42, 86), (0, a1), (0, a2)] []
  refine B rfl ?_
  refine Exists.intro a1 (And.intro rfl (And.intro hp0 ?_))
  rintro z1 m_ h2
  obtain rfl : σ = m_ := h2.2
  have h3 : (z1 = 1 ∧ 0 ≤ a1 ∧ a1 ≤ 2 ∧ a1 < σ 87 1) ∨ z1 = 0 := h2.1
  refine And.intro (fun h4 => ?_) (fun h4 => ?_)
  · skip
    refine B rfl ?_
    refine And.intro (by omega) ?_
    refine Exists.intro _ (And.intro rfl ?_)
    exact (And.intro (by show (0 = 1 ∧ 0 ≤ a1 ∧ a1 ≤ 2 ∧ a1 < σ 87 1 ∧ 0 ≤ a2 ∧ a2 ≤ 2 ∧ a2 < σ 87 1 ∧ a1 ≠ a2) ∨ 0 = 0; omega) rfl)
  · skip
    refine Exists.intro a2 (And.intro rfl (And.intro hp0 ?_))
    rintro z5 m_ h6
    obtain rfl : σ = m_ := h6.2
    have h7 : (z5 = 1 ∧ 0 ≤ a2 ∧ a2 ≤ 2 ∧ a2 < σ 87 1) ∨ z5 = 0 := h6.1
    refine And.intro (fun h8 => ?_) (fun h8 => ?_)
    · skip
      refine B rfl ?_
      refine And.intro (by omega) ?_
      refine Exists.intro _ (And.intro rfl ?_)
      exact (And.intro (by show (0 = 1 ∧ 0 ≤ a1 ∧ a1 ≤ 2 ∧ a1 < σ 87 1 ∧ 0 ≤ a2 ∧ a2 ≤ 2 ∧ a2 < σ 87 1 ∧ a1 ≠ a2) ∨ 0 = 0; omega) rfl)
    · skip
      refine And.intro (fun h9 => ?_) (fun h9 => ?_)
      · skip
        refine B rfl ?_
        refine And.intro (by omega) ?_
        refine Exists.intro _ (And.intro rfl ?_)
        exact (And.intro (by show (0 = 1 ∧ 0 ≤ a1 ∧ a1 ≤ 2 ∧ a1 < σ 87 1 ∧ 0 ≤ a2 ∧ a2 ≤ 2 ∧ a2 < σ 87 1 ∧ a1 ≠ a2) ∨ 0 = 0; omega) rfl)
      · skip
        refine B rfl ?_
        refine And.intro (by omega) ?_
        refine Exists.intro _ (And.intro rfl ?_)
        exact (And.intro (by show (1 = 1 ∧ 0 ≤ a1 ∧ a1 ≤ 2 ∧ a1 < σ 87 1 ∧ 0 ≤ a2 ∧ a2 ≤ 2 ∧ a2 < σ 87 1 ∧ a1 ≠ a2) ∨ 1 = 0; omega) rfl)
def as_G_X11_isDay : Int → List Sv_t := fun a => [(1, a)]
def pre_G_X11_isDay : Int → Me_t → Prop := fun a σ => True
def post_G_X11_isDay : Int → Me_t → Int → Me_t → Prop := fun a σ z σ' => ((z = 1 ∧ 0 ≤ a ∧ a ≤ 1999) ∨ z = 0) ∧ (σ = σ')
set_option maxHeartbeats 1500000 in
set_option maxRecDepth 100000 in
theorem ct_G_X11_isDay (l : Launch) : CT_ l yX11_isDay cX11_isDay 2 (some .boolean) 1 25 as_G_X11_isDay (rmI_) pre_G_X11_isDay post_G_X11_isDay := by
  refine ct_of (by decide) (fun _ => Nat.le_of_ble_eq_true rfl) ?_
  intro X G Q ad σ a hl hR E hG R hM hv hp
  obtain ⟨a0, rfl⟩ : ∃ q : Int, q = a := ⟨_, rfl⟩
  have r_a0 : -9223372036854775808 ≤ a0 ∧ a0 ≤ 9223372036854775807 := hv (1, a0) (List.mem_of_getElem? (i := 0) rfl)
  have B := @bk_ X G Q 0 0 ad SHS_ RX11 cX11_isDay 2 (some .boolean) flX11 plX11 knX11 [(159, 3, TR_ as_G_X11_in (rmI_) pre_G_X11_in post_G_X11_in)] _ _ none kX11_isDay [] flX11_ok plX11_ok knX11_ok eX11_isDay oX11_isDay
    (List.forall_mem_cons.mpr ⟨cok_s (n := 3) (idx := 79) E (ct_G_X11_in X.2.1) (by rw [hR]; decide) (Nat.zero_le _) (Nat.zero_le _) hG ⟨by decide, by decide, by decide⟩ (fun _ => rfl) wl_X11_79 wt_X11_in wn_X11 wc_X11_in, fun _ h => absurd h List.not_mem_nil⟩) R sok_no E
  show WP_ X G Q 0 0 ad SHS_ σ 0 [(1, a0), (9, 0)] []
  refine B rfl ?_
  refine Exists.intro (a0, 0, 1999) (And.intro rfl (And.intro True.intro ?_))
  rintro z1 m_ h2
  obtain rfl : σ = m_ := h2.2
  have h3 : (z1 = 1 ∧ 0 ≤ a0 ∧ a0 ≤ 1999) ∨ (z1 = 0 ∧ ¬ (0 ≤ a0 ∧ a0 ≤ 1999)) := h2.1
  refine And.intro (by omega) ?_
  refine Exists.intro _ (And.intro rfl ?_)
  exact (And.intro (by show (z1 = 1 ∧ 0 ≤ a0 ∧ a0 ≤ 1999) ∨ z1 = 0; omega) rfl)
def as_G_X11_isYear : Int → List Sv_t := fun a => [(1, a)]
def pre_G_X11_isYear : Int → Me_t → Prop := fun a σ => True
def post_G_X11_isYear : Int → Me_t → Int → Me_t → Prop := fun a σ z σ' => ((z = 1 ∧ 0 ≤ a ∧ a ≤ 1999) ∨ z = 0) ∧ (σ = σ')
set_option maxHeartbeats 1500000 in
set_option maxRecDepth 100000 in
theorem ct_G_X11_isYear (l : Launch) : CT_ l yX11_isYear cX11_isYear 2 (some .boolean) 1 25 as_G_X11_isYear (rmI_) pre_G_X11_isYear post_G_X11_isYear := by
  refine ct_of (by decide) (fun _ => Nat.le_of_ble_eq_true rfl) ?_
  intro X G Q ad σ a hl hR E hG R hM hv hp
  obtain ⟨a0, rfl⟩ : ∃ q : Int, q = a := ⟨_, rfl⟩
  have r_a0 : -9223372036854775808 ≤ a0 ∧ a0 ≤ 9223372036854775807 := hv (1, a0) (List.mem_of_getElem? (i := 0) rfl)
  have B := @bk_ X G Q 0 0 ad SHS_ RX11 cX11_isYear 2 (some .boolean) flX11 plX11 knX11 [(159, 3, TR_ as_G_X11_in (rmI_) pre_G_X11_in post_G_X11_in)] _ _ none kX11_isYear [] flX11_ok plX11_ok knX11_ok eX11_isYear oX11_isYear
    (List.forall_mem_cons.mpr ⟨cok_s (n := 3) (idx := 79) E (ct_G_X11_in X.2.1) (by rw [hR]; decide) (Nat.zero_le _) (Nat.zero_le _) hG ⟨by decide, by decide, by decide⟩ (fun _ => rfl) wl_X11_79 wt_X11_in wn_X11 wc_X11_in, fun _ h => absurd h List.not_mem_nil⟩) R sok_no E
  show WP_ X G Q 0 0 ad SHS_ σ 0 [(1, a0), (9, 0)] []
  refine B rfl ?_
  refine Exists.intro (a0, 0, 1999) (And.intro rfl (And.intro True.intro ?_))
  rintro z1 m_ h2
  obtain rfl : σ = m_ := h2.2
  have h3 : (z1 = 1 ∧ 0 ≤ a0 ∧ a0 ≤ 1999) ∨ (z1 = 0 ∧ ¬ (0 ≤ a0 ∧ a0 ≤ 1999)) := h2.1
  refine And.intro (by omega) ?_
  refine Exists.intro _ (And.intro rfl ?_)
  exact (And.intro (by show (z1 = 1 ∧ 0 ≤ a0 ∧ a0 ≤ 1999) ∨ z1 = 0; omega) rfl)
def as_G_X11_isSpan : Int × Int → List Sv_t := fun a => [(0, a.1), (0, a.2)]
def pre_G_X11_isSpan : Int × Int → Me_t → Prop := fun a σ => True
def post_G_X11_isSpan : Int × Int → Me_t → Int → Me_t → Prop := fun a σ z σ' => ((z = 1 ∧ 0 ≤ a.1 ∧ a.1 ≤ a.2 ∧ a.2 ≤ 1999) ∨ z = 0) ∧ (σ = σ')
set_option maxHeartbeats 1500000 in
set_option maxRecDepth 100000 in
theorem ct_G_X11_isSpan (l : Launch) : CT_ l yX11_isSpan cX11_isSpan 2 (some .boolean) 2 46 as_G_X11_isSpan (rmI_) pre_G_X11_isSpan post_G_X11_isSpan := by
  refine ct_of (by decide) (fun _ => Nat.le_of_ble_eq_true rfl) ?_
  intro X G Q ad σ a hl hR E hG R hM hv hp
  obtain ⟨a0, a1⟩ := a
  have r_a0 : -2147483648 ≤ a0 ∧ a0 ≤ 2147483647 := hv (0, a0) (List.mem_of_getElem? (i := 0) rfl)
  have r_a1 : -2147483648 ≤ a1 ∧ a1 ≤ 2147483647 := hv (0, a1) (List.mem_of_getElem? (i := 1) rfl)
  have B := @bk_ X G Q 0 0 ad SHS_ RX11 cX11_isSpan 2 (some .boolean) flX11 plX11 knX11 [(179, 1, TR_ as_G_X11_isDay (rmI_) pre_G_X11_isDay post_G_X11_isDay)] _ _ none kX11_isSpan [] flX11_ok plX11_ok knX11_ok eX11_isSpan oX11_isSpan
    (List.forall_mem_cons.mpr ⟨cok_s (n := 1) (idx := 89) E (ct_G_X11_isDay X.2.1) (by rw [hR]; decide) (Nat.zero_le _) (Nat.zero_le _) hG ⟨by decide, by decide, by decide⟩ (fun _ => rfl) wl_X11_89 wt_X11_isDay wn_X11 wc_X11_isDay, fun _ h => absurd h List.not_mem_nil⟩) R sok_no E
  show WP_ X G Q 0 0 ad SHS_ σ 0 [(0, a0), (0, a1)] []
  refine B rfl ?_
  refine Exists.intro a0 (And.intro rfl (And.intro True.intro ?_))
  rintro z1 m_ h2
  obtain rfl : σ = m_ := h2.2
  have h3 : (z1 = 1 ∧ 0 ≤ a0 ∧ a0 ≤ 1999) ∨ z1 = 0 := h2.1
  refine And.intro (fun h4 => ?_) (fun h4 => ?_)
  · skip
    refine B rfl ?_
    refine And.intro (by omega) ?_
    refine Exists.intro _ (And.intro rfl ?_)
    exact (And.intro (by show (0 = 1 ∧ 0 ≤ a0 ∧ a0 ≤ a1 ∧ a1 ≤ 1999) ∨ 0 = 0; omega) rfl)
  · skip
    refine Exists.intro a1 (And.intro rfl (And.intro True.intro ?_))
    rintro z5 m_ h6
    obtain rfl : σ = m_ := h6.2
    have h7 : (z5 = 1 ∧ 0 ≤ a1 ∧ a1 ≤ 1999) ∨ z5 = 0 := h6.1
    refine And.intro (fun h8 => ?_) (fun h8 => ?_)
    · skip
      refine B rfl ?_
      refine And.intro (by omega) ?_
      refine Exists.intro _ (And.intro rfl ?_)
      exact (And.intro (by show (0 = 1 ∧ 0 ≤ a0 ∧ a0 ≤ a1 ∧ a1 ≤ 1999) ∨ 0 = 0; omega) rfl)
    · skip
      refine And.intro (fun h9 => ?_) (fun h9 => ?_)
      · skip
        refine B rfl ?_
        refine And.intro (by omega) ?_
        refine Exists.intro _ (And.intro rfl ?_)
        exact (And.intro (by show (0 = 1 ∧ 0 ≤ a0 ∧ a0 ≤ a1 ∧ a1 ≤ 1999) ∨ 0 = 0; omega) rfl)
      · skip
        refine B rfl ?_
        refine And.intro (by omega) ?_
        refine Exists.intro _ (And.intro rfl ?_)
        exact (And.intro (by show (1 = 1 ∧ 0 ≤ a0 ∧ a0 ≤ a1 ∧ a1 ≤ 1999) ∨ 1 = 0; omega) rfl)
def as_G_X11_isSlot : Int → List Sv_t := fun a => [(0, a)]
def pre_G_X11_isSlot : Int → Me_t → Prop := fun a σ => True
def post_G_X11_isSlot : Int → Me_t → Int → Me_t → Prop := fun a σ z σ' => ((z = 1 ∧ 0 ≤ a ∧ a ≤ 3) ∨ (z = 0 ∧ ¬ (0 ≤ a ∧ a ≤ 3))) ∧ (σ = σ')
set_option maxHeartbeats 1500000 in
set_option maxRecDepth 100000 in
theorem ct_G_X11_isSlot (l : Launch) : CT_ l yX11_isSlot cX11_isSlot 1 (some .boolean) 1 25 as_G_X11_isSlot (rmI_) pre_G_X11_isSlot post_G_X11_isSlot := by
  refine ct_of (by decide) (fun _ => Nat.le_of_ble_eq_true rfl) ?_
  intro X G Q ad σ a hl hR E hG R hM hv hp
  obtain ⟨a0, rfl⟩ : ∃ q : Int, q = a := ⟨_, rfl⟩
  have r_a0 : -2147483648 ≤ a0 ∧ a0 ≤ 2147483647 := hv (0, a0) (List.mem_of_getElem? (i := 0) rfl)
  have B := @bk_ X G Q 0 0 ad SHS_ RX11 cX11_isSlot 1 (some .boolean) flX11 plX11 knX11 [(159, 3, TR_ as_G_X11_in (rmI_) pre_G_X11_in post_G_X11_in)] _ _ none kX11_isSlot [] flX11_ok plX11_ok knX11_ok eX11_isSlot oX11_isSlot
    (List.forall_mem_cons.mpr ⟨cok_s (n := 3) (idx := 79) E (ct_G_X11_in X.2.1) (by rw [hR]; decide) (Nat.zero_le _) (Nat.zero_le _) hG ⟨by decide, by decide, by decide⟩ (fun _ => rfl) wl_X11_79 wt_X11_in wn_X11 wc_X11_in, fun _ h => absurd h List.not_mem_nil⟩) R sok_no E
  show WP_ X G Q 0 0 ad SHS_ σ 0 [(0, a0)] []
  refine B rfl ?_
  refine Exists.intro (a0, 0, 3) (And.intro rfl (And.intro True.intro ?_))
  rintro z1 m_ h2
  obtain rfl : σ = m_ := h2.2
  have h3 : (z1 = 1 ∧ 0 ≤ a0 ∧ a0 ≤ 3) ∨ (z1 = 0 ∧ ¬ (0 ≤ a0 ∧ a0 ≤ 3)) := h2.1
  refine And.intro (by omega) ?_
  refine Exists.intro _ (And.intro rfl ?_)
  exact (And.intro (by show (z1 = 1 ∧ 0 ≤ a0 ∧ a0 ≤ 3) ∨ (z1 = 0 ∧ ¬ (0 ≤ a0 ∧ a0 ≤ 3)); omega) rfl)
def as_G_X11_isSeed : Int → List Sv_t := fun a => [(0, a)]
def pre_G_X11_isSeed : Int → Me_t → Prop := fun a σ => True
def post_G_X11_isSeed : Int → Me_t → Int → Me_t → Prop := fun a σ z σ' => ((z = 1 ∧ 0 ≤ a ∧ a ≤ 2000000000) ∨ z = 0) ∧ (σ = σ')
set_option maxHeartbeats 1500000 in
set_option maxRecDepth 100000 in
theorem ct_G_X11_isSeed (l : Launch) : CT_ l yX11_isSeed cX11_isSeed 1 (some .boolean) 1 25 as_G_X11_isSeed (rmI_) pre_G_X11_isSeed post_G_X11_isSeed := by
  refine ct_of (by decide) (fun _ => Nat.le_of_ble_eq_true rfl) ?_
  intro X G Q ad σ a hl hR E hG R hM hv hp
  obtain ⟨a0, rfl⟩ : ∃ q : Int, q = a := ⟨_, rfl⟩
  have r_a0 : -2147483648 ≤ a0 ∧ a0 ≤ 2147483647 := hv (0, a0) (List.mem_of_getElem? (i := 0) rfl)
  have B := @bk_ X G Q 0 0 ad SHS_ RX11 cX11_isSeed 1 (some .boolean) flX11 plX11 knX11 [(159, 3, TR_ as_G_X11_in (rmI_) pre_G_X11_in post_G_X11_in)] _ _ none kX11_isSeed [] flX11_ok plX11_ok knX11_ok eX11_isSeed oX11_isSeed
    (List.forall_mem_cons.mpr ⟨cok_s (n := 3) (idx := 79) E (ct_G_X11_in X.2.1) (by rw [hR]; decide) (Nat.zero_le _) (Nat.zero_le _) hG ⟨by decide, by decide, by decide⟩ (fun _ => rfl) wl_X11_79 wt_X11_in wn_X11 wc_X11_in, fun _ h => absurd h List.not_mem_nil⟩) R sok_no E
  show WP_ X G Q 0 0 ad SHS_ σ 0 [(0, a0)] []
  refine B rfl ?_
  refine Exists.intro (a0, 0, 2000000000) (And.intro rfl (And.intro True.intro ?_))
  rintro z1 m_ h2
  obtain rfl : σ = m_ := h2.2
  have h3 : (z1 = 1 ∧ 0 ≤ a0 ∧ a0 ≤ 2000000000) ∨ (z1 = 0 ∧ ¬ (0 ≤ a0 ∧ a0 ≤ 2000000000)) := h2.1
  refine And.intro (by omega) ?_
  refine Exists.intro _ (And.intro rfl ?_)
  exact (And.intro (by show (z1 = 1 ∧ 0 ≤ a0 ∧ a0 ≤ 2000000000) ∨ z1 = 0; omega) rfl)
def as_G_X11_allLands : Unit → List Sv_t := fun a => [(42, 86)]
def pre_G_X11_allLands : Unit → Me_t → Prop := fun a σ => (BW σ 87)
def post_G_X11_allLands : Unit → Me_t → Int → Me_t → Prop := fun a σ z σ' => (0 ≤ z ∧ z ≤ 7) ∧ (σ = σ')
set_option maxHeartbeats 1500000 in
set_option maxRecDepth 100000 in
theorem ct_G_X11_allLands (l : Launch) : CT_ l yX11_allLands cX11_allLands 1 (some .int) 0 0 as_G_X11_allLands (rmI_) pre_G_X11_allLands post_G_X11_allLands := by
  refine ct_of (by decide) (fun _ => Nat.le_of_ble_eq_true rfl) ?_
  intro X G Q ad σ a hl hR E hG R hM hv hp
  have hp0 : BW σ 87 := hp
  have B := @bk_ X G Q 0 0 ad SHS_ RX11 cX11_allLands 1 (some .int) flX11 plX11 knX11 [] _ _ none kX11_allLands [] flX11_ok plX11_ok knX11_ok eX11_allLands oX11_allLands
    (fun _ h => absurd h List.not_mem_nil) R sok_no E
  show WP_ X G Q 0 0 ad SHS_ σ 0 [(42, 86)] []
  refine B rfl ?_
  refine And.intro (by omega) ?_
  intro z1 ez1 hz1
  have hz1 : ((-1) : Int) ≤ z1 ∧ z1 ≤ (1999 : Int) := hz1
  have b2 := wrh_ hp0 (i := 1) (by omega)
  have b2 : (0 : Int) ≤ σ 87 1 ∧ σ 87 1 ≤ (3 : Int) := b2
  try have q3 := shl3_1 (b := z1) (by omega) (by omega)
  try have q4 := shl3_b (b := z1) (by omega) (by omega)
  refine And.intro (by omega) ?_
  refine Exists.intro _ (And.intro rfl ?_)
  exact (And.intro (by show 0 ≤ ((shl3_ 1 z1) - 1) ∧ ((shl3_ 1 z1) - 1) ≤ 7; omega) rfl)
def as_G_X11_isSet : Int → List Sv_t := fun a => [(42, 86), (0, a)]
def pre_G_X11_isSet : Int → Me_t → Prop := fun a σ => (BW σ 87)
def post_G_X11_isSet : Int → Me_t → Int → Me_t → Prop := fun a σ z σ' => (0 ≤ z ∧ z ≤ 1) ∧ (σ = σ')
set_option maxHeartbeats 1500000 in
set_option maxRecDepth 100000 in
theorem ct_G_X11_isSet (l : Launch) : CT_ l yX11_isSet cX11_isSet 2 (some .boolean) 1 25 as_G_X11_isSet (rmI_) pre_G_X11_isSet post_G_X11_isSet := by
  refine ct_of (by decide) (fun _ => Nat.le_of_ble_eq_true rfl) ?_
  intro X G Q ad σ a hl hR E hG R hM hv hp
  obtain ⟨a1, rfl⟩ : ∃ q : Int, q = a := ⟨_, rfl⟩
  have r_a1 : -2147483648 ≤ a1 ∧ a1 ≤ 2147483647 := hv (0, a1) (List.mem_of_getElem? (i := 1) rfl)
  have hp0 : BW σ 87 := hp
  have B := @bk_ X G Q 0 0 ad SHS_ RX11 cX11_isSet 2 (some .boolean) flX11 plX11 knX11 [(184, 1, TR_ as_G_X11_isWar (rmI_) pre_G_X11_isWar post_G_X11_isWar), (192, 1, TR_ as_G_X11_allLands (rmI_) pre_G_X11_allLands post_G_X11_allLands), (159, 3, TR_ as_G_X11_in (rmI_) pre_G_X11_in post_G_X11_in)] _ _ none kX11_isSet [] flX11_ok plX11_ok knX11_ok eX11_isSet oX11_isSet
    (List.forall_mem_cons.mpr ⟨cok_v (t := 32) (c := 11) (N := 39) (n := 0) (idx := 92) E (ct_G_X11_isWar X.2.1) (by rw [hR]; decide) (Nat.zero_le _) (Nat.zero_le _) hG rfl rfl ⟨rfl, by decide, by decide, by decide⟩ (fun _ => ⟨_, _, rfl, rfl⟩) wl_X11_92 wi_X11_isWar ws_X11_isWar wn_X11 wc_X11_isWar, List.forall_mem_cons.mpr ⟨cok_v (t := 32) (c := 11) (N := 39) (n := 0) (idx := 96) E (ct_G_X11_allLands X.2.1) (by rw [hR]; decide) (Nat.zero_le _) (Nat.zero_le _) hG rfl rfl ⟨rfl, by decide, by decide, by decide⟩ (fun _ => ⟨_, _, rfl, rfl⟩) wl_X11_96 wi_X11_allLands ws_X11_allLands wn_X11 wc_X11_allLands, List.forall_mem_cons.mpr ⟨cok_s (n := 3) (idx := 79) E (ct_G_X11_in X.2.1) (by rw [hR]; decide) (Nat.zero_le _) (Nat.zero_le _) hG ⟨by decide, by decide, by decide⟩ (fun _ => rfl) wl_X11_79 wt_X11_in wn_X11 wc_X11_in, fun _ h => absurd h List.not_mem_nil⟩⟩⟩) R sok_no E
  show WP_ X G Q 0 0 ad SHS_ σ 0 [(42, 86), (0, a1)] []
  refine B rfl ?_
  refine Exists.intro () (And.intro rfl (And.intro True.intro ?_))
  rintro z1 m_ h2
  obtain rfl : σ = m_ := h2.2
  have h3 : 0 ≤ z1 ∧ z1 ≤ 1 := h2.1
  refine And.intro (fun h4 => ?_) (fun h4 => ?_)
  · skip
    refine B rfl ?_
    refine And.intro (by omega) ?_
    refine Exists.intro _ (And.intro rfl ?_)
    exact (And.intro (by show 0 ≤ 0 ∧ 0 ≤ 1; omega) rfl)
  · skip
    refine Exists.intro () (And.intro rfl (And.intro hp0 ?_))
    rintro z5 m_ h6
    obtain rfl : σ = m_ := h6.2
    have h7 : 0 ≤ z5 ∧ z5 ≤ 7 := h6.1
    refine Exists.intro (a1, 0, z5) (And.intro rfl (And.intro True.intro ?_))
    rintro z8 m_ h9
    obtain rfl : σ = m_ := h9.2
    have h10 : (z8 = 1 ∧ 0 ≤ a1 ∧ a1 ≤ z5) ∨ (z8 = 0 ∧ ¬ (0 ≤ a1 ∧ a1 ≤ z5)) := h9.1
    refine And.intro (fun h11 => ?_) (fun h11 => ?_)
    · skip
      refine B rfl ?_
      refine And.intro (by omega) ?_
      refine Exists.intro _ (And.intro rfl ?_)
      exact (And.intro (by show 0 ≤ 0 ∧ 0 ≤ 1; omega) rfl)
    · skip
      refine B rfl ?_
      refine And.intro (by omega) ?_
      refine Exists.intro _ (And.intro rfl ?_)
      exact (And.intro (by show 0 ≤ 1 ∧ 1 ≤ 1; omega) rfl)
def as_G_X11_of_0 : Int → List Sv_t := fun a => [(42, 86), (0, a), (0, 0)]
def pre_G_X11_of_0 : Int → Me_t → Prop := fun a σ => (BW σ 87) ∧ (0 ≤ a) ∧ (a ≤ 2)
def post_G_X11_of_0 : Int → Me_t → Int → Me_t → Prop := fun a σ z σ' => (z = σ 87 (6 + 15 * a + 0)) ∧ (0 ≤ z ∧ z ≤ 999) ∧ (σ = σ')
set_option maxHeartbeats 1500000 in
set_option maxRecDepth 100000 in
theorem ct_G_X11_of_0 (l : Launch) : CT_ l yX11_of cX11_of 3 (some .int) 0 0 as_G_X11_of_0 (rmI_) pre_G_X11_of_0 post_G_X11_of_0 := by
  refine ct_of (by decide) (fun _ => Nat.le_of_ble_eq_true rfl) ?_
  intro X G Q ad σ a hl hR E hG R hM hv hp
  obtain ⟨a1, rfl⟩ : ∃ q : Int, q = a := ⟨_, rfl⟩
  have r_a1 : -2147483648 ≤ a1 ∧ a1 ≤ 2147483647 := hv (0, a1) (List.mem_of_getElem? (i := 1) rfl)
  have hp0 : BW σ 87 := hp.1
  have hp1 : 0 ≤ a1 := hp.2.1
  have hp2 : a1 ≤ 2 := hp.2.2
  have B := @bk_ X G Q 0 0 ad SHS_ RX11 cX11_of 3 (some .int) flX11 plX11 knX11 [] _ _ none kX11_of [] flX11_ok plX11_ok knX11_ok eX11_of oX11_of
    (fun _ h => absurd h List.not_mem_nil) R sok_no E
  show WP_ X G Q 0 0 ad SHS_ σ 0 [(42, 86), (0, a1), (0, 0)] []
  refine B rfl ?_
  refine And.intro (by omega) ?_
  refine And.intro (by omega) ?_
  refine And.intro (by omega) ?_
  refine And.intro (by omega) ?_
  intro z1 ez1 hz1
  have hz1 : ((-1) : Int) ≤ z1 ∧ z1 ≤ (1999 : Int) := hz1
  have hw := wrl_ hp0 (x := 6 + 15 * a1 + 0) (l := a1) (w := 0) rfl (by omega) (by omega)
  have hw : (0 : Int) ≤ σ 87 (6 + 15 * a1 + 0) ∧ σ 87 (6 + 15 * a1 + 0) ≤ (999 : Int) := hw
  refine Exists.intro _ (And.intro rfl ?_)
  exact (And.intro (by show z1 = σ 87 (6 + 15 * a1 + 0); omega) (And.intro (by show 0 ≤ z1 ∧ z1 ≤ 999; omega) rfl))
def as_G_X11_of_1 : Int → List Sv_t := fun a => [(42, 86), (0, a), (0, 1)]
def pre_G_X11_of_1 : Int → Me_t → Prop := fun a σ => (BW σ 87) ∧ (0 ≤ a) ∧ (a ≤ 2)
def post_G_X11_of_1 : Int → Me_t → Int → Me_t → Prop := fun a σ z σ' => (z = σ 87 (6 + 15 * a + 1)) ∧ (0 ≤ z ∧ z ≤ 10) ∧ (σ = σ')
set_option maxHeartbeats 1500000 in
set_option maxRecDepth 100000 in
theorem ct_G_X11_of_1 (l : Launch) : CT_ l yX11_of cX11_of 3 (some .int) 0 0 as_G_X11_of_1 (rmI_) pre_G_X11_of_1 post_G_X11_of_1 := by
  refine ct_of (by decide) (fun _ => Nat.le_of_ble_eq_true rfl) ?_
  intro X G Q ad σ a hl hR E hG R hM hv hp
  obtain ⟨a1, rfl⟩ : ∃ q : Int, q = a := ⟨_, rfl⟩
  have r_a1 : -2147483648 ≤ a1 ∧ a1 ≤ 2147483647 := hv (0, a1) (List.mem_of_getElem? (i := 1) rfl)
  have hp0 : BW σ 87 := hp.1
  have hp1 : 0 ≤ a1 := hp.2.1
  have hp2 : a1 ≤ 2 := hp.2.2
  have B := @bk_ X G Q 0 0 ad SHS_ RX11 cX11_of 3 (some .int) flX11 plX11 knX11 [] _ _ none kX11_of [] flX11_ok plX11_ok knX11_ok eX11_of oX11_of
    (fun _ h => absurd h List.not_mem_nil) R sok_no E
  show WP_ X G Q 0 0 ad SHS_ σ 0 [(42, 86), (0, a1), (0, 1)] []
  refine B rfl ?_
  refine And.intro (by omega) ?_
  refine And.intro (by omega) ?_
  refine And.intro (by omega) ?_
  refine And.intro (by omega) ?_
  intro z1 ez1 hz1
  have hz1 : ((-1) : Int) ≤ z1 ∧ z1 ≤ (1999 : Int) := hz1
  have hw := wrl_ hp0 (x := 6 + 15 * a1 + 1) (l := a1) (w := 1) rfl (by omega) (by omega)
  have hw : (0 : Int) ≤ σ 87 (6 + 15 * a1 + 1) ∧ σ 87 (6 + 15 * a1 + 1) ≤ (10 : Int) := hw
  refine Exists.intro _ (And.intro rfl ?_)
  exact (And.intro (by show z1 = σ 87 (6 + 15 * a1 + 1); omega) (And.intro (by show 0 ≤ z1 ∧ z1 ≤ 10; omega) rfl))
def as_G_X11_of_2 : Int → List Sv_t := fun a => [(42, 86), (0, a), (0, 2)]
def pre_G_X11_of_2 : Int → Me_t → Prop := fun a σ => (BW σ 87) ∧ (0 ≤ a) ∧ (a ≤ 2)
def post_G_X11_of_2 : Int → Me_t → Int → Me_t → Prop := fun a σ z σ' => (z = σ 87 (6 + 15 * a + 2)) ∧ (0 ≤ z ∧ z ≤ 1022) ∧ (σ = σ')
set_option maxHeartbeats 1500000 in
set_option maxRecDepth 100000 in
theorem ct_G_X11_of_2 (l : Launch) : CT_ l yX11_of cX11_of 3 (some .int) 0 0 as_G_X11_of_2 (rmI_) pre_G_X11_of_2 post_G_X11_of_2 := by
  refine ct_of (by decide) (fun _ => Nat.le_of_ble_eq_true rfl) ?_
  intro X G Q ad σ a hl hR E hG R hM hv hp
  obtain ⟨a1, rfl⟩ : ∃ q : Int, q = a := ⟨_, rfl⟩
  have r_a1 : -2147483648 ≤ a1 ∧ a1 ≤ 2147483647 := hv (0, a1) (List.mem_of_getElem? (i := 1) rfl)
  have hp0 : BW σ 87 := hp.1
  have hp1 : 0 ≤ a1 := hp.2.1
  have hp2 : a1 ≤ 2 := hp.2.2
  have B := @bk_ X G Q 0 0 ad SHS_ RX11 cX11_of 3 (some .int) flX11 plX11 knX11 [] _ _ none kX11_of [] flX11_ok plX11_ok knX11_ok eX11_of oX11_of
    (fun _ h => absurd h List.not_mem_nil) R sok_no E
  show WP_ X G Q 0 0 ad SHS_ σ 0 [(42, 86), (0, a1), (0, 2)] []
  refine B rfl ?_
  refine And.intro (by omega) ?_
  refine And.intro (by omega) ?_
  refine And.intro (by omega) ?_
  refine And.intro (by omega) ?_
  intro z1 ez1 hz1
  have hz1 : ((-1) : Int) ≤ z1 ∧ z1 ≤ (1999 : Int) := hz1
  have hw := wrl_ hp0 (x := 6 + 15 * a1 + 2) (l := a1) (w := 2) rfl (by omega) (by omega)
  have hw : (0 : Int) ≤ σ 87 (6 + 15 * a1 + 2) ∧ σ 87 (6 + 15 * a1 + 2) ≤ (1022 : Int) := hw
  refine Exists.intro _ (And.intro rfl ?_)
  exact (And.intro (by show z1 = σ 87 (6 + 15 * a1 + 2); omega) (And.intro (by show 0 ≤ z1 ∧ z1 ≤ 1022; omega) rfl))
def as_G_X11_of_3 : Int → List Sv_t := fun a => [(42, 86), (0, a), (0, 3)]
def pre_G_X11_of_3 : Int → Me_t → Prop := fun a σ => (BW σ 87) ∧ (0 ≤ a) ∧ (a ≤ 2)
def post_G_X11_of_3 : Int → Me_t → Int → Me_t → Prop := fun a σ z σ' => (z = σ 87 (6 + 15 * a + 3)) ∧ (0 ≤ z ∧ z ≤ 8) ∧ (σ = σ')
set_option maxHeartbeats 1500000 in
set_option maxRecDepth 100000 in
theorem ct_G_X11_of_3 (l : Launch) : CT_ l yX11_of cX11_of 3 (some .int) 0 0 as_G_X11_of_3 (rmI_) pre_G_X11_of_3 post_G_X11_of_3 := by
  refine ct_of (by decide) (fun _ => Nat.le_of_ble_eq_true rfl) ?_
  intro X G Q ad σ a hl hR E hG R hM hv hp
  obtain ⟨a1, rfl⟩ : ∃ q : Int, q = a := ⟨_, rfl⟩
  have r_a1 : -2147483648 ≤ a1 ∧ a1 ≤ 2147483647 := hv (0, a1) (List.mem_of_getElem? (i := 1) rfl)
  have hp0 : BW σ 87 := hp.1
  have hp1 : 0 ≤ a1 := hp.2.1
  have hp2 : a1 ≤ 2 := hp.2.2
  have B := @bk_ X G Q 0 0 ad SHS_ RX11 cX11_of 3 (some .int) flX11 plX11 knX11 [] _ _ none kX11_of [] flX11_ok plX11_ok knX11_ok eX11_of oX11_of
    (fun _ h => absurd h List.not_mem_nil) R sok_no E
  show WP_ X G Q 0 0 ad SHS_ σ 0 [(42, 86), (0, a1), (0, 3)] []
  refine B rfl ?_
  refine And.intro (by omega) ?_
  refine And.intro (by omega) ?_
  refine And.intro (by omega) ?_
  refine And.intro (by omega) ?_
  intro z1 ez1 hz1
  have hz1 : ((-1) : Int) ≤ z1 ∧ z1 ≤ (1999 : Int) := hz1
  have hw := wrl_ hp0 (x := 6 + 15 * a1 + 3) (l := a1) (w := 3) rfl (by omega) (by omega)
  have hw : (0 : Int) ≤ σ 87 (6 + 15 * a1 + 3) ∧ σ 87 (6 + 15 * a1 + 3) ≤ (8 : Int) := hw
  refine Exists.intro _ (And.intro rfl ?_)
  exact (And.intro (by show z1 = σ 87 (6 + 15 * a1 + 3); omega) (And.intro (by show 0 ≤ z1 ∧ z1 ≤ 8; omega) rfl))
def as_G_X11_of_4 : Int → List Sv_t := fun a => [(42, 86), (0, a), (0, 4)]
def pre_G_X11_of_4 : Int → Me_t → Prop := fun a σ => (BW σ 87) ∧ (0 ≤ a) ∧ (a ≤ 2)
def post_G_X11_of_4 : Int → Me_t → Int → Me_t → Prop := fun a σ z σ' => (z = σ 87 (6 + 15 * a + 4)) ∧ (0 ≤ z ∧ z ≤ 9) ∧ (σ = σ')
set_option maxHeartbeats 1500000 in
set_option maxRecDepth 100000 in
theorem ct_G_X11_of_4 (l : Launch) : CT_ l yX11_of cX11_of 3 (some .int) 0 0 as_G_X11_of_4 (rmI_) pre_G_X11_of_4 post_G_X11_of_4 := by
  refine ct_of (by decide) (fun _ => Nat.le_of_ble_eq_true rfl) ?_
  intro X G Q ad σ a hl hR E hG R hM hv hp
  obtain ⟨a1, rfl⟩ : ∃ q : Int, q = a := ⟨_, rfl⟩
  have r_a1 : -2147483648 ≤ a1 ∧ a1 ≤ 2147483647 := hv (0, a1) (List.mem_of_getElem? (i := 1) rfl)
  have hp0 : BW σ 87 := hp.1
  have hp1 : 0 ≤ a1 := hp.2.1
  have hp2 : a1 ≤ 2 := hp.2.2
  have B := @bk_ X G Q 0 0 ad SHS_ RX11 cX11_of 3 (some .int) flX11 plX11 knX11 [] _ _ none kX11_of [] flX11_ok plX11_ok knX11_ok eX11_of oX11_of
    (fun _ h => absurd h List.not_mem_nil) R sok_no E
  show WP_ X G Q 0 0 ad SHS_ σ 0 [(42, 86), (0, a1), (0, 4)] []
  refine B rfl ?_
  refine And.intro (by omega) ?_
  refine And.intro (by omega) ?_
  refine And.intro (by omega) ?_
  refine And.intro (by omega) ?_
  intro z1 ez1 hz1
  have hz1 : ((-1) : Int) ≤ z1 ∧ z1 ≤ (1999 : Int) := hz1
  have hw := wrl_ hp0 (x := 6 + 15 * a1 + 4) (l := a1) (w := 4) rfl (by omega) (by omega)
  have hw : (0 : Int) ≤ σ 87 (6 + 15 * a1 + 4) ∧ σ 87 (6 + 15 * a1 + 4) ≤ (9 : Int) := hw
  refine Exists.intro _ (And.intro rfl ?_)
  exact (And.intro (by show z1 = σ 87 (6 + 15 * a1 + 4); omega) (And.intro (by show 0 ≤ z1 ∧ z1 ≤ 9; omega) rfl))
def as_G_X11_of_5 : Int → List Sv_t := fun a => [(42, 86), (0, a), (0, 5)]
def pre_G_X11_of_5 : Int → Me_t → Prop := fun a σ => (BW σ 87) ∧ (0 ≤ a) ∧ (a ≤ 2)
def post_G_X11_of_5 : Int → Me_t → Int → Me_t → Prop := fun a σ z σ' => (z = σ 87 (6 + 15 * a + 5)) ∧ ((-1) ≤ z ∧ z ≤ 7) ∧ (σ = σ')
set_option maxHeartbeats 1500000 in
set_option maxRecDepth 100000 in
theorem ct_G_X11_of_5 (l : Launch) : CT_ l yX11_of cX11_of 3 (some .int) 0 0 as_G_X11_of_5 (rmI_) pre_G_X11_of_5 post_G_X11_of_5 := by
  refine ct_of (by decide) (fun _ => Nat.le_of_ble_eq_true rfl) ?_
  intro X G Q ad σ a hl hR E hG R hM hv hp
  obtain ⟨a1, rfl⟩ : ∃ q : Int, q = a := ⟨_, rfl⟩
  have r_a1 : -2147483648 ≤ a1 ∧ a1 ≤ 2147483647 := hv (0, a1) (List.mem_of_getElem? (i := 1) rfl)
  have hp0 : BW σ 87 := hp.1
  have hp1 : 0 ≤ a1 := hp.2.1
  have hp2 : a1 ≤ 2 := hp.2.2
  have B := @bk_ X G Q 0 0 ad SHS_ RX11 cX11_of 3 (some .int) flX11 plX11 knX11 [] _ _ none kX11_of [] flX11_ok plX11_ok knX11_ok eX11_of oX11_of
    (fun _ h => absurd h List.not_mem_nil) R sok_no E
  show WP_ X G Q 0 0 ad SHS_ σ 0 [(42, 86), (0, a1), (0, 5)] []
  refine B rfl ?_
  refine And.intro (by omega) ?_
  refine And.intro (by omega) ?_
  refine And.intro (by omega) ?_
  refine And.intro (by omega) ?_
  intro z1 ez1 hz1
  have hz1 : ((-1) : Int) ≤ z1 ∧ z1 ≤ (1999 : Int) := hz1
  have hw := wrl_ hp0 (x := 6 + 15 * a1 + 5) (l := a1) (w := 5) rfl (by omega) (by omega)
  have hw : ((-1) : Int) ≤ σ 87 (6 + 15 * a1 + 5) ∧ σ 87 (6 + 15 * a1 + 5) ≤ (7 : Int) := hw
  refine Exists.intro _ (And.intro rfl ?_)
  exact (And.intro (by show z1 = σ 87 (6 + 15 * a1 + 5); omega) (And.intro (by show (-1) ≤ z1 ∧ z1 ≤ 7; omega) rfl))
def as_G_X11_of_6 : Int → List Sv_t := fun a => [(42, 86), (0, a), (0, 6)]
def pre_G_X11_of_6 : Int → Me_t → Prop := fun a σ => (BW σ 87) ∧ (0 ≤ a) ∧ (a ≤ 2)
def post_G_X11_of_6 : Int → Me_t → Int → Me_t → Prop := fun a σ z σ' => (z = σ 87 (6 + 15 * a + 6)) ∧ (0 ≤ z ∧ z ≤ 9) ∧ (σ = σ')
set_option maxHeartbeats 1500000 in
set_option maxRecDepth 100000 in
theorem ct_G_X11_of_6 (l : Launch) : CT_ l yX11_of cX11_of 3 (some .int) 0 0 as_G_X11_of_6 (rmI_) pre_G_X11_of_6 post_G_X11_of_6 := by
  refine ct_of (by decide) (fun _ => Nat.le_of_ble_eq_true rfl) ?_
  intro X G Q ad σ a hl hR E hG R hM hv hp
  obtain ⟨a1, rfl⟩ : ∃ q : Int, q = a := ⟨_, rfl⟩
  have r_a1 : -2147483648 ≤ a1 ∧ a1 ≤ 2147483647 := hv (0, a1) (List.mem_of_getElem? (i := 1) rfl)
  have hp0 : BW σ 87 := hp.1
  have hp1 : 0 ≤ a1 := hp.2.1
  have hp2 : a1 ≤ 2 := hp.2.2
  have B := @bk_ X G Q 0 0 ad SHS_ RX11 cX11_of 3 (some .int) flX11 plX11 knX11 [] _ _ none kX11_of [] flX11_ok plX11_ok knX11_ok eX11_of oX11_of
    (fun _ h => absurd h List.not_mem_nil) R sok_no E
  show WP_ X G Q 0 0 ad SHS_ σ 0 [(42, 86), (0, a1), (0, 6)] []
  refine B rfl ?_
  refine And.intro (by omega) ?_
  refine And.intro (by omega) ?_
  refine And.intro (by omega) ?_
  refine And.intro (by omega) ?_
  intro z1 ez1 hz1
  have hz1 : ((-1) : Int) ≤ z1 ∧ z1 ≤ (1999 : Int) := hz1
  have hw := wrl_ hp0 (x := 6 + 15 * a1 + 6) (l := a1) (w := 6) rfl (by omega) (by omega)
  have hw : (0 : Int) ≤ σ 87 (6 + 15 * a1 + 6) ∧ σ 87 (6 + 15 * a1 + 6) ≤ (9 : Int) := hw
  refine Exists.intro _ (And.intro rfl ?_)
  exact (And.intro (by show z1 = σ 87 (6 + 15 * a1 + 6); omega) (And.intro (by show 0 ≤ z1 ∧ z1 ≤ 9; omega) rfl))
def as_G_X11_of_x : Int × Int → List Sv_t := fun a => [(42, 86), (0, a.1), (0, a.2)]
def pre_G_X11_of_x : Int × Int → Me_t → Prop := fun a σ => (BW σ 87) ∧ (0 ≤ a.1) ∧ (a.1 ≤ 2) ∧ (0 ≤ a.2) ∧ (a.2 ≤ 14)
def post_G_X11_of_x : Int × Int → Me_t → Int → Me_t → Prop := fun a σ z σ' => (z = σ 87 (6 + 15 * a.1 + a.2)) ∧ (-1 ≤ z ∧ z ≤ 1999) ∧ (7 ≤ a.2 → 0 ≤ z ∧ z ≤ 60) ∧ (σ = σ')
set_option maxHeartbeats 1500000 in
set_option maxRecDepth 100000 in
theorem ct_G_X11_of_x (l : Launch) : CT_ l yX11_of cX11_of 3 (some .int) 0 0 as_G_X11_of_x (rmI_) pre_G_X11_of_x post_G_X11_of_x := by
  refine ct_of (by decide) (fun _ => Nat.le_of_ble_eq_true rfl) ?_
  intro X G Q ad σ a hl hR E hG R hM hv hp
  obtain ⟨a1, a2⟩ := a
  have r_a1 : -2147483648 ≤ a1 ∧ a1 ≤ 2147483647 := hv (0, a1) (List.mem_of_getElem? (i := 1) rfl)
  have r_a2 : -2147483648 ≤ a2 ∧ a2 ≤ 2147483647 := hv (0, a2) (List.mem_of_getElem? (i := 2) rfl)
  have hp0 : BW σ 87 := hp.1
  have hp1 : 0 ≤ a1 := hp.2.1
  have hp2 : a1 ≤ 2 := hp.2.2.1
  have hp3 : 0 ≤ a2 := hp.2.2.2.1
  have hp4 : a2 ≤ 14 := hp.2.2.2.2
  have B := @bk_ X G Q 0 0 ad SHS_ RX11 cX11_of 3 (some .int) flX11 plX11 knX11 [] _ _ none kX11_of [] flX11_ok plX11_ok knX11_ok eX11_of oX11_of
    (fun _ h => absurd h List.not_mem_nil) R sok_no E
  show WP_ X G Q 0 0 ad SHS_ σ 0 [(42, 86), (0, a1), (0, a2)] []
  refine B rfl ?_
  refine And.intro (by omega) ?_
  refine And.intro (by omega) ?_
  refine And.intro (by omega) ?_
  refine And.intro (by omega) ?_
  intro z1 ez1 hz1
  have hz1 : ((-1) : Int) ≤ z1 ∧ z1 ≤ (1999 : Int) := hz1
  have hw := wrl_ hp0 (x := 6 + 15 * a1 + a2) (l := a1) (w := a2) rfl (by omega) (by omega)
  have hw2 := ld_len (w := a2)
  refine Exists.intro _ (And.intro rfl ?_)
  exact (And.intro (by show z1 = σ 87 (6 + 15 * a1 + a2); omega) (And.intro (by show -1 ≤ z1 ∧ z1 ≤ 1999; omega) (And.intro (by show 7 ≤ a2 → 0 ≤ z1 ∧ z1 ≤ 60; omega) rfl)))
def as_G_X11_isMonth : Int × Int → List Sv_t := fun a => [(42, 86), (0, a.1), (1, a.2)]
def pre_G_X11_isMonth : Int × Int → Me_t → Prop := fun a σ => (BW σ 87) ∧ (0 ≤ a.1) ∧ (a.1 ≤ 2)
def post_G_X11_isMonth : Int × Int → Me_t → Int → Me_t → Prop := fun a σ z σ' => ((z = 1 ∧ 0 ≤ a.2 ∧ a.2 ≤ 7 ∧ a.2 < σ 87 (6 + 15 * a.1 + 3)) ∨ z = 0) ∧ (σ = σ')
set_option maxHeartbeats 1500000 in
set_option maxRecDepth 100000 in
theorem ct_G_X11_isMonth (l : Launch) : CT_ l yX11_isMonth cX11_isMonth 4 (some .boolean) 1 25 as_G_X11_isMonth (rmI_) pre_G_X11_isMonth post_G_X11_isMonth := by
  refine ct_of (by decide) (fun _ => Nat.le_of_ble_eq_true rfl) ?_
  intro X G Q ad σ a hl hR E hG R hM hv hp
  obtain ⟨a1, a2⟩ := a
  have r_a1 : -2147483648 ≤ a1 ∧ a1 ≤ 2147483647 := hv (0, a1) (List.mem_of_getElem? (i := 1) rfl)
  have r_a2 : -9223372036854775808 ≤ a2 ∧ a2 ≤ 9223372036854775807 := hv (1, a2) (List.mem_of_getElem? (i := 2) rfl)
  have hp0 : BW σ 87 := hp.1
  have hp1 : 0 ≤ a1 := hp.2.1
  have hp2 : a1 ≤ 2 := hp.2.2
  have B := @bk_ X G Q 0 0 ad SHS_ RX11 cX11_isMonth 4 (some .boolean) flX11 plX11 knX11 [(200, 3, TR_ as_G_X11_of_3 (rmI_) pre_G_X11_of_3 post_G_X11_of_3), (159, 3, TR_ as_G_X11_in (rmI_) pre_G_X11_in post_G_X11_in)] _ _ none kX11_isMonth [] flX11_ok plX11_ok knX11_ok eX11_isMonth oX11_isMonth
    (List.forall_mem_cons.mpr ⟨cok_v (t := 32) (c := 11) (N := 39) (n := 2) (idx := 100) E (ct_G_X11_of_3 X.2.1) (by rw [hR]; decide) (Nat.zero_le _) (Nat.zero_le _) hG rfl rfl ⟨rfl, by decide, by decide, by decide⟩ (fun _ => ⟨_, _, rfl, rfl⟩) wl_X11_100 wi_X11_of ws_X11_of wn_X11 wc_X11_of, List.forall_mem_cons.mpr ⟨cok_s (n := 3) (idx := 79) E (ct_G_X11_in X.2.1) (by rw [hR]; decide) (Nat.zero_le _) (Nat.zero_le _) hG ⟨by decide, by decide, by decide⟩ (fun _ => rfl) wl_X11_79 wt_X11_in wn_X11 wc_X11_in, fun _ h => absurd h List.not_mem_nil⟩⟩) R sok_no E
  show WP_ X G Q 0 0 ad SHS_ σ 0 [(42, 86), (0, a1), (1, a2), (9, 0)] []
  refine B rfl ?_
  refine Exists.intro a1 (And.intro rfl (And.intro (And.intro hp0 (And.intro (by show 0 ≤ a1; omega) (by show a1 ≤ 2; omega))) ?_))
  rintro z1 m_ h2
  obtain rfl : σ = m_ := h2.2.2
  have h3 : z1 = σ 87 (6 + 15 * a1 + 3) := h2.1
  have h4 : 0 ≤ z1 ∧ z1 ≤ 8 := h2.2.1
  refine And.intro (by omega) ?_
  refine Exists.intro (a2, 0, z1 - 1) (And.intro rfl (And.intro True.intro ?_))
  rintro z5 m_ h6
  obtain rfl : σ = m_ := h6.2
  have h7 : (z5 = 1 ∧ 0 ≤ a2 ∧ a2 ≤ (z1 - 1)) ∨ (z5 = 0 ∧ ¬ (0 ≤ a2 ∧ a2 ≤ (z1 - 1))) := h6.1
  refine And.intro (by omega) ?_
  refine Exists.intro _ (And.intro rfl ?_)
  exact (And.intro (by show (z5 = 1 ∧ 0 ≤ a2 ∧ a2 ≤ 7 ∧ a2 < σ 87 (6 + 15 * a1 + 3)) ∨ z5 = 0; omega) rfl)
def as_G_X11_lengthOf : Int × Int × Int → List Sv_t := fun a => [(42, 86), (0, a.1), (0, a.2.1), (0, a.2.2)]
def pre_G_X11_lengthOf : Int × Int × Int → Me_t → Prop := fun a σ => (BW σ 87) ∧ (0 ≤ a.1) ∧ (a.1 ≤ 2) ∧ (0 ≤ a.2.1) ∧ (a.2.1 ≤ 7) ∧ (0 ≤ a.2.2)
def post_G_X11_lengthOf : Int × Int × Int → Me_t → Int → Me_t → Prop := fun a σ z σ' => (z = lenF_ (σ 87) a.1 a.2.1 a.2.2) ∧ (0 ≤ z ∧ z ≤ 69) ∧ (σ = σ')
set_option maxHeartbeats 1500000 in
set_option maxRecDepth 100000 in
theorem ct_G_X11_lengthOf (l : Launch) : CT_ l yX11_lengthOf cX11_lengthOf 4 (some .int) 1 22 as_G_X11_lengthOf (rmI_) pre_G_X11_lengthOf post_G_X11_lengthOf := by
  refine ct_of (by decide) (fun _ => Nat.le_of_ble_eq_true rfl) ?_
  intro X G Q ad σ a hl hR E hG R hM hv hp
  obtain ⟨a1, a2, a3⟩ := a
  have r_a1 : -2147483648 ≤ a1 ∧ a1 ≤ 2147483647 := hv (0, a1) (List.mem_of_getElem? (i := 1) rfl)
  have r_a2 : -2147483648 ≤ a2 ∧ a2 ≤ 2147483647 := hv (0, a2) (List.mem_of_getElem? (i := 2) rfl)
  have r_a3 : -2147483648 ≤ a3 ∧ a3 ≤ 2147483647 := hv (0, a3) (List.mem_of_getElem? (i := 3) rfl)
  have hp0 : BW σ 87 := hp.1
  have hp1 : 0 ≤ a1 := hp.2.1
  have hp2 : a1 ≤ 2 := hp.2.2.1
  have hp3 : 0 ≤ a2 := hp.2.2.2.1
  have hp4 : a2 ≤ 7 := hp.2.2.2.2.1
  have hp5 : 0 ≤ a3 := hp.2.2.2.2.2
  have B := @bk_ X G Q 0 0 ad SHS_ RX11 cX11_lengthOf 4 (some .int) flX11 plX11 knX11 [(200, 3, TOR_ (TR_ as_G_X11_of_x (rmI_) pre_G_X11_of_x post_G_X11_of_x) (TOR_ (TR_ as_G_X11_of_4 (rmI_) pre_G_X11_of_4 post_G_X11_of_4) (TOR_ (TR_ as_G_X11_of_5 (rmI_) pre_G_X11_of_5 post_G_X11_of_5) (TR_ as_G_X11_of_6 (rmI_) pre_G_X11_of_6 post_G_X11_of_6))))] _ _ none kX11_lengthOf [] flX11_ok plX11_ok knX11_ok eX11_lengthOf oX11_lengthOf
    (List.forall_mem_cons.mpr ⟨cok_or (cok_v (t := 32) (c := 11) (N := 39) (n := 2) (idx := 100) E (ct_G_X11_of_x X.2.1) (by rw [hR]; decide) (Nat.zero_le _) (Nat.zero_le _) hG rfl rfl ⟨rfl, by decide, by decide, by decide⟩ (fun _ => ⟨_, _, rfl, rfl⟩) wl_X11_100 wi_X11_of ws_X11_of wn_X11 wc_X11_of) (cok_or (cok_v (t := 32) (c := 11) (N := 39) (n := 2) (idx := 100) E (ct_G_X11_of_4 X.2.1) (by rw [hR]; decide) (Nat.zero_le _) (Nat.zero_le _) hG rfl rfl ⟨rfl, by decide, by decide, by decide⟩ (fun _ => ⟨_, _, rfl, rfl⟩) wl_X11_100 wi_X11_of ws_X11_of wn_X11 wc_X11_of) (cok_or (cok_v (t := 32) (c := 11) (N := 39) (n := 2) (idx := 100) E (ct_G_X11_of_5 X.2.1) (by rw [hR]; decide) (Nat.zero_le _) (Nat.zero_le _) hG rfl rfl ⟨rfl, by decide, by decide, by decide⟩ (fun _ => ⟨_, _, rfl, rfl⟩) wl_X11_100 wi_X11_of ws_X11_of wn_X11 wc_X11_of) (cok_v (t := 32) (c := 11) (N := 39) (n := 2) (idx := 100) E (ct_G_X11_of_6 X.2.1) (by rw [hR]; decide) (Nat.zero_le _) (Nat.zero_le _) hG rfl rfl ⟨rfl, by decide, by decide, by decide⟩ (fun _ => ⟨_, _, rfl, rfl⟩) wl_X11_100 wi_X11_of ws_X11_of wn_X11 wc_X11_of))), fun _ h => absurd h List.not_mem_nil⟩) R sok_no E
  show WP_ X G Q 0 0 ad SHS_ σ 0 [(42, 86), (0, a1), (0, a2), (0, a3)] []
  refine B rfl ?_
  refine And.intro (by omega) ?_
  refine Or.inl ?_
  refine Exists.intro (a1, 7 + a2) (And.intro rfl (And.intro (And.intro hp0 (And.intro (by show 0 ≤ a1; omega) (And.intro (by show a1 ≤ 2; omega) (And.intro (by show 0 ≤ (7 + a2); omega) (by show (7 + a2) ≤ 14; omega))))) ?_))
  rintro z1 m_ h2
  obtain rfl : σ = m_ := h2.2.2.2
  have h3 : z1 = σ 87 (6 + 15 * a1 + (7 + a2)) := h2.1
  have h4 : -1 ≤ z1 ∧ z1 ≤ 1999 := h2.2.1
  have h5 : 7 ≤ (7 + a2) → 0 ≤ z1 ∧ z1 ≤ 60 := h2.2.2.1
  refine Or.inr ?_
  refine Or.inl ?_
  refine Exists.intro a1 (And.intro rfl (And.intro (And.intro hp0 (And.intro (by show 0 ≤ a1; omega) (by show a1 ≤ 2; omega))) ?_))
  rintro z6 m_ h7
  obtain rfl : σ = m_ := h7.2.2
  have h8 : z6 = σ 87 (6 + 15 * a1 + 4) := h7.1
  have h9 : 0 ≤ z6 ∧ z6 ≤ 9 := h7.2.1
  refine And.intro (fun h10 => ?_) (fun h10 => ?_)
  · skip
    refine B rfl ?_
    refine And.intro (by omega) ?_
    refine Exists.intro _ (And.intro rfl ?_)
    exact (And.intro (by show (z1 + 0) = lenF_ (σ 87) a1 a2 a3; subst_vars; unfold lenF_; split <;> omega) (And.intro (by show 0 ≤ (z1 + 0) ∧ (z1 + 0) ≤ 69; omega) rfl))
  · skip
    refine Or.inr ?_
    refine Or.inr ?_
    refine Or.inl ?_
    refine Exists.intro a1 (And.intro rfl (And.intro (And.intro hp0 (And.intro (by show 0 ≤ a1; omega) (by show a1 ≤ 2; omega))) ?_))
    rintro z11 m_ h12
    obtain rfl : σ = m_ := h12.2.2
    have h13 : z11 = σ 87 (6 + 15 * a1 + 5) := h12.1
    have h14 : (-1) ≤ z11 ∧ z11 ≤ 7 := h12.2.1
    refine And.intro (fun h15 => ?_) (fun h15 => ?_)
    · skip
      refine B rfl ?_
      refine And.intro (by omega) ?_
      refine Exists.intro _ (And.intro rfl ?_)
      exact (And.intro (by show (z1 + 0) = lenF_ (σ 87) a1 a2 a3; subst_vars; unfold lenF_; split <;> omega) (And.intro (by show 0 ≤ (z1 + 0) ∧ (z1 + 0) ≤ 69; omega) rfl))
    · skip
      refine Or.inr ?_
      refine Or.inl ?_
      refine Exists.intro a1 (And.intro rfl (And.intro (And.intro hp0 (And.intro (by show 0 ≤ a1; omega) (by show a1 ≤ 2; omega))) ?_))
      rintro z16 m_ h17
      obtain rfl : σ = m_ := h17.2.2
      have h18 : z16 = σ 87 (6 + 15 * a1 + 4) := h17.1
      have h19 : 0 ≤ z16 ∧ z16 ≤ 9 := h17.2.1
      have q20 := tmod_r (x := a3) (y := z16) (by omega) (by omega)
      refine And.intro (by omega) ?_
      refine And.intro (fun h21 => ?_) (fun h21 => ?_)
      · skip
        refine B rfl ?_
        refine And.intro (by omega) ?_
        refine Exists.intro _ (And.intro rfl ?_)
        exact (And.intro (by show (z1 + 0) = lenF_ (σ 87) a1 a2 a3; subst_vars; unfold lenF_; split <;> omega) (And.intro (by show 0 ≤ (z1 + 0) ∧ (z1 + 0) ≤ 69; omega) rfl))
      · skip
        refine Or.inr ?_
        refine Or.inr ?_
        refine Or.inr ?_
        refine Exists.intro a1 (And.intro rfl (And.intro (And.intro hp0 (And.intro (by show 0 ≤ a1; omega) (by show a1 ≤ 2; omega))) ?_))
        rintro z22 m_ h23
        obtain rfl : σ = m_ := h23.2.2
        have h24 : z22 = σ 87 (6 + 15 * a1 + 6) := h23.1
        have h25 : 0 ≤ z22 ∧ z22 ≤ 9 := h23.2.1
        refine B rfl ?_
        refine And.intro (by omega) ?_
        refine Exists.intro _ (And.intro rfl ?_)
        exact (And.intro (by show (z1 + z22) = lenF_ (σ 87) a1 a2 a3; subst_vars; unfold lenF_; split <;> omega) (And.intro (by show 0 ≤ (z1 + z22) ∧ (z1 + z22) ≤ 69; omega) rfl))
def as_G_X11_yearLength : Int × Int → List Sv_t := fun a => [(42, 86), (0, a.1), (0, a.2)]
def pre_G_X11_yearLength : Int × Int → Me_t → Prop := fun a σ => (BW σ 87) ∧ (0 ≤ a.1) ∧ (a.1 ≤ 2) ∧ (0 ≤ a.2)
def post_G_X11_yearLength : Int × Int → Me_t → Int → Me_t → Prop := fun a σ z σ' => (z = ylF_ (σ 87) a.1 a.2) ∧ (0 ≤ z ∧ z ≤ 552) ∧ (σ = σ')
set_option maxHeartbeats 1500000 in
set_option maxRecDepth 100000 in
theorem ct_G_X11_yearLength (l : Launch) : CT_ l yX11_yearLength cX11_yearLength 5 (some .int) 2 45 as_G_X11_yearLength (rmI_) pre_G_X11_yearLength post_G_X11_yearLength := by
  refine ct_of (by decide) (fun _ => Nat.le_of_ble_eq_true rfl) ?_
  intro X G Q ad σ a hl hR E hG R hM hv hp
  obtain ⟨a1, a2⟩ := a
  have r_a1 : -2147483648 ≤ a1 ∧ a1 ≤ 2147483647 := hv (0, a1) (List.mem_of_getElem? (i := 1) rfl)
  have r_a2 : -2147483648 ≤ a2 ∧ a2 ≤ 2147483647 := hv (0, a2) (List.mem_of_getElem? (i := 2) rfl)
  have hp0 : BW σ 87 := hp.1
  have hp1 : 0 ≤ a1 := hp.2.1
  have hp2 : a1 ≤ 2 := hp.2.2.1
  have hp3 : 0 ≤ a2 := hp.2.2.2
  have B := @bk_ X G Q 0 0 ad SHS_ RX11 cX11_yearLength 5 (some .int) flX11 plX11 knX11 [(200, 3, TR_ as_G_X11_of_3 (rmI_) pre_G_X11_of_3 post_G_X11_of_3), (208, 4, TR_ as_G_X11_lengthOf (rmI_) pre_G_X11_lengthOf post_G_X11_lengthOf)] _ _ none kX11_yearLength [5] flX11_ok plX11_ok knX11_ok eX11_yearLength oX11_yearLength
    (List.forall_mem_cons.mpr ⟨cok_v (t := 32) (c := 11) (N := 39) (n := 2) (idx := 100) E (ct_G_X11_of_3 X.2.1) (by rw [hR]; decide) (Nat.zero_le _) (Nat.zero_le _) hG rfl rfl ⟨rfl, by decide, by decide, by decide⟩ (fun _ => ⟨_, _, rfl, rfl⟩) wl_X11_100 wi_X11_of ws_X11_of wn_X11 wc_X11_of, List.forall_mem_cons.mpr ⟨cok_v (t := 32) (c := 11) (N := 39) (n := 3) (idx := 104) E (ct_G_X11_lengthOf X.2.1) (by rw [hR]; decide) (Nat.zero_le _) (Nat.zero_le _) hG rfl rfl ⟨rfl, by decide, by decide, by decide⟩ (fun _ => ⟨_, _, rfl, rfl⟩) wl_X11_104 wi_X11_lengthOf ws_X11_lengthOf wn_X11 wc_X11_lengthOf, fun _ h => absurd h List.not_mem_nil⟩⟩) R sok_no E
  show WP_ X G Q 0 0 ad SHS_ σ 0 [(42, 86), (0, a1), (0, a2), (9, 0), (9, 0)] []
  have hw3 := wrl_ hp0 (x := 6 + 15 * a1 + 3) (l := a1) (w := 3) rfl (by omega) (by omega)
  have hw3 : (0 : Int) ≤ σ 87 (6 + 15 * a1 + 3) ∧ σ 87 (6 + 15 * a1 + 3) ≤ (8 : Int) := hw3
  refine B rfl ?_
  have lp_5 : ∀ (nq_ : Nat) (v3 : Int) (v4 : Int), (0 ≤ v4) → (v4 ≤ 8) → (v4 ≤ σ 87 (6 + 15 * a1 + 3)) → (0 ≤ v3) → (v3 ≤ 69 * v4) → (v3 = ylN_ (σ 87) a1 a2 (v4 : Int).toNat) → (8 - v4 : Int).toNat < nq_ → WP_ X G Q 0 0 ad SHS_ σ 5 [(42, 86), (0, a1), (0, a2), (0, v3), (0, v4)] [] := by
    intro nq_
    induction nq_ with
    | zero => intros; omega
    | succ nq_ ih_5 =>
      intro v3 v4 hi5_0 hi5_1 hi5_2 hi5_3 hi5_4 hi5_5 hm5
      refine B rfl ?_
      refine Exists.intro a1 (And.intro rfl (And.intro (And.intro hp0 (And.intro (by show 0 ≤ a1; omega) (by show a1 ≤ 2; omega))) ?_))
      rintro z1 m_ h2
      obtain rfl : σ = m_ := h2.2.2
      have h3 : z1 = σ 87 (6 + 15 * a1 + 3) := h2.1
      have h4 : 0 ≤ z1 ∧ z1 ≤ 8 := h2.2.1
      refine And.intro (fun h5 => ?_) (fun h5 => ?_)
      · skip
        refine B rfl ?_
        refine Exists.intro _ (And.intro rfl ?_)
        exact (And.intro (by show v3 = ylF_ (σ 87) a1 a2; unfold ylF_; rw [show σ 87 (6 + 15 * a1 + 3) = v4 by omega]; exact hi5_5) (And.intro (by show 0 ≤ v3 ∧ v3 ≤ 552; omega) rfl))
      · skip
        refine Exists.intro (a1, v4, a2) (And.intro rfl (And.intro (And.intro hp0 (And.intro (by show 0 ≤ a1; omega) (And.intro (by show a1 ≤ 2; omega) (And.intro (by show 0 ≤ v4; omega) (And.intro (by show v4 ≤ 7; omega) (by show 0 ≤ a2; omega)))))) ?_))
        rintro z6 m_ h7
        obtain rfl : σ = m_ := h7.2.2
        have h8 : z6 = lenF_ (σ 87) a1 v4 a2 := h7.1
        have h9 : 0 ≤ z6 ∧ z6 ≤ 69 := h7.2.1
        refine And.intro (by omega) ?_
        refine And.intro (by omega) ?_
        exact ih_5 (v3 + z6) (v4 + 1) (by show 0 ≤ (v4 + 1); omega) (by show (v4 + 1) ≤ 8; omega) (by show (v4 + 1) ≤ σ 87 (6 + 15 * a1 + 3); omega) (by show 0 ≤ (v3 + z6); omega) (by show (v3 + z6) ≤ 69 * (v4 + 1); omega) (by show (v3 + z6) = ylN_ (σ 87) a1 a2 ((v4 + 1) : Int).toNat; rw [ylN_s (by omega)]; omega) (by omega)
  exact lp_5 ((8 - 0 : Int).toNat + 1) 0 0 (by show 0 ≤ 0; omega) (by show 0 ≤ 8; omega) (by show 0 ≤ σ 87 (6 + 15 * a1 + 3); omega) (by show 0 ≤ 0; omega) (by show 0 ≤ 69 * 0; omega) (by show 0 = ylN_ (σ 87) a1 a2 (0 : Int).toNat; rfl) (by omega)
def as_G_X11_ofFeast : Int × Int → List Sv_t := fun a => [(42, 86), (0, a.1), (0, a.2)]
def pre_G_X11_ofFeast : Int × Int → Me_t → Prop := fun a σ => (BW σ 87) ∧ (0 ≤ a.1) ∧ (a.1 ≤ 11) ∧ (0 ≤ a.2) ∧ (a.2 ≤ 3)
def post_G_X11_ofFeast : Int × Int → Me_t → Int → Me_t → Prop := fun a σ z σ' => (0 ≤ z ∧ z ≤ 59) ∧ (z ≤ fthi_ a.2) ∧ (σ = σ')
set_option maxHeartbeats 1500000 in
set_option maxRecDepth 100000 in
theorem ct_G_X11_ofFeast (l : Launch) : CT_ l yX11_ofFeast cX11_ofFeast 3 (some .int) 0 0 as_G_X11_ofFeast (rmI_) pre_G_X11_ofFeast post_G_X11_ofFeast := by
  refine ct_of (by decide) (fun _ => Nat.le_of_ble_eq_true rfl) ?_
  intro X G Q ad σ a hl hR E hG R hM hv hp
  obtain ⟨a1, a2⟩ := a
  have r_a1 : -2147483648 ≤ a1 ∧ a1 ≤ 2147483647 := hv (0, a1) (List.mem_of_getElem? (i := 1) rfl)
  have r_a2 : -2147483648 ≤ a2 ∧ a2 ≤ 2147483647 := hv (0, a2) (List.mem_of_getElem? (i := 2) rfl)
  have hp0 : BW σ 87 := hp.1
  have hp1 : 0 ≤ a1 := hp.2.1
  have hp2 : a1 ≤ 11 := hp.2.2.1
  have hp3 : 0 ≤ a2 := hp.2.2.2.1
  have hp4 : a2 ≤ 3 := hp.2.2.2.2
  have B := @bk_ X G Q 0 0 ad SHS_ RX11 cX11_ofFeast 3 (some .int) flX11 plX11 knX11 [] _ _ none kX11_ofFeast [] flX11_ok plX11_ok knX11_ok eX11_ofFeast oX11_ofFeast
    (fun _ h => absurd h List.not_mem_nil) R sok_no E
  show WP_ X G Q 0 0 ad SHS_ σ 0 [(42, 86), (0, a1), (0, a2)] []
  refine B rfl ?_
  refine And.intro (by omega) ?_
  refine And.intro (by omega) ?_
  refine And.intro (by omega) ?_
  refine And.intro (by omega) ?_
  intro z1 ez1 hz1
  have hz1 : ((-1) : Int) ≤ z1 ∧ z1 ≤ (1999 : Int) := hz1
  have hw := wrf_ hp0 (x := 51 + 4 * a1 + a2) (c := a1) (w := a2) rfl (by omega) (by omega)
  have hw2 := ft_le (w := a2)
  refine Exists.intro _ (And.intro rfl ?_)
  exact (And.intro (by show 0 ≤ z1 ∧ z1 ≤ 59; omega) (And.intro (by show z1 ≤ fthi_ a2; omega) rfl))
def as_G_X11_ofTruce : Int × Int → List Sv_t := fun a => [(42, 86), (0, a.1), (0, a.2)]
def pre_G_X11_ofTruce : Int × Int → Me_t → Prop := fun a σ => (BW σ 87) ∧ (0 ≤ a.1) ∧ (a.1 ≤ 11) ∧ (0 ≤ a.2) ∧ (a.2 ≤ 2)
def post_G_X11_ofTruce : Int × Int → Me_t → Int → Me_t → Prop := fun a σ z σ' => (0 ≤ z ∧ z ≤ 1999) ∧ (σ = σ')
set_option maxHeartbeats 1500000 in
set_option maxRecDepth 100000 in
theorem ct_G_X11_ofTruce (l : Launch) : CT_ l yX11_ofTruce cX11_ofTruce 3 (some .int) 0 0 as_G_X11_ofTruce (rmI_) pre_G_X11_ofTruce post_G_X11_ofTruce := by
  refine ct_of (by decide) (fun _ => Nat.le_of_ble_eq_true rfl) ?_
  intro X G Q ad σ a hl hR E hG R hM hv hp
  obtain ⟨a1, a2⟩ := a
  have r_a1 : -2147483648 ≤ a1 ∧ a1 ≤ 2147483647 := hv (0, a1) (List.mem_of_getElem? (i := 1) rfl)
  have r_a2 : -2147483648 ≤ a2 ∧ a2 ≤ 2147483647 := hv (0, a2) (List.mem_of_getElem? (i := 2) rfl)
  have hp0 : BW σ 87 := hp.1
  have hp1 : 0 ≤ a1 := hp.2.1
  have hp2 : a1 ≤ 11 := hp.2.2.1
  have hp3 : 0 ≤ a2 := hp.2.2.2.1
  have hp4 : a2 ≤ 2 := hp.2.2.2.2
  have B := @bk_ X G Q 0 0 ad SHS_ RX11 cX11_ofTruce 3 (some .int) flX11 plX11 knX11 [] _ _ none kX11_ofTruce [] flX11_ok plX11_ok knX11_ok eX11_ofTruce oX11_ofTruce
    (fun _ h => absurd h List.not_mem_nil) R sok_no E
  show WP_ X G Q 0 0 ad SHS_ σ 0 [(42, 86), (0, a1), (0, a2)] []
  refine B rfl ?_
  refine And.intro (by omega) ?_
  refine And.intro (by omega) ?_
  refine And.intro (by omega) ?_
  refine And.intro (by omega) ?_
  intro z1 ez1 hz1
  have hz1 : ((-1) : Int) ≤ z1 ∧ z1 ≤ (1999 : Int) := hz1
  have hw := wrt_ hp0 (x := 99 + 3 * a1 + a2) (c := a1) (w := a2) rfl (by omega) (by omega)
  have hw2 := tc_le (w := a2)
  refine Exists.intro _ (And.intro rfl ?_)
  exact (And.intro (by show 0 ≤ z1 ∧ z1 ≤ 1999; omega) rfl)
def as_G_X11_spot : Int × Int → List Sv_t := fun a => [(0, a.1), (0, a.2)]
def pre_G_X11_spot : Int × Int → Me_t → Prop := fun a σ => (0 ≤ a.1) ∧ (a.1 ≤ 2) ∧ (0 ≤ a.2) ∧ (a.2 ≤ 1999)
def post_G_X11_spot : Int × Int → Me_t → Int → Me_t → Prop := fun a σ z σ' => (z = 2000 * a.1 + a.2) ∧ (σ = σ')
set_option maxHeartbeats 1500000 in
set_option maxRecDepth 100000 in
theorem ct_G_X11_spot (l : Launch) : CT_ l yX11_spot cX11_spot 2 (some .int) 0 0 as_G_X11_spot (rmI_) pre_G_X11_spot post_G_X11_spot := by
  refine ct_of (by decide) (fun _ => Nat.le_of_ble_eq_true rfl) ?_
  intro X G Q ad σ a hl hR E hG R hM hv hp
  obtain ⟨a0, a1⟩ := a
  have r_a0 : -2147483648 ≤ a0 ∧ a0 ≤ 2147483647 := hv (0, a0) (List.mem_of_getElem? (i := 0) rfl)
  have r_a1 : -2147483648 ≤ a1 ∧ a1 ≤ 2147483647 := hv (0, a1) (List.mem_of_getElem? (i := 1) rfl)
  have hp0 : 0 ≤ a0 := hp.1
  have hp1 : a0 ≤ 2 := hp.2.1
  have hp2 : 0 ≤ a1 := hp.2.2.1
  have hp3 : a1 ≤ 1999 := hp.2.2.2
  have B := @bk_ X G Q 0 0 ad SHS_ RX11 cX11_spot 2 (some .int) flX11 plX11 knX11 [] _ _ none kX11_spot [] flX11_ok plX11_ok knX11_ok eX11_spot oX11_spot
    (fun _ h => absurd h List.not_mem_nil) R sok_no E
  show WP_ X G Q 0 0 ad SHS_ σ 0 [(0, a0), (0, a1)] []
  refine B rfl ?_
  refine And.intro (by omega) ?_
  refine And.intro (by omega) ?_
  refine Exists.intro _ (And.intro rfl ?_)
  exact (And.intro (by show ((2000 * a0) + a1) = 2000 * a0 + a1; omega) rfl)
def as_G_X11_weekday : Int × Int → List Sv_t := fun a => [(42, 86), (0, a.1), (0, a.2)]
def pre_G_X11_weekday : Int × Int → Me_t → Prop := fun a σ => (BW σ 87) ∧ (0 ≤ a.1) ∧ (a.1 ≤ 2) ∧ (1 ≤ σ 87 (6 + 15 * a.1 + 1)) ∧ (0 ≤ a.2) ∧ (a.2 ≤ 10000)
def post_G_X11_weekday : Int × Int → Me_t → Int → Me_t → Prop := fun a σ z σ' => (-1 ≤ z ∧ z ≤ 9) ∧ (σ = σ')
set_option maxHeartbeats 1500000 in
set_option maxRecDepth 100000 in
theorem ct_G_X11_weekday (l : Launch) : CT_ l yX11_weekday cX11_weekday 3 (some .int) 1 22 as_G_X11_weekday (rmI_) pre_G_X11_weekday post_G_X11_weekday := by
  refine ct_of (by decide) (fun _ => Nat.le_of_ble_eq_true rfl) ?_
  intro X G Q ad σ a hl hR E hG R hM hv hp
  obtain ⟨a1, a2⟩ := a
  have r_a1 : -2147483648 ≤ a1 ∧ a1 ≤ 2147483647 := hv (0, a1) (List.mem_of_getElem? (i := 1) rfl)
  have r_a2 : -2147483648 ≤ a2 ∧ a2 ≤ 2147483647 := hv (0, a2) (List.mem_of_getElem? (i := 2) rfl)
  have hp0 : BW σ 87 := hp.1
  have hp1 : 0 ≤ a1 := hp.2.1
  have hp2 : a1 ≤ 2 := hp.2.2.1
  have hp3 : 1 ≤ σ 87 (6 + 15 * a1 + 1) := hp.2.2.2.1
  have hp4 : 0 ≤ a2 := hp.2.2.2.2.1
  have hp5 : a2 ≤ 10000 := hp.2.2.2.2.2
  have B := @bk_ X G Q 0 0 ad SHS_ RX11 cX11_weekday 3 (some .int) flX11 plX11 knX11 [(200, 3, TOR_ (TR_ as_G_X11_of_0 (rmI_) pre_G_X11_of_0 post_G_X11_of_0) (TR_ as_G_X11_of_1 (rmI_) pre_G_X11_of_1 post_G_X11_of_1))] _ _ none kX11_weekday [] flX11_ok plX11_ok knX11_ok eX11_weekday oX11_weekday
    (List.forall_mem_cons.mpr ⟨cok_or (cok_v (t := 32) (c := 11) (N := 39) (n := 2) (idx := 100) E (ct_G_X11_of_0 X.2.1) (by rw [hR]; decide) (Nat.zero_le _) (Nat.zero_le _) hG rfl rfl ⟨rfl, by decide, by decide, by decide⟩ (fun _ => ⟨_, _, rfl, rfl⟩) wl_X11_100 wi_X11_of ws_X11_of wn_X11 wc_X11_of) (cok_v (t := 32) (c := 11) (N := 39) (n := 2) (idx := 100) E (ct_G_X11_of_1 X.2.1) (by rw [hR]; decide) (Nat.zero_le _) (Nat.zero_le _) hG rfl rfl ⟨rfl, by decide, by decide, by decide⟩ (fun _ => ⟨_, _, rfl, rfl⟩) wl_X11_100 wi_X11_of ws_X11_of wn_X11 wc_X11_of), fun _ h => absurd h List.not_mem_nil⟩) R sok_no E
  show WP_ X G Q 0 0 ad SHS_ σ 0 [(42, 86), (0, a1), (0, a2)] []
  refine B rfl ?_
  refine Or.inl ?_
  refine Exists.intro a1 (And.intro rfl (And.intro (And.intro hp0 (And.intro (by show 0 ≤ a1; omega) (by show a1 ≤ 2; omega))) ?_))
  rintro z1 m_ h2
  obtain rfl : σ = m_ := h2.2.2
  have h3 : z1 = σ 87 (6 + 15 * a1 + 0) := h2.1
  have h4 : 0 ≤ z1 ∧ z1 ≤ 999 := h2.2.1
  refine And.intro (fun h5 => ?_) (fun h5 => ?_)
  · skip
    refine B rfl ?_
    refine Or.inl ?_
    refine Exists.intro a1 (And.intro rfl (And.intro (And.intro hp0 (And.intro (by show 0 ≤ a1; omega) (by show a1 ≤ 2; omega))) ?_))
    rintro z6 m_ h7
    obtain rfl : σ = m_ := h7.2.2
    have h8 : z6 = σ 87 (6 + 15 * a1 + 0) := h7.1
    have h9 : 0 ≤ z6 ∧ z6 ≤ 999 := h7.2.1
    refine And.intro (by omega) ?_
    refine Or.inr ?_
    refine Exists.intro a1 (And.intro rfl (And.intro (And.intro hp0 (And.intro (by show 0 ≤ a1; omega) (by show a1 ≤ 2; omega))) ?_))
    rintro z10 m_ h11
    obtain rfl : σ = m_ := h11.2.2
    have h12 : z10 = σ 87 (6 + 15 * a1 + 1) := h11.1
    have h13 : 0 ≤ z10 ∧ z10 ≤ 10 := h11.2.1
    have q14 := tmod_r (x := a2 - z6) (y := z10) (by omega) (by omega)
    refine And.intro (by omega) ?_
    refine Exists.intro _ (And.intro rfl ?_)
    exact (And.intro (by show -1 ≤ (Int.tmod (a2 - z6) z10) ∧ (Int.tmod (a2 - z6) z10) ≤ 9; omega) rfl)
  · skip
    refine B rfl ?_
    refine Exists.intro _ (And.intro rfl ?_)
    exact (And.intro (by show -1 ≤ (-1) ∧ (-1) ≤ 9; omega) rfl)
def as_G_X11_layDates : Int → List Sv_t := fun a => [(42, 86), (0, a)]
def pre_G_X11_layDates : Int → Me_t → Prop := fun a σ => (BW σ 87) ∧ (0 ≤ a) ∧ (a ≤ 2) ∧ (1 ≤ σ 87 (6 + 15 * a + 3))
def post_G_X11_layDates : Int → Me_t → Int → Me_t → Prop := fun a σ z σ' => (∀ d : Int, σ 87 (6 + 15 * a + 0) ≤ d → d < 2000 → 0 ≤ σ' 95 (2000 * a + d)) ∧ (∀ j : Int, ¬ (2000 * a ≤ j ∧ j < 2000 * a + 2000) → σ' 95 j = σ 95 j) ∧ (∀ k j : Int, ¬ (93 ≤ k ∧ k ≤ 95) → σ' k j = σ k j)
set_option maxHeartbeats 1500000 in
set_option maxRecDepth 100000 in
theorem ct_G_X11_layDates (l : Launch) : CT_ l yX11_layDates cX11_layDates 7 none 2 45 as_G_X11_layDates (rmV_) pre_G_X11_layDates post_G_X11_layDates := by
  refine ct_of (by decide) (fun _ => Nat.le_of_ble_eq_true rfl) ?_
  intro X G Q ad σ a hl hR E hG R hM hv hp
  obtain ⟨a1, rfl⟩ : ∃ q : Int, q = a := ⟨_, rfl⟩
  have r_a1 : -2147483648 ≤ a1 ∧ a1 ≤ 2147483647 := hv (0, a1) (List.mem_of_getElem? (i := 1) rfl)
  have hp0 : BW σ 87 := hp.1
  have hp1 : 0 ≤ a1 := hp.2.1
  have hp2 : a1 ≤ 2 := hp.2.2.1
  have hp3 : 1 ≤ σ 87 (6 + 15 * a1 + 3) := hp.2.2.2
  have B := @bk_ X G Q 0 0 ad SHS_ RX11 cX11_layDates 7 none flX11 plX11 knX11 [(200, 3, TOR_ (TR_ as_G_X11_of_0 (rmI_) pre_G_X11_of_0 post_G_X11_of_0) (TR_ as_G_X11_of_3 (rmI_) pre_G_X11_of_3 post_G_X11_of_3)), (467, 2, TR_ as_G_X11_spot (rmI_) pre_G_X11_spot post_G_X11_spot), (208, 4, TR_ as_G_X11_lengthOf (rmI_) pre_G_X11_lengthOf post_G_X11_lengthOf)] _ _ none kX11_layDates [10, 18, 29, 51, 72, 93, 105, 123, 142] flX11_ok plX11_ok knX11_ok eX11_layDates oX11_layDates
    (List.forall_mem_cons.mpr ⟨cok_or (cok_v (t := 32) (c := 11) (N := 39) (n := 2) (idx := 100) E (ct_G_X11_of_0 X.2.1) (by rw [hR]; decide) (Nat.zero_le _) (Nat.zero_le _) hG rfl rfl ⟨rfl, by decide, by decide, by decide⟩ (fun _ => ⟨_, _, rfl, rfl⟩) wl_X11_100 wi_X11_of ws_X11_of wn_X11 wc_X11_of) (cok_v (t := 32) (c := 11) (N := 39) (n := 2) (idx := 100) E (ct_G_X11_of_3 X.2.1) (by rw [hR]; decide) (Nat.zero_le _) (Nat.zero_le _) hG rfl rfl ⟨rfl, by decide, by decide, by decide⟩ (fun _ => ⟨_, _, rfl, rfl⟩) wl_X11_100 wi_X11_of ws_X11_of wn_X11 wc_X11_of), List.forall_mem_cons.mpr ⟨cok_s (n := 2) (idx := 233) E (ct_G_X11_spot X.2.1) (by rw [hR]; decide) (Nat.zero_le _) (Nat.zero_le _) hG ⟨by decide, by decide, by decide⟩ (fun _ => rfl) wl_X11_233 wt_X11_spot wn_X11 wc_X11_spot, List.forall_mem_cons.mpr ⟨cok_v (t := 32) (c := 11) (N := 39) (n := 3) (idx := 104) E (ct_G_X11_lengthOf X.2.1) (by rw [hR]; decide) (Nat.zero_le _) (Nat.zero_le _) hG rfl rfl ⟨rfl, by decide, by decide, by decide⟩ (fun _ => ⟨_, _, rfl, rfl⟩) wl_X11_104 wi_X11_lengthOf ws_X11_lengthOf wn_X11 wc_X11_lengthOf, fun _ h => absurd h List.not_mem_nil⟩⟩⟩) R sok_no E
  show WP_ X G Q 0 0 ad SHS_ σ 0 [(42, 86), (0, a1), (9, 0), (9, 0), (9, 0), (9, 0), (9, 0)] []
  have hw3 := wrl_ hp0 (x := 6 + 15 * a1 + 3) (l := a1) (w := 3) rfl (by omega) (by omega)
  have hw3 : (0 : Int) ≤ σ 87 (6 + 15 * a1 + 3) ∧ σ 87 (6 + 15 * a1 + 3) ≤ (8 : Int) := hw3
  have hw0 := wrl_ hp0 (x := 6 + 15 * a1 + 0) (l := a1) (w := 0) rfl (by omega) (by omega)
  have hw0 : (0 : Int) ≤ σ 87 (6 + 15 * a1 + 0) ∧ σ 87 (6 + 15 * a1 + 0) ≤ (999 : Int) := hw0
  refine B rfl ?_
  have lp_10 : ∀ (nq_ : Nat) (v2 : Int) (v3 : Int) (v4 : Int) (v5 : Int) (τ10 : Me_t), (∀ k j : Int, ¬ (93 ≤ k ∧ k ≤ 95) → τ10 k j = σ k j) → (0 ≤ v2) → (v2 ≤ v5) → (0 ≤ v3) → (v3 + 1 ≤ σ 87 (6 + 15 * a1 + 3)) → (0 ≤ v4) → (v4 ≤ 68) → (0 ≤ v5) → (v5 ≤ 2000) → (0 ≤ a1) → (a1 ≤ 2) → (∀ d : Int, σ 87 (6 + 15 * a1 + 0) ≤ d → d < v5 → 0 ≤ τ10 95 (2000 * a1 + d)) → (∀ j : Int, ¬ (2000 * a1 ≤ j ∧ j < 2000 * a1 + 2000) → τ10 95 j = σ 95 j) → (2000 - v5 : Int).toNat < nq_ → WP_ X G Q 0 0 ad SHS_ τ10 10 [(42, 86), (0, a1), (0, v2), (0, v3), (0, v4), (0, v5), (9, 0)] [] := by
    intro nq_
    induction nq_ with
    | zero => intros; omega
    | succ nq_ ih_10 =>
      intro v2 v3 v4 v5 τ10 hf10 hi10_0 hi10_1 hi10_2 hi10_3 hi10_4 hi10_5 hi10_6 hi10_7 hi10_8 hi10_9 hi10_10 hi10_11 hm10
      refine B rfl ?_
      refine And.intro (fun h1 => ?_) (fun h1 => ?_)
      · skip
        refine B rfl ?_
        refine Exists.intro 0 (And.intro rfl ?_)
        try have t2 : τ10 95 (2000 * a1 + d) = σ 95 (2000 * a1 + d) := (hf10 _ _ (by omega))
        exact (And.intro (by show ∀ d : Int, σ 87 (6 + 15 * a1 + 0) ≤ d → d < 2000 → 0 ≤ τ10 95 (2000 * a1 + d); intro d h1 h2; exact hi10_10 d h1 (by omega)) (And.intro (by show ∀ j : Int, ¬ (2000 * a1 ≤ j ∧ j < 2000 * a1 + 2000) → τ10 95 j = σ 95 j; exact hi10_11) (fun k j hk => (hf10 _ _ (by omega)))))
      · skip
        show WP_ X G Q 0 0 ad SHS_ τ10 18 [(42, 86), (0, a1), (0, v2), (0, v3), (0, v4), (0, v5), (9, 0)] []
        refine B rfl ?_
        have p3 : BW τ10 87 := BW_fr hp0 (fun k j hk => (hf10 _ _ (by omega)))
        refine Or.inl ?_
        refine Exists.intro a1 (And.intro rfl (And.intro (And.intro p3 (And.intro (by show 0 ≤ a1; omega) (by show a1 ≤ 2; omega))) ?_))
        rintro z4 m_ h5
        obtain rfl : τ10 = m_ := h5.2.2
        have h6 : z4 = τ10 87 (6 + 15 * a1 + 0) := h5.1
        have h7 : 0 ≤ z4 ∧ z4 ≤ 999 := h5.2.1
        refine And.intro (fun h8 => ?_) (fun h8 => ?_)
        · skip
          refine B rfl ?_
          refine Exists.intro (a1, v5) (And.intro rfl (And.intro (And.intro (by show 0 ≤ a1; omega) (And.intro (by show a1 ≤ 2; omega) (And.intro (by show 0 ≤ v5; omega) (by show v5 ≤ 1999; omega)))) ?_))
          rintro z9 m_ h10
          obtain rfl : τ10 = m_ := h10.2
          have h11 : z9 = 2000 * a1 + v5 := h10.1
          have q12 : z9 = 2000 * a1 + v5 := by omega
          subst q12
          refine And.intro (fun h13 => ?_) (fun h13 => (by exfalso; omega))
          refine B rfl ?_
          refine And.intro (by omega) ?_
          refine And.intro (by show ((-1) : Int) ≤ _ ∧ _ ≤ (2000 : Int); omega) ?_
          intro σ14 e15
          refine Exists.intro (a1, v5) (And.intro rfl (And.intro (And.intro (by show 0 ≤ a1; omega) (And.intro (by show a1 ≤ 2; omega) (And.intro (by show 0 ≤ v5; omega) (by show v5 ≤ 1999; omega)))) ?_))
          rintro z16 m_ h17
          obtain rfl : σ14 = m_ := h17.2
          have h18 : z16 = 2000 * a1 + v5 := h17.1
          have q19 : z16 = 2000 * a1 + v5 := by omega
          subst q19
          refine And.intro (fun h20 => ?_) (fun h20 => (by exfalso; omega))
          refine B rfl ?_
          refine And.intro (by omega) ?_
          refine And.intro (by show ((-1) : Int) ≤ _ ∧ _ ≤ (7 : Int); omega) ?_
          intro σ21 e22
          refine Exists.intro (a1, v5) (And.intro rfl (And.intro (And.intro (by show 0 ≤ a1; omega) (And.intro (by show a1 ≤ 2; omega) (And.intro (by show 0 ≤ v5; omega) (by show v5 ≤ 1999; omega)))) ?_))
          rintro z23 m_ h24
          obtain rfl : σ21 = m_ := h24.2
          have h25 : z23 = 2000 * a1 + v5 := h24.1
          have q26 : z23 = 2000 * a1 + v5 := by omega
          subst q26
          refine And.intro (fun h27 => ?_) (fun h27 => (by exfalso; omega))
          refine B rfl ?_
          refine And.intro (by omega) ?_
          refine And.intro (by show ((-1) : Int) ≤ _ ∧ _ ≤ (68 : Int); omega) ?_
          intro σ28 e29
          refine And.intro (fun h30 => (by exfalso; omega)) (fun h30 => ?_)
          show WP_ X G Q 0 0 ad SHS_ σ28 105 [(42, 86), (0, a1), (0, v2), (0, v3), (0, v4), (0, v5), (0, 0)] []
          refine B rfl ?_
          refine B rfl ?_
          refine And.intro (by omega) ?_
          show WP_ X G Q 0 0 ad SHS_ σ28 10 [(42, 86), (0, a1), (0, v2), (0, v3), (0, v4), (0, v5 + 1), (0, 0)] []
          refine wdrop_ (L' := [(42, 86), (0, a1), (0, v2), (0, v3), (0, v4), (0, v5 + 1), (9, 0)]) ⟨Or.inr rfl, ⟨Or.inr rfl, ⟨Or.inr rfl, ⟨Or.inr rfl, ⟨Or.inr rfl, ⟨Or.inr rfl, ⟨Or.inl rfl, trivial⟩⟩⟩⟩⟩⟩⟩ ?_
          try have t31 : σ28 95 (2000 * a1 + d) = σ 95 (2000 * a1 + d) := ((ups_r e29 (by omega)).trans ((ups_r e22 (by omega)).trans ((ups_r e15 (by omega)).trans (hf10 _ _ (by omega)))))
          exact ih_10 v2 v3 v4 (v5 + 1) σ28 (fun k j hk => ((ups_r e29 (by omega)).trans ((ups_r e22 (by omega)).trans ((ups_r e15 (by omega)).trans (hf10 _ _ (by omega)))))) (by show 0 ≤ v2; omega) (by show v2 ≤ (v5 + 1); omega) (by show 0 ≤ v3; omega) (by show v3 + 1 ≤ σ 87 (6 + 15 * a1 + 3); omega) (by show 0 ≤ v4; omega) (by show v4 ≤ 68; omega) (by show 0 ≤ (v5 + 1); omega) (by show (v5 + 1) ≤ 2000; omega) (by show 0 ≤ a1; omega) (by show a1 ≤ 2; omega) (by show ∀ d : Int, σ 87 (6 + 15 * a1 + 0) ≤ d → d < (v5 + 1) → 0 ≤ σ28 95 (2000 * a1 + d); intro d h1 h2; by_cases hj : d = v5; rw [hj, show σ28 95 (2000 * a1 + v5) = _ from ups_v e29]; omega; rw [show σ28 95 (2000 * a1 + d) = τ10 95 (2000 * a1 + d) from ((ups_r e29 (by omega)).trans ((ups_r e22 (by omega)).trans (ups_r e15 (by omega))))]; exact hi10_10 d h1 (by omega)) (by show ∀ j : Int, ¬ (2000 * a1 ≤ j ∧ j < 2000 * a1 + 2000) → σ28 95 j = σ 95 j; intro j h; exact (((ups_r e29 (by omega)).trans ((ups_r e22 (by omega)).trans (ups_r e15 (by omega))))).trans (hi10_11 j h)) (by omega)
        · skip
          show WP_ X G Q 0 0 ad SHS_ τ10 29 [(42, 86), (0, a1), (0, v2), (0, v3), (0, v4), (0, v5), (9, 0)] []
          refine B rfl ?_
          refine B rfl ?_
          refine Exists.intro (a1, v5) (And.intro rfl (And.intro (And.intro (by show 0 ≤ a1; omega) (And.intro (by show a1 ≤ 2; omega) (And.intro (by show 0 ≤ v5; omega) (by show v5 ≤ 1999; omega)))) ?_))
          rintro z32 m_ h33
          obtain rfl : τ10 = m_ := h33.2
          have h34 : z32 = 2000 * a1 + v5 := h33.1
          have q35 : z32 = 2000 * a1 + v5 := by omega
          subst q35
          refine And.intro (fun h36 => (by exfalso; omega)) (fun h36 => ?_)
          show WP_ X G Q 0 0 ad SHS_ τ10 51 [(42, 86), (0, a1), (0, v2), (0, v3), (0, v4), (0, v5), (0, 1)] [(0, 2000 * a1 + v5), (49, 93)]
          refine B rfl ?_
          refine B rfl ?_
          refine And.intro (by omega) ?_
          refine And.intro (by show ((-1) : Int) ≤ _ ∧ _ ≤ (2000 : Int); omega) ?_
          intro σ37 e38
          refine Exists.intro (a1, v5) (And.intro rfl (And.intro (And.intro (by show 0 ≤ a1; omega) (And.intro (by show a1 ≤ 2; omega) (And.intro (by show 0 ≤ v5; omega) (by show v5 ≤ 1999; omega)))) ?_))
          rintro z39 m_ h40
          obtain rfl : σ37 = m_ := h40.2
          have h41 : z39 = 2000 * a1 + v5 := h40.1
          have q42 : z39 = 2000 * a1 + v5 := by omega
          subst q42
          refine And.intro (fun h43 => (by exfalso; omega)) (fun h43 => ?_)
          show WP_ X G Q 0 0 ad SHS_ σ37 72 [(42, 86), (0, a1), (0, v2), (0, v3), (0, v4), (0, v5), (0, 1)] [(0, 2000 * a1 + v5), (50, 94)]
          refine B rfl ?_
          refine B rfl ?_
          refine And.intro (by omega) ?_
          refine And.intro (by show ((-1) : Int) ≤ _ ∧ _ ≤ (7 : Int); omega) ?_
          intro σ44 e45
          refine Exists.intro (a1, v5) (And.intro rfl (And.intro (And.intro (by show 0 ≤ a1; omega) (And.intro (by show a1 ≤ 2; omega) (And.intro (by show 0 ≤ v5; omega) (by show v5 ≤ 1999; omega)))) ?_))
          rintro z46 m_ h47
          obtain rfl : σ44 = m_ := h47.2
          have h48 : z46 = 2000 * a1 + v5 := h47.1
          have q49 : z46 = 2000 * a1 + v5 := by omega
          subst q49
          refine And.intro (fun h50 => (by exfalso; omega)) (fun h50 => ?_)
          show WP_ X G Q 0 0 ad SHS_ σ44 93 [(42, 86), (0, a1), (0, v2), (0, v3), (0, v4), (0, v5), (0, 1)] [(0, 2000 * a1 + v5), (51, 95)]
          refine B rfl ?_
          refine B rfl ?_
          refine And.intro (by omega) ?_
          refine And.intro (by show ((-1) : Int) ≤ _ ∧ _ ≤ (68 : Int); omega) ?_
          intro σ51 e52
          refine And.intro (fun h53 => ?_) (fun h53 => (by exfalso; omega))
          refine B rfl ?_
          refine And.intro (by omega) ?_
          have p54 : BW σ51 87 := BW_fr p3 (fun k j hk => ((ups_r e52 (by omega)).trans ((ups_r e45 (by omega)).trans (ups_r e38 (by omega)))))
          refine Exists.intro (a1, v3, v2) (And.intro rfl (And.intro (And.intro p54 (And.intro (by show 0 ≤ a1; omega) (And.intro (by show a1 ≤ 2; omega) (And.intro (by show 0 ≤ v3; omega) (And.intro (by show v3 ≤ 7; omega) (by show 0 ≤ v2; omega)))))) ?_))
          rintro z55 m_ h56
          obtain rfl : σ51 = m_ := h56.2.2
          have h57 : z55 = lenF_ (σ51 87) a1 v3 v2 := h56.1
          have h58 : 0 ≤ z55 ∧ z55 ≤ 69 := h56.2.1
          refine And.intro (fun h59 => ?_) (fun h59 => ?_)
          · skip
            refine B rfl ?_
            refine And.intro (by omega) ?_
            refine Or.inr ?_
            refine Exists.intro a1 (And.intro rfl (And.intro (And.intro p54 (And.intro (by show 0 ≤ a1; omega) (by show a1 ≤ 2; omega))) ?_))
            rintro z60 m_ h61
            obtain rfl : σ51 = m_ := h61.2.2
            have h62 : z60 = σ51 87 (6 + 15 * a1 + 3) := h61.1
            have h63 : 0 ≤ z60 ∧ z60 ≤ 8 := h61.2.1
            refine And.intro (fun h64 => ?_) (fun h64 => ?_)
            · skip
              refine B rfl ?_
              refine And.intro (by omega) ?_
              refine And.intro (by omega) ?_
              show WP_ X G Q 0 0 ad SHS_ σ51 10 [(42, 86), (0, a1), (0, v2 + 1), (0, 0), (0, 0), (0, v5 + 1), (0, 1)] []
              refine wdrop_ (L' := [(42, 86), (0, a1), (0, v2 + 1), (0, 0), (0, 0), (0, v5 + 1), (9, 0)]) ⟨Or.inr rfl, ⟨Or.inr rfl, ⟨Or.inr rfl, ⟨Or.inr rfl, ⟨Or.inr rfl, ⟨Or.inr rfl, ⟨Or.inl rfl, trivial⟩⟩⟩⟩⟩⟩⟩ ?_
              try have t65 : σ51 95 (2000 * a1 + d) = σ 95 (2000 * a1 + d) := ((ups_r e52 (by omega)).trans ((ups_r e45 (by omega)).trans ((ups_r e38 (by omega)).trans (hf10 _ _ (by omega)))))
              exact ih_10 (v2 + 1) 0 0 (v5 + 1) σ51 (fun k j hk => ((ups_r e52 (by omega)).trans ((ups_r e45 (by omega)).trans ((ups_r e38 (by omega)).trans (hf10 _ _ (by omega)))))) (by show 0 ≤ (v2 + 1); omega) (by show (v2 + 1) ≤ (v5 + 1); omega) (by show 0 ≤ 0; omega) (by show 0 + 1 ≤ σ 87 (6 + 15 * a1 + 3); omega) (by show 0 ≤ 0; omega) (by show 0 ≤ 68; omega) (by show 0 ≤ (v5 + 1); omega) (by show (v5 + 1) ≤ 2000; omega) (by show 0 ≤ a1; omega) (by show a1 ≤ 2; omega) (by show ∀ d : Int, σ 87 (6 + 15 * a1 + 0) ≤ d → d < (v5 + 1) → 0 ≤ σ51 95 (2000 * a1 + d); intro d h1 h2; by_cases hj : d = v5; rw [hj, show σ51 95 (2000 * a1 + v5) = _ from ups_v e52]; omega; rw [show σ51 95 (2000 * a1 + d) = τ10 95 (2000 * a1 + d) from ((ups_r e52 (by omega)).trans ((ups_r e45 (by omega)).trans (ups_r e38 (by omega))))]; exact hi10_10 d h1 (by omega)) (by show ∀ j : Int, ¬ (2000 * a1 ≤ j ∧ j < 2000 * a1 + 2000) → σ51 95 j = σ 95 j; intro j h; exact (((ups_r e52 (by omega)).trans ((ups_r e45 (by omega)).trans (ups_r e38 (by omega))))).trans (hi10_11 j h)) (by omega)
            · skip
              show WP_ X G Q 0 0 ad SHS_ σ51 142 [(42, 86), (0, a1), (0, v2), (0, v3 + 1), (0, 0), (0, v5), (0, 1)] []
              refine B rfl ?_
              refine B rfl ?_
              refine And.intro (by omega) ?_
              show WP_ X G Q 0 0 ad SHS_ σ51 10 [(42, 86), (0, a1), (0, v2), (0, v3 + 1), (0, 0), (0, v5 + 1), (0, 1)] []
              refine wdrop_ (L' := [(42, 86), (0, a1), (0, v2), (0, v3 + 1), (0, 0), (0, v5 + 1), (9, 0)]) ⟨Or.inr rfl, ⟨Or.inr rfl, ⟨Or.inr rfl, ⟨Or.inr rfl, ⟨Or.inr rfl, ⟨Or.inr rfl, ⟨Or.inl rfl, trivial⟩⟩⟩⟩⟩⟩⟩ ?_
              try have t66 : σ51 95 (2000 * a1 + d) = σ 95 (2000 * a1 + d) := ((ups_r e52 (by omega)).trans ((ups_r e45 (by omega)).trans ((ups_r e38 (by omega)).trans (hf10 _ _ (by omega)))))
              exact ih_10 v2 (v3 + 1) 0 (v5 + 1) σ51 (fun k j hk => ((ups_r e52 (by omega)).trans ((ups_r e45 (by omega)).trans ((ups_r e38 (by omega)).trans (hf10 _ _ (by omega)))))) (by show 0 ≤ v2; omega) (by show v2 ≤ (v5 + 1); omega) (by show 0 ≤ (v3 + 1); omega) (by show (v3 + 1) + 1 ≤ σ 87 (6 + 15 * a1 + 3); omega) (by show 0 ≤ 0; omega) (by show 0 ≤ 68; omega) (by show 0 ≤ (v5 + 1); omega) (by show (v5 + 1) ≤ 2000; omega) (by show 0 ≤ a1; omega) (by show a1 ≤ 2; omega) (by show ∀ d : Int, σ 87 (6 + 15 * a1 + 0) ≤ d → d < (v5 + 1) → 0 ≤ σ51 95 (2000 * a1 + d); intro d h1 h2; by_cases hj : d = v5; rw [hj, show σ51 95 (2000 * a1 + v5) = _ from ups_v e52]; omega; rw [show σ51 95 (2000 * a1 + d) = τ10 95 (2000 * a1 + d) from ((ups_r e52 (by omega)).trans ((ups_r e45 (by omega)).trans (ups_r e38 (by omega))))]; exact hi10_10 d h1 (by omega)) (by show ∀ j : Int, ¬ (2000 * a1 ≤ j ∧ j < 2000 * a1 + 2000) → σ51 95 j = σ 95 j; intro j h; exact (((ups_r e52 (by omega)).trans ((ups_r e45 (by omega)).trans (ups_r e38 (by omega))))).trans (hi10_11 j h)) (by omega)
          · skip
            show WP_ X G Q 0 0 ad SHS_ σ51 123 [(42, 86), (0, a1), (0, v2), (0, v3), (0, v4 + 1), (0, v5), (0, 1)] []
            refine B rfl ?_
            refine B rfl ?_
            refine And.intro (by omega) ?_
            show WP_ X G Q 0 0 ad SHS_ σ51 10 [(42, 86), (0, a1), (0, v2), (0, v3), (0, v4 + 1), (0, v5 + 1), (0, 1)] []
            refine wdrop_ (L' := [(42, 86), (0, a1), (0, v2), (0, v3), (0, v4 + 1), (0, v5 + 1), (9, 0)]) ⟨Or.inr rfl, ⟨Or.inr rfl, ⟨Or.inr rfl, ⟨Or.inr rfl, ⟨Or.inr rfl, ⟨Or.inr rfl, ⟨Or.inl rfl, trivial⟩⟩⟩⟩⟩⟩⟩ ?_
            try have t67 : σ51 95 (2000 * a1 + d) = σ 95 (2000 * a1 + d) := ((ups_r e52 (by omega)).trans ((ups_r e45 (by omega)).trans ((ups_r e38 (by omega)).trans (hf10 _ _ (by omega)))))
            exact ih_10 v2 v3 (v4 + 1) (v5 + 1) σ51 (fun k j hk => ((ups_r e52 (by omega)).trans ((ups_r e45 (by omega)).trans ((ups_r e38 (by omega)).trans (hf10 _ _ (by omega)))))) (by show 0 ≤ v2; omega) (by show v2 ≤ (v5 + 1); omega) (by show 0 ≤ v3; omega) (by show v3 + 1 ≤ σ 87 (6 + 15 * a1 + 3); omega) (by show 0 ≤ (v4 + 1); omega) (by show (v4 + 1) ≤ 68; omega) (by show 0 ≤ (v5 + 1); omega) (by show (v5 + 1) ≤ 2000; omega) (by show 0 ≤ a1; omega) (by show a1 ≤ 2; omega) (by show ∀ d : Int, σ 87 (6 + 15 * a1 + 0) ≤ d → d < (v5 + 1) → 0 ≤ σ51 95 (2000 * a1 + d); intro d h1 h2; by_cases hj : d = v5; rw [hj, show σ51 95 (2000 * a1 + v5) = _ from ups_v e52]; omega; rw [show σ51 95 (2000 * a1 + d) = τ10 95 (2000 * a1 + d) from ((ups_r e52 (by omega)).trans ((ups_r e45 (by omega)).trans (ups_r e38 (by omega))))]; exact hi10_10 d h1 (by omega)) (by show ∀ j : Int, ¬ (2000 * a1 ≤ j ∧ j < 2000 * a1 + 2000) → σ51 95 j = σ 95 j; intro j h; exact (((ups_r e52 (by omega)).trans ((ups_r e45 (by omega)).trans (ups_r e38 (by omega))))).trans (hi10_11 j h)) (by omega)
  exact lp_10 ((2000 - 0 : Int).toNat + 1) 0 0 0 0 σ (fun k j hk => rfl) (by show 0 ≤ 0; omega) (by show 0 ≤ 0; omega) (by show 0 ≤ 0; omega) (by show 0 + 1 ≤ σ 87 (6 + 15 * a1 + 3); omega) (by show 0 ≤ 0; omega) (by show 0 ≤ 68; omega) (by show 0 ≤ 0; omega) (by show 0 ≤ 2000; omega) (by show 0 ≤ a1; omega) (by show a1 ≤ 2; omega) (by show ∀ d : Int, σ 87 (6 + 15 * a1 + 0) ≤ d → d < 0 → 0 ≤ σ 95 (2000 * a1 + d); intro d h1 h2; omega) (by show ∀ j : Int, ¬ (2000 * a1 ≤ j ∧ j < 2000 * a1 + 2000) → σ 95 j = σ 95 j; intro j h; rfl) (by omega)
def as_G_X11_layWhy : Int → List Sv_t := fun a => [(42, 86), (0, a)]
def pre_G_X11_layWhy : Int → Me_t → Prop := fun a σ => (BW σ 87) ∧ (0 ≤ a) ∧ (a ≤ 2) ∧ (1 ≤ σ 87 (6 + 15 * a + 1))
def post_G_X11_layWhy : Int → Me_t → Int → Me_t → Prop := fun a σ z σ' => (∀ k j : Int, ¬ (k = 96) → σ' k j = σ k j)
set_option maxHeartbeats 1500000 in
set_option maxRecDepth 100000 in
theorem ct_G_X11_layWhy (l : Launch) : CT_ l yX11_layWhy cX11_layWhy 5 none 2 44 as_G_X11_layWhy (rmV_) pre_G_X11_layWhy post_G_X11_layWhy := by
  refine ct_of (by decide) (fun _ => Nat.le_of_ble_eq_true rfl) ?_
  intro X G Q ad σ a hl hR E hG R hM hv hp
  obtain ⟨a1, rfl⟩ : ∃ q : Int, q = a := ⟨_, rfl⟩
  have r_a1 : -2147483648 ≤ a1 ∧ a1 ≤ 2147483647 := hv (0, a1) (List.mem_of_getElem? (i := 1) rfl)
  have hp0 : BW σ 87 := hp.1
  have hp1 : 0 ≤ a1 := hp.2.1
  have hp2 : a1 ≤ 2 := hp.2.2.1
  have hp3 : 1 ≤ σ 87 (6 + 15 * a1 + 1) := hp.2.2.2
  have B := @bk_ X G Q 0 0 ad SHS_ RX11 cX11_layWhy 5 none flX11 plX11 knX11 [(490, 3, TR_ as_G_X11_ofTruce (rmI_) pre_G_X11_ofTruce post_G_X11_ofTruce), (467, 2, TR_ as_G_X11_spot (rmI_) pre_G_X11_spot post_G_X11_spot), (484, 3, TR_ as_G_X11_ofFeast (rmI_) pre_G_X11_ofFeast post_G_X11_ofFeast), (200, 3, TOR_ (TR_ as_G_X11_of_0 (rmI_) pre_G_X11_of_0 post_G_X11_of_0) (TR_ as_G_X11_of_2 (rmI_) pre_G_X11_of_2 post_G_X11_of_2)), (472, 3, TR_ as_G_X11_weekday (rmI_) pre_G_X11_weekday post_G_X11_weekday), (479, 2, TR_ as_G_X11_bit (rmI_) pre_G_X11_bit post_G_X11_bit)] _ _ none kX11_layWhy [2, 9, 28, 51, 65, 75, 85, 95, 102, 121, 140, 146, 159, 167, 191, 227, 237, 247, 257, 267, 289] flX11_ok plX11_ok knX11_ok eX11_layWhy oX11_layWhy
    (List.forall_mem_cons.mpr ⟨cok_v (t := 32) (c := 11) (N := 39) (n := 2) (idx := 245) E (ct_G_X11_ofTruce X.2.1) (by rw [hR]; decide) (Nat.zero_le _) (Nat.zero_le _) hG rfl rfl ⟨rfl, by decide, by decide, by decide⟩ (fun _ => ⟨_, _, rfl, rfl⟩) wl_X11_245 wi_X11_ofTruce ws_X11_ofTruce wn_X11 wc_X11_ofTruce, List.forall_mem_cons.mpr ⟨cok_s (n := 2) (idx := 233) E (ct_G_X11_spot X.2.1) (by rw [hR]; decide) (Nat.zero_le _) (Nat.zero_le _) hG ⟨by decide, by decide, by decide⟩ (fun _ => rfl) wl_X11_233 wt_X11_spot wn_X11 wc_X11_spot, List.forall_mem_cons.mpr ⟨cok_v (t := 32) (c := 11) (N := 39) (n := 2) (idx := 242) E (ct_G_X11_ofFeast X.2.1) (by rw [hR]; decide) (Nat.zero_le _) (Nat.zero_le _) hG rfl rfl ⟨rfl, by decide, by decide, by decide⟩ (fun _ => ⟨_, _, rfl, rfl⟩) wl_X11_242 wi_X11_ofFeast ws_X11_ofFeast wn_X11 wc_X11_ofFeast, List.forall_mem_cons.mpr ⟨cok_or (cok_v (t := 32) (c := 11) (N := 39) (n := 2) (idx := 100) E (ct_G_X11_of_0 X.2.1) (by rw [hR]; decide) (Nat.zero_le _) (Nat.zero_le _) hG rfl rfl ⟨rfl, by decide, by decide, by decide⟩ (fun _ => ⟨_, _, rfl, rfl⟩) wl_X11_100 wi_X11_of ws_X11_of wn_X11 wc_X11_of) (cok_v (t := 32) (c := 11) (N := 39) (n := 2) (idx := 100) E (ct_G_X11_of_2 X.2.1) (by rw [hR]; decide) (Nat.zero_le _) (Nat.zero_le _) hG rfl rfl ⟨rfl, by decide, by decide, by decide⟩ (fun _ => ⟨_, _, rfl, rfl⟩) wl_X11_100 wi_X11_of ws_X11_of wn_X11 wc_X11_of), List.forall_mem_cons.mpr ⟨cok_v (t := 32) (c := 11) (N := 39) (n := 2) (idx := 236) E (ct_G_X11_weekday X.2.1) (by rw [hR]; decide) (Nat.zero_le _) (Nat.zero_le _) hG rfl rfl ⟨rfl, by decide, by decide, by decide⟩ (fun _ => ⟨_, _, rfl, rfl⟩) wl_X11_236 wi_X11_weekday ws_X11_weekday wn_X11 wc_X11_weekday, List.forall_mem_cons.mpr ⟨cok_s (n := 2) (idx := 239) E (ct_G_X11_bit X.2.1) (by rw [hR]; decide) (Nat.zero_le _) (Nat.zero_le _) hG ⟨by decide, by decide, by decide⟩ (fun _ => rfl) wl_X11_239 wt_X11_bit wn_X11 wc_X11_bit, fun _ h => absurd h List.not_mem_nil⟩⟩⟩⟩⟩⟩) R sok_no E
  show WP_ X G Q 0 0 ad SHS_ σ 0 [(42, 86), (0, a1), (9, 0), (9, 0), (9, 0)] []
  refine B rfl ?_
  have lp_2 : ∀ (nq_ : Nat) (v2 : Int) (τ2 : Me_t), (∀ k j : Int, ¬ (k = 96) → τ2 k j = σ k j) → (0 ≤ v2) → (v2 ≤ 2000) → (2000 - v2 : Int).toNat < nq_ → WP_ X G Q 0 0 ad SHS_ τ2 2 [(42, 86), (0, a1), (0, v2), (9, 0), (9, 0)] [] := by
    intro nq_
    induction nq_ with
    | zero => intros; omega
    | succ nq_ ih_2 =>
      intro v2 τ2 hf2 hi2_0 hi2_1 hm2
      refine B rfl ?_
      refine And.intro (fun h1 => ?_) (fun h1 => ?_)
      · skip
        refine B rfl ?_
        have lp_65 : ∀ (nq_ : Nat) (v2 : Int) (τ65 : Me_t), (∀ k j : Int, ¬ (k = 96) → τ65 k j = σ k j) → (0 ≤ v2) → (v2 ≤ 12) → (12 - v2 : Int).toNat < nq_ → WP_ X G Q 0 0 ad SHS_ τ65 65 [(42, 86), (0, a1), (0, v2), (9, 0), (9, 0)] [] := by
          intro nq_
          induction nq_ with
          | zero => intros; omega
          | succ nq_ ih_65 =>
            intro v2 τ65 hf65 hi65_0 hi65_1 hm65
            refine B rfl ?_
            refine And.intro (by omega) ?_
            intro z2 ez2 hz2
            have hz2 : ((-1) : Int) ≤ z2 ∧ z2 ≤ (1999 : Int) := hz2
            try have t3 : τ65 87 2 = σ 87 2 := (hf65 _ _ (by omega))
            have p4 : BW τ65 87 := BW_fr hp0 (fun k j hk => (hf65 _ _ (by omega)))
            have b5 := wrh_ p4 (i := 2) (by omega)
            have b5 : (0 : Int) ≤ τ65 87 2 ∧ τ65 87 2 ≤ (12 : Int) := b5
            refine And.intro (fun h6 => ?_) (fun h6 => ?_)
            · skip
              refine B rfl ?_
              have lp_227 : ∀ (nq_ : Nat) (v2 : Int) (τ227 : Me_t), (∀ k j : Int, ¬ (k = 96) → τ227 k j = σ k j) → (0 ≤ v2) → (v2 ≤ 12) → (12 - v2 : Int).toNat < nq_ → WP_ X G Q 0 0 ad SHS_ τ227 227 [(42, 86), (0, a1), (0, v2), (9, 0), (9, 0)] [] := by
                intro nq_
                induction nq_ with
                | zero => intros; omega
                | succ nq_ ih_227 =>
                  intro v2 τ227 hf227 hi227_0 hi227_1 hm227
                  refine B rfl ?_
                  refine And.intro (by omega) ?_
                  intro z7 ez7 hz7
                  have hz7 : ((-1) : Int) ≤ z7 ∧ z7 ≤ (1999 : Int) := hz7
                  try have t8 : τ227 87 3 = σ 87 3 := (hf227 _ _ (by omega))
                  have p9 : BW τ227 87 := BW_fr hp0 (fun k j hk => (hf227 _ _ (by omega)))
                  have b10 := wrh_ p9 (i := 3) (by omega)
                  have b10 : (0 : Int) ≤ τ227 87 3 ∧ τ227 87 3 ≤ (12 : Int) := b10
                  refine And.intro (fun h11 => ?_) (fun h11 => ?_)
                  · skip
                    refine B rfl ?_
                    refine Exists.intro 0 (And.intro rfl ?_)
                    exact (fun k j hk => (hf227 _ _ (by omega)))
                  · skip
                    show WP_ X G Q 0 0 ad SHS_ τ227 237 [(42, 86), (0, a1), (0, v2), (9, 0), (9, 0)] []
                    refine B rfl ?_
                    refine Exists.intro (v2, 0) (And.intro rfl (And.intro (And.intro p9 (And.intro (by show 0 ≤ v2; omega) (And.intro (by show v2 ≤ 11; omega) (And.intro (by show 0 ≤ 0; omega) (by show 0 ≤ 2; omega))))) ?_))
                    rintro z12 m_ h13
                    obtain rfl : τ227 = m_ := h13.2
                    have h14 : 0 ≤ z12 ∧ z12 ≤ 1999 := h13.1
                    refine And.intro (fun h15 => ?_) (fun h15 => ?_)
                    · skip
                      refine B rfl ?_
                      refine Exists.intro (v2, 1) (And.intro rfl (And.intro (And.intro p9 (And.intro (by show 0 ≤ v2; omega) (And.intro (by show v2 ≤ 11; omega) (And.intro (by show 0 ≤ 1; omega) (by show 1 ≤ 2; omega))))) ?_))
                      rintro z16 m_ h17
                      obtain rfl : τ227 = m_ := h17.2
                      have h18 : 0 ≤ z16 ∧ z16 ≤ 1999 := h17.1
                      have lp_257 : ∀ (nq_ : Nat) (v3 : Int) (τ257 : Me_t), (∀ k j : Int, ¬ (k = 96) → τ257 k j = σ k j) → (0 ≤ v3) → (v3 ≤ 2000) → (2000 - v3 : Int).toNat < nq_ → WP_ X G Q 0 0 ad SHS_ τ257 257 [(42, 86), (0, a1), (0, v2), (0, v3), (9, 0)] [] := by
                        intro nq_
                        induction nq_ with
                        | zero => intros; omega
                        | succ nq_ ih_257 =>
                          intro v3 τ257 hf257 hi257_0 hi257_1 hm257
                          refine B rfl ?_
                          have p19 : BW τ257 87 := BW_fr hp0 (fun k j hk => (hf257 _ _ (by omega)))
                          refine Exists.intro (v2, 2) (And.intro rfl (And.intro (And.intro p19 (And.intro (by show 0 ≤ v2; omega) (And.intro (by show v2 ≤ 11; omega) (And.intro (by show 0 ≤ 2; omega) (by show 2 ≤ 2; omega))))) ?_))
                          rintro z20 m_ h21
                          obtain rfl : τ257 = m_ := h21.2
                          have h22 : 0 ≤ z20 ∧ z20 ≤ 1999 := h21.1
                          refine And.intro (fun h23 => ?_) (fun h23 => ?_)
                          · skip
                            refine B rfl ?_
                            refine And.intro (by omega) ?_
                            show WP_ X G Q 0 0 ad SHS_ τ257 227 [(42, 86), (0, a1), (0, v2 + 1), (0, v3), (9, 0)] []
                            refine wdrop_ (L' := [(42, 86), (0, a1), (0, v2 + 1), (9, 0), (9, 0)]) ⟨Or.inr rfl, ⟨Or.inr rfl, ⟨Or.inr rfl, ⟨Or.inl rfl, ⟨Or.inl rfl, trivial⟩⟩⟩⟩⟩ ?_
                            exact ih_227 (v2 + 1) τ257 (fun k j hk => (hf257 _ _ (by omega))) (by show 0 ≤ (v2 + 1); omega) (by show (v2 + 1) ≤ 12; omega) (by omega)
                          · skip
                            show WP_ X G Q 0 0 ad SHS_ τ257 267 [(42, 86), (0, a1), (0, v2), (0, v3), (9, 0)] []
                            refine B rfl ?_
                            refine Exists.intro (a1, v3) (And.intro rfl (And.intro (And.intro (by show 0 ≤ a1; omega) (And.intro (by show a1 ≤ 2; omega) (And.intro (by show 0 ≤ v3; omega) (by show v3 ≤ 1999; omega)))) ?_))
                            rintro z24 m_ h25
                            obtain rfl : τ257 = m_ := h25.2
                            have h26 : z24 = 2000 * a1 + v3 := h25.1
                            have q27 : z24 = 2000 * a1 + v3 := by omega
                            subst q27
                            refine Exists.intro (a1, v3) (And.intro rfl (And.intro (And.intro (by show 0 ≤ a1; omega) (And.intro (by show a1 ≤ 2; omega) (And.intro (by show 0 ≤ v3; omega) (by show v3 ≤ 1999; omega)))) ?_))
                            rintro z28 m_ h29
                            obtain rfl : τ257 = m_ := h29.2
                            have h30 : z28 = 2000 * a1 + v3 := h29.1
                            have q31 : z28 = 2000 * a1 + v3 := by omega
                            subst q31
                            refine And.intro (by omega) ?_
                            intro z32 ez32 hz32
                            have hz32 : (0 : Int) ≤ z32 ∧ z32 ≤ (4 : Int) := hz32
                            try have t33 : τ257 96 (2000 * a1 + v3) = σ 96 (2000 * a1 + v3) := (hf257 _ _ (by omega))
                            refine And.intro (fun h34 => ?_) (fun h34 => ?_)
                            · skip
                              refine B rfl ?_
                              refine Exists.intro (a1, v3) (And.intro rfl (And.intro (And.intro (by show 0 ≤ a1; omega) (And.intro (by show a1 ≤ 2; omega) (And.intro (by show 0 ≤ v3; omega) (by show v3 ≤ 1999; omega)))) ?_))
                              rintro z35 m_ h36
                              obtain rfl : τ257 = m_ := h36.2
                              have h37 : z35 = 2000 * a1 + v3 := h36.1
                              have q38 : z35 = 2000 * a1 + v3 := by omega
                              subst q38
                              refine And.intro (by omega) ?_
                              intro z39 ez39 hz39
                              have q40 : z32 = z39 := ez32.trans ez39.symm
                              subst q40
                              refine And.intro (by omega) ?_
                              refine And.intro (by show (0 : Int) ≤ _ ∧ _ ≤ (4 : Int); omega) ?_
                              intro σ41 e42
                              refine And.intro (by omega) ?_
                              exact ih_257 (v3 + 1) σ41 (fun k j hk => ((ups_r e42 (by omega)).trans (hf257 _ _ (by omega)))) (by show 0 ≤ (v3 + 1); omega) (by show (v3 + 1) ≤ 2000; omega) (by omega)
                            · skip
                              show WP_ X G Q 0 0 ad SHS_ τ257 289 [(42, 86), (0, a1), (0, v2), (0, v3), (9, 0)] [(0, 2000 * a1 + v3), (52, 96)]
                              refine B rfl ?_
                              refine B rfl ?_
                              refine And.intro (by omega) ?_
                              refine And.intro (by show (0 : Int) ≤ _ ∧ _ ≤ (4 : Int); omega) ?_
                              intro σ43 e44
                              refine And.intro (by omega) ?_
                              exact ih_257 (v3 + 1) σ43 (fun k j hk => ((ups_r e44 (by omega)).trans (hf257 _ _ (by omega)))) (by show 0 ≤ (v3 + 1); omega) (by show (v3 + 1) ≤ 2000; omega) (by omega)
                      exact lp_257 ((2000 - z16 : Int).toNat + 1) z16 τ227 (fun k j hk => (hf227 _ _ (by omega))) (by show 0 ≤ z16; omega) (by show z16 ≤ 2000; omega) (by omega)
                    · skip
                      show WP_ X G Q 0 0 ad SHS_ τ227 247 [(42, 86), (0, a1), (0, v2), (9, 0), (9, 0)] []
                      refine B rfl ?_
                      refine B rfl ?_
                      refine And.intro (by omega) ?_
                      exact ih_227 (v2 + 1) τ227 (fun k j hk => (hf227 _ _ (by omega))) (by show 0 ≤ (v2 + 1); omega) (by show (v2 + 1) ≤ 12; omega) (by omega)
              exact lp_227 ((12 - 0 : Int).toNat + 1) 0 τ65 (fun k j hk => (hf65 _ _ (by omega))) (by show 0 ≤ 0; omega) (by show 0 ≤ 12; omega) (by omega)
            · skip
              show WP_ X G Q 0 0 ad SHS_ τ65 75 [(42, 86), (0, a1), (0, v2), (9, 0), (9, 0)] []
              refine B rfl ?_
              refine Exists.intro (v2, 0) (And.intro rfl (And.intro (And.intro p4 (And.intro (by show 0 ≤ v2; omega) (And.intro (by show v2 ≤ 11; omega) (And.intro (by show 0 ≤ 0; omega) (by show 0 ≤ 3; omega))))) ?_))
              rintro z45 m_ h46
              obtain rfl : τ65 = m_ := h46.2.2
              have h47 : 0 ≤ z45 ∧ z45 ≤ 59 := h46.1
              have h48 : z45 ≤ fthi_ 0 := h46.2.1
              refine And.intro (fun h49 => ?_) (fun h49 => ?_)
              · skip
                refine B rfl ?_
                refine Or.inl ?_
                refine Exists.intro a1 (And.intro rfl (And.intro (And.intro p4 (And.intro (by show 0 ≤ a1; omega) (by show a1 ≤ 2; omega))) ?_))
                rintro z50 m_ h51
                obtain rfl : τ65 = m_ := h51.2.2
                have h52 : z50 = τ65 87 (6 + 15 * a1 + 0) := h51.1
                have h53 : 0 ≤ z50 ∧ z50 ≤ 999 := h51.2.1
                have lp_95 : ∀ (nq_ : Nat) (v3 : Int) (τ95 : Me_t), (∀ k j : Int, ¬ (k = 96) → τ95 k j = σ k j) → (0 ≤ v3) → (v3 ≤ 2000) → (2000 - v3 : Int).toNat < nq_ → WP_ X G Q 0 0 ad SHS_ τ95 95 [(42, 86), (0, a1), (0, v2), (0, v3), (9, 0)] [] := by
                  intro nq_
                  induction nq_ with
                  | zero => intros; omega
                  | succ nq_ ih_95 =>
                    intro v3 τ95 hf95 hi95_0 hi95_1 hm95
                    refine B rfl ?_
                    refine And.intro (fun h54 => ?_) (fun h54 => ?_)
                    · skip
                      refine B rfl ?_
                      refine And.intro (by omega) ?_
                      show WP_ X G Q 0 0 ad SHS_ τ95 65 [(42, 86), (0, a1), (0, v2 + 1), (0, v3), (9, 0)] []
                      refine wdrop_ (L' := [(42, 86), (0, a1), (0, v2 + 1), (9, 0), (9, 0)]) ⟨Or.inr rfl, ⟨Or.inr rfl, ⟨Or.inr rfl, ⟨Or.inl rfl, ⟨Or.inl rfl, trivial⟩⟩⟩⟩⟩ ?_
                      exact ih_65 (v2 + 1) τ95 (fun k j hk => (hf95 _ _ (by omega))) (by show 0 ≤ (v2 + 1); omega) (by show (v2 + 1) ≤ 12; omega) (by omega)
                    · skip
                      show WP_ X G Q 0 0 ad SHS_ τ95 102 [(42, 86), (0, a1), (0, v2), (0, v3), (9, 0)] []
                      refine B rfl ?_
                      refine Exists.intro (a1, v3) (And.intro rfl (And.intro (And.intro (by show 0 ≤ a1; omega) (And.intro (by show a1 ≤ 2; omega) (And.intro (by show 0 ≤ v3; omega) (by show v3 ≤ 1999; omega)))) ?_))
                      rintro z55 m_ h56
                      obtain rfl : τ95 = m_ := h56.2
                      have h57 : z55 = 2000 * a1 + v3 := h56.1
                      have q58 : z55 = 2000 * a1 + v3 := by omega
                      subst q58
                      refine And.intro (by omega) ?_
                      intro z59 ez59 hz59
                      have hz59 : ((-1) : Int) ≤ z59 ∧ z59 ≤ (7 : Int) := hz59
                      try have t60 : τ95 94 (2000 * a1 + v3) = σ 94 (2000 * a1 + v3) := (hf95 _ _ (by omega))
                      have p61 : BW τ95 87 := BW_fr hp0 (fun k j hk => (hf95 _ _ (by omega)))
                      refine Exists.intro (v2, 1) (And.intro rfl (And.intro (And.intro p61 (And.intro (by show 0 ≤ v2; omega) (And.intro (by show v2 ≤ 11; omega) (And.intro (by show 0 ≤ 1; omega) (by show 1 ≤ 3; omega))))) ?_))
                      rintro z62 m_ h63
                      obtain rfl : τ95 = m_ := h63.2.2
                      have h64 : 0 ≤ z62 ∧ z62 ≤ 59 := h63.1
                      have h65 : z62 ≤ fthi_ 1 := h63.2.1
                      refine And.intro (fun h66 => ?_) (fun h66 => ?_)
                      · skip
                        refine B rfl ?_
                        refine And.intro (by omega) ?_
                        exact ih_95 (v3 + 1) τ95 (fun k j hk => (hf95 _ _ (by omega))) (by show 0 ≤ (v3 + 1); omega) (by show (v3 + 1) ≤ 2000; omega) (by omega)
                      · skip
                        show WP_ X G Q 0 0 ad SHS_ τ95 121 [(42, 86), (0, a1), (0, v2), (0, v3), (9, 0)] []
                        refine B rfl ?_
                        refine Exists.intro (a1, v3) (And.intro rfl (And.intro (And.intro (by show 0 ≤ a1; omega) (And.intro (by show a1 ≤ 2; omega) (And.intro (by show 0 ≤ v3; omega) (by show v3 ≤ 1999; omega)))) ?_))
                        rintro z67 m_ h68
                        obtain rfl : τ95 = m_ := h68.2
                        have h69 : z67 = 2000 * a1 + v3 := h68.1
                        have q70 : z67 = 2000 * a1 + v3 := by omega
                        subst q70
                        refine And.intro (by omega) ?_
                        intro z71 ez71 hz71
                        have hz71 : ((-1) : Int) ≤ z71 ∧ z71 ≤ (68 : Int) := hz71
                        try have t72 : τ95 95 (2000 * a1 + v3) = σ 95 (2000 * a1 + v3) := (hf95 _ _ (by omega))
                        refine Exists.intro (v2, 2) (And.intro rfl (And.intro (And.intro p61 (And.intro (by show 0 ≤ v2; omega) (And.intro (by show v2 ≤ 11; omega) (And.intro (by show 0 ≤ 2; omega) (by show 2 ≤ 3; omega))))) ?_))
                        rintro z73 m_ h74
                        obtain rfl : τ95 = m_ := h74.2.2
                        have h75 : 0 ≤ z73 ∧ z73 ≤ 59 := h74.1
                        have h76 : z73 ≤ fthi_ 2 := h74.2.1
                        refine And.intro (fun h77 => ?_) (fun h77 => ?_)
                        · skip
                          refine B rfl ?_
                          have lp_146 : ∀ (nq_ : Nat) (v4 : Int) (τ146 : Me_t), (∀ k j : Int, ¬ (k = 96) → τ146 k j = σ k j) → (0 ≤ v4) → (v4 ≤ 2000) → (2000 - v4 : Int).toNat < nq_ → WP_ X G Q 0 0 ad SHS_ τ146 146 [(42, 86), (0, a1), (0, v2), (0, v3), (0, v4)] [] := by
                            intro nq_
                            induction nq_ with
                            | zero => intros; omega
                            | succ nq_ ih_146 =>
                              intro v4 τ146 hf146 hi146_0 hi146_1 hm146
                              refine B rfl ?_
                              have p78 : BW τ146 87 := BW_fr hp0 (fun k j hk => (hf146 _ _ (by omega)))
                              refine Exists.intro (v2, 3) (And.intro rfl (And.intro (And.intro p78 (And.intro (by show 0 ≤ v2; omega) (And.intro (by show v2 ≤ 11; omega) (And.intro (by show 0 ≤ 3; omega) (by show 3 ≤ 3; omega))))) ?_))
                              rintro z79 m_ h80
                              obtain rfl : τ146 = m_ := h80.2.2
                              have h81 : 0 ≤ z79 ∧ z79 ≤ 59 := h80.1
                              have h82 : z79 ≤ fthi_ 3 := h80.2.1
                              refine And.intro (by omega) ?_
                              refine And.intro (fun h83 => ?_) (fun h83 => ?_)
                              · skip
                                refine B rfl ?_
                                refine And.intro (by omega) ?_
                                show WP_ X G Q 0 0 ad SHS_ τ146 95 [(42, 86), (0, a1), (0, v2), (0, v3 + 1), (0, v4)] []
                                refine wdrop_ (L' := [(42, 86), (0, a1), (0, v2), (0, v3 + 1), (9, 0)]) ⟨Or.inr rfl, ⟨Or.inr rfl, ⟨Or.inr rfl, ⟨Or.inr rfl, ⟨Or.inl rfl, trivial⟩⟩⟩⟩⟩ ?_
                                exact ih_95 (v3 + 1) τ146 (fun k j hk => (hf146 _ _ (by omega))) (by show 0 ≤ (v3 + 1); omega) (by show (v3 + 1) ≤ 2000; omega) (by omega)
                              · skip
                                show WP_ X G Q 0 0 ad SHS_ τ146 159 [(42, 86), (0, a1), (0, v2), (0, v3), (0, v4)] []
                                refine B rfl ?_
                                refine And.intro (fun h84 => ?_) (fun h84 => ?_)
                                · skip
                                  refine B rfl ?_
                                  refine And.intro (by omega) ?_
                                  show WP_ X G Q 0 0 ad SHS_ τ146 95 [(42, 86), (0, a1), (0, v2), (0, v3 + 1), (0, v4)] []
                                  refine wdrop_ (L' := [(42, 86), (0, a1), (0, v2), (0, v3 + 1), (9, 0)]) ⟨Or.inr rfl, ⟨Or.inr rfl, ⟨Or.inr rfl, ⟨Or.inr rfl, ⟨Or.inl rfl, trivial⟩⟩⟩⟩⟩ ?_
                                  exact ih_95 (v3 + 1) τ146 (fun k j hk => (hf146 _ _ (by omega))) (by show 0 ≤ (v3 + 1); omega) (by show (v3 + 1) ≤ 2000; omega) (by omega)
                                · skip
                                  show WP_ X G Q 0 0 ad SHS_ τ146 167 [(42, 86), (0, a1), (0, v2), (0, v3), (0, v4)] []
                                  refine B rfl ?_
                                  refine Exists.intro (a1, v4) (And.intro rfl (And.intro (And.intro (by show 0 ≤ a1; omega) (And.intro (by show a1 ≤ 2; omega) (And.intro (by show 0 ≤ v4; omega) (by show v4 ≤ 1999; omega)))) ?_))
                                  rintro z85 m_ h86
                                  obtain rfl : τ146 = m_ := h86.2
                                  have h87 : z85 = 2000 * a1 + v4 := h86.1
                                  have q88 : z85 = 2000 * a1 + v4 := by omega
                                  subst q88
                                  refine Exists.intro (a1, v4) (And.intro rfl (And.intro (And.intro (by show 0 ≤ a1; omega) (And.intro (by show a1 ≤ 2; omega) (And.intro (by show 0 ≤ v4; omega) (by show v4 ≤ 1999; omega)))) ?_))
                                  rintro z89 m_ h90
                                  obtain rfl : τ146 = m_ := h90.2
                                  have h91 : z89 = 2000 * a1 + v4 := h90.1
                                  have q92 : z89 = 2000 * a1 + v4 := by omega
                                  subst q92
                                  refine And.intro (by omega) ?_
                                  intro z93 ez93 hz93
                                  have hz93 : (0 : Int) ≤ z93 ∧ z93 ≤ (4 : Int) := hz93
                                  try have t94 : τ146 96 (2000 * a1 + v4) = σ 96 (2000 * a1 + v4) := (hf146 _ _ (by omega))
                                  refine And.intro (fun h95 => ?_) (fun h95 => ?_)
                                  · skip
                                    refine B rfl ?_
                                    refine Exists.intro (a1, v4) (And.intro rfl (And.intro (And.intro (by show 0 ≤ a1; omega) (And.intro (by show a1 ≤ 2; omega) (And.intro (by show 0 ≤ v4; omega) (by show v4 ≤ 1999; omega)))) ?_))
                                    rintro z96 m_ h97
                                    obtain rfl : τ146 = m_ := h97.2
                                    have h98 : z96 = 2000 * a1 + v4 := h97.1
                                    have q99 : z96 = 2000 * a1 + v4 := by omega
                                    subst q99
                                    refine And.intro (by omega) ?_
                                    intro z100 ez100 hz100
                                    have q101 : z93 = z100 := ez93.trans ez100.symm
                                    subst q101
                                    refine And.intro (by omega) ?_
                                    refine And.intro (by show (0 : Int) ≤ _ ∧ _ ≤ (4 : Int); omega) ?_
                                    intro σ102 e103
                                    refine And.intro (by omega) ?_
                                    exact ih_146 (v4 + 1) σ102 (fun k j hk => ((ups_r e103 (by omega)).trans (hf146 _ _ (by omega)))) (by show 0 ≤ (v4 + 1); omega) (by show (v4 + 1) ≤ 2000; omega) (by omega)
                                  · skip
                                    show WP_ X G Q 0 0 ad SHS_ τ146 191 [(42, 86), (0, a1), (0, v2), (0, v3), (0, v4)] [(0, 2000 * a1 + v4), (52, 96)]
                                    refine B rfl ?_
                                    refine B rfl ?_
                                    refine And.intro (by omega) ?_
                                    refine And.intro (by show (0 : Int) ≤ _ ∧ _ ≤ (4 : Int); omega) ?_
                                    intro σ104 e105
                                    refine And.intro (by omega) ?_
                                    exact ih_146 (v4 + 1) σ104 (fun k j hk => ((ups_r e105 (by omega)).trans (hf146 _ _ (by omega)))) (by show 0 ≤ (v4 + 1); omega) (by show (v4 + 1) ≤ 2000; omega) (by omega)
                          exact lp_146 ((2000 - v3 : Int).toNat + 1) v3 τ95 (fun k j hk => (hf95 _ _ (by omega))) (by show 0 ≤ v3; omega) (by show v3 ≤ 2000; omega) (by omega)
                        · skip
                          show WP_ X G Q 0 0 ad SHS_ τ95 140 [(42, 86), (0, a1), (0, v2), (0, v3), (9, 0)] []
                          refine B rfl ?_
                          refine B rfl ?_
                          refine And.intro (by omega) ?_
                          exact ih_95 (v3 + 1) τ95 (fun k j hk => (hf95 _ _ (by omega))) (by show 0 ≤ (v3 + 1); omega) (by show (v3 + 1) ≤ 2000; omega) (by omega)
                exact lp_95 ((2000 - z50 : Int).toNat + 1) z50 τ65 (fun k j hk => (hf65 _ _ (by omega))) (by show 0 ≤ z50; omega) (by show z50 ≤ 2000; omega) (by omega)
              · skip
                show WP_ X G Q 0 0 ad SHS_ τ65 85 [(42, 86), (0, a1), (0, v2), (9, 0), (9, 0)] []
                refine B rfl ?_
                refine B rfl ?_
                refine And.intro (by omega) ?_
                exact ih_65 (v2 + 1) τ65 (fun k j hk => (hf65 _ _ (by omega))) (by show 0 ≤ (v2 + 1); omega) (by show (v2 + 1) ≤ 12; omega) (by omega)
        exact lp_65 ((12 - 0 : Int).toNat + 1) 0 τ2 (fun k j hk => (hf2 _ _ (by omega))) (by show 0 ≤ 0; omega) (by show 0 ≤ 12; omega) (by omega)
      · skip
        show WP_ X G Q 0 0 ad SHS_ τ2 9 [(42, 86), (0, a1), (0, v2), (9, 0), (9, 0)] []
        refine B rfl ?_
        refine Exists.intro (a1, v2) (And.intro rfl (And.intro (And.intro (by show 0 ≤ a1; omega) (And.intro (by show a1 ≤ 2; omega) (And.intro (by show 0 ≤ v2; omega) (by show v2 ≤ 1999; omega)))) ?_))
        rintro z106 m_ h107
        obtain rfl : τ2 = m_ := h107.2
        have h108 : z106 = 2000 * a1 + v2 := h107.1
        have q109 : z106 = 2000 * a1 + v2 := by omega
        subst q109
        have p110 : BW τ2 87 := BW_fr hp0 (fun k j hk => (hf2 _ _ (by omega)))
        refine Or.inl ?_
        refine Exists.intro a1 (And.intro rfl (And.intro (And.intro p110 (And.intro (by show 0 ≤ a1; omega) (by show a1 ≤ 2; omega))) ?_))
        rintro z111 m_ h112
        obtain rfl : τ2 = m_ := h112.2.2
        have h113 : z111 = τ2 87 (6 + 15 * a1 + 0) := h112.1
        have h114 : 0 ≤ z111 ∧ z111 ≤ 999 := h112.2.1
        refine And.intro (fun h115 => ?_) (fun h115 => ?_)
        · skip
          refine B rfl ?_
          refine Or.inr ?_
          refine Exists.intro a1 (And.intro rfl (And.intro (And.intro p110 (And.intro (by show 0 ≤ a1; omega) (by show a1 ≤ 2; omega))) ?_))
          rintro z116 m_ h117
          obtain rfl : τ2 = m_ := h117.2.2
          have h118 : z116 = τ2 87 (6 + 15 * a1 + 2) := h117.1
          have h119 : 0 ≤ z116 ∧ z116 ≤ 1022 := h117.2.1
          try have t120 : τ2 87 (6 + 15 * a1 + 1) = σ 87 (6 + 15 * a1 + 1) := (hf2 _ _ (by omega))
          refine Exists.intro (a1, v2) (And.intro rfl (And.intro (And.intro p110 (And.intro (by show 0 ≤ a1; omega) (And.intro (by show a1 ≤ 2; omega) (And.intro (by show 1 ≤ τ2 87 (6 + 15 * a1 + 1); omega) (And.intro (by show 0 ≤ v2; omega) (by show v2 ≤ 10000; omega)))))) ?_))
          rintro z121 m_ h122
          obtain rfl : τ2 = m_ := h122.2
          have h123 : -1 ≤ z121 ∧ z121 ≤ 9 := h122.1
          refine Exists.intro (z116, z121) (And.intro rfl (And.intro True.intro ?_))
          rintro z124 m_ h125
          obtain rfl : τ2 = m_ := h125.2
          have h126 : 0 ≤ z124 ∧ z124 ≤ 1 := h125.1
          refine And.intro (fun h127 => ?_) (fun h127 => ?_)
          · skip
            refine B rfl ?_
            refine And.intro (by omega) ?_
            refine And.intro (by show (0 : Int) ≤ _ ∧ _ ≤ (4 : Int); omega) ?_
            intro σ128 e129
            refine And.intro (by omega) ?_
            exact ih_2 (v2 + 1) σ128 (fun k j hk => ((ups_r e129 (by omega)).trans (hf2 _ _ (by omega)))) (by show 0 ≤ (v2 + 1); omega) (by show (v2 + 1) ≤ 2000; omega) (by omega)
          · skip
            show WP_ X G Q 0 0 ad SHS_ τ2 51 [(42, 86), (0, a1), (0, v2), (9, 0), (9, 0)] [(0, 2000 * a1 + v2), (52, 96)]
            refine B rfl ?_
            refine B rfl ?_
            refine And.intro (by omega) ?_
            refine And.intro (by show (0 : Int) ≤ _ ∧ _ ≤ (4 : Int); omega) ?_
            intro σ130 e131
            refine And.intro (by omega) ?_
            exact ih_2 (v2 + 1) σ130 (fun k j hk => ((ups_r e131 (by omega)).trans (hf2 _ _ (by omega)))) (by show 0 ≤ (v2 + 1); omega) (by show (v2 + 1) ≤ 2000; omega) (by omega)
        · skip
          show WP_ X G Q 0 0 ad SHS_ τ2 28 [(42, 86), (0, a1), (0, v2), (9, 0), (9, 0)] [(0, 2000 * a1 + v2), (52, 96)]
          refine B rfl ?_
          refine B rfl ?_
          refine And.intro (by omega) ?_
          refine And.intro (by show (0 : Int) ≤ _ ∧ _ ≤ (4 : Int); omega) ?_
          intro σ132 e133
          refine And.intro (by omega) ?_
          exact ih_2 (v2 + 1) σ132 (fun k j hk => ((ups_r e133 (by omega)).trans (hf2 _ _ (by omega)))) (by show 0 ≤ (v2 + 1); omega) (by show (v2 + 1) ≤ 2000; omega) (by omega)
  exact lp_2 ((2000 - 0 : Int).toNat + 1) 0 σ (fun k j hk => rfl) (by show 0 ≤ 0; omega) (by show 0 ≤ 2000; omega) (by omega)
def as_G_X11_lay : Unit → List Sv_t := fun a => [(42, 86)]
def pre_G_X11_lay : Unit → Me_t → Prop := fun a σ => (MI σ)
def post_G_X11_lay : Unit → Me_t → Int → Me_t → Prop := fun a σ z σ' => (LY σ') ∧ (∀ k j : Int, ¬ (93 ≤ k ∧ k ≤ 96) → σ' k j = σ k j)
set_option maxHeartbeats 1500000 in
set_option maxRecDepth 100000 in
theorem ct_G_X11_lay (l : Launch) : CT_ l yX11_lay cX11_lay 2 none 3 71 as_G_X11_lay (rmV_) pre_G_X11_lay post_G_X11_lay := by
  refine ct_of (by decide) (fun _ => Nat.le_of_ble_eq_true rfl) ?_
  intro X G Q ad σ a hl hR E hG R hM hv hp
  have hp0 : MI σ := hp
  have B := @bk_ X G Q 0 0 ad SHS_ RX11 cX11_lay 2 none flX11 plX11 knX11 [(496, 2, TR_ as_G_X11_layDates (rmV_) pre_G_X11_layDates post_G_X11_layDates), (502, 2, TR_ as_G_X11_layWhy (rmV_) pre_G_X11_layWhy post_G_X11_layWhy)] _ _ none kX11_lay [2] flX11_ok plX11_ok knX11_ok eX11_lay oX11_lay
    (List.forall_mem_cons.mpr ⟨cok_v (t := 32) (c := 11) (N := 39) (n := 1) (idx := 248) E (ct_G_X11_layDates X.2.1) (by rw [hR]; decide) (Nat.zero_le _) (Nat.zero_le _) hG rfl rfl ⟨rfl, by decide, by decide, by decide⟩ (fun _ => ⟨_, _, rfl, rfl⟩) wl_X11_248 wi_X11_layDates ws_X11_layDates wn_X11 wc_X11_layDates, List.forall_mem_cons.mpr ⟨cok_v (t := 32) (c := 11) (N := 39) (n := 1) (idx := 251) E (ct_G_X11_layWhy X.2.1) (by rw [hR]; decide) (Nat.zero_le _) (Nat.zero_le _) hG rfl rfl ⟨rfl, by decide, by decide, by decide⟩ (fun _ => ⟨_, _, rfl, rfl⟩) wl_X11_251 wi_X11_layWhy ws_X11_layWhy wn_X11 wc_X11_layWhy, fun _ h => absurd h List.not_mem_nil⟩⟩) R sok_no E
  show WP_ X G Q 0 0 ad SHS_ σ 0 [(42, 86), (9, 0)] []
  refine B rfl ?_
  have lp_2 : ∀ (nq_ : Nat) (v1 : Int) (τ2 : Me_t), (∀ k j : Int, ¬ (93 ≤ k ∧ k ≤ 96) → τ2 k j = σ k j) → (0 ≤ v1) → (v1 ≤ 3) → (∀ l d : Int, 0 ≤ l → l < v1 → σ 87 (6 + 15 * l + 0) ≤ d → d < 2000 → 0 ≤ τ2 95 (2000 * l + d)) → (3 - v1 : Int).toNat < nq_ → WP_ X G Q 0 0 ad SHS_ τ2 2 [(42, 86), (0, v1)] [] := by
    intro nq_
    induction nq_ with
    | zero => intros; omega
    | succ nq_ ih_2 =>
      intro v1 τ2 hf2 hi2_0 hi2_1 hi2_2 hm2
      refine B rfl ?_
      refine And.intro (by omega) ?_
      intro z1 ez1 hz1
      have hz1 : ((-1) : Int) ≤ z1 ∧ z1 ≤ (1999 : Int) := hz1
      try have t2 : τ2 87 1 = σ 87 1 := (hf2 _ _ (by omega))
      have p3 : MI τ2 := MI_fr hp0 (fun k j hk => (hf2 _ _ (by omega)))
      have p4 : BW τ2 87 := (p3).1.1
      have b5 := wrh_ p4 (i := 1) (by omega)
      have b5 : (0 : Int) ≤ τ2 87 1 ∧ τ2 87 1 ≤ (3 : Int) := b5
      refine And.intro (fun h6 => ?_) (fun h6 => ?_)
      · skip
        refine B rfl ?_
        refine Exists.intro 0 (And.intro rfl ?_)
        exact (And.intro (by show LY τ2; intro l d h0 h1 h2 h3 h4; rw [show τ2 87 1 = σ 87 1 from (hf2 _ _ (by omega))] at h2; rw [show τ2 87 (6 + 15 * l + 0) = σ 87 (6 + 15 * l + 0) from (hf2 _ _ (by omega))] at h3; exact hi2_2 l d h0 (by omega) h3 h4) (fun k j hk => (hf2 _ _ (by omega))))
      · skip
        have p7 : SW τ2 87 := (p3).1.2.1
        try have t8 : τ2 87 (6 + 15 * v1 + 1) = σ 87 (6 + 15 * v1 + 1) := (hf2 _ _ (by omega))
        try have t9 : τ2 87 (6 + 15 * v1 + 3) = σ 87 (6 + 15 * v1 + 3) := (hf2 _ _ (by omega))
        have hsw := p7 v1 (by omega) (by omega) (by omega)
        refine Exists.intro v1 (And.intro rfl (And.intro (And.intro p4 (And.intro (by show 0 ≤ v1; omega) (And.intro (by show v1 ≤ 2; omega) (by show 1 ≤ τ2 87 (6 + 15 * v1 + 3); omega)))) ?_))
        intro z10 σ12 h11
        have f13 : ∀ k j : Int, ¬ (93 ≤ k ∧ k ≤ 95) → σ12 k j = τ2 k j := h11.2.2
        have h14 : ∀ d : Int, τ2 87 (6 + 15 * v1 + 0) ≤ d → d < 2000 → 0 ≤ σ12 95 (2000 * v1 + d) := h11.1
        have h15 : ∀ j : Int, ¬ (2000 * v1 ≤ j ∧ j < 2000 * v1 + 2000) → σ12 95 j = τ2 95 j := h11.2.1
        have hld := h11.1
        have hlo := h11.2.1
        try dsimp only at hld hlo
        have p16 : SW σ12 87 := SW_fr p7 (fun k j hk => (show σ12 k j = τ2 k j from by first | exact f13 _ _ (by omega) | exact h15 _ (by omega) | (by_cases hka : k = 95; (rw [hka]; exact h15 _ (by omega)); exact f13 _ _ (by omega))))
        try have t17 : σ12 87 (6 + 15 * v1 + 1) = τ2 87 (6 + 15 * v1 + 1) := (show σ12 87 (6 + 15 * v1 + 1) = τ2 87 (6 + 15 * v1 + 1) from by first | exact f13 _ _ (by omega) | exact h15 _ (by omega))
        try have t18 : σ12 87 (6 + 15 * v1 + 3) = τ2 87 (6 + 15 * v1 + 3) := (show σ12 87 (6 + 15 * v1 + 3) = τ2 87 (6 + 15 * v1 + 3) from by first | exact f13 _ _ (by omega) | exact h15 _ (by omega))
        try have t19 : σ12 87 1 = τ2 87 1 := (show σ12 87 1 = τ2 87 1 from by first | exact f13 _ _ (by omega) | exact h15 _ (by omega))
        have hsw := p16 v1 (by omega) (by omega) (by omega)
        have p20 : BW σ12 87 := BW_fr p4 (fun k j hk => (show σ12 k j = τ2 k j from by first | exact f13 _ _ (by omega) | exact h15 _ (by omega) | (by_cases hka : k = 95; (rw [hka]; exact h15 _ (by omega)); exact f13 _ _ (by omega))))
        refine Exists.intro v1 (And.intro rfl (And.intro (And.intro p20 (And.intro (by show 0 ≤ v1; omega) (And.intro (by show v1 ≤ 2; omega) (by show 1 ≤ σ12 87 (6 + 15 * v1 + 1); omega)))) ?_))
        intro z21 σ23 h22
        have f24 : ∀ k j : Int, ¬ (k = 96) → σ23 k j = σ12 k j := h22
        refine And.intro (by omega) ?_
        try have t25 : σ23 95 (2000 * l + d) = σ 95 (2000 * l + d) := ((f24 _ _ (by omega)).trans ((show σ12 95 (2000 * l + d) = τ2 95 (2000 * l + d) from by first | exact f13 _ _ (by omega) | exact h15 _ (by omega)).trans (hf2 _ _ (by omega))))
        exact ih_2 (v1 + 1) σ23 (fun k j hk => ((f24 _ _ (by omega)).trans ((show σ12 k j = τ2 k j from by first | exact f13 _ _ (by omega) | exact h15 _ (by omega) | (by_cases hka : k = 95; (rw [hka]; exact h15 _ (by omega)); exact f13 _ _ (by omega))).trans (hf2 _ _ (by omega))))) (by show 0 ≤ (v1 + 1); omega) (by show (v1 + 1) ≤ 3; omega) (by show ∀ l d : Int, 0 ≤ l → l < (v1 + 1) → σ 87 (6 + 15 * l + 0) ≤ d → d < 2000 → 0 ≤ σ23 95 (2000 * l + d); intro l d h0 h1 h2 h3; by_cases hj : l = v1; rw [hj] at h2 ⊢; rw [show σ23 95 (2000 * v1 + d) = σ12 95 (2000 * v1 + d) from (f24 _ _ (by omega))]; exact hld d (by rw [show τ2 87 (6 + 15 * v1 + 0) = σ 87 (6 + 15 * v1 + 0) from hf2 _ _ (by omega)]; exact h2) h3; rw [show σ23 95 (2000 * l + d) = σ12 95 (2000 * l + d) from (f24 _ _ (by omega)), hlo (2000 * l + d) (by omega)]; exact hi2_2 l d h0 (by omega) h2 h3) (by omega)
  exact lp_2 ((3 - 0 : Int).toNat + 1) 0 σ (fun k j hk => rfl) (by show 0 ≤ 0; omega) (by show 0 ≤ 3; omega) (by show ∀ l d : Int, 0 ≤ l → l < 0 → σ 87 (6 + 15 * l + 0) ≤ d → d < 2000 → 0 ≤ σ 95 (2000 * l + d); intro l d h0 h1; omega) (by omega)
def as_G_X11_mayOn : Int × Int → List Sv_t := fun a => [(42, 86), (0, a.1), (0, a.2)]
def pre_G_X11_mayOn : Int × Int → Me_t → Prop := fun a σ => (0 ≤ a.1) ∧ (a.1 ≤ 2) ∧ (0 ≤ a.2) ∧ (a.2 ≤ 1999)
def post_G_X11_mayOn : Int × Int → Me_t → Int → Me_t → Prop := fun a σ z σ' => ((z = 1 ∧ σ 96 (2000 * a.1 + a.2) = 0) ∨ (z = 0 ∧ σ 96 (2000 * a.1 + a.2) ≠ 0)) ∧ (σ = σ')
set_option maxHeartbeats 1500000 in
set_option maxRecDepth 100000 in
theorem ct_G_X11_mayOn (l : Launch) : CT_ l yX11_mayOn cX11_mayOn 3 (some .boolean) 1 21 as_G_X11_mayOn (rmI_) pre_G_X11_mayOn post_G_X11_mayOn := by
  refine ct_of (by decide) (fun _ => Nat.le_of_ble_eq_true rfl) ?_
  intro X G Q ad σ a hl hR E hG R hM hv hp
  obtain ⟨a1, a2⟩ := a
  have r_a1 : -2147483648 ≤ a1 ∧ a1 ≤ 2147483647 := hv (0, a1) (List.mem_of_getElem? (i := 1) rfl)
  have r_a2 : -2147483648 ≤ a2 ∧ a2 ≤ 2147483647 := hv (0, a2) (List.mem_of_getElem? (i := 2) rfl)
  have hp0 : 0 ≤ a1 := hp.1
  have hp1 : a1 ≤ 2 := hp.2.1
  have hp2 : 0 ≤ a2 := hp.2.2.1
  have hp3 : a2 ≤ 1999 := hp.2.2.2
  have B := @bk_ X G Q 0 0 ad SHS_ RX11 cX11_mayOn 3 (some .boolean) flX11 plX11 knX11 [(467, 2, TR_ as_G_X11_spot (rmI_) pre_G_X11_spot post_G_X11_spot)] _ _ none kX11_mayOn [] flX11_ok plX11_ok knX11_ok eX11_mayOn oX11_mayOn
    (List.forall_mem_cons.mpr ⟨cok_s (n := 2) (idx := 233) E (ct_G_X11_spot X.2.1) (by rw [hR]; decide) (Nat.zero_le _) (Nat.zero_le _) hG ⟨by decide, by decide, by decide⟩ (fun _ => rfl) wl_X11_233 wt_X11_spot wn_X11 wc_X11_spot, fun _ h => absurd h List.not_mem_nil⟩) R sok_no E
  show WP_ X G Q 0 0 ad SHS_ σ 0 [(42, 86), (0, a1), (0, a2)] []
  refine B rfl ?_
  refine Exists.intro (a1, a2) (And.intro rfl (And.intro (And.intro (by show 0 ≤ a1; omega) (And.intro (by show a1 ≤ 2; omega) (And.intro (by show 0 ≤ a2; omega) (by show a2 ≤ 1999; omega)))) ?_))
  rintro z1 m_ h2
  obtain rfl : σ = m_ := h2.2
  have h3 : z1 = 2000 * a1 + a2 := h2.1
  have q4 : z1 = 2000 * a1 + a2 := by omega
  subst q4
  refine And.intro (by omega) ?_
  intro z5 ez5 hz5
  have hz5 : (0 : Int) ≤ z5 ∧ z5 ≤ (4 : Int) := hz5
  refine And.intro (fun h6 => ?_) (fun h6 => ?_)
  · skip
    refine B rfl ?_
    refine And.intro (by omega) ?_
    refine Exists.intro _ (And.intro rfl ?_)
    exact (And.intro (by show (0 = 1 ∧ σ 96 (2000 * a1 + a2) = 0) ∨ (0 = 0 ∧ σ 96 (2000 * a1 + a2) ≠ 0); omega) rfl)
  · skip
    refine B rfl ?_
    refine And.intro (by omega) ?_
    refine Exists.intro _ (And.intro rfl ?_)
    exact (And.intro (by show (1 = 1 ∧ σ 96 (2000 * a1 + a2) = 0) ∨ (1 = 0 ∧ σ 96 (2000 * a1 + a2) ≠ 0); omega) rfl)
def as_G_X11_whoOn : Int → List Sv_t := fun a => [(42, 86), (0, a)]
def pre_G_X11_whoOn : Int → Me_t → Prop := fun a σ => (BW σ 87) ∧ (0 ≤ a) ∧ (a ≤ 1999)
def post_G_X11_whoOn : Int → Me_t → Int → Me_t → Prop := fun a σ z σ' => (σ = σ')
set_option maxHeartbeats 1500000 in
set_option maxRecDepth 100000 in
theorem ct_G_X11_whoOn (l : Launch) : CT_ l yX11_whoOn cX11_whoOn 4 (some .int) 2 43 as_G_X11_whoOn (rmI_) pre_G_X11_whoOn post_G_X11_whoOn := by
  refine ct_of (by decide) (fun _ => Nat.le_of_ble_eq_true rfl) ?_
  intro X G Q ad σ a hl hR E hG R hM hv hp
  obtain ⟨a1, rfl⟩ : ∃ q : Int, q = a := ⟨_, rfl⟩
  have r_a1 : -2147483648 ≤ a1 ∧ a1 ≤ 2147483647 := hv (0, a1) (List.mem_of_getElem? (i := 1) rfl)
  have hp0 : BW σ 87 := hp.1
  have hp1 : 0 ≤ a1 := hp.2.1
  have hp2 : a1 ≤ 1999 := hp.2.2
  have B := @bk_ X G Q 0 0 ad SHS_ RX11 cX11_whoOn 4 (some .int) flX11 plX11 knX11 [(508, 3, TR_ as_G_X11_mayOn (rmI_) pre_G_X11_mayOn post_G_X11_mayOn)] _ _ none kX11_whoOn [4] flX11_ok plX11_ok knX11_ok eX11_whoOn oX11_whoOn
    (List.forall_mem_cons.mpr ⟨cok_v (t := 32) (c := 11) (N := 39) (n := 2) (idx := 254) E (ct_G_X11_mayOn X.2.1) (by rw [hR]; decide) (Nat.zero_le _) (Nat.zero_le _) hG rfl rfl ⟨rfl, by decide, by decide, by decide⟩ (fun _ => ⟨_, _, rfl, rfl⟩) wl_X11_254 wi_X11_mayOn ws_X11_mayOn wn_X11 wc_X11_mayOn, fun _ h => absurd h List.not_mem_nil⟩) R sok_no E
  show WP_ X G Q 0 0 ad SHS_ σ 0 [(42, 86), (0, a1), (9, 0), (9, 0)] []
  refine B rfl ?_
  have lp_4 : ∀ (nq_ : Nat) (v2 : Int) (v3 : Int), (0 ≤ v3) → (v3 ≤ 3) → (3 - v3 : Int).toNat < nq_ → WP_ X G Q 0 0 ad SHS_ σ 4 [(42, 86), (0, a1), (0, v2), (0, v3)] [] := by
    intro nq_
    induction nq_ with
    | zero => intros; omega
    | succ nq_ ih_4 =>
      intro v2 v3 hi4_0 hi4_1 hm4
      refine B rfl ?_
      refine And.intro (by omega) ?_
      intro z1 ez1 hz1
      have hz1 : ((-1) : Int) ≤ z1 ∧ z1 ≤ (1999 : Int) := hz1
      have b2 := wrh_ hp0 (i := 1) (by omega)
      have b2 : (0 : Int) ≤ σ 87 1 ∧ σ 87 1 ≤ (3 : Int) := b2
      refine And.intro (fun h3 => ?_) (fun h3 => ?_)
      · skip
        refine B rfl ?_
        refine Exists.intro _ (And.intro rfl ?_)
        exact rfl
      · skip
        refine Exists.intro (v3, a1) (And.intro rfl (And.intro (And.intro (by show 0 ≤ v3; omega) (And.intro (by show v3 ≤ 2; omega) (And.intro (by show 0 ≤ a1; omega) (by show a1 ≤ 1999; omega)))) ?_))
        rintro z4 m_ h5
        obtain rfl : σ = m_ := h5.2
        have h6 : (z4 = 1 ∧ σ 96 (2000 * v3 + a1) = 0) ∨ (z4 = 0 ∧ σ 96 (2000 * v3 + a1) ≠ 0) := h5.1
        refine And.intro (fun h7 => ?_) (fun h7 => ?_)
        · skip
          refine B rfl ?_
          refine And.intro (by omega) ?_
          exact ih_4 (or3_ v2 0) (v3 + 1) (by show 0 ≤ (v3 + 1); omega) (by show (v3 + 1) ≤ 3; omega) (by omega)
        · skip
          try have q8 := shl3_1 (b := v3) (by omega) (by omega)
          try have q9 := shl3_b (b := v3) (by omega) (by omega)
          refine B rfl ?_
          refine And.intro (by omega) ?_
          exact ih_4 (or3_ v2 (shl3_ 1 v3)) (v3 + 1) (by show 0 ≤ (v3 + 1); omega) (by show (v3 + 1) ≤ 3; omega) (by omega)
  exact lp_4 ((3 - 0 : Int).toNat + 1) 0 0 (by show 0 ≤ 0; omega) (by show 0 ≤ 3; omega) (by omega)
def as_G_X11_mayAll : Int × Int → List Sv_t := fun a => [(42, 86), (0, a.1), (0, a.2)]
def pre_G_X11_mayAll : Int × Int → Me_t → Prop := fun a σ => (BW σ 87) ∧ (0 ≤ a.2) ∧ (a.2 ≤ 1999)
def post_G_X11_mayAll : Int × Int → Me_t → Int → Me_t → Prop := fun a σ z σ' => (0 ≤ z ∧ z ≤ 1) ∧ (σ = σ')
set_option maxHeartbeats 1500000 in
set_option maxRecDepth 100000 in
theorem ct_G_X11_mayAll (l : Launch) : CT_ l yX11_mayAll cX11_mayAll 3 (some .boolean) 3 66 as_G_X11_mayAll (rmI_) pre_G_X11_mayAll post_G_X11_mayAll := by
  refine ct_of (by decide) (fun _ => Nat.le_of_ble_eq_true rfl) ?_
  intro X G Q ad σ a hl hR E hG R hM hv hp
  obtain ⟨a1, a2⟩ := a
  have r_a1 : -2147483648 ≤ a1 ∧ a1 ≤ 2147483647 := hv (0, a1) (List.mem_of_getElem? (i := 1) rfl)
  have r_a2 : -2147483648 ≤ a2 ∧ a2 ≤ 2147483647 := hv (0, a2) (List.mem_of_getElem? (i := 2) rfl)
  have hp0 : BW σ 87 := hp.1
  have hp1 : 0 ≤ a2 := hp.2.1
  have hp2 : a2 ≤ 1999 := hp.2.2
  have B := @bk_ X G Q 0 0 ad SHS_ RX11 cX11_mayAll 3 (some .boolean) flX11 plX11 knX11 [(572, 2, TR_ as_G_X11_whoOn (rmI_) pre_G_X11_whoOn post_G_X11_whoOn)] _ _ none kX11_mayAll [] flX11_ok plX11_ok knX11_ok eX11_mayAll oX11_mayAll
    (List.forall_mem_cons.mpr ⟨cok_v (t := 32) (c := 11) (N := 39) (n := 1) (idx := 286) E (ct_G_X11_whoOn X.2.1) (by rw [hR]; decide) (Nat.zero_le _) (Nat.zero_le _) hG rfl rfl ⟨rfl, by decide, by decide, by decide⟩ (fun _ => ⟨_, _, rfl, rfl⟩) wl_X11_286 wi_X11_whoOn ws_X11_whoOn wn_X11 wc_X11_whoOn, fun _ h => absurd h List.not_mem_nil⟩) R sok_no E
  show WP_ X G Q 0 0 ad SHS_ σ 0 [(42, 86), (0, a1), (0, a2)] []
  refine B rfl ?_
  refine Exists.intro a2 (And.intro rfl (And.intro (And.intro hp0 (And.intro (by show 0 ≤ a2; omega) (by show a2 ≤ 1999; omega))) ?_))
  rintro z1 m_ h2
  obtain rfl : σ = m_ := h2
  refine And.intro (fun h3 => ?_) (fun h3 => ?_)
  · skip
    refine B rfl ?_
    refine And.intro (by omega) ?_
    refine Exists.intro _ (And.intro rfl ?_)
    exact (And.intro (by show 0 ≤ 0 ∧ 0 ≤ 1; omega) rfl)
  · skip
    refine B rfl ?_
    refine And.intro (by omega) ?_
    refine Exists.intro _ (And.intro rfl ?_)
    exact (And.intro (by show 0 ≤ 1 ∧ 1 ≤ 1; omega) rfl)
def as_G_X11_manyOf : Int × Int × Int → List Sv_t := fun a => [(42, 86), (0, a.1), (0, a.2.1), (0, a.2.2)]
def pre_G_X11_manyOf : Int × Int × Int → Me_t → Prop := fun a σ => (BW σ 87) ∧ (0 ≤ a.2.1) ∧ (a.2.1 ≤ a.2.2 + 1) ∧ (a.2.2 ≤ 1999)
def post_G_X11_manyOf : Int × Int × Int → Me_t → Int → Me_t → Prop := fun a σ z σ' => (0 ≤ z ∧ z ≤ a.2.2 + 1 - a.2.1) ∧ (σ = σ')
set_option maxHeartbeats 1500000 in
set_option maxRecDepth 100000 in
theorem ct_G_X11_manyOf (l : Launch) : CT_ l yX11_manyOf cX11_manyOf 6 (some .int) 4 88 as_G_X11_manyOf (rmI_) pre_G_X11_manyOf post_G_X11_manyOf := by
  refine ct_of (by decide) (fun _ => Nat.le_of_ble_eq_true rfl) ?_
  intro X G Q ad σ a hl hR E hG R hM hv hp
  obtain ⟨a1, a2, a3⟩ := a
  have r_a1 : -2147483648 ≤ a1 ∧ a1 ≤ 2147483647 := hv (0, a1) (List.mem_of_getElem? (i := 1) rfl)
  have r_a2 : -2147483648 ≤ a2 ∧ a2 ≤ 2147483647 := hv (0, a2) (List.mem_of_getElem? (i := 2) rfl)
  have r_a3 : -2147483648 ≤ a3 ∧ a3 ≤ 2147483647 := hv (0, a3) (List.mem_of_getElem? (i := 3) rfl)
  have hp0 : BW σ 87 := hp.1
  have hp1 : 0 ≤ a2 := hp.2.1
  have hp2 : a2 ≤ a3 + 1 := hp.2.2.1
  have hp3 : a3 ≤ 1999 := hp.2.2.2
  have B := @bk_ X G Q 0 0 ad SHS_ RX11 cX11_manyOf 6 (some .int) flX11 plX11 knX11 [(586, 3, TR_ as_G_X11_mayAll (rmI_) pre_G_X11_mayAll post_G_X11_mayAll)] _ _ none kX11_manyOf [6] flX11_ok plX11_ok knX11_ok eX11_manyOf oX11_manyOf
    (List.forall_mem_cons.mpr ⟨cok_v (t := 32) (c := 11) (N := 39) (n := 2) (idx := 293) E (ct_G_X11_mayAll X.2.1) (by rw [hR]; decide) (Nat.zero_le _) (Nat.zero_le _) hG rfl rfl ⟨rfl, by decide, by decide, by decide⟩ (fun _ => ⟨_, _, rfl, rfl⟩) wl_X11_293 wi_X11_mayAll ws_X11_mayAll wn_X11 wc_X11_mayAll, fun _ h => absurd h List.not_mem_nil⟩) R sok_no E
  show WP_ X G Q 0 0 ad SHS_ σ 0 [(42, 86), (0, a1), (0, a2), (0, a3), (9, 0), (9, 0)] []
  refine B rfl ?_
  show WP_ X G Q 0 0 ad SHS_ σ 6 [(42, 86), (0, a1), (0, a2), (0, a3), (0, 0), (0, a2)] []
  refine wdrop_ (L' := [(42, 86), (0, a1), (9, 0), (0, a3), (0, 0), (0, a2)]) ⟨Or.inr rfl, ⟨Or.inr rfl, ⟨Or.inl rfl, ⟨Or.inr rfl, ⟨Or.inr rfl, ⟨Or.inr rfl, trivial⟩⟩⟩⟩⟩⟩ ?_
  have lp_6 : ∀ (nq_ : Nat) (v4 : Int) (v5 : Int), (a2 ≤ v5) → (v5 ≤ a3 + 1) → (0 ≤ v4) → (v4 ≤ v5 - a2) → (a3 + 1 - v5 : Int).toNat < nq_ → WP_ X G Q 0 0 ad SHS_ σ 6 [(42, 86), (0, a1), (9, 0), (0, a3), (0, v4), (0, v5)] [] := by
    intro nq_
    induction nq_ with
    | zero => intros; omega
    | succ nq_ ih_6 =>
      intro v4 v5 hi6_0 hi6_1 hi6_2 hi6_3 hm6
      refine B rfl ?_
      refine And.intro (fun h1 => ?_) (fun h1 => ?_)
      · skip
        refine B rfl ?_
        refine Exists.intro _ (And.intro rfl ?_)
        exact (And.intro (by show 0 ≤ v4 ∧ v4 ≤ a3 + 1 - a2; omega) rfl)
      · skip
        refine Exists.intro (a1, v5) (And.intro rfl (And.intro (And.intro hp0 (And.intro (by show 0 ≤ v5; omega) (by show v5 ≤ 1999; omega))) ?_))
        rintro z2 m_ h3
        obtain rfl : σ = m_ := h3.2
        have h4 : 0 ≤ z2 ∧ z2 ≤ 1 := h3.1
        refine And.intro (fun h5 => ?_) (fun h5 => ?_)
        · skip
          refine B rfl ?_
          refine And.intro (by omega) ?_
          refine And.intro (by omega) ?_
          exact ih_6 (v4 + 0) (v5 + 1) (by show a2 ≤ (v5 + 1); omega) (by show (v5 + 1) ≤ a3 + 1; omega) (by show 0 ≤ (v4 + 0); omega) (by show (v4 + 0) ≤ (v5 + 1) - a2; omega) (by omega)
        · skip
          refine B rfl ?_
          refine And.intro (by omega) ?_
          refine And.intro (by omega) ?_
          exact ih_6 (v4 + 1) (v5 + 1) (by show a2 ≤ (v5 + 1); omega) (by show (v5 + 1) ≤ a3 + 1; omega) (by show 0 ≤ (v4 + 1); omega) (by show (v4 + 1) ≤ (v5 + 1) - a2; omega) (by omega)
  exact lp_6 ((a3 + 1 - a2 : Int).toNat + 1) 0 a2 (by show a2 ≤ a2; omega) (by show a2 ≤ a3 + 1; omega) (by show 0 ≤ 0; omega) (by show 0 ≤ a2 - a2; omega) (by omega)
def as_G_X11_findWait : Int × Int × Int → List Sv_t := fun a => [(42, 86), (0, a.1), (0, a.2.1), (0, a.2.2)]
def pre_G_X11_findWait : Int × Int × Int → Me_t → Prop := fun a σ => (BW σ 87) ∧ (0 ≤ a.2.1) ∧ (a.2.1 ≤ a.2.2 + 1) ∧ (a.2.2 ≤ 1999)
def post_G_X11_findWait : Int × Int × Int → Me_t → Int → Me_t → Prop := fun a σ z σ' => (∀ k j : Int, ¬ (k = 86) → σ' k j = σ k j)
set_option maxHeartbeats 1500000 in
set_option maxRecDepth 100000 in
theorem ct_G_X11_findWait (l : Launch) : CT_ l yX11_findWait cX11_findWait 6 none 4 88 as_G_X11_findWait (rmV_) pre_G_X11_findWait post_G_X11_findWait := by
  refine ct_of (by decide) (fun _ => Nat.le_of_ble_eq_true rfl) ?_
  intro X G Q ad σ a hl hR E hG R hM hv hp
  obtain ⟨a1, a2, a3⟩ := a
  have r_a1 : -2147483648 ≤ a1 ∧ a1 ≤ 2147483647 := hv (0, a1) (List.mem_of_getElem? (i := 1) rfl)
  have r_a2 : -2147483648 ≤ a2 ∧ a2 ≤ 2147483647 := hv (0, a2) (List.mem_of_getElem? (i := 2) rfl)
  have r_a3 : -2147483648 ≤ a3 ∧ a3 ≤ 2147483647 := hv (0, a3) (List.mem_of_getElem? (i := 3) rfl)
  have hp0 : BW σ 87 := hp.1
  have hp1 : 0 ≤ a2 := hp.2.1
  have hp2 : a2 ≤ a3 + 1 := hp.2.2.1
  have hp3 : a3 ≤ 1999 := hp.2.2.2
  have B := @bk_ X G Q 0 0 ad SHS_ RX11 cX11_findWait 6 none flX11 plX11 knX11 [(586, 3, TR_ as_G_X11_mayAll (rmI_) pre_G_X11_mayAll post_G_X11_mayAll)] _ _ none kX11_findWait [16] flX11_ok plX11_ok knX11_ok eX11_findWait oX11_findWait
    (List.forall_mem_cons.mpr ⟨cok_v (t := 32) (c := 11) (N := 39) (n := 2) (idx := 293) E (ct_G_X11_mayAll X.2.1) (by rw [hR]; decide) (Nat.zero_le _) (Nat.zero_le _) hG rfl rfl ⟨rfl, by decide, by decide, by decide⟩ (fun _ => ⟨_, _, rfl, rfl⟩) wl_X11_293 wi_X11_mayAll ws_X11_mayAll wn_X11 wc_X11_mayAll, fun _ h => absurd h List.not_mem_nil⟩) R sok_no E
  show WP_ X G Q 0 0 ad SHS_ σ 0 [(42, 86), (0, a1), (0, a2), (0, a3), (9, 0), (9, 0)] []
  refine B rfl ?_
  intro σ1 e2
  intro σ3 e4
  show WP_ X G Q 0 0 ad SHS_ σ3 16 [(42, 86), (0, a1), (0, a2), (0, a3), (0, 0), (0, a2)] []
  refine wdrop_ (L' := [(42, 86), (0, a1), (9, 0), (0, a3), (0, 0), (0, a2)]) ⟨Or.inr rfl, ⟨Or.inr rfl, ⟨Or.inl rfl, ⟨Or.inr rfl, ⟨Or.inr rfl, ⟨Or.inr rfl, trivial⟩⟩⟩⟩⟩⟩ ?_
  have lp_16 : ∀ (nq_ : Nat) (v4 : Int) (v5 : Int) (τ16 : Me_t), (∀ k j : Int, ¬ (k = 86) → τ16 k j = σ k j) → (a2 ≤ v5) → (v5 ≤ a3 + 1) → (0 ≤ v4) → (v4 ≤ v5 - a2) → (a3 + 1 - v5 : Int).toNat < nq_ → WP_ X G Q 0 0 ad SHS_ τ16 16 [(42, 86), (0, a1), (9, 0), (0, a3), (0, v4), (0, v5)] [] := by
    intro nq_
    induction nq_ with
    | zero => intros; omega
    | succ nq_ ih_16 =>
      intro v4 v5 τ16 hf16 hi16_0 hi16_1 hi16_2 hi16_3 hm16
      refine B rfl ?_
      refine And.intro (fun h5 => ?_) (fun h5 => ?_)
      · skip
        refine B rfl ?_
        refine Exists.intro 0 (And.intro rfl ?_)
        exact (fun k j hk => (hf16 _ _ (by omega)))
      · skip
        have p6 : BW τ16 87 := BW_fr hp0 (fun k j hk => (hf16 _ _ (by omega)))
        refine Exists.intro (a1, v5) (And.intro rfl (And.intro (And.intro p6 (And.intro (by show 0 ≤ v5; omega) (by show v5 ≤ 1999; omega))) ?_))
        rintro z7 m_ h8
        obtain rfl : τ16 = m_ := h8.2
        have h9 : 0 ≤ z7 ∧ z7 ≤ 1 := h8.1
        refine And.intro (fun h10 => ?_) (fun h10 => ?_)
        · skip
          refine B rfl ?_
          refine And.intro (by omega) ?_
          intro z11 ez11 hz11
          have hz11 : ((-2147483648) : Int) ≤ z11 ∧ z11 ≤ (2147483647 : Int) := rgl_ hz11 (by decide +kernel) (by decide +kernel) (by decide +kernel)
          try have t12 : τ16 86 19 = σ 86 19 := (hf16 _ _ (by omega))
          refine And.intro (fun h13 => ?_) (fun h13 => ?_)
          · skip
            refine B rfl ?_
            intro σ14 e15
            refine And.intro (by omega) ?_
            refine And.intro (by omega) ?_
            intro σ16 e17
            refine And.intro (by omega) ?_
            exact ih_16 (v4 + 1) (v5 + 1) σ16 (fun k j hk => ((ups_r e17 (by omega)).trans ((ups_r e15 (by omega)).trans (hf16 _ _ (by omega))))) (by show a2 ≤ (v5 + 1); omega) (by show (v5 + 1) ≤ a3 + 1; omega) (by show 0 ≤ (v4 + 1); omega) (by show (v4 + 1) ≤ (v5 + 1) - a2; omega) (by omega)
          · skip
            refine B rfl ?_
            refine And.intro (by omega) ?_
            exact ih_16 (v4 + 1) (v5 + 1) τ16 (fun k j hk => (hf16 _ _ (by omega))) (by show a2 ≤ (v5 + 1); omega) (by show (v5 + 1) ≤ a3 + 1; omega) (by show 0 ≤ (v4 + 1); omega) (by show (v4 + 1) ≤ (v5 + 1) - a2; omega) (by omega)
        · skip
          refine B rfl ?_
          intro z18 ez18 hz18
          have hz18 : ((-2147483648) : Int) ≤ z18 ∧ z18 ≤ (2147483647 : Int) := rgl_ hz18 (by decide +kernel) (by decide +kernel) (by decide +kernel)
          try have t19 : τ16 86 19 = σ 86 19 := (hf16 _ _ (by omega))
          refine And.intro (fun h20 => ?_) (fun h20 => ?_)
          · skip
            refine B rfl ?_
            intro σ21 e22
            refine And.intro (by omega) ?_
            refine And.intro (by omega) ?_
            intro σ23 e24
            refine And.intro (by omega) ?_
            exact ih_16 0 (v5 + 1) σ23 (fun k j hk => ((ups_r e24 (by omega)).trans ((ups_r e22 (by omega)).trans (hf16 _ _ (by omega))))) (by show a2 ≤ (v5 + 1); omega) (by show (v5 + 1) ≤ a3 + 1; omega) (by show 0 ≤ 0; omega) (by show 0 ≤ (v5 + 1) - a2; omega) (by omega)
          · skip
            refine B rfl ?_
            refine And.intro (by omega) ?_
            exact ih_16 0 (v5 + 1) τ16 (fun k j hk => (hf16 _ _ (by omega))) (by show a2 ≤ (v5 + 1); omega) (by show (v5 + 1) ≤ a3 + 1; omega) (by show 0 ≤ 0; omega) (by show 0 ≤ (v5 + 1) - a2; omega) (by omega)
  exact lp_16 ((a3 + 1 - a2 : Int).toNat + 1) 0 a2 σ3 (fun k j hk => ((ups_r e4 (by omega)).trans (ups_r e2 (by omega)))) (by show a2 ≤ a2; omega) (by show a2 ≤ a3 + 1; omega) (by show 0 ≤ 0; omega) (by show 0 ≤ a2 - a2; omega) (by omega)
def as_G_X11_divisor : Int × Int → List Sv_t := fun a => [(0, a.1), (0, a.2)]
def pre_G_X11_divisor : Int × Int → Me_t → Prop := fun a σ => (0 ≤ a.1) ∧ (1 ≤ a.2)
def post_G_X11_divisor : Int × Int → Me_t → Int → Me_t → Prop := fun a σ z σ' => (1 ≤ z) ∧ (σ = σ')
set_option maxHeartbeats 1500000 in
set_option maxRecDepth 100000 in
theorem ct_G_X11_divisor (l : Launch) : CT_ l yX11_divisor cX11_divisor 5 (some .int) 0 0 as_G_X11_divisor (rmI_) pre_G_X11_divisor post_G_X11_divisor := by
  refine ct_of (by decide) (fun _ => Nat.le_of_ble_eq_true rfl) ?_
  intro X G Q ad σ a hl hR E hG R hM hv hp
  obtain ⟨a0, a1⟩ := a
  have r_a0 : -2147483648 ≤ a0 ∧ a0 ≤ 2147483647 := hv (0, a0) (List.mem_of_getElem? (i := 0) rfl)
  have r_a1 : -2147483648 ≤ a1 ∧ a1 ≤ 2147483647 := hv (0, a1) (List.mem_of_getElem? (i := 1) rfl)
  have hp0 : 0 ≤ a0 := hp.1
  have hp1 : 1 ≤ a1 := hp.2
  have B := @bk_ X G Q 0 0 ad SHS_ RX11 cX11_divisor 5 (some .int) flX11 plX11 knX11 [] _ _ none kX11_divisor [4] flX11_ok plX11_ok knX11_ok eX11_divisor oX11_divisor
    (fun _ h => absurd h List.not_mem_nil) R sok_no E
  show WP_ X G Q 0 0 ad SHS_ σ 0 [(0, a0), (0, a1), (9, 0), (9, 0), (9, 0)] []
  refine B rfl ?_
  show WP_ X G Q 0 0 ad SHS_ σ 4 [(0, a0), (0, a1), (0, a0), (0, a1), (9, 0)] []
  refine wdrop_ (L' := [(9, 0), (9, 0), (0, a0), (0, a1), (9, 0)]) ⟨Or.inl rfl, ⟨Or.inl rfl, ⟨Or.inr rfl, ⟨Or.inr rfl, ⟨Or.inl rfl, trivial⟩⟩⟩⟩⟩ ?_
  have lp_4 : ∀ (nq_ : Nat) (v2 : Int) (v3 : Int), (0 ≤ v2) → (0 ≤ v3) → (1 ≤ v2 ∨ 1 ≤ v3) → (v3 : Int).toNat < nq_ → WP_ X G Q 0 0 ad SHS_ σ 4 [(9, 0), (9, 0), (0, v2), (0, v3), (9, 0)] [] := by
    intro nq_
    induction nq_ with
    | zero => intros; omega
    | succ nq_ ih_4 =>
      intro v2 v3 hi4_0 hi4_1 hi4_2 hm4
      refine B rfl ?_
      refine And.intro (fun h1 => ?_) (fun h1 => ?_)
      · skip
        refine B rfl ?_
        refine Exists.intro _ (And.intro rfl ?_)
        exact (And.intro (by show 1 ≤ v2; omega) rfl)
      · skip
        have q2 := tmod_r (x := v2) (y := v3) (by omega) (by omega)
        refine And.intro (by omega) ?_
        show WP_ X G Q 0 0 ad SHS_ σ 4 [(9, 0), (9, 0), (0, v3), (0, Int.tmod v2 v3), (0, Int.tmod v2 v3)] []
        refine wdrop_ (L' := [(9, 0), (9, 0), (0, v3), (0, Int.tmod v2 v3), (9, 0)]) ⟨Or.inl rfl, ⟨Or.inl rfl, ⟨Or.inr rfl, ⟨Or.inr rfl, ⟨Or.inl rfl, trivial⟩⟩⟩⟩⟩ ?_
        exact ih_4 v3 (Int.tmod v2 v3) (by show 0 ≤ v3; omega) (by show 0 ≤ (Int.tmod v2 v3); omega) (by show 1 ≤ v3 ∨ 1 ≤ (Int.tmod v2 v3); omega) (by omega)
  exact lp_4 ((a1 : Int).toNat + 1) a0 a1 (by show 0 ≤ a0; omega) (by show 0 ≤ a1; omega) (by show 1 ≤ a0 ∨ 1 ≤ a1; omega) (by omega)
def as_G_X11_isWeekday : Int × Int → List Sv_t := fun a => [(42, 86), (0, a.1), (0, a.2)]
def pre_G_X11_isWeekday : Int × Int → Me_t → Prop := fun a σ => (BW σ 87) ∧ (0 ≤ a.1) ∧ (a.1 ≤ 2)
def post_G_X11_isWeekday : Int × Int → Me_t → Int → Me_t → Prop := fun a σ z σ' => (0 ≤ z ∧ z ≤ 1) ∧ (σ = σ')
set_option maxHeartbeats 1500000 in
set_option maxRecDepth 100000 in
theorem ct_G_X11_isWeekday (l : Launch) : CT_ l yX11_isWeekday cX11_isWeekday 3 (some .boolean) 1 25 as_G_X11_isWeekday (rmI_) pre_G_X11_isWeekday post_G_X11_isWeekday := by
  refine ct_of (by decide) (fun _ => Nat.le_of_ble_eq_true rfl) ?_
  intro X G Q ad σ a hl hR E hG R hM hv hp
  obtain ⟨a1, a2⟩ := a
  have r_a1 : -2147483648 ≤ a1 ∧ a1 ≤ 2147483647 := hv (0, a1) (List.mem_of_getElem? (i := 1) rfl)
  have r_a2 : -2147483648 ≤ a2 ∧ a2 ≤ 2147483647 := hv (0, a2) (List.mem_of_getElem? (i := 2) rfl)
  have hp0 : BW σ 87 := hp.1
  have hp1 : 0 ≤ a1 := hp.2.1
  have hp2 : a1 ≤ 2 := hp.2.2
  have B := @bk_ X G Q 0 0 ad SHS_ RX11 cX11_isWeekday 3 (some .boolean) flX11 plX11 knX11 [(200, 3, TR_ as_G_X11_of_1 (rmI_) pre_G_X11_of_1 post_G_X11_of_1), (159, 3, TR_ as_G_X11_in (rmI_) pre_G_X11_in post_G_X11_in)] _ _ none kX11_isWeekday [] flX11_ok plX11_ok knX11_ok eX11_isWeekday oX11_isWeekday
    (List.forall_mem_cons.mpr ⟨cok_v (t := 32) (c := 11) (N := 39) (n := 2) (idx := 100) E (ct_G_X11_of_1 X.2.1) (by rw [hR]; decide) (Nat.zero_le _) (Nat.zero_le _) hG rfl rfl ⟨rfl, by decide, by decide, by decide⟩ (fun _ => ⟨_, _, rfl, rfl⟩) wl_X11_100 wi_X11_of ws_X11_of wn_X11 wc_X11_of, List.forall_mem_cons.mpr ⟨cok_s (n := 3) (idx := 79) E (ct_G_X11_in X.2.1) (by rw [hR]; decide) (Nat.zero_le _) (Nat.zero_le _) hG ⟨by decide, by decide, by decide⟩ (fun _ => rfl) wl_X11_79 wt_X11_in wn_X11 wc_X11_in, fun _ h => absurd h List.not_mem_nil⟩⟩) R sok_no E
  show WP_ X G Q 0 0 ad SHS_ σ 0 [(42, 86), (0, a1), (0, a2)] []
  refine B rfl ?_
  refine Exists.intro a1 (And.intro rfl (And.intro (And.intro hp0 (And.intro (by show 0 ≤ a1; omega) (by show a1 ≤ 2; omega))) ?_))
  rintro z1 m_ h2
  obtain rfl : σ = m_ := h2.2.2
  have h3 : z1 = σ 87 (6 + 15 * a1 + 1) := h2.1
  have h4 : 0 ≤ z1 ∧ z1 ≤ 10 := h2.2.1
  refine And.intro (by omega) ?_
  refine Exists.intro (a2, 0, z1 - 1) (And.intro rfl (And.intro True.intro ?_))
  rintro z5 m_ h6
  obtain rfl : σ = m_ := h6.2
  have h7 : (z5 = 1 ∧ 0 ≤ a2 ∧ a2 ≤ (z1 - 1)) ∨ (z5 = 0 ∧ ¬ (0 ≤ a2 ∧ a2 ≤ (z1 - 1))) := h6.1
  refine And.intro (by omega) ?_
  refine Exists.intro _ (And.intro rfl ?_)
  exact (And.intro (by show 0 ≤ z5 ∧ z5 ≤ 1; omega) rfl)
def as_G_X11_isCounted : Int × Int → List Sv_t := fun a => [(42, 86), (0, a.1), (0, a.2)]
def pre_G_X11_isCounted : Int × Int → Me_t → Prop := fun a σ => (BW σ 87) ∧ (0 ≤ a.1) ∧ (a.1 ≤ 2)
def post_G_X11_isCounted : Int × Int → Me_t → Int → Me_t → Prop := fun a σ z σ' => ((z = 1 ∧ σ 87 (6 + 15 * a.1 + 0) ≤ a.2) ∨ z = 0) ∧ (σ = σ')
set_option maxHeartbeats 1500000 in
set_option maxRecDepth 100000 in
theorem ct_G_X11_isCounted (l : Launch) : CT_ l yX11_isCounted cX11_isCounted 3 (some .boolean) 1 22 as_G_X11_isCounted (rmI_) pre_G_X11_isCounted post_G_X11_isCounted := by
  refine ct_of (by decide) (fun _ => Nat.le_of_ble_eq_true rfl) ?_
  intro X G Q ad σ a hl hR E hG R hM hv hp
  obtain ⟨a1, a2⟩ := a
  have r_a1 : -2147483648 ≤ a1 ∧ a1 ≤ 2147483647 := hv (0, a1) (List.mem_of_getElem? (i := 1) rfl)
  have r_a2 : -2147483648 ≤ a2 ∧ a2 ≤ 2147483647 := hv (0, a2) (List.mem_of_getElem? (i := 2) rfl)
  have hp0 : BW σ 87 := hp.1
  have hp1 : 0 ≤ a1 := hp.2.1
  have hp2 : a1 ≤ 2 := hp.2.2
  have B := @bk_ X G Q 0 0 ad SHS_ RX11 cX11_isCounted 3 (some .boolean) flX11 plX11 knX11 [(200, 3, TR_ as_G_X11_of_0 (rmI_) pre_G_X11_of_0 post_G_X11_of_0)] _ _ none kX11_isCounted [] flX11_ok plX11_ok knX11_ok eX11_isCounted oX11_isCounted
    (List.forall_mem_cons.mpr ⟨cok_v (t := 32) (c := 11) (N := 39) (n := 2) (idx := 100) E (ct_G_X11_of_0 X.2.1) (by rw [hR]; decide) (Nat.zero_le _) (Nat.zero_le _) hG rfl rfl ⟨rfl, by decide, by decide, by decide⟩ (fun _ => ⟨_, _, rfl, rfl⟩) wl_X11_100 wi_X11_of ws_X11_of wn_X11 wc_X11_of, fun _ h => absurd h List.not_mem_nil⟩) R sok_no E
  show WP_ X G Q 0 0 ad SHS_ σ 0 [(42, 86), (0, a1), (0, a2)] []
  refine B rfl ?_
  refine Exists.intro a1 (And.intro rfl (And.intro (And.intro hp0 (And.intro (by show 0 ≤ a1; omega) (by show a1 ≤ 2; omega))) ?_))
  rintro z1 m_ h2
  obtain rfl : σ = m_ := h2.2.2
  have h3 : z1 = σ 87 (6 + 15 * a1 + 0) := h2.1
  have h4 : 0 ≤ z1 ∧ z1 ≤ 999 := h2.2.1
  refine And.intro (fun h5 => ?_) (fun h5 => ?_)
  · skip
    refine B rfl ?_
    refine And.intro (by omega) ?_
    refine Exists.intro _ (And.intro rfl ?_)
    exact (And.intro (by show (0 = 1 ∧ σ 87 (6 + 15 * a1 + 0) ≤ a2) ∨ 0 = 0; omega) rfl)
  · skip
    refine B rfl ?_
    refine And.intro (by omega) ?_
    refine Exists.intro _ (And.intro rfl ?_)
    exact (And.intro (by show (1 = 1 ∧ σ 87 (6 + 15 * a1 + 0) ≤ a2) ∨ 1 = 0; omega) rfl)
def as_G_X11_dateOf_0 : Int × Int → List Sv_t := fun a => [(42, 86), (0, a.1), (0, a.2), (0, 0)]
def pre_G_X11_dateOf_0 : Int × Int → Me_t → Prop := fun a σ => (0 ≤ a.1) ∧ (a.1 ≤ 2) ∧ (0 ≤ a.2) ∧ (a.2 ≤ 1999)
def post_G_X11_dateOf_0 : Int × Int → Me_t → Int → Me_t → Prop := fun a σ z σ' => ((-1) ≤ z ∧ z ≤ 2000) ∧ (σ = σ')
set_option maxHeartbeats 1500000 in
set_option maxRecDepth 100000 in
theorem ct_G_X11_dateOf_0 (l : Launch) : CT_ l yX11_dateOf cX11_dateOf 4 (some .int) 2 44 as_G_X11_dateOf_0 (rmI_) pre_G_X11_dateOf_0 post_G_X11_dateOf_0 := by
  refine ct_of (by decide) (fun _ => Nat.le_of_ble_eq_true rfl) ?_
  intro X G Q ad σ a hl hR E hG R hM hv hp
  obtain ⟨a1, a2⟩ := a
  have r_a1 : -2147483648 ≤ a1 ∧ a1 ≤ 2147483647 := hv (0, a1) (List.mem_of_getElem? (i := 1) rfl)
  have r_a2 : -2147483648 ≤ a2 ∧ a2 ≤ 2147483647 := hv (0, a2) (List.mem_of_getElem? (i := 2) rfl)
  have hp0 : 0 ≤ a1 := hp.1
  have hp1 : a1 ≤ 2 := hp.2.1
  have hp2 : 0 ≤ a2 := hp.2.2.1
  have hp3 : a2 ≤ 1999 := hp.2.2.2
  have B := @bk_ X G Q 0 0 ad SHS_ RX11 cX11_dateOf 4 (some .int) flX11 plX11 knX11 [(467, 2, TR_ as_G_X11_spot (rmI_) pre_G_X11_spot post_G_X11_spot)] _ _ none kX11_dateOf [] flX11_ok plX11_ok knX11_ok eX11_dateOf oX11_dateOf
    (List.forall_mem_cons.mpr ⟨cok_s (n := 2) (idx := 233) E (ct_G_X11_spot X.2.1) (by rw [hR]; decide) (Nat.zero_le _) (Nat.zero_le _) hG ⟨by decide, by decide, by decide⟩ (fun _ => rfl) wl_X11_233 wt_X11_spot wn_X11 wc_X11_spot, fun _ h => absurd h List.not_mem_nil⟩) R sok_no E
  show WP_ X G Q 0 0 ad SHS_ σ 0 [(42, 86), (0, a1), (0, a2), (0, 0)] []
  refine B rfl ?_
  refine And.intro (fun h1 => (by exfalso; omega)) (fun h1 => ?_)
  refine Exists.intro (a1, a2) (And.intro rfl (And.intro (And.intro (by show 0 ≤ a1; omega) (And.intro (by show a1 ≤ 2; omega) (And.intro (by show 0 ≤ a2; omega) (by show a2 ≤ 1999; omega)))) ?_))
  rintro z2 m_ h3
  obtain rfl : σ = m_ := h3.2
  have h4 : z2 = 2000 * a1 + a2 := h3.1
  have q5 : z2 = 2000 * a1 + a2 := by omega
  subst q5
  refine And.intro (by omega) ?_
  intro z6 ez6 hz6
  have hz6 : ((-1) : Int) ≤ z6 ∧ z6 ≤ (2000 : Int) := hz6
  refine B rfl ?_
  refine Exists.intro _ (And.intro rfl ?_)
  exact (And.intro (by show (-1) ≤ z6 ∧ z6 ≤ 2000; omega) rfl)
def as_G_X11_dateOf_1 : Int × Int → List Sv_t := fun a => [(42, 86), (0, a.1), (0, a.2), (0, 1)]
def pre_G_X11_dateOf_1 : Int × Int → Me_t → Prop := fun a σ => (0 ≤ a.1) ∧ (a.1 ≤ 2) ∧ (0 ≤ a.2) ∧ (a.2 ≤ 1999)
def post_G_X11_dateOf_1 : Int × Int → Me_t → Int → Me_t → Prop := fun a σ z σ' => ((-1) ≤ z ∧ z ≤ 7) ∧ (σ = σ')
set_option maxHeartbeats 1500000 in
set_option maxRecDepth 100000 in
theorem ct_G_X11_dateOf_1 (l : Launch) : CT_ l yX11_dateOf cX11_dateOf 4 (some .int) 2 44 as_G_X11_dateOf_1 (rmI_) pre_G_X11_dateOf_1 post_G_X11_dateOf_1 := by
  refine ct_of (by decide) (fun _ => Nat.le_of_ble_eq_true rfl) ?_
  intro X G Q ad σ a hl hR E hG R hM hv hp
  obtain ⟨a1, a2⟩ := a
  have r_a1 : -2147483648 ≤ a1 ∧ a1 ≤ 2147483647 := hv (0, a1) (List.mem_of_getElem? (i := 1) rfl)
  have r_a2 : -2147483648 ≤ a2 ∧ a2 ≤ 2147483647 := hv (0, a2) (List.mem_of_getElem? (i := 2) rfl)
  have hp0 : 0 ≤ a1 := hp.1
  have hp1 : a1 ≤ 2 := hp.2.1
  have hp2 : 0 ≤ a2 := hp.2.2.1
  have hp3 : a2 ≤ 1999 := hp.2.2.2
  have B := @bk_ X G Q 0 0 ad SHS_ RX11 cX11_dateOf 4 (some .int) flX11 plX11 knX11 [(467, 2, TR_ as_G_X11_spot (rmI_) pre_G_X11_spot post_G_X11_spot)] _ _ none kX11_dateOf [] flX11_ok plX11_ok knX11_ok eX11_dateOf oX11_dateOf
    (List.forall_mem_cons.mpr ⟨cok_s (n := 2) (idx := 233) E (ct_G_X11_spot X.2.1) (by rw [hR]; decide) (Nat.zero_le _) (Nat.zero_le _) hG ⟨by decide, by decide, by decide⟩ (fun _ => rfl) wl_X11_233 wt_X11_spot wn_X11 wc_X11_spot, fun _ h => absurd h List.not_mem_nil⟩) R sok_no E
  show WP_ X G Q 0 0 ad SHS_ σ 0 [(42, 86), (0, a1), (0, a2), (0, 1)] []
  refine B rfl ?_
  refine And.intro (fun h1 => ?_) (fun h1 => (by exfalso; omega))
  refine B rfl ?_
  refine And.intro (fun h2 => (by exfalso; omega)) (fun h2 => ?_)
  refine Exists.intro (a1, a2) (And.intro rfl (And.intro (And.intro (by show 0 ≤ a1; omega) (And.intro (by show a1 ≤ 2; omega) (And.intro (by show 0 ≤ a2; omega) (by show a2 ≤ 1999; omega)))) ?_))
  rintro z3 m_ h4
  obtain rfl : σ = m_ := h4.2
  have h5 : z3 = 2000 * a1 + a2 := h4.1
  have q6 : z3 = 2000 * a1 + a2 := by omega
  subst q6
  refine And.intro (by omega) ?_
  intro z7 ez7 hz7
  have hz7 : ((-1) : Int) ≤ z7 ∧ z7 ≤ (7 : Int) := hz7
  refine B rfl ?_
  refine Exists.intro _ (And.intro rfl ?_)
  exact (And.intro (by show (-1) ≤ z7 ∧ z7 ≤ 7; omega) rfl)
def as_G_X11_dateOf_2 : Int × Int → List Sv_t := fun a => [(42, 86), (0, a.1), (0, a.2), (0, 2)]
def pre_G_X11_dateOf_2 : Int × Int → Me_t → Prop := fun a σ => (0 ≤ a.1) ∧ (a.1 ≤ 2) ∧ (0 ≤ a.2) ∧ (a.2 ≤ 1999)
def post_G_X11_dateOf_2 : Int × Int → Me_t → Int → Me_t → Prop := fun a σ z σ' => ((-1) ≤ z ∧ z ≤ 68) ∧ (σ = σ')
set_option maxHeartbeats 1500000 in
set_option maxRecDepth 100000 in
theorem ct_G_X11_dateOf_2 (l : Launch) : CT_ l yX11_dateOf cX11_dateOf 4 (some .int) 2 44 as_G_X11_dateOf_2 (rmI_) pre_G_X11_dateOf_2 post_G_X11_dateOf_2 := by
  refine ct_of (by decide) (fun _ => Nat.le_of_ble_eq_true rfl) ?_
  intro X G Q ad σ a hl hR E hG R hM hv hp
  obtain ⟨a1, a2⟩ := a
  have r_a1 : -2147483648 ≤ a1 ∧ a1 ≤ 2147483647 := hv (0, a1) (List.mem_of_getElem? (i := 1) rfl)
  have r_a2 : -2147483648 ≤ a2 ∧ a2 ≤ 2147483647 := hv (0, a2) (List.mem_of_getElem? (i := 2) rfl)
  have hp0 : 0 ≤ a1 := hp.1
  have hp1 : a1 ≤ 2 := hp.2.1
  have hp2 : 0 ≤ a2 := hp.2.2.1
  have hp3 : a2 ≤ 1999 := hp.2.2.2
  have B := @bk_ X G Q 0 0 ad SHS_ RX11 cX11_dateOf 4 (some .int) flX11 plX11 knX11 [(467, 2, TR_ as_G_X11_spot (rmI_) pre_G_X11_spot post_G_X11_spot)] _ _ none kX11_dateOf [] flX11_ok plX11_ok knX11_ok eX11_dateOf oX11_dateOf
    (List.forall_mem_cons.mpr ⟨cok_s (n := 2) (idx := 233) E (ct_G_X11_spot X.2.1) (by rw [hR]; decide) (Nat.zero_le _) (Nat.zero_le _) hG ⟨by decide, by decide, by decide⟩ (fun _ => rfl) wl_X11_233 wt_X11_spot wn_X11 wc_X11_spot, fun _ h => absurd h List.not_mem_nil⟩) R sok_no E
  show WP_ X G Q 0 0 ad SHS_ σ 0 [(42, 86), (0, a1), (0, a2), (0, 2)] []
  refine B rfl ?_
  refine And.intro (fun h1 => ?_) (fun h1 => (by exfalso; omega))
  refine B rfl ?_
  refine And.intro (fun h2 => ?_) (fun h2 => (by exfalso; omega))
  refine B rfl ?_
  refine And.intro (fun h3 => (by exfalso; omega)) (fun h3 => ?_)
  refine Exists.intro (a1, a2) (And.intro rfl (And.intro (And.intro (by show 0 ≤ a1; omega) (And.intro (by show a1 ≤ 2; omega) (And.intro (by show 0 ≤ a2; omega) (by show a2 ≤ 1999; omega)))) ?_))
  rintro z4 m_ h5
  obtain rfl : σ = m_ := h5.2
  have h6 : z4 = 2000 * a1 + a2 := h5.1
  have q7 : z4 = 2000 * a1 + a2 := by omega
  subst q7
  refine And.intro (by omega) ?_
  intro z8 ez8 hz8
  have hz8 : ((-1) : Int) ≤ z8 ∧ z8 ≤ (68 : Int) := hz8
  refine B rfl ?_
  refine Exists.intro _ (And.intro rfl ?_)
  exact (And.intro (by show (-1) ≤ z8 ∧ z8 ≤ 68; omega) rfl)
def as_G_X11_dateOf_x : Int × Int × Int → List Sv_t := fun a => [(42, 86), (0, a.1), (0, a.2.1), (0, a.2.2)]
def pre_G_X11_dateOf_x : Int × Int × Int → Me_t → Prop := fun a σ => (BW σ 87) ∧ (0 ≤ a.1) ∧ (a.1 ≤ 2) ∧ (0 ≤ a.2.1) ∧ (a.2.1 ≤ 1999) ∧ (1 ≤ σ 87 (6 + 15 * a.1 + 1))
def post_G_X11_dateOf_x : Int × Int × Int → Me_t → Int → Me_t → Prop := fun a σ z σ' => (-1 ≤ z ∧ z ≤ 2000) ∧ (a.2.2 = 1 → z ≤ 7) ∧ (a.2.2 = 3 → z ≤ 9) ∧ (σ = σ')
set_option maxHeartbeats 1500000 in
set_option maxRecDepth 100000 in
theorem ct_G_X11_dateOf_x (l : Launch) : CT_ l yX11_dateOf cX11_dateOf 4 (some .int) 2 44 as_G_X11_dateOf_x (rmI_) pre_G_X11_dateOf_x post_G_X11_dateOf_x := by
  refine ct_of (by decide) (fun _ => Nat.le_of_ble_eq_true rfl) ?_
  intro X G Q ad σ a hl hR E hG R hM hv hp
  obtain ⟨a1, a2, a3⟩ := a
  have r_a1 : -2147483648 ≤ a1 ∧ a1 ≤ 2147483647 := hv (0, a1) (List.mem_of_getElem? (i := 1) rfl)
  have r_a2 : -2147483648 ≤ a2 ∧ a2 ≤ 2147483647 := hv (0, a2) (List.mem_of_getElem? (i := 2) rfl)
  have r_a3 : -2147483648 ≤ a3 ∧ a3 ≤ 2147483647 := hv (0, a3) (List.mem_of_getElem? (i := 3) rfl)
  have hp0 : BW σ 87 := hp.1
  have hp1 : 0 ≤ a1 := hp.2.1
  have hp2 : a1 ≤ 2 := hp.2.2.1
  have hp3 : 0 ≤ a2 := hp.2.2.2.1
  have hp4 : a2 ≤ 1999 := hp.2.2.2.2.1
  have hp5 : 1 ≤ σ 87 (6 + 15 * a1 + 1) := hp.2.2.2.2.2
  have B := @bk_ X G Q 0 0 ad SHS_ RX11 cX11_dateOf 4 (some .int) flX11 plX11 knX11 [(472, 3, TR_ as_G_X11_weekday (rmI_) pre_G_X11_weekday post_G_X11_weekday), (467, 2, TR_ as_G_X11_spot (rmI_) pre_G_X11_spot post_G_X11_spot)] _ _ none kX11_dateOf [] flX11_ok plX11_ok knX11_ok eX11_dateOf oX11_dateOf
    (List.forall_mem_cons.mpr ⟨cok_v (t := 32) (c := 11) (N := 39) (n := 2) (idx := 236) E (ct_G_X11_weekday X.2.1) (by rw [hR]; decide) (Nat.zero_le _) (Nat.zero_le _) hG rfl rfl ⟨rfl, by decide, by decide, by decide⟩ (fun _ => ⟨_, _, rfl, rfl⟩) wl_X11_236 wi_X11_weekday ws_X11_weekday wn_X11 wc_X11_weekday, List.forall_mem_cons.mpr ⟨cok_s (n := 2) (idx := 233) E (ct_G_X11_spot X.2.1) (by rw [hR]; decide) (Nat.zero_le _) (Nat.zero_le _) hG ⟨by decide, by decide, by decide⟩ (fun _ => rfl) wl_X11_233 wt_X11_spot wn_X11 wc_X11_spot, fun _ h => absurd h List.not_mem_nil⟩⟩) R sok_no E
  show WP_ X G Q 0 0 ad SHS_ σ 0 [(42, 86), (0, a1), (0, a2), (0, a3)] []
  refine B rfl ?_
  refine And.intro (fun h1 => ?_) (fun h1 => ?_)
  · skip
    refine B rfl ?_
    refine And.intro (fun h2 => ?_) (fun h2 => ?_)
    · skip
      refine B rfl ?_
      refine And.intro (fun h3 => ?_) (fun h3 => ?_)
      · skip
        refine B rfl ?_
        refine Exists.intro (a1, a2) (And.intro rfl (And.intro (And.intro hp0 (And.intro (by show 0 ≤ a1; omega) (And.intro (by show a1 ≤ 2; omega) (And.intro (by show 1 ≤ σ 87 (6 + 15 * a1 + 1); omega) (And.intro (by show 0 ≤ a2; omega) (by show a2 ≤ 10000; omega)))))) ?_))
        rintro z4 m_ h5
        obtain rfl : σ = m_ := h5.2
        have h6 : -1 ≤ z4 ∧ z4 ≤ 9 := h5.1
        refine Exists.intro _ (And.intro rfl ?_)
        exact (And.intro (by show -1 ≤ z4 ∧ z4 ≤ 2000; omega) (And.intro (by show a3 = 1 → z4 ≤ 7; omega) (And.intro (by show a3 = 3 → z4 ≤ 9; omega) rfl)))
      · skip
        refine Exists.intro (a1, a2) (And.intro rfl (And.intro (And.intro (by show 0 ≤ a1; omega) (And.intro (by show a1 ≤ 2; omega) (And.intro (by show 0 ≤ a2; omega) (by show a2 ≤ 1999; omega)))) ?_))
        rintro z7 m_ h8
        obtain rfl : σ = m_ := h8.2
        have h9 : z7 = 2000 * a1 + a2 := h8.1
        have q10 : z7 = 2000 * a1 + a2 := by omega
        subst q10
        refine And.intro (by omega) ?_
        intro z11 ez11 hz11
        have hz11 : ((-1) : Int) ≤ z11 ∧ z11 ≤ (68 : Int) := hz11
        refine B rfl ?_
        refine Exists.intro _ (And.intro rfl ?_)
        exact (And.intro (by show -1 ≤ z11 ∧ z11 ≤ 2000; omega) (And.intro (by show a3 = 1 → z11 ≤ 7; omega) (And.intro (by show a3 = 3 → z11 ≤ 9; omega) rfl)))
    · skip
      refine Exists.intro (a1, a2) (And.intro rfl (And.intro (And.intro (by show 0 ≤ a1; omega) (And.intro (by show a1 ≤ 2; omega) (And.intro (by show 0 ≤ a2; omega) (by show a2 ≤ 1999; omega)))) ?_))
      rintro z12 m_ h13
      obtain rfl : σ = m_ := h13.2
      have h14 : z12 = 2000 * a1 + a2 := h13.1
      have q15 : z12 = 2000 * a1 + a2 := by omega
      subst q15
      refine And.intro (by omega) ?_
      intro z16 ez16 hz16
      have hz16 : ((-1) : Int) ≤ z16 ∧ z16 ≤ (7 : Int) := hz16
      refine B rfl ?_
      refine Exists.intro _ (And.intro rfl ?_)
      exact (And.intro (by show -1 ≤ z16 ∧ z16 ≤ 2000; omega) (And.intro (by show a3 = 1 → z16 ≤ 7; omega) (And.intro (by show a3 = 3 → z16 ≤ 9; omega) rfl)))
  · skip
    refine Exists.intro (a1, a2) (And.intro rfl (And.intro (And.intro (by show 0 ≤ a1; omega) (And.intro (by show a1 ≤ 2; omega) (And.intro (by show 0 ≤ a2; omega) (by show a2 ≤ 1999; omega)))) ?_))
    rintro z17 m_ h18
    obtain rfl : σ = m_ := h18.2
    have h19 : z17 = 2000 * a1 + a2 := h18.1
    have q20 : z17 = 2000 * a1 + a2 := by omega
    subst q20
    refine And.intro (by omega) ?_
    intro z21 ez21 hz21
    have hz21 : ((-1) : Int) ≤ z21 ∧ z21 ≤ (2000 : Int) := hz21
    refine B rfl ?_
    refine Exists.intro _ (And.intro rfl ?_)
    exact (And.intro (by show -1 ≤ z21 ∧ z21 ≤ 2000; omega) (And.intro (by show a3 = 1 → z21 ≤ 7; omega) (And.intro (by show a3 = 3 → z21 ≤ 9; omega) rfl)))
