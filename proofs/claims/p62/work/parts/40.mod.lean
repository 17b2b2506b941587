def TOR_ (T1 T2 : Tr_t) : Tr_t := fun a s k => T1 a s k ∨ T2 a s k
theorem cok_or {X : Cx_t} {G : Gx_t} {Q : State → Prop} {cl sl : Nat} {ad shs : List Nat} {cc : ByteArray} {nL n na : Nat} {T1 T2 : Tr_t} (h1 : COK_ X G Q cl sl ad shs cc nL n na T1) (h2 : COK_ X G Q cl sl ad shs cc nL n na T2) : COK_ X G Q cl sl ad shs cc nL n na (TOR_ T1 T2) := by
  intro pc i σ L as S k hi hd hlen hcs hL hT hk
  rcases hT with h | h
  · exact h1 pc i σ L as S k hi hd hlen hcs hL h hk
  · exact h2 pc i σ L as S k hi hd hlen hcs hL h hk
def as_G_X11_in : Int × Int × Int → List Sv_t := fun a => [(1, a.1), (1, a.2.1), (1, a.2.2)]
def pre_G_X11_in : Int × Int × Int → Me_t → Prop := fun a σ => True
def post_G_X11_in : Int × Int × Int → Me_t → Int → Me_t → Prop := fun a σ z σ' => ((z = 1 ∧ a.2.1 ≤ a.1 ∧ a.1 ≤ a.2.2) ∨ (z = 0 ∧ ¬ (a.2.1 ≤ a.1 ∧ a.1 ≤ a.2.2))) ∧ (σ = σ')
set_option maxHeartbeats 1500000 in
set_option maxRecDepth 100000 in
theorem ct_G_X11_in (l : Launch) : CT_ l yX11_in cX11_in 6 (some .boolean) 0 0 as_G_X11_in (rmI_) pre_G_X11_in post_G_X11_in := by
  refine ct_of (by decide) (fun _ => Nat.le_of_ble_eq_true rfl) ?_
  intro X G Q ad σ a hl hR E hG R hM hv hp
  obtain ⟨a0, a1, a2⟩ := a
  have r_a0 : -9223372036854775808 ≤ a0 ∧ a0 ≤ 9223372036854775807 := hv (1, a0) (List.mem_of_getElem? (i := 0) rfl)
  have r_a1 : -9223372036854775808 ≤ a1 ∧ a1 ≤ 9223372036854775807 := hv (1, a1) (List.mem_of_getElem? (i := 1) rfl)
  have r_a2 : -9223372036854775808 ≤ a2 ∧ a2 ≤ 9223372036854775807 := hv (1, a2) (List.mem_of_getElem? (i := 2) rfl)
  have B := @bk_ X G Q 0 0 ad SHS_ RX11 cX11_in 6 (some .boolean) flX11 plX11 knX11 [] _ _ none kX11_in [] flX11_ok plX11_ok knX11_ok eX11_in oX11_in
    (fun _ h => absurd h List.not_mem_nil) R sok_no E
  show WP_ X G Q 0 0 ad SHS_ σ 0 [(1, a0), (9, 0), (1, a1), (9, 0), (1, a2), (9, 0)] []
  refine B rfl ?_
  refine And.intro (fun h1 => ?_) (fun h1 => ?_)
  · simp only [lcmp_lt0, lcmp_ge0, lcmp_gt0, lcmp_le0, lcmp_eq0] at h1
    refine B rfl ?_
    refine And.intro (by omega) ?_
    refine Exists.intro _ (And.intro rfl ?_)
    exact (And.intro (by show (0 = 1 ∧ a1 ≤ a0 ∧ a0 ≤ a2) ∨ (0 = 0 ∧ ¬ (a1 ≤ a0 ∧ a0 ≤ a2)); omega) rfl)
  · simp only [lcmp_lt0, lcmp_ge0, lcmp_gt0, lcmp_le0, lcmp_eq0] at h1
    refine And.intro (fun h2 => ?_) (fun h2 => ?_)
    · simp only [lcmp_lt0, lcmp_ge0, lcmp_gt0, lcmp_le0, lcmp_eq0] at h2
      refine B rfl ?_
      refine And.intro (by omega) ?_
      refine Exists.intro _ (And.intro rfl ?_)
      exact (And.intro (by show (0 = 1 ∧ a1 ≤ a0 ∧ a0 ≤ a2) ∨ (0 = 0 ∧ ¬ (a1 ≤ a0 ∧ a0 ≤ a2)); omega) rfl)
    · simp only [lcmp_lt0, lcmp_ge0, lcmp_gt0, lcmp_le0, lcmp_eq0] at h2
      refine B rfl ?_
      refine And.intro (by omega) ?_
      refine Exists.intro _ (And.intro rfl ?_)
      exact (And.intro (by show (1 = 1 ∧ a1 ≤ a0 ∧ a0 ≤ a2) ∨ (1 = 0 ∧ ¬ (a1 ≤ a0 ∧ a0 ≤ a2)); omega) rfl)
def as_G_X11_bit : Int × Int → List Sv_t := fun a => [(0, a.1), (0, a.2)]
def pre_G_X11_bit : Int × Int → Me_t → Prop := fun a σ => True
def post_G_X11_bit : Int × Int → Me_t → Int → Me_t → Prop := fun a σ z σ' => (0 ≤ z ∧ z ≤ 1) ∧ (σ = σ')
set_option maxHeartbeats 1500000 in
set_option maxRecDepth 100000 in
theorem ct_G_X11_bit (l : Launch) : CT_ l yX11_bit cX11_bit 2 (some .int) 0 0 as_G_X11_bit (rmI_) pre_G_X11_bit post_G_X11_bit := by
  refine ct_of (by decide) (fun _ => Nat.le_of_ble_eq_true rfl) ?_
  intro X G Q ad σ a hl hR E hG R hM hv hp
  obtain ⟨a0, a1⟩ := a
  have r_a0 : -2147483648 ≤ a0 ∧ a0 ≤ 2147483647 := hv (0, a0) (List.mem_of_getElem? (i := 0) rfl)
  have r_a1 : -2147483648 ≤ a1 ∧ a1 ≤ 2147483647 := hv (0, a1) (List.mem_of_getElem? (i := 1) rfl)
  have B := @bk_ X G Q 0 0 ad SHS_ RX11 cX11_bit 2 (some .int) flX11 plX11 knX11 [] _ _ none kX11_bit [] flX11_ok plX11_ok knX11_ok eX11_bit oX11_bit
    (fun _ h => absurd h List.not_mem_nil) R sok_no E
  show WP_ X G Q 0 0 ad SHS_ σ 0 [(0, a0), (0, a1)] []
  refine B rfl ?_
  have q1 := and3_r (x := shr3_ a0 a1) (c := 1) (by omega) (by omega)
  refine Exists.intro _ (And.intro rfl ?_)
  exact (And.intro (by show 0 ≤ (and3_ (shr3_ a0 a1) 1) ∧ (and3_ (shr3_ a0 a1) 1) ≤ 1; omega) rfl)
def as_G_X11_isWar : Unit → List Sv_t := fun a => [(42, 86)]
def pre_G_X11_isWar : Unit → Me_t → Prop := fun a σ => True
def post_G_X11_isWar : Unit → Me_t → Int → Me_t → Prop := fun a σ z σ' => (0 ≤ z ∧ z ≤ 1) ∧ (σ = σ')
set_option maxHeartbeats 1500000 in
set_option maxRecDepth 100000 in
theorem ct_G_X11_isWar (l : Launch) : CT_ l yX11_isWar cX11_isWar 1 (some .boolean) 0 0 as_G_X11_isWar (rmI_) pre_G_X11_isWar post_G_X11_isWar := by
  refine ct_of (by decide) (fun _ => Nat.le_of_ble_eq_true rfl) ?_
  intro X G Q ad σ a hl hR E hG R hM hv hp
  have B := @bk_ X G Q 0 0 ad SHS_ RX11 cX11_isWar 1 (some .boolean) flX11 plX11 knX11 [] _ _ none kX11_isWar [] flX11_ok plX11_ok knX11_ok eX11_isWar oX11_isWar
    (fun _ h => absurd h List.not_mem_nil) R sok_no E
  show WP_ X G Q 0 0 ad SHS_ σ 0 [(42, 86)] []
  refine B rfl ?_
  refine And.intro (by omega) ?_
  intro z1 ez1 hz1
  have hz1 : ((-1) : Int) ≤ z1 ∧ z1 ≤ (1999 : Int) := hz1
  refine And.intro (fun h2 => ?_) (fun h2 => ?_)
  · skip
    refine B rfl ?_
    refine And.intro (by omega) ?_
    refine Exists.intro _ (And.intro rfl ?_)
    exact (And.intro (by show 0 ≤ 0 ∧ 0 ≤ 1; omega) rfl)
  · skip
    refine B rfl ?_
    refine And.intro (by omega) ?_
    refine Exists.intro _ (And.intro rfl ?_)
    exact (And.intro (by show 0 ≤ 1 ∧ 1 ≤ 1; omega) rfl)
def as_G_X11_isLand : Int → List Sv_t := fun a => [(42, 86), (1, a)]
def pre_G_X11_isLand : Int → Me_t → Prop := fun a σ => (BW σ 87)
def post_G_X11_isLand : Int → Me_t → Int → Me_t → Prop := fun a σ z σ' => ((z = 1 ∧ 0 ≤ a ∧ a ≤ 2 ∧ a < σ 87 1) ∨ z = 0) ∧ (σ = σ')
set_option maxHeartbeats 1500000 in
set_option maxRecDepth 100000 in
theorem ct_G_X11_isLand (l : Launch) : CT_ l yX11_isLand cX11_isLand 3 (some .boolean) 1 25 as_G_X11_isLand (rmI_) pre_G_X11_isLand post_G_X11_isLand := by
  refine ct_of (by decide) (fun _ => Nat.le_of_ble_eq_true rfl) ?_
  intro X G Q ad σ a hl hR E hG R hM hv hp
  obtain ⟨a1, rfl⟩ : ∃ q : Int, q = a := ⟨_, rfl⟩
  have r_a1 : -9223372036854775808 ≤ a1 ∧ a1 ≤ 9223372036854775807 := hv (1, a1) (List.mem_of_getElem? (i := 1) rfl)
  have hp0 : BW σ 87 := hp
  have B := @bk_ X G Q 0 0 ad SHS_ RX11 cX11_isLand 3 (some .boolean) flX11 plX11 knX11 [(159, 3, TR_ as_G_X11_in (rmI_) pre_G_X11_in post_G_X11_in)] _ _ none kX11_isLand [] flX11_ok plX11_ok knX11_ok eX11_isLand oX11_isLand
    (List.forall_mem_cons.mpr ⟨cok_s (n := 3) (idx := 79) E (ct_G_X11_in X.2.1) (by rw [hR]; decide) (Nat.zero_le _) (Nat.zero_le _) hG ⟨by decide, by decide, by decide⟩ (fun _ => rfl) wl_X11_79 wt_X11_in wn_X11 wc_X11_in, fun _ h => absurd h List.not_mem_nil⟩) R sok_no E
  show WP_ X G Q 0 0 ad SHS_ σ 0 [(42, 86), (1, a1), (9, 0)] []
  refine B rfl ?_
  refine And.intro (by omega) ?_
  intro z1 ez1 hz1
  have hz1 : ((-1) : Int) ≤ z1 ∧ z1 ≤ (1999 : Int) := hz1
  have b2 := wrh_ hp0 (i := 1) (by omega)
  have b2 : (0 : Int) ≤ σ 87 1 ∧ σ 87 1 ≤ (3 : Int) := b2
  refine And.intro (by omega) ?_
  refine Exists.intro (a1, 0, z1 - 1) (And.intro rfl (And.intro True.intro ?_))
  rintro z3 m_ h4
  obtain rfl : σ = m_ := h4.2
  have h5 : (z3 = 1 ∧ 0 ≤ a1 ∧ a1 ≤ (z1 - 1)) ∨ (z3 = 0 ∧ ¬ (0 ≤ a1 ∧ a1 ≤ (z1 - 1))) := h4.1
  refine And.intro (by omega) ?_
  refine Exists.intro _ (And.intro rfl ?_)
  exact (And.intro (by show (z3 = 1 ∧ 0 ≤ a1 ∧ a1 ≤ 2 ∧ a1 < σ 87 1) ∨ z3 = 0; omega) rfl)
def as_G_X11_areTwo : Int × Int → List Sv_t := fun a => [(42, 86), (0, a.1), (0, a.2)]
def pre_G_X11_areTwo : Int × Int → Me_t → Prop := fun a σ => (BW σ 87)
def post_G_X11_areTwo : Int × Int → Me_t → Int → Me_t → Prop := fun a σ z σ' => ((z = 1 ∧ 0 ≤ a.1 ∧ a.1 ≤ 2 ∧ a.1 < σ 87 1 ∧ 0 ≤ a.2 ∧ a.2 ≤ 2 ∧ a.2 < σ 87 1 ∧ a.1 ≠ a.2) ∨ z = 0) ∧ (σ = σ')
set_option maxHeartbeats 1500000 in
set_option maxRecDepth 100000 in
theorem ct_G_X11_areTwo (l : Launch) : CT_ l yX11_areTwo cX11_areTwo 3 (some .boolean) 2 47 as_G_X11_areTwo (rmI_) pre_G_X11_areTwo post_G_X11_areTwo := by
  refine ct_of (by decide) (fun _ => Nat.le_of_ble_eq_true rfl) ?_
  intro X G Q ad σ a hl hR E hG R hM hv hp
  obtain ⟨a1, a2⟩ := a
  have r_a1 : -2147483648 ≤ a1 ∧ a1 ≤ 2147483647 := hv (0, a1) (List.mem_of_getElem? (i := 1) rfl)
  have r_a2 : -2147483648 ≤ a2 ∧ a2 ≤ 2147483647 := hv (0, a2) (List.mem_of_getElem? (i := 2) rfl)
  have hp0 : BW σ 87 := hp
  have B := @bk_ X G Q 0 0 ad SHS_ RX11 cX11_areTwo 3 (some .boolean) flX11 plX11 knX11 [(166, 2, TR_ as_G_X11_isLand (rmI_) pre_G_X11_isLand post_G_X11_isLand)] _ _ none kX11_areTwo [] flX11_ok plX11_ok knX11_ok eX11_areTwo oX11_areTwo
    (List.forall_mem_cons.mpr ⟨cok_v (t := 32) (c := 11) (N := 39) (n := 1) (idx := 83) E (ct_G_X11_isLand X.2.1) (by rw [hR]; decide) (Nat.zero_le _) (Nat.zero_le _) hG rfl rfl ⟨rfl, by decide, by decide, by decide⟩ (fun _ => ⟨_, _, rfl, rfl⟩) wl_X11_83 wi_X11_isLand ws_X11_isLand wn_X11 wc_X11_isLand, fun _ h => absurd h List.not_mem_nil⟩) R sok_no E
  show WP_ X G Q 0 0 ad SHS_ σ 0 [(42, 86), (0, a1), (0, a2)] []
  refine B rfl ?_
  refine Exists.intro a1 (And.intro rfl (And.intro hp0 ?_))
  rintro z1 m_ h2
  obtain rfl : σ = m_ := h2.2
  have h3 : (z1 = 1 ∧ 0 ≤ a1 ∧ a1 ≤ 2 ∧ a1 < σ 87 1) ∨ z1 = 0 := h2.1
  refine And.intro (fun h4 => ?_) (fun h4 => ?_)
  · skip
    refine B rfl ?_
    refine And.intro (by omega) ?_
    refine Exists.intro _ (And.intro rfl ?_)
    exact (And.intro (by show (0 = 1 ∧ 0 ≤ a1 ∧ a1 ≤ 2 ∧ a1 < σ 87 1 ∧ 0 ≤ a2 ∧ a2 ≤ 2 ∧ a2 < σ 87 1 ∧ a1 ≠ a2) ∨ 0 = 0; omega) rfl)
  · skip
    refine Exists.intro a2 (And.intro rfl (And.intro hp0 ?_))
    rintro z5 m_ h6
    obtain rfl : σ = m_ := h6.2
    have h7 : (z5 = 1 ∧ 0 ≤ a2 ∧ a2 ≤ 2 ∧ a2 < σ 87 1) ∨ z5 = 0 := h6.1
    refine And.intro (fun h8 => ?_) (fun h8 => ?_)
    · skip
      refine B rfl ?_
      refine And.intro (by omega) ?_
      refine Exists.intro _ (And.intro rfl ?_)
      exact (And.intro (by show (0 = 1 ∧ 0 ≤ a1 ∧ a1 ≤ 2 ∧ a1 < σ 87 1 ∧ 0 ≤ a2 ∧ a2 ≤ 2 ∧ a2 < σ 87 1 ∧ a1 ≠ a2) ∨ 0 = 0; omega) rfl)
    · skip
      refine And.intro (fun h9 => ?_) (fun h9 => ?_)
      · skip
        refine B rfl ?_
        refine And.intro (by omega) ?_
        refine Exists.intro _ (And.intro rfl ?_)
        exact (And.intro (by show (0 = 1 ∧ 0 ≤ a1 ∧ a1 ≤ 2 ∧ a1 < σ 87 1 ∧ 0 ≤ a2 ∧ a2 ≤ 2 ∧ a2 < σ 87 1 ∧ a1 ≠ a2) ∨ 0 = 0; omega) rfl)
      · skip
        refine B rfl ?_
        refine And.intro (by omega) ?_
        refine Exists.intro _ (And.intro rfl ?_)
        exact (And.intro (by show (1 = 1 ∧ 0 ≤ a1 ∧ a1 ≤ 2 ∧ a1 < σ 87 1 ∧ 0 ≤ a2 ∧ a2 ≤ 2 ∧ a2 < σ 87 1 ∧ a1 ≠ a2) ∨ 1 = 0; omega) rfl)
def as_G_X11_isDay : Int → List Sv_t := fun a => [(1, a)]
def pre_G_X11_isDay : Int → Me_t → Prop := fun a σ => True
def post_G_X11_isDay : Int → Me_t → Int → Me_t → Prop := fun a σ z σ' => ((z = 1 ∧ 0 ≤ a ∧ a ≤ 1999) ∨ z = 0) ∧ (σ = σ')
set_option maxHeartbeats 1500000 in
set_option maxRecDepth 100000 in
theorem ct_G_X11_isDay (l : Launch) : CT_ l yX11_isDay cX11_isDay 2 (some .boolean) 1 25 as_G_X11_isDay (rmI_) pre_G_X11_isDay post_G_X11_isDay := by
  refine ct_of (by decide) (fun _ => Nat.le_of_ble_eq_true rfl) ?_
  intro X G Q ad σ a hl hR E hG R hM hv hp
  obtain ⟨a0, rfl⟩ : ∃ q : Int, q = a := ⟨_, rfl⟩
  have r_a0 : -9223372036854775808 ≤ a0 ∧ a0 ≤ 9223372036854775807 := hv (1, a0) (List.mem_of_getElem? (i := 0) rfl)
  have B := @bk_ X G Q 0 0 ad SHS_ RX11 cX11_isDay 2 (some .boolean) flX11 plX11 knX11 [(159, 3, TR_ as_G_X11_in (rmI_) pre_G_X11_in post_G_X11_in)] _ _ none kX11_isDay [] flX11_ok plX11_ok knX11_ok eX11_isDay oX11_isDay
    (List.forall_mem_cons.mpr ⟨cok_s (n := 3) (idx := 79) E (ct_G_X11_in X.2.1) (by rw [hR]; decide) (Nat.zero_le _) (Nat.zero_le _) hG ⟨by decide, by decide, by decide⟩ (fun _ => rfl) wl_X11_79 wt_X11_in wn_X11 wc_X11_in, fun _ h => absurd h List.not_mem_nil⟩) R sok_no E
  show WP_ X G Q 0 0 ad SHS_ σ 0 [(1, a0), (9, 0)] []
  refine B rfl ?_
  refine Exists.intro (a0, 0, 1999) (And.intro rfl (And.intro True.intro ?_))
  rintro z1 m_ h2
  obtain rfl : σ = m_ := h2.2
  have h3 : (z1 = 1 ∧ 0 ≤ a0 ∧ a0 ≤ 1999) ∨ (z1 = 0 ∧ ¬ (0 ≤ a0 ∧ a0 ≤ 1999)) := h2.1
  refine And.intro (by omega) ?_
  refine Exists.intro _ (And.intro rfl ?_)
  exact (And.intro (by show (z1 = 1 ∧ 0 ≤ a0 ∧ a0 ≤ 1999) ∨ z1 = 0; omega) rfl)
def as_G_X11_isYear : Int → List Sv_t := fun a => [(1, a)]
def pre_G_X11_isYear : Int → Me_t → Prop := fun a σ => True
def post_G_X11_isYear : Int → Me_t → Int → Me_t → Prop := fun a σ z σ' => ((z = 1 ∧ 0 ≤ a ∧ a ≤ 1999) ∨ z = 0) ∧ (σ = σ')
set_option maxHeartbeats 1500000 in
set_option maxRecDepth 100000 in
theorem ct_G_X11_isYear (l : Launch) : CT_ l yX11_isYear cX11_isYear 2 (some .boolean) 1 25 as_G_X11_isYear (rmI_) pre_G_X11_isYear post_G_X11_isYear := by
  refine ct_of (by decide) (fun _ => Nat.le_of_ble_eq_true rfl) ?_
  intro X G Q ad σ a hl hR E hG R hM hv hp
  obtain ⟨a0, rfl⟩ : ∃ q : Int, q = a := ⟨_, rfl⟩
  have r_a0 : -9223372036854775808 ≤ a0 ∧ a0 ≤ 9223372036854775807 := hv (1, a0) (List.mem_of_getElem? (i := 0) rfl)
  have B := @bk_ X G Q 0 0 ad SHS_ RX11 cX11_isYear 2 (some .boolean) flX11 plX11 knX11 [(159, 3, TR_ as_G_X11_in (rmI_) pre_G_X11_in post_G_X11_in)] _ _ none kX11_isYear [] flX11_ok plX11_ok knX11_ok eX11_isYear oX11_isYear
    (List.forall_mem_cons.mpr ⟨cok_s (n := 3) (idx := 79) E (ct_G_X11_in X.2.1) (by rw [hR]; decide) (Nat.zero_le _) (Nat.zero_le _) hG ⟨by decide, by decide, by decide⟩ (fun _ => rfl) wl_X11_79 wt_X11_in wn_X11 wc_X11_in, fun _ h => absurd h List.not_mem_nil⟩) R sok_no E
  show WP_ X G Q 0 0 ad SHS_ σ 0 [(1, a0), (9, 0)] []
  refine B rfl ?_
  refine Exists.intro (a0, 0, 1999) (And.intro rfl (And.intro True.intro ?_))
  rintro z1 m_ h2
  obtain rfl : σ = m_ := h2.2
  have h3 : (z1 = 1 ∧ 0 ≤ a0 ∧ a0 ≤ 1999) ∨ (z1 = 0 ∧ ¬ (0 ≤ a0 ∧ a0 ≤ 1999)) := h2.1
  refine And.intro (by omega) ?_
  refine Exists.intro _ (And.intro rfl ?_)
  exact (And.intro (by show (z1 = 1 ∧ 0 ≤ a0 ∧ a0 ≤ 1999) ∨ z1 = 0; omega) rfl)
def as_G_X11_isSpan : Int × Int → List Sv_t := fun a => [(0, a.1), (0, a.2)]
def pre_G_X11_isSpan : Int × Int → Me_t → Prop := fun a σ => True
def post_G_X11_isSpan : Int × Int → Me_t → Int → Me_t → Prop := fun a σ z σ' => ((z = 1 ∧ 0 ≤ a.1 ∧ a.1 ≤ a.2 ∧ a.2 ≤ 1999) ∨ z = 0) ∧ (σ = σ')
set_option maxHeartbeats 1500000 in
set_option maxRecDepth 100000 in
theorem ct_G_X11_isSpan (l : Launch) : CT_ l yX11_isSpan cX11_isSpan 2 (some .boolean) 2 46 as_G_X11_isSpan (rmI_) pre_G_X11_isSpan post_G_X11_isSpan := by
  refine ct_of (by decide) (fun _ => Nat.le_of_ble_eq_true rfl) ?_
  intro X G Q ad σ a hl hR E hG R hM hv hp
  obtain ⟨a0, a1⟩ := a
  have r_a0 : -2147483648 ≤ a0 ∧ a0 ≤ 2147483647 := hv (0, a0) (List.mem_of_getElem? (i := 0) rfl)
  have r_a1 : -2147483648 ≤ a1 ∧ a1 ≤ 2147483647 := hv (0, a1) (List.mem_of_getElem? (i := 1) rfl)
  have B := @bk_ X G Q 0 0 ad SHS_ RX11 cX11_isSpan 2 (some .boolean) flX11 plX11 knX11 [(179, 1, TR_ as_G_X11_isDay (rmI_) pre_G_X11_isDay post_G_X11_isDay)] _ _ none kX11_isSpan [] flX11_ok plX11_ok knX11_ok eX11_isSpan oX11_isSpan
    (List.forall_mem_cons.mpr ⟨cok_s (n := 1) (idx := 89) E (ct_G_X11_isDay X.2.1) (by rw [hR]; decide) (Nat.zero_le _) (Nat.zero_le _) hG ⟨by decide, by decide, by decide⟩ (fun _ => rfl) wl_X11_89 wt_X11_isDay wn_X11 wc_X11_isDay, fun _ h => absurd h List.not_mem_nil⟩) R sok_no E
  show WP_ X G Q 0 0 ad SHS_ σ 0 [(0, a0), (0, a1)] []
  refine B rfl ?_
  refine Exists.intro a0 (And.intro rfl (And.intro True.intro ?_))
  rintro z1 m_ h2
  obtain rfl : σ = m_ := h2.2
  have h3 : (z1 = 1 ∧ 0 ≤ a0 ∧ a0 ≤ 1999) ∨ z1 = 0 := h2.1
  refine And.intro (fun h4 => ?_) (fun h4 => ?_)
  · skip
    refine B rfl ?_
    refine And.intro (by omega) ?_
    refine Exists.intro _ (And.intro rfl ?_)
    exact (And.intro (by show (0 = 1 ∧ 0 ≤ a0 ∧ a0 ≤ a1 ∧ a1 ≤ 1999) ∨ 0 = 0; omega) rfl)
  · skip
    refine Exists.intro a1 (And.intro rfl (And.intro True.intro ?_))
    rintro z5 m_ h6
    obtain rfl : σ = m_ := h6.2
    have h7 : (z5 = 1 ∧ 0 ≤ a1 ∧ a1 ≤ 1999) ∨ z5 = 0 := h6.1
    refine And.intro (fun h8 => ?_) (fun h8 => ?_)
    · skip
      refine B rfl ?_
      refine And.intro (by omega) ?_
      refine Exists.intro _ (And.intro rfl ?_)
      exact (And.intro (by show (0 = 1 ∧ 0 ≤ a0 ∧ a0 ≤ a1 ∧ a1 ≤ 1999) ∨ 0 = 0; omega) rfl)
    · skip
      refine And.intro (fun h9 => ?_) (fun h9 => ?_)
      · skip
        refine B rfl ?_
        refine And.intro (by omega) ?_
        refine Exists.intro _ (And.intro rfl ?_)
        exact (And.intro (by show (0 = 1 ∧ 0 ≤ a0 ∧ a0 ≤ a1 ∧ a1 ≤ 1999) ∨ 0 = 0; omega) rfl)
      · skip
        refine B rfl ?_
        refine And.intro (by omega) ?_
        refine Exists.intro _ (And.intro rfl ?_)
        exact (And.intro (by show (1 = 1 ∧ 0 ≤ a0 ∧ a0 ≤ a1 ∧ a1 ≤ 1999) ∨ 1 = 0; omega) rfl)
def as_G_X11_isSlot : Int → List Sv_t := fun a => [(0, a)]
def pre_G_X11_isSlot : Int → Me_t → Prop := fun a σ => True
def post_G_X11_isSlot : Int → Me_t → Int → Me_t → Prop := fun a σ z σ' => ((z = 1 ∧ 0 ≤ a ∧ a ≤ 3) ∨ (z = 0 ∧ ¬ (0 ≤ a ∧ a ≤ 3))) ∧ (σ = σ')
set_option maxHeartbeats 1500000 in
set_option maxRecDepth 100000 in
theorem ct_G_X11_isSlot (l : Launch) : CT_ l yX11_isSlot cX11_isSlot 1 (some .boolean) 1 25 as_G_X11_isSlot (rmI_) pre_G_X11_isSlot post_G_X11_isSlot := by
  refine ct_of (by decide) (fun _ => Nat.le_of_ble_eq_true rfl) ?_
  intro X G Q ad σ a hl hR E hG R hM hv hp
  obtain ⟨a0, rfl⟩ : ∃ q : Int, q = a := ⟨_, rfl⟩
  have r_a0 : -2147483648 ≤ a0 ∧ a0 ≤ 2147483647 := hv (0, a0) (List.mem_of_getElem? (i := 0) rfl)
  have B := @bk_ X G Q 0 0 ad SHS_ RX11 cX11_isSlot 1 (some .boolean) flX11 plX11 knX11 [(159, 3, TR_ as_G_X11_in (rmI_) pre_G_X11_in post_G_X11_in)] _ _ none kX11_isSlot [] flX11_ok plX11_ok knX11_ok eX11_isSlot oX11_isSlot
    (List.forall_mem_cons.mpr ⟨cok_s (n := 3) (idx := 79) E (ct_G_X11_in X.2.1) (by rw [hR]; decide) (Nat.zero_le _) (Nat.zero_le _) hG ⟨by decide, by decide, by decide⟩ (fun _ => rfl) wl_X11_79 wt_X11_in wn_X11 wc_X11_in, fun _ h => absurd h List.not_mem_nil⟩) R sok_no E
  show WP_ X G Q 0 0 ad SHS_ σ 0 [(0, a0)] []
  refine B rfl ?_
  refine Exists.intro (a0, 0, 3) (And.intro rfl (And.intro True.intro ?_))
  rintro z1 m_ h2
  obtain rfl : σ = m_ := h2.2
  have h3 : (z1 = 1 ∧ 0 ≤ a0 ∧ a0 ≤ 3) ∨ (z1 = 0 ∧ ¬ (0 ≤ a0 ∧ a0 ≤ 3)) := h2.1
  refine And.intro (by omega) ?_
  refine Exists.intro _ (And.intro rfl ?_)
  exact (And.intro (by show (z1 = 1 ∧ 0 ≤ a0 ∧ a0 ≤ 3) ∨ (z1 = 0 ∧ ¬ (0 ≤ a0 ∧ a0 ≤ 3)); omega) rfl)
def as_G_X11_isSeed : Int → List Sv_t := fun a => [(0, a)]
def pre_G_X11_isSeed : Int → Me_t → Prop := fun a σ => True
def post_G_X11_isSeed : Int → Me_t → Int → Me_t → Prop := fun a σ z σ' => ((z = 1 ∧ 0 ≤ a ∧ a ≤ 2000000000) ∨ z = 0) ∧ (σ = σ')
set_option maxHeartbeats 1500000 in
set_option maxRecDepth 100000 in
theorem ct_G_X11_isSeed (l : Launch) : CT_ l yX11_isSeed cX11_isSeed 1 (some .boolean) 1 25 as_G_X11_isSeed (rmI_) pre_G_X11_isSeed post_G_X11_isSeed := by
  refine ct_of (by decide) (fun _ => Nat.le_of_ble_eq_true rfl) ?_
  intro X G Q ad σ a hl hR E hG R hM hv hp
  obtain ⟨a0, rfl⟩ : ∃ q : Int, q = a := ⟨_, rfl⟩
  have r_a0 : -2147483648 ≤ a0 ∧ a0 ≤ 2147483647 := hv (0, a0) (List.mem_of_getElem? (i := 0) rfl)
  have B := @bk_ X G Q 0 0 ad SHS_ RX11 cX11_isSeed 1 (some .boolean) flX11 plX11 knX11 [(159, 3, TR_ as_G_X11_in (rmI_) pre_G_X11_in post_G_X11_in)] _ _ none kX11_isSeed [] flX11_ok plX11_ok knX11_ok eX11_isSeed oX11_isSeed
    (List.forall_mem_cons.mpr ⟨cok_s (n := 3) (idx := 79) E (ct_G_X11_in X.2.1) (by rw [hR]; decide) (Nat.zero_le _) (Nat.zero_le _) hG ⟨by decide, by decide, by decide⟩ (fun _ => rfl) wl_X11_79 wt_X11_in wn_X11 wc_X11_in, fun _ h => absurd h List.not_mem_nil⟩) R sok_no E
  show WP_ X G Q 0 0 ad SHS_ σ 0 [(0, a0)] []
  refine B rfl ?_
  refine Exists.intro (a0, 0, 2000000000) (And.intro rfl (And.intro True.intro ?_))
  rintro z1 m_ h2
  obtain rfl : σ = m_ := h2.2
  have h3 : (z1 = 1 ∧ 0 ≤ a0 ∧ a0 ≤ 2000000000) ∨ (z1 = 0 ∧ ¬ (0 ≤ a0 ∧ a0 ≤ 2000000000)) := h2.1
  refine And.intro (by omega) ?_
  refine Exists.intro _ (And.intro rfl ?_)
  exact (And.intro (by show (z1 = 1 ∧ 0 ≤ a0 ∧ a0 ≤ 2000000000) ∨ z1 = 0; omega) rfl)
def as_G_X11_allLands : Unit → List Sv_t := fun a => [(42, 86)]
def pre_G_X11_allLands : Unit → Me_t → Prop := fun a σ => (BW σ 87)
def post_G_X11_allLands : Unit → Me_t → Int → Me_t → Prop := fun a σ z σ' => (0 ≤ z ∧ z ≤ 7) ∧ (σ = σ')
set_option maxHeartbeats 1500000 in
set_option maxRecDepth 100000 in
theorem ct_G_X11_allLands (l : Launch) : CT_ l yX11_allLands cX11_allLands 1 (some .int) 0 0 as_G_X11_allLands (rmI_) pre_G_X11_allLands post_G_X11_allLands := by
  refine ct_of (by decide) (fun _ => Nat.le_of_ble_eq_true rfl) ?_
  intro X G Q ad σ a hl hR E hG R hM hv hp
  have hp0 : BW σ 87 := hp
  have B := @bk_ X G Q 0 0 ad SHS_ RX11 cX11_allLands 1 (some .int) flX11 plX11 knX11 [] _ _ none kX11_allLands [] flX11_ok plX11_ok knX11_ok eX11_allLands oX11_allLands
    (fun _ h => absurd h List.not_mem_nil) R sok_no E
  show WP_ X G Q 0 0 ad SHS_ σ 0 [(42, 86)] []
  refine B rfl ?_
  refine And.intro (by omega) ?_
  intro z1 ez1 hz1
  have hz1 : ((-1) : Int) ≤ z1 ∧ z1 ≤ (1999 : Int) := hz1
  have b2 := wrh_ hp0 (i := 1) (by omega)
  have b2 : (0 : Int) ≤ σ 87 1 ∧ σ 87 1 ≤ (3 : Int) := b2
  try have q3 := shl3_1 (b := z1) (by omega) (by omega)
  try have q4 := shl3_b (b := z1) (by omega) (by omega)
  refine And.intro (by omega) ?_
  refine Exists.intro _ (And.intro rfl ?_)
  exact (And.intro (by show 0 ≤ ((shl3_ 1 z1) - 1) ∧ ((shl3_ 1 z1) - 1) ≤ 7; omega) rfl)
def as_G_X11_isSet : Int → List Sv_t := fun a => [(42, 86), (0, a)]
def pre_G_X11_isSet : Int → Me_t → Prop := fun a σ => (BW σ 87)
def post_G_X11_isSet : Int → Me_t → Int → Me_t → Prop := fun a σ z σ' => (0 ≤ z ∧ z ≤ 1) ∧ (σ = σ')
set_option maxHeartbeats 1500000 in
set_option maxRecDepth 100000 in
theorem ct_G_X11_isSet (l : Launch) : CT_ l yX11_isSet cX11_isSet 2 (some .boolean) 1 25 as_G_X11_isSet (rmI_) pre_G_X11_isSet post_G_X11_isSet := by
  refine ct_of (by decide) (fun _ => Nat.le_of_ble_eq_true rfl) ?_
  intro X G Q ad σ a hl hR E hG R hM hv hp
  obtain ⟨a1, rfl⟩ : ∃ q : Int, q = a := ⟨_, rfl⟩
  have r_a1 : -2147483648 ≤ a1 ∧ a1 ≤ 2147483647 := hv (0, a1) (List.mem_of_getElem? (i := 1) rfl)
  have hp0 : BW σ 87 := hp
  have B := @bk_ X G Q 0 0 ad SHS_ RX11 cX11_isSet 2 (some .boolean) flX11 plX11 knX11 [(184, 1, TR_ as_G_X11_isWar (rmI_) pre_G_X11_isWar post_G_X11_isWar), (192, 1, TR_ as_G_X11_allLands (rmI_) pre_G_X11_allLands post_G_X11_allLands), (159, 3, TR_ as_G_X11_in (rmI_) pre_G_X11_in post_G_X11_in)] _ _ none kX11_isSet [] flX11_ok plX11_ok knX11_ok eX11_isSet oX11_isSet
    (List.forall_mem_cons.mpr ⟨cok_v (t := 32) (c := 11) (N := 39) (n := 0) (idx := 92) E (ct_G_X11_isWar X.2.1) (by rw [hR]; decide) (Nat.zero_le _) (Nat.zero_le _) hG rfl rfl ⟨rfl, by decide, by decide, by decide⟩ (fun _ => ⟨_, _, rfl, rfl⟩) wl_X11_92 wi_X11_isWar ws_X11_isWar wn_X11 wc_X11_isWar, List.forall_mem_cons.mpr ⟨cok_v (t := 32) (c := 11) (N := 39) (n := 0) (idx := 96) E (ct_G_X11_allLands X.2.1) (by rw [hR]; decide) (Nat.zero_le _) (Nat.zero_le _) hG rfl rfl ⟨rfl, by decide, by decide, by decide⟩ (fun _ => ⟨_, _, rfl, rfl⟩) wl_X11_96 wi_X11_allLands ws_X11_allLands wn_X11 wc_X11_allLands, List.forall_mem_cons.mpr ⟨cok_s (n := 3) (idx := 79) E (ct_G_X11_in X.2.1) (by rw [hR]; decide) (Nat.zero_le _) (Nat.zero_le _) hG ⟨by decide, by decide, by decide⟩ (fun _ => rfl) wl_X11_79 wt_X11_in wn_X11 wc_X11_in, fun _ h => absurd h List.not_mem_nil⟩⟩⟩) R sok_no E
  show WP_ X G Q 0 0 ad SHS_ σ 0 [(42, 86), (0, a1)] []
  refine B rfl ?_
  refine Exists.intro () (And.intro rfl (And.intro True.intro ?_))
  rintro z1 m_ h2
  obtain rfl : σ = m_ := h2.2
  have h3 : 0 ≤ z1 ∧ z1 ≤ 1 := h2.1
  refine And.intro (fun h4 => ?_) (fun h4 => ?_)
  · skip
    refine B rfl ?_
    refine And.intro (by omega) ?_
    refine Exists.intro _ (And.intro rfl ?_)
    exact (And.intro (by show 0 ≤ 0 ∧ 0 ≤ 1; omega) rfl)
  · skip
    refine Exists.intro () (And.intro rfl (And.intro hp0 ?_))
    rintro z5 m_ h6
    obtain rfl : σ = m_ := h6.2
    have h7 : 0 ≤ z5 ∧ z5 ≤ 7 := h6.1
    refine Exists.intro (a1, 0, z5) (And.intro rfl (And.intro True.intro ?_))
    rintro z8 m_ h9
    obtain rfl : σ = m_ := h9.2
    have h10 : (z8 = 1 ∧ 0 ≤ a1 ∧ a1 ≤ z5) ∨ (z8 = 0 ∧ ¬ (0 ≤ a1 ∧ a1 ≤ z5)) := h9.1
    refine And.intro (fun h11 => ?_) (fun h11 => ?_)
    · skip
      refine B rfl ?_
      refine And.intro (by omega) ?_
      refine Exists.intro _ (And.intro rfl ?_)
      exact (And.intro (by show 0 ≤ 0 ∧ 0 ≤ 1; omega) rfl)
    · skip
      refine B rfl ?_
      refine And.intro (by omega) ?_
      refine Exists.intro _ (And.intro rfl ?_)
      exact (And.intro (by show 0 ≤ 1 ∧ 1 ≤ 1; omega) rfl)
def as_G_X11_of_0 : Int → List Sv_t := fun a => [(42, 86), (0, a), (0, 0)]
def pre_G_X11_of_0 : Int → Me_t → Prop := fun a σ => (BW σ 87) ∧ (0 ≤ a) ∧ (a ≤ 2)
def post_G_X11_of_0 : Int → Me_t → Int → Me_t → Prop := fun a σ z σ' => (z = σ 87 (6 + 15 * a + 0)) ∧ (0 ≤ z ∧ z ≤ 999) ∧ (σ = σ')
set_option maxHeartbeats 1500000 in
set_option maxRecDepth 100000 in
theorem ct_G_X11_of_0 (l : Launch) : CT_ l yX11_of cX11_of 3 (some .int) 0 0 as_G_X11_of_0 (rmI_) pre_G_X11_of_0 post_G_X11_of_0 := by
  refine ct_of (by decide) (fun _ => Nat.le_of_ble_eq_true rfl) ?_
  intro X G Q ad σ a hl hR E hG R hM hv hp
  obtain ⟨a1, rfl⟩ : ∃ q : Int, q = a := ⟨_, rfl⟩
  have r_a1 : -2147483648 ≤ a1 ∧ a1 ≤ 2147483647 := hv (0, a1) (List.mem_of_getElem? (i := 1) rfl)
  have hp0 : BW σ 87 := hp.1
  have hp1 : 0 ≤ a1 := hp.2.1
  have hp2 : a1 ≤ 2 := hp.2.2
  have B := @bk_ X G Q 0 0 ad SHS_ RX11 cX11_of 3 (some .int) flX11 plX11 knX11 [] _ _ none kX11_of [] flX11_ok plX11_ok knX11_ok eX11_of oX11_of
    (fun _ h => absurd h List.not_mem_nil) R sok_no E
  show WP_ X G Q 0 0 ad SHS_ σ 0 [(42, 86), (0, a1), (0, 0)] []
  refine B rfl ?_
  refine And.intro (by omega) ?_
  refine And.intro (by omega) ?_
  refine And.intro (by omega) ?_
  refine And.intro (by omega) ?_
  intro z1 ez1 hz1
  have hz1 : ((-1) : Int) ≤ z1 ∧ z1 ≤ (1999 : Int) := hz1
  have hw := wrl_ hp0 (x := 6 + 15 * a1 + 0) (l := a1) (w := 0) rfl (by omega) (by omega)
  have hw : (0 : Int) ≤ σ 87 (6 + 15 * a1 + 0) ∧ σ 87 (6 + 15 * a1 + 0) ≤ (999 : Int) := hw
  refine Exists.intro _ (And.intro rfl ?_)
  exact (And.intro (by show z1 = σ 87 (6 + 15 * a1 + 0); omega) (And.intro (by show 0 ≤ z1 ∧ z1 ≤ 999; omega) rfl))
def as_G_X11_of_1 : Int → List Sv_t := fun a => [(42, 86), (0, a), (0, 1)]
def pre_G_X11_of_1 : Int → Me_t → Prop := fun a σ => (BW σ 87) ∧ (0 ≤ a) ∧ (a ≤ 2)
def post_G_X11_of_1 : Int → Me_t → Int → Me_t → Prop := fun a σ z σ' => (z = σ 87 (6 + 15 * a + 1)) ∧ (0 ≤ z ∧ z ≤ 10) ∧ (σ = σ')
set_option maxHeartbeats 1500000 in
set_option maxRecDepth 100000 in
theorem ct_G_X11_of_1 (l : Launch) : CT_ l yX11_of cX11_of 3 (some .int) 0 0 as_G_X11_of_1 (rmI_) pre_G_X11_of_1 post_G_X11_of_1 := by
  refine ct_of (by decide) (fun _ => Nat.le_of_ble_eq_true rfl) ?_
  intro X G Q ad σ a hl hR E hG R hM hv hp
  obtain ⟨a1, rfl⟩ : ∃ q : Int, q = a := ⟨_, rfl⟩
  have r_a1 : -2147483648 ≤ a1 ∧ a1 ≤ 2147483647 := hv (0, a1) (List.mem_of_getElem? (i := 1) rfl)
  have hp0 : BW σ 87 := hp.1
  have hp1 : 0 ≤ a1 := hp.2.1
  have hp2 : a1 ≤ 2 := hp.2.2
  have B := @bk_ X G Q 0 0 ad SHS_ RX11 cX11_of 3 (some .int) flX11 plX11 knX11 [] _ _ none kX11_of [] flX11_ok plX11_ok knX11_ok eX11_of oX11_of
    (fun _ h => absurd h List.not_mem_nil) R sok_no E
  show WP_ X G Q 0 0 ad SHS_ σ 0 [(42, 86), (0, a1), (0, 1)] []
  refine B rfl ?_
  refine And.intro (by omega) ?_
  refine And.intro (by omega) ?_
  refine And.intro (by omega) ?_
  refine And.intro (by omega) ?_
  intro z1 ez1 hz1
  have hz1 : ((-1) : Int) ≤ z1 ∧ z1 ≤ (1999 : Int) := hz1
  have hw := wrl_ hp0 (x := 6 + 15 * a1 + 1) (l := a1) (w := 1) rfl (by omega) (by omega)
  have hw : (0 : Int) ≤ σ 87 (6 + 15 * a1 + 1) ∧ σ 87 (6 + 15 * a1 + 1) ≤ (10 : Int) := hw
  refine Exists.intro _ (And.intro rfl ?_)
  exact (And.intro (by show z1 = σ 87 (6 + 15 * a1 + 1); omega) (And.intro (by show 0 ≤ z1 ∧ z1 ≤ 10; omega) rfl))
def as_G_X11_of_2 : Int → List Sv_t := fun a => [(42, 86), (0, a), (0, 2)]
def pre_G_X11_of_2 : Int → Me_t → Prop := fun a σ => (BW σ 87) ∧ (0 ≤ a) ∧ (a ≤ 2)
def post_G_X11_of_2 : Int → Me_t → Int → Me_t → Prop := fun a σ z σ' => (z = σ 87 (6 + 15 * a + 2)) ∧ (0 ≤ z ∧ z ≤ 1022) ∧ (σ = σ')
set_option maxHeartbeats 1500000 in
set_option maxRecDepth 100000 in
theorem ct_G_X11_of_2 (l : Launch) : CT_ l yX11_of cX11_of 3 (some .int) 0 0 as_G_X11_of_2 (rmI_) pre_G_X11_of_2 post_G_X11_of_2 := by
  refine ct_of (by decide) (fun _ => Nat.le_of_ble_eq_true rfl) ?_
  intro X G Q ad σ a hl hR E hG R hM hv hp
  obtain ⟨a1, rfl⟩ : ∃ q : Int, q = a := ⟨_, rfl⟩
  have r_a1 : -2147483648 ≤ a1 ∧ a1 ≤ 2147483647 := hv (0, a1) (List.mem_of_getElem? (i := 1) rfl)
  have hp0 : BW σ 87 := hp.1
  have hp1 : 0 ≤ a1 := hp.2.1
  have hp2 : a1 ≤ 2 := hp.2.2
  have B := @bk_ X G Q 0 0 ad SHS_ RX11 cX11_of 3 (some .int) flX11 plX11 knX11 [] _ _ none kX11_of [] flX11_ok plX11_ok knX11_ok eX11_of oX11_of
    (fun _ h => absurd h List.not_mem_nil) R sok_no E
  show WP_ X G Q 0 0 ad SHS_ σ 0 [(42, 86), (0, a1), (0, 2)] []
  refine B rfl ?_
  refine And.intro (by omega) ?_
  refine And.intro (by omega) ?_
  refine And.intro (by omega) ?_
  refine And.intro (by omega) ?_
  intro z1 ez1 hz1
  have hz1 : ((-1) : Int) ≤ z1 ∧ z1 ≤ (1999 : Int) := hz1
  have hw := wrl_ hp0 (x := 6 + 15 * a1 + 2) (l := a1) (w := 2) rfl (by omega) (by omega)
  have hw : (0 : Int) ≤ σ 87 (6 + 15 * a1 + 2) ∧ σ 87 (6 + 15 * a1 + 2) ≤ (1022 : Int) := hw
  refine Exists.intro _ (And.intro rfl ?_)
  exact (And.intro (by show z1 = σ 87 (6 + 15 * a1 + 2); omega) (And.intro (by show 0 ≤ z1 ∧ z1 ≤ 1022; omega) rfl))
def as_G_X11_of_3 : Int → List Sv_t := fun a => [(42, 86), (0, a), (0, 3)]
def pre_G_X11_of_3 : Int → Me_t → Prop := fun a σ => (BW σ 87) ∧ (0 ≤ a) ∧ (a ≤ 2)
def post_G_X11_of_3 : Int → Me_t → Int → Me_t → Prop := fun a σ z σ' => (z = σ 87 (6 + 15 * a + 3)) ∧ (0 ≤ z ∧ z ≤ 8) ∧ (σ = σ')
set_option maxHeartbeats 1500000 in
set_option maxRecDepth 100000 in
theorem ct_G_X11_of_3 (l : Launch) : CT_ l yX11_of cX11_of 3 (some .int) 0 0 as_G_X11_of_3 (rmI_) pre_G_X11_of_3 post_G_X11_of_3 := by
  refine ct_of (by decide) (fun _ => Nat.le_of_ble_eq_true rfl) ?_
  intro X G Q ad σ a hl hR E hG R hM hv hp
  obtain ⟨a1, rfl⟩ : ∃ q : Int, q = a := ⟨_, rfl⟩
  have r_a1 : -2147483648 ≤ a1 ∧ a1 ≤ 2147483647 := hv (0, a1) (List.mem_of_getElem? (i := 1) rfl)
  have hp0 : BW σ 87 := hp.1
  have hp1 : 0 ≤ a1 := hp.2.1
  have hp2 : a1 ≤ 2 := hp.2.2
  have B := @bk_ X G Q 0 0 ad SHS_ RX11 cX11_of 3 (some .int) flX11 plX11 knX11 [] _ _ none kX11_of [] flX11_ok plX11_ok knX11_ok eX11_of oX11_of
    (fun _ h => absurd h List.not_mem_nil) R sok_no E
  show WP_ X G Q 0 0 ad SHS_ σ 0 [(42, 86), (0, a1), (0, 3)] []
  refine B rfl ?_
  refine And.intro (by omega) ?_
  refine And.intro (by omega) ?_
  refine And.intro (by omega) ?_
  refine And.intro (by omega) ?_
  intro z1 ez1 hz1
  have hz1 : ((-1) : Int) ≤ z1 ∧ z1 ≤ (1999 : Int) := hz1
  have hw := wrl_ hp0 (x := 6 + 15 * a1 + 3) (l := a1) (w := 3) rfl (by omega) (by omega)
  have hw : (0 : Int) ≤ σ 87 (6 + 15 * a1 + 3) ∧ σ 87 (6 + 15 * a1 + 3) ≤ (8 : Int) := hw
  refine Exists.intro _ (And.intro rfl ?_)
  exact (And.intro (by show z1 = σ 87 (6 + 15 * a1 + 3); omega) (And.intro (by show 0 ≤ z1 ∧ z1 ≤ 8; omega) rfl))
def as_G_X11_of_4 : Int → List Sv_t := fun a => [(42, 86), (0, a), (0, 4)]
def pre_G_X11_of_4 : Int → Me_t → Prop := fun a σ => (BW σ 87) ∧ (0 ≤ a) ∧ (a ≤ 2)
def post_G_X11_of_4 : Int → Me_t → Int → Me_t → Prop := fun a σ z σ' => (z = σ 87 (6 + 15 * a + 4)) ∧ (0 ≤ z ∧ z ≤ 9) ∧ (σ = σ')
set_option maxHeartbeats 1500000 in
set_option maxRecDepth 100000 in
theorem ct_G_X11_of_4 (l : Launch) : CT_ l yX11_of cX11_of 3 (some .int) 0 0 as_G_X11_of_4 (rmI_) pre_G_X11_of_4 post_G_X11_of_4 := by
  refine ct_of (by decide) (fun _ => Nat.le_of_ble_eq_true rfl) ?_
  intro X G Q ad σ a hl hR E hG R hM hv hp
  obtain ⟨a1, rfl⟩ : ∃ q : Int, q = a := ⟨_, rfl⟩
  have r_a1 : -2147483648 ≤ a1 ∧ a1 ≤ 2147483647 := hv (0, a1) (List.mem_of_getElem? (i := 1) rfl)
  have hp0 : BW σ 87 := hp.1
  have hp1 : 0 ≤ a1 := hp.2.1
  have hp2 : a1 ≤ 2 := hp.2.2
  have B := @bk_ X G Q 0 0 ad SHS_ RX11 cX11_of 3 (some .int) flX11 plX11 knX11 [] _ _ none kX11_of [] flX11_ok plX11_ok knX11_ok eX11_of oX11_of
    (fun _ h => absurd h List.not_mem_nil) R sok_no E
  show WP_ X G Q 0 0 ad SHS_ σ 0 [(42, 86), (0, a1), (0, 4)] []
  refine B rfl ?_
  refine And.intro (by omega) ?_
  refine And.intro (by omega) ?_
  refine And.intro (by omega) ?_
  refine And.intro (by omega) ?_
  intro z1 ez1 hz1
  have hz1 : ((-1) : Int) ≤ z1 ∧ z1 ≤ (1999 : Int) := hz1
  have hw := wrl_ hp0 (x := 6 + 15 * a1 + 4) (l := a1) (w := 4) rfl (by omega) (by omega)
  have hw : (0 : Int) ≤ σ 87 (6 + 15 * a1 + 4) ∧ σ 87 (6 + 15 * a1 + 4) ≤ (9 : Int) := hw
  refine Exists.intro _ (And.intro rfl ?_)
  exact (And.intro (by show z1 = σ 87 (6 + 15 * a1 + 4); omega) (And.intro (by show 0 ≤ z1 ∧ z1 ≤ 9; omega) rfl))
def as_G_X11_of_5 : Int → List Sv_t := fun a => [(42, 86), (0, a), (0, 5)]
def pre_G_X11_of_5 : Int → Me_t → Prop := fun a σ => (BW σ 87) ∧ (0 ≤ a) ∧ (a ≤ 2)
def post_G_X11_of_5 : Int → Me_t → Int → Me_t → Prop := fun a σ z σ' => (z = σ 87 (6 + 15 * a + 5)) ∧ ((-1) ≤ z ∧ z ≤ 7) ∧ (σ = σ')
set_option maxHeartbeats 1500000 in
set_option maxRecDepth 100000 in
theorem ct_G_X11_of_5 (l : Launch) : CT_ l yX11_of cX11_of 3 (some .int) 0 0 as_G_X11_of_5 (rmI_) pre_G_X11_of_5 post_G_X11_of_5 := by
  refine ct_of (by decide) (fun _ => Nat.le_of_ble_eq_true rfl) ?_
  intro X G Q ad σ a hl hR E hG R hM hv hp
  obtain ⟨a1, rfl⟩ : ∃ q : Int, q = a := ⟨_, rfl⟩
  have r_a1 : -2147483648 ≤ a1 ∧ a1 ≤ 2147483647 := hv (0, a1) (List.mem_of_getElem? (i := 1) rfl)
  have hp0 : BW σ 87 := hp.1
  have hp1 : 0 ≤ a1 := hp.2.1
  have hp2 : a1 ≤ 2 := hp.2.2
  have B := @bk_ X G Q 0 0 ad SHS_ RX11 cX11_of 3 (some .int) flX11 plX11 knX11 [] _ _ none kX11_of [] flX11_ok plX11_ok knX11_ok eX11_of oX11_of
    (fun _ h => absurd h List.not_mem_nil) R sok_no E
  show WP_ X G Q 0 0 ad SHS_ σ 0 [(42, 86), (0, a1), (0, 5)] []
  refine B rfl ?_
  refine And.intro (by omega) ?_
  refine And.intro (by omega) ?_
  refine And.intro (by omega) ?_
  refine And.intro (by omega) ?_
  intro z1 ez1 hz1
  have hz1 : ((-1) : Int) ≤ z1 ∧ z1 ≤ (1999 : Int) := hz1
  have hw := wrl_ hp0 (x := 6 + 15 * a1 + 5) (l := a1) (w := 5) rfl (by omega) (by omega)
  have hw : ((-1) : Int) ≤ σ 87 (6 + 15 * a1 + 5) ∧ σ 87 (6 + 15 * a1 + 5) ≤ (7 : Int) := hw
  refine Exists.intro _ (And.intro rfl ?_)
  exact (And.intro (by show z1 = σ 87 (6 + 15 * a1 + 5); omega) (And.intro (by show (-1) ≤ z1 ∧ z1 ≤ 7; omega) rfl))
def as_G_X11_of_6 : Int → List Sv_t := fun a => [(42, 86), (0, a), (0, 6)]
def pre_G_X11_of_6 : Int → Me_t → Prop := fun a σ => (BW σ 87) ∧ (0 ≤ a) ∧ (a ≤ 2)
def post_G_X11_of_6 : Int → Me_t → Int → Me_t → Prop := fun a σ z σ' => (z = σ 87 (6 + 15 * a + 6)) ∧ (0 ≤ z ∧ z ≤ 9) ∧ (σ = σ')
set_option maxHeartbeats 1500000 in
set_option maxRecDepth 100000 in
theorem ct_G_X11_of_6 (l : Launch) : CT_ l yX11_of cX11_of 3 (some .int) 0 0 as_G_X11_of_6 (rmI_) pre_G_X11_of_6 post_G_X11_of_6 := by
  refine ct_of (by decide) (fun _ => Nat.le_of_ble_eq_true rfl) ?_
  intro X G Q ad σ a hl hR E hG R hM hv hp
  obtain ⟨a1, rfl⟩ : ∃ q : Int, q = a := ⟨_, rfl⟩
  have r_a1 : -2147483648 ≤ a1 ∧ a1 ≤ 2147483647 := hv (0, a1) (List.mem_of_getElem? (i := 1) rfl)
  have hp0 : BW σ 87 := hp.1
  have hp1 : 0 ≤ a1 := hp.2.1
  have hp2 : a1 ≤ 2 := hp.2.2
  have B := @bk_ X G Q 0 0 ad SHS_ RX11 cX11_of 3 (some .int) flX11 plX11 knX11 [] _ _ none kX11_of [] flX11_ok plX11_ok knX11_ok eX11_of oX11_of
    (fun _ h => absurd h List.not_mem_nil) R sok_no E
  show WP_ X G Q 0 0 ad SHS_ σ 0 [(42, 86), (0, a1), (0, 6)] []
  refine B rfl ?_
  refine And.intro (by omega) ?_
  refine And.intro (by omega) ?_
  refine And.intro (by omega) ?_
  refine And.intro (by omega) ?_
  intro z1 ez1 hz1
  have hz1 : ((-1) : Int) ≤ z1 ∧ z1 ≤ (1999 : Int) := hz1
  have hw := wrl_ hp0 (x := 6 + 15 * a1 + 6) (l := a1) (w := 6) rfl (by omega) (by omega)
  have hw : (0 : Int) ≤ σ 87 (6 + 15 * a1 + 6) ∧ σ 87 (6 + 15 * a1 + 6) ≤ (9 : Int) := hw
  refine Exists.intro _ (And.intro rfl ?_)
  exact (And.intro (by show z1 = σ 87 (6 + 15 * a1 + 6); omega) (And.intro (by show 0 ≤ z1 ∧ z1 ≤ 9; omega) rfl))
def as_G_X11_of_x : Int × Int → List Sv_t := fun a => [(42, 86), (0, a.1), (0, a.2)]
def pre_G_X11_of_x : Int × Int → Me_t → Prop := fun a σ => (BW σ 87) ∧ (0 ≤ a.1) ∧ (a.1 ≤ 2) ∧ (0 ≤ a.2) ∧ (a.2 ≤ 14)
def post_G_X11_of_x : Int × Int → Me_t → Int → Me_t → Prop := fun a σ z σ' => (z = σ 87 (6 + 15 * a.1 + a.2)) ∧ (-1 ≤ z ∧ z ≤ 1999) ∧ (7 ≤ a.2 → 0 ≤ z ∧ z ≤ 60) ∧ (σ = σ')
set_option maxHeartbeats 1500000 in
set_option maxRecDepth 100000 in
theorem ct_G_X11_of_x (l : Launch) : CT_ l yX11_of cX11_of 3 (some .int) 0 0 as_G_X11_of_x (rmI_) pre_G_X11_of_x post_G_X11_of_x := by
  refine ct_of (by decide) (fun _ => Nat.le_of_ble_eq_true rfl) ?_
  intro X G Q ad σ a hl hR E hG R hM hv hp
  obtain ⟨a1, a2⟩ := a
  have r_a1 : -2147483648 ≤ a1 ∧ a1 ≤ 2147483647 := hv (0, a1) (List.mem_of_getElem? (i := 1) rfl)
  have r_a2 : -2147483648 ≤ a2 ∧ a2 ≤ 2147483647 := hv (0, a2) (List.mem_of_getElem? (i := 2) rfl)
  have hp0 : BW σ 87 := hp.1
  have hp1 : 0 ≤ a1 := hp.2.1
  have hp2 : a1 ≤ 2 := hp.2.2.1
  have hp3 : 0 ≤ a2 := hp.2.2.2.1
  have hp4 : a2 ≤ 14 := hp.2.2.2.2
  have B := @bk_ X G Q 0 0 ad SHS_ RX11 cX11_of 3 (some .int) flX11 plX11 knX11 [] _ _ none kX11_of [] flX11_ok plX11_ok knX11_ok eX11_of oX11_of
    (fun _ h => absurd h List.not_mem_nil) R sok_no E
  show WP_ X G Q 0 0 ad SHS_ σ 0 [(42, 86), (0, a1), (0, a2)] []
  refine B rfl ?_
  refine And.intro (by omega) ?_
  refine And.intro (by omega) ?_
  refine And.intro (by omega) ?_
  refine And.intro (by omega) ?_
  intro z1 ez1 hz1
  have hz1 : ((-1) : Int) ≤ z1 ∧ z1 ≤ (1999 : Int) := hz1
  have hw := wrl_ hp0 (x := 6 + 15 * a1 + a2) (l := a1) (w := a2) rfl (by omega) (by omega)
  have hw2 := ld_len (w := a2)
  refine Exists.intro _ (And.intro rfl ?_)
  exact (And.intro (by show z1 = σ 87 (6 + 15 * a1 + a2); omega) (And.intro (by show -1 ≤ z1 ∧ z1 ≤ 1999; omega) (And.intro (by show 7 ≤ a2 → 0 ≤ z1 ∧ z1 ≤ 60; omega) rfl)))
def as_G_X11_isMonth : Int × Int → List Sv_t := fun a => [(42, 86), (0, a.1), (1, a.2)]
def pre_G_X11_isMonth : Int × Int → Me_t → Prop := fun a σ => (BW σ 87) ∧ (0 ≤ a.1) ∧ (a.1 ≤ 2)
def post_G_X11_isMonth : Int × Int → Me_t → Int → Me_t → Prop := fun a σ z σ' => ((z = 1 ∧ 0 ≤ a.2 ∧ a.2 ≤ 7 ∧ a.2 < σ 87 (6 + 15 * a.1 + 3)) ∨ z = 0) ∧ (σ = σ')
set_option maxHeartbeats 1500000 in
set_option maxRecDepth 100000 in
theorem ct_G_X11_isMonth (l : Launch) : CT_ l yX11_isMonth cX11_isMonth 4 (some .boolean) 1 25 as_G_X11_isMonth (rmI_) pre_G_X11_isMonth post_G_X11_isMonth := by
  refine ct_of (by decide) (fun _ => Nat.le_of_ble_eq_true rfl) ?_
  intro X G Q ad σ a hl hR E hG R hM hv hp
  obtain ⟨a1, a2⟩ := a
  have r_a1 : -2147483648 ≤ a1 ∧ a1 ≤ 2147483647 := hv (0, a1) (List.mem_of_getElem? (i := 1) rfl)
  have r_a2 : -9223372036854775808 ≤ a2 ∧ a2 ≤ 9223372036854775807 := hv (1, a2) (List.mem_of_getElem? (i := 2) rfl)
  have hp0 : BW σ 87 := hp.1
  have hp1 : 0 ≤ a1 := hp.2.1
  have hp2 : a1 ≤ 2 := hp.2.2
  have B := @bk_ X G Q 0 0 ad SHS_ RX11 cX11_isMonth 4 (some .boolean) flX11 plX11 knX11 [(200, 3, TR_ as_G_X11_of_3 (rmI_) pre_G_X11_of_3 post_G_X11_of_3), (159, 3, TR_ as_G_X11_in (rmI_) pre_G_X11_in post_G_X11_in)] _ _ none kX11_isMonth [] flX11_ok plX11_ok knX11_ok eX11_isMonth oX11_isMonth
    (List.forall_mem_cons.mpr ⟨cok_v (t := 32) (c := 11) (N := 39) (n := 2) (idx := 100) E (ct_G_X11_of_3 X.2.1) (by rw [hR]; decide) (Nat.zero_le _) (Nat.zero_le _) hG rfl rfl ⟨rfl, by decide, by decide, by decide⟩ (fun _ => ⟨_, _, rfl, rfl⟩) wl_X11_100 wi_X11_of ws_X11_of wn_X11 wc_X11_of, List.forall_mem_cons.mpr ⟨cok_s (n := 3) (idx := 79) E (ct_G_X11_in X.2.1) (by rw [hR]; decide) (Nat.zero_le _) (Nat.zero_le _) hG ⟨by decide, by decide, by decide⟩ (fun _ => rfl) wl_X11_79 wt_X11_in wn_X11 wc_X11_in, fun _ h => absurd h List.not_mem_nil⟩⟩) R sok_no E
  show WP_ X G Q 0 0 ad SHS_ σ 0 [(42, 86), (0, a1), (1, a2), (9, 0)] []
  refine B rfl ?_
  refine Exists.intro a1 (And.intro rfl (And.intro (And.intro hp0 (And.intro (by show 0 ≤ a1; omega) (by show a1 ≤ 2; omega))) ?_))
  rintro z1 m_ h2
  obtain rfl : σ = m_ := h2.2.2
  have h3 : z1 = σ 87 (6 + 15 * a1 + 3) := h2.1
  have h4 : 0 ≤ z1 ∧ z1 ≤ 8 := h2.2.1
  refine And.intro (by omega) ?_
  refine Exists.intro (a2, 0, z1 - 1) (And.intro rfl (And.intro True.intro ?_))
  rintro z5 m_ h6
  obtain rfl : σ = m_ := h6.2
  have h7 : (z5 = 1 ∧ 0 ≤ a2 ∧ a2 ≤ (z1 - 1)) ∨ (z5 = 0 ∧ ¬ (0 ≤ a2 ∧ a2 ≤ (z1 - 1))) := h6.1
  refine And.intro (by omega) ?_
  refine Exists.intro _ (And.intro rfl ?_)
  exact (And.intro (by show (z5 = 1 ∧ 0 ≤ a2 ∧ a2 ≤ 7 ∧ a2 < σ 87 (6 + 15 * a1 + 3)) ∨ z5 = 0; omega) rfl)
def as_G_X11_lengthOf : Int × Int × Int → List Sv_t := fun a => [(42, 86), (0, a.1), (0, a.2.1), (0, a.2.2)]
def pre_G_X11_lengthOf : Int × Int × Int → Me_t → Prop := fun a σ => (BW σ 87) ∧ (0 ≤ a.1) ∧ (a.1 ≤ 2) ∧ (0 ≤ a.2.1) ∧ (a.2.1 ≤ 7) ∧ (0 ≤ a.2.2)
def post_G_X11_lengthOf : Int × Int × Int → Me_t → Int → Me_t → Prop := fun a σ z σ' => (z = lenF_ (σ 87) a.1 a.2.1 a.2.2) ∧ (0 ≤ z ∧ z ≤ 69) ∧ (σ = σ')
set_option maxHeartbeats 1500000 in
set_option maxRecDepth 100000 in
theorem ct_G_X11_lengthOf (l : Launch) : CT_ l yX11_lengthOf cX11_lengthOf 4 (some .int) 1 22 as_G_X11_lengthOf (rmI_) pre_G_X11_lengthOf post_G_X11_lengthOf := by
  refine ct_of (by decide) (fun _ => Nat.le_of_ble_eq_true rfl) ?_
  intro X G Q ad σ a hl hR E hG R hM hv hp
  obtain ⟨a1, a2, a3⟩ := a
  have r_a1 : -2147483648 ≤ a1 ∧ a1 ≤ 2147483647 := hv (0, a1) (List.mem_of_getElem? (i := 1) rfl)
  have r_a2 : -2147483648 ≤ a2 ∧ a2 ≤ 2147483647 := hv (0, a2) (List.mem_of_getElem? (i := 2) rfl)
  have r_a3 : -2147483648 ≤ a3 ∧ a3 ≤ 2147483647 := hv (0, a3) (List.mem_of_getElem? (i := 3) rfl)
  have hp0 : BW σ 87 := hp.1
  have hp1 : 0 ≤ a1 := hp.2.1
  have hp2 : a1 ≤ 2 := hp.2.2.1
  have hp3 : 0 ≤ a2 := hp.2.2.2.1
  have hp4 : a2 ≤ 7 := hp.2.2.2.2.1
  have hp5 : 0 ≤ a3 := hp.2.2.2.2.2
  have B := @bk_ X G Q 0 0 ad SHS_ RX11 cX11_lengthOf 4 (some .int) flX11 plX11 knX11 [(200, 3, TOR_ (TR_ as_G_X11_of_x (rmI_) pre_G_X11_of_x post_G_X11_of_x) (TOR_ (TR_ as_G_X11_of_4 (rmI_) pre_G_X11_of_4 post_G_X11_of_4) (TOR_ (TR_ as_G_X11_of_5 (rmI_) pre_G_X11_of_5 post_G_X11_of_5) (TR_ as_G_X11_of_6 (rmI_) pre_G_X11_of_6 post_G_X11_of_6))))] _ _ none kX11_lengthOf [] flX11_ok plX11_ok knX11_ok eX11_lengthOf oX11_lengthOf
    (List.forall_mem_cons.mpr ⟨cok_or (cok_v (t := 32) (c := 11) (N := 39) (n := 2) (idx := 100) E (ct_G_X11_of_x X.2.1) (by rw [hR]; decide) (Nat.zero_le _) (Nat.zero_le _) hG rfl rfl ⟨rfl, by decide, by decide, by decide⟩ (fun _ => ⟨_, _, rfl, rfl⟩) wl_X11_100 wi_X11_of ws_X11_of wn_X11 wc_X11_of) (cok_or (cok_v (t := 32) (c := 11) (N := 39) (n := 2) (idx := 100) E (ct_G_X11_of_4 X.2.1) (by rw [hR]; decide) (Nat.zero_le _) (Nat.zero_le _) hG rfl rfl ⟨rfl, by decide, by decide, by decide⟩ (fun _ => ⟨_, _, rfl, rfl⟩) wl_X11_100 wi_X11_of ws_X11_of wn_X11 wc_X11_of) (cok_or (cok_v (t := 32) (c := 11) (N := 39) (n := 2) (idx := 100) E (ct_G_X11_of_5 X.2.1) (by rw [hR]; decide) (Nat.zero_le _) (Nat.zero_le _) hG rfl rfl ⟨rfl, by decide, by decide, by decide⟩ (fun _ => ⟨_, _, rfl, rfl⟩) wl_X11_100 wi_X11_of ws_X11_of wn_X11 wc_X11_of) (cok_v (t := 32) (c := 11) (N := 39) (n := 2) (idx := 100) E (ct_G_X11_of_6 X.2.1) (by rw [hR]; decide) (Nat.zero_le _) (Nat.zero_le _) hG rfl rfl ⟨rfl, by decide, by decide, by decide⟩ (fun _ => ⟨_, _, rfl, rfl⟩) wl_X11_100 wi_X11_of ws_X11_of wn_X11 wc_X11_of))), fun _ h => absurd h List.not_mem_nil⟩) R sok_no E
  show WP_ X G Q 0 0 ad SHS_ σ 0 [(42, 86), (0, a1), (0, a2), (0, a3)] []
  refine B rfl ?_
  refine And.intro (by omega) ?_
  refine Or.inl ?_
  refine Exists.intro (a1, 7 + a2) (And.intro rfl (And.intro (And.intro hp0 (And.intro (by show 0 ≤ a1; omega) (And.intro (by show a1 ≤ 2; omega) (And.intro (by show 0 ≤ (7 + a2); omega) (by show (7 + a2) ≤ 14; omega))))) ?_))
  rintro z1 m_ h2
  obtain rfl : σ = m_ := h2.2.2.2
  have h3 : z1 = σ 87 (6 + 15 * a1 + (7 + a2)) := h2.1
  have h4 : -1 ≤ z1 ∧ z1 ≤ 1999 := h2.2.1
  have h5 : 7 ≤ (7 + a2) → 0 ≤ z1 ∧ z1 ≤ 60 := h2.2.2.1
  refine Or.inr ?_
  refine Or.inl ?_
  refine Exists.intro a1 (And.intro rfl (And.intro (And.intro hp0 (And.intro (by show 0 ≤ a1; omega) (by show a1 ≤ 2; omega))) ?_))
  rintro z6 m_ h7
  obtain rfl : σ = m_ := h7.2.2
  have h8 : z6 = σ 87 (6 + 15 * a1 + 4) := h7.1
  have h9 : 0 ≤ z6 ∧ z6 ≤ 9 := h7.2.1
  refine And.intro (fun h10 => ?_) (fun h10 => ?_)
  · skip
    refine B rfl ?_
    refine And.intro (by omega) ?_
    refine Exists.intro _ (And.intro rfl ?_)
    exact (And.intro (by show (z1 + 0) = lenF_ (σ 87) a1 a2 a3; subst_vars; unfold lenF_; split <;> omega) (And.intro (by show 0 ≤ (z1 + 0) ∧ (z1 + 0) ≤ 69; omega) rfl))
  · skip
    refine Or.inr ?_
    refine Or.inr ?_
    refine Or.inl ?_
    refine Exists.intro a1 (And.intro rfl (And.intro (And.intro hp0 (And.intro (by show 0 ≤ a1; omega) (by show a1 ≤ 2; omega))) ?_))
    rintro z11 m_ h12
    obtain rfl : σ = m_ := h12.2.2
    have h13 : z11 = σ 87 (6 + 15 * a1 + 5) := h12.1
    have h14 : (-1) ≤ z11 ∧ z11 ≤ 7 := h12.2.1
    refine And.intro (fun h15 => ?_) (fun h15 => ?_)
    · skip
      refine B rfl ?_
      refine And.intro (by omega) ?_
      refine Exists.intro _ (And.intro rfl ?_)
      exact (And.intro (by show (z1 + 0) = lenF_ (σ 87) a1 a2 a3; subst_vars; unfold lenF_; split <;> omega) (And.intro (by show 0 ≤ (z1 + 0) ∧ (z1 + 0) ≤ 69; omega) rfl))
    · skip
      refine Or.inr ?_
      refine Or.inl ?_
      refine Exists.intro a1 (And.intro rfl (And.intro (And.intro hp0 (And.intro (by show 0 ≤ a1; omega) (by show a1 ≤ 2; omega))) ?_))
      rintro z16 m_ h17
      obtain rfl : σ = m_ := h17.2.2
      have h18 : z16 = σ 87 (6 + 15 * a1 + 4) := h17.1
      have h19 : 0 ≤ z16 ∧ z16 ≤ 9 := h17.2.1
      have q20 := tmod_r (x := a3) (y := z16) (by omega) (by omega)
      refine And.intro (by omega) ?_
      refine And.intro (fun h21 => ?_) (fun h21 => ?_)
      · skip
        refine B rfl ?_
        refine And.intro (by omega) ?_
        refine Exists.intro _ (And.intro rfl ?_)
        exact (And.intro (by show (z1 + 0) = lenF_ (σ 87) a1 a2 a3; subst_vars; unfold lenF_; split <;> omega) (And.intro (by show 0 ≤ (z1 + 0) ∧ (z1 + 0) ≤ 69; omega) rfl))
      · skip
        refine Or.inr ?_
        refine Or.inr ?_
        refine Or.inr ?_
        refine Exists.intro a1 (And.intro rfl (And.intro (And.intro hp0 (And.intro (by show 0 ≤ a1; omega) (by show a1 ≤ 2; omega))) ?_))
        rintro z22 m_ h23
        obtain rfl : σ = m_ := h23.2.2
        have h24 : z22 = σ 87 (6 + 15 * a1 + 6) := h23.1
        have h25 : 0 ≤ z22 ∧ z22 ≤ 9 := h23.2.1
        refine B rfl ?_
        refine And.intro (by omega) ?_
        refine Exists.intro _ (And.intro rfl ?_)
        exact (And.intro (by show (z1 + z22) = lenF_ (σ 87) a1 a2 a3; subst_vars; unfold lenF_; split <;> omega) (And.intro (by show 0 ≤ (z1 + z22) ∧ (z1 + z22) ≤ 69; omega) rfl))
def as_G_X11_yearLength : Int × Int → List Sv_t := fun a => [(42, 86), (0, a.1), (0, a.2)]
def pre_G_X11_yearLength : Int × Int → Me_t → Prop := fun a σ => (BW σ 87) ∧ (0 ≤ a.1) ∧ (a.1 ≤ 2) ∧ (0 ≤ a.2)
def post_G_X11_yearLength : Int × Int → Me_t → Int → Me_t → Prop := fun a σ z σ' => (z = ylF_ (σ 87) a.1 a.2) ∧ (0 ≤ z ∧ z ≤ 552) ∧ (σ = σ')
set_option maxHeartbeats 1500000 in
set_option maxRecDepth 100000 in
theorem ct_G_X11_yearLength (l : Launch) : CT_ l yX11_yearLength cX11_yearLength 5 (some .int) 2 45 as_G_X11_yearLength (rmI_) pre_G_X11_yearLength post_G_X11_yearLength := by
  refine ct_of (by decide) (fun _ => Nat.le_of_ble_eq_true rfl) ?_
  intro X G Q ad σ a hl hR E hG R hM hv hp
  obtain ⟨a1, a2⟩ := a
  have r_a1 : -2147483648 ≤ a1 ∧ a1 ≤ 2147483647 := hv (0, a1) (List.mem_of_getElem? (i := 1) rfl)
  have r_a2 : -2147483648 ≤ a2 ∧ a2 ≤ 2147483647 := hv (0, a2) (List.mem_of_getElem? (i := 2) rfl)
  have hp0 : BW σ 87 := hp.1
  have hp1 : 0 ≤ a1 := hp.2.1
  have hp2 : a1 ≤ 2 := hp.2.2.1
  have hp3 : 0 ≤ a2 := hp.2.2.2
  have B := @bk_ X G Q 0 0 ad SHS_ RX11 cX11_yearLength 5 (some .int) flX11 plX11 knX11 [(200, 3, TR_ as_G_X11_of_3 (rmI_) pre_G_X11_of_3 post_G_X11_of_3), (208, 4, TR_ as_G_X11_lengthOf (rmI_) pre_G_X11_lengthOf post_G_X11_lengthOf)] _ _ none kX11_yearLength [5] flX11_ok plX11_ok knX11_ok eX11_yearLength oX11_yearLength
    (List.forall_mem_cons.mpr ⟨cok_v (t := 32) (c := 11) (N := 39) (n := 2) (idx := 100) E (ct_G_X11_of_3 X.2.1) (by rw [hR]; decide) (Nat.zero_le _) (Nat.zero_le _) hG rfl rfl ⟨rfl, by decide, by decide, by decide⟩ (fun _ => ⟨_, _, rfl, rfl⟩) wl_X11_100 wi_X11_of ws_X11_of wn_X11 wc_X11_of, List.forall_mem_cons.mpr ⟨cok_v (t := 32) (c := 11) (N := 39) (n := 3) (idx := 104) E (ct_G_X11_lengthOf X.2.1) (by rw [hR]; decide) (Nat.zero_le _) (Nat.zero_le _) hG rfl rfl ⟨rfl, by decide, by decide, by decide⟩ (fun _ => ⟨_, _, rfl, rfl⟩) wl_X11_104 wi_X11_lengthOf ws_X11_lengthOf wn_X11 wc_X11_lengthOf, fun _ h => absurd h List.not_mem_nil⟩⟩) R sok_no E
  show WP_ X G Q 0 0 ad SHS_ σ 0 [(42, 86), (0, a1), (0, a2), (9, 0), (9, 0)] []
  have hw3 := wrl_ hp0 (x := 6 + 15 * a1 + 3) (l := a1) (w := 3) rfl (by omega) (by omega)
  have hw3 : (0 : Int) ≤ σ 87 (6 + 15 * a1 + 3) ∧ σ 87 (6 + 15 * a1 + 3) ≤ (8 : Int) := hw3
  refine B rfl ?_
  have lp_5 : ∀ (nq_ : Nat) (v3 : Int) (v4 : Int), (0 ≤ v4) → (v4 ≤ 8) → (v4 ≤ σ 87 (6 + 15 * a1 + 3)) → (0 ≤ v3) → (v3 ≤ 69 * v4) → (v3 = ylN_ (σ 87) a1 a2 (v4 : Int).toNat) → (8 - v4 : Int).toNat < nq_ → WP_ X G Q 0 0 ad SHS_ σ 5 [(42, 86), (0, a1), (0, a2), (0, v3), (0, v4)] [] := by
    intro nq_
    induction nq_ with
    | zero => intros; omega
    | succ nq_ ih_5 =>
      intro v3 v4 hi5_0 hi5_1 hi5_2 hi5_3 hi5_4 hi5_5 hm5
      refine B rfl ?_
      refine Exists.intro a1 (And.intro rfl (And.intro (And.intro hp0 (And.intro (by show 0 ≤ a1; omega) (by show a1 ≤ 2; omega))) ?_))
      rintro z1 m_ h2
      obtain rfl : σ = m_ := h2.2.2
      have h3 : z1 = σ 87 (6 + 15 * a1 + 3) := h2.1
      have h4 : 0 ≤ z1 ∧ z1 ≤ 8 := h2.2.1
      refine And.intro (fun h5 => ?_) (fun h5 => ?_)
      · skip
        refine B rfl ?_
        refine Exists.intro _ (And.intro rfl ?_)
        exact (And.intro (by show v3 = ylF_ (σ 87) a1 a2; unfold ylF_; rw [show σ 87 (6 + 15 * a1 + 3) = v4 by omega]; exact hi5_5) (And.intro (by show 0 ≤ v3 ∧ v3 ≤ 552; omega) rfl))
      · skip
        refine Exists.intro (a1, v4, a2) (And.intro rfl (And.intro (And.intro hp0 (And.intro (by show 0 ≤ a1; omega) (And.intro (by show a1 ≤ 2; omega) (And.intro (by show 0 ≤ v4; omega) (And.intro (by show v4 ≤ 7; omega) (by show 0 ≤ a2; omega)))))) ?_))
        rintro z6 m_ h7
        obtain rfl : σ = m_ := h7.2.2
        have h8 : z6 = lenF_ (σ 87) a1 v4 a2 := h7.1
        have h9 : 0 ≤ z6 ∧ z6 ≤ 69 := h7.2.1
        refine And.intro (by omega) ?_
        refine And.intro (by omega) ?_
        exact ih_5 (v3 + z6) (v4 + 1) (by show 0 ≤ (v4 + 1); omega) (by show (v4 + 1) ≤ 8; omega) (by show (v4 + 1) ≤ σ 87 (6 + 15 * a1 + 3); omega) (by show 0 ≤ (v3 + z6); omega) (by show (v3 + z6) ≤ 69 * (v4 + 1); omega) (by show (v3 + z6) = ylN_ (σ 87) a1 a2 ((v4 + 1) : Int).toNat; rw [ylN_s (by omega)]; omega) (by omega)
  exact lp_5 ((8 - 0 : Int).toNat + 1) 0 0 (by show 0 ≤ 0; omega) (by show 0 ≤ 8; omega) (by show 0 ≤ σ 87 (6 + 15 * a1 + 3); omega) (by show 0 ≤ 0; omega) (by show 0 ≤ 69 * 0; omega) (by show 0 = ylN_ (σ 87) a1 a2 (0 : Int).toNat; rfl) (by omega)
def as_G_X11_ofFeast : Int × Int → List Sv_t := fun a => [(42, 86), (0, a.1), (0, a.2)]
def pre_G_X11_ofFeast : Int × Int → Me_t → Prop := fun a σ => (BW σ 87) ∧ (0 ≤ a.1) ∧ (a.1 ≤ 11) ∧ (0 ≤ a.2) ∧ (a.2 ≤ 3)
def post_G_X11_ofFeast : Int × Int → Me_t → Int → Me_t → Prop := fun a σ z σ' => (0 ≤ z ∧ z ≤ 59) ∧ (z ≤ fthi_ a.2) ∧ (σ = σ')
set_option maxHeartbeats 1500000 in
set_option maxRecDepth 100000 in
theorem ct_G_X11_ofFeast (l : Launch) : CT_ l yX11_ofFeast cX11_ofFeast 3 (some .int) 0 0 as_G_X11_ofFeast (rmI_) pre_G_X11_ofFeast post_G_X11_ofFeast := by
  refine ct_of (by decide) (fun _ => Nat.le_of_ble_eq_true rfl) ?_
  intro X G Q ad σ a hl hR E hG R hM hv hp
  obtain ⟨a1, a2⟩ := a
  have r_a1 : -2147483648 ≤ a1 ∧ a1 ≤ 2147483647 := hv (0, a1) (List.mem_of_getElem? (i := 1) rfl)
  have r_a2 : -2147483648 ≤ a2 ∧ a2 ≤ 2147483647 := hv (0, a2) (List.mem_of_getElem? (i := 2) rfl)
  have hp0 : BW σ 87 := hp.1
  have hp1 : 0 ≤ a1 := hp.2.1
  have hp2 : a1 ≤ 11 := hp.2.2.1
  have hp3 : 0 ≤ a2 := hp.2.2.2.1
  have hp4 : a2 ≤ 3 := hp.2.2.2.2
  have B := @bk_ X G Q 0 0 ad SHS_ RX11 cX11_ofFeast 3 (some .int) flX11 plX11 knX11 [] _ _ none kX11_ofFeast [] flX11_ok plX11_ok knX11_ok eX11_ofFeast oX11_ofFeast
    (fun _ h => absurd h List.not_mem_nil) R sok_no E
  show WP_ X G Q 0 0 ad SHS_ σ 0 [(42, 86), (0, a1), (0, a2)] []
  refine B rfl ?_
  refine And.intro (by omega) ?_
  refine And.intro (by omega) ?_
  refine And.intro (by omega) ?_
  refine And.intro (by omega) ?_
  intro z1 ez1 hz1
  have hz1 : ((-1) : Int) ≤ z1 ∧ z1 ≤ (1999 : Int) := hz1
  have hw := wrf_ hp0 (x := 51 + 4 * a1 + a2) (c := a1) (w := a2) rfl (by omega) (by omega)
  have hw2 := ft_le (w := a2)
  refine Exists.intro _ (And.intro rfl ?_)
  exact (And.intro (by show 0 ≤ z1 ∧ z1 ≤ 59; omega) (And.intro (by show z1 ≤ fthi_ a2; omega) rfl))
def as_G_X11_ofTruce : Int × Int → List Sv_t := fun a => [(42, 86), (0, a.1), (0, a.2)]
def pre_G_X11_ofTruce : Int × Int → Me_t → Prop := fun a σ => (BW σ 87) ∧ (0 ≤ a.1) ∧ (a.1 ≤ 11) ∧ (0 ≤ a.2) ∧ (a.2 ≤ 2)
def post_G_X11_ofTruce : Int × Int → Me_t → Int → Me_t → Prop := fun a σ z σ' => (0 ≤ z ∧ z ≤ 1999) ∧ (σ = σ')
set_option maxHeartbeats 1500000 in
set_option maxRecDepth 100000 in
theorem ct_G_X11_ofTruce (l : Launch) : CT_ l yX11_ofTruce cX11_ofTruce 3 (some .int) 0 0 as_G_X11_ofTruce (rmI_) pre_G_X11_ofTruce post_G_X11_ofTruce := by
  refine ct_of (by decide) (fun _ => Nat.le_of_ble_eq_true rfl) ?_
  intro X G Q ad σ a hl hR E hG R hM hv hp
  obtain ⟨a1, a2⟩ := a
  have r_a1 : -2147483648 ≤ a1 ∧ a1 ≤ 2147483647 := hv (0, a1) (List.mem_of_getElem? (i := 1) rfl)
  have r_a2 : -2147483648 ≤ a2 ∧ a2 ≤ 2147483647 := hv (0, a2) (List.mem_of_getElem? (i := 2) rfl)
  have hp0 : BW σ 87 := hp.1
  have hp1 : 0 ≤ a1 := hp.2.1
  have hp2 : a1 ≤ 11 := hp.2.2.1
  have hp3 : 0 ≤ a2 := hp.2.2.2.1
  have hp4 : a2 ≤ 2 := hp.2.2.2.2
  have B := @bk_ X G Q 0 0 ad SHS_ RX11 cX11_ofTruce 3 (some .int) flX11 plX11 knX11 [] _ _ none kX11_ofTruce [] flX11_ok plX11_ok knX11_ok eX11_ofTruce oX11_ofTruce
    (fun _ h => absurd h List.not_mem_nil) R sok_no E
  show WP_ X G Q 0 0 ad SHS_ σ 0 [(42, 86), (0, a1), (0, a2)] []
  refine B rfl ?_
  refine And.intro (by omega) ?_
  refine And.intro (by omega) ?_
  refine And.intro (by omega) ?_
  refine And.intro (by omega) ?_
  intro z1 ez1 hz1
  have hz1 : ((-1) : Int) ≤ z1 ∧ z1 ≤ (1999 : Int) := hz1
  have hw := wrt_ hp0 (x := 99 + 3 * a1 + a2) (c := a1) (w := a2) rfl (by omega) (by omega)
  have hw2 := tc_le (w := a2)
  refine Exists.intro _ (And.intro rfl ?_)
  exact (And.intro (by show 0 ≤ z1 ∧ z1 ≤ 1999; omega) rfl)
def as_G_X11_spot : Int × Int → List Sv_t := fun a => [(0, a.1), (0, a.2)]
def pre_G_X11_spot : Int × Int → Me_t → Prop := fun a σ => (0 ≤ a.1) ∧ (a.1 ≤ 2) ∧ (0 ≤ a.2) ∧ (a.2 ≤ 1999)
def post_G_X11_spot : Int × Int → Me_t → Int → Me_t → Prop := fun a σ z σ' => (z = 2000 * a.1 + a.2) ∧ (σ = σ')
set_option maxHeartbeats 1500000 in
set_option maxRecDepth 100000 in
theorem ct_G_X11_spot (l : Launch) : CT_ l yX11_spot cX11_spot 2 (some .int) 0 0 as_G_X11_spot (rmI_) pre_G_X11_spot post_G_X11_spot := by
  refine ct_of (by decide) (fun _ => Nat.le_of_ble_eq_true rfl) ?_
  intro X G Q ad σ a hl hR E hG R hM hv hp
  obtain ⟨a0, a1⟩ := a
  have r_a0 : -2147483648 ≤ a0 ∧ a0 ≤ 2147483647 := hv (0, a0) (List.mem_of_getElem? (i := 0) rfl)
  have r_a1 : -2147483648 ≤ a1 ∧ a1 ≤ 2147483647 := hv (0, a1) (List.mem_of_getElem? (i := 1) rfl)
  have hp0 : 0 ≤ a0 := hp.1
  have hp1 : a0 ≤ 2 := hp.2.1
  have hp2 : 0 ≤ a1 := hp.2.2.1
  have hp3 : a1 ≤ 1999 := hp.2.2.2
  have B := @bk_ X G Q 0 0 ad SHS_ RX11 cX11_spot 2 (some .int) flX11 plX11 knX11 [] _ _ none kX11_spot [] flX11_ok plX11_ok knX11_ok eX11_spot oX11_spot
    (fun _ h => absurd h List.not_mem_nil) R sok_no E
  show WP_ X G Q 0 0 ad SHS_ σ 0 [(0, a0), (0, a1)] []
  refine B rfl ?_
  refine And.intro (by omega) ?_
  refine And.intro (by omega) ?_
  refine Exists.intro _ (And.intro rfl ?_)
  exact (And.intro (by show ((2000 * a0) + a1) = 2000 * a0 + a1; omega) rfl)
def as_G_X11_weekday : Int × Int → List Sv_t := fun a => [(42, 86), (0, a.1), (0, a.2)]
def pre_G_X11_weekday : Int × Int → Me_t → Prop := fun a σ => (BW σ 87) ∧ (0 ≤ a.1) ∧ (a.1 ≤ 2) ∧ (1 ≤ σ 87 (6 + 15 * a.1 + 1)) ∧ (0 ≤ a.2) ∧ (a.2 ≤ 10000)
def post_G_X11_weekday : Int × Int → Me_t → Int → Me_t → Prop := fun a σ z σ' => (-1 ≤ z ∧ z ≤ 9) ∧ (σ = σ')
set_option maxHeartbeats 1500000 in
set_option maxRecDepth 100000 in
theorem ct_G_X11_weekday (l : Launch) : CT_ l yX11_weekday cX11_weekday 3 (some .int) 1 22 as_G_X11_weekday (rmI_) pre_G_X11_weekday post_G_X11_weekday := by
  refine ct_of (by decide) (fun _ => Nat.le_of_ble_eq_true rfl) ?_
  intro X G Q ad σ a hl hR E hG R hM hv hp
  obtain ⟨a1, a2⟩ := a
  have r_a1 : -2147483648 ≤ a1 ∧ a1 ≤ 2147483647 := hv (0, a1) (List.mem_of_getElem? (i := 1) rfl)
  have r_a2 : -2147483648 ≤ a2 ∧ a2 ≤ 2147483647 := hv (0, a2) (List.mem_of_getElem? (i := 2) rfl)
  have hp0 : BW σ 87 := hp.1
  have hp1 : 0 ≤ a1 := hp.2.1
  have hp2 : a1 ≤ 2 := hp.2.2.1
  have hp3 : 1 ≤ σ 87 (6 + 15 * a1 + 1) := hp.2.2.2.1
  have hp4 : 0 ≤ a2 := hp.2.2.2.2.1
  have hp5 : a2 ≤ 10000 := hp.2.2.2.2.2
  have B := @bk_ X G Q 0 0 ad SHS_ RX11 cX11_weekday 3 (some .int) flX11 plX11 knX11 [(200, 3, TOR_ (TR_ as_G_X11_of_0 (rmI_) pre_G_X11_of_0 post_G_X11_of_0) (TR_ as_G_X11_of_1 (rmI_) pre_G_X11_of_1 post_G_X11_of_1))] _ _ none kX11_weekday [] flX11_ok plX11_ok knX11_ok eX11_weekday oX11_weekday
    (List.forall_mem_cons.mpr ⟨cok_or (cok_v (t := 32) (c := 11) (N := 39) (n := 2) (idx := 100) E (ct_G_X11_of_0 X.2.1) (by rw [hR]; decide) (Nat.zero_le _) (Nat.zero_le _) hG rfl rfl ⟨rfl, by decide, by decide, by decide⟩ (fun _ => ⟨_, _, rfl, rfl⟩) wl_X11_100 wi_X11_of ws_X11_of wn_X11 wc_X11_of) (cok_v (t := 32) (c := 11) (N := 39) (n := 2) (idx := 100) E (ct_G_X11_of_1 X.2.1) (by rw [hR]; decide) (Nat.zero_le _) (Nat.zero_le _) hG rfl rfl ⟨rfl, by decide, by decide, by decide⟩ (fun _ => ⟨_, _, rfl, rfl⟩) wl_X11_100 wi_X11_of ws_X11_of wn_X11 wc_X11_of), fun _ h => absurd h List.not_mem_nil⟩) R sok_no E
  show WP_ X G Q 0 0 ad SHS_ σ 0 [(42, 86), (0, a1), (0, a2)] []
  refine B rfl ?_
  refine Or.inl ?_
  refine Exists.intro a1 (And.intro rfl (And.intro (And.intro hp0 (And.intro (by show 0 ≤ a1; omega) (by show a1 ≤ 2; omega))) ?_))
  rintro z1 m_ h2
  obtain rfl : σ = m_ := h2.2.2
  have h3 : z1 = σ 87 (6 + 15 * a1 + 0) := h2.1
  have h4 : 0 ≤ z1 ∧ z1 ≤ 999 := h2.2.1
  refine And.intro (fun h5 => ?_) (fun h5 => ?_)
  · skip
    refine B rfl ?_
    refine Or.inl ?_
    refine Exists.intro a1 (And.intro rfl (And.intro (And.intro hp0 (And.intro (by show 0 ≤ a1; omega) (by show a1 ≤ 2; omega))) ?_))
    rintro z6 m_ h7
    obtain rfl : σ = m_ := h7.2.2
    have h8 : z6 = σ 87 (6 + 15 * a1 + 0) := h7.1
    have h9 : 0 ≤ z6 ∧ z6 ≤ 999 := h7.2.1
    refine And.intro (by omega) ?_
    refine Or.inr ?_
    refine Exists.intro a1 (And.intro rfl (And.intro (And.intro hp0 (And.intro (by show 0 ≤ a1; omega) (by show a1 ≤ 2; omega))) ?_))
    rintro z10 m_ h11
    obtain rfl : σ = m_ := h11.2.2
    have h12 : z10 = σ 87 (6 + 15 * a1 + 1) := h11.1
    have h13 : 0 ≤ z10 ∧ z10 ≤ 10 := h11.2.1
    have q14 := tmod_r (x := a2 - z6) (y := z10) (by omega) (by omega)
    refine And.intro (by omega) ?_
    refine Exists.intro _ (And.intro rfl ?_)
    exact (And.intro (by show -1 ≤ (Int.tmod (a2 - z6) z10) ∧ (Int.tmod (a2 - z6) z10) ≤ 9; omega) rfl)
  · skip
    refine B rfl ?_
    refine Exists.intro _ (And.intro rfl ?_)
    exact (And.intro (by show -1 ≤ (-1) ∧ (-1) ≤ 9; omega) rfl)
def as_G_X11_layDates : Int → List Sv_t := fun a => [(42, 86), (0, a)]
def pre_G_X11_layDates : Int → Me_t → Prop := fun a σ => (BW σ 87) ∧ (0 ≤ a) ∧ (a ≤ 2) ∧ (1 ≤ σ 87 (6 + 15 * a + 3))
def post_G_X11_layDates : Int → Me_t → Int → Me_t → Prop := fun a σ z σ' => (∀ d : Int, σ 87 (6 + 15 * a + 0) ≤ d → d < 2000 → 0 ≤ σ' 95 (2000 * a + d)) ∧ (∀ j : Int, ¬ (2000 * a ≤ j ∧ j < 2000 * a + 2000) → σ' 95 j = σ 95 j) ∧ (∀ k j : Int, ¬ (93 ≤ k ∧ k ≤ 95) → σ' k j = σ k j)
set_option maxHeartbeats 1500000 in
set_option maxRecDepth 100000 in
theorem ct_G_X11_layDates (l : Launch) : CT_ l yX11_layDates cX11_layDates 7 none 2 45 as_G_X11_layDates (rmV_) pre_G_X11_layDates post_G_X11_layDates := by
  refine ct_of (by decide) (fun _ => Nat.le_of_ble_eq_true rfl) ?_
  intro X G Q ad σ a hl hR E hG R hM hv hp
  obtain ⟨a1, rfl⟩ : ∃ q : Int, q = a := ⟨_, rfl⟩
  have r_a1 : -2147483648 ≤ a1 ∧ a1 ≤ 2147483647 := hv (0, a1) (List.mem_of_getElem? (i := 1) rfl)
  have hp0 : BW σ 87 := hp.1
  have hp1 : 0 ≤ a1 := hp.2.1
  have hp2 : a1 ≤ 2 := hp.2.2.1
  have hp3 : 1 ≤ σ 87 (6 + 15 * a1 + 3) := hp.2.2.2
  have B := @bk_ X G Q 0 0 ad SHS_ RX11 cX11_layDates 7 none flX11 plX11 knX11 [(200, 3, TOR_ (TR_ as_G_X11_of_0 (rmI_) pre_G_X11_of_0 post_G_X11_of_0) (TR_ as_G_X11_of_3 (rmI_) pre_G_X11_of_3 post_G_X11_of_3)), (467, 2, TR_ as_G_X11_spot (rmI_) pre_G_X11_spot post_G_X11_spot), (208, 4, TR_ as_G_X11_lengthOf (rmI_) pre_G_X11_lengthOf post_G_X11_lengthOf)] _ _ none kX11_layDates [10, 18, 29, 51, 72, 93, 105, 123, 142] flX11_ok plX11_ok knX11_ok eX11_layDates oX11_layDates
    (List.forall_mem_cons.mpr ⟨cok_or (cok_v (t := 32) (c := 11) (N := 39) (n := 2) (idx := 100) E (ct_G_X11_of_0 X.2.1) (by rw [hR]; decide) (Nat.zero_le _) (Nat.zero_le _) hG rfl rfl ⟨rfl, by decide, by decide, by decide⟩ (fun _ => ⟨_, _, rfl, rfl⟩) wl_X11_100 wi_X11_of ws_X11_of wn_X11 wc_X11_of) (cok_v (t := 32) (c := 11) (N := 39) (n := 2) (idx := 100) E (ct_G_X11_of_3 X.2.1) (by rw [hR]; decide) (Nat.zero_le _) (Nat.zero_le _) hG rfl rfl ⟨rfl, by decide, by decide, by decide⟩ (fun _ => ⟨_, _, rfl, rfl⟩) wl_X11_100 wi_X11_of ws_X11_of wn_X11 wc_X11_of), List.forall_mem_cons.mpr ⟨cok_s (n := 2) (idx := 233) E (ct_G_X11_spot X.2.1) (by rw [hR]; decide) (Nat.zero_le _) (Nat.zero_le _) hG ⟨by decide, by decide, by decide⟩ (fun _ => rfl) wl_X11_233 wt_X11_spot wn_X11 wc_X11_spot, List.forall_mem_cons.mpr ⟨cok_v (t := 32) (c := 11) (N := 39) (n := 3) (idx := 104) E (ct_G_X11_lengthOf X.2.1) (by rw [hR]; decide) (Nat.zero_le _) (Nat.zero_le _) hG rfl rfl ⟨rfl, by decide, by decide, by decide⟩ (fun _ => ⟨_, _, rfl, rfl⟩) wl_X11_104 wi_X11_lengthOf ws_X11_lengthOf wn_X11 wc_X11_lengthOf, fun _ h => absurd h List.not_mem_nil⟩⟩⟩) R sok_no E
  show WP_ X G Q 0 0 ad SHS_ σ 0 [(42, 86), (0, a1), (9, 0), (9, 0), (9, 0), (9, 0), (9, 0)] []
  have hw3 := wrl_ hp0 (x := 6 + 15 * a1 + 3) (l := a1) (w := 3) rfl (by omega) (by omega)
  have hw3 : (0 : Int) ≤ σ 87 (6 + 15 * a1 + 3) ∧ σ 87 (6 + 15 * a1 + 3) ≤ (8 : Int) := hw3
  have hw0 := wrl_ hp0 (x := 6 + 15 * a1 + 0) (l := a1) (w := 0) rfl (by omega) (by omega)
  have hw0 : (0 : Int) ≤ σ 87 (6 + 15 * a1 + 0) ∧ σ 87 (6 + 15 * a1 + 0) ≤ (999 : Int) := hw0
  refine B rfl ?_
  have lp_10 : ∀ (nq_ : Nat) (v2 : Int) (v3 : Int) (v4 : Int) (v5 : Int) (τ10 : Me_t), (∀ k j : Int, ¬ (93 ≤ k ∧ k ≤ 95) → τ10 k j = σ k j) → (0 ≤ v2) → (v2 ≤ v5) → (0 ≤ v3) → (v3 + 1 ≤ σ 87 (6 + 15 * a1 + 3)) → (0 ≤ v4) → (v4 ≤ 68) → (0 ≤ v5) → (v5 ≤ 2000) → (0 ≤ a1) → (a1 ≤ 2) → (∀ d : Int, σ 87 (6 + 15 * a1 + 0) ≤ d → d < v5 → 0 ≤ τ10 95 (2000 * a1 + d)) → (∀ j : Int, ¬ (2000 * a1 ≤ j ∧ j < 2000 * a1 + 2000) → τ10 95 j = σ 95 j) → (2000 - v5 : Int).toNat < nq_ → WP_ X G Q 0 0 ad SHS_ τ10 10 [(42, 86), (0, a1), (0, v2), (0, v3), (0, v4), (0, v5), (9, 0)] [] := by
    intro nq_
    induction nq_ with
    | zero => intros; omega
    | succ nq_ ih_10 =>
      intro v2 v3 v4 v5 τ10 hf10 hi10_0 hi10_1 hi10_2 hi10_3 hi10_4 hi10_5 hi10_6 hi10_7 hi10_8 hi10_9 hi10_10 hi10_11 hm10
      refine B rfl ?_
      refine And.intro (fun h1 => ?_) (fun h1 => ?_)
      · skip
        refine B rfl ?_
        refine Exists.intro 0 (And.intro rfl ?_)
        try have t2 : τ10 95 (2000 * a1 + d) = σ 95 (2000 * a1 + d) := (hf10 _ _ (by omega))
        exact (And.intro (by show ∀ d : Int, σ 87 (6 + 15 * a1 + 0) ≤ d → d < 2000 → 0 ≤ τ10 95 (2000 * a1 + d); intro d h1 h2; exact hi10_10 d h1 (by omega)) (And.intro (by show ∀ j : Int, ¬ (2000 * a1 ≤ j ∧ j < 2000 * a1 + 2000) → τ10 95 j = σ 95 j; exact hi10_11) (fun k j hk => (hf10 _ _ (by omega)))))
      · skip
        show WP_ X G Q 0 0 ad SHS_ τ10 18 [(42, 86), (0, a1), (0, v2), (0, v3), (0, v4), (0, v5), (9, 0)] []
        refine B rfl ?_
        have p3 : BW τ10 87 := BW_fr hp0 (fun k j hk => (hf10 _ _ (by omega)))
        refine Or.inl ?_
        refine Exists.intro a1 (And.intro rfl (And.intro (And.intro p3 (And.intro (by show 0 ≤ a1; omega) (by show a1 ≤ 2; omega))) ?_))
        rintro z4 m_ h5
        obtain rfl : τ10 = m_ := h5.2.2
        have h6 : z4 = τ10 87 (6 + 15 * a1 + 0) := h5.1
        try have t7 : τ10 87 (6 + 15 * a1 + 0) = σ 87 (6 + 15 * a1 + 0) := (hf10 _ _ (by omega))
        have h8 : 0 ≤ z4 ∧ z4 ≤ 999 := h5.2.1
        refine And.intro (fun h9 => ?_) (fun h9 => ?_)
        · skip
          refine B rfl ?_
          refine Exists.intro (a1, v5) (And.intro rfl (And.intro (And.intro (by show 0 ≤ a1; omega) (And.intro (by show a1 ≤ 2; omega) (And.intro (by show 0 ≤ v5; omega) (by show v5 ≤ 1999; omega)))) ?_))
          rintro z10 m_ h11
          obtain rfl : τ10 = m_ := h11.2
          have h12 : z10 = 2000 * a1 + v5 := h11.1
          have q13 : z10 = 2000 * a1 + v5 := by omega
          subst q13
          refine And.intro (fun h14 => ?_) (fun h14 => (by exfalso; omega))
          refine B rfl ?_
          refine And.intro (by omega) ?_
          refine And.intro (by show ((-1) : Int) ≤ _ ∧ _ ≤ (2000 : Int); omega) ?_
          intro σ15 e16
          refine Exists.intro (a1, v5) (And.intro rfl (And.intro (And.intro (by show 0 ≤ a1; omega) (And.intro (by show a1 ≤ 2; omega) (And.intro (by show 0 ≤ v5; omega) (by show v5 ≤ 1999; omega)))) ?_))
          rintro z17 m_ h18
          obtain rfl : σ15 = m_ := h18.2
          have h19 : z17 = 2000 * a1 + v5 := h18.1
          have q20 : z17 = 2000 * a1 + v5 := by omega
          subst q20
          refine And.intro (fun h21 => ?_) (fun h21 => (by exfalso; omega))
          refine B rfl ?_
          refine And.intro (by omega) ?_
          refine And.intro (by show ((-1) : Int) ≤ _ ∧ _ ≤ (7 : Int); omega) ?_
          intro σ22 e23
          refine Exists.intro (a1, v5) (And.intro rfl (And.intro (And.intro (by show 0 ≤ a1; omega) (And.intro (by show a1 ≤ 2; omega) (And.intro (by show 0 ≤ v5; omega) (by show v5 ≤ 1999; omega)))) ?_))
          rintro z24 m_ h25
          obtain rfl : σ22 = m_ := h25.2
          have h26 : z24 = 2000 * a1 + v5 := h25.1
          have q27 : z24 = 2000 * a1 + v5 := by omega
          subst q27
          refine And.intro (fun h28 => ?_) (fun h28 => (by exfalso; omega))
          refine B rfl ?_
          refine And.intro (by omega) ?_
          refine And.intro (by show ((-1) : Int) ≤ _ ∧ _ ≤ (68 : Int); omega) ?_
          intro σ29 e30
          refine And.intro (fun h31 => (by exfalso; omega)) (fun h31 => ?_)
          show WP_ X G Q 0 0 ad SHS_ σ29 105 [(42, 86), (0, a1), (0, v2), (0, v3), (0, v4), (0, v5), (0, 0)] []
          refine B rfl ?_
          refine B rfl ?_
          refine And.intro (by omega) ?_
          show WP_ X G Q 0 0 ad SHS_ σ29 10 [(42, 86), (0, a1), (0, v2), (0, v3), (0, v4), (0, v5 + 1), (0, 0)] []
          refine wdrop_ (L' := [(42, 86), (0, a1), (0, v2), (0, v3), (0, v4), (0, v5 + 1), (9, 0)]) ⟨Or.inr rfl, ⟨Or.inr rfl, ⟨Or.inr rfl, ⟨Or.inr rfl, ⟨Or.inr rfl, ⟨Or.inr rfl, ⟨Or.inl rfl, trivial⟩⟩⟩⟩⟩⟩⟩ ?_
          try have t32 : σ29 95 (2000 * a1 + d) = σ 95 (2000 * a1 + d) := ((ups_r e30 (by omega)).trans ((ups_r e23 (by omega)).trans ((ups_r e16 (by omega)).trans (hf10 _ _ (by omega)))))
          exact ih_10 v2 v3 v4 (v5 + 1) σ29 (fun k j hk => ((ups_r e30 (by omega)).trans ((ups_r e23 (by omega)).trans ((ups_r e16 (by omega)).trans (hf10 _ _ (by omega)))))) (by show 0 ≤ v2; omega) (by show v2 ≤ (v5 + 1); omega) (by show 0 ≤ v3; omega) (by show v3 + 1 ≤ σ 87 (6 + 15 * a1 + 3); omega) (by show 0 ≤ v4; omega) (by show v4 ≤ 68; omega) (by show 0 ≤ (v5 + 1); omega) (by show (v5 + 1) ≤ 2000; omega) (by show 0 ≤ a1; omega) (by show a1 ≤ 2; omega) (by show ∀ d : Int, σ 87 (6 + 15 * a1 + 0) ≤ d → d < (v5 + 1) → 0 ≤ σ29 95 (2000 * a1 + d); intro d h1 h2; by_cases hj : d = v5; rw [hj, show σ29 95 (2000 * a1 + v5) = _ from ups_v e30]; omega; rw [show σ29 95 (2000 * a1 + d) = τ10 95 (2000 * a1 + d) from ((ups_r e30 (by omega)).trans ((ups_r e23 (by omega)).trans (ups_r e16 (by omega))))]; exact hi10_10 d h1 (by omega)) (by show ∀ j : Int, ¬ (2000 * a1 ≤ j ∧ j < 2000 * a1 + 2000) → σ29 95 j = σ 95 j; intro j h; exact (((ups_r e30 (by omega)).trans ((ups_r e23 (by omega)).trans (ups_r e16 (by omega))))).trans (hi10_11 j h)) (by omega)
        · skip
          show WP_ X G Q 0 0 ad SHS_ τ10 29 [(42, 86), (0, a1), (0, v2), (0, v3), (0, v4), (0, v5), (9, 0)] []
          refine B rfl ?_
          refine B rfl ?_
          refine Exists.intro (a1, v5) (And.intro rfl (And.intro (And.intro (by show 0 ≤ a1; omega) (And.intro (by show a1 ≤ 2; omega) (And.intro (by show 0 ≤ v5; omega) (by show v5 ≤ 1999; omega)))) ?_))
          rintro z33 m_ h34
          obtain rfl : τ10 = m_ := h34.2
          have h35 : z33 = 2000 * a1 + v5 := h34.1
          have q36 : z33 = 2000 * a1 + v5 := by omega
          subst q36
          refine And.intro (fun h37 => (by exfalso; omega)) (fun h37 => ?_)
          show WP_ X G Q 0 0 ad SHS_ τ10 51 [(42, 86), (0, a1), (0, v2), (0, v3), (0, v4), (0, v5), (0, 1)] [(0, 2000 * a1 + v5), (49, 93)]
          refine B rfl ?_
          refine B rfl ?_
          refine And.intro (by omega) ?_
          refine And.intro (by show ((-1) : Int) ≤ _ ∧ _ ≤ (2000 : Int); omega) ?_
          intro σ38 e39
          refine Exists.intro (a1, v5) (And.intro rfl (And.intro (And.intro (by show 0 ≤ a1; omega) (And.intro (by show a1 ≤ 2; omega) (And.intro (by show 0 ≤ v5; omega) (by show v5 ≤ 1999; omega)))) ?_))
          rintro z40 m_ h41
          obtain rfl : σ38 = m_ := h41.2
          have h42 : z40 = 2000 * a1 + v5 := h41.1
          have q43 : z40 = 2000 * a1 + v5 := by omega
          subst q43
          refine And.intro (fun h44 => (by exfalso; omega)) (fun h44 => ?_)
          show WP_ X G Q 0 0 ad SHS_ σ38 72 [(42, 86), (0, a1), (0, v2), (0, v3), (0, v4), (0, v5), (0, 1)] [(0, 2000 * a1 + v5), (50, 94)]
          refine B rfl ?_
          refine B rfl ?_
          refine And.intro (by omega) ?_
          refine And.intro (by show ((-1) : Int) ≤ _ ∧ _ ≤ (7 : Int); omega) ?_
          intro σ45 e46
          refine Exists.intro (a1, v5) (And.intro rfl (And.intro (And.intro (by show 0 ≤ a1; omega) (And.intro (by show a1 ≤ 2; omega) (And.intro (by show 0 ≤ v5; omega) (by show v5 ≤ 1999; omega)))) ?_))
          rintro z47 m_ h48
          obtain rfl : σ45 = m_ := h48.2
          have h49 : z47 = 2000 * a1 + v5 := h48.1
          have q50 : z47 = 2000 * a1 + v5 := by omega
          subst q50
          refine And.intro (fun h51 => (by exfalso; omega)) (fun h51 => ?_)
          show WP_ X G Q 0 0 ad SHS_ σ45 93 [(42, 86), (0, a1), (0, v2), (0, v3), (0, v4), (0, v5), (0, 1)] [(0, 2000 * a1 + v5), (51, 95)]
          refine B rfl ?_
          refine B rfl ?_
          refine And.intro (by omega) ?_
          refine And.intro (by show ((-1) : Int) ≤ _ ∧ _ ≤ (68 : Int); omega) ?_
          intro σ52 e53
          refine And.intro (fun h54 => ?_) (fun h54 => (by exfalso; omega))
          refine B rfl ?_
          refine And.intro (by omega) ?_
          have p55 : BW σ52 87 := BW_fr p3 (fun k j hk => ((ups_r e53 (by omega)).trans ((ups_r e46 (by omega)).trans (ups_r e39 (by omega)))))
          refine Exists.intro (a1, v3, v2) (And.intro rfl (And.intro (And.intro p55 (And.intro (by show 0 ≤ a1; omega) (And.intro (by show a1 ≤ 2; omega) (And.intro (by show 0 ≤ v3; omega) (And.intro (by show v3 ≤ 7; omega) (by show 0 ≤ v2; omega)))))) ?_))
          rintro z56 m_ h57
          obtain rfl : σ52 = m_ := h57.2.2
          have h58 : z56 = lenF_ (σ52 87) a1 v3 v2 := h57.1
          have h59 : 0 ≤ z56 ∧ z56 ≤ 69 := h57.2.1
          refine And.intro (fun h60 => ?_) (fun h60 => ?_)
          · skip
            refine B rfl ?_
            refine And.intro (by omega) ?_
            refine Or.inr ?_
            refine Exists.intro a1 (And.intro rfl (And.intro (And.intro p55 (And.intro (by show 0 ≤ a1; omega) (by show a1 ≤ 2; omega))) ?_))
            rintro z61 m_ h62
            obtain rfl : σ52 = m_ := h62.2.2
            have h63 : z61 = σ52 87 (6 + 15 * a1 + 3) := h62.1
            try have t64 : σ52 87 (6 + 15 * a1 + 3) = σ 87 (6 + 15 * a1 + 3) := ((ups_r e53 (by omega)).trans ((ups_r e46 (by omega)).trans ((ups_r e39 (by omega)).trans (hf10 _ _ (by omega)))))
            have h65 : 0 ≤ z61 ∧ z61 ≤ 8 := h62.2.1
            refine And.intro (fun h66 => ?_) (fun h66 => ?_)
            · skip
              refine B rfl ?_
              refine And.intro (by omega) ?_
              refine And.intro (by omega) ?_
              show WP_ X G Q 0 0 ad SHS_ σ52 10 [(42, 86), (0, a1), (0, v2 + 1), (0, 0), (0, 0), (0, v5 + 1), (0, 1)] []
              refine wdrop_ (L' := [(42, 86), (0, a1), (0, v2 + 1), (0, 0), (0, 0), (0, v5 + 1), (9, 0)]) ⟨Or.inr rfl, ⟨Or.inr rfl, ⟨Or.inr rfl, ⟨Or.inr rfl, ⟨Or.inr rfl, ⟨Or.inr rfl, ⟨Or.inl rfl, trivial⟩⟩⟩⟩⟩⟩⟩ ?_
              try have t67 : σ52 95 (2000 * a1 + d) = σ 95 (2000 * a1 + d) := ((ups_r e53 (by omega)).trans ((ups_r e46 (by omega)).trans ((ups_r e39 (by omega)).trans (hf10 _ _ (by omega)))))
              exact ih_10 (v2 + 1) 0 0 (v5 + 1) σ52 (fun k j hk => ((ups_r e53 (by omega)).trans ((ups_r e46 (by omega)).trans ((ups_r e39 (by omega)).trans (hf10 _ _ (by omega)))))) (by show 0 ≤ (v2 + 1); omega) (by show (v2 + 1) ≤ (v5 + 1); omega) (by show 0 ≤ 0; omega) (by show 0 + 1 ≤ σ 87 (6 + 15 * a1 + 3); omega) (by show 0 ≤ 0; omega) (by show 0 ≤ 68; omega) (by show 0 ≤ (v5 + 1); omega) (by show (v5 + 1) ≤ 2000; omega) (by show 0 ≤ a1; omega) (by show a1 ≤ 2; omega) (by show ∀ d : Int, σ 87 (6 + 15 * a1 + 0) ≤ d → d < (v5 + 1) → 0 ≤ σ52 95 (2000 * a1 + d); intro d h1 h2; by_cases hj : d = v5; rw [hj, show σ52 95 (2000 * a1 + v5) = _ from ups_v e53]; omega; rw [show σ52 95 (2000 * a1 + d) = τ10 95 (2000 * a1 + d) from ((ups_r e53 (by omega)).trans ((ups_r e46 (by omega)).trans (ups_r e39 (by omega))))]; exact hi10_10 d h1 (by omega)) (by show ∀ j : Int, ¬ (2000 * a1 ≤ j ∧ j < 2000 * a1 + 2000) → σ52 95 j = σ 95 j; intro j h; exact (((ups_r e53 (by omega)).trans ((ups_r e46 (by omega)).trans (ups_r e39 (by omega))))).trans (hi10_11 j h)) (by omega)
            · skip
              show WP_ X G Q 0 0 ad SHS_ σ52 142 [(42, 86), (0, a1), (0, v2), (0, v3 + 1), (0, 0), (0, v5), (0, 1)] []
              refine B rfl ?_
              refine B rfl ?_
              refine And.intro (by omega) ?_
              show WP_ X G Q 0 0 ad SHS_ σ52 10 [(42, 86), (0, a1), (0, v2), (0, v3 + 1), (0, 0), (0, v5 + 1), (0, 1)] []
              refine wdrop_ (L' := [(42, 86), (0, a1), (0, v2), (0, v3 + 1), (0, 0), (0, v5 + 1), (9, 0)]) ⟨Or.inr rfl, ⟨Or.inr rfl, ⟨Or.inr rfl, ⟨Or.inr rfl, ⟨Or.inr rfl, ⟨Or.inr rfl, ⟨Or.inl rfl, trivial⟩⟩⟩⟩⟩⟩⟩ ?_
              try have t68 : σ52 95 (2000 * a1 + d) = σ 95 (2000 * a1 + d) := ((ups_r e53 (by omega)).trans ((ups_r e46 (by omega)).trans ((ups_r e39 (by omega)).trans (hf10 _ _ (by omega)))))
              exact ih_10 v2 (v3 + 1) 0 (v5 + 1) σ52 (fun k j hk => ((ups_r e53 (by omega)).trans ((ups_r e46 (by omega)).trans ((ups_r e39 (by omega)).trans (hf10 _ _ (by omega)))))) (by show 0 ≤ v2; omega) (by show v2 ≤ (v5 + 1); omega) (by show 0 ≤ (v3 + 1); omega) (by show (v3 + 1) + 1 ≤ σ 87 (6 + 15 * a1 + 3); omega) (by show 0 ≤ 0; omega) (by show 0 ≤ 68; omega) (by show 0 ≤ (v5 + 1); omega) (by show (v5 + 1) ≤ 2000; omega) (by show 0 ≤ a1; omega) (by show a1 ≤ 2; omega) (by show ∀ d : Int, σ 87 (6 + 15 * a1 + 0) ≤ d → d < (v5 + 1) → 0 ≤ σ52 95 (2000 * a1 + d); intro d h1 h2; by_cases hj : d = v5; rw [hj, show σ52 95 (2000 * a1 + v5) = _ from ups_v e53]; omega; rw [show σ52 95 (2000 * a1 + d) = τ10 95 (2000 * a1 + d) from ((ups_r e53 (by omega)).trans ((ups_r e46 (by omega)).trans (ups_r e39 (by omega))))]; exact hi10_10 d h1 (by omega)) (by show ∀ j : Int, ¬ (2000 * a1 ≤ j ∧ j < 2000 * a1 + 2000) → σ52 95 j = σ 95 j; intro j h; exact (((ups_r e53 (by omega)).trans ((ups_r e46 (by omega)).trans (ups_r e39 (by omega))))).trans (hi10_11 j h)) (by omega)
          · skip
            show WP_ X G Q 0 0 ad SHS_ σ52 123 [(42, 86), (0, a1), (0, v2), (0, v3), (0, v4 + 1), (0, v5), (0, 1)] []
            refine B rfl ?_
            refine B rfl ?_
            refine And.intro (by omega) ?_
            show WP_ X G Q 0 0 ad SHS_ σ52 10 [(42, 86), (0, a1), (0, v2), (0, v3), (0, v4 + 1), (0, v5 + 1), (0, 1)] []
            refine wdrop_ (L' := [(42, 86), (0, a1), (0, v2), (0, v3), (0, v4 + 1), (0, v5 + 1), (9, 0)]) ⟨Or.inr rfl, ⟨Or.inr rfl, ⟨Or.inr rfl, ⟨Or.inr rfl, ⟨Or.inr rfl, ⟨Or.inr rfl, ⟨Or.inl rfl, trivial⟩⟩⟩⟩⟩⟩⟩ ?_
            try have t69 : σ52 95 (2000 * a1 + d) = σ 95 (2000 * a1 + d) := ((ups_r e53 (by omega)).trans ((ups_r e46 (by omega)).trans ((ups_r e39 (by omega)).trans (hf10 _ _ (by omega)))))
            exact ih_10 v2 v3 (v4 + 1) (v5 + 1) σ52 (fun k j hk => ((ups_r e53 (by omega)).trans ((ups_r e46 (by omega)).trans ((ups_r e39 (by omega)).trans (hf10 _ _ (by omega)))))) (by show 0 ≤ v2; omega) (by show v2 ≤ (v5 + 1); omega) (by show 0 ≤ v3; omega) (by show v3 + 1 ≤ σ 87 (6 + 15 * a1 + 3); omega) (by show 0 ≤ (v4 + 1); omega) (by show (v4 + 1) ≤ 68; omega) (by show 0 ≤ (v5 + 1); omega) (by show (v5 + 1) ≤ 2000; omega) (by show 0 ≤ a1; omega) (by show a1 ≤ 2; omega) (by show ∀ d : Int, σ 87 (6 + 15 * a1 + 0) ≤ d → d < (v5 + 1) → 0 ≤ σ52 95 (2000 * a1 + d); intro d h1 h2; by_cases hj : d = v5; rw [hj, show σ52 95 (2000 * a1 + v5) = _ from ups_v e53]; omega; rw [show σ52 95 (2000 * a1 + d) = τ10 95 (2000 * a1 + d) from ((ups_r e53 (by omega)).trans ((ups_r e46 (by omega)).trans (ups_r e39 (by omega))))]; exact hi10_10 d h1 (by omega)) (by show ∀ j : Int, ¬ (2000 * a1 ≤ j ∧ j < 2000 * a1 + 2000) → σ52 95 j = σ 95 j; intro j h; exact (((ups_r e53 (by omega)).trans ((ups_r e46 (by omega)).trans (ups_r e39 (by omega))))).trans (hi10_11 j h)) (by omega)
  exact lp_10 ((2000 - 0 : Int).toNat + 1) 0 0 0 0 σ (fun k j hk => rfl) (by show 0 ≤ 0; omega) (by show 0 ≤ 0; omega) (by show 0 ≤ 0; omega) (by show 0 + 1 ≤ σ 87 (6 + 15 * a1 + 3); omega) (by show 0 ≤ 0; omega) (by show 0 ≤ 68; omega) (by show 0 ≤ 0; omega) (by show 0 ≤ 2000; omega) (by show 0 ≤ a1; omega) (by show a1 ≤ 2; omega) (by show ∀ d : Int, σ 87 (6 + 15 * a1 + 0) ≤ d → d < 0 → 0 ≤ σ 95 (2000 * a1 + d); intro d h1 h2; omega) (by show ∀ j : Int, ¬ (2000 * a1 ≤ j ∧ j < 2000 * a1 + 2000) → σ 95 j = σ 95 j; intro j h; rfl) (by omega)
def as_G_X11_layWhy : Int → List Sv_t := fun a => [(42, 86), (0, a)]
def pre_G_X11_layWhy : Int → Me_t → Prop := fun a σ => (BW σ 87) ∧ (0 ≤ a) ∧ (a ≤ 2) ∧ (1 ≤ σ 87 (6 + 15 * a + 1))
def post_G_X11_layWhy : Int → Me_t → Int → Me_t → Prop := fun a σ z σ' => (∀ k j : Int, ¬ (k = 96) → σ' k j = σ k j)
set_option maxHeartbeats 1500000 in
set_option maxRecDepth 100000 in
theorem ct_G_X11_layWhy (l : Launch) : CT_ l yX11_layWhy cX11_layWhy 5 none 2 44 as_G_X11_layWhy (rmV_) pre_G_X11_layWhy post_G_X11_layWhy := by
  refine ct_of (by decide) (fun _ => Nat.le_of_ble_eq_true rfl) ?_
  intro X G Q ad σ a hl hR E hG R hM hv hp
  obtain ⟨a1, rfl⟩ : ∃ q : Int, q = a := ⟨_, rfl⟩
  have r_a1 : -2147483648 ≤ a1 ∧ a1 ≤ 2147483647 := hv (0, a1) (List.mem_of_getElem? (i := 1) rfl)
  have hp0 : BW σ 87 := hp.1
  have hp1 : 0 ≤ a1 := hp.2.1
  have hp2 : a1 ≤ 2 := hp.2.2.1
  have hp3 : 1 ≤ σ 87 (6 + 15 * a1 + 1) := hp.2.2.2
  have B := @bk_ X G Q 0 0 ad SHS_ RX11 cX11_layWhy 5 none flX11 plX11 knX11 [(490, 3, TR_ as_G_X11_ofTruce (rmI_) pre_G_X11_ofTruce post_G_X11_ofTruce), (467, 2, TR_ as_G_X11_spot (rmI_) pre_G_X11_spot post_G_X11_spot), (484, 3, TR_ as_G_X11_ofFeast (rmI_) pre_G_X11_ofFeast post_G_X11_ofFeast), (200, 3, TOR_ (TR_ as_G_X11_of_0 (rmI_) pre_G_X11_of_0 post_G_X11_of_0) (TR_ as_G_X11_of_2 (rmI_) pre_G_X11_of_2 post_G_X11_of_2)), (472, 3, TR_ as_G_X11_weekday (rmI_) pre_G_X11_weekday post_G_X11_weekday), (479, 2, TR_ as_G_X11_bit (rmI_) pre_G_X11_bit post_G_X11_bit)] _ _ none kX11_layWhy [2, 9, 28, 51, 65, 75, 85, 95, 102, 121, 140, 146, 159, 167, 191, 227, 237, 247, 257, 267, 289] flX11_ok plX11_ok knX11_ok eX11_layWhy oX11_layWhy
    (List.forall_mem_cons.mpr ⟨cok_v (t := 32) (c := 11) (N := 39) (n := 2) (idx := 245) E (ct_G_X11_ofTruce X.2.1) (by rw [hR]; decide) (Nat.zero_le _) (Nat.zero_le _) hG rfl rfl ⟨rfl, by decide, by decide, by decide⟩ (fun _ => ⟨_, _, rfl, rfl⟩) wl_X11_245 wi_X11_ofTruce ws_X11_ofTruce wn_X11 wc_X11_ofTruce, List.forall_mem_cons.mpr ⟨cok_s (n := 2) (idx := 233) E (ct_G_X11_spot X.2.1) (by rw [hR]; decide) (Nat.zero_le _) (Nat.zero_le _) hG ⟨by decide, by decide, by decide⟩ (fun _ => rfl) wl_X11_233 wt_X11_spot wn_X11 wc_X11_spot, List.forall_mem_cons.mpr ⟨cok_v (t := 32) (c := 11) (N := 39) (n := 2) (idx := 242) E (ct_G_X11_ofFeast X.2.1) (by rw [hR]; decide) (Nat.zero_le _) (Nat.zero_le _) hG rfl rfl ⟨rfl, by decide, by decide, by decide⟩ (fun _ => ⟨_, _, rfl, rfl⟩) wl_X11_242 wi_X11_ofFeast ws_X11_ofFeast wn_X11 wc_X11_ofFeast, List.forall_mem_cons.mpr ⟨cok_or (cok_v (t := 32) (c := 11) (N := 39) (n := 2) (idx := 100) E (ct_G_X11_of_0 X.2.1) (by rw [hR]; decide) (Nat.zero_le _) (Nat.zero_le _) hG rfl rfl ⟨rfl, by decide, by decide, by decide⟩ (fun _ => ⟨_, _, rfl, rfl⟩) wl_X11_100 wi_X11_of ws_X11_of wn_X11 wc_X11_of) (cok_v (t := 32) (c := 11) (N := 39) (n := 2) (idx := 100) E (ct_G_X11_of_2 X.2.1) (by rw [hR]; decide) (Nat.zero_le _) (Nat.zero_le _) hG rfl rfl ⟨rfl, by decide, by decide, by decide⟩ (fun _ => ⟨_, _, rfl, rfl⟩) wl_X11_100 wi_X11_of ws_X11_of wn_X11 wc_X11_of), List.forall_mem_cons.mpr ⟨cok_v (t := 32) (c := 11) (N := 39) (n := 2) (idx := 236) E (ct_G_X11_weekday X.2.1) (by rw [hR]; decide) (Nat.zero_le _) (Nat.zero_le _) hG rfl rfl ⟨rfl, by decide, by decide, by decide⟩ (fun _ => ⟨_, _, rfl, rfl⟩) wl_X11_236 wi_X11_weekday ws_X11_weekday wn_X11 wc_X11_weekday, List.forall_mem_cons.mpr ⟨cok_s (n := 2) (idx := 239) E (ct_G_X11_bit X.2.1) (by rw [hR]; decide) (Nat.zero_le _) (Nat.zero_le _) hG ⟨by decide, by decide, by decide⟩ (fun _ => rfl) wl_X11_239 wt_X11_bit wn_X11 wc_X11_bit, fun _ h => absurd h List.not_mem_nil⟩⟩⟩⟩⟩⟩) R sok_no E
  show WP_ X G Q 0 0 ad SHS_ σ 0 [(42, 86), (0, a1), (9, 0), (9, 0), (9, 0)] []
  refine B rfl ?_
  have lp_2 : ∀ (nq_ : Nat) (v2 : Int) (τ2 : Me_t), (∀ k j : Int, ¬ (k = 96) → τ2 k j = σ k j) → (0 ≤ v2) → (v2 ≤ 2000) → (2000 - v2 : Int).toNat < nq_ → WP_ X G Q 0 0 ad SHS_ τ2 2 [(42, 86), (0, a1), (0, v2), (9, 0), (9, 0)] [] := by
    intro nq_
    induction nq_ with
    | zero => intros; omega
    | succ nq_ ih_2 =>
      intro v2 τ2 hf2 hi2_0 hi2_1 hm2
      refine B rfl ?_
      refine And.intro (fun h1 => ?_) (fun h1 => ?_)
      · skip
        refine B rfl ?_
        have lp_65 : ∀ (nq_ : Nat) (v2 : Int) (τ65 : Me_t), (∀ k j : Int, ¬ (k = 96) → τ65 k j = σ k j) → (0 ≤ v2) → (v2 ≤ 12) → (12 - v2 : Int).toNat < nq_ → WP_ X G Q 0 0 ad SHS_ τ65 65 [(42, 86), (0, a1), (0, v2), (9, 0), (9, 0)] [] := by
          intro nq_
          induction nq_ with
          | zero => intros; omega
          | succ nq_ ih_65 =>
            intro v2 τ65 hf65 hi65_0 hi65_1 hm65
            refine B rfl ?_
            refine And.intro (by omega) ?_
            intro z2 ez2 hz2
            have hz2 : ((-1) : Int) ≤ z2 ∧ z2 ≤ (1999 : Int) := hz2
            try have t3 : τ65 87 2 = σ 87 2 := (hf65 _ _ (by omega))
            have p4 : BW τ65 87 := BW_fr hp0 (fun k j hk => (hf65 _ _ (by omega)))
            have b5 := wrh_ p4 (i := 2) (by omega)
            have b5 : (0 : Int) ≤ τ65 87 2 ∧ τ65 87 2 ≤ (12 : Int) := b5
            refine And.intro (fun h6 => ?_) (fun h6 => ?_)
            · skip
              refine B rfl ?_
              have lp_227 : ∀ (nq_ : Nat) (v2 : Int) (τ227 : Me_t), (∀ k j : Int, ¬ (k = 96) → τ227 k j = σ k j) → (0 ≤ v2) → (v2 ≤ 12) → (12 - v2 : Int).toNat < nq_ → WP_ X G Q 0 0 ad SHS_ τ227 227 [(42, 86), (0, a1), (0, v2), (9, 0), (9, 0)] [] := by
                intro nq_
                induction nq_ with
                | zero => intros; omega
                | succ nq_ ih_227 =>
                  intro v2 τ227 hf227 hi227_0 hi227_1 hm227
                  refine B rfl ?_
                  refine And.intro (by omega) ?_
                  intro z7 ez7 hz7
                  have hz7 : ((-1) : Int) ≤ z7 ∧ z7 ≤ (1999 : Int) := hz7
                  try have t8 : τ227 87 3 = σ 87 3 := (hf227 _ _ (by omega))
                  have p9 : BW τ227 87 := BW_fr hp0 (fun k j hk => (hf227 _ _ (by omega)))
                  have b10 := wrh_ p9 (i := 3) (by omega)
                  have b10 : (0 : Int) ≤ τ227 87 3 ∧ τ227 87 3 ≤ (12 : Int) := b10
                  refine And.intro (fun h11 => ?_) (fun h11 => ?_)
                  · skip
                    refine B rfl ?_
                    refine Exists.intro 0 (And.intro rfl ?_)
                    exact (fun k j hk => (hf227 _ _ (by omega)))
                  · skip
                    show WP_ X G Q 0 0 ad SHS_ τ227 237 [(42, 86), (0, a1), (0, v2), (9, 0), (9, 0)] []
                    refine B rfl ?_
                    refine Exists.intro (v2, 0) (And.intro rfl (And.intro (And.intro p9 (And.intro (by show 0 ≤ v2; omega) (And.intro (by show v2 ≤ 11; omega) (And.intro (by show 0 ≤ 0; omega) (by show 0 ≤ 2; omega))))) ?_))
                    rintro z12 m_ h13
                    obtain rfl : τ227 = m_ := h13.2
                    have h14 : 0 ≤ z12 ∧ z12 ≤ 1999 := h13.1
                    refine And.intro (fun h15 => ?_) (fun h15 => ?_)
                    · skip
                      refine B rfl ?_
                      refine Exists.intro (v2, 1) (And.intro rfl (And.intro (And.intro p9 (And.intro (by show 0 ≤ v2; omega) (And.intro (by show v2 ≤ 11; omega) (And.intro (by show 0 ≤ 1; omega) (by show 1 ≤ 2; omega))))) ?_))
                      rintro z16 m_ h17
                      obtain rfl : τ227 = m_ := h17.2
                      have h18 : 0 ≤ z16 ∧ z16 ≤ 1999 := h17.1
                      have lp_257 : ∀ (nq_ : Nat) (v3 : Int) (τ257 : Me_t), (∀ k j : Int, ¬ (k = 96) → τ257 k j = σ k j) → (0 ≤ v3) → (v3 ≤ 2000) → (2000 - v3 : Int).toNat < nq_ → WP_ X G Q 0 0 ad SHS_ τ257 257 [(42, 86), (0, a1), (0, v2), (0, v3), (9, 0)] [] := by
                        intro nq_
                        induction nq_ with
                        | zero => intros; omega
                        | succ nq_ ih_257 =>
                          intro v3 τ257 hf257 hi257_0 hi257_1 hm257
                          refine B rfl ?_
                          have p19 : BW τ257 87 := BW_fr hp0 (fun k j hk => (hf257 _ _ (by omega)))
                          refine Exists.intro (v2, 2) (And.intro rfl (And.intro (And.intro p19 (And.intro (by show 0 ≤ v2; omega) (And.intro (by show v2 ≤ 11; omega) (And.intro (by show 0 ≤ 2; omega) (by show 2 ≤ 2; omega))))) ?_))
                          rintro z20 m_ h21
                          obtain rfl : τ257 = m_ := h21.2
                          have h22 : 0 ≤ z20 ∧ z20 ≤ 1999 := h21.1
                          refine And.intro (fun h23 => ?_) (fun h23 => ?_)
                          · skip
                            refine B rfl ?_
                            refine And.intro (by omega) ?_
                            show WP_ X G Q 0 0 ad SHS_ τ257 227 [(42, 86), (0, a1), (0, v2 + 1), (0, v3), (9, 0)] []
                            refine wdrop_ (L' := [(42, 86), (0, a1), (0, v2 + 1), (9, 0), (9, 0)]) ⟨Or.inr rfl, ⟨Or.inr rfl, ⟨Or.inr rfl, ⟨Or.inl rfl, ⟨Or.inl rfl, trivial⟩⟩⟩⟩⟩ ?_
                            exact ih_227 (v2 + 1) τ257 (fun k j hk => (hf257 _ _ (by omega))) (by show 0 ≤ (v2 + 1); omega) (by show (v2 + 1) ≤ 12; omega) (by omega)
                          · skip
                            show WP_ X G Q 0 0 ad SHS_ τ257 267 [(42, 86), (0, a1), (0, v2), (0, v3), (9, 0)] []
                            refine B rfl ?_
                            refine Exists.intro (a1, v3) (And.intro rfl (And.intro (And.intro (by show 0 ≤ a1; omega) (And.intro (by show a1 ≤ 2; omega) (And.intro (by show 0 ≤ v3; omega) (by show v3 ≤ 1999; omega)))) ?_))
                            rintro z24 m_ h25
                            obtain rfl : τ257 = m_ := h25.2
                            have h26 : z24 = 2000 * a1 + v3 := h25.1
                            have q27 : z24 = 2000 * a1 + v3 := by omega
                            subst q27
                            refine Exists.intro (a1, v3) (And.intro rfl (And.intro (And.intro (by show 0 ≤ a1; omega) (And.intro (by show a1 ≤ 2; omega) (And.intro (by show 0 ≤ v3; omega) (by show v3 ≤ 1999; omega)))) ?_))
                            rintro z28 m_ h29
                            obtain rfl : τ257 = m_ := h29.2
                            have h30 : z28 = 2000 * a1 + v3 := h29.1
                            have q31 : z28 = 2000 * a1 + v3 := by omega
                            subst q31
                            refine And.intro (by omega) ?_
                            intro z32 ez32 hz32
                            have hz32 : (0 : Int) ≤ z32 ∧ z32 ≤ (4 : Int) := hz32
                            try have t33 : τ257 96 (2000 * a1 + v3) = σ 96 (2000 * a1 + v3) := (hf257 _ _ (by omega))
                            refine And.intro (fun h34 => ?_) (fun h34 => ?_)
                            · skip
                              refine B rfl ?_
                              refine Exists.intro (a1, v3) (And.intro rfl (And.intro (And.intro (by show 0 ≤ a1; omega) (And.intro (by show a1 ≤ 2; omega) (And.intro (by show 0 ≤ v3; omega) (by show v3 ≤ 1999; omega)))) ?_))
                              rintro z35 m_ h36
                              obtain rfl : τ257 = m_ := h36.2
                              have h37 : z35 = 2000 * a1 + v3 := h36.1
                              have q38 : z35 = 2000 * a1 + v3 := by omega
                              subst q38
                              refine And.intro (by omega) ?_
                              intro z39 ez39 hz39
                              have q40 : z32 = z39 := ez32.trans ez39.symm
                              subst q40
                              refine And.intro (by omega) ?_
                              refine And.intro (by show (0 : Int) ≤ _ ∧ _ ≤ (4 : Int); omega) ?_
                              intro σ41 e42
                              refine And.intro (by omega) ?_
                              exact ih_257 (v3 + 1) σ41 (fun k j hk => ((ups_r e42 (by omega)).trans (hf257 _ _ (by omega)))) (by show 0 ≤ (v3 + 1); omega) (by show (v3 + 1) ≤ 2000; omega) (by omega)
                            · skip
                              show WP_ X G Q 0 0 ad SHS_ τ257 289 [(42, 86), (0, a1), (0, v2), (0, v3), (9, 0)] [(0, 2000 * a1 + v3), (52, 96)]
                              refine B rfl ?_
                              refine B rfl ?_
                              refine And.intro (by omega) ?_
                              refine And.intro (by show (0 : Int) ≤ _ ∧ _ ≤ (4 : Int); omega) ?_
                              intro σ43 e44
                              refine And.intro (by omega) ?_
                              exact ih_257 (v3 + 1) σ43 (fun k j hk => ((ups_r e44 (by omega)).trans (hf257 _ _ (by omega)))) (by show 0 ≤ (v3 + 1); omega) (by show (v3 + 1) ≤ 2000; omega) (by omega)
                      exact lp_257 ((2000 - z16 : Int).toNat + 1) z16 τ227 (fun k j hk => (hf227 _ _ (by omega))) (by show 0 ≤ z16; omega) (by show z16 ≤ 2000; omega) (by omega)
                    · skip
                      show WP_ X G Q 0 0 ad SHS_ τ227 247 [(42, 86), (0, a1), (0, v2), (9, 0), (9, 0)] []
                      refine B rfl ?_
                      refine B rfl ?_
                      refine And.intro (by omega) ?_
                      exact ih_227 (v2 + 1) τ227 (fun k j hk => (hf227 _ _ (by omega))) (by show 0 ≤ (v2 + 1); omega) (by show (v2 + 1) ≤ 12; omega) (by omega)
              exact lp_227 ((12 - 0 : Int).toNat + 1) 0 τ65 (fun k j hk => (hf65 _ _ (by omega))) (by show 0 ≤ 0; omega) (by show 0 ≤ 12; omega) (by omega)
            · skip
              show WP_ X G Q 0 0 ad SHS_ τ65 75 [(42, 86), (0, a1), (0, v2), (9, 0), (9, 0)] []
              refine B rfl ?_
              refine Exists.intro (v2, 0) (And.intro rfl (And.intro (And.intro p4 (And.intro (by show 0 ≤ v2; omega) (And.intro (by show v2 ≤ 11; omega) (And.intro (by show 0 ≤ 0; omega) (by show 0 ≤ 3; omega))))) ?_))
              rintro z45 m_ h46
              obtain rfl : τ65 = m_ := h46.2.2
              have h47 : 0 ≤ z45 ∧ z45 ≤ 59 := h46.1
              have h48 : z45 ≤ fthi_ 0 := h46.2.1
              refine And.intro (fun h49 => ?_) (fun h49 => ?_)
              · skip
                refine B rfl ?_
                refine Or.inl ?_
                refine Exists.intro a1 (And.intro rfl (And.intro (And.intro p4 (And.intro (by show 0 ≤ a1; omega) (by show a1 ≤ 2; omega))) ?_))
                rintro z50 m_ h51
                obtain rfl : τ65 = m_ := h51.2.2
                have h52 : z50 = τ65 87 (6 + 15 * a1 + 0) := h51.1
                try have t53 : τ65 87 (6 + 15 * a1 + 0) = σ 87 (6 + 15 * a1 + 0) := (hf65 _ _ (by omega))
                have h54 : 0 ≤ z50 ∧ z50 ≤ 999 := h51.2.1
                have lp_95 : ∀ (nq_ : Nat) (v3 : Int) (τ95 : Me_t), (∀ k j : Int, ¬ (k = 96) → τ95 k j = σ k j) → (0 ≤ v3) → (v3 ≤ 2000) → (2000 - v3 : Int).toNat < nq_ → WP_ X G Q 0 0 ad SHS_ τ95 95 [(42, 86), (0, a1), (0, v2), (0, v3), (9, 0)] [] := by
                  intro nq_
                  induction nq_ with
                  | zero => intros; omega
                  | succ nq_ ih_95 =>
                    intro v3 τ95 hf95 hi95_0 hi95_1 hm95
                    refine B rfl ?_
                    refine And.intro (fun h55 => ?_) (fun h55 => ?_)
                    · skip
                      refine B rfl ?_
                      refine And.intro (by omega) ?_
                      show WP_ X G Q 0 0 ad SHS_ τ95 65 [(42, 86), (0, a1), (0, v2 + 1), (0, v3), (9, 0)] []
                      refine wdrop_ (L' := [(42, 86), (0, a1), (0, v2 + 1), (9, 0), (9, 0)]) ⟨Or.inr rfl, ⟨Or.inr rfl, ⟨Or.inr rfl, ⟨Or.inl rfl, ⟨Or.inl rfl, trivial⟩⟩⟩⟩⟩ ?_
                      exact ih_65 (v2 + 1) τ95 (fun k j hk => (hf95 _ _ (by omega))) (by show 0 ≤ (v2 + 1); omega) (by show (v2 + 1) ≤ 12; omega) (by omega)
                    · skip
                      show WP_ X G Q 0 0 ad SHS_ τ95 102 [(42, 86), (0, a1), (0, v2), (0, v3), (9, 0)] []
                      refine B rfl ?_
                      refine Exists.intro (a1, v3) (And.intro rfl (And.intro (And.intro (by show 0 ≤ a1; omega) (And.intro (by show a1 ≤ 2; omega) (And.intro (by show 0 ≤ v3; omega) (by show v3 ≤ 1999; omega)))) ?_))
                      rintro z56 m_ h57
                      obtain rfl : τ95 = m_ := h57.2
                      have h58 : z56 = 2000 * a1 + v3 := h57.1
                      have q59 : z56 = 2000 * a1 + v3 := by omega
                      subst q59
                      refine And.intro (by omega) ?_
                      intro z60 ez60 hz60
                      have hz60 : ((-1) : Int) ≤ z60 ∧ z60 ≤ (7 : Int) := hz60
                      try have t61 : τ95 94 (2000 * a1 + v3) = σ 94 (2000 * a1 + v3) := (hf95 _ _ (by omega))
                      have p62 : BW τ95 87 := BW_fr hp0 (fun k j hk => (hf95 _ _ (by omega)))
                      refine Exists.intro (v2, 1) (And.intro rfl (And.intro (And.intro p62 (And.intro (by show 0 ≤ v2; omega) (And.intro (by show v2 ≤ 11; omega) (And.intro (by show 0 ≤ 1; omega) (by show 1 ≤ 3; omega))))) ?_))
                      rintro z63 m_ h64
                      obtain rfl : τ95 = m_ := h64.2.2
                      have h65 : 0 ≤ z63 ∧ z63 ≤ 59 := h64.1
                      have h66 : z63 ≤ fthi_ 1 := h64.2.1
                      refine And.intro (fun h67 => ?_) (fun h67 => ?_)
                      · skip
                        refine B rfl ?_
                        refine And.intro (by omega) ?_
                        exact ih_95 (v3 + 1) τ95 (fun k j hk => (hf95 _ _ (by omega))) (by show 0 ≤ (v3 + 1); omega) (by show (v3 + 1) ≤ 2000; omega) (by omega)
                      · skip
                        show WP_ X G Q 0 0 ad SHS_ τ95 121 [(42, 86), (0, a1), (0, v2), (0, v3), (9, 0)] []
                        refine B rfl ?_
                        refine Exists.intro (a1, v3) (And.intro rfl (And.intro (And.intro (by show 0 ≤ a1; omega) (And.intro (by show a1 ≤ 2; omega) (And.intro (by show 0 ≤ v3; omega) (by show v3 ≤ 1999; omega)))) ?_))
                        rintro z68 m_ h69
                        obtain rfl : τ95 = m_ := h69.2
                        have h70 : z68 = 2000 * a1 + v3 := h69.1
                        have q71 : z68 = 2000 * a1 + v3 := by omega
                        subst q71
                        refine And.intro (by omega) ?_
                        intro z72 ez72 hz72
                        have hz72 : ((-1) : Int) ≤ z72 ∧ z72 ≤ (68 : Int) := hz72
                        try have t73 : τ95 95 (2000 * a1 + v3) = σ 95 (2000 * a1 + v3) := (hf95 _ _ (by omega))
                        refine Exists.intro (v2, 2) (And.intro rfl (And.intro (And.intro p62 (And.intro (by show 0 ≤ v2; omega) (And.intro (by show v2 ≤ 11; omega) (And.intro (by show 0 ≤ 2; omega) (by show 2 ≤ 3; omega))))) ?_))
                        rintro z74 m_ h75
                        obtain rfl : τ95 = m_ := h75.2.2
                        have h76 : 0 ≤ z74 ∧ z74 ≤ 59 := h75.1
                        have h77 : z74 ≤ fthi_ 2 := h75.2.1
                        refine And.intro (fun h78 => ?_) (fun h78 => ?_)
                        · skip
                          refine B rfl ?_
                          have lp_146 : ∀ (nq_ : Nat) (v4 : Int) (τ146 : Me_t), (∀ k j : Int, ¬ (k = 96) → τ146 k j = σ k j) → (0 ≤ v4) → (v4 ≤ 2000) → (2000 - v4 : Int).toNat < nq_ → WP_ X G Q 0 0 ad SHS_ τ146 146 [(42, 86), (0, a1), (0, v2), (0, v3), (0, v4)] [] := by
                            intro nq_
                            induction nq_ with
                            | zero => intros; omega
                            | succ nq_ ih_146 =>
                              intro v4 τ146 hf146 hi146_0 hi146_1 hm146
                              refine B rfl ?_
                              have p79 : BW τ146 87 := BW_fr hp0 (fun k j hk => (hf146 _ _ (by omega)))
                              refine Exists.intro (v2, 3) (And.intro rfl (And.intro (And.intro p79 (And.intro (by show 0 ≤ v2; omega) (And.intro (by show v2 ≤ 11; omega) (And.intro (by show 0 ≤ 3; omega) (by show 3 ≤ 3; omega))))) ?_))
                              rintro z80 m_ h81
                              obtain rfl : τ146 = m_ := h81.2.2
                              have h82 : 0 ≤ z80 ∧ z80 ≤ 59 := h81.1
                              have h83 : z80 ≤ fthi_ 3 := h81.2.1
                              refine And.intro (by omega) ?_
                              refine And.intro (fun h84 => ?_) (fun h84 => ?_)
                              · skip
                                refine B rfl ?_
                                refine And.intro (by omega) ?_
                                show WP_ X G Q 0 0 ad SHS_ τ146 95 [(42, 86), (0, a1), (0, v2), (0, v3 + 1), (0, v4)] []
                                refine wdrop_ (L' := [(42, 86), (0, a1), (0, v2), (0, v3 + 1), (9, 0)]) ⟨Or.inr rfl, ⟨Or.inr rfl, ⟨Or.inr rfl, ⟨Or.inr rfl, ⟨Or.inl rfl, trivial⟩⟩⟩⟩⟩ ?_
                                exact ih_95 (v3 + 1) τ146 (fun k j hk => (hf146 _ _ (by omega))) (by show 0 ≤ (v3 + 1); omega) (by show (v3 + 1) ≤ 2000; omega) (by omega)
                              · skip
                                show WP_ X G Q 0 0 ad SHS_ τ146 159 [(42, 86), (0, a1), (0, v2), (0, v3), (0, v4)] []
                                refine B rfl ?_
                                refine And.intro (fun h85 => ?_) (fun h85 => ?_)
                                · skip
                                  refine B rfl ?_
                                  refine And.intro (by omega) ?_
                                  show WP_ X G Q 0 0 ad SHS_ τ146 95 [(42, 86), (0, a1), (0, v2), (0, v3 + 1), (0, v4)] []
                                  refine wdrop_ (L' := [(42, 86), (0, a1), (0, v2), (0, v3 + 1), (9, 0)]) ⟨Or.inr rfl, ⟨Or.inr rfl, ⟨Or.inr rfl, ⟨Or.inr rfl, ⟨Or.inl rfl, trivial⟩⟩⟩⟩⟩ ?_
                                  exact ih_95 (v3 + 1) τ146 (fun k j hk => (hf146 _ _ (by omega))) (by show 0 ≤ (v3 + 1); omega) (by show (v3 + 1) ≤ 2000; omega) (by omega)
                                · skip
                                  show WP_ X G Q 0 0 ad SHS_ τ146 167 [(42, 86), (0, a1), (0, v2), (0, v3), (0, v4)] []
                                  refine B rfl ?_
                                  refine Exists.intro (a1, v4) (And.intro rfl (And.intro (And.intro (by show 0 ≤ a1; omega) (And.intro (by show a1 ≤ 2; omega) (And.intro (by show 0 ≤ v4; omega) (by show v4 ≤ 1999; omega)))) ?_))
                                  rintro z86 m_ h87
                                  obtain rfl : τ146 = m_ := h87.2
                                  have h88 : z86 = 2000 * a1 + v4 := h87.1
                                  have q89 : z86 = 2000 * a1 + v4 := by omega
                                  subst q89
                                  refine Exists.intro (a1, v4) (And.intro rfl (And.intro (And.intro (by show 0 ≤ a1; omega) (And.intro (by show a1 ≤ 2; omega) (And.intro (by show 0 ≤ v4; omega) (by show v4 ≤ 1999; omega)))) ?_))
                                  rintro z90 m_ h91
                                  obtain rfl : τ146 = m_ := h91.2
                                  have h92 : z90 = 2000 * a1 + v4 := h91.1
                                  have q93 : z90 = 2000 * a1 + v4 := by omega
                                  subst q93
                                  refine And.intro (by omega) ?_
                                  intro z94 ez94 hz94
                                  have hz94 : (0 : Int) ≤ z94 ∧ z94 ≤ (4 : Int) := hz94
                                  try have t95 : τ146 96 (2000 * a1 + v4) = σ 96 (2000 * a1 + v4) := (hf146 _ _ (by omega))
                                  refine And.intro (fun h96 => ?_) (fun h96 => ?_)
                                  · skip
                                    refine B rfl ?_
                                    refine Exists.intro (a1, v4) (And.intro rfl (And.intro (And.intro (by show 0 ≤ a1; omega) (And.intro (by show a1 ≤ 2; omega) (And.intro (by show 0 ≤ v4; omega) (by show v4 ≤ 1999; omega)))) ?_))
                                    rintro z97 m_ h98
                                    obtain rfl : τ146 = m_ := h98.2
                                    have h99 : z97 = 2000 * a1 + v4 := h98.1
                                    have q100 : z97 = 2000 * a1 + v4 := by omega
                                    subst q100
                                    refine And.intro (by omega) ?_
                                    intro z101 ez101 hz101
                                    have q102 : z94 = z101 := ez94.trans ez101.symm
                                    subst q102
                                    refine And.intro (by omega) ?_
                                    refine And.intro (by show (0 : Int) ≤ _ ∧ _ ≤ (4 : Int); omega) ?_
                                    intro σ103 e104
                                    refine And.intro (by omega) ?_
                                    exact ih_146 (v4 + 1) σ103 (fun k j hk => ((ups_r e104 (by omega)).trans (hf146 _ _ (by omega)))) (by show 0 ≤ (v4 + 1); omega) (by show (v4 + 1) ≤ 2000; omega) (by omega)
                                  · skip
                                    show WP_ X G Q 0 0 ad SHS_ τ146 191 [(42, 86), (0, a1), (0, v2), (0, v3), (0, v4)] [(0, 2000 * a1 + v4), (52, 96)]
                                    refine B rfl ?_
                                    refine B rfl ?_
                                    refine And.intro (by omega) ?_
                                    refine And.intro (by show (0 : Int) ≤ _ ∧ _ ≤ (4 : Int); omega) ?_
                                    intro σ105 e106
                                    refine And.intro (by omega) ?_
                                    exact ih_146 (v4 + 1) σ105 (fun k j hk => ((ups_r e106 (by omega)).trans (hf146 _ _ (by omega)))) (by show 0 ≤ (v4 + 1); omega) (by show (v4 + 1) ≤ 2000; omega) (by omega)
                          exact lp_146 ((2000 - v3 : Int).toNat + 1) v3 τ95 (fun k j hk => (hf95 _ _ (by omega))) (by show 0 ≤ v3; omega) (by show v3 ≤ 2000; omega) (by omega)
                        · skip
                          show WP_ X G Q 0 0 ad SHS_ τ95 140 [(42, 86), (0, a1), (0, v2), (0, v3), (9, 0)] []
                          refine B rfl ?_
                          refine B rfl ?_
                          refine And.intro (by omega) ?_
                          exact ih_95 (v3 + 1) τ95 (fun k j hk => (hf95 _ _ (by omega))) (by show 0 ≤ (v3 + 1); omega) (by show (v3 + 1) ≤ 2000; omega) (by omega)
                exact lp_95 ((2000 - z50 : Int).toNat + 1) z50 τ65 (fun k j hk => (hf65 _ _ (by omega))) (by show 0 ≤ z50; omega) (by show z50 ≤ 2000; omega) (by omega)
              · skip
                show WP_ X G Q 0 0 ad SHS_ τ65 85 [(42, 86), (0, a1), (0, v2), (9, 0), (9, 0)] []
                refine B rfl ?_
                refine B rfl ?_
                refine And.intro (by omega) ?_
                exact ih_65 (v2 + 1) τ65 (fun k j hk => (hf65 _ _ (by omega))) (by show 0 ≤ (v2 + 1); omega) (by show (v2 + 1) ≤ 12; omega) (by omega)
        exact lp_65 ((12 - 0 : Int).toNat + 1) 0 τ2 (fun k j hk => (hf2 _ _ (by omega))) (by show 0 ≤ 0; omega) (by show 0 ≤ 12; omega) (by omega)
      · skip
        show WP_ X G Q 0 0 ad SHS_ τ2 9 [(42, 86), (0, a1), (0, v2), (9, 0), (9, 0)] []
        refine B rfl ?_
        refine Exists.intro (a1, v2) (And.intro rfl (And.intro (And.intro (by show 0 ≤ a1; omega) (And.intro (by show a1 ≤ 2; omega) (And.intro (by show 0 ≤ v2; omega) (by show v2 ≤ 1999; omega)))) ?_))
        rintro z107 m_ h108
        obtain rfl : τ2 = m_ := h108.2
        have h109 : z107 = 2000 * a1 + v2 := h108.1
        have q110 : z107 = 2000 * a1 + v2 := by omega
        subst q110
        have p111 : BW τ2 87 := BW_fr hp0 (fun k j hk => (hf2 _ _ (by omega)))
        refine Or.inl ?_
        refine Exists.intro a1 (And.intro rfl (And.intro (And.intro p111 (And.intro (by show 0 ≤ a1; omega) (by show a1 ≤ 2; omega))) ?_))
        rintro z112 m_ h113
        obtain rfl : τ2 = m_ := h113.2.2
        have h114 : z112 = τ2 87 (6 + 15 * a1 + 0) := h113.1
        try have t115 : τ2 87 (6 + 15 * a1 + 0) = σ 87 (6 + 15 * a1 + 0) := (hf2 _ _ (by omega))
        have h116 : 0 ≤ z112 ∧ z112 ≤ 999 := h113.2.1
        refine And.intro (fun h117 => ?_) (fun h117 => ?_)
        · skip
          refine B rfl ?_
          refine Or.inr ?_
          refine Exists.intro a1 (And.intro rfl (And.intro (And.intro p111 (And.intro (by show 0 ≤ a1; omega) (by show a1 ≤ 2; omega))) ?_))
          rintro z118 m_ h119
          obtain rfl : τ2 = m_ := h119.2.2
          have h120 : z118 = τ2 87 (6 + 15 * a1 + 2) := h119.1
          try have t121 : τ2 87 (6 + 15 * a1 + 2) = σ 87 (6 + 15 * a1 + 2) := (hf2 _ _ (by omega))
          have h122 : 0 ≤ z118 ∧ z118 ≤ 1022 := h119.2.1
          try have t123 : τ2 87 (6 + 15 * a1 + 1) = σ 87 (6 + 15 * a1 + 1) := (hf2 _ _ (by omega))
          refine Exists.intro (a1, v2) (And.intro rfl (And.intro (And.intro p111 (And.intro (by show 0 ≤ a1; omega) (And.intro (by show a1 ≤ 2; omega) (And.intro (by show 1 ≤ τ2 87 (6 + 15 * a1 + 1); omega) (And.intro (by show 0 ≤ v2; omega) (by show v2 ≤ 10000; omega)))))) ?_))
          rintro z124 m_ h125
          obtain rfl : τ2 = m_ := h125.2
          have h126 : -1 ≤ z124 ∧ z124 ≤ 9 := h125.1
          refine Exists.intro (z118, z124) (And.intro rfl (And.intro True.intro ?_))
          rintro z127 m_ h128
          obtain rfl : τ2 = m_ := h128.2
          have h129 : 0 ≤ z127 ∧ z127 ≤ 1 := h128.1
          refine And.intro (fun h130 => ?_) (fun h130 => ?_)
          · skip
            refine B rfl ?_
            refine And.intro (by omega) ?_
            refine And.intro (by show (0 : Int) ≤ _ ∧ _ ≤ (4 : Int); omega) ?_
            intro σ131 e132
            refine And.intro (by omega) ?_
            exact ih_2 (v2 + 1) σ131 (fun k j hk => ((ups_r e132 (by omega)).trans (hf2 _ _ (by omega)))) (by show 0 ≤ (v2 + 1); omega) (by show (v2 + 1) ≤ 2000; omega) (by omega)
          · skip
            show WP_ X G Q 0 0 ad SHS_ τ2 51 [(42, 86), (0, a1), (0, v2), (9, 0), (9, 0)] [(0, 2000 * a1 + v2), (52, 96)]
            refine B rfl ?_
            refine B rfl ?_
            refine And.intro (by omega) ?_
            refine And.intro (by show (0 : Int) ≤ _ ∧ _ ≤ (4 : Int); omega) ?_
            intro σ133 e134
            refine And.intro (by omega) ?_
            exact ih_2 (v2 + 1) σ133 (fun k j hk => ((ups_r e134 (by omega)).trans (hf2 _ _ (by omega)))) (by show 0 ≤ (v2 + 1); omega) (by show (v2 + 1) ≤ 2000; omega) (by omega)
        · skip
          show WP_ X G Q 0 0 ad SHS_ τ2 28 [(42, 86), (0, a1), (0, v2), (9, 0), (9, 0)] [(0, 2000 * a1 + v2), (52, 96)]
          refine B rfl ?_
          refine B rfl ?_
          refine And.intro (by omega) ?_
          refine And.intro (by show (0 : Int) ≤ _ ∧ _ ≤ (4 : Int); omega) ?_
          intro σ135 e136
          refine And.intro (by omega) ?_
          exact ih_2 (v2 + 1) σ135 (fun k j hk => ((ups_r e136 (by omega)).trans (hf2 _ _ (by omega)))) (by show 0 ≤ (v2 + 1); omega) (by show (v2 + 1) ≤ 2000; omega) (by omega)
  exact lp_2 ((2000 - 0 : Int).toNat + 1) 0 σ (fun k j hk => rfl) (by show 0 ≤ 0; omega) (by show 0 ≤ 2000; omega) (by omega)
def as_G_X11_lay : Unit → List Sv_t := fun a => [(42, 86)]
def pre_G_X11_lay : Unit → Me_t → Prop := fun a σ => (MI σ)
def post_G_X11_lay : Unit → Me_t → Int → Me_t → Prop := fun a σ z σ' => (LY σ') ∧ (∀ k j : Int, ¬ (93 ≤ k ∧ k ≤ 96) → σ' k j = σ k j)
set_option maxHeartbeats 1500000 in
set_option maxRecDepth 100000 in
theorem ct_G_X11_lay (l : Launch) : CT_ l yX11_lay cX11_lay 2 none 3 71 as_G_X11_lay (rmV_) pre_G_X11_lay post_G_X11_lay := by
  refine ct_of (by decide) (fun _ => Nat.le_of_ble_eq_true rfl) ?_
  intro X G Q ad σ a hl hR E hG R hM hv hp
  have hp0 : MI σ := hp
  have B := @bk_ X G Q 0 0 ad SHS_ RX11 cX11_lay 2 none flX11 plX11 knX11 [(496, 2, TR_ as_G_X11_layDates (rmV_) pre_G_X11_layDates post_G_X11_layDates), (502, 2, TR_ as_G_X11_layWhy (rmV_) pre_G_X11_layWhy post_G_X11_layWhy)] _ _ none kX11_lay [2] flX11_ok plX11_ok knX11_ok eX11_lay oX11_lay
    (List.forall_mem_cons.mpr ⟨cok_v (t := 32) (c := 11) (N := 39) (n := 1) (idx := 248) E (ct_G_X11_layDates X.2.1) (by rw [hR]; decide) (Nat.zero_le _) (Nat.zero_le _) hG rfl rfl ⟨rfl, by decide, by decide, by decide⟩ (fun _ => ⟨_, _, rfl, rfl⟩) wl_X11_248 wi_X11_layDates ws_X11_layDates wn_X11 wc_X11_layDates, List.forall_mem_cons.mpr ⟨cok_v (t := 32) (c := 11) (N := 39) (n := 1) (idx := 251) E (ct_G_X11_layWhy X.2.1) (by rw [hR]; decide) (Nat.zero_le _) (Nat.zero_le _) hG rfl rfl ⟨rfl, by decide, by decide, by decide⟩ (fun _ => ⟨_, _, rfl, rfl⟩) wl_X11_251 wi_X11_layWhy ws_X11_layWhy wn_X11 wc_X11_layWhy, fun _ h => absurd h List.not_mem_nil⟩⟩) R sok_no E
  show WP_ X G Q 0 0 ad SHS_ σ 0 [(42, 86), (9, 0)] []
  refine B rfl ?_
  have lp_2 : ∀ (nq_ : Nat) (v1 : Int) (τ2 : Me_t), (∀ k j : Int, ¬ (93 ≤ k ∧ k ≤ 96) → τ2 k j = σ k j) → (0 ≤ v1) → (v1 ≤ 3) → (∀ l d : Int, 0 ≤ l → l < v1 → σ 87 (6 + 15 * l + 0) ≤ d → d < 2000 → 0 ≤ τ2 95 (2000 * l + d)) → (3 - v1 : Int).toNat < nq_ → WP_ X G Q 0 0 ad SHS_ τ2 2 [(42, 86), (0, v1)] [] := by
    intro nq_
    induction nq_ with
    | zero => intros; omega
    | succ nq_ ih_2 =>
      intro v1 τ2 hf2 hi2_0 hi2_1 hi2_2 hm2
      refine B rfl ?_
      refine And.intro (by omega) ?_
      intro z1 ez1 hz1
      have hz1 : ((-1) : Int) ≤ z1 ∧ z1 ≤ (1999 : Int) := hz1
      try have t2 : τ2 87 1 = σ 87 1 := (hf2 _ _ (by omega))
      have p3 : MI τ2 := MI_fr hp0 (fun k j hk => (hf2 _ _ (by omega)))
      have p4 : BW τ2 87 := (p3).1.1
      have b5 := wrh_ p4 (i := 1) (by omega)
      have b5 : (0 : Int) ≤ τ2 87 1 ∧ τ2 87 1 ≤ (3 : Int) := b5
      refine And.intro (fun h6 => ?_) (fun h6 => ?_)
      · skip
        refine B rfl ?_
        refine Exists.intro 0 (And.intro rfl ?_)
        exact (And.intro (by show LY τ2; intro l d h0 h1 h2 h3 h4; rw [show τ2 87 1 = σ 87 1 from (hf2 _ _ (by omega))] at h2; rw [show τ2 87 (6 + 15 * l + 0) = σ 87 (6 + 15 * l + 0) from (hf2 _ _ (by omega))] at h3; exact hi2_2 l d h0 (by omega) h3 h4) (fun k j hk => (hf2 _ _ (by omega))))
      · skip
        have p7 : SW τ2 87 := (p3).1.2.1
        try have t8 : τ2 87 (6 + 15 * v1 + 1) = σ 87 (6 + 15 * v1 + 1) := (hf2 _ _ (by omega))
        try have t9 : τ2 87 (6 + 15 * v1 + 3) = σ 87 (6 + 15 * v1 + 3) := (hf2 _ _ (by omega))
        have hsw := p7 v1 (by omega) (by omega) (by omega)
        refine Exists.intro v1 (And.intro rfl (And.intro (And.intro p4 (And.intro (by show 0 ≤ v1; omega) (And.intro (by show v1 ≤ 2; omega) (by show 1 ≤ τ2 87 (6 + 15 * v1 + 3); omega)))) ?_))
        intro z10 σ12 h11
        have f13 : ∀ k j : Int, ¬ (93 ≤ k ∧ k ≤ 95) → σ12 k j = τ2 k j := h11.2.2
        have h14 : ∀ d : Int, τ2 87 (6 + 15 * v1 + 0) ≤ d → d < 2000 → 0 ≤ σ12 95 (2000 * v1 + d) := h11.1
        have h15 : ∀ j : Int, ¬ (2000 * v1 ≤ j ∧ j < 2000 * v1 + 2000) → σ12 95 j = τ2 95 j := h11.2.1
        have hld := h11.1
        have hlo := h11.2.1
        try dsimp only at hld hlo
        have p16 : SW σ12 87 := SW_fr p7 (fun k j hk => (show σ12 k j = τ2 k j from by first | exact f13 _ _ (by omega) | exact h15 _ (by omega) | (by_cases hka : k = 95; (rw [hka]; exact h15 _ (by omega)); exact f13 _ _ (by omega))))
        try have t17 : σ12 87 (6 + 15 * v1 + 1) = τ2 87 (6 + 15 * v1 + 1) := (show σ12 87 (6 + 15 * v1 + 1) = τ2 87 (6 + 15 * v1 + 1) from by first | exact f13 _ _ (by omega) | exact h15 _ (by omega))
        try have t18 : σ12 87 (6 + 15 * v1 + 3) = τ2 87 (6 + 15 * v1 + 3) := (show σ12 87 (6 + 15 * v1 + 3) = τ2 87 (6 + 15 * v1 + 3) from by first | exact f13 _ _ (by omega) | exact h15 _ (by omega))
        try have t19 : σ12 87 1 = τ2 87 1 := (show σ12 87 1 = τ2 87 1 from by first | exact f13 _ _ (by omega) | exact h15 _ (by omega))
        have hsw := p16 v1 (by omega) (by omega) (by omega)
        have p20 : BW σ12 87 := BW_fr p4 (fun k j hk => (show σ12 k j = τ2 k j from by first | exact f13 _ _ (by omega) | exact h15 _ (by omega) | (by_cases hka : k = 95; (rw [hka]; exact h15 _ (by omega)); exact f13 _ _ (by omega))))
        refine Exists.intro v1 (And.intro rfl (And.intro (And.intro p20 (And.intro (by show 0 ≤ v1; omega) (And.intro (by show v1 ≤ 2; omega) (by show 1 ≤ σ12 87 (6 + 15 * v1 + 1); omega)))) ?_))
        intro z21 σ23 h22
        have f24 : ∀ k j : Int, ¬ (k = 96) → σ23 k j = σ12 k j := h22
        refine And.intro (by omega) ?_
        try have t25 : σ23 95 (2000 * l + d) = σ 95 (2000 * l + d) := ((f24 _ _ (by omega)).trans ((show σ12 95 (2000 * l + d) = τ2 95 (2000 * l + d) from by first | exact f13 _ _ (by omega) | exact h15 _ (by omega)).trans (hf2 _ _ (by omega))))
        exact ih_2 (v1 + 1) σ23 (fun k j hk => ((f24 _ _ (by omega)).trans ((show σ12 k j = τ2 k j from by first | exact f13 _ _ (by omega) | exact h15 _ (by omega) | (by_cases hka : k = 95; (rw [hka]; exact h15 _ (by omega)); exact f13 _ _ (by omega))).trans (hf2 _ _ (by omega))))) (by show 0 ≤ (v1 + 1); omega) (by show (v1 + 1) ≤ 3; omega) (by show ∀ l d : Int, 0 ≤ l → l < (v1 + 1) → σ 87 (6 + 15 * l + 0) ≤ d → d < 2000 → 0 ≤ σ23 95 (2000 * l + d); intro l d h0 h1 h2 h3; by_cases hj : l = v1; rw [hj] at h2 ⊢; rw [show σ23 95 (2000 * v1 + d) = σ12 95 (2000 * v1 + d) from (f24 _ _ (by omega))]; exact hld d (by rw [show τ2 87 (6 + 15 * v1 + 0) = σ 87 (6 + 15 * v1 + 0) from hf2 _ _ (by omega)]; exact h2) h3; rw [show σ23 95 (2000 * l + d) = σ12 95 (2000 * l + d) from (f24 _ _ (by omega)), hlo (2000 * l + d) (by omega)]; exact hi2_2 l d h0 (by omega) h2 h3) (by omega)
  exact lp_2 ((3 - 0 : Int).toNat + 1) 0 σ (fun k j hk => rfl) (by show 0 ≤ 0; omega) (by show 0 ≤ 3; omega) (by show ∀ l d : Int, 0 ≤ l → l < 0 → σ 87 (6 + 15 * l + 0) ≤ d → d < 2000 → 0 ≤ σ 95 (2000 * l + d); intro l d h0 h1; omega) (by omega)
def as_G_X11_mayOn : Int × Int → List Sv_t := fun a => [(42, 86), (0, a.1), (0, a.2)]
def pre_G_X11_mayOn : Int × Int → Me_t → Prop := fun a σ => (0 ≤ a.1) ∧ (a.1 ≤ 2) ∧ (0 ≤ a.2) ∧ (a.2 ≤ 1999)
def post_G_X11_mayOn : Int × Int → Me_t → Int → Me_t → Prop := fun a σ z σ' => ((z = 1 ∧ σ 96 (2000 * a.1 + a.2) = 0) ∨ (z = 0 ∧ σ 96 (2000 * a.1 + a.2) ≠ 0)) ∧ (σ = σ')
set_option maxHeartbeats 1500000 in
set_option maxRecDepth 100000 in
theorem ct_G_X11_mayOn (l : Launch) : CT_ l yX11_mayOn cX11_mayOn 3 (some .boolean) 1 21 as_G_X11_mayOn (rmI_) pre_G_X11_mayOn post_G_X11_mayOn := by
  refine ct_of (by decide) (fun _ => Nat.le_of_ble_eq_true rfl) ?_
  intro X G Q ad σ a hl hR E hG R hM hv hp
  obtain ⟨a1, a2⟩ := a
  have r_a1 : -2147483648 ≤ a1 ∧ a1 ≤ 2147483647 := hv (0, a1) (List.mem_of_getElem? (i := 1) rfl)
  have r_a2 : -2147483648 ≤ a2 ∧ a2 ≤ 2147483647 := hv (0, a2) (List.mem_of_getElem? (i := 2) rfl)
  have hp0 : 0 ≤ a1 := hp.1
  have hp1 : a1 ≤ 2 := hp.2.1
  have hp2 : 0 ≤ a2 := hp.2.2.1
  have hp3 : a2 ≤ 1999 := hp.2.2.2
  have B := @bk_ X G Q 0 0 ad SHS_ RX11 cX11_mayOn 3 (some .boolean) flX11 plX11 knX11 [(467, 2, TR_ as_G_X11_spot (rmI_) pre_G_X11_spot post_G_X11_spot)] _ _ none kX11_mayOn [] flX11_ok plX11_ok knX11_ok eX11_mayOn oX11_mayOn
    (List.forall_mem_cons.mpr ⟨cok_s (n := 2) (idx := 233) E (ct_G_X11_spot X.2.1) (by rw [hR]; decide) (Nat.zero_le _) (Nat.zero_le _) hG ⟨by decide, by decide, by decide⟩ (fun _ => rfl) wl_X11_233 wt_X11_spot wn_X11 wc_X11_spot, fun _ h => absurd h List.not_mem_nil⟩) R sok_no E
  show WP_ X G Q 0 0 ad SHS_ σ 0 [(42, 86), (0, a1), (0, a2)] []
  refine B rfl ?_
  refine Exists.intro (a1, a2) (And.intro rfl (And.intro (And.intro (by show 0 ≤ a1; omega) (And.intro (by show a1 ≤ 2; omega) (And.intro (by show 0 ≤ a2; omega) (by show a2 ≤ 1999; omega)))) ?_))
  rintro z1 m_ h2
  obtain rfl : σ = m_ := h2.2
  have h3 : z1 = 2000 * a1 + a2 := h2.1
  have q4 : z1 = 2000 * a1 + a2 := by omega
  subst q4
  refine And.intro (by omega) ?_
  intro z5 ez5 hz5
  have hz5 : (0 : Int) ≤ z5 ∧ z5 ≤ (4 : Int) := hz5
  refine And.intro (fun h6 => ?_) (fun h6 => ?_)
  · skip
    refine B rfl ?_
    refine And.intro (by omega) ?_
    refine Exists.intro _ (And.intro rfl ?_)
    exact (And.intro (by show (0 = 1 ∧ σ 96 (2000 * a1 + a2) = 0) ∨ (0 = 0 ∧ σ 96 (2000 * a1 + a2) ≠ 0); omega) rfl)
  · skip
    refine B rfl ?_
    refine And.intro (by omega) ?_
    refine Exists.intro _ (And.intro rfl ?_)
    exact (And.intro (by show (1 = 1 ∧ σ 96 (2000 * a1 + a2) = 0) ∨ (1 = 0 ∧ σ 96 (2000 * a1 + a2) ≠ 0); omega) rfl)
def as_G_X11_whoOn : Int → List Sv_t := fun a => [(42, 86), (0, a)]
def pre_G_X11_whoOn : Int → Me_t → Prop := fun a σ => (BW σ 87) ∧ (0 ≤ a) ∧ (a ≤ 1999)
def post_G_X11_whoOn : Int → Me_t → Int → Me_t → Prop := fun a σ z σ' => (σ = σ')
set_option maxHeartbeats 1500000 in
set_option maxRecDepth 100000 in
theorem ct_G_X11_whoOn (l : Launch) : CT_ l yX11_whoOn cX11_whoOn 4 (some .int) 2 43 as_G_X11_whoOn (rmI_) pre_G_X11_whoOn post_G_X11_whoOn := by
  refine ct_of (by decide) (fun _ => Nat.le_of_ble_eq_true rfl) ?_
  intro X G Q ad σ a hl hR E hG R hM hv hp
  obtain ⟨a1, rfl⟩ : ∃ q : Int, q = a := ⟨_, rfl⟩
  have r_a1 : -2147483648 ≤ a1 ∧ a1 ≤ 2147483647 := hv (0, a1) (List.mem_of_getElem? (i := 1) rfl)
  have hp0 : BW σ 87 := hp.1
  have hp1 : 0 ≤ a1 := hp.2.1
  have hp2 : a1 ≤ 1999 := hp.2.2
  have B := @bk_ X G Q 0 0 ad SHS_ RX11 cX11_whoOn 4 (some .int) flX11 plX11 knX11 [(508, 3, TR_ as_G_X11_mayOn (rmI_) pre_G_X11_mayOn post_G_X11_mayOn)] _ _ none kX11_whoOn [4] flX11_ok plX11_ok knX11_ok eX11_whoOn oX11_whoOn
    (List.forall_mem_cons.mpr ⟨cok_v (t := 32) (c := 11) (N := 39) (n := 2) (idx := 254) E (ct_G_X11_mayOn X.2.1) (by rw [hR]; decide) (Nat.zero_le _) (Nat.zero_le _) hG rfl rfl ⟨rfl, by decide, by decide, by decide⟩ (fun _ => ⟨_, _, rfl, rfl⟩) wl_X11_254 wi_X11_mayOn ws_X11_mayOn wn_X11 wc_X11_mayOn, fun _ h => absurd h List.not_mem_nil⟩) R sok_no E
  show WP_ X G Q 0 0 ad SHS_ σ 0 [(42, 86), (0, a1), (9, 0), (9, 0)] []
  refine B rfl ?_
  have lp_4 : ∀ (nq_ : Nat) (v2 : Int) (v3 : Int), (0 ≤ v3) → (v3 ≤ 3) → (3 - v3 : Int).toNat < nq_ → WP_ X G Q 0 0 ad SHS_ σ 4 [(42, 86), (0, a1), (0, v2), (0, v3)] [] := by
    intro nq_
    induction nq_ with
    | zero => intros; omega
    | succ nq_ ih_4 =>
      intro v2 v3 hi4_0 hi4_1 hm4
      refine B rfl ?_
      refine And.intro (by omega) ?_
      intro z1 ez1 hz1
      have hz1 : ((-1) : Int) ≤ z1 ∧ z1 ≤ (1999 : Int) := hz1
      have b2 := wrh_ hp0 (i := 1) (by omega)
      have b2 : (0 : Int) ≤ σ 87 1 ∧ σ 87 1 ≤ (3 : Int) := b2
      refine And.intro (fun h3 => ?_) (fun h3 => ?_)
      · skip
        refine B rfl ?_
        refine Exists.intro _ (And.intro rfl ?_)
        exact rfl
      · skip
        refine Exists.intro (v3, a1) (And.intro rfl (And.intro (And.intro (by show 0 ≤ v3; omega) (And.intro (by show v3 ≤ 2; omega) (And.intro (by show 0 ≤ a1; omega) (by show a1 ≤ 1999; omega)))) ?_))
        rintro z4 m_ h5
        obtain rfl : σ = m_ := h5.2
        have h6 : (z4 = 1 ∧ σ 96 (2000 * v3 + a1) = 0) ∨ (z4 = 0 ∧ σ 96 (2000 * v3 + a1) ≠ 0) := h5.1
        refine And.intro (fun h7 => ?_) (fun h7 => ?_)
        · skip
          refine B rfl ?_
          refine And.intro (by omega) ?_
          exact ih_4 (or3_ v2 0) (v3 + 1) (by show 0 ≤ (v3 + 1); omega) (by show (v3 + 1) ≤ 3; omega) (by omega)
        · skip
          try have q8 := shl3_1 (b := v3) (by omega) (by omega)
          try have q9 := shl3_b (b := v3) (by omega) (by omega)
          refine B rfl ?_
          refine And.intro (by omega) ?_
          exact ih_4 (or3_ v2 (shl3_ 1 v3)) (v3 + 1) (by show 0 ≤ (v3 + 1); omega) (by show (v3 + 1) ≤ 3; omega) (by omega)
  exact lp_4 ((3 - 0 : Int).toNat + 1) 0 0 (by show 0 ≤ 0; omega) (by show 0 ≤ 3; omega) (by omega)
def as_G_X11_mayAll : Int × Int → List Sv_t := fun a => [(42, 86), (0, a.1), (0, a.2)]
def pre_G_X11_mayAll : Int × Int → Me_t → Prop := fun a σ => (BW σ 87) ∧ (0 ≤ a.2) ∧ (a.2 ≤ 1999)
def post_G_X11_mayAll : Int × Int → Me_t → Int → Me_t → Prop := fun a σ z σ' => (0 ≤ z ∧ z ≤ 1) ∧ (σ = σ')
set_option maxHeartbeats 1500000 in
set_option maxRecDepth 100000 in
theorem ct_G_X11_mayAll (l : Launch) : CT_ l yX11_mayAll cX11_mayAll 3 (some .boolean) 3 66 as_G_X11_mayAll (rmI_) pre_G_X11_mayAll post_G_X11_mayAll := by
  refine ct_of (by decide) (fun _ => Nat.le_of_ble_eq_true rfl) ?_
  intro X G Q ad σ a hl hR E hG R hM hv hp
  obtain ⟨a1, a2⟩ := a
  have r_a1 : -2147483648 ≤ a1 ∧ a1 ≤ 2147483647 := hv (0, a1) (List.mem_of_getElem? (i := 1) rfl)
  have r_a2 : -2147483648 ≤ a2 ∧ a2 ≤ 2147483647 := hv (0, a2) (List.mem_of_getElem? (i := 2) rfl)
  have hp0 : BW σ 87 := hp.1
  have hp1 : 0 ≤ a2 := hp.2.1
  have hp2 : a2 ≤ 1999 := hp.2.2
  have B := @bk_ X G Q 0 0 ad SHS_ RX11 cX11_mayAll 3 (some .boolean) flX11 plX11 knX11 [(572, 2, TR_ as_G_X11_whoOn (rmI_) pre_G_X11_whoOn post_G_X11_whoOn)] _ _ none kX11_mayAll [] flX11_ok plX11_ok knX11_ok eX11_mayAll oX11_mayAll
    (List.forall_mem_cons.mpr ⟨cok_v (t := 32) (c := 11) (N := 39) (n := 1) (idx := 286) E (ct_G_X11_whoOn X.2.1) (by rw [hR]; decide) (Nat.zero_le _) (Nat.zero_le _) hG rfl rfl ⟨rfl, by decide, by decide, by decide⟩ (fun _ => ⟨_, _, rfl, rfl⟩) wl_X11_286 wi_X11_whoOn ws_X11_whoOn wn_X11 wc_X11_whoOn, fun _ h => absurd h List.not_mem_nil⟩) R sok_no E
  show WP_ X G Q 0 0 ad SHS_ σ 0 [(42, 86), (0, a1), (0, a2)] []
  refine B rfl ?_
  refine Exists.intro a2 (And.intro rfl (And.intro (And.intro hp0 (And.intro (by show 0 ≤ a2; omega) (by show a2 ≤ 1999; omega))) ?_))
  rintro z1 m_ h2
  obtain rfl : σ = m_ := h2
  refine And.intro (fun h3 => ?_) (fun h3 => ?_)
  · skip
    refine B rfl ?_
    refine And.intro (by omega) ?_
    refine Exists.intro _ (And.intro rfl ?_)
    exact (And.intro (by show 0 ≤ 0 ∧ 0 ≤ 1; omega) rfl)
  · skip
    refine B rfl ?_
    refine And.intro (by omega) ?_
    refine Exists.intro _ (And.intro rfl ?_)
    exact (And.intro (by show 0 ≤ 1 ∧ 1 ≤ 1; omega) rfl)
def as_G_X11_manyOf : Int × Int × Int → List Sv_t := fun a => [(42, 86), (0, a.1), (0, a.2.1), (0, a.2.2)]
def pre_G_X11_manyOf : Int × Int × Int → Me_t → Prop := fun a σ => (BW σ 87) ∧ (0 ≤ a.2.1) ∧ (a.2.1 ≤ a.2.2 + 1) ∧ (a.2.2 ≤ 1999)
def post_G_X11_manyOf : Int × Int × Int → Me_t → Int → Me_t → Prop := fun a σ z σ' => (0 ≤ z ∧ z ≤ a.2.2 + 1 - a.2.1) ∧ (σ = σ')
set_option maxHeartbeats 1500000 in
set_option maxRecDepth 100000 in
theorem ct_G_X11_manyOf (l : Launch) : CT_ l yX11_manyOf cX11_manyOf 6 (some .int) 4 88 as_G_X11_manyOf (rmI_) pre_G_X11_manyOf post_G_X11_manyOf := by
  refine ct_of (by decide) (fun _ => Nat.le_of_ble_eq_true rfl) ?_
  intro X G Q ad σ a hl hR E hG R hM hv hp
  obtain ⟨a1, a2, a3⟩ := a
  have r_a1 : -2147483648 ≤ a1 ∧ a1 ≤ 2147483647 := hv (0, a1) (List.mem_of_getElem? (i := 1) rfl)
  have r_a2 : -2147483648 ≤ a2 ∧ a2 ≤ 2147483647 := hv (0, a2) (List.mem_of_getElem? (i := 2) rfl)
  have r_a3 : -2147483648 ≤ a3 ∧ a3 ≤ 2147483647 := hv (0, a3) (List.mem_of_getElem? (i := 3) rfl)
  have hp0 : BW σ 87 := hp.1
  have hp1 : 0 ≤ a2 := hp.2.1
  have hp2 : a2 ≤ a3 + 1 := hp.2.2.1
  have hp3 : a3 ≤ 1999 := hp.2.2.2
  have B := @bk_ X G Q 0 0 ad SHS_ RX11 cX11_manyOf 6 (some .int) flX11 plX11 knX11 [(586, 3, TR_ as_G_X11_mayAll (rmI_) pre_G_X11_mayAll post_G_X11_mayAll)] _ _ none kX11_manyOf [6] flX11_ok plX11_ok knX11_ok eX11_manyOf oX11_manyOf
    (List.forall_mem_cons.mpr ⟨cok_v (t := 32) (c := 11) (N := 39) (n := 2) (idx := 293) E (ct_G_X11_mayAll X.2.1) (by rw [hR]; decide) (Nat.zero_le _) (Nat.zero_le _) hG rfl rfl ⟨rfl, by decide, by decide, by decide⟩ (fun _ => ⟨_, _, rfl, rfl⟩) wl_X11_293 wi_X11_mayAll ws_X11_mayAll wn_X11 wc_X11_mayAll, fun _ h => absurd h List.not_mem_nil⟩) R sok_no E
  show WP_ X G Q 0 0 ad SHS_ σ 0 [(42, 86), (0, a1), (0, a2), (0, a3), (9, 0), (9, 0)] []
  refine B rfl ?_
  show WP_ X G Q 0 0 ad SHS_ σ 6 [(42, 86), (0, a1), (0, a2), (0, a3), (0, 0), (0, a2)] []
  refine wdrop_ (L' := [(42, 86), (0, a1), (9, 0), (0, a3), (0, 0), (0, a2)]) ⟨Or.inr rfl, ⟨Or.inr rfl, ⟨Or.inl rfl, ⟨Or.inr rfl, ⟨Or.inr rfl, ⟨Or.inr rfl, trivial⟩⟩⟩⟩⟩⟩ ?_
  have lp_6 : ∀ (nq_ : Nat) (v4 : Int) (v5 : Int), (a2 ≤ v5) → (v5 ≤ a3 + 1) → (0 ≤ v4) → (v4 ≤ v5 - a2) → (a3 + 1 - v5 : Int).toNat < nq_ → WP_ X G Q 0 0 ad SHS_ σ 6 [(42, 86), (0, a1), (9, 0), (0, a3), (0, v4), (0, v5)] [] := by
    intro nq_
    induction nq_ with
    | zero => intros; omega
    | succ nq_ ih_6 =>
      intro v4 v5 hi6_0 hi6_1 hi6_2 hi6_3 hm6
      refine B rfl ?_
      refine And.intro (fun h1 => ?_) (fun h1 => ?_)
      · skip
        refine B rfl ?_
        refine Exists.intro _ (And.intro rfl ?_)
        exact (And.intro (by show 0 ≤ v4 ∧ v4 ≤ a3 + 1 - a2; omega) rfl)
      · skip
        refine Exists.intro (a1, v5) (And.intro rfl (And.intro (And.intro hp0 (And.intro (by show 0 ≤ v5; omega) (by show v5 ≤ 1999; omega))) ?_))
        rintro z2 m_ h3
        obtain rfl : σ = m_ := h3.2
        have h4 : 0 ≤ z2 ∧ z2 ≤ 1 := h3.1
        refine And.intro (fun h5 => ?_) (fun h5 => ?_)
        · skip
          refine B rfl ?_
          refine And.intro (by omega) ?_
          refine And.intro (by omega) ?_
          exact ih_6 (v4 + 0) (v5 + 1) (by show a2 ≤ (v5 + 1); omega) (by show (v5 + 1) ≤ a3 + 1; omega) (by show 0 ≤ (v4 + 0); omega) (by show (v4 + 0) ≤ (v5 + 1) - a2; omega) (by omega)
        · skip
          refine B rfl ?_
          refine And.intro (by omega) ?_
          refine And.intro (by omega) ?_
          exact ih_6 (v4 + 1) (v5 + 1) (by show a2 ≤ (v5 + 1); omega) (by show (v5 + 1) ≤ a3 + 1; omega) (by show 0 ≤ (v4 + 1); omega) (by show (v4 + 1) ≤ (v5 + 1) - a2; omega) (by omega)
  exact lp_6 ((a3 + 1 - a2 : Int).toNat + 1) 0 a2 (by show a2 ≤ a2; omega) (by show a2 ≤ a3 + 1; omega) (by show 0 ≤ 0; omega) (by show 0 ≤ a2 - a2; omega) (by omega)
def as_G_X11_findWait : Int × Int × Int → List Sv_t := fun a => [(42, 86), (0, a.1), (0, a.2.1), (0, a.2.2)]
def pre_G_X11_findWait : Int × Int × Int → Me_t → Prop := fun a σ => (BW σ 87) ∧ (0 ≤ a.2.1) ∧ (a.2.1 ≤ a.2.2 + 1) ∧ (a.2.2 ≤ 1999)
def post_G_X11_findWait : Int × Int × Int → Me_t → Int → Me_t → Prop := fun a σ z σ' => (∀ k j : Int, ¬ (k = 86) → σ' k j = σ k j)
set_option maxHeartbeats 1500000 in
set_option maxRecDepth 100000 in
theorem ct_G_X11_findWait (l : Launch) : CT_ l yX11_findWait cX11_findWait 6 none 4 88 as_G_X11_findWait (rmV_) pre_G_X11_findWait post_G_X11_findWait := by
  refine ct_of (by decide) (fun _ => Nat.le_of_ble_eq_true rfl) ?_
  intro X G Q ad σ a hl hR E hG R hM hv hp
  obtain ⟨a1, a2, a3⟩ := a
  have r_a1 : -2147483648 ≤ a1 ∧ a1 ≤ 2147483647 := hv (0, a1) (List.mem_of_getElem? (i := 1) rfl)
  have r_a2 : -2147483648 ≤ a2 ∧ a2 ≤ 2147483647 := hv (0, a2) (List.mem_of_getElem? (i := 2) rfl)
  have r_a3 : -2147483648 ≤ a3 ∧ a3 ≤ 2147483647 := hv (0, a3) (List.mem_of_getElem? (i := 3) rfl)
  have hp0 : BW σ 87 := hp.1
  have hp1 : 0 ≤ a2 := hp.2.1
  have hp2 : a2 ≤ a3 + 1 := hp.2.2.1
  have hp3 : a3 ≤ 1999 := hp.2.2.2
  have B := @bk_ X G Q 0 0 ad SHS_ RX11 cX11_findWait 6 none flX11 plX11 knX11 [(586, 3, TR_ as_G_X11_mayAll (rmI_) pre_G_X11_mayAll post_G_X11_mayAll)] _ _ none kX11_findWait [16] flX11_ok plX11_ok knX11_ok eX11_findWait oX11_findWait
    (List.forall_mem_cons.mpr ⟨cok_v (t := 32) (c := 11) (N := 39) (n := 2) (idx := 293) E (ct_G_X11_mayAll X.2.1) (by rw [hR]; decide) (Nat.zero_le _) (Nat.zero_le _) hG rfl rfl ⟨rfl, by decide, by decide, by decide⟩ (fun _ => ⟨_, _, rfl, rfl⟩) wl_X11_293 wi_X11_mayAll ws_X11_mayAll wn_X11 wc_X11_mayAll, fun _ h => absurd h List.not_mem_nil⟩) R sok_no E
  show WP_ X G Q 0 0 ad SHS_ σ 0 [(42, 86), (0, a1), (0, a2), (0, a3), (9, 0), (9, 0)] []
  refine B rfl ?_
  intro σ1 e2
  intro σ3 e4
  show WP_ X G Q 0 0 ad SHS_ σ3 16 [(42, 86), (0, a1), (0, a2), (0, a3), (0, 0), (0, a2)] []
  refine wdrop_ (L' := [(42, 86), (0, a1), (9, 0), (0, a3), (0, 0), (0, a2)]) ⟨Or.inr rfl, ⟨Or.inr rfl, ⟨Or.inl rfl, ⟨Or.inr rfl, ⟨Or.inr rfl, ⟨Or.inr rfl, trivial⟩⟩⟩⟩⟩⟩ ?_
  have lp_16 : ∀ (nq_ : Nat) (v4 : Int) (v5 : Int) (τ16 : Me_t), (∀ k j : Int, ¬ (k = 86) → τ16 k j = σ k j) → (a2 ≤ v5) → (v5 ≤ a3 + 1) → (0 ≤ v4) → (v4 ≤ v5 - a2) → (a3 + 1 - v5 : Int).toNat < nq_ → WP_ X G Q 0 0 ad SHS_ τ16 16 [(42, 86), (0, a1), (9, 0), (0, a3), (0, v4), (0, v5)] [] := by
    intro nq_
    induction nq_ with
    | zero => intros; omega
    | succ nq_ ih_16 =>
      intro v4 v5 τ16 hf16 hi16_0 hi16_1 hi16_2 hi16_3 hm16
      refine B rfl ?_
      refine And.intro (fun h5 => ?_) (fun h5 => ?_)
      · skip
        refine B rfl ?_
        refine Exists.intro 0 (And.intro rfl ?_)
        exact (fun k j hk => (hf16 _ _ (by omega)))
      · skip
        have p6 : BW τ16 87 := BW_fr hp0 (fun k j hk => (hf16 _ _ (by omega)))
        refine Exists.intro (a1, v5) (And.intro rfl (And.intro (And.intro p6 (And.intro (by show 0 ≤ v5; omega) (by show v5 ≤ 1999; omega))) ?_))
        rintro z7 m_ h8
        obtain rfl : τ16 = m_ := h8.2
        have h9 : 0 ≤ z7 ∧ z7 ≤ 1 := h8.1
        refine And.intro (fun h10 => ?_) (fun h10 => ?_)
        · skip
          refine B rfl ?_
          refine And.intro (by omega) ?_
          intro z11 ez11 hz11
          have hz11 : ((-2147483648) : Int) ≤ z11 ∧ z11 ≤ (2147483647 : Int) := rgl_ hz11 (by decide +kernel) (by decide +kernel) (by decide +kernel)
          try have t12 : τ16 86 19 = σ 86 19 := (hf16 _ _ (by omega))
          refine And.intro (fun h13 => ?_) (fun h13 => ?_)
          · skip
            refine B rfl ?_
            intro σ14 e15
            refine And.intro (by omega) ?_
            refine And.intro (by omega) ?_
            intro σ16 e17
            refine And.intro (by omega) ?_
            exact ih_16 (v4 + 1) (v5 + 1) σ16 (fun k j hk => ((ups_r e17 (by omega)).trans ((ups_r e15 (by omega)).trans (hf16 _ _ (by omega))))) (by show a2 ≤ (v5 + 1); omega) (by show (v5 + 1) ≤ a3 + 1; omega) (by show 0 ≤ (v4 + 1); omega) (by show (v4 + 1) ≤ (v5 + 1) - a2; omega) (by omega)
          · skip
            refine B rfl ?_
            refine And.intro (by omega) ?_
            exact ih_16 (v4 + 1) (v5 + 1) τ16 (fun k j hk => (hf16 _ _ (by omega))) (by show a2 ≤ (v5 + 1); omega) (by show (v5 + 1) ≤ a3 + 1; omega) (by show 0 ≤ (v4 + 1); omega) (by show (v4 + 1) ≤ (v5 + 1) - a2; omega) (by omega)
        · skip
          refine B rfl ?_
          intro z18 ez18 hz18
          have hz18 : ((-2147483648) : Int) ≤ z18 ∧ z18 ≤ (2147483647 : Int) := rgl_ hz18 (by decide +kernel) (by decide +kernel) (by decide +kernel)
          try have t19 : τ16 86 19 = σ 86 19 := (hf16 _ _ (by omega))
          refine And.intro (fun h20 => ?_) (fun h20 => ?_)
          · skip
            refine B rfl ?_
            intro σ21 e22
            refine And.intro (by omega) ?_
            refine And.intro (by omega) ?_
            intro σ23 e24
            refine And.intro (by omega) ?_
            exact ih_16 0 (v5 + 1) σ23 (fun k j hk => ((ups_r e24 (by omega)).trans ((ups_r e22 (by omega)).trans (hf16 _ _ (by omega))))) (by show a2 ≤ (v5 + 1); omega) (by show (v5 + 1) ≤ a3 + 1; omega) (by show 0 ≤ 0; omega) (by show 0 ≤ (v5 + 1) - a2; omega) (by omega)
          · skip
            refine B rfl ?_
            refine And.intro (by omega) ?_
            exact ih_16 0 (v5 + 1) τ16 (fun k j hk => (hf16 _ _ (by omega))) (by show a2 ≤ (v5 + 1); omega) (by show (v5 + 1) ≤ a3 + 1; omega) (by show 0 ≤ 0; omega) (by show 0 ≤ (v5 + 1) - a2; omega) (by omega)
  exact lp_16 ((a3 + 1 - a2 : Int).toNat + 1) 0 a2 σ3 (fun k j hk => ((ups_r e4 (by omega)).trans (ups_r e2 (by omega)))) (by show a2 ≤ a2; omega) (by show a2 ≤ a3 + 1; omega) (by show 0 ≤ 0; omega) (by show 0 ≤ a2 - a2; omega) (by omega)
def as_G_X11_divisor : Int × Int → List Sv_t := fun a => [(0, a.1), (0, a.2)]
def pre_G_X11_divisor : Int × Int → Me_t → Prop := fun a σ => (0 ≤ a.1) ∧ (1 ≤ a.2)
def post_G_X11_divisor : Int × Int → Me_t → Int → Me_t → Prop := fun a σ z σ' => (1 ≤ z) ∧ (σ = σ')
set_option maxHeartbeats 1500000 in
set_option maxRecDepth 100000 in
theorem ct_G_X11_divisor (l : Launch) : CT_ l yX11_divisor cX11_divisor 5 (some .int) 0 0 as_G_X11_divisor (rmI_) pre_G_X11_divisor post_G_X11_divisor := by
  refine ct_of (by decide) (fun _ => Nat.le_of_ble_eq_true rfl) ?_
  intro X G Q ad σ a hl hR E hG R hM hv hp
  obtain ⟨a0, a1⟩ := a
  have r_a0 : -2147483648 ≤ a0 ∧ a0 ≤ 2147483647 := hv (0, a0) (List.mem_of_getElem? (i := 0) rfl)
  have r_a1 : -2147483648 ≤ a1 ∧ a1 ≤ 2147483647 := hv (0, a1) (List.mem_of_getElem? (i := 1) rfl)
  have hp0 : 0 ≤ a0 := hp.1
  have hp1 : 1 ≤ a1 := hp.2
  have B := @bk_ X G Q 0 0 ad SHS_ RX11 cX11_divisor 5 (some .int) flX11 plX11 knX11 [] _ _ none kX11_divisor [4] flX11_ok plX11_ok knX11_ok eX11_divisor oX11_divisor
    (fun _ h => absurd h List.not_mem_nil) R sok_no E
  show WP_ X G Q 0 0 ad SHS_ σ 0 [(0, a0), (0, a1), (9, 0), (9, 0), (9, 0)] []
  refine B rfl ?_
  show WP_ X G Q 0 0 ad SHS_ σ 4 [(0, a0), (0, a1), (0, a0), (0, a1), (9, 0)] []
  refine wdrop_ (L' := [(9, 0), (9, 0), (0, a0), (0, a1), (9, 0)]) ⟨Or.inl rfl, ⟨Or.inl rfl, ⟨Or.inr rfl, ⟨Or.inr rfl, ⟨Or.inl rfl, trivial⟩⟩⟩⟩⟩ ?_
  have lp_4 : ∀ (nq_ : Nat) (v2 : Int) (v3 : Int), (0 ≤ v2) → (0 ≤ v3) → (1 ≤ v2 ∨ 1 ≤ v3) → (v3 : Int).toNat < nq_ → WP_ X G Q 0 0 ad SHS_ σ 4 [(9, 0), (9, 0), (0, v2), (0, v3), (9, 0)] [] := by
    intro nq_
    induction nq_ with
    | zero => intros; omega
    | succ nq_ ih_4 =>
      intro v2 v3 hi4_0 hi4_1 hi4_2 hm4
      refine B rfl ?_
      refine And.intro (fun h1 => ?_) (fun h1 => ?_)
      · skip
        refine B rfl ?_
        refine Exists.intro _ (And.intro rfl ?_)
        exact (And.intro (by show 1 ≤ v2; omega) rfl)
      · skip
        have q2 := tmod_r (x := v2) (y := v3) (by omega) (by omega)
        refine And.intro (by omega) ?_
        show WP_ X G Q 0 0 ad SHS_ σ 4 [(9, 0), (9, 0), (0, v3), (0, Int.tmod v2 v3), (0, Int.tmod v2 v3)] []
        refine wdrop_ (L' := [(9, 0), (9, 0), (0, v3), (0, Int.tmod v2 v3), (9, 0)]) ⟨Or.inl rfl, ⟨Or.inl rfl, ⟨Or.inr rfl, ⟨Or.inr rfl, ⟨Or.inl rfl, trivial⟩⟩⟩⟩⟩ ?_
        exact ih_4 v3 (Int.tmod v2 v3) (by show 0 ≤ v3; omega) (by show 0 ≤ (Int.tmod v2 v3); omega) (by show 1 ≤ v3 ∨ 1 ≤ (Int.tmod v2 v3); omega) (by omega)
  exact lp_4 ((a1 : Int).toNat + 1) a0 a1 (by show 0 ≤ a0; omega) (by show 0 ≤ a1; omega) (by show 1 ≤ a0 ∨ 1 ≤ a1; omega) (by omega)
def as_G_X11_isWeekday : Int × Int → List Sv_t := fun a => [(42, 86), (0, a.1), (0, a.2)]
def pre_G_X11_isWeekday : Int × Int → Me_t → Prop := fun a σ => (BW σ 87) ∧ (0 ≤ a.1) ∧ (a.1 ≤ 2)
def post_G_X11_isWeekday : Int × Int → Me_t → Int → Me_t → Prop := fun a σ z σ' => (0 ≤ z ∧ z ≤ 1) ∧ (σ = σ')
set_option maxHeartbeats 1500000 in
set_option maxRecDepth 100000 in
theorem ct_G_X11_isWeekday (l : Launch) : CT_ l yX11_isWeekday cX11_isWeekday 3 (some .boolean) 1 25 as_G_X11_isWeekday (rmI_) pre_G_X11_isWeekday post_G_X11_isWeekday := by
  refine ct_of (by decide) (fun _ => Nat.le_of_ble_eq_true rfl) ?_
  intro X G Q ad σ a hl hR E hG R hM hv hp
  obtain ⟨a1, a2⟩ := a
  have r_a1 : -2147483648 ≤ a1 ∧ a1 ≤ 2147483647 := hv (0, a1) (List.mem_of_getElem? (i := 1) rfl)
  have r_a2 : -2147483648 ≤ a2 ∧ a2 ≤ 2147483647 := hv (0, a2) (List.mem_of_getElem? (i := 2) rfl)
  have hp0 : BW σ 87 := hp.1
  have hp1 : 0 ≤ a1 := hp.2.1
  have hp2 : a1 ≤ 2 := hp.2.2
  have B := @bk_ X G Q 0 0 ad SHS_ RX11 cX11_isWeekday 3 (some .boolean) flX11 plX11 knX11 [(200, 3, TR_ as_G_X11_of_1 (rmI_) pre_G_X11_of_1 post_G_X11_of_1), (159, 3, TR_ as_G_X11_in (rmI_) pre_G_X11_in post_G_X11_in)] _ _ none kX11_isWeekday [] flX11_ok plX11_ok knX11_ok eX11_isWeekday oX11_isWeekday
    (List.forall_mem_cons.mpr ⟨cok_v (t := 32) (c := 11) (N := 39) (n := 2) (idx := 100) E (ct_G_X11_of_1 X.2.1) (by rw [hR]; decide) (Nat.zero_le _) (Nat.zero_le _) hG rfl rfl ⟨rfl, by decide, by decide, by decide⟩ (fun _ => ⟨_, _, rfl, rfl⟩) wl_X11_100 wi_X11_of ws_X11_of wn_X11 wc_X11_of, List.forall_mem_cons.mpr ⟨cok_s (n := 3) (idx := 79) E (ct_G_X11_in X.2.1) (by rw [hR]; decide) (Nat.zero_le _) (Nat.zero_le _) hG ⟨by decide, by decide, by decide⟩ (fun _ => rfl) wl_X11_79 wt_X11_in wn_X11 wc_X11_in, fun _ h => absurd h List.not_mem_nil⟩⟩) R sok_no E
  show WP_ X G Q 0 0 ad SHS_ σ 0 [(42, 86), (0, a1), (0, a2)] []
  refine B rfl ?_
  refine Exists.intro a1 (And.intro rfl (And.intro (And.intro hp0 (And.intro (by show 0 ≤ a1; omega) (by show a1 ≤ 2; omega))) ?_))
  rintro z1 m_ h2
  obtain rfl : σ = m_ := h2.2.2
  have h3 : z1 = σ 87 (6 + 15 * a1 + 1) := h2.1
  have h4 : 0 ≤ z1 ∧ z1 ≤ 10 := h2.2.1
  refine And.intro (by omega) ?_
  refine Exists.intro (a2, 0, z1 - 1) (And.intro rfl (And.intro True.intro ?_))
  rintro z5 m_ h6
  obtain rfl : σ = m_ := h6.2
  have h7 : (z5 = 1 ∧ 0 ≤ a2 ∧ a2 ≤ (z1 - 1)) ∨ (z5 = 0 ∧ ¬ (0 ≤ a2 ∧ a2 ≤ (z1 - 1))) := h6.1
  refine And.intro (by omega) ?_
  refine Exists.intro _ (And.intro rfl ?_)
  exact (And.intro (by show 0 ≤ z5 ∧ z5 ≤ 1; omega) rfl)
def as_G_X11_isCounted : Int × Int → List Sv_t := fun a => [(42, 86), (0, a.1), (0, a.2)]
def pre_G_X11_isCounted : Int × Int → Me_t → Prop := fun a σ => (BW σ 87) ∧ (0 ≤ a.1) ∧ (a.1 ≤ 2)
def post_G_X11_isCounted : Int × Int → Me_t → Int → Me_t → Prop := fun a σ z σ' => ((z = 1 ∧ σ 87 (6 + 15 * a.1 + 0) ≤ a.2) ∨ z = 0) ∧ (σ = σ')
set_option maxHeartbeats 1500000 in
set_option maxRecDepth 100000 in
theorem ct_G_X11_isCounted (l : Launch) : CT_ l yX11_isCounted cX11_isCounted 3 (some .boolean) 1 22 as_G_X11_isCounted (rmI_) pre_G_X11_isCounted post_G_X11_isCounted := by
  refine ct_of (by decide) (fun _ => Nat.le_of_ble_eq_true rfl) ?_
  intro X G Q ad σ a hl hR E hG R hM hv hp
  obtain ⟨a1, a2⟩ := a
  have r_a1 : -2147483648 ≤ a1 ∧ a1 ≤ 2147483647 := hv (0, a1) (List.mem_of_getElem? (i := 1) rfl)
  have r_a2 : -2147483648 ≤ a2 ∧ a2 ≤ 2147483647 := hv (0, a2) (List.mem_of_getElem? (i := 2) rfl)
  have hp0 : BW σ 87 := hp.1
  have hp1 : 0 ≤ a1 := hp.2.1
  have hp2 : a1 ≤ 2 := hp.2.2
  have B := @bk_ X G Q 0 0 ad SHS_ RX11 cX11_isCounted 3 (some .boolean) flX11 plX11 knX11 [(200, 3, TR_ as_G_X11_of_0 (rmI_) pre_G_X11_of_0 post_G_X11_of_0)] _ _ none kX11_isCounted [] flX11_ok plX11_ok knX11_ok eX11_isCounted oX11_isCounted
    (List.forall_mem_cons.mpr ⟨cok_v (t := 32) (c := 11) (N := 39) (n := 2) (idx := 100) E (ct_G_X11_of_0 X.2.1) (by rw [hR]; decide) (Nat.zero_le _) (Nat.zero_le _) hG rfl rfl ⟨rfl, by decide, by decide, by decide⟩ (fun _ => ⟨_, _, rfl, rfl⟩) wl_X11_100 wi_X11_of ws_X11_of wn_X11 wc_X11_of, fun _ h => absurd h List.not_mem_nil⟩) R sok_no E
  show WP_ X G Q 0 0 ad SHS_ σ 0 [(42, 86), (0, a1), (0, a2)] []
  refine B rfl ?_
  refine Exists.intro a1 (And.intro rfl (And.intro (And.intro hp0 (And.intro (by show 0 ≤ a1; omega) (by show a1 ≤ 2; omega))) ?_))
  rintro z1 m_ h2
  obtain rfl : σ = m_ := h2.2.2
  have h3 : z1 = σ 87 (6 + 15 * a1 + 0) := h2.1
  have h4 : 0 ≤ z1 ∧ z1 ≤ 999 := h2.2.1
  refine And.intro (fun h5 => ?_) (fun h5 => ?_)
  · skip
    refine B rfl ?_
    refine And.intro (by omega) ?_
    refine Exists.intro _ (And.intro rfl ?_)
    exact (And.intro (by show (0 = 1 ∧ σ 87 (6 + 15 * a1 + 0) ≤ a2) ∨ 0 = 0; omega) rfl)
  · skip
    refine B rfl ?_
    refine And.intro (by omega) ?_
    refine Exists.intro _ (And.intro rfl ?_)
    exact (And.intro (by show (1 = 1 ∧ σ 87 (6 + 15 * a1 + 0) ≤ a2) ∨ 1 = 0; omega) rfl)
def as_G_X11_dateOf_0 : Int × Int → List Sv_t := fun a => [(42, 86), (0, a.1), (0, a.2), (0, 0)]
def pre_G_X11_dateOf_0 : Int × Int → Me_t → Prop := fun a σ => (0 ≤ a.1) ∧ (a.1 ≤ 2) ∧ (0 ≤ a.2) ∧ (a.2 ≤ 1999)
def post_G_X11_dateOf_0 : Int × Int → Me_t → Int → Me_t → Prop := fun a σ z σ' => ((-1) ≤ z ∧ z ≤ 2000) ∧ (σ = σ')
set_option maxHeartbeats 1500000 in
set_option maxRecDepth 100000 in
theorem ct_G_X11_dateOf_0 (l : Launch) : CT_ l yX11_dateOf cX11_dateOf 4 (some .int) 2 44 as_G_X11_dateOf_0 (rmI_) pre_G_X11_dateOf_0 post_G_X11_dateOf_0 := by
  refine ct_of (by decide) (fun _ => Nat.le_of_ble_eq_true rfl) ?_
  intro X G Q ad σ a hl hR E hG R hM hv hp
  obtain ⟨a1, a2⟩ := a
  have r_a1 : -2147483648 ≤ a1 ∧ a1 ≤ 2147483647 := hv (0, a1) (List.mem_of_getElem? (i := 1) rfl)
  have r_a2 : -2147483648 ≤ a2 ∧ a2 ≤ 2147483647 := hv (0, a2) (List.mem_of_getElem? (i := 2) rfl)
  have hp0 : 0 ≤ a1 := hp.1
  have hp1 : a1 ≤ 2 := hp.2.1
  have hp2 : 0 ≤ a2 := hp.2.2.1
  have hp3 : a2 ≤ 1999 := hp.2.2.2
  have B := @bk_ X G Q 0 0 ad SHS_ RX11 cX11_dateOf 4 (some .int) flX11 plX11 knX11 [(467, 2, TR_ as_G_X11_spot (rmI_) pre_G_X11_spot post_G_X11_spot)] _ _ none kX11_dateOf [] flX11_ok plX11_ok knX11_ok eX11_dateOf oX11_dateOf
    (List.forall_mem_cons.mpr ⟨cok_s (n := 2) (idx := 233) E (ct_G_X11_spot X.2.1) (by rw [hR]; decide) (Nat.zero_le _) (Nat.zero_le _) hG ⟨by decide, by decide, by decide⟩ (fun _ => rfl) wl_X11_233 wt_X11_spot wn_X11 wc_X11_spot, fun _ h => absurd h List.not_mem_nil⟩) R sok_no E
  show WP_ X G Q 0 0 ad SHS_ σ 0 [(42, 86), (0, a1), (0, a2), (0, 0)] []
  refine B rfl ?_
  refine And.intro (fun h1 => (by exfalso; omega)) (fun h1 => ?_)
  refine Exists.intro (a1, a2) (And.intro rfl (And.intro (And.intro (by show 0 ≤ a1; omega) (And.intro (by show a1 ≤ 2; omega) (And.intro (by show 0 ≤ a2; omega) (by show a2 ≤ 1999; omega)))) ?_))
  rintro z2 m_ h3
  obtain rfl : σ = m_ := h3.2
  have h4 : z2 = 2000 * a1 + a2 := h3.1
  have q5 : z2 = 2000 * a1 + a2 := by omega
  subst q5
  refine And.intro (by omega) ?_
  intro z6 ez6 hz6
  have hz6 : ((-1) : Int) ≤ z6 ∧ z6 ≤ (2000 : Int) := hz6
  refine B rfl ?_
  refine Exists.intro _ (And.intro rfl ?_)
  exact (And.intro (by show (-1) ≤ z6 ∧ z6 ≤ 2000; omega) rfl)
def as_G_X11_dateOf_1 : Int × Int → List Sv_t := fun a => [(42, 86), (0, a.1), (0, a.2), (0, 1)]
def pre_G_X11_dateOf_1 : Int × Int → Me_t → Prop := fun a σ => (0 ≤ a.1) ∧ (a.1 ≤ 2) ∧ (0 ≤ a.2) ∧ (a.2 ≤ 1999)
def post_G_X11_dateOf_1 : Int × Int → Me_t → Int → Me_t → Prop := fun a σ z σ' => ((-1) ≤ z ∧ z ≤ 7) ∧ (σ = σ')
set_option maxHeartbeats 1500000 in
set_option maxRecDepth 100000 in
theorem ct_G_X11_dateOf_1 (l : Launch) : CT_ l yX11_dateOf cX11_dateOf 4 (some .int) 2 44 as_G_X11_dateOf_1 (rmI_) pre_G_X11_dateOf_1 post_G_X11_dateOf_1 := by
  refine ct_of (by decide) (fun _ => Nat.le_of_ble_eq_true rfl) ?_
  intro X G Q ad σ a hl hR E hG R hM hv hp
  obtain ⟨a1, a2⟩ := a
  have r_a1 : -2147483648 ≤ a1 ∧ a1 ≤ 2147483647 := hv (0, a1) (List.mem_of_getElem? (i := 1) rfl)
  have r_a2 : -2147483648 ≤ a2 ∧ a2 ≤ 2147483647 := hv (0, a2) (List.mem_of_getElem? (i := 2) rfl)
  have hp0 : 0 ≤ a1 := hp.1
  have hp1 : a1 ≤ 2 := hp.2.1
  have hp2 : 0 ≤ a2 := hp.2.2.1
  have hp3 : a2 ≤ 1999 := hp.2.2.2
  have B := @bk_ X G Q 0 0 ad SHS_ RX11 cX11_dateOf 4 (some .int) flX11 plX11 knX11 [(467, 2, TR_ as_G_X11_spot (rmI_) pre_G_X11_spot post_G_X11_spot)] _ _ none kX11_dateOf [] flX11_ok plX11_ok knX11_ok eX11_dateOf oX11_dateOf
    (List.forall_mem_cons.mpr ⟨cok_s (n := 2) (idx := 233) E (ct_G_X11_spot X.2.1) (by rw [hR]; decide) (Nat.zero_le _) (Nat.zero_le _) hG ⟨by decide, by decide, by decide⟩ (fun _ => rfl) wl_X11_233 wt_X11_spot wn_X11 wc_X11_spot, fun _ h => absurd h List.not_mem_nil⟩) R sok_no E
  show WP_ X G Q 0 0 ad SHS_ σ 0 [(42, 86), (0, a1), (0, a2), (0, 1)] []
  refine B rfl ?_
  refine And.intro (fun h1 => ?_) (fun h1 => (by exfalso; omega))
  refine B rfl ?_
  refine And.intro (fun h2 => (by exfalso; omega)) (fun h2 => ?_)
  refine Exists.intro (a1, a2) (And.intro rfl (And.intro (And.intro (by show 0 ≤ a1; omega) (And.intro (by show a1 ≤ 2; omega) (And.intro (by show 0 ≤ a2; omega) (by show a2 ≤ 1999; omega)))) ?_))
  rintro z3 m_ h4
  obtain rfl : σ = m_ := h4.2
  have h5 : z3 = 2000 * a1 + a2 := h4.1
  have q6 : z3 = 2000 * a1 + a2 := by omega
  subst q6
  refine And.intro (by omega) ?_
  intro z7 ez7 hz7
  have hz7 : ((-1) : Int) ≤ z7 ∧ z7 ≤ (7 : Int) := hz7
  refine B rfl ?_
  refine Exists.intro _ (And.intro rfl ?_)
  exact (And.intro (by show (-1) ≤ z7 ∧ z7 ≤ 7; omega) rfl)
def as_G_X11_dateOf_2 : Int × Int → List Sv_t := fun a => [(42, 86), (0, a.1), (0, a.2), (0, 2)]
def pre_G_X11_dateOf_2 : Int × Int → Me_t → Prop := fun a σ => (0 ≤ a.1) ∧ (a.1 ≤ 2) ∧ (0 ≤ a.2) ∧ (a.2 ≤ 1999)
def post_G_X11_dateOf_2 : Int × Int → Me_t → Int → Me_t → Prop := fun a σ z σ' => ((-1) ≤ z ∧ z ≤ 68) ∧ (σ = σ')
set_option maxHeartbeats 1500000 in
set_option maxRecDepth 100000 in
theorem ct_G_X11_dateOf_2 (l : Launch) : CT_ l yX11_dateOf cX11_dateOf 4 (some .int) 2 44 as_G_X11_dateOf_2 (rmI_) pre_G_X11_dateOf_2 post_G_X11_dateOf_2 := by
  refine ct_of (by decide) (fun _ => Nat.le_of_ble_eq_true rfl) ?_
  intro X G Q ad σ a hl hR E hG R hM hv hp
  obtain ⟨a1, a2⟩ := a
  have r_a1 : -2147483648 ≤ a1 ∧ a1 ≤ 2147483647 := hv (0, a1) (List.mem_of_getElem? (i := 1) rfl)
  have r_a2 : -2147483648 ≤ a2 ∧ a2 ≤ 2147483647 := hv (0, a2) (List.mem_of_getElem? (i := 2) rfl)
  have hp0 : 0 ≤ a1 := hp.1
  have hp1 : a1 ≤ 2 := hp.2.1
  have hp2 : 0 ≤ a2 := hp.2.2.1
  have hp3 : a2 ≤ 1999 := hp.2.2.2
  have B := @bk_ X G Q 0 0 ad SHS_ RX11 cX11_dateOf 4 (some .int) flX11 plX11 knX11 [(467, 2, TR_ as_G_X11_spot (rmI_) pre_G_X11_spot post_G_X11_spot)] _ _ none kX11_dateOf [] flX11_ok plX11_ok knX11_ok eX11_dateOf oX11_dateOf
    (List.forall_mem_cons.mpr ⟨cok_s (n := 2) (idx := 233) E (ct_G_X11_spot X.2.1) (by rw [hR]; decide) (Nat.zero_le _) (Nat.zero_le _) hG ⟨by decide, by decide, by decide⟩ (fun _ => rfl) wl_X11_233 wt_X11_spot wn_X11 wc_X11_spot, fun _ h => absurd h List.not_mem_nil⟩) R sok_no E
  show WP_ X G Q 0 0 ad SHS_ σ 0 [(42, 86), (0, a1), (0, a2), (0, 2)] []
  refine B rfl ?_
  refine And.intro (fun h1 => ?_) (fun h1 => (by exfalso; omega))
  refine B rfl ?_
  refine And.intro (fun h2 => ?_) (fun h2 => (by exfalso; omega))
  refine B rfl ?_
  refine And.intro (fun h3 => (by exfalso; omega)) (fun h3 => ?_)
  refine Exists.intro (a1, a2) (And.intro rfl (And.intro (And.intro (by show 0 ≤ a1; omega) (And.intro (by show a1 ≤ 2; omega) (And.intro (by show 0 ≤ a2; omega) (by show a2 ≤ 1999; omega)))) ?_))
  rintro z4 m_ h5
  obtain rfl : σ = m_ := h5.2
  have h6 : z4 = 2000 * a1 + a2 := h5.1
  have q7 : z4 = 2000 * a1 + a2 := by omega
  subst q7
  refine And.intro (by omega) ?_
  intro z8 ez8 hz8
  have hz8 : ((-1) : Int) ≤ z8 ∧ z8 ≤ (68 : Int) := hz8
  refine B rfl ?_
  refine Exists.intro _ (And.intro rfl ?_)
  exact (And.intro (by show (-1) ≤ z8 ∧ z8 ≤ 68; omega) rfl)
def as_G_X11_dateOf_x : Int × Int × Int → List Sv_t := fun a => [(42, 86), (0, a.1), (0, a.2.1), (0, a.2.2)]
def pre_G_X11_dateOf_x : Int × Int × Int → Me_t → Prop := fun a σ => (BW σ 87) ∧ (0 ≤ a.1) ∧ (a.1 ≤ 2) ∧ (0 ≤ a.2.1) ∧ (a.2.1 ≤ 1999) ∧ (1 ≤ σ 87 (6 + 15 * a.1 + 1))
def post_G_X11_dateOf_x : Int × Int × Int → Me_t → Int → Me_t → Prop := fun a σ z σ' => (-1 ≤ z ∧ z ≤ 2000) ∧ (a.2.2 = 1 → z ≤ 7) ∧ (a.2.2 = 3 → z ≤ 9) ∧ (σ = σ')
set_option maxHeartbeats 1500000 in
set_option maxRecDepth 100000 in
theorem ct_G_X11_dateOf_x (l : Launch) : CT_ l yX11_dateOf cX11_dateOf 4 (some .int) 2 44 as_G_X11_dateOf_x (rmI_) pre_G_X11_dateOf_x post_G_X11_dateOf_x := by
  refine ct_of (by decide) (fun _ => Nat.le_of_ble_eq_true rfl) ?_
  intro X G Q ad σ a hl hR E hG R hM hv hp
  obtain ⟨a1, a2, a3⟩ := a
  have r_a1 : -2147483648 ≤ a1 ∧ a1 ≤ 2147483647 := hv (0, a1) (List.mem_of_getElem? (i := 1) rfl)
  have r_a2 : -2147483648 ≤ a2 ∧ a2 ≤ 2147483647 := hv (0, a2) (List.mem_of_getElem? (i := 2) rfl)
  have r_a3 : -2147483648 ≤ a3 ∧ a3 ≤ 2147483647 := hv (0, a3) (List.mem_of_getElem? (i := 3) rfl)
  have hp0 : BW σ 87 := hp.1
  have hp1 : 0 ≤ a1 := hp.2.1
  have hp2 : a1 ≤ 2 := hp.2.2.1
  have hp3 : 0 ≤ a2 := hp.2.2.2.1
  have hp4 : a2 ≤ 1999 := hp.2.2.2.2.1
  have hp5 : 1 ≤ σ 87 (6 + 15 * a1 + 1) := hp.2.2.2.2.2
  have B := @bk_ X G Q 0 0 ad SHS_ RX11 cX11_dateOf 4 (some .int) flX11 plX11 knX11 [(472, 3, TR_ as_G_X11_weekday (rmI_) pre_G_X11_weekday post_G_X11_weekday), (467, 2, TR_ as_G_X11_spot (rmI_) pre_G_X11_spot post_G_X11_spot)] _ _ none kX11_dateOf [] flX11_ok plX11_ok knX11_ok eX11_dateOf oX11_dateOf
    (List.forall_mem_cons.mpr ⟨cok_v (t := 32) (c := 11) (N := 39) (n := 2) (idx := 236) E (ct_G_X11_weekday X.2.1) (by rw [hR]; decide) (Nat.zero_le _) (Nat.zero_le _) hG rfl rfl ⟨rfl, by decide, by decide, by decide⟩ (fun _ => ⟨_, _, rfl, rfl⟩) wl_X11_236 wi_X11_weekday ws_X11_weekday wn_X11 wc_X11_weekday, List.forall_mem_cons.mpr ⟨cok_s (n := 2) (idx := 233) E (ct_G_X11_spot X.2.1) (by rw [hR]; decide) (Nat.zero_le _) (Nat.zero_le _) hG ⟨by decide, by decide, by decide⟩ (fun _ => rfl) wl_X11_233 wt_X11_spot wn_X11 wc_X11_spot, fun _ h => absurd h List.not_mem_nil⟩⟩) R sok_no E
  show WP_ X G Q 0 0 ad SHS_ σ 0 [(42, 86), (0, a1), (0, a2), (0, a3)] []
  refine B rfl ?_
  refine And.intro (fun h1 => ?_) (fun h1 => ?_)
  · skip
    refine B rfl ?_
    refine And.intro (fun h2 => ?_) (fun h2 => ?_)
    · skip
      refine B rfl ?_
      refine And.intro (fun h3 => ?_) (fun h3 => ?_)
      · skip
        refine B rfl ?_
        refine Exists.intro (a1, a2) (And.intro rfl (And.intro (And.intro hp0 (And.intro (by show 0 ≤ a1; omega) (And.intro (by show a1 ≤ 2; omega) (And.intro (by show 1 ≤ σ 87 (6 + 15 * a1 + 1); omega) (And.intro (by show 0 ≤ a2; omega) (by show a2 ≤ 10000; omega)))))) ?_))
        rintro z4 m_ h5
        obtain rfl : σ = m_ := h5.2
        have h6 : -1 ≤ z4 ∧ z4 ≤ 9 := h5.1
        refine Exists.intro _ (And.intro rfl ?_)
        exact (And.intro (by show -1 ≤ z4 ∧ z4 ≤ 2000; omega) (And.intro (by show a3 = 1 → z4 ≤ 7; omega) (And.intro (by show a3 = 3 → z4 ≤ 9; omega) rfl)))
      · skip
        refine Exists.intro (a1, a2) (And.intro rfl (And.intro (And.intro (by show 0 ≤ a1; omega) (And.intro (by show a1 ≤ 2; omega) (And.intro (by show 0 ≤ a2; omega) (by show a2 ≤ 1999; omega)))) ?_))
        rintro z7 m_ h8
        obtain rfl : σ = m_ := h8.2
        have h9 : z7 = 2000 * a1 + a2 := h8.1
        have q10 : z7 = 2000 * a1 + a2 := by omega
        subst q10
        refine And.intro (by omega) ?_
        intro z11 ez11 hz11
        have hz11 : ((-1) : Int) ≤ z11 ∧ z11 ≤ (68 : Int) := hz11
        refine B rfl ?_
        refine Exists.intro _ (And.intro rfl ?_)
        exact (And.intro (by show -1 ≤ z11 ∧ z11 ≤ 2000; omega) (And.intro (by show a3 = 1 → z11 ≤ 7; omega) (And.intro (by show a3 = 3 → z11 ≤ 9; omega) rfl)))
    · skip
      refine Exists.intro (a1, a2) (And.intro rfl (And.intro (And.intro (by show 0 ≤ a1; omega) (And.intro (by show a1 ≤ 2; omega) (And.intro (by show 0 ≤ a2; omega) (by show a2 ≤ 1999; omega)))) ?_))
      rintro z12 m_ h13
      obtain rfl : σ = m_ := h13.2
      have h14 : z12 = 2000 * a1 + a2 := h13.1
      have q15 : z12 = 2000 * a1 + a2 := by omega
      subst q15
      refine And.intro (by omega) ?_
      intro z16 ez16 hz16
      have hz16 : ((-1) : Int) ≤ z16 ∧ z16 ≤ (7 : Int) := hz16
      refine B rfl ?_
      refine Exists.intro _ (And.intro rfl ?_)
      exact (And.intro (by show -1 ≤ z16 ∧ z16 ≤ 2000; omega) (And.intro (by show a3 = 1 → z16 ≤ 7; omega) (And.intro (by show a3 = 3 → z16 ≤ 9; omega) rfl)))
  · skip
    refine Exists.intro (a1, a2) (And.intro rfl (And.intro (And.intro (by show 0 ≤ a1; omega) (And.intro (by show a1 ≤ 2; omega) (And.intro (by show 0 ≤ a2; omega) (by show a2 ≤ 1999; omega)))) ?_))
    rintro z17 m_ h18
    obtain rfl : σ = m_ := h18.2
    have h19 : z17 = 2000 * a1 + a2 := h18.1
    have q20 : z17 = 2000 * a1 + a2 := by omega
    subst q20
    refine And.intro (by omega) ?_
    intro z21 ez21 hz21
    have hz21 : ((-1) : Int) ≤ z21 ∧ z21 ≤ (2000 : Int) := hz21
    refine B rfl ?_
    refine Exists.intro _ (And.intro rfl ?_)
    exact (And.intro (by show -1 ≤ z21 ∧ z21 ≤ 2000; omega) (And.intro (by show a3 = 1 → z21 ≤ 7; omega) (And.intro (by show a3 = 3 → z21 ≤ 9; omega) rfl)))
