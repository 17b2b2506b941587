/-! the spare WAR is read into, then taken -/
theorem CI_spare {σ σ' : Me_t} (h : CI σ) (f : ∀ k j : Int, (k = 0 ∧ (j = 2 ∨ j = 3)) ∨ (σ 0 2 ≤ k ∧ k ≤ σ 0 2 + 10) ∨ k = 31 ∨ (45 ≤ k ∧ k ≤ 77) → σ' k j = σ k j) : CI σ' := by
  obtain ⟨h1, ⟨h2, h3⟩, h4, h5⟩ := h
  have e2 := f 0 2 (by omega)
  have e3 := f 0 3 (by omega)
  refine ⟨by rw [e2, e3]; exact h1, ?_, fun w hw => ?_, DT_fr h5 (fun k j hk => f k j (by omega))⟩
  · rw [e2]
    exact ⟨LG_fr h2 (fun k j hk => f k j (by omega)), UW_fr h3 (fun k j hk => f k j (by omega))⟩
  · exact ⟨LG_fr (h4 w hw).1 (fun k j hk => f k j (by omega)), UW_fr (h4 w hw).2 (fun k j hk => f k j (by omega))⟩
theorem CI_swap {σ σ' : Me_t} {sp : Int} (h : CI σ) (hs : sp = σ 0 3) (e2 : σ' 0 2 = sp) (e3 : σ' 0 3 = σ 0 2) (hl : LG σ' sp) (hu : UW σ' sp) (f : ∀ k j : Int, k = 31 ∨ (45 ≤ k ∧ k ≤ 77) → σ' k j = σ k j) : CI σ' := by
  obtain ⟨h1, -, h4, h5⟩ := h
  refine ⟨by rw [e2, e3]; omega, ?_, fun x hx => ?_, DT_fr h5 (fun k j hk => f k j (by omega))⟩
  · rw [e2]
    exact ⟨hl, hu⟩
  · exact ⟨LG_fr (h4 x hx).1 (fun k j hk => f k j (by omega)), UW_fr (h4 x hx).2 (fun k j hk => f k j (by omega))⟩
def as_G_X10_war : Unit → List Sv_t := fun a => [(10, 0)]
def pre_G_X10_war : Unit → Me_t → Prop := fun a σ => (CI σ)
def post_G_X10_war : Unit → Me_t → Int → Me_t → Prop := fun a σ z σ' => (CI σ') ∧ (∀ k j : Int, ¬ (k ≤ 27 ∨ (29 ≤ k ∧ k ≤ 77)) → σ' k j = σ k j)
set_option maxHeartbeats 2000000 in
set_option maxRecDepth 100000 in
theorem ct_G_X10_war (l : Launch) : CT_ l yX10_war cX10_war 2 (some .int) 10 219 as_G_X10_war (rmI_) pre_G_X10_war post_G_X10_war := by
  refine ct_of (by decide) (fun _ => Nat.le_of_ble_eq_true rfl) ?_
  intro X G Q ad σ a hl hR E hG R hM hv hp
  have hp0 : CI σ := hp
  have B := @bk_ X G Q 0 0 ad SHS_ RX10 cX10_war 2 (some .int) flX10 plX10 knX10 [(194, 3, TR_ as_G_X3_read (rmV_) pre_G_X3_read post_G_X3_read), (214, 1, TR_ as_G_X0_forgetAll (rmV_) pre_G_X0_forgetAll post_G_X0_forgetAll)] _ _ none kX10_war [] flX10_ok plX10_ok knX10_ok eX10_war oX10_war
    (List.forall_mem_cons.mpr ⟨cok_v (t := 3) (c := 3) (N := 8) (n := 2) (idx := 97) E (ct_G_X3_read X.2.1) (by rw [hR]; decide) (Nat.zero_le _) (Nat.zero_le _) hG rfl rfl ⟨rfl, by decide, by decide, by decide⟩ (fun _ => ⟨_, _, rfl, rfl⟩) wl_X10_97 wi_X3_read ws_X3_read wn_X3 wc_X3_read, List.forall_mem_cons.mpr ⟨cok_v (t := 15) (c := 0) (N := 9) (n := 0) (idx := 107) E (ct_G_X0_forgetAll X.2.1) (by rw [hR]; decide) (Nat.zero_le _) (Nat.zero_le _) hG rfl rfl ⟨rfl, by decide, by decide, by decide⟩ (fun _ => ⟨_, _, rfl, rfl⟩) wl_X10_107 wi_X0_forgetAll ws_X0_forgetAll wn_X0 wc_X0_forgetAll, fun _ h => absurd h List.not_mem_nil⟩⟩) R sok_no E
  show WP_ X G Q 0 0 ad SHS_ σ 0 [(10, 0), (9, 0)] []
  have hci := hp0.1
  refine B rfl ?_
  intro z1 ez1 hz1
  refine Exists.intro z1 (And.intro rfl (And.intro True.intro ?_))
  intro z2 σ4 h3
  have f5 : ∀ k j : Int, ¬ (k = 3 ∨ (z1 ≤ k ∧ k ≤ z1 + 10)) → σ4 k j = σ k j := h3.2.2
  have h6 : LG σ4 z1 := h3.1
  have h7 : UW σ4 z1 := h3.2.1
  intro z8 ez8 hz8
  have hz8 : (0 : Int) ≤ z8 ∧ z8 ≤ (3 : Int) := hz8
  try have t9 : σ4 3 6 = σ 3 6 := (f5 _ _ (by omega))
  refine And.intro (by omega) ?_
  intro σ10 e11
  intro z12 ez12 hz12
  have hz12 : ((-1) : Int) ≤ z12 ∧ z12 ≤ (1200 : Int) := hz12
  try have t13 : σ10 3 7 = σ 3 7 := ((ups_r e11 (by omega)).trans (f5 _ _ (by omega)))
  refine And.intro (by omega) ?_
  intro σ14 e15
  intro z16 ez16 hz16
  have hz16 : (0 : Int) ≤ z16 ∧ z16 ≤ (3 : Int) := hz16
  have t17 : σ14 0 12 = z8 := ((ups_r e15 (by omega))).trans (ups_v e11)
  refine And.intro (fun h18 => ?_) (fun h18 => ?_)
  · skip
    refine B rfl ?_
    intro z19 ez19 hz19
    try have t20 : σ14 0 2 = σ 0 2 := ((ups_r e15 (by omega)).trans ((ups_r e11 (by omega)).trans (f5 _ _ (by omega))))
    intro z21 ez21 hz21
    try have t22 : σ14 0 3 = σ 0 3 := ((ups_r e15 (by omega)).trans ((ups_r e11 (by omega)).trans (f5 _ _ (by omega))))
    intro σ23 e24
    intro σ25 e26
    refine And.intro (by omega) ?_
    intro σ27 e28
    refine Exists.intro () (And.intro rfl (And.intro True.intro ?_))
    intro z29 σ31 h30
    have f32 : ∀ k j : Int, ¬ (k = 30) → σ31 k j = σ27 k j := h30
    intro z33 ez33 hz33
    have t34 : σ31 0 2 = z21 := (((f32 _ _ (by omega)).trans ((ups_r e28 (by omega)).trans (ups_r e26 (by omega))))).trans (ups_v e24)
    intro z35 ez35 hz35
    have hz35 : (0 : Int) ≤ z35 ∧ z35 ≤ (1201 : Int) := hz35
    try have t36 : σ31 z33 0 = σ z33 0 := ((f32 _ _ (by omega)).trans ((ups_r e28 (by omega)).trans ((ups_r e26 (by omega)).trans ((ups_r e24 (by omega)).trans ((ups_r e15 (by omega)).trans ((ups_r e11 (by omega)).trans (f5 _ _ (by omega))))))))
    refine Exists.intro _ (And.intro rfl ?_)
    have t37 : σ31 0 3 = z19 := (((f32 _ _ (by omega)).trans (ups_r e28 (by omega)))).trans (ups_v e26)
    have p38 : LG σ31 z1 := LG_fr h6 (fun k j hk => ((f32 _ _ (by omega)).trans ((ups_r e28 (by omega)).trans ((ups_r e26 (by omega)).trans ((ups_r e24 (by omega)).trans ((ups_r e15 (by omega)).trans (ups_r e11 (by omega))))))))
    have p39 : UW σ31 z1 := UW_fr h7 (fun k j hk => ((f32 _ _ (by omega)).trans ((ups_r e28 (by omega)).trans ((ups_r e26 (by omega)).trans ((ups_r e24 (by omega)).trans ((ups_r e15 (by omega)).trans (ups_r e11 (by omega))))))))
    exact (And.intro (by show CI σ31; exact CI_swap (sp := z1) hp0 (by omega) (by omega) (by omega) p38 p39 (fun k j hk => ((f32 _ _ (by omega)).trans ((ups_r e28 (by omega)).trans ((ups_r e26 (by omega)).trans ((ups_r e24 (by omega)).trans ((ups_r e15 (by omega)).trans ((ups_r e11 (by omega)).trans (f5 _ _ (by omega)))))))))) (fun k j hk => ((f32 _ _ (by omega)).trans ((ups_r e28 (by omega)).trans ((ups_r e26 (by omega)).trans ((ups_r e24 (by omega)).trans ((ups_r e15 (by omega)).trans ((ups_r e11 (by omega)).trans (f5 _ _ (by omega))))))))))
  · skip
    refine Exists.intro _ (And.intro rfl ?_)
    try have t40 : σ14 0 2 = σ 0 2 := ((ups_r e15 (by omega)).trans ((ups_r e11 (by omega)).trans (f5 _ _ (by omega))))
    try have t41 : σ14 0 3 = σ 0 3 := ((ups_r e15 (by omega)).trans ((ups_r e11 (by omega)).trans (f5 _ _ (by omega))))
    exact (And.intro (by show CI σ14; exact CI_spare hp0 (fun k j hk => ((ups_r e15 (by omega)).trans ((ups_r e11 (by omega)).trans (f5 _ _ (by omega)))))) (fun k j hk => ((ups_r e15 (by omega)).trans ((ups_r e11 (by omega)).trans (f5 _ _ (by omega))))))
