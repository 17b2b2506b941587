def as_G_X9_takeBackLatest : Int → List Sv_t := fun a => [(15, a)]
def pre_G_X9_takeBackLatest : Int → Me_t → Prop := fun a σ => (UW σ a) ∧ (1 ≤ σ a 5)
def post_G_X9_takeBackLatest : Int → Me_t → Int → Me_t → Prop := fun a σ z σ' => (UW σ' a) ∧ (σ' a 2 = σ a 2) ∧ (σ' a 5 = σ a 5 - 1) ∧ (∀ k j : Int, ¬ (k = a ∨ k = a + 2) → σ' k j = σ k j)
set_option maxHeartbeats 1500000 in
set_option maxRecDepth 100000 in
theorem ct_G_X9_takeBackLatest (l : Launch) : CT_ l yX9_takeBackLatest cX9_takeBackLatest 3 (some .int) 2 66 as_G_X9_takeBackLatest (rmI_) pre_G_X9_takeBackLatest post_G_X9_takeBackLatest := by
  refine ct_of (by decide) (fun _ => Nat.le_of_ble_eq_true rfl) ?_
  intro X G Q ad σ a hl hR E hG R hM hv hp
  obtain ⟨a0, rfl⟩ : ∃ q : Int, q = a := ⟨_, rfl⟩
  have k_a0 : isWar_ a0 := tvWar_ (hv (15, a0) (List.mem_of_getElem? (i := 0) rfl))
  have r_a0 : 5 ≤ a0 ∧ a0 ≤ 67 := by unfold isWar_ at k_a0; omega
  have hp0 : UW σ a0 := hp.1
  have hp1 : 1 ≤ σ a0 5 := hp.2
  have B := @bk_ X G Q 0 0 ad SHS_ RX9 cX9_takeBackLatest 3 (some .int) flX9 plX9 knX9 [(178, 6, TR_ as_G_X9_insertFeast (rmV_) pre_G_X9_insertFeast post_G_X9_insertFeast)] _ _ none kX9_takeBackLatest [37, 66] flX9_ok plX9_ok knX9_ok eX9_takeBackLatest oX9_takeBackLatest
    (List.forall_mem_cons.mpr ⟨cok_v (t := 5) (c := 9) (N := 10) (n := 5) (idx := 89) E (ct_G_X9_insertFeast X.2.1) (by rw [hR]; decide) (Nat.zero_le _) (Nat.zero_le _) hG rfl rfl ⟨rfl, by decide, by decide, by decide⟩ (fun _ => ⟨_, _, rfl, rfl⟩) wl_X9_89 wi_X9_insertFeast ws_X9_insertFeast wn_X9 wc_X9_insertFeast, fun _ h => absurd h List.not_mem_nil⟩) R sok_no E
  show WP_ X G Q 0 0 ad SHS_ σ 0 [(15, a0), (9, 0), (9, 0)] []
  have hu := UW_t hp0 hp1
  refine B rfl ?_
  intro z1 ez1 hz1
  have hz1 : (0 : Int) ≤ z1 ∧ z1 ≤ (60 : Int) := hz1
  refine And.intro (by omega) ?_
  refine And.intro (by omega) ?_
  intro σ2 e3
  intro z4 ez4 hz4
  have hz4 : (0 : Int) ≤ z4 ∧ z4 ≤ (60 : Int) := hz4
  have t5 : σ2 a0 5 = z1 - 1 := ups_v e3
  have hq : z4 = σ a0 5 - 1 := by omega
  rw [← hq] at hu
  refine And.intro (by omega) ?_
  refine And.intro (by omega) ?_
  refine And.intro (by omega) ?_
  intro z6 ez6 hz6
  have hz6 : (0 : Int) ≤ z6 ∧ z6 ≤ (59 : Int) := hz6
  try have t7 : σ2 (a0 + 4) ((z4 * 6) + 1) = σ (a0 + 4) ((z4 * 6) + 1) := (ups_r e3 (by omega))
  refine And.intro (by omega) ?_
  intro z8 ez8 hz8
  have hz8 : (0 : Int) ≤ z8 ∧ z8 ≤ (59 : Int) := hz8
  try have t9 : σ2 (a0 + 4) (z4 * 6) = σ (a0 + 4) (z4 * 6) := (ups_r e3 (by omega))
  refine And.intro (fun h10 => ?_) (fun h10 => ?_)
  · skip
    refine B rfl ?_
    refine And.intro (by omega) ?_
    intro z11 ez11 hz11
    have q12 : z8 = z11 := ez8.trans ez11.symm
    subst q12
    refine And.intro (fun h13 => ?_) (fun h13 => ?_)
    · skip
      refine B rfl ?_
      refine And.intro (by omega) ?_
      refine And.intro (by omega) ?_
      intro z14 ez14 hz14
      have hz14 : (0 : Int) ≤ z14 ∧ z14 ≤ (59 : Int) := hz14
      try have t15 : σ2 (a0 + 4) ((z4 * 6) + 2) = σ (a0 + 4) ((z4 * 6) + 2) := (ups_r e3 (by omega))
      refine And.intro (by omega) ?_
      refine And.intro (by omega) ?_
      intro z16 ez16 hz16
      have hz16 : (0 : Int) ≤ z16 ∧ z16 ≤ (59 : Int) := hz16
      try have t17 : σ2 (a0 + 4) ((z4 * 6) + 3) = σ (a0 + 4) ((z4 * 6) + 3) := (ups_r e3 (by omega))
      refine And.intro (by omega) ?_
      refine And.intro (by omega) ?_
      intro z18 ez18 hz18
      have hz18 : (0 : Int) ≤ z18 ∧ z18 ≤ (59 : Int) := hz18
      try have t19 : σ2 (a0 + 4) ((z4 * 6) + 4) = σ (a0 + 4) ((z4 * 6) + 4) := (ups_r e3 (by omega))
      refine And.intro (by omega) ?_
      refine And.intro (by omega) ?_
      intro z20 ez20 hz20
      have hz20 : (0 : Int) ≤ z20 ∧ z20 ≤ (59 : Int) := hz20
      try have t21 : σ2 (a0 + 4) ((z4 * 6) + 5) = σ (a0 + 4) ((z4 * 6) + 5) := (ups_r e3 (by omega))
      try have t22 : σ2 a0 3 = σ a0 3 := (ups_r e3 (by omega))
      refine Exists.intro (a0, z6, z14, z16, z18, z20) (And.intro rfl (And.intro (And.intro (by show 0 ≤ z6; omega) (And.intro (by show z6 ≤ σ2 a0 3; omega) (And.intro (by show σ2 a0 3 ≤ 11; omega) (And.intro (by show 0 ≤ z14; omega) (And.intro (by show z14 ≤ 59; omega) (And.intro (by show 0 ≤ z16; omega) (And.intro (by show z16 ≤ 59; omega) (And.intro (by show 0 ≤ z18; omega) (And.intro (by show z18 ≤ 59; omega) (And.intro (by show 0 ≤ z20; omega) (by show z20 ≤ 59; omega))))))))))) ?_))
      intro z23 σ25 h24
      have f26 : ∀ k j : Int, ¬ (k = a0 ∨ k = a0 + 2) → σ25 k j = σ2 k j := h24.2.2
      have h27 : σ25 a0 3 = σ2 a0 3 + 1 := h24.1
      have h28 : ∀ j : Int, j ≠ 3 → σ25 a0 j = σ2 a0 j := h24.2.1
      refine And.intro (by omega) ?_
      refine And.intro (by omega) ?_
      intro z29 ez29 hz29
      have hz29 : (0 : Int) ≤ z29 ∧ z29 ≤ (59 : Int) := hz29
      try have t30 : σ25 (a0 + 4) ((z4 * 6) + 2) = σ2 (a0 + 4) ((z4 * 6) + 2) := (show σ25 (a0 + 4) ((z4 * 6) + 2) = σ2 (a0 + 4) ((z4 * 6) + 2) from by first | exact f26 _ _ (by omega) | exact h28 _ (by omega))
      refine Exists.intro _ (And.intro rfl ?_)
      try have t31 : σ25 a0 4 = σ a0 4 := ((show σ25 a0 4 = σ2 a0 4 from by first | exact f26 _ _ (by omega) | exact h28 _ (by omega)).trans (ups_r e3 (by omega)))
      try have t32 : σ25 a0 5 = σ2 a0 5 := (show σ25 a0 5 = σ2 a0 5 from by first | exact f26 _ _ (by omega) | exact h28 _ (by omega))
      try have t33 : σ25 a0 2 = σ a0 2 := ((show σ25 a0 2 = σ2 a0 2 from by first | exact f26 _ _ (by omega) | exact h28 _ (by omega)).trans (ups_r e3 (by omega)))
      exact (And.intro (by show UW σ25 a0; refine UW_c hp0 hp1 (by omega) (fun j => ((show σ25 (a0 + 4) j = σ2 (a0 + 4) j from by first | exact f26 _ _ (by omega) | exact h28 _ (by omega)).trans (ups_r e3 (by omega)))) ?_; rw [← hq]; omega) (And.intro (by show σ25 a0 2 = σ a0 2; omega) (And.intro (by show σ25 a0 5 = σ a0 5 - 1; omega) (fun k j hk => ((show σ25 k j = σ2 k j from by first | exact f26 _ _ (by omega) | exact h28 _ (by omega)).trans (ups_r e3 (by omega)))))))
    · skip
      show WP_ X G Q 0 0 ad SHS_ σ2 66 [(15, a0), (0, z4 * 6), (0, z6)] []
      refine B rfl ?_
      intro z34 ez34 hz34
      have hz34 : (0 : Int) ≤ z34 ∧ z34 ≤ (12 : Int) := hz34
      try have t35 : σ2 a0 4 = σ a0 4 := (ups_r e3 (by omega))
      refine And.intro (by omega) ?_
      refine And.intro (by omega) ?_
      intro σ36 e37
      refine And.intro (by omega) ?_
      refine And.intro (by omega) ?_
      intro z38 ez38 hz38
      have hz38 : (0 : Int) ≤ z38 ∧ z38 ≤ (1999 : Int) := hz38
      try have t39 : σ36 (a0 + 3) (z6 * 3) = σ (a0 + 3) (z6 * 3) := ((ups_r e37 (by omega)).trans (ups_r e3 (by omega)))
      refine Exists.intro _ (And.intro rfl ?_)
      try have t40 : σ36 a0 3 = σ a0 3 := ((ups_r e37 (by omega)).trans (ups_r e3 (by omega)))
      have t41 : σ36 a0 4 = z34 - 1 := ups_v e37
      try have t42 : σ36 a0 5 = σ2 a0 5 := (ups_r e37 (by omega))
      try have t43 : σ36 a0 2 = σ a0 2 := ((ups_r e37 (by omega)).trans (ups_r e3 (by omega)))
      exact (And.intro (by show UW σ36 a0; refine UW_c hp0 hp1 (by omega) (fun j => ((ups_r e37 (by omega)).trans (ups_r e3 (by omega)))) ?_; rw [← hq]; omega) (And.intro (by show σ36 a0 2 = σ a0 2; omega) (And.intro (by show σ36 a0 5 = σ a0 5 - 1; omega) (fun k j hk => ((ups_r e37 (by omega)).trans (ups_r e3 (by omega)))))))
  · skip
    show WP_ X G Q 0 0 ad SHS_ σ2 37 [(15, a0), (0, z4 * 6), (0, z6)] []
    refine B rfl ?_
    intro z44 ez44 hz44
    have hz44 : (0 : Int) ≤ z44 ∧ z44 ≤ (12 : Int) := hz44
    try have t45 : σ2 a0 3 = σ a0 3 := (ups_r e3 (by omega))
    refine And.intro (by omega) ?_
    refine And.intro (by omega) ?_
    intro σ46 e47
    refine And.intro (by omega) ?_
    refine And.intro (by omega) ?_
    intro z48 ez48 hz48
    have hz48 : (0 : Int) ≤ z48 ∧ z48 ≤ (59 : Int) := hz48
    try have t49 : σ46 (a0 + 2) (z6 * 4) = σ (a0 + 2) (z6 * 4) := ((ups_r e47 (by omega)).trans (ups_r e3 (by omega)))
    refine Exists.intro _ (And.intro rfl ?_)
    have t50 : σ46 a0 3 = z44 - 1 := ups_v e47
    try have t51 : σ46 a0 4 = σ a0 4 := ((ups_r e47 (by omega)).trans (ups_r e3 (by omega)))
    try have t52 : σ46 a0 5 = σ2 a0 5 := (ups_r e47 (by omega))
    try have t53 : σ46 a0 2 = σ a0 2 := ((ups_r e47 (by omega)).trans (ups_r e3 (by omega)))
    exact (And.intro (by show UW σ46 a0; refine UW_c hp0 hp1 (by omega) (fun j => ((ups_r e47 (by omega)).trans (ups_r e3 (by omega)))) ?_; rw [← hq]; omega) (And.intro (by show σ46 a0 2 = σ a0 2; omega) (And.intro (by show σ46 a0 5 = σ a0 5 - 1; omega) (fun k j hk => ((ups_r e47 (by omega)).trans (ups_r e3 (by omega)))))))
def as_G_X9_copyOf : Int × Int → List Sv_t := fun a => [(15, a.1), (15, a.2)]
def pre_G_X9_copyOf : Int × Int → Me_t → Prop := fun a σ => (a.1 + 11 ≤ a.2 ∨ a.2 + 11 ≤ a.1) ∧ (LG σ a.2) ∧ (UW σ a.2)
def post_G_X9_copyOf : Int × Int → Me_t → Int → Me_t → Prop := fun a σ z σ' => (LG σ' a.1) ∧ (UW σ' a.1) ∧ (∀ k j : Int, ¬ (a.1 ≤ k ∧ k ≤ a.1 + 10) → σ' k j = σ k j)
set_option maxHeartbeats 1500000 in
set_option maxRecDepth 100000 in
theorem ct_G_X9_copyOf (l : Launch) : CT_ l yX9_copyOf cX9_copyOf 3 none 2 61 as_G_X9_copyOf (rmV_) pre_G_X9_copyOf post_G_X9_copyOf := by
  refine ct_of (by decide) (fun _ => Nat.le_of_ble_eq_true rfl) ?_
  intro X G Q ad σ a hl hR E hG R hM hv hp
  obtain ⟨a0, a1⟩ := a
  have k_a0 : isWar_ a0 := tvWar_ (hv (15, a0) (List.mem_of_getElem? (i := 0) rfl))
  have r_a0 : 5 ≤ a0 ∧ a0 ≤ 67 := by unfold isWar_ at k_a0; omega
  have k_a1 : isWar_ a1 := tvWar_ (hv (15, a1) (List.mem_of_getElem? (i := 1) rfl))
  have r_a1 : 5 ≤ a1 ∧ a1 ≤ 67 := by unfold isWar_ at k_a1; omega
  have hp0 : a0 + 11 ≤ a1 ∨ a1 + 11 ≤ a0 := hp.1
  have hp1 : LG σ a1 := hp.2.1
  have hp2 : UW σ a1 := hp.2.2
  have B := @bk_ X G Q 0 0 ad SHS_ RX9 cX9_copyOf 3 none flX9 plX9 knX9 [(94, 2, TR_ as_G_X1_copyOf (rmV_) pre_G_X1_copyOf post_G_X1_copyOf), (103, 5, TAC_)] _ _ none kX9_copyOf [50, 55] flX9_ok plX9_ok knX9_ok eX9_copyOf oX9_copyOf
    (List.forall_mem_cons.mpr ⟨cok_v (t := 10) (c := 1) (N := 9) (n := 1) (idx := 47) E (ct_G_X1_copyOf X.2.1) (by rw [hR]; decide) (Nat.zero_le _) (Nat.zero_le _) hG rfl rfl ⟨rfl, by decide, by decide, by decide⟩ (fun _ => ⟨_, _, rfl, rfl⟩) wl_X9_47 wi_X1_copyOf ws_X1_copyOf wn_X1 wc_X1_copyOf, List.forall_mem_cons.mpr ⟨cok_ac (idx := 51) E (by rw [hR]; decide) wa_X9_51, fun _ h => absurd h List.not_mem_nil⟩⟩) R sok_no E
  show WP_ X G Q 0 0 ad SHS_ σ 0 [(15, a0), (15, a1), (9, 0)] []
  have r5 := rgf_ (t := 5) (j := 5) hM (hv (15, a1) (List.mem_of_getElem? (i := 1) rfl)) (by decide)
  have r5 : (0 : Int) ≤ σ a1 5 ∧ σ a1 5 ≤ (60 : Int) := r5
  refine B rfl ?_
  intro z1 ez1 hz1
  have hz1 : (0 : Int) ≤ z1 ∧ z1 ≤ (1201 : Int) := hz1
  refine And.intro (by omega) ?_
  intro σ2 e3
  intro z4 ez4 hz4
  have hz4 : (0 : Int) ≤ z4 ∧ z4 ≤ (100 : Int) := hz4
  try have t5 : σ2 a1 1 = σ a1 1 := (ups_r e3 (by omega))
  refine And.intro (by omega) ?_
  intro σ6 e7
  intro z8 ez8 hz8
  have hz8 : (0 : Int) ≤ z8 ∧ z8 ≤ (3 : Int) := hz8
  try have t9 : σ6 a1 2 = σ a1 2 := ((ups_r e7 (by omega)).trans (ups_r e3 (by omega)))
  refine And.intro (by omega) ?_
  intro σ10 e11
  intro z12 ez12 hz12
  have hz12 : (0 : Int) ≤ z12 ∧ z12 ≤ (12 : Int) := hz12
  try have t13 : σ10 a1 3 = σ a1 3 := ((ups_r e11 (by omega)).trans ((ups_r e7 (by omega)).trans (ups_r e3 (by omega))))
  refine And.intro (by omega) ?_
  intro σ14 e15
  intro z16 ez16 hz16
  have hz16 : (0 : Int) ≤ z16 ∧ z16 ≤ (12 : Int) := hz16
  try have t17 : σ14 a1 4 = σ a1 4 := ((ups_r e15 (by omega)).trans ((ups_r e11 (by omega)).trans ((ups_r e7 (by omega)).trans (ups_r e3 (by omega)))))
  refine And.intro (by omega) ?_
  intro σ18 e19
  intro z20 ez20 hz20
  have hz20 : (0 : Int) ≤ z20 ∧ z20 ≤ (60 : Int) := hz20
  try have t21 : σ18 a1 5 = σ a1 5 := ((ups_r e19 (by omega)).trans ((ups_r e15 (by omega)).trans ((ups_r e11 (by omega)).trans ((ups_r e7 (by omega)).trans (ups_r e3 (by omega))))))
  refine And.intro (by omega) ?_
  intro σ22 e23
  have lp_50 : ∀ (nq_ : Nat) (v2 : Int) (τ50 : Me_t), (∀ k j : Int, ¬ (a0 ≤ k ∧ k ≤ a0 + 10) → τ50 k j = σ k j) → (0 ≤ v2) → (v2 ≤ 3) → (τ50 a0 2 = σ a1 2) → (τ50 a0 3 = σ a1 3) → (τ50 a0 4 = σ a1 4) → (τ50 a0 5 = σ a1 5) → (∀ i : Int, 0 ≤ i → i < v2 → τ50 (a0 + 1 + 4 + 2 * i) 3 = σ (a1 + 1 + 4 + 2 * i) 3 ∧ τ50 (a0 + 1 + 4 + 2 * i) 1 = σ (a1 + 1 + 4 + 2 * i) 1) → (3 - v2 : Int).toNat < nq_ → WP_ X G Q 0 0 ad SHS_ τ50 50 [(15, a0), (15, a1), (0, v2)] [] := by
    intro nq_
    induction nq_ with
    | zero => intros; omega
    | succ nq_ ih_50 =>
      intro v2 τ50 hf50 hi50_0 hi50_1 hi50_2 hi50_3 hi50_4 hi50_5 hi50_6 hm50
      refine B rfl ?_
      refine And.intro (fun h24 => ?_) (fun h24 => ?_)
      · skip
        refine B rfl ?_
        refine Exists.intro 7 (Exists.intro 7 (Exists.intro 1 (Exists.intro 0 (Exists.intro 0 (Exists.intro 48 (Exists.intro 48 (Exists.intro (a1 + 2) (Exists.intro (a0 + 2) (Exists.intro 0 (Exists.intro 0 (Exists.intro 48 (And.intro rfl (And.intro rfl (And.intro rfl (And.intro rfl (And.intro (by decide) (And.intro (by omega) ?_)))))))))))))))))
        intro σ25 e26
        refine Exists.intro 8 (Exists.intro 8 (Exists.intro 1 (Exists.intro 0 (Exists.intro 0 (Exists.intro 36 (Exists.intro 36 (Exists.intro (a1 + 3) (Exists.intro (a0 + 3) (Exists.intro 0 (Exists.intro 0 (Exists.intro 36 (And.intro rfl (And.intro rfl (And.intro rfl (And.intro rfl (And.intro (by decide) (And.intro (by omega) ?_)))))))))))))))))
        intro σ27 e28
        refine Exists.intro 9 (Exists.intro 9 (Exists.intro 1 (Exists.intro 0 (Exists.intro 0 (Exists.intro 360 (Exists.intro 360 (Exists.intro (a1 + 4) (Exists.intro (a0 + 4) (Exists.intro 0 (Exists.intro 0 (Exists.intro 360 (And.intro rfl (And.intro rfl (And.intro rfl (And.intro rfl (And.intro (by decide) (And.intro (by omega) ?_)))))))))))))))))
        intro σ29 e30
        refine Exists.intro 0 (And.intro rfl ?_)
        try have t31 : σ29 a0 2 = τ50 a0 2 := ((ac_r e30 (by omega)).trans ((ac_r e28 (by omega)).trans (ac_r e26 (by omega))))
        try have t32 : σ29 a0 3 = τ50 a0 3 := ((ac_r e30 (by omega)).trans ((ac_r e28 (by omega)).trans (ac_r e26 (by omega))))
        try have t33 : σ29 a0 4 = τ50 a0 4 := ((ac_r e30 (by omega)).trans ((ac_r e28 (by omega)).trans (ac_r e26 (by omega))))
        try have t34 : σ29 a0 5 = τ50 a0 5 := ((ac_r e30 (by omega)).trans ((ac_r e28 (by omega)).trans (ac_r e26 (by omega))))
        exact (And.intro (by show LG σ29 a0; intro i h0 h2 h1; have q := hi50_6 i h0 (by omega); rw [show σ29 (a0 + 1 + 4 + 2 * i) 3 = τ50 (a0 + 1 + 4 + 2 * i) 3 from ((ac_r e30 (by omega)).trans ((ac_r e28 (by omega)).trans (ac_r e26 (by omega)))), show σ29 (a0 + 1 + 4 + 2 * i) 1 = τ50 (a0 + 1 + 4 + 2 * i) 1 from ((ac_r e30 (by omega)).trans ((ac_r e28 (by omega)).trans (ac_r e26 (by omega)))), q.1, q.2]; exact hp1 i h0 h2 (by omega)) (And.intro (by show UW σ29 a0; unfold UW; rw [show σ29 a0 5 = σ a1 5 by omega, show σ29 a0 3 = σ a1 3 by omega, show σ29 a0 4 = σ a1 4 by omega]; exact UN_cg (fun i hi => ⟨by show σ29 (a0 + 4) ((i : Int) * 6) = σ (a1 + 4) ((i : Int) * 6); rw [ac_v e30 (by omega), show (i : Int) * 6 - 0 + 0 = i * 6 by omega]; exact ((ac_r e28 (by omega)).trans ((ac_r e26 (by omega)).trans (hf50 _ _ (by omega)))), by show σ29 (a0 + 4) ((i : Int) * 6 + 1) = σ (a1 + 4) ((i : Int) * 6 + 1); rw [ac_v e30 (by omega), show (i : Int) * 6 + 1 - 0 + 0 = i * 6 + 1 by omega]; exact ((ac_r e28 (by omega)).trans ((ac_r e26 (by omega)).trans (hf50 _ _ (by omega))))⟩) hp2) (fun k j hk => ((ac_r e30 (by omega)).trans ((ac_r e28 (by omega)).trans ((ac_r e26 (by omega)).trans (hf50 _ _ (by omega))))))))
      · skip
        show WP_ X G Q 0 0 ad SHS_ τ50 55 [(15, a0), (15, a1), (0, v2)] []
        refine B rfl ?_
        refine And.intro (by omega) ?_
        refine And.intro (by omega) ?_
        refine Exists.intro ((a0 + 1) + 4 + 2 * v2, (a1 + 1) + 4 + 2 * v2) (And.intro rfl (And.intro (by show ((a0 + 1) + 4 + 2 * v2) + 1 < ((a1 + 1) + 4 + 2 * v2) ∨ ((a1 + 1) + 4 + 2 * v2) + 1 < ((a0 + 1) + 4 + 2 * v2); omega) ?_))
        intro z35 σ37 h36
        have f38 : ∀ k j : Int, ¬ (k = ((a0 + 1) + 4 + 2 * v2) ∨ k = ((a0 + 1) + 4 + 2 * v2) + 1) → σ37 k j = τ50 k j := h36.2.2
        have h39 : σ37 ((a0 + 1) + 4 + 2 * v2) 1 = τ50 ((a1 + 1) + 4 + 2 * v2) 1 := h36.1
        have h40 : σ37 ((a0 + 1) + 4 + 2 * v2) 3 = τ50 ((a1 + 1) + 4 + 2 * v2) 3 := h36.2.1
        have hcp : (σ37 (a0 + 1 + 4 + 2 * v2) 3 = σ (a1 + 1 + 4 + 2 * v2) 3 ∧ σ37 (a0 + 1 + 4 + 2 * v2) 1 = σ (a1 + 1 + 4 + 2 * v2) 1) := by
          have q1 := h36.1
          have q2 := h36.2.1
          have q3 : τ50 (a1 + 1 + 4 + 2 * v2) 3 = σ (a1 + 1 + 4 + 2 * v2) 3 := hf50 _ _ (by omega)
          have q4 : τ50 (a1 + 1 + 4 + 2 * v2) 1 = σ (a1 + 1 + 4 + 2 * v2) 1 := hf50 _ _ (by omega)
          exact ⟨q2.trans q3, q1.trans q4⟩
        refine And.intro (by omega) ?_
        try have t41 : σ37 a0 2 = τ50 a0 2 := (f38 _ _ (by omega))
        try have t42 : σ37 a0 3 = τ50 a0 3 := (f38 _ _ (by omega))
        try have t43 : σ37 a0 4 = τ50 a0 4 := (f38 _ _ (by omega))
        try have t44 : σ37 a0 5 = τ50 a0 5 := (f38 _ _ (by omega))
        try have t45 : σ37 (a0 + 1 + 4 + 2 * i) 3 = σ (a0 + 1 + 4 + 2 * i) 3 := ((f38 _ _ (by omega)).trans (hf50 _ _ (by omega)))
        try have t46 : σ37 (a0 + 1 + 4 + 2 * i) 1 = σ (a0 + 1 + 4 + 2 * i) 1 := ((f38 _ _ (by omega)).trans (hf50 _ _ (by omega)))
        exact ih_50 (v2 + 1) σ37 (fun k j hk => ((f38 _ _ (by omega)).trans (hf50 _ _ (by omega)))) (by show 0 ≤ (v2 + 1); omega) (by show (v2 + 1) ≤ 3; omega) (by show σ37 a0 2 = σ a1 2; omega) (by show σ37 a0 3 = σ a1 3; omega) (by show σ37 a0 4 = σ a1 4; omega) (by show σ37 a0 5 = σ a1 5; omega) (by show ∀ i : Int, 0 ≤ i → i < (v2 + 1) → σ37 (a0 + 1 + 4 + 2 * i) 3 = σ (a1 + 1 + 4 + 2 * i) 3 ∧ σ37 (a0 + 1 + 4 + 2 * i) 1 = σ (a1 + 1 + 4 + 2 * i) 1; intro i h1 h2; by_cases hj : i = v2; subst hj; have q1 := hcp; omega; rw [show σ37 (a0 + 1 + 4 + 2 * i) 3 = τ50 (a0 + 1 + 4 + 2 * i) 3 from f38 _ _ (by omega), show σ37 (a0 + 1 + 4 + 2 * i) 1 = τ50 (a0 + 1 + 4 + 2 * i) 1 from f38 _ _ (by omega)]; exact hi50_6 i h1 (by omega)) (by omega)
  have t47 : σ22 a0 2 = z8 := (((ups_r e23 (by omega)).trans ((ups_r e19 (by omega)).trans (ups_r e15 (by omega))))).trans (ups_v e11)
  have t48 : σ22 a0 3 = z12 := (((ups_r e23 (by omega)).trans (ups_r e19 (by omega)))).trans (ups_v e15)
  have t49 : σ22 a0 4 = z16 := ((ups_r e23 (by omega))).trans (ups_v e19)
  have t50 : σ22 a0 5 = z20 := ups_v e23
  try have t51 : σ22 (a0 + 1 + 4 + 2 * i) 3 = σ (a0 + 1 + 4 + 2 * i) 3 := ((ups_r e23 (by omega)).trans ((ups_r e19 (by omega)).trans ((ups_r e15 (by omega)).trans ((ups_r e11 (by omega)).trans ((ups_r e7 (by omega)).trans (ups_r e3 (by omega)))))))
  try have t52 : σ22 (a0 + 1 + 4 + 2 * i) 1 = σ (a0 + 1 + 4 + 2 * i) 1 := ((ups_r e23 (by omega)).trans ((ups_r e19 (by omega)).trans ((ups_r e15 (by omega)).trans ((ups_r e11 (by omega)).trans ((ups_r e7 (by omega)).trans (ups_r e3 (by omega)))))))
  exact lp_50 ((3 - 0 : Int).toNat + 1) 0 σ22 (fun k j hk => ((ups_r e23 (by omega)).trans ((ups_r e19 (by omega)).trans ((ups_r e15 (by omega)).trans ((ups_r e11 (by omega)).trans ((ups_r e7 (by omega)).trans (ups_r e3 (by omega)))))))) (by show 0 ≤ 0; omega) (by show 0 ≤ 3; omega) (by show σ22 a0 2 = σ a1 2; omega) (by show σ22 a0 3 = σ a1 3; omega) (by show σ22 a0 4 = σ a1 4; omega) (by show σ22 a0 5 = σ a1 5; omega) (by show ∀ i : Int, 0 ≤ i → i < 0 → σ22 (a0 + 1 + 4 + 2 * i) 3 = σ (a1 + 1 + 4 + 2 * i) 3 ∧ σ22 (a0 + 1 + 4 + 2 * i) 1 = σ (a1 + 1 + 4 + 2 * i) 1; intro i h1 h2; omega) (by omega)
def as_G_X10_found : Int × Int × Int × Int → List Sv_t := fun a => [(10, 0), (0, a.1), (0, a.2.1), (0, a.2.2.1), (0, a.2.2.2)]
def pre_G_X10_found : Int × Int × Int × Int → Me_t → Prop := fun a σ => (CI σ)
def post_G_X10_found : Int × Int × Int × Int → Me_t → Int → Me_t → Prop := fun a σ z σ' => (CI σ') ∧ (∀ k j : Int, ¬ (k ≤ 27 ∨ (29 ≤ k ∧ k ≤ 77)) → σ' k j = σ k j)
set_option maxHeartbeats 1500000 in
set_option maxRecDepth 100000 in
theorem ct_G_X10_found (l : Launch) : CT_ l yX10_found cX10_found 5 (some .int) 3 66 as_G_X10_found (rmI_) pre_G_X10_found post_G_X10_found := by
  refine ct_of (by decide) (fun _ => Nat.le_of_ble_eq_true rfl) ?_
  intro X G Q ad σ a hl hR E hG R hM hv hp
  obtain ⟨a1, a2, a3, a4⟩ := a
  have r_a1 : -2147483648 ≤ a1 ∧ a1 ≤ 2147483647 := hv (0, a1) (List.mem_of_getElem? (i := 1) rfl)
  have r_a2 : -2147483648 ≤ a2 ∧ a2 ≤ 2147483647 := hv (0, a2) (List.mem_of_getElem? (i := 2) rfl)
  have r_a3 : -2147483648 ≤ a3 ∧ a3 ≤ 2147483647 := hv (0, a3) (List.mem_of_getElem? (i := 3) rfl)
  have r_a4 : -2147483648 ≤ a4 ∧ a4 ≤ 2147483647 := hv (0, a4) (List.mem_of_getElem? (i := 4) rfl)
  have hp0 : CI σ := hp
  have B := @bk_ X G Q 0 0 ad SHS_ RX10 cX10_found 5 (some .int) flX10 plX10 knX10 [(678, 4, TR_ as_G_X9_hasPlainDate (rmI_) pre_G_X9_hasPlainDate post_G_X9_hasPlainDate), (690, 6, TR_ as_G_X9_insertFeast (rmV_) pre_G_X9_insertFeast post_G_X9_insertFeast), (696, 1, TR_ as_G_X9_noteFounded (rmV_) pre_G_X9_noteFounded post_G_X9_noteFounded), (702, 2, TR_ as_G_X0_forgetReasons (rmV_) pre_G_X0_forgetReasons post_G_X0_forgetReasons)] _ _ none kX10_found [13, 19, 26, 41, 53] flX10_ok plX10_ok knX10_ok eX10_found oX10_found
    (List.forall_mem_cons.mpr ⟨cok_v (t := 5) (c := 9) (N := 10) (n := 3) (idx := 339) E (ct_G_X9_hasPlainDate X.2.1) (by rw [hR]; decide) (Nat.zero_le _) (Nat.zero_le _) hG rfl rfl ⟨rfl, by decide, by decide, by decide⟩ (fun _ => ⟨_, _, rfl, rfl⟩) wl_X10_339 wi_X9_hasPlainDate ws_X9_hasPlainDate wn_X9 wc_X9_hasPlainDate, List.forall_mem_cons.mpr ⟨cok_v (t := 5) (c := 9) (N := 10) (n := 5) (idx := 345) E (ct_G_X9_insertFeast X.2.1) (by rw [hR]; decide) (Nat.zero_le _) (Nat.zero_le _) hG rfl rfl ⟨rfl, by decide, by decide, by decide⟩ (fun _ => ⟨_, _, rfl, rfl⟩) wl_X10_345 wi_X9_insertFeast ws_X9_insertFeast wn_X9 wc_X9_insertFeast, List.forall_mem_cons.mpr ⟨cok_v (t := 5) (c := 9) (N := 10) (n := 0) (idx := 348) E (ct_G_X9_noteFounded X.2.1) (by rw [hR]; decide) (Nat.zero_le _) (Nat.zero_le _) hG rfl rfl ⟨rfl, by decide, by decide, by decide⟩ (fun _ => ⟨_, _, rfl, rfl⟩) wl_X10_348 wi_X9_noteFounded ws_X9_noteFounded wn_X9 wc_X9_noteFounded, List.forall_mem_cons.mpr ⟨cok_v (t := 15) (c := 0) (N := 9) (n := 1) (idx := 351) E (ct_G_X0_forgetReasons X.2.1) (by rw [hR]; decide) (Nat.zero_le _) (Nat.zero_le _) hG rfl rfl ⟨rfl, by decide, by decide, by decide⟩ (fun _ => ⟨_, _, rfl, rfl⟩) wl_X10_351 wi_X0_forgetReasons ws_X0_forgetReasons wn_X0 wc_X0_forgetReasons, fun _ h => absurd h List.not_mem_nil⟩⟩⟩⟩) R sok_no E
  show WP_ X G Q 0 0 ad SHS_ σ 0 [(10, 0), (0, a1), (0, a2), (0, a3), (0, a4)] []
  refine B rfl ?_
  intro z1 ez1 hz1
  have cz1 : z1 = 5 ∨ z1 = 16 := by have := (hp0).1; omega
  have lz1 : LG σ z1 := by rw [ez1]; exact (hp0).2.1.1
  have uz1 : UW σ z1 := by rw [ez1]; exact (hp0).2.1.2
  refine Exists.intro (z1, a1, a2, a3) (And.intro rfl (And.intro True.intro ?_))
  rintro z2 m_ h3
  obtain rfl : σ = m_ := h3.2
  have h4 : (z2 = 1 ∧ 0 ≤ a1 ∧ a1 ≤ 2 ∧ a1 < σ z1 2 ∧ 0 ≤ a2 ∧ a2 ≤ 7 ∧ 0 ≤ a3 ∧ a3 ≤ 59) ∨ z2 = 0 := h3.1
  refine And.intro (fun h5 => ?_) (fun h5 => ?_)
  · skip
    refine B rfl ?_
    refine Exists.intro _ (And.intro rfl ?_)
    exact (And.intro (by show CI σ; exact hp0) (fun k j hk => rfl))
  · skip
    show WP_ X G Q 0 0 ad SHS_ σ 13 [(10, 0), (0, a1), (0, a2), (0, a3), (0, a4)] []
    refine B rfl ?_
    refine And.intro (fun h6 => ?_) (fun h6 => ?_)
    · skip
      refine B rfl ?_
      refine Exists.intro _ (And.intro rfl ?_)
      exact (And.intro (by show CI σ; exact hp0) (fun k j hk => rfl))
    · skip
      show WP_ X G Q 0 0 ad SHS_ σ 19 [(10, 0), (0, a1), (0, a2), (0, a3), (0, a4)] []
      refine B rfl ?_
      refine And.intro (fun h7 => ?_) (fun h7 => ?_)
      · skip
        refine B rfl ?_
        intro z8 ez8 hz8
        have q9 : z1 = z8 := ez1.trans ez8.symm
        subst q9
        intro z10 ez10 hz10
        have hz10 : (0 : Int) ≤ z10 ∧ z10 ≤ (12 : Int) := hz10
        refine And.intro (fun h11 => ?_) (fun h11 => ?_)
        · skip
          refine B rfl ?_
          refine Exists.intro _ (And.intro rfl ?_)
          exact (And.intro (by show CI σ; exact hp0) (fun k j hk => rfl))
        · skip
          show WP_ X G Q 0 0 ad SHS_ σ 41 [(10, 0), (0, a1), (0, a2), (0, a3), (0, a4)] []
          refine B rfl ?_
          intro z12 ez12 hz12
          have q13 : z1 = z12 := ez1.trans ez12.symm
          subst q13
          intro z14 ez14 hz14
          have hz14 : (0 : Int) ≤ z14 ∧ z14 ≤ (60 : Int) := hz14
          refine And.intro (fun h15 => ?_) (fun h15 => ?_)
          · skip
            refine B rfl ?_
            intro z16 ez16 hz16
            have q17 : z1 = z16 := ez1.trans ez16.symm
            subst q17
            intro z18 ez18 hz18
            have q19 : z1 = z18 := ez1.trans ez18.symm
            subst q19
            intro z20 ez20 hz20
            have q21 : z10 = z20 := ez10.trans ez20.symm
            subst q21
            refine Exists.intro (z1, z10, a1, a2, a3, a4) (And.intro rfl (And.intro (And.intro (by show 0 ≤ z10; omega) (And.intro (by show z10 ≤ σ z1 3; omega) (And.intro (by show σ z1 3 ≤ 11; omega) (And.intro (by show 0 ≤ a1; omega) (And.intro (by show a1 ≤ 59; omega) (And.intro (by show 0 ≤ a2; omega) (And.intro (by show a2 ≤ 59; omega) (And.intro (by show 0 ≤ a3; omega) (And.intro (by show a3 ≤ 59; omega) (And.intro (by show 0 ≤ a4; omega) (by show a4 ≤ 59; omega))))))))))) ?_))
            intro z22 σ24 h23
            have f25 : ∀ k j : Int, ¬ (k = z1 ∨ k = z1 + 2) → σ24 k j = σ k j := h23.2.2
            have h26 : σ24 z1 3 = σ z1 3 + 1 := h23.1
            have h27 : ∀ j : Int, j ≠ 3 → σ24 z1 j = σ z1 j := h23.2.1
            intro z28 ez28 hz28
            try have t29 : σ24 0 2 = σ 0 2 := (show σ24 0 2 = σ 0 2 from by first | exact f25 _ _ (by omega) | exact h27 _ (by omega))
            have q30 : z1 = z28 := by omega
            subst q30
            try have t31 : σ24 z1 5 = σ z1 5 := (show σ24 z1 5 = σ z1 5 from by first | exact f25 _ _ (by omega) | exact h27 _ (by omega))
            refine Exists.intro z1 (And.intro rfl (And.intro (And.intro (by show σ24 z1 5 ≤ 59; omega) (by show 1 ≤ σ24 z1 3; omega)) ?_))
            intro z32 σ34 h33
            have f35 : ∀ k j : Int, ¬ (k = z1 ∨ k = z1 + 4) → σ34 k j = σ24 k j := h33.2.2.2.2.2
            have h36 : σ34 z1 5 = σ24 z1 5 + 1 := h33.1
            have h37 : σ34 (z1 + 4) (σ24 z1 5 * 6) = 1 := h33.2.1
            have h38 : σ34 (z1 + 4) (σ24 z1 5 * 6 + 1) = σ24 z1 3 - 1 := h33.2.2.1
            have h39 : ∀ j : Int, j ≠ 5 → σ34 z1 j = σ24 z1 j := h33.2.2.2.1
            have h40 : ∀ j : Int, j < σ24 z1 5 * 6 → σ34 (z1 + 4) j = σ24 (z1 + 4) j := h33.2.2.2.2.1
            have n5 : σ24 z1 5 = σ z1 5 := (show σ24 z1 5 = σ z1 5 from by first | exact f25 _ _ (by omega) | exact h27 _ (by omega))
            have k1 := h33.2.1
            have k2 := h33.2.2.1
            have k3 := h33.2.2.2.2.1
            have k1 : σ34 (z1 + 4) (σ24 z1 5 * 6) = _ := k1
            have k2 : σ34 (z1 + 4) (σ24 z1 5 * 6 + 1) = _ := k2
            have k3 : ∀ j : Int, j < σ24 z1 5 * 6 → σ34 (z1 + 4) j = σ24 (z1 + 4) j := k3
            rw [n5] at k1 k2 k3
            have k4 : ∀ j : Int, j < σ z1 5 * 6 → σ34 (z1 + 4) j = σ (z1 + 4) j := fun j hj => (k3 j hj).trans (show σ24 (z1 + 4) j = σ (z1 + 4) j from by first | exact f25 _ _ (by omega) | exact h27 _ (by omega))
            refine Exists.intro a1 (And.intro rfl (And.intro True.intro ?_))
            intro z41 σ43 h42
            have f44 : ∀ k j : Int, ¬ (k = 30) → σ43 k j = σ34 k j := h42
            intro z45 ez45 hz45
            try have t46 : σ43 0 2 = σ24 0 2 := ((f44 _ _ (by omega)).trans (show σ34 0 2 = σ24 0 2 from by first | exact f35 _ _ (by omega) | exact h39 _ (by omega) | exact h40 _ (by omega)))
            have q47 : z1 = z45 := by omega
            subst q47
            intro z48 ez48 hz48
            have hz48 : (0 : Int) ≤ z48 ∧ z48 ≤ (12 : Int) := hz48
            try have t49 : σ43 z1 3 = σ24 z1 3 := ((f44 _ _ (by omega)).trans (show σ34 z1 3 = σ24 z1 3 from by first | exact f35 _ _ (by omega) | exact h39 _ (by omega) | exact h40 _ (by omega)))
            refine And.intro (by omega) ?_
            refine Exists.intro _ (And.intro rfl ?_)
            try have t50 : σ24 z1 2 = σ z1 2 := (show σ24 z1 2 = σ z1 2 from by first | exact f25 _ _ (by omega) | exact h27 _ (by omega))
            try have t51 : σ24 z1 3 = σ z1 3 := (show σ24 z1 3 = σ z1 3 from by first | exact f25 _ _ (by omega) | exact h27 _ (by omega))
            try have t52 : σ24 z1 4 = σ z1 4 := (show σ24 z1 4 = σ z1 4 from by first | exact f25 _ _ (by omega) | exact h27 _ (by omega))
            try have t53 : σ24 z1 5 = σ z1 5 := (show σ24 z1 5 = σ z1 5 from by first | exact f25 _ _ (by omega) | exact h27 _ (by omega))
            try have t54 : σ34 z1 2 = σ z1 2 := ((show σ34 z1 2 = σ24 z1 2 from by first | exact f35 _ _ (by omega) | exact h39 _ (by omega) | exact h40 _ (by omega)).trans (show σ24 z1 2 = σ z1 2 from by first | exact f25 _ _ (by omega) | exact h27 _ (by omega)))
            try have t55 : σ34 z1 3 = σ z1 3 := ((show σ34 z1 3 = σ24 z1 3 from by first | exact f35 _ _ (by omega) | exact h39 _ (by omega) | exact h40 _ (by omega)).trans (show σ24 z1 3 = σ z1 3 from by first | exact f25 _ _ (by omega) | exact h27 _ (by omega)))
            try have t56 : σ34 z1 4 = σ z1 4 := ((show σ34 z1 4 = σ24 z1 4 from by first | exact f35 _ _ (by omega) | exact h39 _ (by omega) | exact h40 _ (by omega)).trans (show σ24 z1 4 = σ z1 4 from by first | exact f25 _ _ (by omega) | exact h27 _ (by omega)))
            try have t57 : σ34 z1 5 = σ z1 5 := ((show σ34 z1 5 = σ24 z1 5 from by first | exact f35 _ _ (by omega) | exact h39 _ (by omega) | exact h40 _ (by omega)).trans (show σ24 z1 5 = σ z1 5 from by first | exact f25 _ _ (by omega) | exact h27 _ (by omega)))
            try have t58 : σ43 z1 2 = σ z1 2 := ((f44 _ _ (by omega)).trans ((show σ34 z1 2 = σ24 z1 2 from by first | exact f35 _ _ (by omega) | exact h39 _ (by omega) | exact h40 _ (by omega)).trans (show σ24 z1 2 = σ z1 2 from by first | exact f25 _ _ (by omega) | exact h27 _ (by omega))))
            try have t59 : σ43 z1 4 = σ z1 4 := ((f44 _ _ (by omega)).trans ((show σ34 z1 4 = σ24 z1 4 from by first | exact f35 _ _ (by omega) | exact h39 _ (by omega) | exact h40 _ (by omega)).trans (show σ24 z1 4 = σ z1 4 from by first | exact f25 _ _ (by omega) | exact h27 _ (by omega))))
            try have t60 : σ43 z1 5 = σ34 z1 5 := (f44 _ _ (by omega))
            try have t61 : σ43 0 3 = σ 0 3 := ((f44 _ _ (by omega)).trans ((show σ34 0 3 = σ24 0 3 from by first | exact f35 _ _ (by omega) | exact h39 _ (by omega) | exact h40 _ (by omega)).trans (show σ24 0 3 = σ 0 3 from by first | exact f25 _ _ (by omega) | exact h27 _ (by omega))))
            have k5 : σ43 (z1 + 4) (σ z1 5 * 6) = _ := ((f44 _ _ (by omega))).trans k1
            have k6 : σ43 (z1 + 4) (σ z1 5 * 6 + 1) = _ := ((f44 _ _ (by omega))).trans k2
            have k7 := UN_bd uz1
            exact (And.intro (by show CI σ43; refine CI_cur hp0 ez1 (by omega) (by omega) (LG_eq lz1 (by omega) (fun k j hk => ((f44 _ _ (by omega)).trans ((show σ34 k j = σ24 k j from by first | exact f35 _ _ (by omega) | exact h39 _ (by omega) | exact h40 _ (by omega)).trans (show σ24 k j = σ k j from by first | exact f25 _ _ (by omega) | exact h27 _ (by omega)))))) (UW_n uz1 (by omega) (by omega) (fun j hj => ((f44 _ _ (by omega))).trans (k4 j hj)) (by omega) (by omega)) (fun k j hk => ((f44 _ _ (by omega)).trans ((show σ34 k j = σ24 k j from by first | exact f35 _ _ (by omega) | exact h39 _ (by omega) | exact h40 _ (by omega)).trans (show σ24 k j = σ k j from by first | exact f25 _ _ (by omega) | exact h27 _ (by omega)))))) (fun k j hk => ((f44 _ _ (by omega)).trans ((show σ34 k j = σ24 k j from by first | exact f35 _ _ (by omega) | exact h39 _ (by omega) | exact h40 _ (by omega)).trans (show σ24 k j = σ k j from by first | exact f25 _ _ (by omega) | exact h27 _ (by omega))))))
          · skip
            show WP_ X G Q 0 0 ad SHS_ σ 53 [(10, 0), (0, a1), (0, a2), (0, a3), (0, a4)] []
            refine B rfl ?_
            refine Exists.intro _ (And.intro rfl ?_)
            exact (And.intro (by show CI σ; exact hp0) (fun k j hk => rfl))
      · skip
        show WP_ X G Q 0 0 ad SHS_ σ 26 [(10, 0), (0, a1), (0, a2), (0, a3), (0, a4)] []
        refine B rfl ?_
        refine Exists.intro _ (And.intro rfl ?_)
        exact (And.intro (by show CI σ; exact hp0) (fun k j hk => rfl))
def as_G_X10_grant : Int × Int × Int → List Sv_t := fun a => [(10, 0), (0, a.1), (0, a.2.1), (0, a.2.2)]
def pre_G_X10_grant : Int × Int × Int → Me_t → Prop := fun a σ => (CI σ)
def post_G_X10_grant : Int × Int × Int → Me_t → Int → Me_t → Prop := fun a σ z σ' => (CI σ') ∧ (∀ k j : Int, ¬ (k ≤ 27 ∨ (29 ≤ k ∧ k ≤ 77)) → σ' k j = σ k j)
set_option maxHeartbeats 1500000 in
set_option maxRecDepth 100000 in
theorem ct_G_X10_grant (l : Launch) : CT_ l yX10_grant cX10_grant 4 (some .int) 2 42 as_G_X10_grant (rmI_) pre_G_X10_grant post_G_X10_grant := by
  refine ct_of (by decide) (fun _ => Nat.le_of_ble_eq_true rfl) ?_
  intro X G Q ad σ a hl hR E hG R hM hv hp
  obtain ⟨a1, a2, a3⟩ := a
  have r_a1 : -2147483648 ≤ a1 ∧ a1 ≤ 2147483647 := hv (0, a1) (List.mem_of_getElem? (i := 1) rfl)
  have r_a2 : -2147483648 ≤ a2 ∧ a2 ≤ 2147483647 := hv (0, a2) (List.mem_of_getElem? (i := 2) rfl)
  have r_a3 : -2147483648 ≤ a3 ∧ a3 ≤ 2147483647 := hv (0, a3) (List.mem_of_getElem? (i := 3) rfl)
  have hp0 : CI σ := hp
  have B := @bk_ X G Q 0 0 ad SHS_ RX10 cX10_grant 4 (some .int) flX10 plX10 knX10 [(226, 2, TR_ as_G_X9_hasLand (rmI_) pre_G_X9_hasLand post_G_X9_hasLand), (499, 2, TR_ as_G_X10_isSpan (rmI_) pre_G_X10_isSpan post_G_X10_isSpan), (708, 4, TR_ as_G_X9_appendTruce (rmV_) pre_G_X9_appendTruce post_G_X9_appendTruce), (716, 1, TR_ as_G_X9_noteGranted (rmV_) pre_G_X9_noteGranted post_G_X9_noteGranted), (702, 2, TR_ as_G_X0_forgetReasons (rmV_) pre_G_X0_forgetReasons post_G_X0_forgetReasons)] _ _ none kX10_grant [] flX10_ok plX10_ok knX10_ok eX10_grant oX10_grant
    (List.forall_mem_cons.mpr ⟨cok_v (t := 5) (c := 9) (N := 10) (n := 1) (idx := 113) E (ct_G_X9_hasLand X.2.1) (by rw [hR]; decide) (Nat.zero_le _) (Nat.zero_le _) hG rfl rfl ⟨rfl, by decide, by decide, by decide⟩ (fun _ => ⟨_, _, rfl, rfl⟩) wl_X10_113 wi_X9_hasLand ws_X9_hasLand wn_X9 wc_X9_hasLand, List.forall_mem_cons.mpr ⟨cok_s (n := 2) (idx := 249) E (ct_G_X10_isSpan X.2.1) (by rw [hR]; decide) (Nat.zero_le _) (Nat.zero_le _) hG ⟨by decide, by decide, by decide⟩ (fun _ => rfl) wl_X10_249 wt_X10_isSpan wn_X10 wc_X10_isSpan, List.forall_mem_cons.mpr ⟨cok_v (t := 5) (c := 9) (N := 10) (n := 3) (idx := 354) E (ct_G_X9_appendTruce X.2.1) (by rw [hR]; decide) (Nat.zero_le _) (Nat.zero_le _) hG rfl rfl ⟨rfl, by decide, by decide, by decide⟩ (fun _ => ⟨_, _, rfl, rfl⟩) wl_X10_354 wi_X9_appendTruce ws_X9_appendTruce wn_X9 wc_X9_appendTruce, List.forall_mem_cons.mpr ⟨cok_v (t := 5) (c := 9) (N := 10) (n := 0) (idx := 358) E (ct_G_X9_noteGranted X.2.1) (by rw [hR]; decide) (Nat.zero_le _) (Nat.zero_le _) hG rfl rfl ⟨rfl, by decide, by decide, by decide⟩ (fun _ => ⟨_, _, rfl, rfl⟩) wl_X10_358 wi_X9_noteGranted ws_X9_noteGranted wn_X9 wc_X9_noteGranted, List.forall_mem_cons.mpr ⟨cok_v (t := 15) (c := 0) (N := 9) (n := 1) (idx := 351) E (ct_G_X0_forgetReasons X.2.1) (by rw [hR]; decide) (Nat.zero_le _) (Nat.zero_le _) hG rfl rfl ⟨rfl, by decide, by decide, by decide⟩ (fun _ => ⟨_, _, rfl, rfl⟩) wl_X10_351 wi_X0_forgetReasons ws_X0_forgetReasons wn_X0 wc_X0_forgetReasons, fun _ h => absurd h List.not_mem_nil⟩⟩⟩⟩⟩) R sok_no E
  show WP_ X G Q 0 0 ad SHS_ σ 0 [(10, 0), (0, a1), (0, a2), (0, a3)] []
  refine B rfl ?_
  intro z1 ez1 hz1
  have cz1 : z1 = 5 ∨ z1 = 16 := by have := (hp0).1; omega
  have lz1 : LG σ z1 := by rw [ez1]; exact (hp0).2.1.1
  have uz1 : UW σ z1 := by rw [ez1]; exact (hp0).2.1.2
  refine Exists.intro (z1, a1) (And.intro rfl (And.intro True.intro ?_))
  rintro z2 m_ h3
  obtain rfl : σ = m_ := h3.2
  have h4 : (z2 = 1 ∧ 0 ≤ a1 ∧ a1 ≤ 2 ∧ a1 < σ z1 2) ∨ z2 = 0 := h3.1
  refine And.intro (fun h5 => ?_) (fun h5 => ?_)
  · skip
    refine B rfl ?_
    refine Exists.intro _ (And.intro rfl ?_)
    exact (And.intro (by show CI σ; exact hp0) (fun k j hk => rfl))
  · skip
    refine Exists.intro (a2, a3) (And.intro rfl (And.intro True.intro ?_))
    rintro z6 m_ h7
    obtain rfl : σ = m_ := h7.2
    have h8 : (z6 = 1 ∧ 0 ≤ a2 ∧ a2 ≤ a3 ∧ a3 ≤ 1999) ∨ z6 = 0 := h7.1
    refine And.intro (fun h9 => ?_) (fun h9 => ?_)
    · skip
      refine B rfl ?_
      intro z10 ez10 hz10
      have q11 : z1 = z10 := ez1.trans ez10.symm
      subst q11
      intro z12 ez12 hz12
      have hz12 : (0 : Int) ≤ z12 ∧ z12 ≤ (12 : Int) := hz12
      refine And.intro (fun h13 => ?_) (fun h13 => ?_)
      · skip
        refine B rfl ?_
        refine Exists.intro _ (And.intro rfl ?_)
        exact (And.intro (by show CI σ; exact hp0) (fun k j hk => rfl))
      · skip
        intro z14 ez14 hz14
        have q15 : z1 = z14 := ez1.trans ez14.symm
        subst q15
        intro z16 ez16 hz16
        have hz16 : (0 : Int) ≤ z16 ∧ z16 ≤ (60 : Int) := hz16
        refine And.intro (fun h17 => ?_) (fun h17 => ?_)
        · skip
          refine B rfl ?_
          intro z18 ez18 hz18
          have q19 : z1 = z18 := ez1.trans ez18.symm
          subst q19
          refine Exists.intro (z1, a1, a2, a3) (And.intro rfl (And.intro (And.intro (by show σ z1 4 ≤ 11; omega) (And.intro (by show 0 ≤ a1; omega) (And.intro (by show a1 ≤ 1999; omega) (And.intro (by show 0 ≤ a2; omega) (And.intro (by show a2 ≤ 1999; omega) (And.intro (by show 0 ≤ a3; omega) (by show a3 ≤ 1999; omega))))))) ?_))
          intro z20 σ22 h21
          have f23 : ∀ k j : Int, ¬ (k = z1 ∨ k = z1 + 3) → σ22 k j = σ k j := h21.2.2
          have h24 : σ22 z1 4 = σ z1 4 + 1 := h21.1
          have h25 : ∀ j : Int, j ≠ 4 → σ22 z1 j = σ z1 j := h21.2.1
          intro z26 ez26 hz26
          try have t27 : σ22 0 2 = σ 0 2 := (show σ22 0 2 = σ 0 2 from by first | exact f23 _ _ (by omega) | exact h25 _ (by omega))
          have q28 : z1 = z26 := by omega
          subst q28
          try have t29 : σ22 z1 5 = σ z1 5 := (show σ22 z1 5 = σ z1 5 from by first | exact f23 _ _ (by omega) | exact h25 _ (by omega))
          refine Exists.intro z1 (And.intro rfl (And.intro (And.intro (by show σ22 z1 5 ≤ 59; omega) (by show 1 ≤ σ22 z1 4; omega)) ?_))
          intro z30 σ32 h31
          have f33 : ∀ k j : Int, ¬ (k = z1 ∨ k = z1 + 4) → σ32 k j = σ22 k j := h31.2.2.2.2.2
          have h34 : σ32 z1 5 = σ22 z1 5 + 1 := h31.1
          have h35 : σ32 (z1 + 4) (σ22 z1 5 * 6) = 2 := h31.2.1
          have h36 : σ32 (z1 + 4) (σ22 z1 5 * 6 + 1) = σ22 z1 4 - 1 := h31.2.2.1
          have h37 : ∀ j : Int, j ≠ 5 → σ32 z1 j = σ22 z1 j := h31.2.2.2.1
          have h38 : ∀ j : Int, j < σ22 z1 5 * 6 → σ32 (z1 + 4) j = σ22 (z1 + 4) j := h31.2.2.2.2.1
          have n5 : σ22 z1 5 = σ z1 5 := (show σ22 z1 5 = σ z1 5 from by first | exact f23 _ _ (by omega) | exact h25 _ (by omega))
          have k1 := h31.2.1
          have k2 := h31.2.2.1
          have k3 := h31.2.2.2.2.1
          have k1 : σ32 (z1 + 4) (σ22 z1 5 * 6) = _ := k1
          have k2 : σ32 (z1 + 4) (σ22 z1 5 * 6 + 1) = _ := k2
          have k3 : ∀ j : Int, j < σ22 z1 5 * 6 → σ32 (z1 + 4) j = σ22 (z1 + 4) j := k3
          rw [n5] at k1 k2 k3
          have k4 : ∀ j : Int, j < σ z1 5 * 6 → σ32 (z1 + 4) j = σ (z1 + 4) j := fun j hj => (k3 j hj).trans (show σ22 (z1 + 4) j = σ (z1 + 4) j from by first | exact f23 _ _ (by omega) | exact h25 _ (by omega))
          refine Exists.intro a1 (And.intro rfl (And.intro True.intro ?_))
          intro z39 σ41 h40
          have f42 : ∀ k j : Int, ¬ (k = 30) → σ41 k j = σ32 k j := h40
          intro z43 ez43 hz43
          try have t44 : σ41 0 2 = σ22 0 2 := ((f42 _ _ (by omega)).trans (show σ32 0 2 = σ22 0 2 from by first | exact f33 _ _ (by omega) | exact h37 _ (by omega) | exact h38 _ (by omega)))
          have q45 : z1 = z43 := by omega
          subst q45
          intro z46 ez46 hz46
          have hz46 : (0 : Int) ≤ z46 ∧ z46 ≤ (12 : Int) := hz46
          try have t47 : σ41 z1 4 = σ22 z1 4 := ((f42 _ _ (by omega)).trans (show σ32 z1 4 = σ22 z1 4 from by first | exact f33 _ _ (by omega) | exact h37 _ (by omega) | exact h38 _ (by omega)))
          refine And.intro (by omega) ?_
          refine Exists.intro _ (And.intro rfl ?_)
          try have t48 : σ22 z1 2 = σ z1 2 := (show σ22 z1 2 = σ z1 2 from by first | exact f23 _ _ (by omega) | exact h25 _ (by omega))
          try have t49 : σ22 z1 3 = σ z1 3 := (show σ22 z1 3 = σ z1 3 from by first | exact f23 _ _ (by omega) | exact h25 _ (by omega))
          try have t50 : σ22 z1 4 = σ z1 4 := (show σ22 z1 4 = σ z1 4 from by first | exact f23 _ _ (by omega) | exact h25 _ (by omega))
          try have t51 : σ22 z1 5 = σ z1 5 := (show σ22 z1 5 = σ z1 5 from by first | exact f23 _ _ (by omega) | exact h25 _ (by omega))
          try have t52 : σ32 z1 2 = σ z1 2 := ((show σ32 z1 2 = σ22 z1 2 from by first | exact f33 _ _ (by omega) | exact h37 _ (by omega) | exact h38 _ (by omega)).trans (show σ22 z1 2 = σ z1 2 from by first | exact f23 _ _ (by omega) | exact h25 _ (by omega)))
          try have t53 : σ32 z1 3 = σ z1 3 := ((show σ32 z1 3 = σ22 z1 3 from by first | exact f33 _ _ (by omega) | exact h37 _ (by omega) | exact h38 _ (by omega)).trans (show σ22 z1 3 = σ z1 3 from by first | exact f23 _ _ (by omega) | exact h25 _ (by omega)))
          try have t54 : σ32 z1 4 = σ z1 4 := ((show σ32 z1 4 = σ22 z1 4 from by first | exact f33 _ _ (by omega) | exact h37 _ (by omega) | exact h38 _ (by omega)).trans (show σ22 z1 4 = σ z1 4 from by first | exact f23 _ _ (by omega) | exact h25 _ (by omega)))
          try have t55 : σ32 z1 5 = σ z1 5 := ((show σ32 z1 5 = σ22 z1 5 from by first | exact f33 _ _ (by omega) | exact h37 _ (by omega) | exact h38 _ (by omega)).trans (show σ22 z1 5 = σ z1 5 from by first | exact f23 _ _ (by omega) | exact h25 _ (by omega)))
          try have t56 : σ41 z1 2 = σ z1 2 := ((f42 _ _ (by omega)).trans ((show σ32 z1 2 = σ22 z1 2 from by first | exact f33 _ _ (by omega) | exact h37 _ (by omega) | exact h38 _ (by omega)).trans (show σ22 z1 2 = σ z1 2 from by first | exact f23 _ _ (by omega) | exact h25 _ (by omega))))
          try have t57 : σ41 z1 3 = σ z1 3 := ((f42 _ _ (by omega)).trans ((show σ32 z1 3 = σ22 z1 3 from by first | exact f33 _ _ (by omega) | exact h37 _ (by omega) | exact h38 _ (by omega)).trans (show σ22 z1 3 = σ z1 3 from by first | exact f23 _ _ (by omega) | exact h25 _ (by omega))))
          try have t58 : σ41 z1 5 = σ32 z1 5 := (f42 _ _ (by omega))
          try have t59 : σ41 0 3 = σ 0 3 := ((f42 _ _ (by omega)).trans ((show σ32 0 3 = σ22 0 3 from by first | exact f33 _ _ (by omega) | exact h37 _ (by omega) | exact h38 _ (by omega)).trans (show σ22 0 3 = σ 0 3 from by first | exact f23 _ _ (by omega) | exact h25 _ (by omega))))
          have k5 : σ41 (z1 + 4) (σ z1 5 * 6) = _ := ((f42 _ _ (by omega))).trans k1
          have k6 : σ41 (z1 + 4) (σ z1 5 * 6 + 1) = _ := ((f42 _ _ (by omega))).trans k2
          have k7 := UN_bd uz1
          exact (And.intro (by show CI σ41; refine CI_cur hp0 ez1 (by omega) (by omega) (LG_eq lz1 (by omega) (fun k j hk => ((f42 _ _ (by omega)).trans ((show σ32 k j = σ22 k j from by first | exact f33 _ _ (by omega) | exact h37 _ (by omega) | exact h38 _ (by omega)).trans (show σ22 k j = σ k j from by first | exact f23 _ _ (by omega) | exact h25 _ (by omega)))))) (UW_n uz1 (by omega) (by omega) (fun j hj => ((f42 _ _ (by omega))).trans (k4 j hj)) (by omega) (by omega)) (fun k j hk => ((f42 _ _ (by omega)).trans ((show σ32 k j = σ22 k j from by first | exact f33 _ _ (by omega) | exact h37 _ (by omega) | exact h38 _ (by omega)).trans (show σ22 k j = σ k j from by first | exact f23 _ _ (by omega) | exact h25 _ (by omega)))))) (fun k j hk => ((f42 _ _ (by omega)).trans ((show σ32 k j = σ22 k j from by first | exact f33 _ _ (by omega) | exact h37 _ (by omega) | exact h38 _ (by omega)).trans (show σ22 k j = σ k j from by first | exact f23 _ _ (by omega) | exact h25 _ (by omega))))))
        · skip
          refine Exists.intro _ (And.intro rfl ?_)
          exact (And.intro (by show CI σ; exact hp0) (fun k j hk => rfl))
    · skip
      refine Exists.intro _ (And.intro rfl ?_)
      exact (And.intro (by show CI σ; exact hp0) (fun k j hk => rfl))
def as_G_X10_ends : Int → List Sv_t := fun a => [(10, 0), (0, a)]
def pre_G_X10_ends : Int → Me_t → Prop := fun a σ => (CI σ)
def post_G_X10_ends : Int → Me_t → Int → Me_t → Prop := fun a σ z σ' => (CI σ') ∧ (∀ k j : Int, ¬ (k ≤ 27 ∨ (29 ≤ k ∧ k ≤ 77)) → σ' k j = σ k j)
set_option maxHeartbeats 1500000 in
set_option maxRecDepth 100000 in
theorem ct_G_X10_ends (l : Launch) : CT_ l yX10_ends cX10_ends 3 (some .int) 2 62 as_G_X10_ends (rmI_) pre_G_X10_ends post_G_X10_ends := by
  refine ct_of (by decide) (fun _ => Nat.le_of_ble_eq_true rfl) ?_
  intro X G Q ad σ a hl hR E hG R hM hv hp
  obtain ⟨a1, rfl⟩ : ∃ q : Int, q = a := ⟨_, rfl⟩
  have r_a1 : -2147483648 ≤ a1 ∧ a1 ≤ 2147483647 := hv (0, a1) (List.mem_of_getElem? (i := 1) rfl)
  have hp0 : CI σ := hp
  have B := @bk_ X G Q 0 0 ad SHS_ RX10 cX10_ends 3 (some .int) flX10 plX10 knX10 [(226, 2, TR_ as_G_X9_hasLand (rmI_) pre_G_X9_hasLand post_G_X9_hasLand), (722, 2, TR_ as_G_X9_latestFeastOf (rmI_) pre_G_X9_latestFeastOf post_G_X9_latestFeastOf), (728, 2, TR_ as_G_X9_noteEnded (rmV_) pre_G_X9_noteEnded post_G_X9_noteEnded), (734, 2, TR_ as_G_X9_removeFeast (rmV_) pre_G_X9_removeFeast post_G_X9_removeFeast), (702, 2, TR_ as_G_X0_forgetReasons (rmV_) pre_G_X0_forgetReasons post_G_X0_forgetReasons)] _ _ none kX10_ends [] flX10_ok plX10_ok knX10_ok eX10_ends oX10_ends
    (List.forall_mem_cons.mpr ⟨cok_v (t := 5) (c := 9) (N := 10) (n := 1) (idx := 113) E (ct_G_X9_hasLand X.2.1) (by rw [hR]; decide) (Nat.zero_le _) (Nat.zero_le _) hG rfl rfl ⟨rfl, by decide, by decide, by decide⟩ (fun _ => ⟨_, _, rfl, rfl⟩) wl_X10_113 wi_X9_hasLand ws_X9_hasLand wn_X9 wc_X9_hasLand, List.forall_mem_cons.mpr ⟨cok_v (t := 5) (c := 9) (N := 10) (n := 1) (idx := 361) E (ct_G_X9_latestFeastOf X.2.1) (by rw [hR]; decide) (Nat.zero_le _) (Nat.zero_le _) hG rfl rfl ⟨rfl, by decide, by decide, by decide⟩ (fun _ => ⟨_, _, rfl, rfl⟩) wl_X10_361 wi_X9_latestFeastOf ws_X9_latestFeastOf wn_X9 wc_X9_latestFeastOf, List.forall_mem_cons.mpr ⟨cok_v (t := 5) (c := 9) (N := 10) (n := 1) (idx := 364) E (ct_G_X9_noteEnded X.2.1) (by rw [hR]; decide) (Nat.zero_le _) (Nat.zero_le _) hG rfl rfl ⟨rfl, by decide, by decide, by decide⟩ (fun _ => ⟨_, _, rfl, rfl⟩) wl_X10_364 wi_X9_noteEnded ws_X9_noteEnded wn_X9 wc_X9_noteEnded, List.forall_mem_cons.mpr ⟨cok_v (t := 5) (c := 9) (N := 10) (n := 1) (idx := 367) E (ct_G_X9_removeFeast X.2.1) (by rw [hR]; decide) (Nat.zero_le _) (Nat.zero_le _) hG rfl rfl ⟨rfl, by decide, by decide, by decide⟩ (fun _ => ⟨_, _, rfl, rfl⟩) wl_X10_367 wi_X9_removeFeast ws_X9_removeFeast wn_X9 wc_X9_removeFeast, List.forall_mem_cons.mpr ⟨cok_v (t := 15) (c := 0) (N := 9) (n := 1) (idx := 351) E (ct_G_X0_forgetReasons X.2.1) (by rw [hR]; decide) (Nat.zero_le _) (Nat.zero_le _) hG rfl rfl ⟨rfl, by decide, by decide, by decide⟩ (fun _ => ⟨_, _, rfl, rfl⟩) wl_X10_351 wi_X0_forgetReasons ws_X0_forgetReasons wn_X0 wc_X0_forgetReasons, fun _ h => absurd h List.not_mem_nil⟩⟩⟩⟩⟩) R sok_no E
  show WP_ X G Q 0 0 ad SHS_ σ 0 [(10, 0), (0, a1), (9, 0)] []
  refine B rfl ?_
  intro z1 ez1 hz1
  have cz1 : z1 = 5 ∨ z1 = 16 := by have := (hp0).1; omega
  have lz1 : LG σ z1 := by rw [ez1]; exact (hp0).2.1.1
  have uz1 : UW σ z1 := by rw [ez1]; exact (hp0).2.1.2
  refine Exists.intro (z1, a1) (And.intro rfl (And.intro True.intro ?_))
  rintro z2 m_ h3
  obtain rfl : σ = m_ := h3.2
  have h4 : (z2 = 1 ∧ 0 ≤ a1 ∧ a1 ≤ 2 ∧ a1 < σ z1 2) ∨ z2 = 0 := h3.1
  refine And.intro (fun h5 => ?_) (fun h5 => ?_)
  · skip
    refine B rfl ?_
    intro z6 ez6 hz6
    have q7 : z1 = z6 := ez1.trans ez6.symm
    subst q7
    refine Exists.intro (z1, a1) (And.intro rfl (And.intro True.intro ?_))
    rintro z8 m_ h9
    obtain rfl : σ = m_ := h9.2
    have h10 : z8 = -1 ∨ (0 ≤ z8 ∧ z8 < σ z1 3) := h9.1
    refine And.intro (fun h11 => ?_) (fun h11 => ?_)
    · skip
      refine B rfl ?_
      intro z12 ez12 hz12
      have q13 : z1 = z12 := ez1.trans ez12.symm
      subst q13
      intro z14 ez14 hz14
      have hz14 : (0 : Int) ≤ z14 ∧ z14 ≤ (60 : Int) := hz14
      refine And.intro (fun h15 => ?_) (fun h15 => ?_)
      · skip
        refine B rfl ?_
        intro z16 ez16 hz16
        have q17 : z1 = z16 := ez1.trans ez16.symm
        subst q17
        have k0 := UN_bd uz1
        refine Exists.intro (z1, z8) (And.intro rfl (And.intro (And.intro (by show σ z1 5 ≤ 59; omega) (And.intro (by show 0 ≤ z8; omega) (by show z8 ≤ 11; omega))) ?_))
        intro z18 σ20 h19
        have f21 : ∀ k j : Int, ¬ (k = z1 ∨ k = z1 + 4) → σ20 k j = σ k j := h19.2.2.2.2.2
        have h22 : σ20 z1 5 = σ z1 5 + 1 := h19.1
        have h23 : σ20 (z1 + 4) (σ z1 5 * 6) = 3 := h19.2.1
        have h24 : σ20 (z1 + 4) (σ z1 5 * 6 + 1) = z8 := h19.2.2.1
        have h25 : ∀ j : Int, j ≠ 5 → σ20 z1 j = σ z1 j := h19.2.2.2.1
        have h26 : ∀ j : Int, j < σ z1 5 * 6 → σ20 (z1 + 4) j = σ (z1 + 4) j := h19.2.2.2.2.1
        have n5 : σ z1 5 = σ z1 5 := rfl
        have k1 := h19.2.1
        have k2 := h19.2.2.1
        have k3 := h19.2.2.2.2.1
        have k1 : σ20 (z1 + 4) (σ z1 5 * 6) = _ := k1
        have k2 : σ20 (z1 + 4) (σ z1 5 * 6 + 1) = _ := k2
        have k3 : ∀ j : Int, j < σ z1 5 * 6 → σ20 (z1 + 4) j = σ (z1 + 4) j := k3
        rw [n5] at k1 k2 k3
        have k4 : ∀ j : Int, j < σ z1 5 * 6 → σ20 (z1 + 4) j = σ (z1 + 4) j := fun j hj => (k3 j hj).trans rfl
        intro z27 ez27 hz27
        try have t28 : σ20 0 2 = σ 0 2 := (show σ20 0 2 = σ 0 2 from by first | exact f21 _ _ (by omega) | exact h25 _ (by omega) | exact h26 _ (by omega))
        have q29 : z1 = z27 := by omega
        subst q29
        try have t30 : σ20 z1 3 = σ z1 3 := (show σ20 z1 3 = σ z1 3 from by first | exact f21 _ _ (by omega) | exact h25 _ (by omega) | exact h26 _ (by omega))
        refine Exists.intro (z1, z8) (And.intro rfl (And.intro (And.intro (by show 0 ≤ z8; omega) (by show z8 < σ20 z1 3; omega)) ?_))
        intro z31 σ33 h32
        have f34 : ∀ k j : Int, ¬ (k = z1 ∨ k = z1 + 2) → σ33 k j = σ20 k j := h32.2.2
        have h35 : σ33 z1 3 = σ20 z1 3 - 1 := h32.1
        have h36 : ∀ j : Int, j ≠ 3 → σ33 z1 j = σ20 z1 j := h32.2.1
        refine Exists.intro a1 (And.intro rfl (And.intro True.intro ?_))
        intro z37 σ39 h38
        have f40 : ∀ k j : Int, ¬ (k = 30) → σ39 k j = σ33 k j := h38
        refine Exists.intro _ (And.intro rfl ?_)
        try have t41 : σ20 z1 2 = σ z1 2 := (show σ20 z1 2 = σ z1 2 from by first | exact f21 _ _ (by omega) | exact h25 _ (by omega) | exact h26 _ (by omega))
        try have t42 : σ20 z1 3 = σ z1 3 := (show σ20 z1 3 = σ z1 3 from by first | exact f21 _ _ (by omega) | exact h25 _ (by omega) | exact h26 _ (by omega))
        try have t43 : σ20 z1 4 = σ z1 4 := (show σ20 z1 4 = σ z1 4 from by first | exact f21 _ _ (by omega) | exact h25 _ (by omega) | exact h26 _ (by omega))
        try have t44 : σ20 z1 5 = σ z1 5 := (show σ20 z1 5 = σ z1 5 from by first | exact f21 _ _ (by omega) | exact h25 _ (by omega) | exact h26 _ (by omega))
        try have t45 : σ33 z1 2 = σ z1 2 := ((show σ33 z1 2 = σ20 z1 2 from by first | exact f34 _ _ (by omega) | exact h36 _ (by omega)).trans (show σ20 z1 2 = σ z1 2 from by first | exact f21 _ _ (by omega) | exact h25 _ (by omega) | exact h26 _ (by omega)))
        try have t46 : σ33 z1 3 = σ z1 3 := ((show σ33 z1 3 = σ20 z1 3 from by first | exact f34 _ _ (by omega) | exact h36 _ (by omega)).trans (show σ20 z1 3 = σ z1 3 from by first | exact f21 _ _ (by omega) | exact h25 _ (by omega) | exact h26 _ (by omega)))
        try have t47 : σ33 z1 4 = σ z1 4 := ((show σ33 z1 4 = σ20 z1 4 from by first | exact f34 _ _ (by omega) | exact h36 _ (by omega)).trans (show σ20 z1 4 = σ z1 4 from by first | exact f21 _ _ (by omega) | exact h25 _ (by omega) | exact h26 _ (by omega)))
        try have t48 : σ33 z1 5 = σ z1 5 := ((show σ33 z1 5 = σ20 z1 5 from by first | exact f34 _ _ (by omega) | exact h36 _ (by omega)).trans (show σ20 z1 5 = σ z1 5 from by first | exact f21 _ _ (by omega) | exact h25 _ (by omega) | exact h26 _ (by omega)))
        try have t49 : σ39 z1 2 = σ z1 2 := ((f40 _ _ (by omega)).trans ((show σ33 z1 2 = σ20 z1 2 from by first | exact f34 _ _ (by omega) | exact h36 _ (by omega)).trans (show σ20 z1 2 = σ z1 2 from by first | exact f21 _ _ (by omega) | exact h25 _ (by omega) | exact h26 _ (by omega))))
        try have t50 : σ39 z1 3 = σ33 z1 3 := (f40 _ _ (by omega))
        try have t51 : σ39 z1 4 = σ z1 4 := ((f40 _ _ (by omega)).trans ((show σ33 z1 4 = σ20 z1 4 from by first | exact f34 _ _ (by omega) | exact h36 _ (by omega)).trans (show σ20 z1 4 = σ z1 4 from by first | exact f21 _ _ (by omega) | exact h25 _ (by omega) | exact h26 _ (by omega))))
        try have t52 : σ39 z1 5 = σ20 z1 5 := ((f40 _ _ (by omega)).trans (show σ33 z1 5 = σ20 z1 5 from by first | exact f34 _ _ (by omega) | exact h36 _ (by omega)))
        try have t53 : σ39 0 2 = σ20 0 2 := ((f40 _ _ (by omega)).trans (show σ33 0 2 = σ20 0 2 from by first | exact f34 _ _ (by omega) | exact h36 _ (by omega)))
        try have t54 : σ39 0 3 = σ 0 3 := ((f40 _ _ (by omega)).trans ((show σ33 0 3 = σ20 0 3 from by first | exact f34 _ _ (by omega) | exact h36 _ (by omega)).trans (show σ20 0 3 = σ 0 3 from by first | exact f21 _ _ (by omega) | exact h25 _ (by omega) | exact h26 _ (by omega))))
        have k5 : σ39 (z1 + 4) (σ z1 5 * 6) = _ := (((f40 _ _ (by omega)).trans (show σ33 (z1 + 4) (σ z1 5 * 6) = σ20 (z1 + 4) (σ z1 5 * 6) from by first | exact f34 _ _ (by omega) | exact h36 _ (by omega)))).trans k1
        have k6 : σ39 (z1 + 4) (σ z1 5 * 6 + 1) = _ := (((f40 _ _ (by omega)).trans (show σ33 (z1 + 4) (σ z1 5 * 6 + 1) = σ20 (z1 + 4) (σ z1 5 * 6 + 1) from by first | exact f34 _ _ (by omega) | exact h36 _ (by omega)))).trans k2
        have k7 := UN_bd uz1
        exact (And.intro (by show CI σ39; refine CI_cur hp0 ez1 (by omega) (by omega) (LG_eq lz1 (by omega) (fun k j hk => ((f40 _ _ (by omega)).trans ((show σ33 k j = σ20 k j from by first | exact f34 _ _ (by omega) | exact h36 _ (by omega)).trans (show σ20 k j = σ k j from by first | exact f21 _ _ (by omega) | exact h25 _ (by omega) | exact h26 _ (by omega)))))) (UW_n uz1 (by omega) (by omega) (fun j hj => (((f40 _ _ (by omega)).trans (show σ33 (z1 + 4) j = σ20 (z1 + 4) j from by first | exact f34 _ _ (by omega) | exact h36 _ (by omega)))).trans (k4 j hj)) (by omega) (by omega)) (fun k j hk => ((f40 _ _ (by omega)).trans ((show σ33 k j = σ20 k j from by first | exact f34 _ _ (by omega) | exact h36 _ (by omega)).trans (show σ20 k j = σ k j from by first | exact f21 _ _ (by omega) | exact h25 _ (by omega) | exact h26 _ (by omega)))))) (fun k j hk => ((f40 _ _ (by omega)).trans ((show σ33 k j = σ20 k j from by first | exact f34 _ _ (by omega) | exact h36 _ (by omega)).trans (show σ20 k j = σ k j from by first | exact f21 _ _ (by omega) | exact h25 _ (by omega) | exact h26 _ (by omega))))))
      · skip
        refine Exists.intro _ (And.intro rfl ?_)
        exact (And.intro (by show CI σ; exact hp0) (fun k j hk => rfl))
    · skip
      refine Exists.intro _ (And.intro rfl ?_)
      exact (And.intro (by show CI σ; exact hp0) (fun k j hk => rfl))
  · skip
    refine Exists.intro _ (And.intro rfl ?_)
    exact (And.intro (by show CI σ; exact hp0) (fun k j hk => rfl))
def as_G_X10_undo : Unit → List Sv_t := fun a => [(10, 0)]
def pre_G_X10_undo : Unit → Me_t → Prop := fun a σ => (CI σ)
def post_G_X10_undo : Unit → Me_t → Int → Me_t → Prop := fun a σ z σ' => (CI σ') ∧ (∀ k j : Int, ¬ (k ≤ 27 ∨ (29 ≤ k ∧ k ≤ 77)) → σ' k j = σ k j)
set_option maxHeartbeats 1500000 in
set_option maxRecDepth 100000 in
theorem ct_G_X10_undo (l : Launch) : CT_ l yX10_undo cX10_undo 1 (some .int) 3 88 as_G_X10_undo (rmI_) pre_G_X10_undo post_G_X10_undo := by
  refine ct_of (by decide) (fun _ => Nat.le_of_ble_eq_true rfl) ?_
  intro X G Q ad σ a hl hR E hG R hM hv hp
  have hp0 : CI σ := hp
  have B := @bk_ X G Q 0 0 ad SHS_ RX10 cX10_undo 1 (some .int) flX10 plX10 knX10 [(740, 1, TR_ as_G_X9_takeBackLatest (rmI_) pre_G_X9_takeBackLatest post_G_X9_takeBackLatest), (702, 2, TR_ as_G_X0_forgetReasons (rmV_) pre_G_X0_forgetReasons post_G_X0_forgetReasons)] _ _ none kX10_undo [] flX10_ok plX10_ok knX10_ok eX10_undo oX10_undo
    (List.forall_mem_cons.mpr ⟨cok_v (t := 5) (c := 9) (N := 10) (n := 0) (idx := 370) E (ct_G_X9_takeBackLatest X.2.1) (by rw [hR]; decide) (Nat.zero_le _) (Nat.zero_le _) hG rfl rfl ⟨rfl, by decide, by decide, by decide⟩ (fun _ => ⟨_, _, rfl, rfl⟩) wl_X10_370 wi_X9_takeBackLatest ws_X9_takeBackLatest wn_X9 wc_X9_takeBackLatest, List.forall_mem_cons.mpr ⟨cok_v (t := 15) (c := 0) (N := 9) (n := 1) (idx := 351) E (ct_G_X0_forgetReasons X.2.1) (by rw [hR]; decide) (Nat.zero_le _) (Nat.zero_le _) hG rfl rfl ⟨rfl, by decide, by decide, by decide⟩ (fun _ => ⟨_, _, rfl, rfl⟩) wl_X10_351 wi_X0_forgetReasons ws_X0_forgetReasons wn_X0 wc_X0_forgetReasons, fun _ h => absurd h List.not_mem_nil⟩⟩) R sok_no E
  show WP_ X G Q 0 0 ad SHS_ σ 0 [(10, 0)] []
  refine B rfl ?_
  intro z1 ez1 hz1
  have cz1 : z1 = 5 ∨ z1 = 16 := by have := (hp0).1; omega
  have lz1 : LG σ z1 := by rw [ez1]; exact (hp0).2.1.1
  have uz1 : UW σ z1 := by rw [ez1]; exact (hp0).2.1.2
  intro z2 ez2 hz2
  have hz2 : (0 : Int) ≤ z2 ∧ z2 ≤ (1201 : Int) := hz2
  refine And.intro (fun h3 => ?_) (fun h3 => ?_)
  · skip
    refine B rfl ?_
    intro z4 ez4 hz4
    have q5 : z1 = z4 := ez1.trans ez4.symm
    subst q5
    intro z6 ez6 hz6
    have hz6 : (0 : Int) ≤ z6 ∧ z6 ≤ (60 : Int) := hz6
    refine And.intro (fun h7 => ?_) (fun h7 => ?_)
    · skip
      refine B rfl ?_
      intro z8 ez8 hz8
      have q9 : z1 = z8 := ez1.trans ez8.symm
      subst q9
      refine Exists.intro z1 (And.intro rfl (And.intro (And.intro uz1 (by show 1 ≤ σ z1 5; omega)) ?_))
      intro z10 σ12 h11
      have f13 : ∀ k j : Int, ¬ (k = z1 ∨ k = z1 + 2) → σ12 k j = σ k j := h11.2.2.2
      have h14 : UW σ12 z1 := h11.1
      have h15 : σ12 z1 2 = σ z1 2 := h11.2.1
      have h16 : σ12 z1 5 = σ z1 5 - 1 := h11.2.2.1
      refine Exists.intro z10 (And.intro rfl (And.intro True.intro ?_))
      intro z17 σ19 h18
      have f20 : ∀ k j : Int, ¬ (k = 30) → σ19 k j = σ12 k j := h18
      intro z21 ez21 hz21
      try have t22 : σ19 0 2 = σ 0 2 := ((f20 _ _ (by omega)).trans (f13 _ _ (by omega)))
      have q23 : z1 = z21 := by omega
      subst q23
      intro z24 ez24 hz24
      have hz24 : (0 : Int) ≤ z24 ∧ z24 ≤ (60 : Int) := hz24
      try have t25 : σ19 z1 5 = σ12 z1 5 := (f20 _ _ (by omega))
      refine Exists.intro _ (And.intro rfl ?_)
      try have t26 : σ19 0 3 = σ 0 3 := ((f20 _ _ (by omega)).trans (f13 _ _ (by omega)))
      try have t27 : σ19 z1 2 = σ12 z1 2 := (f20 _ _ (by omega))
      have p28 : UW σ19 z1 := UW_fr h14 (fun k j hk => (f20 _ _ (by omega)))
      exact (And.intro (by show CI σ19; refine CI_cur hp0 ez1 (by omega) (by omega) (LG_eq lz1 (by omega) (fun k j hk => ((f20 _ _ (by omega)).trans (f13 _ _ (by omega))))) p28 (fun k j hk => ((f20 _ _ (by omega)).trans (f13 _ _ (by omega))))) (fun k j hk => ((f20 _ _ (by omega)).trans (f13 _ _ (by omega)))))
    · skip
      refine Exists.intro _ (And.intro rfl ?_)
      exact (And.intro (by show CI σ; exact hp0) (fun k j hk => rfl))
  · skip
    refine Exists.intro _ (And.intro rfl ?_)
    exact (And.intro (by show CI σ; exact hp0) (fun k j hk => rfl))
def as_G_X10_image : Int → List Sv_t := fun a => [(10, 0), (0, a)]
def pre_G_X10_image : Int → Me_t → Prop := fun a σ => (CI σ)
def post_G_X10_image : Int → Me_t → Int → Me_t → Prop := fun a σ z σ' => (CI σ') ∧ ((0 ≤ a ∧ a ≤ 2 → z = 0) ∧ (¬ (0 ≤ a ∧ a ≤ 2) → z = -2)) ∧ (0 ≤ a ∧ a ≤ 2 → σ' 28 a = 1) ∧ (∀ j : Int, j ≠ a → σ' 28 j = σ 28 j) ∧ (∀ k j : Int, ¬ (k ≤ 77) → σ' k j = σ k j)
set_option maxHeartbeats 1500000 in
set_option maxRecDepth 100000 in
theorem ct_G_X10_image (l : Launch) : CT_ l yX10_image cX10_image 2 (some .int) 3 83 as_G_X10_image (rmI_) pre_G_X10_image post_G_X10_image := by
  refine ct_of (by decide) (fun _ => Nat.le_of_ble_eq_true rfl) ?_
  intro X G Q ad σ a hl hR E hG R hM hv hp
  obtain ⟨a1, rfl⟩ : ∃ q : Int, q = a := ⟨_, rfl⟩
  have r_a1 : -2147483648 ≤ a1 ∧ a1 ≤ 2147483647 := hv (0, a1) (List.mem_of_getElem? (i := 1) rfl)
  have hp0 : CI σ := hp
  have B := @bk_ X G Q 0 0 ad SHS_ RX10 cX10_image 2 (some .int) flX10 plX10 knX10 [(788, 2, TR_ as_G_X9_copyOf (rmV_) pre_G_X9_copyOf post_G_X9_copyOf)] _ _ none kX10_image [] flX10_ok plX10_ok knX10_ok eX10_image oX10_image
    (List.forall_mem_cons.mpr ⟨cok_v (t := 5) (c := 9) (N := 10) (n := 1) (idx := 394) E (ct_G_X9_copyOf X.2.1) (by rw [hR]; decide) (Nat.zero_le _) (Nat.zero_le _) hG rfl rfl ⟨rfl, by decide, by decide, by decide⟩ (fun _ => ⟨_, _, rfl, rfl⟩) wl_X10_394 wi_X9_copyOf ws_X9_copyOf wn_X9 wc_X9_copyOf, fun _ h => absurd h List.not_mem_nil⟩) R sok_no E
  show WP_ X G Q 0 0 ad SHS_ σ 0 [(10, 0), (0, a1)] []
  refine B rfl ?_
  refine And.intro (fun h1 => ?_) (fun h1 => ?_)
  · skip
    refine B rfl ?_
    refine Exists.intro _ (And.intro rfl ?_)
    exact (And.intro (by show CI σ; exact hp0) (And.intro (by show (0 ≤ a1 ∧ a1 ≤ 2 → (-2) = 0) ∧ (¬ (0 ≤ a1 ∧ a1 ≤ 2) → (-2) = -2); omega) (And.intro (by show 0 ≤ a1 ∧ a1 ≤ 2 → σ 28 a1 = 1; omega) (And.intro (by show ∀ j : Int, j ≠ a1 → σ 28 j = σ 28 j; intro j hj0; exact rfl) (fun k j hk => rfl)))))
  · skip
    refine And.intro (fun h2 => ?_) (fun h2 => ?_)
    · skip
      refine B rfl ?_
      refine And.intro (by omega) ?_
      intro z3 ez3 hz3
      have cz3 : z3 = 5 ∨ z3 = 16 := by have := (hp0).1; omega
      have lz3 : LG σ z3 := by rw [ez3]; exact (hp0).2.1.1
      have uz3 : UW σ z3 := by rw [ez3]; exact (hp0).2.1.2
      refine Exists.intro (45 + 11 * a1, z3) (And.intro rfl (And.intro (And.intro (by show (45 + 11 * a1) + 11 ≤ z3 ∨ z3 + 11 ≤ (45 + 11 * a1); omega) (And.intro lz3 uz3)) ?_))
      intro z4 σ6 h5
      have f7 : ∀ k j : Int, ¬ ((45 + 11 * a1) ≤ k ∧ k ≤ (45 + 11 * a1) + 10) → σ6 k j = σ k j := h5.2.2
      have h8 : LG σ6 (45 + 11 * a1) := h5.1
      have h9 : UW σ6 (45 + 11 * a1) := h5.2.1
      refine And.intro (by omega) ?_
      refine And.intro (by show (0 : Int) ≤ _ ∧ _ ≤ (1 : Int); omega) ?_
      intro σ10 e11
      refine Exists.intro _ (And.intro rfl ?_)
      have t12 : σ10 28 a1 = 1 := ups_v e11
      exact (And.intro (by show CI σ10; exact CI_fr (CI_img (x := 45 + 11 * a1) hp0 (by omega) h8 h9 f7) (fun k j hk => (ups_r e11 (by omega)))) (And.intro (by show (0 ≤ a1 ∧ a1 ≤ 2 → 0 = 0) ∧ (¬ (0 ≤ a1 ∧ a1 ≤ 2) → 0 = -2); omega) (And.intro (by show 0 ≤ a1 ∧ a1 ≤ 2 → σ10 28 a1 = 1; omega) (And.intro (by show ∀ j : Int, j ≠ a1 → σ10 28 j = σ 28 j; intro j hj0; exact ((ups_r e11 (by omega)).trans (f7 _ _ (by omega)))) (fun k j hk => ((ups_r e11 (by omega)).trans (f7 _ _ (by omega))))))))
    · skip
      refine Exists.intro _ (And.intro rfl ?_)
      exact (And.intro (by show CI σ; exact hp0) (And.intro (by show (0 ≤ a1 ∧ a1 ≤ 2 → (-2) = 0) ∧ (¬ (0 ≤ a1 ∧ a1 ≤ 2) → (-2) = -2); omega) (And.intro (by show 0 ≤ a1 ∧ a1 ≤ 2 → σ 28 a1 = 1; omega) (And.intro (by show ∀ j : Int, j ≠ a1 → σ 28 j = σ 28 j; intro j hj0; exact rfl) (fun k j hk => rfl)))))
def as_G_X10_back : Int → List Sv_t := fun a => [(10, 0), (0, a)]
def pre_G_X10_back : Int → Me_t → Prop := fun a σ => (CI σ)
def post_G_X10_back : Int → Me_t → Int → Me_t → Prop := fun a σ z σ' => (CI σ') ∧ ((¬ (0 ≤ a ∧ a ≤ 2) → z = -2) ∧ (0 ≤ a ∧ a ≤ 2 ∧ σ 28 a = 0 → z = -6) ∧ (0 ≤ a ∧ a ≤ 2 ∧ σ 28 a ≠ 0 → z = 0)) ∧ (∀ k j : Int, ¬ (k ≤ 27 ∨ (29 ≤ k ∧ k ≤ 77)) → σ' k j = σ k j)
set_option maxHeartbeats 1500000 in
set_option maxRecDepth 100000 in
theorem ct_G_X10_back (l : Launch) : CT_ l yX10_back cX10_back 2 (some .int) 3 83 as_G_X10_back (rmI_) pre_G_X10_back post_G_X10_back := by
  refine ct_of (by decide) (fun _ => Nat.le_of_ble_eq_true rfl) ?_
  intro X G Q ad σ a hl hR E hG R hM hv hp
  obtain ⟨a1, rfl⟩ : ∃ q : Int, q = a := ⟨_, rfl⟩
  have r_a1 : -2147483648 ≤ a1 ∧ a1 ≤ 2147483647 := hv (0, a1) (List.mem_of_getElem? (i := 1) rfl)
  have hp0 : CI σ := hp
  have B := @bk_ X G Q 0 0 ad SHS_ RX10 cX10_back 2 (some .int) flX10 plX10 knX10 [(788, 2, TR_ as_G_X9_copyOf (rmV_) pre_G_X9_copyOf post_G_X9_copyOf), (214, 1, TR_ as_G_X0_forgetAll (rmV_) pre_G_X0_forgetAll post_G_X0_forgetAll)] _ _ none kX10_back [] flX10_ok plX10_ok knX10_ok eX10_back oX10_back
    (List.forall_mem_cons.mpr ⟨cok_v (t := 5) (c := 9) (N := 10) (n := 1) (idx := 394) E (ct_G_X9_copyOf X.2.1) (by rw [hR]; decide) (Nat.zero_le _) (Nat.zero_le _) hG rfl rfl ⟨rfl, by decide, by decide, by decide⟩ (fun _ => ⟨_, _, rfl, rfl⟩) wl_X10_394 wi_X9_copyOf ws_X9_copyOf wn_X9 wc_X9_copyOf, List.forall_mem_cons.mpr ⟨cok_v (t := 15) (c := 0) (N := 9) (n := 0) (idx := 107) E (ct_G_X0_forgetAll X.2.1) (by rw [hR]; decide) (Nat.zero_le _) (Nat.zero_le _) hG rfl rfl ⟨rfl, by decide, by decide, by decide⟩ (fun _ => ⟨_, _, rfl, rfl⟩) wl_X10_107 wi_X0_forgetAll ws_X0_forgetAll wn_X0 wc_X0_forgetAll, fun _ h => absurd h List.not_mem_nil⟩⟩) R sok_no E
  show WP_ X G Q 0 0 ad SHS_ σ 0 [(10, 0), (0, a1)] []
  refine B rfl ?_
  refine And.intro (fun h1 => ?_) (fun h1 => ?_)
  · skip
    refine B rfl ?_
    refine Exists.intro _ (And.intro rfl ?_)
    exact (And.intro (by show CI σ; exact hp0) (And.intro (by show (¬ (0 ≤ a1 ∧ a1 ≤ 2) → (-2) = -2) ∧ (0 ≤ a1 ∧ a1 ≤ 2 ∧ σ 28 a1 = 0 → (-2) = -6) ∧ (0 ≤ a1 ∧ a1 ≤ 2 ∧ σ 28 a1 ≠ 0 → (-2) = 0); omega) (fun k j hk => rfl)))
  · skip
    refine And.intro (fun h2 => ?_) (fun h2 => ?_)
    · skip
      refine B rfl ?_
      refine And.intro (by omega) ?_
      intro z3 ez3 hz3
      have hz3 : (0 : Int) ≤ z3 ∧ z3 ≤ (1 : Int) := hz3
      refine And.intro (fun h4 => ?_) (fun h4 => ?_)
      · skip
        refine B rfl ?_
        intro z5 ez5 hz5
        have cz5 : z5 = 5 ∨ z5 = 16 := by have := (hp0).1; omega
        have lz5 : LG σ z5 := by rw [ez5]; exact (hp0).2.1.1
        have uz5 : UW σ z5 := by rw [ez5]; exact (hp0).2.1.2
        refine And.intro (by omega) ?_
        have pq := hp0.2.2.1 (45 + 11 * a1) (by omega)
        have pl := pq.1
        have pu := pq.2
        refine Exists.intro (z5, 45 + 11 * a1) (And.intro rfl (And.intro (And.intro (by show z5 + 11 ≤ (45 + 11 * a1) ∨ (45 + 11 * a1) + 11 ≤ z5; omega) (And.intro pl pu)) ?_))
        intro z7 σ9 h8
        have f10 : ∀ k j : Int, ¬ (z5 ≤ k ∧ k ≤ z5 + 10) → σ9 k j = σ k j := h8.2.2
        have h11 : LG σ9 z5 := h8.1
        have h12 : UW σ9 z5 := h8.2.1
        refine Exists.intro () (And.intro rfl (And.intro True.intro ?_))
        intro z13 σ15 h14
        have f16 : ∀ k j : Int, ¬ (k = 30) → σ15 k j = σ9 k j := h14
        refine Exists.intro _ (And.intro rfl ?_)
        try have t17 : σ15 0 2 = σ 0 2 := ((f16 _ _ (by omega)).trans (f10 _ _ (by omega)))
        try have t18 : σ15 0 3 = σ 0 3 := ((f16 _ _ (by omega)).trans (f10 _ _ (by omega)))
        have p19 : LG σ15 z5 := LG_fr h11 (fun k j hk => (f16 _ _ (by omega)))
        have p20 : UW σ15 z5 := UW_fr h12 (fun k j hk => (f16 _ _ (by omega)))
        exact (And.intro (by show CI σ15; exact CI_cur hp0 ez5 (by omega) (by omega) p19 p20 (fun k j hk => ((f16 _ _ (by omega)).trans (f10 _ _ (by omega))))) (And.intro (by show (¬ (0 ≤ a1 ∧ a1 ≤ 2) → 0 = -2) ∧ (0 ≤ a1 ∧ a1 ≤ 2 ∧ σ 28 a1 = 0 → 0 = -6) ∧ (0 ≤ a1 ∧ a1 ≤ 2 ∧ σ 28 a1 ≠ 0 → 0 = 0); omega) (fun k j hk => ((f16 _ _ (by omega)).trans (f10 _ _ (by omega))))))
      · skip
        refine Exists.intro _ (And.intro rfl ?_)
        exact (And.intro (by show CI σ; exact hp0) (And.intro (by show (¬ (0 ≤ a1 ∧ a1 ≤ 2) → (-6) = -2) ∧ (0 ≤ a1 ∧ a1 ≤ 2 ∧ σ 28 a1 = 0 → (-6) = -6) ∧ (0 ≤ a1 ∧ a1 ≤ 2 ∧ σ 28 a1 ≠ 0 → (-6) = 0); omega) (fun k j hk => rfl)))
    · skip
      refine Exists.intro _ (And.intro rfl ?_)
      exact (And.intro (by show CI σ; exact hp0) (And.intro (by show (¬ (0 ≤ a1 ∧ a1 ≤ 2) → (-2) = -2) ∧ (0 ≤ a1 ∧ a1 ≤ 2 ∧ σ 28 a1 = 0 → (-2) = -6) ∧ (0 ≤ a1 ∧ a1 ≤ 2 ∧ σ 28 a1 ≠ 0 → (-2) = 0); omega) (fun k j hk => rfl)))
def as_G_X10_row : Int × Int × Int → List Sv_t := fun a => [(10, 0), (0, a.1), (0, a.2.1), (0, a.2.2)]
def pre_G_X10_row : Int × Int × Int → Me_t → Prop := fun a σ => (CI σ)
def post_G_X10_row : Int × Int × Int → Me_t → Int → Me_t → Prop := fun a σ z σ' => (CI σ') ∧ ((¬ ((0 ≤ a.1 ∧ a.1 ≤ 3) ∧ (0 ≤ a.2.1 ∧ a.2.1 ≤ 3) ∧ a.2.2 ≤ 60) → z = -2) ∧ ((0 ≤ a.1 ∧ a.1 ≤ 3) ∧ (0 ≤ a.2.1 ∧ a.2.1 ≤ 3) ∧ a.2.2 ≤ 60 ∧ a.2.2 < 0 → z = -3) ∧ ((0 ≤ a.1 ∧ a.1 ≤ 3) ∧ (0 ≤ a.2.1 ∧ a.2.1 ≤ 3) ∧ a.2.2 ≤ 60 ∧ 0 ≤ a.2.2 → z = 0)) ∧ (z = 0 → σ' (78 + 2 * a.1) 1 = 1 ∧ σ' (78 + 2 * a.1) 2 = a.2.1 ∧ σ' (78 + 2 * a.1) 3 = a.2.2) ∧ (z = 0 ∨ ∀ k j : Int, σ' k j = σ k j) ∧ (∀ k j : Int, ¬ (k = 78 + 2 * a.1 ∨ k = 79 + 2 * a.1) → σ' k j = σ k j)
set_option maxHeartbeats 1500000 in
set_option maxRecDepth 100000 in
theorem ct_G_X10_row (l : Launch) : CT_ l yX10_row cX10_row 4 (some .int) 2 46 as_G_X10_row (rmI_) pre_G_X10_row post_G_X10_row := by
  refine ct_of (by decide) (fun _ => Nat.le_of_ble_eq_true rfl) ?_
  intro X G Q ad σ a hl hR E hG R hM hv hp
  obtain ⟨a1, a2, a3⟩ := a
  have r_a1 : -2147483648 ≤ a1 ∧ a1 ≤ 2147483647 := hv (0, a1) (List.mem_of_getElem? (i := 1) rfl)
  have r_a2 : -2147483648 ≤ a2 ∧ a2 ≤ 2147483647 := hv (0, a2) (List.mem_of_getElem? (i := 2) rfl)
  have r_a3 : -2147483648 ≤ a3 ∧ a3 ≤ 2147483647 := hv (0, a3) (List.mem_of_getElem? (i := 3) rfl)
  have hp0 : CI σ := hp
  have B := @bk_ X G Q 0 0 ad SHS_ RX10 cX10_row 4 (some .int) flX10 plX10 knX10 [(797, 1, TR_ as_G_X10_isSlot (rmI_) pre_G_X10_isSlot post_G_X10_isSlot), (802, 3, TR_ as_G_X4_renew (rmV_) pre_G_X4_renew post_G_X4_renew)] _ _ none kX10_row [] flX10_ok plX10_ok knX10_ok eX10_row oX10_row
    (List.forall_mem_cons.mpr ⟨cok_s (n := 1) (idx := 398) E (ct_G_X10_isSlot X.2.1) (by rw [hR]; decide) (Nat.zero_le _) (Nat.zero_le _) hG ⟨by decide, by decide, by decide⟩ (fun _ => rfl) wl_X10_398 wt_X10_isSlot wn_X10 wc_X10_isSlot, List.forall_mem_cons.mpr ⟨cok_v (t := 30) (c := 4) (N := 4) (n := 2) (idx := 401) E (ct_G_X4_renew X.2.1) (by rw [hR]; decide) (Nat.zero_le _) (Nat.zero_le _) hG rfl rfl ⟨rfl, by decide, by decide, by decide⟩ (fun _ => ⟨_, _, rfl, rfl⟩) wl_X10_401 wi_X4_renew ws_X4_renew wn_X4 wc_X4_renew, fun _ h => absurd h List.not_mem_nil⟩⟩) R sok_no E
  show WP_ X G Q 0 0 ad SHS_ σ 0 [(10, 0), (0, a1), (0, a2), (0, a3)] []
  refine B rfl ?_
  refine Exists.intro a1 (And.intro rfl (And.intro True.intro ?_))
  rintro z1 m_ h2
  obtain rfl : σ = m_ := h2.2
  have h3 : (z1 = 1 ∧ 0 ≤ a1 ∧ a1 ≤ 3) ∨ (z1 = 0 ∧ ¬ (0 ≤ a1 ∧ a1 ≤ 3)) := h2.1
  refine And.intro (fun h4 => ?_) (fun h4 => ?_)
  · skip
    refine B rfl ?_
    refine Exists.intro _ (And.intro rfl ?_)
    exact (And.intro hp0 (And.intro (by show (¬ ((0 ≤ a1 ∧ a1 ≤ 3) ∧ (0 ≤ a2 ∧ a2 ≤ 3) ∧ a3 ≤ 60) → (-2) = -2) ∧ ((0 ≤ a1 ∧ a1 ≤ 3) ∧ (0 ≤ a2 ∧ a2 ≤ 3) ∧ a3 ≤ 60 ∧ a3 < 0 → (-2) = -3) ∧ ((0 ≤ a1 ∧ a1 ≤ 3) ∧ (0 ≤ a2 ∧ a2 ≤ 3) ∧ a3 ≤ 60 ∧ 0 ≤ a3 → (-2) = 0); omega) (And.intro (by show (-2) = 0 → σ (78 + 2 * a1) 1 = 1 ∧ σ (78 + 2 * a1) 2 = a2 ∧ σ (78 + 2 * a1) 3 = a3; omega) (And.intro (by show (-2) = 0 ∨ ∀ k j : Int, σ k j = σ k j; exact Or.inr (fun _ _ => rfl)) (fun k j hk => rfl)))))
  · skip
    refine And.intro (fun h5 => ?_) (fun h5 => ?_)
    · skip
      refine B rfl ?_
      refine Exists.intro _ (And.intro rfl ?_)
      exact (And.intro hp0 (And.intro (by show (¬ ((0 ≤ a1 ∧ a1 ≤ 3) ∧ (0 ≤ a2 ∧ a2 ≤ 3) ∧ a3 ≤ 60) → (-2) = -2) ∧ ((0 ≤ a1 ∧ a1 ≤ 3) ∧ (0 ≤ a2 ∧ a2 ≤ 3) ∧ a3 ≤ 60 ∧ a3 < 0 → (-2) = -3) ∧ ((0 ≤ a1 ∧ a1 ≤ 3) ∧ (0 ≤ a2 ∧ a2 ≤ 3) ∧ a3 ≤ 60 ∧ 0 ≤ a3 → (-2) = 0); omega) (And.intro (by show (-2) = 0 → σ (78 + 2 * a1) 1 = 1 ∧ σ (78 + 2 * a1) 2 = a2 ∧ σ (78 + 2 * a1) 3 = a3; omega) (And.intro (by show (-2) = 0 ∨ ∀ k j : Int, σ k j = σ k j; exact Or.inr (fun _ _ => rfl)) (fun k j hk => rfl)))))
    · skip
      refine And.intro (fun h6 => ?_) (fun h6 => ?_)
      · skip
        refine B rfl ?_
        refine Exists.intro _ (And.intro rfl ?_)
        exact (And.intro hp0 (And.intro (by show (¬ ((0 ≤ a1 ∧ a1 ≤ 3) ∧ (0 ≤ a2 ∧ a2 ≤ 3) ∧ a3 ≤ 60) → (-2) = -2) ∧ ((0 ≤ a1 ∧ a1 ≤ 3) ∧ (0 ≤ a2 ∧ a2 ≤ 3) ∧ a3 ≤ 60 ∧ a3 < 0 → (-2) = -3) ∧ ((0 ≤ a1 ∧ a1 ≤ 3) ∧ (0 ≤ a2 ∧ a2 ≤ 3) ∧ a3 ≤ 60 ∧ 0 ≤ a3 → (-2) = 0); omega) (And.intro (by show (-2) = 0 → σ (78 + 2 * a1) 1 = 1 ∧ σ (78 + 2 * a1) 2 = a2 ∧ σ (78 + 2 * a1) 3 = a3; omega) (And.intro (by show (-2) = 0 ∨ ∀ k j : Int, σ k j = σ k j; exact Or.inr (fun _ _ => rfl)) (fun k j hk => rfl)))))
      · skip
        refine And.intro (fun h7 => ?_) (fun h7 => ?_)
        · skip
          refine B rfl ?_
          refine And.intro (fun h8 => ?_) (fun h8 => ?_)
          · skip
            refine B rfl ?_
            refine And.intro (by omega) ?_
            refine Exists.intro (78 + 2 * a1, a2, a3) (And.intro rfl (And.intro (And.intro (by show 0 ≤ a2; omega) (And.intro (by show a2 ≤ 3; omega) (And.intro (by show 0 ≤ a3; omega) (by show a3 ≤ 60; omega)))) ?_))
            intro z9 σ11 h10
            have f12 : ∀ k j : Int, ¬ (k = (78 + 2 * a1) ∨ k = (78 + 2 * a1) + 1) → σ11 k j = σ k j := h10.2.2.2
            have h13 : σ11 (78 + 2 * a1) (1 : Int) = 1 := h10.1
            have h14 : σ11 (78 + 2 * a1) 2 = a2 := h10.2.1
            have h15 : σ11 (78 + 2 * a1) 3 = a3 := h10.2.2.1
            refine Exists.intro _ (And.intro rfl ?_)
            have p16 : CI σ11 := CI_fr hp0 (fun k j hk => (f12 _ _ (by omega)))
            try have t17 : σ11 (78 + 2 * a1) 1 = σ (78 + 2 * a1) 1 := (f12 _ _ (by omega))
            exact (And.intro p16 (And.intro (by show (¬ ((0 ≤ a1 ∧ a1 ≤ 3) ∧ (0 ≤ a2 ∧ a2 ≤ 3) ∧ a3 ≤ 60) → 0 = -2) ∧ ((0 ≤ a1 ∧ a1 ≤ 3) ∧ (0 ≤ a2 ∧ a2 ≤ 3) ∧ a3 ≤ 60 ∧ a3 < 0 → 0 = -3) ∧ ((0 ≤ a1 ∧ a1 ≤ 3) ∧ (0 ≤ a2 ∧ a2 ≤ 3) ∧ a3 ≤ 60 ∧ 0 ≤ a3 → 0 = 0); omega) (And.intro (by show 0 = 0 → σ11 (78 + 2 * a1) 1 = 1 ∧ σ11 (78 + 2 * a1) 2 = a2 ∧ σ11 (78 + 2 * a1) 3 = a3; omega) (And.intro (by show 0 = 0 ∨ ∀ k j : Int, σ11 k j = σ k j; exact Or.inl rfl) (fun k j hk => (f12 _ _ (by omega)))))))
          · skip
            refine Exists.intro _ (And.intro rfl ?_)
            exact (And.intro hp0 (And.intro (by show (¬ ((0 ≤ a1 ∧ a1 ≤ 3) ∧ (0 ≤ a2 ∧ a2 ≤ 3) ∧ a3 ≤ 60) → (-3) = -2) ∧ ((0 ≤ a1 ∧ a1 ≤ 3) ∧ (0 ≤ a2 ∧ a2 ≤ 3) ∧ a3 ≤ 60 ∧ a3 < 0 → (-3) = -3) ∧ ((0 ≤ a1 ∧ a1 ≤ 3) ∧ (0 ≤ a2 ∧ a2 ≤ 3) ∧ a3 ≤ 60 ∧ 0 ≤ a3 → (-3) = 0); omega) (And.intro (by show (-3) = 0 → σ (78 + 2 * a1) 1 = 1 ∧ σ (78 + 2 * a1) 2 = a2 ∧ σ (78 + 2 * a1) 3 = a3; omega) (And.intro (by show (-3) = 0 ∨ ∀ k j : Int, σ k j = σ k j; exact Or.inr (fun _ _ => rfl)) (fun k j hk => rfl)))))
        · skip
          refine Exists.intro _ (And.intro rfl ?_)
          exact (And.intro hp0 (And.intro (by show (¬ ((0 ≤ a1 ∧ a1 ≤ 3) ∧ (0 ≤ a2 ∧ a2 ≤ 3) ∧ a3 ≤ 60) → (-2) = -2) ∧ ((0 ≤ a1 ∧ a1 ≤ 3) ∧ (0 ≤ a2 ∧ a2 ≤ 3) ∧ a3 ≤ 60 ∧ a3 < 0 → (-2) = -3) ∧ ((0 ≤ a1 ∧ a1 ≤ 3) ∧ (0 ≤ a2 ∧ a2 ≤ 3) ∧ a3 ≤ 60 ∧ 0 ≤ a3 → (-2) = 0); omega) (And.intro (by show (-2) = 0 → σ (78 + 2 * a1) 1 = 1 ∧ σ (78 + 2 * a1) 2 = a2 ∧ σ (78 + 2 * a1) 3 = a3; omega) (And.intro (by show (-2) = 0 ∨ ∀ k j : Int, σ k j = σ k j; exact Or.inr (fun _ _ => rfl)) (fun k j hk => rfl)))))
def as_G_X10_write : Int × Int × Int → List Sv_t := fun a => [(10, 0), (0, a.1), (0, a.2.1), (1, a.2.2)]
def pre_G_X10_write : Int × Int × Int → Me_t → Prop := fun a σ => (CI σ)
def post_G_X10_write : Int × Int × Int → Me_t → Int → Me_t → Prop := fun a σ z σ' => (CI σ') ∧ ((¬ (0 ≤ a.1 ∧ a.1 ≤ 3) → z = -2) ∧ ((0 ≤ a.1 ∧ a.1 ≤ 3) ∧ σ (78 + 2 * a.1) 1 = 0 → z = -6) ∧ ((0 ≤ a.1 ∧ a.1 ≤ 3) ∧ σ (78 + 2 * a.1) 1 ≠ 0 ∧ ¬ (0 ≤ a.2.1 ∧ a.2.1 < σ (78 + 2 * a.1) 3) → z = -7) ∧ ((0 ≤ a.1 ∧ a.1 ≤ 3) ∧ σ (78 + 2 * a.1) 1 ≠ 0 ∧ (0 ≤ a.2.1 ∧ a.2.1 < σ (78 + 2 * a.1) 3) → z = 0)) ∧ (∀ k j : Int, ¬ (k = 79 + 2 * a.1 ∧ 0 ≤ a.1 ∧ a.1 ≤ 3) → σ' k j = σ k j)
set_option maxHeartbeats 1500000 in
set_option maxRecDepth 100000 in
theorem ct_G_X10_write (l : Launch) : CT_ l yX10_write cX10_write 6 (some .int) 1 22 as_G_X10_write (rmI_) pre_G_X10_write post_G_X10_write := by
  refine ct_of (by decide) (fun _ => Nat.le_of_ble_eq_true rfl) ?_
  intro X G Q ad σ a hl hR E hG R hM hv hp
  obtain ⟨a1, a2, a3⟩ := a
  have r_a1 : -2147483648 ≤ a1 ∧ a1 ≤ 2147483647 := hv (0, a1) (List.mem_of_getElem? (i := 1) rfl)
  have r_a2 : -2147483648 ≤ a2 ∧ a2 ≤ 2147483647 := hv (0, a2) (List.mem_of_getElem? (i := 2) rfl)
  have r_a3 : -9223372036854775808 ≤ a3 ∧ a3 ≤ 9223372036854775807 := hv (1, a3) (List.mem_of_getElem? (i := 3) rfl)
  have hp0 : CI σ := hp
  have B := @bk_ X G Q 0 0 ad SHS_ RX10 cX10_write 6 (some .int) flX10 plX10 knX10 [(797, 1, TR_ as_G_X10_isSlot (rmI_) pre_G_X10_isSlot post_G_X10_isSlot), (828, 2, TR_ as_G_X4_cut (rmL_) pre_G_X4_cut post_G_X4_cut)] _ _ none kX10_write [] flX10_ok plX10_ok knX10_ok eX10_write oX10_write
    (List.forall_mem_cons.mpr ⟨cok_s (n := 1) (idx := 398) E (ct_G_X10_isSlot X.2.1) (by rw [hR]; decide) (Nat.zero_le _) (Nat.zero_le _) hG ⟨by decide, by decide, by decide⟩ (fun _ => rfl) wl_X10_398 wt_X10_isSlot wn_X10 wc_X10_isSlot, List.forall_mem_cons.mpr ⟨cok_v (t := 30) (c := 4) (N := 4) (n := 1) (idx := 414) E (ct_G_X4_cut X.2.1) (by rw [hR]; decide) (Nat.zero_le _) (Nat.zero_le _) hG rfl rfl ⟨rfl, by decide, by decide, by decide⟩ (fun _ => ⟨_, _, rfl, rfl⟩) wl_X10_414 wi_X4_cut ws_X4_cut wn_X4 wc_X4_cut, fun _ h => absurd h List.not_mem_nil⟩⟩) R sok_no E
  show WP_ X G Q 0 0 ad SHS_ σ 0 [(10, 0), (0, a1), (0, a2), (1, a3), (9, 0), (9, 0)] []
  refine B rfl ?_
  refine Exists.intro a1 (And.intro rfl (And.intro True.intro ?_))
  rintro z1 m_ h2
  obtain rfl : σ = m_ := h2.2
  have h3 : (z1 = 1 ∧ 0 ≤ a1 ∧ a1 ≤ 3) ∨ (z1 = 0 ∧ ¬ (0 ≤ a1 ∧ a1 ≤ 3)) := h2.1
  refine And.intro (fun h4 => ?_) (fun h4 => ?_)
  · skip
    refine B rfl ?_
    refine And.intro (by omega) ?_
    intro z5 ez5 hz5
    have hz5 : (0 : Int) ≤ z5 ∧ z5 ≤ (1 : Int) := hz5
    refine And.intro (fun h6 => ?_) (fun h6 => ?_)
    · skip
      refine B rfl ?_
      refine And.intro (fun h7 => ?_) (fun h7 => ?_)
      · skip
        refine B rfl ?_
        refine Exists.intro _ (And.intro rfl ?_)
        exact (And.intro hp0 (And.intro (by show (¬ (0 ≤ a1 ∧ a1 ≤ 3) → (-7) = -2) ∧ ((0 ≤ a1 ∧ a1 ≤ 3) ∧ σ (78 + 2 * a1) 1 = 0 → (-7) = -6) ∧ ((0 ≤ a1 ∧ a1 ≤ 3) ∧ σ (78 + 2 * a1) 1 ≠ 0 ∧ ¬ (0 ≤ a2 ∧ a2 < σ (78 + 2 * a1) 3) → (-7) = -7) ∧ ((0 ≤ a1 ∧ a1 ≤ 3) ∧ σ (78 + 2 * a1) 1 ≠ 0 ∧ (0 ≤ a2 ∧ a2 < σ (78 + 2 * a1) 3) → (-7) = 0); omega) (fun k j hk => rfl)))
      · skip
        intro z8 ez8 hz8
        have hz8 : (0 : Int) ≤ z8 ∧ z8 ≤ (60 : Int) := hz8
        refine And.intro (fun h9 => ?_) (fun h9 => ?_)
        · skip
          refine B rfl ?_
          refine Exists.intro (78 + 2 * a1, a3) (And.intro rfl (And.intro True.intro ?_))
          rintro z10 m_ h11
          obtain rfl : σ = m_ := h11
          refine And.intro (by omega) ?_
          intro σ12 e13
          refine Exists.intro _ (And.intro rfl ?_)
          have p14 : CI σ12 := CI_fr hp0 (fun k j hk => (ups_r e13 (by omega)))
          exact (And.intro p14 (And.intro (by show (¬ (0 ≤ a1 ∧ a1 ≤ 3) → 0 = -2) ∧ ((0 ≤ a1 ∧ a1 ≤ 3) ∧ σ (78 + 2 * a1) 1 = 0 → 0 = -6) ∧ ((0 ≤ a1 ∧ a1 ≤ 3) ∧ σ (78 + 2 * a1) 1 ≠ 0 ∧ ¬ (0 ≤ a2 ∧ a2 < σ (78 + 2 * a1) 3) → 0 = -7) ∧ ((0 ≤ a1 ∧ a1 ≤ 3) ∧ σ (78 + 2 * a1) 1 ≠ 0 ∧ (0 ≤ a2 ∧ a2 < σ (78 + 2 * a1) 3) → 0 = 0); omega) (fun k j hk => (ups_r e13 (by omega)))))
        · skip
          refine Exists.intro _ (And.intro rfl ?_)
          exact (And.intro hp0 (And.intro (by show (¬ (0 ≤ a1 ∧ a1 ≤ 3) → (-7) = -2) ∧ ((0 ≤ a1 ∧ a1 ≤ 3) ∧ σ (78 + 2 * a1) 1 = 0 → (-7) = -6) ∧ ((0 ≤ a1 ∧ a1 ≤ 3) ∧ σ (78 + 2 * a1) 1 ≠ 0 ∧ ¬ (0 ≤ a2 ∧ a2 < σ (78 + 2 * a1) 3) → (-7) = -7) ∧ ((0 ≤ a1 ∧ a1 ≤ 3) ∧ σ (78 + 2 * a1) 1 ≠ 0 ∧ (0 ≤ a2 ∧ a2 < σ (78 + 2 * a1) 3) → (-7) = 0); omega) (fun k j hk => rfl)))
    · skip
      refine Exists.intro _ (And.intro rfl ?_)
      exact (And.intro hp0 (And.intro (by show (¬ (0 ≤ a1 ∧ a1 ≤ 3) → (-6) = -2) ∧ ((0 ≤ a1 ∧ a1 ≤ 3) ∧ σ (78 + 2 * a1) 1 = 0 → (-6) = -6) ∧ ((0 ≤ a1 ∧ a1 ≤ 3) ∧ σ (78 + 2 * a1) 1 ≠ 0 ∧ ¬ (0 ≤ a2 ∧ a2 < σ (78 + 2 * a1) 3) → (-6) = -7) ∧ ((0 ≤ a1 ∧ a1 ≤ 3) ∧ σ (78 + 2 * a1) 1 ≠ 0 ∧ (0 ≤ a2 ∧ a2 < σ (78 + 2 * a1) 3) → (-6) = 0); omega) (fun k j hk => rfl)))
  · skip
    refine Exists.intro _ (And.intro rfl ?_)
    exact (And.intro hp0 (And.intro (by show (¬ (0 ≤ a1 ∧ a1 ≤ 3) → (-2) = -2) ∧ ((0 ≤ a1 ∧ a1 ≤ 3) ∧ σ (78 + 2 * a1) 1 = 0 → (-2) = -6) ∧ ((0 ≤ a1 ∧ a1 ≤ 3) ∧ σ (78 + 2 * a1) 1 ≠ 0 ∧ ¬ (0 ≤ a2 ∧ a2 < σ (78 + 2 * a1) 3) → (-2) = -7) ∧ ((0 ≤ a1 ∧ a1 ≤ 3) ∧ σ (78 + 2 * a1) 1 ≠ 0 ∧ (0 ≤ a2 ∧ a2 < σ (78 + 2 * a1) 3) → (-2) = 0); omega) (fun k j hk => rfl)))
theorem tvRw_ {k : Int} (h : 0 ≤ k ∧ k ≤ 3) : tv_ SHS_ (40, 78 + 2 * k) := by
  have : k = 0 ∨ k = 1 ∨ k = 2 ∨ k = 3 := by omega
  rcases this with rfl | rfl | rfl | rfl <;> exact ⟨by decide, rfl⟩
def as_G_X10_paste : Int × Int × Int × Int × Int → List Sv_t := fun a => [(10, 0), (0, a.1), (0, a.2.1), (0, a.2.2.1), (0, a.2.2.2.1), (0, a.2.2.2.2)]
def pre_G_X10_paste : Int × Int × Int × Int × Int → Me_t → Prop := fun a σ => (CI σ)
def post_G_X10_paste : Int × Int × Int × Int × Int → Me_t → Int → Me_t → Prop := fun a σ z σ' => (CI σ') ∧ ((¬ ((0 ≤ a.1 ∧ a.1 ≤ 3) ∧ (0 ≤ a.2.2.1 ∧ a.2.2.1 ≤ 3)) → z = -2)) ∧ (((0 ≤ a.1 ∧ a.1 ≤ 3) ∧ (0 ≤ a.2.2.1 ∧ a.2.2.1 ≤ 3)) ∧ ¬ (σ (78 + 2 * a.1) 1 ≠ 0 ∧ σ (78 + 2 * a.2.2.1) 1 ≠ 0) → z = -6) ∧ (((0 ≤ a.1 ∧ a.1 ≤ 3) ∧ (0 ≤ a.2.2.1 ∧ a.2.2.1 ≤ 3)) ∧ (σ (78 + 2 * a.1) 1 ≠ 0 ∧ σ (78 + 2 * a.2.2.1) 1 ≠ 0) ∧ ¬ (σ (78 + 2 * a.1) 2 = σ (78 + 2 * a.2.2.1) 2) → z = -8) ∧ (((0 ≤ a.1 ∧ a.1 ≤ 3) ∧ (0 ≤ a.2.2.1 ∧ a.2.2.1 ≤ 3)) ∧ (σ (78 + 2 * a.1) 1 ≠ 0 ∧ σ (78 + 2 * a.2.2.1) 1 ≠ 0) ∧ (σ (78 + 2 * a.1) 2 = σ (78 + 2 * a.2.2.1) 2) ∧ ¬ ((0 ≤ a.2.1 ∧ 0 ≤ a.2.2.2.2 ∧ a.2.1 + a.2.2.2.2 ≤ σ (78 + 2 * a.1) 3) ∧ (0 ≤ a.2.2.2.1 ∧ 0 ≤ a.2.2.2.2 ∧ a.2.2.2.1 + a.2.2.2.2 ≤ σ (78 + 2 * a.2.2.1) 3)) → z = -7) ∧ (((0 ≤ a.1 ∧ a.1 ≤ 3) ∧ (0 ≤ a.2.2.1 ∧ a.2.2.1 ≤ 3)) ∧ (σ (78 + 2 * a.1) 1 ≠ 0 ∧ σ (78 + 2 * a.2.2.1) 1 ≠ 0) ∧ (σ (78 + 2 * a.1) 2 = σ (78 + 2 * a.2.2.1) 2) ∧ ((0 ≤ a.2.1 ∧ 0 ≤ a.2.2.2.2 ∧ a.2.1 + a.2.2.2.2 ≤ σ (78 + 2 * a.1) 3) ∧ (0 ≤ a.2.2.2.1 ∧ 0 ≤ a.2.2.2.2 ∧ a.2.2.2.1 + a.2.2.2.2 ≤ σ (78 + 2 * a.2.2.1) 3)) → z = 0) ∧ (∀ k j : Int, ¬ (k = 79 + 2 * a.2.2.1 ∧ 0 ≤ a.2.2.1 ∧ a.2.2.1 ≤ 3) → σ' k j = σ k j)
set_option maxHeartbeats 1500000 in
set_option maxRecDepth 100000 in
theorem ct_G_X10_paste (l : Launch) : CT_ l yX10_paste cX10_paste 8 (some .int) 1 40 as_G_X10_paste (rmI_) pre_G_X10_paste post_G_X10_paste := by
  refine ct_of (by decide) (fun _ => Nat.le_of_ble_eq_true rfl) ?_
  intro X G Q ad σ a hl hR E hG R hM hv hp
  obtain ⟨a1, a2, a3, a4, a5⟩ := a
  have r_a1 : -2147483648 ≤ a1 ∧ a1 ≤ 2147483647 := hv (0, a1) (List.mem_of_getElem? (i := 1) rfl)
  have r_a2 : -2147483648 ≤ a2 ∧ a2 ≤ 2147483647 := hv (0, a2) (List.mem_of_getElem? (i := 2) rfl)
  have r_a3 : -2147483648 ≤ a3 ∧ a3 ≤ 2147483647 := hv (0, a3) (List.mem_of_getElem? (i := 3) rfl)
  have r_a4 : -2147483648 ≤ a4 ∧ a4 ≤ 2147483647 := hv (0, a4) (List.mem_of_getElem? (i := 4) rfl)
  have r_a5 : -2147483648 ≤ a5 ∧ a5 ≤ 2147483647 := hv (0, a5) (List.mem_of_getElem? (i := 5) rfl)
  have hp0 : CI σ := hp
  have B := @bk_ X G Q 0 0 ad SHS_ RX10 cX10_paste 8 (some .int) flX10 plX10 knX10 [(797, 1, TR_ as_G_X10_isSlot (rmI_) pre_G_X10_isSlot post_G_X10_isSlot), (840, 3, TR_ as_G_X4_hasStretch (rmI_) pre_G_X4_hasStretch post_G_X4_hasStretch), (847, 5, TAC_)] _ _ none kX10_paste [7, 14, 41, 49, 65, 79, 91] flX10_ok plX10_ok knX10_ok eX10_paste oX10_paste
    (List.forall_mem_cons.mpr ⟨cok_s (n := 1) (idx := 398) E (ct_G_X10_isSlot X.2.1) (by rw [hR]; decide) (Nat.zero_le _) (Nat.zero_le _) hG ⟨by decide, by decide, by decide⟩ (fun _ => rfl) wl_X10_398 wt_X10_isSlot wn_X10 wc_X10_isSlot, List.forall_mem_cons.mpr ⟨cok_v (t := 30) (c := 4) (N := 4) (n := 2) (idx := 420) E (ct_G_X4_hasStretch X.2.1) (by rw [hR]; decide) (Nat.zero_le _) (Nat.zero_le _) hG rfl rfl ⟨rfl, by decide, by decide, by decide⟩ (fun _ => ⟨_, _, rfl, rfl⟩) wl_X10_420 wi_X4_hasStretch ws_X4_hasStretch wn_X4 wc_X4_hasStretch, List.forall_mem_cons.mpr ⟨cok_ac (idx := 423) E (by rw [hR]; decide) wa_X10_423, fun _ h => absurd h List.not_mem_nil⟩⟩⟩) R sok_no E
  show WP_ X G Q 0 0 ad SHS_ σ 0 [(10, 0), (0, a1), (0, a2), (0, a3), (0, a4), (0, a5), (9, 0), (9, 0)] []
  refine B rfl ?_
  refine Exists.intro a1 (And.intro rfl (And.intro True.intro ?_))
  rintro z1 m_ h2
  obtain rfl : σ = m_ := h2.2
  have h3 : (z1 = 1 ∧ 0 ≤ a1 ∧ a1 ≤ 3) ∨ (z1 = 0 ∧ ¬ (0 ≤ a1 ∧ a1 ≤ 3)) := h2.1
  refine And.intro (fun h4 => ?_) (fun h4 => ?_)
  · skip
    refine B rfl ?_
    refine Exists.intro _ (And.intro rfl ?_)
    exact (And.intro hp0 (And.intro (by show (¬ ((0 ≤ a1 ∧ a1 ≤ 3) ∧ (0 ≤ a3 ∧ a3 ≤ 3)) → (-2) = -2); omega) (And.intro (by show ((0 ≤ a1 ∧ a1 ≤ 3) ∧ (0 ≤ a3 ∧ a3 ≤ 3)) ∧ ¬ (σ (78 + 2 * a1) 1 ≠ 0 ∧ σ (78 + 2 * a3) 1 ≠ 0) → (-2) = -6; omega) (And.intro (by show ((0 ≤ a1 ∧ a1 ≤ 3) ∧ (0 ≤ a3 ∧ a3 ≤ 3)) ∧ (σ (78 + 2 * a1) 1 ≠ 0 ∧ σ (78 + 2 * a3) 1 ≠ 0) ∧ ¬ (σ (78 + 2 * a1) 2 = σ (78 + 2 * a3) 2) → (-2) = -8; omega) (And.intro (by show ((0 ≤ a1 ∧ a1 ≤ 3) ∧ (0 ≤ a3 ∧ a3 ≤ 3)) ∧ (σ (78 + 2 * a1) 1 ≠ 0 ∧ σ (78 + 2 * a3) 1 ≠ 0) ∧ (σ (78 + 2 * a1) 2 = σ (78 + 2 * a3) 2) ∧ ¬ ((0 ≤ a2 ∧ 0 ≤ a5 ∧ a2 + a5 ≤ σ (78 + 2 * a1) 3) ∧ (0 ≤ a4 ∧ 0 ≤ a5 ∧ a4 + a5 ≤ σ (78 + 2 * a3) 3)) → (-2) = -7; omega) (And.intro (by show ((0 ≤ a1 ∧ a1 ≤ 3) ∧ (0 ≤ a3 ∧ a3 ≤ 3)) ∧ (σ (78 + 2 * a1) 1 ≠ 0 ∧ σ (78 + 2 * a3) 1 ≠ 0) ∧ (σ (78 + 2 * a1) 2 = σ (78 + 2 * a3) 2) ∧ ((0 ≤ a2 ∧ 0 ≤ a5 ∧ a2 + a5 ≤ σ (78 + 2 * a1) 3) ∧ (0 ≤ a4 ∧ 0 ≤ a5 ∧ a4 + a5 ≤ σ (78 + 2 * a3) 3)) → (-2) = 0; omega) (fun k j hk => by have hk : ¬ (k = 79 + 2 * a3 ∧ 0 ≤ a3 ∧ a3 ≤ 3) := hk; exact rfl)))))))
  · skip
    show WP_ X G Q 0 0 ad SHS_ σ 7 [(10, 0), (0, a1), (0, a2), (0, a3), (0, a4), (0, a5), (9, 0), (9, 0)] []
    refine B rfl ?_
    refine Exists.intro a3 (And.intro rfl (And.intro True.intro ?_))
    rintro z5 m_ h6
    obtain rfl : σ = m_ := h6.2
    have h7 : (z5 = 1 ∧ 0 ≤ a3 ∧ a3 ≤ 3) ∨ (z5 = 0 ∧ ¬ (0 ≤ a3 ∧ a3 ≤ 3)) := h6.1
    refine And.intro (fun h8 => ?_) (fun h8 => ?_)
    · skip
      refine B rfl ?_
      refine And.intro (by omega) ?_
      refine And.intro (by omega) ?_
      intro z9 ez9 hz9
      have hz9 : (0 : Int) ≤ z9 ∧ z9 ≤ (1 : Int) := hz9
      refine And.intro (fun h10 => ?_) (fun h10 => ?_)
      · skip
        refine B rfl ?_
        refine Exists.intro _ (And.intro rfl ?_)
        exact (And.intro hp0 (And.intro (by show (¬ ((0 ≤ a1 ∧ a1 ≤ 3) ∧ (0 ≤ a3 ∧ a3 ≤ 3)) → (-6) = -2); omega) (And.intro (by show ((0 ≤ a1 ∧ a1 ≤ 3) ∧ (0 ≤ a3 ∧ a3 ≤ 3)) ∧ ¬ (σ (78 + 2 * a1) 1 ≠ 0 ∧ σ (78 + 2 * a3) 1 ≠ 0) → (-6) = -6; omega) (And.intro (by show ((0 ≤ a1 ∧ a1 ≤ 3) ∧ (0 ≤ a3 ∧ a3 ≤ 3)) ∧ (σ (78 + 2 * a1) 1 ≠ 0 ∧ σ (78 + 2 * a3) 1 ≠ 0) ∧ ¬ (σ (78 + 2 * a1) 2 = σ (78 + 2 * a3) 2) → (-6) = -8; omega) (And.intro (by show ((0 ≤ a1 ∧ a1 ≤ 3) ∧ (0 ≤ a3 ∧ a3 ≤ 3)) ∧ (σ (78 + 2 * a1) 1 ≠ 0 ∧ σ (78 + 2 * a3) 1 ≠ 0) ∧ (σ (78 + 2 * a1) 2 = σ (78 + 2 * a3) 2) ∧ ¬ ((0 ≤ a2 ∧ 0 ≤ a5 ∧ a2 + a5 ≤ σ (78 + 2 * a1) 3) ∧ (0 ≤ a4 ∧ 0 ≤ a5 ∧ a4 + a5 ≤ σ (78 + 2 * a3) 3)) → (-6) = -7; omega) (And.intro (by show ((0 ≤ a1 ∧ a1 ≤ 3) ∧ (0 ≤ a3 ∧ a3 ≤ 3)) ∧ (σ (78 + 2 * a1) 1 ≠ 0 ∧ σ (78 + 2 * a3) 1 ≠ 0) ∧ (σ (78 + 2 * a1) 2 = σ (78 + 2 * a3) 2) ∧ ((0 ≤ a2 ∧ 0 ≤ a5 ∧ a2 + a5 ≤ σ (78 + 2 * a1) 3) ∧ (0 ≤ a4 ∧ 0 ≤ a5 ∧ a4 + a5 ≤ σ (78 + 2 * a3) 3)) → (-6) = 0; omega) (fun k j hk => by have hk : ¬ (k = 79 + 2 * a3 ∧ 0 ≤ a3 ∧ a3 ≤ 3) := hk; exact rfl)))))))
      · skip
        show WP_ X G Q 0 0 ad SHS_ σ 41 [(10, 0), (0, a1), (0, a2), (0, a3), (0, a4), (0, a5), (40, 78 + 2 * a1), (40, 78 + 2 * a3)] []
        refine B rfl ?_
        intro z11 ez11 hz11
        have hz11 : (0 : Int) ≤ z11 ∧ z11 ≤ (1 : Int) := hz11
        refine And.intro (fun h12 => ?_) (fun h12 => ?_)
        · skip
          refine B rfl ?_
          intro z13 ez13 hz13
          have hz13 : (0 : Int) ≤ z13 ∧ z13 ≤ (3 : Int) := hz13
          intro z14 ez14 hz14
          have hz14 : (0 : Int) ≤ z14 ∧ z14 ≤ (3 : Int) := hz14
          refine And.intro (fun h15 => ?_) (fun h15 => ?_)
          · skip
            refine B rfl ?_
            refine Exists.intro (78 + 2 * a1, a2, a5) (And.intro rfl (And.intro True.intro ?_))
            rintro z16 m_ h17
            obtain rfl : σ = m_ := h17.2
            have h18 : (z16 = 1 ∧ 0 ≤ a2 ∧ 0 ≤ a5 ∧ a2 + a5 ≤ σ (78 + 2 * a1) 3) ∨ (z16 = 0 ∧ ¬ (0 ≤ a2 ∧ 0 ≤ a5 ∧ a2 + a5 ≤ σ (78 + 2 * a1) 3)) := h17.1
            refine And.intro (fun h19 => ?_) (fun h19 => ?_)
            · skip
              refine B rfl ?_
              refine Exists.intro _ (And.intro rfl ?_)
              exact (And.intro hp0 (And.intro (by show (¬ ((0 ≤ a1 ∧ a1 ≤ 3) ∧ (0 ≤ a3 ∧ a3 ≤ 3)) → (-7) = -2); omega) (And.intro (by show ((0 ≤ a1 ∧ a1 ≤ 3) ∧ (0 ≤ a3 ∧ a3 ≤ 3)) ∧ ¬ (σ (78 + 2 * a1) 1 ≠ 0 ∧ σ (78 + 2 * a3) 1 ≠ 0) → (-7) = -6; omega) (And.intro (by show ((0 ≤ a1 ∧ a1 ≤ 3) ∧ (0 ≤ a3 ∧ a3 ≤ 3)) ∧ (σ (78 + 2 * a1) 1 ≠ 0 ∧ σ (78 + 2 * a3) 1 ≠ 0) ∧ ¬ (σ (78 + 2 * a1) 2 = σ (78 + 2 * a3) 2) → (-7) = -8; omega) (And.intro (by show ((0 ≤ a1 ∧ a1 ≤ 3) ∧ (0 ≤ a3 ∧ a3 ≤ 3)) ∧ (σ (78 + 2 * a1) 1 ≠ 0 ∧ σ (78 + 2 * a3) 1 ≠ 0) ∧ (σ (78 + 2 * a1) 2 = σ (78 + 2 * a3) 2) ∧ ¬ ((0 ≤ a2 ∧ 0 ≤ a5 ∧ a2 + a5 ≤ σ (78 + 2 * a1) 3) ∧ (0 ≤ a4 ∧ 0 ≤ a5 ∧ a4 + a5 ≤ σ (78 + 2 * a3) 3)) → (-7) = -7; omega) (And.intro (by show ((0 ≤ a1 ∧ a1 ≤ 3) ∧ (0 ≤ a3 ∧ a3 ≤ 3)) ∧ (σ (78 + 2 * a1) 1 ≠ 0 ∧ σ (78 + 2 * a3) 1 ≠ 0) ∧ (σ (78 + 2 * a1) 2 = σ (78 + 2 * a3) 2) ∧ ((0 ≤ a2 ∧ 0 ≤ a5 ∧ a2 + a5 ≤ σ (78 + 2 * a1) 3) ∧ (0 ≤ a4 ∧ 0 ≤ a5 ∧ a4 + a5 ≤ σ (78 + 2 * a3) 3)) → (-7) = 0; omega) (fun k j hk => by have hk : ¬ (k = 79 + 2 * a3 ∧ 0 ≤ a3 ∧ a3 ≤ 3) := hk; exact rfl)))))))
            · skip
              show WP_ X G Q 0 0 ad SHS_ σ 79 [(10, 0), (0, a1), (0, a2), (0, a3), (0, a4), (0, a5), (40, 78 + 2 * a1), (40, 78 + 2 * a3)] []
              refine B rfl ?_
              refine Exists.intro (78 + 2 * a3, a4, a5) (And.intro rfl (And.intro True.intro ?_))
              rintro z20 m_ h21
              obtain rfl : σ = m_ := h21.2
              have h22 : (z20 = 1 ∧ 0 ≤ a4 ∧ 0 ≤ a5 ∧ a4 + a5 ≤ σ (78 + 2 * a3) 3) ∨ (z20 = 0 ∧ ¬ (0 ≤ a4 ∧ 0 ≤ a5 ∧ a4 + a5 ≤ σ (78 + 2 * a3) 3)) := h21.1
              refine And.intro (fun h23 => ?_) (fun h23 => ?_)
              · skip
                refine B rfl ?_
                have rw1 := rgf_ (t := 30) (j := 3) hM (tvRw_ (k := a1) (by omega)) (by decide)
                have rw1 : (0 : Int) ≤ σ (78 + 2 * a1) 3 ∧ σ (78 + 2 * a1) 3 ≤ (60 : Int) := rw1
                have rw3 := rgf_ (t := 30) (j := 3) hM (tvRw_ (k := a3) (by omega)) (by decide)
                have rw3 : (0 : Int) ≤ σ (78 + 2 * a3) 3 ∧ σ (78 + 2 * a3) 3 ≤ (60 : Int) := rw3
                refine Exists.intro 31 (Exists.intro 31 (Exists.intro 4 (Exists.intro 0 (Exists.intro 0 (Exists.intro 60 (Exists.intro 60 (Exists.intro ((78 + 2 * a1) + 1) (Exists.intro ((78 + 2 * a3) + 1) (Exists.intro a2 (Exists.intro a4 (Exists.intro a5 (And.intro rfl (And.intro rfl (And.intro rfl (And.intro rfl (And.intro (by decide) (And.intro (by omega) ?_)))))))))))))))))
                intro σ24 e25
                refine Exists.intro _ (And.intro rfl ?_)
                have p26 : CI σ24 := CI_fr hp0 (fun k j hk => (ac_r e25 (by omega)))
                exact (And.intro p26 (And.intro (by show (¬ ((0 ≤ a1 ∧ a1 ≤ 3) ∧ (0 ≤ a3 ∧ a3 ≤ 3)) → 0 = -2); omega) (And.intro (by show ((0 ≤ a1 ∧ a1 ≤ 3) ∧ (0 ≤ a3 ∧ a3 ≤ 3)) ∧ ¬ (σ (78 + 2 * a1) 1 ≠ 0 ∧ σ (78 + 2 * a3) 1 ≠ 0) → 0 = -6; omega) (And.intro (by show ((0 ≤ a1 ∧ a1 ≤ 3) ∧ (0 ≤ a3 ∧ a3 ≤ 3)) ∧ (σ (78 + 2 * a1) 1 ≠ 0 ∧ σ (78 + 2 * a3) 1 ≠ 0) ∧ ¬ (σ (78 + 2 * a1) 2 = σ (78 + 2 * a3) 2) → 0 = -8; omega) (And.intro (by show ((0 ≤ a1 ∧ a1 ≤ 3) ∧ (0 ≤ a3 ∧ a3 ≤ 3)) ∧ (σ (78 + 2 * a1) 1 ≠ 0 ∧ σ (78 + 2 * a3) 1 ≠ 0) ∧ (σ (78 + 2 * a1) 2 = σ (78 + 2 * a3) 2) ∧ ¬ ((0 ≤ a2 ∧ 0 ≤ a5 ∧ a2 + a5 ≤ σ (78 + 2 * a1) 3) ∧ (0 ≤ a4 ∧ 0 ≤ a5 ∧ a4 + a5 ≤ σ (78 + 2 * a3) 3)) → 0 = -7; omega) (And.intro (by show ((0 ≤ a1 ∧ a1 ≤ 3) ∧ (0 ≤ a3 ∧ a3 ≤ 3)) ∧ (σ (78 + 2 * a1) 1 ≠ 0 ∧ σ (78 + 2 * a3) 1 ≠ 0) ∧ (σ (78 + 2 * a1) 2 = σ (78 + 2 * a3) 2) ∧ ((0 ≤ a2 ∧ 0 ≤ a5 ∧ a2 + a5 ≤ σ (78 + 2 * a1) 3) ∧ (0 ≤ a4 ∧ 0 ≤ a5 ∧ a4 + a5 ≤ σ (78 + 2 * a3) 3)) → 0 = 0; omega) (fun k j hk => by have hk : ¬ (k = 79 + 2 * a3 ∧ 0 ≤ a3 ∧ a3 ≤ 3) := hk; exact (ac_r e25 (by omega)))))))))
              · skip
                show WP_ X G Q 0 0 ad SHS_ σ 91 [(10, 0), (0, a1), (0, a2), (0, a3), (0, a4), (0, a5), (40, 78 + 2 * a1), (40, 78 + 2 * a3)] []
                refine B rfl ?_
                refine Exists.intro _ (And.intro rfl ?_)
                exact (And.intro hp0 (And.intro (by show (¬ ((0 ≤ a1 ∧ a1 ≤ 3) ∧ (0 ≤ a3 ∧ a3 ≤ 3)) → (-7) = -2); omega) (And.intro (by show ((0 ≤ a1 ∧ a1 ≤ 3) ∧ (0 ≤ a3 ∧ a3 ≤ 3)) ∧ ¬ (σ (78 + 2 * a1) 1 ≠ 0 ∧ σ (78 + 2 * a3) 1 ≠ 0) → (-7) = -6; omega) (And.intro (by show ((0 ≤ a1 ∧ a1 ≤ 3) ∧ (0 ≤ a3 ∧ a3 ≤ 3)) ∧ (σ (78 + 2 * a1) 1 ≠ 0 ∧ σ (78 + 2 * a3) 1 ≠ 0) ∧ ¬ (σ (78 + 2 * a1) 2 = σ (78 + 2 * a3) 2) → (-7) = -8; omega) (And.intro (by show ((0 ≤ a1 ∧ a1 ≤ 3) ∧ (0 ≤ a3 ∧ a3 ≤ 3)) ∧ (σ (78 + 2 * a1) 1 ≠ 0 ∧ σ (78 + 2 * a3) 1 ≠ 0) ∧ (σ (78 + 2 * a1) 2 = σ (78 + 2 * a3) 2) ∧ ¬ ((0 ≤ a2 ∧ 0 ≤ a5 ∧ a2 + a5 ≤ σ (78 + 2 * a1) 3) ∧ (0 ≤ a4 ∧ 0 ≤ a5 ∧ a4 + a5 ≤ σ (78 + 2 * a3) 3)) → (-7) = -7; omega) (And.intro (by show ((0 ≤ a1 ∧ a1 ≤ 3) ∧ (0 ≤ a3 ∧ a3 ≤ 3)) ∧ (σ (78 + 2 * a1) 1 ≠ 0 ∧ σ (78 + 2 * a3) 1 ≠ 0) ∧ (σ (78 + 2 * a1) 2 = σ (78 + 2 * a3) 2) ∧ ((0 ≤ a2 ∧ 0 ≤ a5 ∧ a2 + a5 ≤ σ (78 + 2 * a1) 3) ∧ (0 ≤ a4 ∧ 0 ≤ a5 ∧ a4 + a5 ≤ σ (78 + 2 * a3) 3)) → (-7) = 0; omega) (fun k j hk => by have hk : ¬ (k = 79 + 2 * a3 ∧ 0 ≤ a3 ∧ a3 ≤ 3) := hk; exact rfl)))))))
          · skip
            show WP_ X G Q 0 0 ad SHS_ σ 65 [(10, 0), (0, a1), (0, a2), (0, a3), (0, a4), (0, a5), (40, 78 + 2 * a1), (40, 78 + 2 * a3)] []
            refine B rfl ?_
            refine Exists.intro _ (And.intro rfl ?_)
            exact (And.intro hp0 (And.intro (by show (¬ ((0 ≤ a1 ∧ a1 ≤ 3) ∧ (0 ≤ a3 ∧ a3 ≤ 3)) → (-8) = -2); omega) (And.intro (by show ((0 ≤ a1 ∧ a1 ≤ 3) ∧ (0 ≤ a3 ∧ a3 ≤ 3)) ∧ ¬ (σ (78 + 2 * a1) 1 ≠ 0 ∧ σ (78 + 2 * a3) 1 ≠ 0) → (-8) = -6; omega) (And.intro (by show ((0 ≤ a1 ∧ a1 ≤ 3) ∧ (0 ≤ a3 ∧ a3 ≤ 3)) ∧ (σ (78 + 2 * a1) 1 ≠ 0 ∧ σ (78 + 2 * a3) 1 ≠ 0) ∧ ¬ (σ (78 + 2 * a1) 2 = σ (78 + 2 * a3) 2) → (-8) = -8; omega) (And.intro (by show ((0 ≤ a1 ∧ a1 ≤ 3) ∧ (0 ≤ a3 ∧ a3 ≤ 3)) ∧ (σ (78 + 2 * a1) 1 ≠ 0 ∧ σ (78 + 2 * a3) 1 ≠ 0) ∧ (σ (78 + 2 * a1) 2 = σ (78 + 2 * a3) 2) ∧ ¬ ((0 ≤ a2 ∧ 0 ≤ a5 ∧ a2 + a5 ≤ σ (78 + 2 * a1) 3) ∧ (0 ≤ a4 ∧ 0 ≤ a5 ∧ a4 + a5 ≤ σ (78 + 2 * a3) 3)) → (-8) = -7; omega) (And.intro (by show ((0 ≤ a1 ∧ a1 ≤ 3) ∧ (0 ≤ a3 ∧ a3 ≤ 3)) ∧ (σ (78 + 2 * a1) 1 ≠ 0 ∧ σ (78 + 2 * a3) 1 ≠ 0) ∧ (σ (78 + 2 * a1) 2 = σ (78 + 2 * a3) 2) ∧ ((0 ≤ a2 ∧ 0 ≤ a5 ∧ a2 + a5 ≤ σ (78 + 2 * a1) 3) ∧ (0 ≤ a4 ∧ 0 ≤ a5 ∧ a4 + a5 ≤ σ (78 + 2 * a3) 3)) → (-8) = 0; omega) (fun k j hk => by have hk : ¬ (k = 79 + 2 * a3 ∧ 0 ≤ a3 ∧ a3 ≤ 3) := hk; exact rfl)))))))
        · skip
          show WP_ X G Q 0 0 ad SHS_ σ 49 [(10, 0), (0, a1), (0, a2), (0, a3), (0, a4), (0, a5), (40, 78 + 2 * a1), (40, 78 + 2 * a3)] []
          refine B rfl ?_
          refine Exists.intro _ (And.intro rfl ?_)
          exact (And.intro hp0 (And.intro (by show (¬ ((0 ≤ a1 ∧ a1 ≤ 3) ∧ (0 ≤ a3 ∧ a3 ≤ 3)) → (-6) = -2); omega) (And.intro (by show ((0 ≤ a1 ∧ a1 ≤ 3) ∧ (0 ≤ a3 ∧ a3 ≤ 3)) ∧ ¬ (σ (78 + 2 * a1) 1 ≠ 0 ∧ σ (78 + 2 * a3) 1 ≠ 0) → (-6) = -6; omega) (And.intro (by show ((0 ≤ a1 ∧ a1 ≤ 3) ∧ (0 ≤ a3 ∧ a3 ≤ 3)) ∧ (σ (78 + 2 * a1) 1 ≠ 0 ∧ σ (78 + 2 * a3) 1 ≠ 0) ∧ ¬ (σ (78 + 2 * a1) 2 = σ (78 + 2 * a3) 2) → (-6) = -8; omega) (And.intro (by show ((0 ≤ a1 ∧ a1 ≤ 3) ∧ (0 ≤ a3 ∧ a3 ≤ 3)) ∧ (σ (78 + 2 * a1) 1 ≠ 0 ∧ σ (78 + 2 * a3) 1 ≠ 0) ∧ (σ (78 + 2 * a1) 2 = σ (78 + 2 * a3) 2) ∧ ¬ ((0 ≤ a2 ∧ 0 ≤ a5 ∧ a2 + a5 ≤ σ (78 + 2 * a1) 3) ∧ (0 ≤ a4 ∧ 0 ≤ a5 ∧ a4 + a5 ≤ σ (78 + 2 * a3) 3)) → (-6) = -7; omega) (And.intro (by show ((0 ≤ a1 ∧ a1 ≤ 3) ∧ (0 ≤ a3 ∧ a3 ≤ 3)) ∧ (σ (78 + 2 * a1) 1 ≠ 0 ∧ σ (78 + 2 * a3) 1 ≠ 0) ∧ (σ (78 + 2 * a1) 2 = σ (78 + 2 * a3) 2) ∧ ((0 ≤ a2 ∧ 0 ≤ a5 ∧ a2 + a5 ≤ σ (78 + 2 * a1) 3) ∧ (0 ≤ a4 ∧ 0 ≤ a5 ∧ a4 + a5 ≤ σ (78 + 2 * a3) 3)) → (-6) = 0; omega) (fun k j hk => by have hk : ¬ (k = 79 + 2 * a3 ∧ 0 ≤ a3 ∧ a3 ≤ 3) := hk; exact rfl)))))))
    · skip
      show WP_ X G Q 0 0 ad SHS_ σ 14 [(10, 0), (0, a1), (0, a2), (0, a3), (0, a4), (0, a5), (9, 0), (9, 0)] []
      refine B rfl ?_
      refine Exists.intro _ (And.intro rfl ?_)
      exact (And.intro hp0 (And.intro (by show (¬ ((0 ≤ a1 ∧ a1 ≤ 3) ∧ (0 ≤ a3 ∧ a3 ≤ 3)) → (-2) = -2); omega) (And.intro (by show ((0 ≤ a1 ∧ a1 ≤ 3) ∧ (0 ≤ a3 ∧ a3 ≤ 3)) ∧ ¬ (σ (78 + 2 * a1) 1 ≠ 0 ∧ σ (78 + 2 * a3) 1 ≠ 0) → (-2) = -6; omega) (And.intro (by show ((0 ≤ a1 ∧ a1 ≤ 3) ∧ (0 ≤ a3 ∧ a3 ≤ 3)) ∧ (σ (78 + 2 * a1) 1 ≠ 0 ∧ σ (78 + 2 * a3) 1 ≠ 0) ∧ ¬ (σ (78 + 2 * a1) 2 = σ (78 + 2 * a3) 2) → (-2) = -8; omega) (And.intro (by show ((0 ≤ a1 ∧ a1 ≤ 3) ∧ (0 ≤ a3 ∧ a3 ≤ 3)) ∧ (σ (78 + 2 * a1) 1 ≠ 0 ∧ σ (78 + 2 * a3) 1 ≠ 0) ∧ (σ (78 + 2 * a1) 2 = σ (78 + 2 * a3) 2) ∧ ¬ ((0 ≤ a2 ∧ 0 ≤ a5 ∧ a2 + a5 ≤ σ (78 + 2 * a1) 3) ∧ (0 ≤ a4 ∧ 0 ≤ a5 ∧ a4 + a5 ≤ σ (78 + 2 * a3) 3)) → (-2) = -7; omega) (And.intro (by show ((0 ≤ a1 ∧ a1 ≤ 3) ∧ (0 ≤ a3 ∧ a3 ≤ 3)) ∧ (σ (78 + 2 * a1) 1 ≠ 0 ∧ σ (78 + 2 * a3) 1 ≠ 0) ∧ (σ (78 + 2 * a1) 2 = σ (78 + 2 * a3) 2) ∧ ((0 ≤ a2 ∧ 0 ≤ a5 ∧ a2 + a5 ≤ σ (78 + 2 * a1) 3) ∧ (0 ≤ a4 ∧ 0 ≤ a5 ∧ a4 + a5 ≤ σ (78 + 2 * a3) 3)) → (-2) = 0; omega) (fun k j hk => by have hk : ¬ (k = 79 + 2 * a3 ∧ 0 ≤ a3 ∧ a3 ≤ 3) := hk; exact rfl)))))))
