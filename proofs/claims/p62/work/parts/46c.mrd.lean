def as_G_X11_readLand : Unit → List Sv_t := fun a => [(42, 86)]
def pre_G_X11_readLand : Unit → Me_t → Prop := fun a σ => (σ 86 9 ≤ σ 86 8) ∧ (σ 86 8 ≤ σ 86 7) ∧ (BW σ 92) ∧ (SW σ 92) ∧ (σ 92 1 ≤ 2)
def post_G_X11_readLand : Unit → Me_t → Int → Me_t → Prop := fun a σ z σ' => (σ' 86 9 ≤ σ' 86 8) ∧ (σ' 86 8 ≤ σ' 86 7) ∧ (σ' 86 7 = σ 86 7) ∧ (σ 86 8 ≤ σ' 86 8 ∧ (σ 86 8 < σ' 86 8 ∨ σ' 86 10 ≤ σ 86 10)) ∧ (BW σ' 92) ∧ (σ' 86 12 = 0 → σ 86 12 = 0) ∧ (σ' 86 12 = 0 → SW σ' 92) ∧ (∀ j : Int, j < 6 → j ≠ 1 → σ' 92 j = σ 92 j) ∧ (∀ k j : Int, ¬ (k = 86 ∨ k = 92) → σ' k j = σ k j)
set_option maxHeartbeats 12000000 in
set_option maxRecDepth 100000 in
theorem ct_G_X11_readLand (l : Launch) : CT_ l yX11_readLand cX11_readLand 2 none 9 195 as_G_X11_readLand (rmV_) pre_G_X11_readLand post_G_X11_readLand := by
  refine ct_of (by decide) (fun _ => Nat.le_of_ble_eq_true rfl) ?_
  intro X G Q ad σ a hl hR E hG R hM hv hp
  have hp0 : σ 86 9 ≤ σ 86 8 := hp.1
  have hp1 : σ 86 8 ≤ σ 86 7 := hp.2.1
  have hp2 : BW σ 92 := hp.2.2.1
  have hp3 : SW σ 92 := hp.2.2.2.1
  have hp4 : σ 92 1 ≤ 2 := hp.2.2.2.2
  have B := @bk_ X G Q 0 0 ad SHS_ RX11 cX11_readLand 2 none flX11 plX11 knX11 [(332, 2, TR_ as_G_X11_takes (rmI_) pre_G_X11_takes post_G_X11_takes), (354, 3, TR_ as_G_X11_number (rmI_) pre_G_X11_number post_G_X11_number), (370, 4, TR_ as_G_X11_told (rmI_) pre_G_X11_told post_G_X11_told), (346, 2, TR_ as_G_X11_needs (rmV_) pre_G_X11_needs post_G_X11_needs), (390, 2, TR_ as_G_X11_readMonths (rmV_) pre_G_X11_readMonths post_G_X11_readMonths)] _ _ none kX11_readLand [21, 39, 56, 76, 86, 115, 123, 146, 172, 181] flX11_ok plX11_ok knX11_ok eX11_readLand oX11_readLand
    (List.forall_mem_cons.mpr ⟨cok_v (t := 32) (c := 11) (N := 39) (n := 1) (idx := 166) E (ct_G_X11_takes X.2.1) (by rw [hR]; decide) (Nat.zero_le _) (Nat.zero_le _) hG rfl rfl ⟨rfl, by decide, by decide, by decide⟩ (fun _ => ⟨_, _, rfl, rfl⟩) wl_X11_166 wi_X11_takes ws_X11_takes wn_X11 wc_X11_takes, List.forall_mem_cons.mpr ⟨cok_v (t := 32) (c := 11) (N := 39) (n := 2) (idx := 177) E (ct_G_X11_number X.2.1) (by rw [hR]; decide) (Nat.zero_le _) (Nat.zero_le _) hG rfl rfl ⟨rfl, by decide, by decide, by decide⟩ (fun _ => ⟨_, _, rfl, rfl⟩) wl_X11_177 wi_X11_number ws_X11_number wn_X11 wc_X11_number, List.forall_mem_cons.mpr ⟨cok_v (t := 32) (c := 11) (N := 39) (n := 3) (idx := 185) E (ct_G_X11_told X.2.1) (by rw [hR]; decide) (Nat.zero_le _) (Nat.zero_le _) hG rfl rfl ⟨rfl, by decide, by decide, by decide⟩ (fun _ => ⟨_, _, rfl, rfl⟩) wl_X11_185 wi_X11_told ws_X11_told wn_X11 wc_X11_told, List.forall_mem_cons.mpr ⟨cok_v (t := 32) (c := 11) (N := 39) (n := 1) (idx := 173) E (ct_G_X11_needs X.2.1) (by rw [hR]; decide) (Nat.zero_le _) (Nat.zero_le _) hG rfl rfl ⟨rfl, by decide, by decide, by decide⟩ (fun _ => ⟨_, _, rfl, rfl⟩) wl_X11_173 wi_X11_needs ws_X11_needs wn_X11 wc_X11_needs, List.forall_mem_cons.mpr ⟨cok_v (t := 32) (c := 11) (N := 39) (n := 1) (idx := 195) E (ct_G_X11_readMonths X.2.1) (by rw [hR]; decide) (Nat.zero_le _) (Nat.zero_le _) hG rfl rfl ⟨rfl, by decide, by decide, by decide⟩ (fun _ => ⟨_, _, rfl, rfl⟩) wl_X11_195 wi_X11_readMonths ws_X11_readMonths wn_X11 wc_X11_readMonths, fun _ h => absurd h List.not_mem_nil⟩⟩⟩⟩⟩) R sok_no E
  show WP_ X G Q 0 0 ad SHS_ σ 0 [(42, 86), (9, 0)] []
  have hb1 := wrh_ hp2 (i := 1) (by omega)
  have hb1 : (0 : Int) ≤ σ 92 1 ∧ σ 92 1 ≤ (3 : Int) := hb1
  refine B rfl ?_
  have jn_181 : ∀ (τ181 : Me_t), (∀ k j : Int, ¬ (k = 86 ∨ k = 92) → τ181 k j = σ k j) → (τ181 86 9 ≤ τ181 86 8) → (τ181 86 8 ≤ τ181 86 7) → (τ181 86 7 = σ 86 7) → (σ 86 8 ≤ τ181 86 8 ∧ (σ 86 8 < τ181 86 8 ∨ τ181 86 10 ≤ σ 86 10)) → (BW τ181 92) → (τ181 86 12 = 0 → σ 86 12 = 0) → (τ181 86 12 = 0 → 2 ≤ τ181 92 (6 + 15 * σ 92 1 + 1) ∧ 1 ≤ τ181 92 (6 + 15 * σ 92 1 + 3)) → (∀ j : Int, j < 6 + 15 * σ 92 1 → τ181 92 j = σ 92 j) → (τ181 92 1 = σ 92 1) → WP_ X G Q 0 0 ad SHS_ τ181 181 [(42, 86), (9, 0)] [] := by
    intro τ181 hf181 hi181_0 hi181_1 hi181_2 hi181_3 hi181_4 hi181_5 hi181_6 hi181_7 hi181_8
    refine B rfl ?_
    refine And.intro (by omega) ?_
    intro z1 ez1 hz1
    have hz1 : ((-1) : Int) ≤ z1 ∧ z1 ≤ (1999 : Int) := hz1
    have b2 := wrh_ hi181_4 (i := 1) (by omega)
    have b2 : (0 : Int) ≤ τ181 92 1 ∧ τ181 92 1 ≤ (3 : Int) := b2
    refine And.intro (by omega) ?_
    refine And.intro (by omega) ?_
    refine And.intro (by show ((-1) : Int) ≤ _ ∧ _ ≤ (1999 : Int); omega) ?_
    intro σ3 e4
    have p5 : BW σ3 92 := wsth_ hi181_4 e4 (by omega) (by have e5 : hdhi_ 1 = 3 := rfl; omega)
    refine Exists.intro 0 (And.intro rfl ?_)
    try have t6 : σ3 86 9 = τ181 86 9 := (ups_r e4 (by omega))
    try have t7 : σ3 86 8 = τ181 86 8 := (ups_r e4 (by omega))
    try have t8 : σ3 86 7 = τ181 86 7 := (ups_r e4 (by omega))
    try have t9 : σ3 86 10 = τ181 86 10 := (ups_r e4 (by omega))
    try have t10 : σ3 86 12 = τ181 86 12 := (ups_r e4 (by omega))
    try have t11 : σ3 86 11 = σ 86 11 := ((ups_r e4 (by omega)).trans (hf181 _ _ (by omega)))
    have t12 : σ3 92 1 = z1 + 1 := ups_v e4
    exact (And.intro (by show σ3 86 9 ≤ σ3 86 8; omega) (And.intro (by show σ3 86 8 ≤ σ3 86 7; omega) (And.intro (by show σ3 86 7 = σ 86 7; omega) (And.intro (by show σ 86 8 ≤ σ3 86 8 ∧ (σ 86 8 < σ3 86 8 ∨ σ3 86 10 ≤ σ 86 10); omega) (And.intro p5 (And.intro (by show σ3 86 12 = 0 → σ 86 12 = 0; omega) (And.intro (by show σ3 86 12 = 0 → SW σ3 92; intro hf l h0 h1 h2; by_cases hl : l = σ 92 1; rw [hl, show σ3 92 (6 + 15 * σ 92 1 + 1) = τ181 92 (6 + 15 * σ 92 1 + 1) from (ups_r e4 (by omega)), show σ3 92 (6 + 15 * σ 92 1 + 3) = τ181 92 (6 + 15 * σ 92 1 + 3) from (ups_r e4 (by omega))]; exact hi181_6 (by omega); rw [show σ3 92 (6 + 15 * l + 1) = τ181 92 (6 + 15 * l + 1) from (ups_r e4 (by omega)), show σ3 92 (6 + 15 * l + 3) = τ181 92 (6 + 15 * l + 3) from (ups_r e4 (by omega)), hi181_7 _ (by omega), hi181_7 _ (by omega)]; exact hp3 l h0 h1 (by omega)) (And.intro (by show ∀ j : Int, j < 6 → j ≠ 1 → σ3 92 j = σ 92 j; intro j hj0 hj1; exact ((ups_r e4 (by omega))).trans (hi181_7 j (by omega))) (fun k j hk => ((ups_r e4 (by omega)).trans (hf181 _ _ (by omega))))))))))))
  refine And.intro (by omega) ?_
  intro z13 ez13 hz13
  have hz13 : ((-1) : Int) ≤ z13 ∧ z13 ≤ (1999 : Int) := hz13
  have b14 := wrh_ hp2 (i := 1) (by omega)
  have b14 : (0 : Int) ≤ σ 92 1 ∧ σ 92 1 ≤ (3 : Int) := b14
  refine And.intro (by omega) ?_
  refine And.intro (by omega) ?_
  have jn_86 : ∀ (τ86 : Me_t), (∀ k j : Int, ¬ (k = 86 ∨ k = 92) → τ86 k j = σ k j) → (τ86 86 9 ≤ τ86 86 8) → (τ86 86 8 ≤ τ86 86 7) → (τ86 86 7 = σ 86 7) → (σ 86 8 ≤ τ86 86 8 ∧ (σ 86 8 < τ86 86 8 ∨ τ86 86 10 ≤ σ 86 10)) → (BW τ86 92) → (τ86 86 12 = 0 → σ 86 12 = 0) → (τ86 86 12 = 0 → 2 ≤ τ86 92 (6 + 15 * σ 92 1 + 1) ∧ 1 ≤ τ86 92 (6 + 15 * σ 92 1 + 3)) → (∀ j : Int, j < 6 + 15 * σ 92 1 → τ86 92 j = σ 92 j) → (τ86 92 1 = σ 92 1) → WP_ X G Q 0 0 ad SHS_ τ86 86 [(42, 86), (0, 6 + (15 * z13))] [] := by
    intro τ86 hf86 hi86_0 hi86_1 hi86_2 hi86_3 hi86_4 hi86_5 hi86_6 hi86_7 hi86_8
    refine B rfl ?_
    refine And.intro (by omega) ?_
    refine And.intro (by omega) ?_
    refine And.intro (by show ((-1) : Int) ≤ _ ∧ _ ≤ (1999 : Int); omega) ?_
    intro σ15 e16
    have p17 : BW σ15 92 := wstl_ (l := σ 92 1) (w := 4) hi86_4 e16 (by omega) (by omega) (by omega) (by have e5 : ldhi_ 4 = 9 := rfl; have e6 : ldlo_ 4 = 0 := rfl; omega)
    refine And.intro (by omega) ?_
    refine And.intro (by omega) ?_
    refine And.intro (by show ((-1) : Int) ≤ _ ∧ _ ≤ (1999 : Int); omega) ?_
    intro σ18 e19
    have p20 : BW σ18 92 := wstl_ (l := σ 92 1) (w := 5) p17 e19 (by omega) (by omega) (by omega) (by have e5 : ldhi_ 5 = 7 := rfl; have e6 : ldlo_ 5 = -1 := rfl; omega)
    refine And.intro (by omega) ?_
    refine And.intro (by omega) ?_
    refine And.intro (by show ((-1) : Int) ≤ _ ∧ _ ≤ (1999 : Int); omega) ?_
    intro σ21 e22
    have p23 : BW σ21 92 := wstl_ (l := σ 92 1) (w := 6) p20 e22 (by omega) (by omega) (by omega) (by have e5 : ldhi_ 6 = 9 := rfl; have e6 : ldlo_ 6 = 0 := rfl; omega)
    show WP_ X G Q 0 0 ad SHS_ σ21 115 [(42, 86), (0, 6 + (15 * z13))] [(42, 86)]
    refine so_ldcs (n := 182) (i := 7) (tx := "leap") E (eX11_readLand (115, .ldc 182, 2) (List.mem_of_getElem? (i := 79) rfl)) (by decide) ?_
    refine B rfl ?_
    try have t24 : σ21 86 12 = τ86 86 12 := ((ups_r e22 (by omega)).trans ((ups_r e19 (by omega)).trans (ups_r e16 (by omega))))
    try have t25 : σ21 86 10 = τ86 86 10 := ((ups_r e22 (by omega)).trans ((ups_r e19 (by omega)).trans (ups_r e16 (by omega))))
    try have t26 : σ21 86 8 = τ86 86 8 := ((ups_r e22 (by omega)).trans ((ups_r e19 (by omega)).trans (ups_r e16 (by omega))))
    try have t27 : σ21 86 11 = σ 86 11 := ((ups_r e22 (by omega)).trans ((ups_r e19 (by omega)).trans ((ups_r e16 (by omega)).trans (hf86 _ _ (by omega)))))
    try have t28 : σ21 86 9 = τ86 86 9 := ((ups_r e22 (by omega)).trans ((ups_r e19 (by omega)).trans (ups_r e16 (by omega))))
    try have t29 : σ21 86 7 = τ86 86 7 := ((ups_r e22 (by omega)).trans ((ups_r e19 (by omega)).trans (ups_r e16 (by omega))))
    refine Exists.intro 8 (And.intro rfl (And.intro (And.intro (by show σ21 86 9 ≤ σ21 86 8; omega) (And.intro (by show σ21 86 8 ≤ σ21 86 7; omega) (by show 1 ≤ 8 ∧ 8 ≤ 14; omega))) ?_))
    intro z30 σ32 h31
    have f33 : ∀ k j : Int, ¬ (k = 86) → σ32 k j = σ21 k j := h31.2.2.2.2.2.2.2.2.2
    have h34 : σ32 86 9 ≤ σ32 86 8 := h31.1
    have h35 : σ32 86 8 ≤ σ32 86 7 := h31.2.1
    have h36 : σ32 86 7 = σ21 86 7 := h31.2.2.1
    have h37 : σ21 86 8 ≤ σ32 86 8 ∧ (σ21 86 8 < σ32 86 8 ∨ σ32 86 10 ≤ σ21 86 10) := h31.2.2.2.1
    have h38 : σ32 86 12 = σ21 86 12 := h31.2.2.2.2.1
    have h39 : 0 ≤ z30 ∧ z30 ≤ 1 := h31.2.2.2.2.2.1
    have h40 : z30 = isF_ σ21 8 := h31.2.2.2.2.2.2.1
    have h41 : z30 = 1 → σ21 86 12 = 0 ∧ σ21 86 10 = 1 ∧ (σ21 86 8 < σ32 86 8 ∨ σ32 86 10 ≤ 0) := h31.2.2.2.2.2.2.2.1
    have h42 : z30 = 0 → σ32 86 8 = σ21 86 8 ∧ σ32 86 9 = σ21 86 9 ∧ σ32 86 10 = σ21 86 10 ∧ σ32 86 11 = σ21 86 11 := h31.2.2.2.2.2.2.2.2.1
    refine And.intro (fun h43 => ?_) (fun h43 => ?_)
    · skip
      show WP_ X G Q 0 0 ad SHS_ σ32 181 [(42, 86), (0, 6 + (15 * z13))] []
      refine wdrop_ (L' := [(42, 86), (9, 0)]) ⟨Or.inr rfl, ⟨Or.inl rfl, trivial⟩⟩ ?_
      have p44 : BW σ32 92 := BW_fr p23 (fun k j hk => (f33 _ _ (by omega)))
      try have t45 : σ32 92 (6 + 15 * σ 92 1 + 1) = τ86 92 (6 + 15 * σ 92 1 + 1) := ((f33 _ _ (by omega)).trans ((ups_r e22 (by omega)).trans ((ups_r e19 (by omega)).trans (ups_r e16 (by omega)))))
      try have t46 : σ32 92 (6 + 15 * σ 92 1 + 3) = τ86 92 (6 + 15 * σ 92 1 + 3) := ((f33 _ _ (by omega)).trans ((ups_r e22 (by omega)).trans ((ups_r e19 (by omega)).trans (ups_r e16 (by omega)))))
      have tW : σ32 92 (6 + 15 * σ 92 1 + 1) = τ86 92 (6 + 15 * σ 92 1 + 1) := ((f33 _ _ (by omega)).trans ((ups_r e22 (by omega)).trans ((ups_r e19 (by omega)).trans (ups_r e16 (by omega)))))
      have tM : σ32 92 (6 + 15 * σ 92 1 + 3) = τ86 92 (6 + 15 * σ 92 1 + 3) := ((f33 _ _ (by omega)).trans ((ups_r e22 (by omega)).trans ((ups_r e19 (by omega)).trans (ups_r e16 (by omega)))))
      try have t47 : σ32 92 1 = τ86 92 1 := ((f33 _ _ (by omega)).trans ((ups_r e22 (by omega)).trans ((ups_r e19 (by omega)).trans (ups_r e16 (by omega)))))
      exact jn_181 σ32 (fun k j hk => ((f33 _ _ (by omega)).trans ((ups_r e22 (by omega)).trans ((ups_r e19 (by omega)).trans ((ups_r e16 (by omega)).trans (hf86 _ _ (by omega))))))) (by show σ32 86 9 ≤ σ32 86 8; omega) (by show σ32 86 8 ≤ σ32 86 7; omega) (by show σ32 86 7 = σ 86 7; omega) (by show σ 86 8 ≤ σ32 86 8 ∧ (σ 86 8 < σ32 86 8 ∨ σ32 86 10 ≤ σ 86 10); omega) p44 (by show σ32 86 12 = 0 → σ 86 12 = 0; omega) (by show σ32 86 12 = 0 → 2 ≤ σ32 92 (6 + 15 * σ 92 1 + 1) ∧ 1 ≤ σ32 92 (6 + 15 * σ 92 1 + 3); intro hf; have h86 := hi86_6 (by omega); exact ⟨by omega, by omega⟩) (by show ∀ j : Int, j < 6 + 15 * σ 92 1 → σ32 92 j = σ 92 j; intro j hj; exact (((f33 _ _ (by omega)).trans ((ups_r e22 (by omega)).trans ((ups_r e19 (by omega)).trans (ups_r e16 (by omega)))))).trans (hi86_7 j hj)) (by show σ32 92 1 = σ 92 1; omega)
    · skip
      show WP_ X G Q 0 0 ad SHS_ σ32 123 [(42, 86), (0, 6 + (15 * z13))] []
      refine B rfl ?_
      refine And.intro (by omega) ?_
      refine Exists.intro (2, 9) (And.intro rfl (And.intro (And.intro (by show σ32 86 9 ≤ σ32 86 8; omega) (by show σ32 86 8 ≤ σ32 86 7; omega)) ?_))
      intro z48 σ50 h49
      have f51 : ∀ k j : Int, ¬ (k = 86) → σ50 k j = σ32 k j := h49.2.2.2.2.2
      have h52 : σ50 86 9 ≤ σ50 86 8 := h49.1
      have h53 : σ50 86 8 ≤ σ50 86 7 := h49.2.1
      have h54 : σ50 86 7 = σ32 86 7 := h49.2.2.1
      have h55 : σ32 86 8 ≤ σ50 86 8 ∧ (σ32 86 8 < σ50 86 8 ∨ σ50 86 10 ≤ σ32 86 10) := h49.2.2.2.1
      have h56 : (σ50 86 12 = 0 ∧ σ32 86 12 = 0 ∧ 2 ≤ z48 ∧ z48 ≤ 9 ∧ σ32 86 10 = 2 ∧ z48 = σ32 86 11 ∧ (σ32 86 8 < σ50 86 8 ∨ σ50 86 10 ≤ 0)) ∨ (σ50 86 12 ≠ 0 ∧ z48 = 0) := h49.2.2.2.2.1
      refine And.intro (by omega) ?_
      refine And.intro (by show ((-1) : Int) ≤ _ ∧ _ ≤ (1999 : Int); omega) ?_
      intro σ57 e58
      have p60 : BW σ50 92 := BW_fr p23 (fun k j hk => ((f51 _ _ (by omega)).trans (f33 _ _ (by omega))))
      have p59 : BW σ57 92 := wstl_ (l := σ 92 1) (w := 4) p60 e58 (by omega) (by omega) (by omega) (by have e5 : ldhi_ 4 = 9 := rfl; have e6 : ldlo_ 4 = 0 := rfl; omega)
      refine And.intro (by omega) ?_
      show WP_ X G Q 0 0 ad SHS_ σ57 146 [(42, 86), (0, 6 + (15 * z13))] [(42, 86), (0, (6 + (15 * z13)) + 5), (48, 92)]
      refine so_ldcs (n := 198) (i := 8) (tx := "in") E (eX11_readLand (146, .ldc 198, 2) (List.mem_of_getElem? (i := 98) rfl)) (by decide) ?_
      refine B rfl ?_
      refine And.intro (by omega) ?_
      refine And.intro (by omega) ?_
      intro z61 ez61 hz61
      have hz61 : ((-1) : Int) ≤ z61 ∧ z61 ≤ (1999 : Int) := hz61
      try have t62 : σ57 92 ((6 + (15 * z13)) + 3) = σ 92 ((6 + (15 * z13)) + 3) := ((ups_r e58 (by omega)).trans ((f51 _ _ (by omega)).trans ((f33 _ _ (by omega)).trans ((ups_r e22 (by omega)).trans ((ups_r e19 (by omega)).trans ((ups_r e16 (by omega)).trans (hf86 _ _ (by omega))))))))
      have hwm := wrl_ p59 (x := ((6 + (15 * z13)) + 3)) (l := σ 92 1) (w := 3) (by omega) (by omega) (by omega)
      have e7 : ldhi_ 3 = 8 := rfl
      have e8 : ldlo_ 3 = 0 := rfl
      refine And.intro (by omega) ?_
      try have t63 : σ57 86 12 = σ50 86 12 := (ups_r e58 (by omega))
      try have t64 : σ57 86 10 = σ50 86 10 := (ups_r e58 (by omega))
      try have t65 : σ57 86 8 = σ50 86 8 := (ups_r e58 (by omega))
      try have t66 : σ57 86 11 = σ32 86 11 := ((ups_r e58 (by omega)).trans (f51 _ _ (by omega)))
      try have t67 : σ57 86 9 = σ50 86 9 := (ups_r e58 (by omega))
      try have t68 : σ57 86 7 = σ50 86 7 := (ups_r e58 (by omega))
      refine Exists.intro (9, 0, z61 - 1) (And.intro rfl (And.intro (And.intro (by show σ57 86 9 ≤ σ57 86 8; omega) (And.intro (by show σ57 86 8 ≤ σ57 86 7; omega) (by show 1 ≤ 9 ∧ 9 ≤ 14; omega))) ?_))
      intro z69 σ71 h70
      have f72 : ∀ k j : Int, ¬ (k = 86) → σ71 k j = σ57 k j := h70.2.2.2.2.2
      have h73 : σ71 86 9 ≤ σ71 86 8 := h70.1
      have h74 : σ71 86 8 ≤ σ71 86 7 := h70.2.1
      have h75 : σ71 86 7 = σ57 86 7 := h70.2.2.1
      have h76 : σ57 86 8 ≤ σ71 86 8 ∧ (σ57 86 8 < σ71 86 8 ∨ σ71 86 10 ≤ σ57 86 10) := h70.2.2.2.1
      have h77 : (σ71 86 12 = 0 ∧ σ57 86 12 = 0 ∧ 0 ≤ z69 ∧ z69 ≤ (z61 - 1) ∧ (σ57 86 8 < σ71 86 8 ∨ σ71 86 10 ≤ 0)) ∨ (σ71 86 12 ≠ 0 ∧ z69 = 0) := h70.2.2.2.2.1
      refine And.intro (by omega) ?_
      refine And.intro (by show ((-1) : Int) ≤ _ ∧ _ ≤ (1999 : Int); omega) ?_
      intro σ78 e79
      have p81 : BW σ71 92 := BW_fr p59 (fun k j hk => (f72 _ _ (by omega)))
      have p80 : BW σ78 92 := wstl_ (l := σ 92 1) (w := 5) p81 e79 (by omega) (by omega) (by omega) (by have e5 : ldhi_ 5 = 7 := rfl; have e6 : ldlo_ 5 = -1 := rfl; omega)
      refine And.intro (by omega) ?_
      show WP_ X G Q 0 0 ad SHS_ σ78 172 [(42, 86), (0, 6 + (15 * z13))] [(42, 86), (0, (6 + (15 * z13)) + 6), (48, 92)]
      refine so_ldcs (n := 199) (i := 9) (tx := "adds") E (eX11_readLand (172, .ldc 199, 2) (List.mem_of_getElem? (i := 116) rfl)) (by decide) ?_
      refine B rfl ?_
      try have t82 : σ78 86 12 = σ71 86 12 := (ups_r e79 (by omega))
      try have t83 : σ78 86 10 = σ71 86 10 := (ups_r e79 (by omega))
      try have t84 : σ78 86 8 = σ71 86 8 := (ups_r e79 (by omega))
      try have t85 : σ78 86 11 = σ57 86 11 := ((ups_r e79 (by omega)).trans (f72 _ _ (by omega)))
      try have t86 : σ78 86 9 = σ71 86 9 := (ups_r e79 (by omega))
      try have t87 : σ78 86 7 = σ71 86 7 := (ups_r e79 (by omega))
      refine Exists.intro (10, 1, 9) (And.intro rfl (And.intro (And.intro (by show σ78 86 9 ≤ σ78 86 8; omega) (And.intro (by show σ78 86 8 ≤ σ78 86 7; omega) (by show 1 ≤ 10 ∧ 10 ≤ 14; omega))) ?_))
      intro z88 σ90 h89
      have f91 : ∀ k j : Int, ¬ (k = 86) → σ90 k j = σ78 k j := h89.2.2.2.2.2
      have h92 : σ90 86 9 ≤ σ90 86 8 := h89.1
      have h93 : σ90 86 8 ≤ σ90 86 7 := h89.2.1
      have h94 : σ90 86 7 = σ78 86 7 := h89.2.2.1
      have h95 : σ78 86 8 ≤ σ90 86 8 ∧ (σ78 86 8 < σ90 86 8 ∨ σ90 86 10 ≤ σ78 86 10) := h89.2.2.2.1
      have h96 : (σ90 86 12 = 0 ∧ σ78 86 12 = 0 ∧ 1 ≤ z88 ∧ z88 ≤ 9 ∧ (σ78 86 8 < σ90 86 8 ∨ σ90 86 10 ≤ 0)) ∨ (σ90 86 12 ≠ 0 ∧ z88 = 0) := h89.2.2.2.2.1
      refine And.intro (by omega) ?_
      refine And.intro (by show ((-1) : Int) ≤ _ ∧ _ ≤ (1999 : Int); omega) ?_
      intro σ97 e98
      have p100 : BW σ90 92 := BW_fr p80 (fun k j hk => (f91 _ _ (by omega)))
      have p99 : BW σ97 92 := wstl_ (l := σ 92 1) (w := 6) p100 e98 (by omega) (by omega) (by omega) (by have e5 : ldhi_ 6 = 9 := rfl; have e6 : ldlo_ 6 = 0 := rfl; omega)
      show WP_ X G Q 0 0 ad SHS_ σ97 181 [(42, 86), (0, 6 + (15 * z13))] []
      refine wdrop_ (L' := [(42, 86), (9, 0)]) ⟨Or.inr rfl, ⟨Or.inl rfl, trivial⟩⟩ ?_
      try have t101 : σ97 86 9 = σ90 86 9 := (ups_r e98 (by omega))
      try have t102 : σ97 86 8 = σ90 86 8 := (ups_r e98 (by omega))
      try have t103 : σ97 86 7 = σ90 86 7 := (ups_r e98 (by omega))
      try have t104 : σ97 86 10 = σ90 86 10 := (ups_r e98 (by omega))
      try have t105 : σ97 86 12 = σ90 86 12 := (ups_r e98 (by omega))
      try have t106 : σ97 92 (6 + 15 * σ 92 1 + 1) = τ86 92 (6 + 15 * σ 92 1 + 1) := ((ups_r e98 (by omega)).trans ((f91 _ _ (by omega)).trans ((ups_r e79 (by omega)).trans ((f72 _ _ (by omega)).trans ((ups_r e58 (by omega)).trans ((f51 _ _ (by omega)).trans ((f33 _ _ (by omega)).trans ((ups_r e22 (by omega)).trans ((ups_r e19 (by omega)).trans (ups_r e16 (by omega)))))))))))
      try have t107 : σ97 92 (6 + 15 * σ 92 1 + 3) = τ86 92 (6 + 15 * σ 92 1 + 3) := ((ups_r e98 (by omega)).trans ((f91 _ _ (by omega)).trans ((ups_r e79 (by omega)).trans ((f72 _ _ (by omega)).trans ((ups_r e58 (by omega)).trans ((f51 _ _ (by omega)).trans ((f33 _ _ (by omega)).trans ((ups_r e22 (by omega)).trans ((ups_r e19 (by omega)).trans (ups_r e16 (by omega)))))))))))
      have tW : σ97 92 (6 + 15 * σ 92 1 + 1) = τ86 92 (6 + 15 * σ 92 1 + 1) := ((ups_r e98 (by omega)).trans ((f91 _ _ (by omega)).trans ((ups_r e79 (by omega)).trans ((f72 _ _ (by omega)).trans ((ups_r e58 (by omega)).trans ((f51 _ _ (by omega)).trans ((f33 _ _ (by omega)).trans ((ups_r e22 (by omega)).trans ((ups_r e19 (by omega)).trans (ups_r e16 (by omega)))))))))))
      have tM : σ97 92 (6 + 15 * σ 92 1 + 3) = τ86 92 (6 + 15 * σ 92 1 + 3) := ((ups_r e98 (by omega)).trans ((f91 _ _ (by omega)).trans ((ups_r e79 (by omega)).trans ((f72 _ _ (by omega)).trans ((ups_r e58 (by omega)).trans ((f51 _ _ (by omega)).trans ((f33 _ _ (by omega)).trans ((ups_r e22 (by omega)).trans ((ups_r e19 (by omega)).trans (ups_r e16 (by omega)))))))))))
      try have t108 : σ97 86 11 = σ78 86 11 := ((ups_r e98 (by omega)).trans (f91 _ _ (by omega)))
      try have t109 : σ97 92 1 = τ86 92 1 := ((ups_r e98 (by omega)).trans ((f91 _ _ (by omega)).trans ((ups_r e79 (by omega)).trans ((f72 _ _ (by omega)).trans ((ups_r e58 (by omega)).trans ((f51 _ _ (by omega)).trans ((f33 _ _ (by omega)).trans ((ups_r e22 (by omega)).trans ((ups_r e19 (by omega)).trans (ups_r e16 (by omega)))))))))))
      exact jn_181 σ97 (fun k j hk => ((ups_r e98 (by omega)).trans ((f91 _ _ (by omega)).trans ((ups_r e79 (by omega)).trans ((f72 _ _ (by omega)).trans ((ups_r e58 (by omega)).trans ((f51 _ _ (by omega)).trans ((f33 _ _ (by omega)).trans ((ups_r e22 (by omega)).trans ((ups_r e19 (by omega)).trans ((ups_r e16 (by omega)).trans (hf86 _ _ (by omega))))))))))))) (by show σ97 86 9 ≤ σ97 86 8; omega) (by show σ97 86 8 ≤ σ97 86 7; omega) (by show σ97 86 7 = σ 86 7; omega) (by show σ 86 8 ≤ σ97 86 8 ∧ (σ 86 8 < σ97 86 8 ∨ σ97 86 10 ≤ σ 86 10); omega) p99 (by show σ97 86 12 = 0 → σ 86 12 = 0; omega) (by show σ97 86 12 = 0 → 2 ≤ σ97 92 (6 + 15 * σ 92 1 + 1) ∧ 1 ≤ σ97 92 (6 + 15 * σ 92 1 + 3); intro hf; have h86 := hi86_6 (by omega); exact ⟨by omega, by omega⟩) (by show ∀ j : Int, j < 6 + 15 * σ 92 1 → σ97 92 j = σ 92 j; intro j hj; exact (((ups_r e98 (by omega)).trans ((f91 _ _ (by omega)).trans ((ups_r e79 (by omega)).trans ((f72 _ _ (by omega)).trans ((ups_r e58 (by omega)).trans ((f51 _ _ (by omega)).trans ((f33 _ _ (by omega)).trans ((ups_r e22 (by omega)).trans ((ups_r e19 (by omega)).trans (ups_r e16 (by omega)))))))))))).trans (hi86_7 j hj)) (by show σ97 92 1 = σ 92 1; omega)
  refine And.intro (by omega) ?_
  show WP_ X G Q 0 0 ad SHS_ σ 21 [(42, 86), (0, 6 + (15 * z13))] [(42, 86), (0, (6 + (15 * z13)) + 0), (48, 92)]
  refine so_ldcs (n := 184) (i := 3) (tx := "from") E (eX11_readLand (21, .ldc 184, 2) (List.mem_of_getElem? (i := 15) rfl)) (by decide) ?_
  refine B rfl ?_
  refine Exists.intro (4, 0, 999) (And.intro rfl (And.intro (And.intro (by show σ 86 9 ≤ σ 86 8; omega) (And.intro (by show σ 86 8 ≤ σ 86 7; omega) (by show 1 ≤ 4 ∧ 4 ≤ 14; omega))) ?_))
  intro z110 σ112 h111
  have f113 : ∀ k j : Int, ¬ (k = 86) → σ112 k j = σ k j := h111.2.2.2.2.2
  have h114 : σ112 86 9 ≤ σ112 86 8 := h111.1
  have h115 : σ112 86 8 ≤ σ112 86 7 := h111.2.1
  have h116 : σ112 86 7 = σ 86 7 := h111.2.2.1
  have h117 : σ 86 8 ≤ σ112 86 8 ∧ (σ 86 8 < σ112 86 8 ∨ σ112 86 10 ≤ σ 86 10) := h111.2.2.2.1
  have h118 : (σ112 86 12 = 0 ∧ σ 86 12 = 0 ∧ 0 ≤ z110 ∧ z110 ≤ 999 ∧ (σ 86 8 < σ112 86 8 ∨ σ112 86 10 ≤ 0)) ∨ (σ112 86 12 ≠ 0 ∧ z110 = 0) := h111.2.2.2.2.1
  refine And.intro (by omega) ?_
  refine And.intro (by show ((-1) : Int) ≤ _ ∧ _ ≤ (1999 : Int); omega) ?_
  intro σ119 e120
  have p122 : BW σ112 92 := BW_fr hp2 (fun k j hk => (f113 _ _ (by omega)))
  have p121 : BW σ119 92 := wstl_ (l := σ 92 1) (w := 0) p122 e120 (by omega) (by omega) (by omega) (by have e5 : ldhi_ 0 = 999 := rfl; have e6 : ldlo_ 0 = 0 := rfl; omega)
  refine And.intro (by omega) ?_
  show WP_ X G Q 0 0 ad SHS_ σ119 39 [(42, 86), (0, 6 + (15 * z13))] [(42, 86), (0, (6 + (15 * z13)) + 1), (48, 92)]
  refine so_ldcs (n := 189) (i := 4) (tx := "week") E (eX11_readLand (39, .ldc 189, 2) (List.mem_of_getElem? (i := 26) rfl)) (by decide) ?_
  refine B rfl ?_
  try have t123 : σ119 86 12 = σ112 86 12 := (ups_r e120 (by omega))
  try have t124 : σ119 86 10 = σ112 86 10 := (ups_r e120 (by omega))
  try have t125 : σ119 86 8 = σ112 86 8 := (ups_r e120 (by omega))
  try have t126 : σ119 86 11 = σ 86 11 := ((ups_r e120 (by omega)).trans (f113 _ _ (by omega)))
  try have t127 : σ119 86 9 = σ112 86 9 := (ups_r e120 (by omega))
  try have t128 : σ119 86 7 = σ112 86 7 := (ups_r e120 (by omega))
  refine Exists.intro (5, 2, 10) (And.intro rfl (And.intro (And.intro (by show σ119 86 9 ≤ σ119 86 8; omega) (And.intro (by show σ119 86 8 ≤ σ119 86 7; omega) (by show 1 ≤ 5 ∧ 5 ≤ 14; omega))) ?_))
  intro z129 σ131 h130
  have f132 : ∀ k j : Int, ¬ (k = 86) → σ131 k j = σ119 k j := h130.2.2.2.2.2
  have h133 : σ131 86 9 ≤ σ131 86 8 := h130.1
  have h134 : σ131 86 8 ≤ σ131 86 7 := h130.2.1
  have h135 : σ131 86 7 = σ119 86 7 := h130.2.2.1
  have h136 : σ119 86 8 ≤ σ131 86 8 ∧ (σ119 86 8 < σ131 86 8 ∨ σ131 86 10 ≤ σ119 86 10) := h130.2.2.2.1
  have h137 : (σ131 86 12 = 0 ∧ σ119 86 12 = 0 ∧ 2 ≤ z129 ∧ z129 ≤ 10 ∧ (σ119 86 8 < σ131 86 8 ∨ σ131 86 10 ≤ 0)) ∨ (σ131 86 12 ≠ 0 ∧ z129 = 0) := h130.2.2.2.2.1
  refine And.intro (by omega) ?_
  refine And.intro (by show ((-1) : Int) ≤ _ ∧ _ ≤ (1999 : Int); omega) ?_
  intro σ138 e139
  have p141 : BW σ131 92 := BW_fr p121 (fun k j hk => (f132 _ _ (by omega)))
  have p140 : BW σ138 92 := wstl_ (l := σ 92 1) (w := 1) p141 e139 (by omega) (by omega) (by omega) (by have e5 : ldhi_ 1 = 10 := rfl; have e6 : ldlo_ 1 = 0 := rfl; omega)
  refine And.intro (by omega) ?_
  show WP_ X G Q 0 0 ad SHS_ σ138 56 [(42, 86), (0, 6 + (15 * z13))] [(42, 86), (0, (6 + (15 * z13)) + 2), (48, 92)]
  refine so_ldcs (n := 191) (i := 5) (tx := "rests") E (eX11_readLand (56, .ldc 191, 2) (List.mem_of_getElem? (i := 37) rfl)) (by decide) ?_
  refine B rfl ?_
  refine And.intro (by omega) ?_
  refine And.intro (by omega) ?_
  intro z142 ez142 hz142
  have hz142 : ((-1) : Int) ≤ z142 ∧ z142 ≤ (1999 : Int) := hz142
  have t143 : σ138 92 ((6 + (15 * z13)) + 1) = z129 := ups_v e139
  have hwk := wrl_ p140 (x := ((6 + (15 * z13)) + 1)) (l := σ 92 1) (w := 1) (by omega) (by omega) (by omega)
  have e5 : ldhi_ 1 = 10 := rfl
  have e6 : ldlo_ 1 = 0 := rfl
  try have q144 := shl3_1 (b := z142) (by omega) (by omega)
  try have q145 := shl3_b (b := z142) (by omega) (by omega)
  refine And.intro (by omega) ?_
  try have t146 : σ138 86 12 = σ131 86 12 := (ups_r e139 (by omega))
  try have t147 : σ138 86 10 = σ131 86 10 := (ups_r e139 (by omega))
  try have t148 : σ138 86 8 = σ131 86 8 := (ups_r e139 (by omega))
  try have t149 : σ138 86 11 = σ119 86 11 := ((ups_r e139 (by omega)).trans (f132 _ _ (by omega)))
  try have t150 : σ138 86 9 = σ131 86 9 := (ups_r e139 (by omega))
  try have t151 : σ138 86 7 = σ131 86 7 := (ups_r e139 (by omega))
  refine Exists.intro (6, 0, (shl3_ 1 z142) - 2) (And.intro rfl (And.intro (And.intro (by show σ138 86 9 ≤ σ138 86 8; omega) (And.intro (by show σ138 86 8 ≤ σ138 86 7; omega) (by show 1 ≤ 6 ∧ 6 ≤ 14; omega))) ?_))
  intro z152 σ154 h153
  have f155 : ∀ k j : Int, ¬ (k = 86) → σ154 k j = σ138 k j := h153.2.2.2.2.2
  have h156 : σ154 86 9 ≤ σ154 86 8 := h153.1
  have h157 : σ154 86 8 ≤ σ154 86 7 := h153.2.1
  have h158 : σ154 86 7 = σ138 86 7 := h153.2.2.1
  have h159 : σ138 86 8 ≤ σ154 86 8 ∧ (σ138 86 8 < σ154 86 8 ∨ σ154 86 10 ≤ σ138 86 10) := h153.2.2.2.1
  have h160 : (σ154 86 12 = 0 ∧ σ138 86 12 = 0 ∧ 0 ≤ z152 ∧ z152 ≤ ((shl3_ 1 z142) - 2) ∧ (σ138 86 8 < σ154 86 8 ∨ σ154 86 10 ≤ 0)) ∨ (σ154 86 12 ≠ 0 ∧ z152 = 0) := h153.2.2.2.2.1
  refine And.intro (by omega) ?_
  refine And.intro (by show ((-1) : Int) ≤ _ ∧ _ ≤ (1999 : Int); omega) ?_
  intro σ161 e162
  have p164 : BW σ154 92 := BW_fr p140 (fun k j hk => (f155 _ _ (by omega)))
  have p163 : BW σ161 92 := wstl_ (l := σ 92 1) (w := 2) p164 e162 (by omega) (by omega) (by omega) (by have e5 : ldhi_ 2 = 1022 := rfl; have e6 : ldlo_ 2 = 0 := rfl; omega)
  show WP_ X G Q 0 0 ad SHS_ σ161 76 [(42, 86), (0, 6 + (15 * z13))] [(42, 86)]
  refine so_ldcs (n := 193) (i := 6) (tx := "year") E (eX11_readLand (76, .ldc 193, 2) (List.mem_of_getElem? (i := 52) rfl)) (by decide) ?_
  refine B rfl ?_
  try have t165 : σ161 86 12 = σ154 86 12 := (ups_r e162 (by omega))
  try have t166 : σ161 86 10 = σ154 86 10 := (ups_r e162 (by omega))
  try have t167 : σ161 86 8 = σ154 86 8 := (ups_r e162 (by omega))
  try have t168 : σ161 86 11 = σ138 86 11 := ((ups_r e162 (by omega)).trans (f155 _ _ (by omega)))
  try have t169 : σ161 86 9 = σ154 86 9 := (ups_r e162 (by omega))
  try have t170 : σ161 86 7 = σ154 86 7 := (ups_r e162 (by omega))
  refine Exists.intro 7 (And.intro rfl (And.intro (And.intro (by show σ161 86 9 ≤ σ161 86 8; omega) (And.intro (by show σ161 86 8 ≤ σ161 86 7; omega) (by show 1 ≤ 7 ∧ 7 ≤ 14; omega))) ?_))
  intro z171 σ173 h172
  have f174 : ∀ k j : Int, ¬ (k = 86) → σ173 k j = σ161 k j := h172.2.2.2.2.2
  have h175 : σ173 86 9 ≤ σ173 86 8 := h172.1
  have h176 : σ173 86 8 ≤ σ173 86 7 := h172.2.1
  have h177 : σ173 86 7 = σ161 86 7 := h172.2.2.1
  have h178 : σ161 86 8 ≤ σ173 86 8 ∧ (σ161 86 8 < σ173 86 8 ∨ σ173 86 10 ≤ σ161 86 10) := h172.2.2.2.1
  have h179 : σ173 86 12 = 0 → σ161 86 12 = 0 ∧ (σ161 86 8 < σ173 86 8 ∨ σ173 86 10 ≤ 0) := h172.2.2.2.2.1
  try have t180 : σ173 86 11 = σ161 86 11 := (f174 _ _ (by omega))
  have p181 : BW σ173 92 := BW_fr p163 (fun k j hk => (f174 _ _ (by omega)))
  try have t182 : σ173 92 1 = σ 92 1 := ((f174 _ _ (by omega)).trans ((ups_r e162 (by omega)).trans ((f155 _ _ (by omega)).trans ((ups_r e139 (by omega)).trans ((f132 _ _ (by omega)).trans ((ups_r e120 (by omega)).trans (f113 _ _ (by omega))))))))
  refine Exists.intro (6 + (15 * z13)) (And.intro rfl (And.intro (And.intro (by show σ173 86 9 ≤ σ173 86 8; omega) (And.intro (by show σ173 86 8 ≤ σ173 86 7; omega) (And.intro p181 (And.intro (by show (6 + (15 * z13)) = 6 + 15 * σ173 92 1; omega) (And.intro (by show 0 ≤ σ173 92 1; omega) (by show σ173 92 1 ≤ 2; omega)))))) ?_))
  intro z183 σ185 h184
  have f186 : ∀ k j : Int, ¬ (k = 86 ∨ k = 92) → σ185 k j = σ173 k j := h184.2.2.2.2.2.2.2
  have h187 : σ185 86 9 ≤ σ185 86 8 := h184.1
  have h188 : σ185 86 8 ≤ σ185 86 7 := h184.2.1
  have h189 : σ185 86 7 = σ173 86 7 := h184.2.2.1
  have h190 : σ173 86 8 ≤ σ185 86 8 ∧ (σ173 86 8 < σ185 86 8 ∨ σ185 86 10 ≤ σ173 86 10) := h184.2.2.2.1
  have h191 : BW σ185 92 := h184.2.2.2.2.1
  have h192 : σ185 86 12 = 0 → σ173 86 12 = 0 ∧ 1 ≤ σ185 92 ((6 + (15 * z13)) + 3) := h184.2.2.2.2.2.1
  have h193 : ∀ j : Int, j < (6 + (15 * z13)) + 3 → σ185 92 j = σ173 92 j := h184.2.2.2.2.2.2.1
  have hmo : σ185 86 12 = 0 → 1 ≤ σ185 92 (6 + 15 * z13 + 3) := fun q => (h184.2.2.2.2.2.1 q).2
  try have t194 : σ185 92 (6 + 15 * σ 92 1 + 1) = σ 92 (6 + 15 * σ 92 1 + 1) := ((show σ185 92 (6 + 15 * σ 92 1 + 1) = σ173 92 (6 + 15 * σ 92 1 + 1) from by first | exact f186 _ _ (by omega) | exact h193 _ (by omega)).trans ((f174 _ _ (by omega)).trans ((ups_r e162 (by omega)).trans ((f155 _ _ (by omega)).trans ((ups_r e139 (by omega)).trans ((f132 _ _ (by omega)).trans ((ups_r e120 (by omega)).trans (f113 _ _ (by omega)))))))))
  try have t195 : σ185 92 (6 + 15 * σ 92 1 + 3) = σ 92 (6 + 15 * σ 92 1 + 3) := ((show σ185 92 (6 + 15 * σ 92 1 + 3) = σ173 92 (6 + 15 * σ 92 1 + 3) from by first | exact f186 _ _ (by omega) | exact h193 _ (by omega)).trans ((f174 _ _ (by omega)).trans ((ups_r e162 (by omega)).trans ((f155 _ _ (by omega)).trans ((ups_r e139 (by omega)).trans ((f132 _ _ (by omega)).trans ((ups_r e120 (by omega)).trans (f113 _ _ (by omega)))))))))
  have tW : σ185 92 (6 + 15 * σ 92 1 + 1) = z129 := by rw [show 6 + 15 * σ 92 1 + 1 = ((6 + (15 * z13)) + 1) by omega]; exact (((show σ185 92 ((6 + (15 * z13)) + 1) = σ173 92 ((6 + (15 * z13)) + 1) from by first | exact f186 _ _ (by omega) | exact h193 _ (by omega)).trans ((f174 _ _ (by omega)).trans ((ups_r e162 (by omega)).trans (f155 _ _ (by omega)))))).trans (ups_v e139)
  have tM : σ185 92 (6 + 15 * σ 92 1 + 3) = σ185 92 (6 + 15 * σ 92 1 + 3) := rfl
  have hmo2 := hmo
  rw [show 6 + 15 * z13 + 3 = 6 + 15 * σ 92 1 + 3 by omega] at hmo2
  try have t196 : σ185 86 11 = σ173 86 11 := (show σ185 86 11 = σ173 86 11 from by first | exact f186 _ _ (by omega) | exact h193 _ (by omega))
  try have t197 : σ185 92 1 = σ173 92 1 := (show σ185 92 1 = σ173 92 1 from by first | exact f186 _ _ (by omega) | exact h193 _ (by omega))
  exact jn_86 σ185 (fun k j hk => ((show σ185 k j = σ173 k j from by first | exact f186 _ _ (by omega) | exact h193 _ (by omega) | (by_cases hka : k = 92; (rw [hka]; exact h193 _ (by omega)); exact f186 _ _ (by omega))).trans ((f174 _ _ (by omega)).trans ((ups_r e162 (by omega)).trans ((f155 _ _ (by omega)).trans ((ups_r e139 (by omega)).trans ((f132 _ _ (by omega)).trans ((ups_r e120 (by omega)).trans (f113 _ _ (by omega)))))))))) (by show σ185 86 9 ≤ σ185 86 8; omega) (by show σ185 86 8 ≤ σ185 86 7; omega) (by show σ185 86 7 = σ 86 7; omega) (by show σ 86 8 ≤ σ185 86 8 ∧ (σ 86 8 < σ185 86 8 ∨ σ185 86 10 ≤ σ 86 10); omega) h191 (by show σ185 86 12 = 0 → σ 86 12 = 0; omega) (by show σ185 86 12 = 0 → 2 ≤ σ185 92 (6 + 15 * σ 92 1 + 1) ∧ 1 ≤ σ185 92 (6 + 15 * σ 92 1 + 3); intro hf; exact ⟨by omega, by omega⟩) (by show ∀ j : Int, j < 6 + 15 * σ 92 1 → σ185 92 j = σ 92 j; intro j hj; exact ((show σ185 92 j = σ173 92 j from by first | exact f186 _ _ (by omega) | exact h193 _ (by omega)).trans ((f174 _ _ (by omega)).trans ((ups_r e162 (by omega)).trans ((f155 _ _ (by omega)).trans ((ups_r e139 (by omega)).trans ((f132 _ _ (by omega)).trans ((ups_r e120 (by omega)).trans (f113 _ _ (by omega)))))))))) (by show σ185 92 1 = σ 92 1; omega)
