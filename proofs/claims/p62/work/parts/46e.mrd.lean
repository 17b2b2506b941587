def as_G_X11_readNext : Unit → List Sv_t := fun a => [(42, 86)]
def pre_G_X11_readNext : Unit → Me_t → Prop := fun a σ => (σ 86 9 ≤ σ 86 8) ∧ (σ 86 8 ≤ σ 86 7) ∧ (BW σ 92) ∧ (SW σ 92)
def post_G_X11_readNext : Unit → Me_t → Int → Me_t → Prop := fun a σ z σ' => (σ' 86 9 ≤ σ' 86 8) ∧ (σ' 86 8 ≤ σ' 86 7) ∧ (σ' 86 7 = σ 86 7) ∧ (σ 86 8 ≤ σ' 86 8 ∧ (σ 86 8 < σ' 86 8 ∨ σ' 86 10 ≤ σ 86 10)) ∧ (BW σ' 92) ∧ (σ' 86 12 = 0 → σ 86 12 = 0 ∧ (σ 86 8 < σ' 86 8 ∨ σ' 86 10 ≤ 0)) ∧ (σ' 86 12 = 0 → SW σ' 92) ∧ (∀ j : Int, j < 6 → j ≠ 1 → j ≠ 2 → j ≠ 3 → σ' 92 j = σ 92 j) ∧ (∀ k j : Int, ¬ (k = 86 ∨ k = 92) → σ' k j = σ k j)
set_option maxHeartbeats 3000000 in
set_option maxRecDepth 100000 in
theorem ct_G_X11_readNext (l : Launch) : CT_ l yX11_readNext cX11_readNext 2 none 10 217 as_G_X11_readNext (rmV_) pre_G_X11_readNext post_G_X11_readNext := by
  refine ct_of (by decide) (fun _ => Nat.le_of_ble_eq_true rfl) ?_
  intro X G Q ad σ a hl hR E hG R hM hv hp
  have hp0 : σ 86 9 ≤ σ 86 8 := hp.1
  have hp1 : σ 86 8 ≤ σ 86 7 := hp.2.1
  have hp2 : BW σ 92 := hp.2.2.1
  have hp3 : SW σ 92 := hp.2.2.2
  have B := @bk_ X G Q 0 0 ad SHS_ RX11 cX11_readNext 2 none flX11 plX11 knX11 [(294, 1, TR_ as_G_X11_good (rmI_) pre_G_X11_good post_G_X11_good), (332, 2, TR_ as_G_X11_takes (rmI_) pre_G_X11_takes post_G_X11_takes), (326, 1, TR_ as_G_X11_advance (rmV_) pre_G_X11_advance post_G_X11_advance), (440, 1, TR_ as_G_X11_readTruce (rmV_) pre_G_X11_readTruce post_G_X11_readTruce), (434, 1, TR_ as_G_X11_readFeast (rmV_) pre_G_X11_readFeast post_G_X11_readFeast), (428, 1, TR_ as_G_X11_readLand (rmV_) pre_G_X11_readLand post_G_X11_readLand), (318, 2, TR_ as_G_X11_is (rmI_) pre_G_X11_is post_G_X11_is), (338, 2, TR_ as_G_X11_errs (rmV_) pre_G_X11_errs post_G_X11_errs)] _ _ none kX11_readNext [1, 9, 10, 18, 19, 27, 37, 42, 43, 51, 61, 62, 70, 81, 82, 90, 101, 106, 113, 115, 123, 131, 139] flX11_ok plX11_ok knX11_ok eX11_readNext oX11_readNext
    (List.forall_mem_cons.mpr ⟨cok_v (t := 32) (c := 11) (N := 39) (n := 0) (idx := 147) E (ct_G_X11_good X.2.1) (by rw [hR]; decide) (Nat.zero_le _) (Nat.zero_le _) hG rfl rfl ⟨rfl, by decide, by decide, by decide⟩ (fun _ => ⟨_, _, rfl, rfl⟩) wl_X11_147 wi_X11_good ws_X11_good wn_X11 wc_X11_good, List.forall_mem_cons.mpr ⟨cok_v (t := 32) (c := 11) (N := 39) (n := 1) (idx := 166) E (ct_G_X11_takes X.2.1) (by rw [hR]; decide) (Nat.zero_le _) (Nat.zero_le _) hG rfl rfl ⟨rfl, by decide, by decide, by decide⟩ (fun _ => ⟨_, _, rfl, rfl⟩) wl_X11_166 wi_X11_takes ws_X11_takes wn_X11 wc_X11_takes, List.forall_mem_cons.mpr ⟨cok_v (t := 32) (c := 11) (N := 39) (n := 0) (idx := 163) E (ct_G_X11_advance X.2.1) (by rw [hR]; decide) (Nat.zero_le _) (Nat.zero_le _) hG rfl rfl ⟨rfl, by decide, by decide, by decide⟩ (fun _ => ⟨_, _, rfl, rfl⟩) wl_X11_163 wi_X11_advance ws_X11_advance wn_X11 wc_X11_advance, List.forall_mem_cons.mpr ⟨cok_v (t := 32) (c := 11) (N := 39) (n := 0) (idx := 220) E (ct_G_X11_readTruce X.2.1) (by rw [hR]; decide) (Nat.zero_le _) (Nat.zero_le _) hG rfl rfl ⟨rfl, by decide, by decide, by decide⟩ (fun _ => ⟨_, _, rfl, rfl⟩) wl_X11_220 wi_X11_readTruce ws_X11_readTruce wn_X11 wc_X11_readTruce, List.forall_mem_cons.mpr ⟨cok_v (t := 32) (c := 11) (N := 39) (n := 0) (idx := 217) E (ct_G_X11_readFeast X.2.1) (by rw [hR]; decide) (Nat.zero_le _) (Nat.zero_le _) hG rfl rfl ⟨rfl, by decide, by decide, by decide⟩ (fun _ => ⟨_, _, rfl, rfl⟩) wl_X11_217 wi_X11_readFeast ws_X11_readFeast wn_X11 wc_X11_readFeast, List.forall_mem_cons.mpr ⟨cok_v (t := 32) (c := 11) (N := 39) (n := 0) (idx := 214) E (ct_G_X11_readLand X.2.1) (by rw [hR]; decide) (Nat.zero_le _) (Nat.zero_le _) hG rfl rfl ⟨rfl, by decide, by decide, by decide⟩ (fun _ => ⟨_, _, rfl, rfl⟩) wl_X11_214 wi_X11_readLand ws_X11_readLand wn_X11 wc_X11_readLand, List.forall_mem_cons.mpr ⟨cok_v (t := 32) (c := 11) (N := 39) (n := 1) (idx := 159) E (ct_G_X11_is X.2.1) (by rw [hR]; decide) (Nat.zero_le _) (Nat.zero_le _) hG rfl rfl ⟨rfl, by decide, by decide, by decide⟩ (fun _ => ⟨_, _, rfl, rfl⟩) wl_X11_159 wi_X11_is ws_X11_is wn_X11 wc_X11_is, List.forall_mem_cons.mpr ⟨cok_v (t := 32) (c := 11) (N := 39) (n := 1) (idx := 169) E (ct_G_X11_errs X.2.1) (by rw [hR]; decide) (Nat.zero_le _) (Nat.zero_le _) hG rfl rfl ⟨rfl, by decide, by decide, by decide⟩ (fun _ => ⟨_, _, rfl, rfl⟩) wl_X11_169 wi_X11_errs ws_X11_errs wn_X11 wc_X11_errs, fun _ h => absurd h List.not_mem_nil⟩⟩⟩⟩⟩⟩⟩⟩) R sok_no E
  show WP_ X G Q 0 0 ad SHS_ σ 0 [(42, 86), (9, 0)] []
  have hb1 := wrh_ hp2 (i := 1) (by omega)
  have hb2 := wrh_ hp2 (i := 2) (by omega)
  have hb3 := wrh_ hp2 (i := 3) (by omega)
  have e1 : hdhi_ 1 = 3 := rfl
  have e2 : hdhi_ 2 = 12 := rfl
  have e3 : hdhi_ 3 = 12 := rfl
  refine B rfl ?_
  have jn_106 : ∀ (τ106 : Me_t), (∀ k j : Int, ¬ (k = 86) → τ106 k j = σ k j) → (τ106 86 8 = σ 86 8) → (τ106 86 9 = σ 86 9) → (τ106 86 7 = σ 86 7) → (τ106 86 10 = σ 86 10) → (τ106 86 12 = 0 → σ 86 12 = 0 ∧ (isF_ σ 3 = 1 → σ 92 1 ≤ 2) ∧ (isF_ σ 11 = 1 → σ 92 2 ≤ 11) ∧ (isF_ σ 13 = 1 → σ 92 3 ≤ 11) ∧ (isF_ σ 3 = 1 ∨ isF_ σ 11 = 1 ∨ isF_ σ 13 = 1)) → (BW τ106 92) → (SW τ106 92) → (τ106 92 1 = σ 92 1) → (τ106 92 2 = σ 92 2) → (τ106 92 3 = σ 92 3) → WP_ X G Q 0 0 ad SHS_ τ106 106 [(42, 86), (9, 0)] [] := by
    intro τ106 hf106 hi106_0 hi106_1 hi106_2 hi106_3 hi106_4 hi106_5 hi106_6 hi106_7 hi106_8 hi106_9
    refine B rfl ?_
    try have t1 : τ106 86 11 = σ 86 11 := (hf106 _ _ (by omega))
    refine Exists.intro () (And.intro rfl (And.intro True.intro ?_))
    rintro z2 m_ h3
    obtain rfl : τ106 = m_ := h3.2
    have h4 : (z2 = 1 ∧ τ106 86 12 = 0) ∨ (z2 = 0 ∧ τ106 86 12 ≠ 0) := h3.1
    refine And.intro (fun h5 => ?_) (fun h5 => ?_)
    · skip
      refine B rfl ?_
      show WP_ X G Q 0 0 ad SHS_ τ106 115 [(42, 86), (9, 0)] [(42, 86)]
      refine so_ldcs (n := 208) (i := 2) (tx := "land") E (eX11_readNext (115, .ldc 208, 2) (List.mem_of_getElem? (i := 59) rfl)) (by decide) ?_
      refine B rfl ?_
      refine Exists.intro 3 (And.intro rfl (And.intro (And.intro (by show τ106 86 9 ≤ τ106 86 8; omega) (And.intro (by show τ106 86 8 ≤ τ106 86 7; omega) (by show 1 ≤ 3 ∧ 3 ≤ 14; omega))) ?_))
      intro z6 σ8 h7
      have f9 : ∀ k j : Int, ¬ (k = 86) → σ8 k j = τ106 k j := h7.2.2.2.2.2.2.2.2.2
      have h10 : σ8 86 9 ≤ σ8 86 8 := h7.1
      have h11 : σ8 86 8 ≤ σ8 86 7 := h7.2.1
      have h12 : σ8 86 7 = τ106 86 7 := h7.2.2.1
      have h13 : τ106 86 8 ≤ σ8 86 8 ∧ (τ106 86 8 < σ8 86 8 ∨ σ8 86 10 ≤ τ106 86 10) := h7.2.2.2.1
      have h14 : σ8 86 12 = τ106 86 12 := h7.2.2.2.2.1
      have h15 : 0 ≤ z6 ∧ z6 ≤ 1 := h7.2.2.2.2.2.1
      have h16 : z6 = isF_ τ106 3 := h7.2.2.2.2.2.2.1
      have h17 : z6 = 1 → τ106 86 12 = 0 ∧ τ106 86 10 = 1 ∧ (τ106 86 8 < σ8 86 8 ∨ σ8 86 10 ≤ 0) := h7.2.2.2.2.2.2.2.1
      have h18 : z6 = 0 → σ8 86 8 = τ106 86 8 ∧ σ8 86 9 = τ106 86 9 ∧ σ8 86 10 = τ106 86 10 ∧ σ8 86 11 = τ106 86 11 := h7.2.2.2.2.2.2.2.2.1
      have hdland : z6 = isF_ σ 3 := (h7.2.2.2.2.2.2.1).trans (isF_fr (by omega) (by omega) (by omega) (by omega) (fun j => (hf106 _ _ (by omega))))
      refine And.intro (fun h19 => ?_) (fun h19 => ?_)
      · skip
        refine B rfl ?_
        show WP_ X G Q 0 0 ad SHS_ σ8 131 [(42, 86), (9, 0)] [(42, 86)]
        refine so_ldcs (n := 210) (i := 10) (tx := "feast") E (eX11_readNext (131, .ldc 210, 2) (List.mem_of_getElem? (i := 66) rfl)) (by decide) ?_
        refine B rfl ?_
        refine Exists.intro 11 (And.intro rfl (And.intro (And.intro (by show σ8 86 9 ≤ σ8 86 8; omega) (And.intro (by show σ8 86 8 ≤ σ8 86 7; omega) (by show 1 ≤ 11 ∧ 11 ≤ 14; omega))) ?_))
        intro z20 σ22 h21
        have f23 : ∀ k j : Int, ¬ (k = 86) → σ22 k j = σ8 k j := h21.2.2.2.2.2.2.2.2.2
        have h24 : σ22 86 9 ≤ σ22 86 8 := h21.1
        have h25 : σ22 86 8 ≤ σ22 86 7 := h21.2.1
        have h26 : σ22 86 7 = σ8 86 7 := h21.2.2.1
        have h27 : σ8 86 8 ≤ σ22 86 8 ∧ (σ8 86 8 < σ22 86 8 ∨ σ22 86 10 ≤ σ8 86 10) := h21.2.2.2.1
        have h28 : σ22 86 12 = σ8 86 12 := h21.2.2.2.2.1
        have h29 : 0 ≤ z20 ∧ z20 ≤ 1 := h21.2.2.2.2.2.1
        have h30 : z20 = isF_ σ8 11 := h21.2.2.2.2.2.2.1
        have h31 : z20 = 1 → σ8 86 12 = 0 ∧ σ8 86 10 = 1 ∧ (σ8 86 8 < σ22 86 8 ∨ σ22 86 10 ≤ 0) := h21.2.2.2.2.2.2.2.1
        have h32 : z20 = 0 → σ22 86 8 = σ8 86 8 ∧ σ22 86 9 = σ8 86 9 ∧ σ22 86 10 = σ8 86 10 ∧ σ22 86 11 = σ8 86 11 := h21.2.2.2.2.2.2.2.2.1
        have hdfeast : z20 = isF_ σ 11 := (h21.2.2.2.2.2.2.1).trans (isF_fr (by omega) (by omega) (by omega) (by omega) (fun j => ((f9 _ _ (by omega)).trans (hf106 _ _ (by omega)))))
        refine And.intro (fun h33 => ?_) (fun h33 => ?_)
        · skip
          refine B rfl ?_
          refine Exists.intro () (And.intro rfl (And.intro (by show σ22 86 8 ≤ σ22 86 7; omega) ?_))
          intro z34 σ36 h35
          have f37 : ∀ k j : Int, ¬ (k = 86) → σ36 k j = σ22 k j := h35.2.2.2.2.2.2
          have h38 : σ36 86 9 ≤ σ36 86 8 := h35.1
          have h39 : σ36 86 8 ≤ σ36 86 7 := h35.2.1
          have h40 : σ36 86 7 = σ22 86 7 := h35.2.2.1
          have h41 : σ22 86 8 ≤ σ36 86 8 ∧ (σ22 86 8 < σ36 86 8 ∨ σ36 86 10 ≤ σ22 86 10) := h35.2.2.2.1
          have h42 : σ36 86 12 = σ22 86 12 := h35.2.2.2.2.1
          have h43 : (σ22 86 8 < σ36 86 8 ∨ σ36 86 10 ≤ 0) := h35.2.2.2.2.2.1
          try have t44 : σ36 86 11 = σ22 86 11 := (f37 _ _ (by omega))
          have p45 : BW σ36 92 := BW_fr hi106_5 (fun k j hk => ((f37 _ _ (by omega)).trans ((f23 _ _ (by omega)).trans (f9 _ _ (by omega)))))
          try have t46 : σ36 92 3 = τ106 92 3 := ((f37 _ _ (by omega)).trans ((f23 _ _ (by omega)).trans (f9 _ _ (by omega))))
          refine Exists.intro () (And.intro rfl (And.intro (And.intro (by show σ36 86 9 ≤ σ36 86 8; omega) (And.intro (by show σ36 86 8 ≤ σ36 86 7; omega) (And.intro p45 (by show σ36 92 3 ≤ 11; omega)))) ?_))
          intro z47 σ49 h48
          have f50 : ∀ k j : Int, ¬ (k = 86 ∨ k = 92) → σ49 k j = σ36 k j := h48.2.2.2.2.2.2.2
          have h51 : σ49 86 9 ≤ σ49 86 8 := h48.1
          have h52 : σ49 86 8 ≤ σ49 86 7 := h48.2.1
          have h53 : σ49 86 7 = σ36 86 7 := h48.2.2.1
          have h54 : σ36 86 8 ≤ σ49 86 8 ∧ (σ36 86 8 < σ49 86 8 ∨ σ49 86 10 ≤ σ36 86 10) := h48.2.2.2.1
          have h55 : BW σ49 92 := h48.2.2.2.2.1
          have h56 : σ49 86 12 = 0 → σ36 86 12 = 0 := h48.2.2.2.2.2.1
          have h57 : ∀ j : Int, j < 51 → j ≠ 3 → σ49 92 j = σ36 92 j := h48.2.2.2.2.2.2.1
          refine Exists.intro 0 (And.intro rfl ?_)
          try have t58 : σ49 86 11 = σ36 86 11 := (show σ49 86 11 = σ36 86 11 from by first | exact f50 _ _ (by omega) | exact h57 _ (by omega) (by omega))
          have p59 : SW σ36 92 := SW_fr hi106_6 (fun k j hk => ((f37 _ _ (by omega)).trans ((f23 _ _ (by omega)).trans (f9 _ _ (by omega)))))
          exact (And.intro (by show σ49 86 9 ≤ σ49 86 8; omega) (And.intro (by show σ49 86 8 ≤ σ49 86 7; omega) (And.intro (by show σ49 86 7 = σ 86 7; omega) (And.intro (by show σ 86 8 ≤ σ49 86 8 ∧ (σ 86 8 < σ49 86 8 ∨ σ49 86 10 ≤ σ 86 10); omega) (And.intro h55 (And.intro (by show σ49 86 12 = 0 → σ 86 12 = 0 ∧ (σ 86 8 < σ49 86 8 ∨ σ49 86 10 ≤ 0); omega) (And.intro (by show σ49 86 12 = 0 → SW σ49 92; intro hf; exact SW_eq p59 (show σ49 92 1 = σ36 92 1 from (show σ49 92 1 = σ36 92 1 from by first | exact f50 _ _ (by omega) | exact h57 _ (by omega) (by omega))) (fun j h1 h2 => (show σ49 92 j = σ36 92 j from by first | exact f50 _ _ (by omega) | exact h57 _ (by omega) (by omega)))) (And.intro (by show ∀ j : Int, j < 6 → j ≠ 1 → j ≠ 2 → j ≠ 3 → σ49 92 j = σ 92 j; intro j hj0 hj1 hj2 hj3; exact ((show σ49 92 j = σ36 92 j from by first | exact f50 _ _ (by omega) | exact h57 _ (by omega) (by omega)).trans ((f37 _ _ (by omega)).trans ((f23 _ _ (by omega)).trans ((f9 _ _ (by omega)).trans (hf106 _ _ (by omega))))))) (fun k j hk => ((show σ49 k j = σ36 k j from by first | exact f50 _ _ (by omega) | exact h57 _ (by omega) (by omega) | (by_cases hka : k = 92; (rw [hka]; exact h57 _ (by omega) (by omega)); exact f50 _ _ (by omega))).trans ((f37 _ _ (by omega)).trans ((f23 _ _ (by omega)).trans ((f9 _ _ (by omega)).trans (hf106 _ _ (by omega)))))))))))))))
        · skip
          show WP_ X G Q 0 0 ad SHS_ σ22 139 [(42, 86), (9, 0)] []
          refine B rfl ?_
          have p60 : BW σ22 92 := BW_fr hi106_5 (fun k j hk => ((f23 _ _ (by omega)).trans (f9 _ _ (by omega))))
          try have t61 : σ22 92 2 = τ106 92 2 := ((f23 _ _ (by omega)).trans (f9 _ _ (by omega)))
          refine Exists.intro () (And.intro rfl (And.intro (And.intro (by show σ22 86 9 ≤ σ22 86 8; omega) (And.intro (by show σ22 86 8 ≤ σ22 86 7; omega) (And.intro p60 (by show σ22 92 2 ≤ 11; omega)))) ?_))
          intro z62 σ64 h63
          have f65 : ∀ k j : Int, ¬ (k = 86 ∨ k = 92) → σ64 k j = σ22 k j := h63.2.2.2.2.2.2.2
          have h66 : σ64 86 9 ≤ σ64 86 8 := h63.1
          have h67 : σ64 86 8 ≤ σ64 86 7 := h63.2.1
          have h68 : σ64 86 7 = σ22 86 7 := h63.2.2.1
          have h69 : σ22 86 8 ≤ σ64 86 8 ∧ (σ22 86 8 < σ64 86 8 ∨ σ64 86 10 ≤ σ22 86 10) := h63.2.2.2.1
          have h70 : BW σ64 92 := h63.2.2.2.2.1
          have h71 : σ64 86 12 = 0 → σ22 86 12 = 0 := h63.2.2.2.2.2.1
          have h72 : ∀ j : Int, j < 51 → j ≠ 2 → σ64 92 j = σ22 92 j := h63.2.2.2.2.2.2.1
          refine B rfl ?_
          refine Exists.intro 0 (And.intro rfl ?_)
          try have t73 : σ64 86 11 = σ22 86 11 := (show σ64 86 11 = σ22 86 11 from by first | exact f65 _ _ (by omega) | exact h72 _ (by omega) (by omega))
          have p74 : SW σ22 92 := SW_fr hi106_6 (fun k j hk => ((f23 _ _ (by omega)).trans (f9 _ _ (by omega))))
          exact (And.intro (by show σ64 86 9 ≤ σ64 86 8; omega) (And.intro (by show σ64 86 8 ≤ σ64 86 7; omega) (And.intro (by show σ64 86 7 = σ 86 7; omega) (And.intro (by show σ 86 8 ≤ σ64 86 8 ∧ (σ 86 8 < σ64 86 8 ∨ σ64 86 10 ≤ σ 86 10); omega) (And.intro h70 (And.intro (by show σ64 86 12 = 0 → σ 86 12 = 0 ∧ (σ 86 8 < σ64 86 8 ∨ σ64 86 10 ≤ 0); omega) (And.intro (by show σ64 86 12 = 0 → SW σ64 92; intro hf; exact SW_eq p74 (show σ64 92 1 = σ22 92 1 from (show σ64 92 1 = σ22 92 1 from by first | exact f65 _ _ (by omega) | exact h72 _ (by omega) (by omega))) (fun j h1 h2 => (show σ64 92 j = σ22 92 j from by first | exact f65 _ _ (by omega) | exact h72 _ (by omega) (by omega)))) (And.intro (by show ∀ j : Int, j < 6 → j ≠ 1 → j ≠ 2 → j ≠ 3 → σ64 92 j = σ 92 j; intro j hj0 hj1 hj2 hj3; exact ((show σ64 92 j = σ22 92 j from by first | exact f65 _ _ (by omega) | exact h72 _ (by omega) (by omega)).trans ((f23 _ _ (by omega)).trans ((f9 _ _ (by omega)).trans (hf106 _ _ (by omega)))))) (fun k j hk => ((show σ64 k j = σ22 k j from by first | exact f65 _ _ (by omega) | exact h72 _ (by omega) (by omega) | (by_cases hka : k = 92; (rw [hka]; exact h72 _ (by omega) (by omega)); exact f65 _ _ (by omega))).trans ((f23 _ _ (by omega)).trans ((f9 _ _ (by omega)).trans (hf106 _ _ (by omega))))))))))))))
      · skip
        show WP_ X G Q 0 0 ad SHS_ σ8 123 [(42, 86), (9, 0)] []
        refine B rfl ?_
        have p75 : BW σ8 92 := BW_fr hi106_5 (fun k j hk => (f9 _ _ (by omega)))
        have p76 : SW σ8 92 := SW_fr hi106_6 (fun k j hk => (f9 _ _ (by omega)))
        try have t77 : σ8 92 1 = τ106 92 1 := (f9 _ _ (by omega))
        refine Exists.intro () (And.intro rfl (And.intro (And.intro (by show σ8 86 9 ≤ σ8 86 8; omega) (And.intro (by show σ8 86 8 ≤ σ8 86 7; omega) (And.intro p75 (And.intro p76 (by show σ8 92 1 ≤ 2; omega))))) ?_))
        intro z78 σ80 h79
        have f81 : ∀ k j : Int, ¬ (k = 86 ∨ k = 92) → σ80 k j = σ8 k j := h79.2.2.2.2.2.2.2.2
        have h82 : σ80 86 9 ≤ σ80 86 8 := h79.1
        have h83 : σ80 86 8 ≤ σ80 86 7 := h79.2.1
        have h84 : σ80 86 7 = σ8 86 7 := h79.2.2.1
        have h85 : σ8 86 8 ≤ σ80 86 8 ∧ (σ8 86 8 < σ80 86 8 ∨ σ80 86 10 ≤ σ8 86 10) := h79.2.2.2.1
        have h86 : BW σ80 92 := h79.2.2.2.2.1
        have h87 : σ80 86 12 = 0 → σ8 86 12 = 0 := h79.2.2.2.2.2.1
        have h88 : σ80 86 12 = 0 → SW σ80 92 := h79.2.2.2.2.2.2.1
        have h89 : ∀ j : Int, j < 6 → j ≠ 1 → σ80 92 j = σ8 92 j := h79.2.2.2.2.2.2.2.1
        refine B rfl ?_
        refine Exists.intro 0 (And.intro rfl ?_)
        try have t90 : σ80 86 11 = σ8 86 11 := (show σ80 86 11 = σ8 86 11 from by first | exact f81 _ _ (by omega) | exact h89 _ (by omega) (by omega))
        exact (And.intro (by show σ80 86 9 ≤ σ80 86 8; omega) (And.intro (by show σ80 86 8 ≤ σ80 86 7; omega) (And.intro (by show σ80 86 7 = σ 86 7; omega) (And.intro (by show σ 86 8 ≤ σ80 86 8 ∧ (σ 86 8 < σ80 86 8 ∨ σ80 86 10 ≤ σ 86 10); omega) (And.intro h86 (And.intro (by show σ80 86 12 = 0 → σ 86 12 = 0 ∧ (σ 86 8 < σ80 86 8 ∨ σ80 86 10 ≤ 0); omega) (And.intro (by show σ80 86 12 = 0 → SW σ80 92; intro hf; exact (h79.2.2.2.2.2.2.1) (by omega)) (And.intro (by show ∀ j : Int, j < 6 → j ≠ 1 → j ≠ 2 → j ≠ 3 → σ80 92 j = σ 92 j; intro j hj0 hj1 hj2 hj3; exact ((show σ80 92 j = σ8 92 j from by first | exact f81 _ _ (by omega) | exact h89 _ (by omega) (by omega)).trans ((f9 _ _ (by omega)).trans (hf106 _ _ (by omega))))) (fun k j hk => ((show σ80 k j = σ8 k j from by first | exact f81 _ _ (by omega) | exact h89 _ (by omega) (by omega) | (by_cases hka : k = 92; (rw [hka]; exact h89 _ (by omega) (by omega)); exact f81 _ _ (by omega))).trans ((f9 _ _ (by omega)).trans (hf106 _ _ (by omega)))))))))))))
    · skip
      show WP_ X G Q 0 0 ad SHS_ τ106 113 [(42, 86), (9, 0)] []
      refine B rfl ?_
      refine Exists.intro 0 (And.intro rfl ?_)
      exact (And.intro (by show τ106 86 9 ≤ τ106 86 8; omega) (And.intro (by show τ106 86 8 ≤ τ106 86 7; omega) (And.intro (by show τ106 86 7 = σ 86 7; omega) (And.intro (by show σ 86 8 ≤ τ106 86 8 ∧ (σ 86 8 < τ106 86 8 ∨ τ106 86 10 ≤ σ 86 10); omega) (And.intro hi106_5 (And.intro (by show τ106 86 12 = 0 → σ 86 12 = 0 ∧ (σ 86 8 < τ106 86 8 ∨ τ106 86 10 ≤ 0); omega) (And.intro (by show τ106 86 12 = 0 → SW τ106 92; intro hf; omega) (And.intro (by show ∀ j : Int, j < 6 → j ≠ 1 → j ≠ 2 → j ≠ 3 → τ106 92 j = σ 92 j; intro j hj0 hj1 hj2 hj3; exact (hf106 _ _ (by omega))) (fun k j hk => (hf106 _ _ (by omega)))))))))))
  have jn_42 : ∀ (τ42 : Me_t), (∀ k j : Int, ¬ (k = 86) → τ42 k j = σ k j) → (τ42 86 8 = σ 86 8) → (τ42 86 9 = σ 86 9) → (τ42 86 7 = σ 86 7) → (τ42 86 10 = σ 86 10) → (τ42 86 12 = 0 → σ 86 12 = 0 ∧ (isF_ σ 3 = 1 ∨ isF_ σ 11 = 1 ∨ isF_ σ 13 = 1)) → (τ42 86 12 ≠ 0 ∨ τ42 86 12 = σ 86 12) → (BW τ42 92) → (SW τ42 92) → (τ42 92 1 = σ 92 1) → (τ42 92 2 = σ 92 2) → (τ42 92 3 = σ 92 3) → WP_ X G Q 0 0 ad SHS_ τ42 42 [(42, 86), (9, 0)] [] := by
    intro τ42 hf42 hi42_0 hi42_1 hi42_2 hi42_3 hi42_4 hi42_5 hi42_6 hi42_7 hi42_8 hi42_9 hi42_10
    refine B rfl ?_
    show WP_ X G Q 0 0 ad SHS_ τ42 43 [(42, 86), (9, 0)] [(42, 86)]
    refine so_ldcs (n := 208) (i := 2) (tx := "land") E (eX11_readNext (43, .ldc 208, 2) (List.mem_of_getElem? (i := 22) rfl)) (by decide) ?_
    refine B rfl ?_
    try have t91 : τ42 86 11 = σ 86 11 := (hf42 _ _ (by omega))
    refine Exists.intro 3 (And.intro rfl (And.intro (And.intro (by show τ42 86 9 ≤ τ42 86 8; omega) (And.intro (by show τ42 86 8 ≤ τ42 86 7; omega) (by show 1 ≤ 3 ∧ 3 ≤ 14; omega))) ?_))
    rintro z92 m_ h93
    obtain rfl : τ42 = m_ := h93.2.2.2
    have h94 : 0 ≤ z92 ∧ z92 ≤ 1 := h93.1
    have h95 : z92 = isF_ τ42 3 := h93.2.1
    have h96 : z92 = 1 → τ42 86 12 = 0 ∧ τ42 86 10 = 1 := h93.2.2.1
    have heland : τ42 86 12 = 0 → z92 = isF_ σ 3 := fun hq => (h93.2.1).trans (isF_fr (by omega) (by omega) (by omega) (by omega) (fun j => (hf42 _ _ (by omega))))
    refine And.intro (fun h97 => ?_) (fun h97 => ?_)
    · skip
      refine B rfl ?_
      show WP_ X G Q 0 0 ad SHS_ τ42 62 [(42, 86), (9, 0)] [(42, 86)]
      refine so_ldcs (n := 210) (i := 10) (tx := "feast") E (eX11_readNext (62, .ldc 210, 2) (List.mem_of_getElem? (i := 32) rfl)) (by decide) ?_
      refine B rfl ?_
      refine Exists.intro 11 (And.intro rfl (And.intro (And.intro (by show τ42 86 9 ≤ τ42 86 8; omega) (And.intro (by show τ42 86 8 ≤ τ42 86 7; omega) (by show 1 ≤ 11 ∧ 11 ≤ 14; omega))) ?_))
      rintro z98 m_ h99
      obtain rfl : τ42 = m_ := h99.2.2.2
      have h100 : 0 ≤ z98 ∧ z98 ≤ 1 := h99.1
      have h101 : z98 = isF_ τ42 11 := h99.2.1
      have h102 : z98 = 1 → τ42 86 12 = 0 ∧ τ42 86 10 = 1 := h99.2.2.1
      have hefeast : τ42 86 12 = 0 → z98 = isF_ σ 11 := fun hq => (h99.2.1).trans (isF_fr (by omega) (by omega) (by omega) (by omega) (fun j => (hf42 _ _ (by omega))))
      refine And.intro (fun h103 => ?_) (fun h103 => ?_)
      · skip
        refine B rfl ?_
        show WP_ X G Q 0 0 ad SHS_ τ42 82 [(42, 86), (9, 0)] [(42, 86)]
        refine so_ldcs (n := 212) (i := 12) (tx := "truce") E (eX11_readNext (82, .ldc 212, 2) (List.mem_of_getElem? (i := 42) rfl)) (by decide) ?_
        refine B rfl ?_
        refine Exists.intro 13 (And.intro rfl (And.intro (And.intro (by show τ42 86 9 ≤ τ42 86 8; omega) (And.intro (by show τ42 86 8 ≤ τ42 86 7; omega) (by show 1 ≤ 13 ∧ 13 ≤ 14; omega))) ?_))
        rintro z104 m_ h105
        obtain rfl : τ42 = m_ := h105.2.2.2
        have h106 : 0 ≤ z104 ∧ z104 ≤ 1 := h105.1
        have h107 : z104 = isF_ τ42 13 := h105.2.1
        have h108 : z104 = 1 → τ42 86 12 = 0 ∧ τ42 86 10 = 1 := h105.2.2.1
        have hetruce : τ42 86 12 = 0 → z104 = isF_ σ 13 := fun hq => (h105.2.1).trans (isF_fr (by omega) (by omega) (by omega) (by omega) (fun j => (hf42 _ _ (by omega))))
        refine And.intro (fun h109 => ?_) (fun h109 => ?_)
        · skip
          exact jn_106 τ42 (fun k j hk => (hf42 _ _ (by omega))) (by show τ42 86 8 = σ 86 8; omega) (by show τ42 86 9 = σ 86 9; omega) (by show τ42 86 7 = σ 86 7; omega) (by show τ42 86 10 = σ 86 10; omega) (by show τ42 86 12 = 0 → σ 86 12 = 0 ∧ (isF_ σ 3 = 1 → σ 92 1 ≤ 2) ∧ (isF_ σ 11 = 1 → σ 92 2 ≤ 11) ∧ (isF_ σ 13 = 1 → σ 92 3 ≤ 11) ∧ (isF_ σ 3 = 1 ∨ isF_ σ 11 = 1 ∨ isF_ σ 13 = 1); omega) hi42_6 hi42_7 (by show τ42 92 1 = σ 92 1; omega) (by show τ42 92 2 = σ 92 2; omega) (by show τ42 92 3 = σ 92 3; omega)
        · skip
          show WP_ X G Q 0 0 ad SHS_ τ42 90 [(42, 86), (9, 0)] []
          refine B rfl ?_
          refine And.intro (by omega) ?_
          intro z110 ez110 hz110
          have hz110 : ((-1) : Int) ≤ z110 ∧ z110 ≤ (1999 : Int) := hz110
          have b111 := wrh_ hi42_6 (i := 3) (by omega)
          have b111 : (0 : Int) ≤ τ42 92 3 ∧ τ42 92 3 ≤ (12 : Int) := b111
          refine And.intro (fun h112 => ?_) (fun h112 => ?_)
          · skip
            exact jn_106 τ42 (fun k j hk => (hf42 _ _ (by omega))) (by show τ42 86 8 = σ 86 8; omega) (by show τ42 86 9 = σ 86 9; omega) (by show τ42 86 7 = σ 86 7; omega) (by show τ42 86 10 = σ 86 10; omega) (by show τ42 86 12 = 0 → σ 86 12 = 0 ∧ (isF_ σ 3 = 1 → σ 92 1 ≤ 2) ∧ (isF_ σ 11 = 1 → σ 92 2 ≤ 11) ∧ (isF_ σ 13 = 1 → σ 92 3 ≤ 11) ∧ (isF_ σ 3 = 1 ∨ isF_ σ 11 = 1 ∨ isF_ σ 13 = 1); omega) hi42_6 hi42_7 (by show τ42 92 1 = σ 92 1; omega) (by show τ42 92 2 = σ 92 2; omega) (by show τ42 92 3 = σ 92 3; omega)
          · skip
            show WP_ X G Q 0 0 ad SHS_ τ42 101 [(42, 86), (9, 0)] []
            refine B rfl ?_
            refine Exists.intro 3 (And.intro rfl (And.intro (And.intro (by show 1 ≤ 3; omega) (by show 3 ≤ 3; omega)) ?_))
            intro z113 σ115 h114
            have f116 : ∀ k j : Int, ¬ (k = 86) → σ115 k j = τ42 k j := h114.2.2.2.2.2.2
            have h117 : σ115 86 8 = τ42 86 8 := h114.1
            have h118 : σ115 86 9 = τ42 86 9 := h114.2.1
            have h119 : σ115 86 7 = τ42 86 7 := h114.2.2.1
            have h120 : σ115 86 10 = τ42 86 10 := h114.2.2.2.1
            have h121 : σ115 86 11 = τ42 86 11 := h114.2.2.2.2.1
            have h122 : (τ42 86 12 = 0 → σ115 86 12 = 3) ∧ (τ42 86 12 ≠ 0 → σ115 86 12 = τ42 86 12) := h114.2.2.2.2.2.1
            have p123 : BW σ115 92 := BW_fr hi42_6 (fun k j hk => (f116 _ _ (by omega)))
            have p124 : SW σ115 92 := SW_fr hi42_7 (fun k j hk => (f116 _ _ (by omega)))
            try have t125 : σ115 92 1 = τ42 92 1 := (f116 _ _ (by omega))
            try have t126 : σ115 92 2 = τ42 92 2 := (f116 _ _ (by omega))
            try have t127 : σ115 92 3 = τ42 92 3 := (f116 _ _ (by omega))
            exact jn_106 σ115 (fun k j hk => ((f116 _ _ (by omega)).trans (hf42 _ _ (by omega)))) (by show σ115 86 8 = σ 86 8; omega) (by show σ115 86 9 = σ 86 9; omega) (by show σ115 86 7 = σ 86 7; omega) (by show σ115 86 10 = σ 86 10; omega) (by show σ115 86 12 = 0 → σ 86 12 = 0 ∧ (isF_ σ 3 = 1 → σ 92 1 ≤ 2) ∧ (isF_ σ 11 = 1 → σ 92 2 ≤ 11) ∧ (isF_ σ 13 = 1 → σ 92 3 ≤ 11) ∧ (isF_ σ 3 = 1 ∨ isF_ σ 11 = 1 ∨ isF_ σ 13 = 1); omega) p123 p124 (by show σ115 92 1 = σ 92 1; omega) (by show σ115 92 2 = σ 92 2; omega) (by show σ115 92 3 = σ 92 3; omega)
      · skip
        show WP_ X G Q 0 0 ad SHS_ τ42 70 [(42, 86), (9, 0)] []
        refine B rfl ?_
        refine And.intro (by omega) ?_
        intro z128 ez128 hz128
        have hz128 : ((-1) : Int) ≤ z128 ∧ z128 ≤ (1999 : Int) := hz128
        have b129 := wrh_ hi42_6 (i := 2) (by omega)
        have b129 : (0 : Int) ≤ τ42 92 2 ∧ τ42 92 2 ≤ (12 : Int) := b129
        refine And.intro (fun h130 => ?_) (fun h130 => ?_)
        · skip
          refine B rfl ?_
          refine Exists.intro 3 (And.intro rfl (And.intro (And.intro (by show 1 ≤ 3; omega) (by show 3 ≤ 3; omega)) ?_))
          intro z131 σ133 h132
          have f134 : ∀ k j : Int, ¬ (k = 86) → σ133 k j = τ42 k j := h132.2.2.2.2.2.2
          have h135 : σ133 86 8 = τ42 86 8 := h132.1
          have h136 : σ133 86 9 = τ42 86 9 := h132.2.1
          have h137 : σ133 86 7 = τ42 86 7 := h132.2.2.1
          have h138 : σ133 86 10 = τ42 86 10 := h132.2.2.2.1
          have h139 : σ133 86 11 = τ42 86 11 := h132.2.2.2.2.1
          have h140 : (τ42 86 12 = 0 → σ133 86 12 = 3) ∧ (τ42 86 12 ≠ 0 → σ133 86 12 = τ42 86 12) := h132.2.2.2.2.2.1
          have p141 : BW σ133 92 := BW_fr hi42_6 (fun k j hk => (f134 _ _ (by omega)))
          have p142 : SW σ133 92 := SW_fr hi42_7 (fun k j hk => (f134 _ _ (by omega)))
          try have t143 : σ133 92 1 = τ42 92 1 := (f134 _ _ (by omega))
          try have t144 : σ133 92 2 = τ42 92 2 := (f134 _ _ (by omega))
          try have t145 : σ133 92 3 = τ42 92 3 := (f134 _ _ (by omega))
          exact jn_106 σ133 (fun k j hk => ((f134 _ _ (by omega)).trans (hf42 _ _ (by omega)))) (by show σ133 86 8 = σ 86 8; omega) (by show σ133 86 9 = σ 86 9; omega) (by show σ133 86 7 = σ 86 7; omega) (by show σ133 86 10 = σ 86 10; omega) (by show σ133 86 12 = 0 → σ 86 12 = 0 ∧ (isF_ σ 3 = 1 → σ 92 1 ≤ 2) ∧ (isF_ σ 11 = 1 → σ 92 2 ≤ 11) ∧ (isF_ σ 13 = 1 → σ 92 3 ≤ 11) ∧ (isF_ σ 3 = 1 ∨ isF_ σ 11 = 1 ∨ isF_ σ 13 = 1); omega) p141 p142 (by show σ133 92 1 = σ 92 1; omega) (by show σ133 92 2 = σ 92 2; omega) (by show σ133 92 3 = σ 92 3; omega)
        · skip
          show WP_ X G Q 0 0 ad SHS_ τ42 81 [(42, 86), (9, 0)] []
          refine B rfl ?_
          show WP_ X G Q 0 0 ad SHS_ τ42 82 [(42, 86), (9, 0)] [(42, 86)]
          refine so_ldcs (n := 212) (i := 12) (tx := "truce") E (eX11_readNext (82, .ldc 212, 2) (List.mem_of_getElem? (i := 42) rfl)) (by decide) ?_
          refine B rfl ?_
          refine Exists.intro 13 (And.intro rfl (And.intro (And.intro (by show τ42 86 9 ≤ τ42 86 8; omega) (And.intro (by show τ42 86 8 ≤ τ42 86 7; omega) (by show 1 ≤ 13 ∧ 13 ≤ 14; omega))) ?_))
          rintro z146 m_ h147
          obtain rfl : τ42 = m_ := h147.2.2.2
          have h148 : 0 ≤ z146 ∧ z146 ≤ 1 := h147.1
          have h149 : z146 = isF_ τ42 13 := h147.2.1
          have h150 : z146 = 1 → τ42 86 12 = 0 ∧ τ42 86 10 = 1 := h147.2.2.1
          have hetruce : τ42 86 12 = 0 → z146 = isF_ σ 13 := fun hq => (h147.2.1).trans (isF_fr (by omega) (by omega) (by omega) (by omega) (fun j => (hf42 _ _ (by omega))))
          refine And.intro (fun h151 => ?_) (fun h151 => ?_)
          · skip
            exact jn_106 τ42 (fun k j hk => (hf42 _ _ (by omega))) (by show τ42 86 8 = σ 86 8; omega) (by show τ42 86 9 = σ 86 9; omega) (by show τ42 86 7 = σ 86 7; omega) (by show τ42 86 10 = σ 86 10; omega) (by show τ42 86 12 = 0 → σ 86 12 = 0 ∧ (isF_ σ 3 = 1 → σ 92 1 ≤ 2) ∧ (isF_ σ 11 = 1 → σ 92 2 ≤ 11) ∧ (isF_ σ 13 = 1 → σ 92 3 ≤ 11) ∧ (isF_ σ 3 = 1 ∨ isF_ σ 11 = 1 ∨ isF_ σ 13 = 1); omega) hi42_6 hi42_7 (by show τ42 92 1 = σ 92 1; omega) (by show τ42 92 2 = σ 92 2; omega) (by show τ42 92 3 = σ 92 3; omega)
          · skip
            show WP_ X G Q 0 0 ad SHS_ τ42 90 [(42, 86), (9, 0)] []
            refine B rfl ?_
            refine And.intro (by omega) ?_
            intro z152 ez152 hz152
            have hz152 : ((-1) : Int) ≤ z152 ∧ z152 ≤ (1999 : Int) := hz152
            have b153 := wrh_ hi42_6 (i := 3) (by omega)
            have b153 : (0 : Int) ≤ τ42 92 3 ∧ τ42 92 3 ≤ (12 : Int) := b153
            refine And.intro (fun h154 => ?_) (fun h154 => ?_)
            · skip
              exact jn_106 τ42 (fun k j hk => (hf42 _ _ (by omega))) (by show τ42 86 8 = σ 86 8; omega) (by show τ42 86 9 = σ 86 9; omega) (by show τ42 86 7 = σ 86 7; omega) (by show τ42 86 10 = σ 86 10; omega) (by show τ42 86 12 = 0 → σ 86 12 = 0 ∧ (isF_ σ 3 = 1 → σ 92 1 ≤ 2) ∧ (isF_ σ 11 = 1 → σ 92 2 ≤ 11) ∧ (isF_ σ 13 = 1 → σ 92 3 ≤ 11) ∧ (isF_ σ 3 = 1 ∨ isF_ σ 11 = 1 ∨ isF_ σ 13 = 1); omega) hi42_6 hi42_7 (by show τ42 92 1 = σ 92 1; omega) (by show τ42 92 2 = σ 92 2; omega) (by show τ42 92 3 = σ 92 3; omega)
            · skip
              show WP_ X G Q 0 0 ad SHS_ τ42 101 [(42, 86), (9, 0)] []
              refine B rfl ?_
              refine Exists.intro 3 (And.intro rfl (And.intro (And.intro (by show 1 ≤ 3; omega) (by show 3 ≤ 3; omega)) ?_))
              intro z155 σ157 h156
              have f158 : ∀ k j : Int, ¬ (k = 86) → σ157 k j = τ42 k j := h156.2.2.2.2.2.2
              have h159 : σ157 86 8 = τ42 86 8 := h156.1
              have h160 : σ157 86 9 = τ42 86 9 := h156.2.1
              have h161 : σ157 86 7 = τ42 86 7 := h156.2.2.1
              have h162 : σ157 86 10 = τ42 86 10 := h156.2.2.2.1
              have h163 : σ157 86 11 = τ42 86 11 := h156.2.2.2.2.1
              have h164 : (τ42 86 12 = 0 → σ157 86 12 = 3) ∧ (τ42 86 12 ≠ 0 → σ157 86 12 = τ42 86 12) := h156.2.2.2.2.2.1
              have p165 : BW σ157 92 := BW_fr hi42_6 (fun k j hk => (f158 _ _ (by omega)))
              have p166 : SW σ157 92 := SW_fr hi42_7 (fun k j hk => (f158 _ _ (by omega)))
              try have t167 : σ157 92 1 = τ42 92 1 := (f158 _ _ (by omega))
              try have t168 : σ157 92 2 = τ42 92 2 := (f158 _ _ (by omega))
              try have t169 : σ157 92 3 = τ42 92 3 := (f158 _ _ (by omega))
              exact jn_106 σ157 (fun k j hk => ((f158 _ _ (by omega)).trans (hf42 _ _ (by omega)))) (by show σ157 86 8 = σ 86 8; omega) (by show σ157 86 9 = σ 86 9; omega) (by show σ157 86 7 = σ 86 7; omega) (by show σ157 86 10 = σ 86 10; omega) (by show σ157 86 12 = 0 → σ 86 12 = 0 ∧ (isF_ σ 3 = 1 → σ 92 1 ≤ 2) ∧ (isF_ σ 11 = 1 → σ 92 2 ≤ 11) ∧ (isF_ σ 13 = 1 → σ 92 3 ≤ 11) ∧ (isF_ σ 3 = 1 ∨ isF_ σ 11 = 1 ∨ isF_ σ 13 = 1); omega) p165 p166 (by show σ157 92 1 = σ 92 1; omega) (by show σ157 92 2 = σ 92 2; omega) (by show σ157 92 3 = σ 92 3; omega)
    · skip
      show WP_ X G Q 0 0 ad SHS_ τ42 51 [(42, 86), (9, 0)] []
      refine B rfl ?_
      refine And.intro (by omega) ?_
      intro z170 ez170 hz170
      have hz170 : ((-1) : Int) ≤ z170 ∧ z170 ≤ (1999 : Int) := hz170
      have b171 := wrh_ hi42_6 (i := 1) (by omega)
      have b171 : (0 : Int) ≤ τ42 92 1 ∧ τ42 92 1 ≤ (3 : Int) := b171
      refine And.intro (fun h172 => ?_) (fun h172 => ?_)
      · skip
        refine B rfl ?_
        refine Exists.intro 3 (And.intro rfl (And.intro (And.intro (by show 1 ≤ 3; omega) (by show 3 ≤ 3; omega)) ?_))
        intro z173 σ175 h174
        have f176 : ∀ k j : Int, ¬ (k = 86) → σ175 k j = τ42 k j := h174.2.2.2.2.2.2
        have h177 : σ175 86 8 = τ42 86 8 := h174.1
        have h178 : σ175 86 9 = τ42 86 9 := h174.2.1
        have h179 : σ175 86 7 = τ42 86 7 := h174.2.2.1
        have h180 : σ175 86 10 = τ42 86 10 := h174.2.2.2.1
        have h181 : σ175 86 11 = τ42 86 11 := h174.2.2.2.2.1
        have h182 : (τ42 86 12 = 0 → σ175 86 12 = 3) ∧ (τ42 86 12 ≠ 0 → σ175 86 12 = τ42 86 12) := h174.2.2.2.2.2.1
        have p183 : BW σ175 92 := BW_fr hi42_6 (fun k j hk => (f176 _ _ (by omega)))
        have p184 : SW σ175 92 := SW_fr hi42_7 (fun k j hk => (f176 _ _ (by omega)))
        try have t185 : σ175 92 1 = τ42 92 1 := (f176 _ _ (by omega))
        try have t186 : σ175 92 2 = τ42 92 2 := (f176 _ _ (by omega))
        try have t187 : σ175 92 3 = τ42 92 3 := (f176 _ _ (by omega))
        exact jn_106 σ175 (fun k j hk => ((f176 _ _ (by omega)).trans (hf42 _ _ (by omega)))) (by show σ175 86 8 = σ 86 8; omega) (by show σ175 86 9 = σ 86 9; omega) (by show σ175 86 7 = σ 86 7; omega) (by show σ175 86 10 = σ 86 10; omega) (by show σ175 86 12 = 0 → σ 86 12 = 0 ∧ (isF_ σ 3 = 1 → σ 92 1 ≤ 2) ∧ (isF_ σ 11 = 1 → σ 92 2 ≤ 11) ∧ (isF_ σ 13 = 1 → σ 92 3 ≤ 11) ∧ (isF_ σ 3 = 1 ∨ isF_ σ 11 = 1 ∨ isF_ σ 13 = 1); omega) p183 p184 (by show σ175 92 1 = σ 92 1; omega) (by show σ175 92 2 = σ 92 2; omega) (by show σ175 92 3 = σ 92 3; omega)
      · skip
        show WP_ X G Q 0 0 ad SHS_ τ42 61 [(42, 86), (9, 0)] []
        refine B rfl ?_
        show WP_ X G Q 0 0 ad SHS_ τ42 62 [(42, 86), (9, 0)] [(42, 86)]
        refine so_ldcs (n := 210) (i := 10) (tx := "feast") E (eX11_readNext (62, .ldc 210, 2) (List.mem_of_getElem? (i := 32) rfl)) (by decide) ?_
        refine B rfl ?_
        refine Exists.intro 11 (And.intro rfl (And.intro (And.intro (by show τ42 86 9 ≤ τ42 86 8; omega) (And.intro (by show τ42 86 8 ≤ τ42 86 7; omega) (by show 1 ≤ 11 ∧ 11 ≤ 14; omega))) ?_))
        rintro z188 m_ h189
        obtain rfl : τ42 = m_ := h189.2.2.2
        have h190 : 0 ≤ z188 ∧ z188 ≤ 1 := h189.1
        have h191 : z188 = isF_ τ42 11 := h189.2.1
        have h192 : z188 = 1 → τ42 86 12 = 0 ∧ τ42 86 10 = 1 := h189.2.2.1
        have hefeast : τ42 86 12 = 0 → z188 = isF_ σ 11 := fun hq => (h189.2.1).trans (isF_fr (by omega) (by omega) (by omega) (by omega) (fun j => (hf42 _ _ (by omega))))
        refine And.intro (fun h193 => ?_) (fun h193 => ?_)
        · skip
          refine B rfl ?_
          show WP_ X G Q 0 0 ad SHS_ τ42 82 [(42, 86), (9, 0)] [(42, 86)]
          refine so_ldcs (n := 212) (i := 12) (tx := "truce") E (eX11_readNext (82, .ldc 212, 2) (List.mem_of_getElem? (i := 42) rfl)) (by decide) ?_
          refine B rfl ?_
          refine Exists.intro 13 (And.intro rfl (And.intro (And.intro (by show τ42 86 9 ≤ τ42 86 8; omega) (And.intro (by show τ42 86 8 ≤ τ42 86 7; omega) (by show 1 ≤ 13 ∧ 13 ≤ 14; omega))) ?_))
          rintro z194 m_ h195
          obtain rfl : τ42 = m_ := h195.2.2.2
          have h196 : 0 ≤ z194 ∧ z194 ≤ 1 := h195.1
          have h197 : z194 = isF_ τ42 13 := h195.2.1
          have h198 : z194 = 1 → τ42 86 12 = 0 ∧ τ42 86 10 = 1 := h195.2.2.1
          have hetruce : τ42 86 12 = 0 → z194 = isF_ σ 13 := fun hq => (h195.2.1).trans (isF_fr (by omega) (by omega) (by omega) (by omega) (fun j => (hf42 _ _ (by omega))))
          refine And.intro (fun h199 => ?_) (fun h199 => ?_)
          · skip
            exact jn_106 τ42 (fun k j hk => (hf42 _ _ (by omega))) (by show τ42 86 8 = σ 86 8; omega) (by show τ42 86 9 = σ 86 9; omega) (by show τ42 86 7 = σ 86 7; omega) (by show τ42 86 10 = σ 86 10; omega) (by show τ42 86 12 = 0 → σ 86 12 = 0 ∧ (isF_ σ 3 = 1 → σ 92 1 ≤ 2) ∧ (isF_ σ 11 = 1 → σ 92 2 ≤ 11) ∧ (isF_ σ 13 = 1 → σ 92 3 ≤ 11) ∧ (isF_ σ 3 = 1 ∨ isF_ σ 11 = 1 ∨ isF_ σ 13 = 1); omega) hi42_6 hi42_7 (by show τ42 92 1 = σ 92 1; omega) (by show τ42 92 2 = σ 92 2; omega) (by show τ42 92 3 = σ 92 3; omega)
          · skip
            show WP_ X G Q 0 0 ad SHS_ τ42 90 [(42, 86), (9, 0)] []
            refine B rfl ?_
            refine And.intro (by omega) ?_
            intro z200 ez200 hz200
            have hz200 : ((-1) : Int) ≤ z200 ∧ z200 ≤ (1999 : Int) := hz200
            have b201 := wrh_ hi42_6 (i := 3) (by omega)
            have b201 : (0 : Int) ≤ τ42 92 3 ∧ τ42 92 3 ≤ (12 : Int) := b201
            refine And.intro (fun h202 => ?_) (fun h202 => ?_)
            · skip
              exact jn_106 τ42 (fun k j hk => (hf42 _ _ (by omega))) (by show τ42 86 8 = σ 86 8; omega) (by show τ42 86 9 = σ 86 9; omega) (by show τ42 86 7 = σ 86 7; omega) (by show τ42 86 10 = σ 86 10; omega) (by show τ42 86 12 = 0 → σ 86 12 = 0 ∧ (isF_ σ 3 = 1 → σ 92 1 ≤ 2) ∧ (isF_ σ 11 = 1 → σ 92 2 ≤ 11) ∧ (isF_ σ 13 = 1 → σ 92 3 ≤ 11) ∧ (isF_ σ 3 = 1 ∨ isF_ σ 11 = 1 ∨ isF_ σ 13 = 1); omega) hi42_6 hi42_7 (by show τ42 92 1 = σ 92 1; omega) (by show τ42 92 2 = σ 92 2; omega) (by show τ42 92 3 = σ 92 3; omega)
            · skip
              show WP_ X G Q 0 0 ad SHS_ τ42 101 [(42, 86), (9, 0)] []
              refine B rfl ?_
              refine Exists.intro 3 (And.intro rfl (And.intro (And.intro (by show 1 ≤ 3; omega) (by show 3 ≤ 3; omega)) ?_))
              intro z203 σ205 h204
              have f206 : ∀ k j : Int, ¬ (k = 86) → σ205 k j = τ42 k j := h204.2.2.2.2.2.2
              have h207 : σ205 86 8 = τ42 86 8 := h204.1
              have h208 : σ205 86 9 = τ42 86 9 := h204.2.1
              have h209 : σ205 86 7 = τ42 86 7 := h204.2.2.1
              have h210 : σ205 86 10 = τ42 86 10 := h204.2.2.2.1
              have h211 : σ205 86 11 = τ42 86 11 := h204.2.2.2.2.1
              have h212 : (τ42 86 12 = 0 → σ205 86 12 = 3) ∧ (τ42 86 12 ≠ 0 → σ205 86 12 = τ42 86 12) := h204.2.2.2.2.2.1
              have p213 : BW σ205 92 := BW_fr hi42_6 (fun k j hk => (f206 _ _ (by omega)))
              have p214 : SW σ205 92 := SW_fr hi42_7 (fun k j hk => (f206 _ _ (by omega)))
              try have t215 : σ205 92 1 = τ42 92 1 := (f206 _ _ (by omega))
              try have t216 : σ205 92 2 = τ42 92 2 := (f206 _ _ (by omega))
              try have t217 : σ205 92 3 = τ42 92 3 := (f206 _ _ (by omega))
              exact jn_106 σ205 (fun k j hk => ((f206 _ _ (by omega)).trans (hf42 _ _ (by omega)))) (by show σ205 86 8 = σ 86 8; omega) (by show σ205 86 9 = σ 86 9; omega) (by show σ205 86 7 = σ 86 7; omega) (by show σ205 86 10 = σ 86 10; omega) (by show σ205 86 12 = 0 → σ 86 12 = 0 ∧ (isF_ σ 3 = 1 → σ 92 1 ≤ 2) ∧ (isF_ σ 11 = 1 → σ 92 2 ≤ 11) ∧ (isF_ σ 13 = 1 → σ 92 3 ≤ 11) ∧ (isF_ σ 3 = 1 ∨ isF_ σ 11 = 1 ∨ isF_ σ 13 = 1); omega) p213 p214 (by show σ205 92 1 = σ 92 1; omega) (by show σ205 92 2 = σ 92 2; omega) (by show σ205 92 3 = σ 92 3; omega)
        · skip
          show WP_ X G Q 0 0 ad SHS_ τ42 70 [(42, 86), (9, 0)] []
          refine B rfl ?_
          refine And.intro (by omega) ?_
          intro z218 ez218 hz218
          have hz218 : ((-1) : Int) ≤ z218 ∧ z218 ≤ (1999 : Int) := hz218
          have b219 := wrh_ hi42_6 (i := 2) (by omega)
          have b219 : (0 : Int) ≤ τ42 92 2 ∧ τ42 92 2 ≤ (12 : Int) := b219
          refine And.intro (fun h220 => ?_) (fun h220 => ?_)
          · skip
            refine B rfl ?_
            refine Exists.intro 3 (And.intro rfl (And.intro (And.intro (by show 1 ≤ 3; omega) (by show 3 ≤ 3; omega)) ?_))
            intro z221 σ223 h222
            have f224 : ∀ k j : Int, ¬ (k = 86) → σ223 k j = τ42 k j := h222.2.2.2.2.2.2
            have h225 : σ223 86 8 = τ42 86 8 := h222.1
            have h226 : σ223 86 9 = τ42 86 9 := h222.2.1
            have h227 : σ223 86 7 = τ42 86 7 := h222.2.2.1
            have h228 : σ223 86 10 = τ42 86 10 := h222.2.2.2.1
            have h229 : σ223 86 11 = τ42 86 11 := h222.2.2.2.2.1
            have h230 : (τ42 86 12 = 0 → σ223 86 12 = 3) ∧ (τ42 86 12 ≠ 0 → σ223 86 12 = τ42 86 12) := h222.2.2.2.2.2.1
            have p231 : BW σ223 92 := BW_fr hi42_6 (fun k j hk => (f224 _ _ (by omega)))
            have p232 : SW σ223 92 := SW_fr hi42_7 (fun k j hk => (f224 _ _ (by omega)))
            try have t233 : σ223 92 1 = τ42 92 1 := (f224 _ _ (by omega))
            try have t234 : σ223 92 2 = τ42 92 2 := (f224 _ _ (by omega))
            try have t235 : σ223 92 3 = τ42 92 3 := (f224 _ _ (by omega))
            exact jn_106 σ223 (fun k j hk => ((f224 _ _ (by omega)).trans (hf42 _ _ (by omega)))) (by show σ223 86 8 = σ 86 8; omega) (by show σ223 86 9 = σ 86 9; omega) (by show σ223 86 7 = σ 86 7; omega) (by show σ223 86 10 = σ 86 10; omega) (by show σ223 86 12 = 0 → σ 86 12 = 0 ∧ (isF_ σ 3 = 1 → σ 92 1 ≤ 2) ∧ (isF_ σ 11 = 1 → σ 92 2 ≤ 11) ∧ (isF_ σ 13 = 1 → σ 92 3 ≤ 11) ∧ (isF_ σ 3 = 1 ∨ isF_ σ 11 = 1 ∨ isF_ σ 13 = 1); omega) p231 p232 (by show σ223 92 1 = σ 92 1; omega) (by show σ223 92 2 = σ 92 2; omega) (by show σ223 92 3 = σ 92 3; omega)
          · skip
            show WP_ X G Q 0 0 ad SHS_ τ42 81 [(42, 86), (9, 0)] []
            refine B rfl ?_
            show WP_ X G Q 0 0 ad SHS_ τ42 82 [(42, 86), (9, 0)] [(42, 86)]
            refine so_ldcs (n := 212) (i := 12) (tx := "truce") E (eX11_readNext (82, .ldc 212, 2) (List.mem_of_getElem? (i := 42) rfl)) (by decide) ?_
            refine B rfl ?_
            refine Exists.intro 13 (And.intro rfl (And.intro (And.intro (by show τ42 86 9 ≤ τ42 86 8; omega) (And.intro (by show τ42 86 8 ≤ τ42 86 7; omega) (by show 1 ≤ 13 ∧ 13 ≤ 14; omega))) ?_))
            rintro z236 m_ h237
            obtain rfl : τ42 = m_ := h237.2.2.2
            have h238 : 0 ≤ z236 ∧ z236 ≤ 1 := h237.1
            have h239 : z236 = isF_ τ42 13 := h237.2.1
            have h240 : z236 = 1 → τ42 86 12 = 0 ∧ τ42 86 10 = 1 := h237.2.2.1
            have hetruce : τ42 86 12 = 0 → z236 = isF_ σ 13 := fun hq => (h237.2.1).trans (isF_fr (by omega) (by omega) (by omega) (by omega) (fun j => (hf42 _ _ (by omega))))
            refine And.intro (fun h241 => ?_) (fun h241 => ?_)
            · skip
              exact jn_106 τ42 (fun k j hk => (hf42 _ _ (by omega))) (by show τ42 86 8 = σ 86 8; omega) (by show τ42 86 9 = σ 86 9; omega) (by show τ42 86 7 = σ 86 7; omega) (by show τ42 86 10 = σ 86 10; omega) (by show τ42 86 12 = 0 → σ 86 12 = 0 ∧ (isF_ σ 3 = 1 → σ 92 1 ≤ 2) ∧ (isF_ σ 11 = 1 → σ 92 2 ≤ 11) ∧ (isF_ σ 13 = 1 → σ 92 3 ≤ 11) ∧ (isF_ σ 3 = 1 ∨ isF_ σ 11 = 1 ∨ isF_ σ 13 = 1); omega) hi42_6 hi42_7 (by show τ42 92 1 = σ 92 1; omega) (by show τ42 92 2 = σ 92 2; omega) (by show τ42 92 3 = σ 92 3; omega)
            · skip
              show WP_ X G Q 0 0 ad SHS_ τ42 90 [(42, 86), (9, 0)] []
              refine B rfl ?_
              refine And.intro (by omega) ?_
              intro z242 ez242 hz242
              have hz242 : ((-1) : Int) ≤ z242 ∧ z242 ≤ (1999 : Int) := hz242
              have b243 := wrh_ hi42_6 (i := 3) (by omega)
              have b243 : (0 : Int) ≤ τ42 92 3 ∧ τ42 92 3 ≤ (12 : Int) := b243
              refine And.intro (fun h244 => ?_) (fun h244 => ?_)
              · skip
                exact jn_106 τ42 (fun k j hk => (hf42 _ _ (by omega))) (by show τ42 86 8 = σ 86 8; omega) (by show τ42 86 9 = σ 86 9; omega) (by show τ42 86 7 = σ 86 7; omega) (by show τ42 86 10 = σ 86 10; omega) (by show τ42 86 12 = 0 → σ 86 12 = 0 ∧ (isF_ σ 3 = 1 → σ 92 1 ≤ 2) ∧ (isF_ σ 11 = 1 → σ 92 2 ≤ 11) ∧ (isF_ σ 13 = 1 → σ 92 3 ≤ 11) ∧ (isF_ σ 3 = 1 ∨ isF_ σ 11 = 1 ∨ isF_ σ 13 = 1); omega) hi42_6 hi42_7 (by show τ42 92 1 = σ 92 1; omega) (by show τ42 92 2 = σ 92 2; omega) (by show τ42 92 3 = σ 92 3; omega)
              · skip
                show WP_ X G Q 0 0 ad SHS_ τ42 101 [(42, 86), (9, 0)] []
                refine B rfl ?_
                refine Exists.intro 3 (And.intro rfl (And.intro (And.intro (by show 1 ≤ 3; omega) (by show 3 ≤ 3; omega)) ?_))
                intro z245 σ247 h246
                have f248 : ∀ k j : Int, ¬ (k = 86) → σ247 k j = τ42 k j := h246.2.2.2.2.2.2
                have h249 : σ247 86 8 = τ42 86 8 := h246.1
                have h250 : σ247 86 9 = τ42 86 9 := h246.2.1
                have h251 : σ247 86 7 = τ42 86 7 := h246.2.2.1
                have h252 : σ247 86 10 = τ42 86 10 := h246.2.2.2.1
                have h253 : σ247 86 11 = τ42 86 11 := h246.2.2.2.2.1
                have h254 : (τ42 86 12 = 0 → σ247 86 12 = 3) ∧ (τ42 86 12 ≠ 0 → σ247 86 12 = τ42 86 12) := h246.2.2.2.2.2.1
                have p255 : BW σ247 92 := BW_fr hi42_6 (fun k j hk => (f248 _ _ (by omega)))
                have p256 : SW σ247 92 := SW_fr hi42_7 (fun k j hk => (f248 _ _ (by omega)))
                try have t257 : σ247 92 1 = τ42 92 1 := (f248 _ _ (by omega))
                try have t258 : σ247 92 2 = τ42 92 2 := (f248 _ _ (by omega))
                try have t259 : σ247 92 3 = τ42 92 3 := (f248 _ _ (by omega))
                exact jn_106 σ247 (fun k j hk => ((f248 _ _ (by omega)).trans (hf42 _ _ (by omega)))) (by show σ247 86 8 = σ 86 8; omega) (by show σ247 86 9 = σ 86 9; omega) (by show σ247 86 7 = σ 86 7; omega) (by show σ247 86 10 = σ 86 10; omega) (by show σ247 86 12 = 0 → σ 86 12 = 0 ∧ (isF_ σ 3 = 1 → σ 92 1 ≤ 2) ∧ (isF_ σ 11 = 1 → σ 92 2 ≤ 11) ∧ (isF_ σ 13 = 1 → σ 92 3 ≤ 11) ∧ (isF_ σ 3 = 1 ∨ isF_ σ 11 = 1 ∨ isF_ σ 13 = 1); omega) p255 p256 (by show σ247 92 1 = σ 92 1; omega) (by show σ247 92 2 = σ 92 2; omega) (by show σ247 92 3 = σ 92 3; omega)
  show WP_ X G Q 0 0 ad SHS_ σ 1 [(42, 86), (9, 0)] [(42, 86)]
  refine so_ldcs (n := 208) (i := 2) (tx := "land") E (eX11_readNext (1, .ldc 208, 2) (List.mem_of_getElem? (i := 1) rfl)) (by decide) ?_
  refine B rfl ?_
  refine Exists.intro 3 (And.intro rfl (And.intro (And.intro (by show σ 86 9 ≤ σ 86 8; omega) (And.intro (by show σ 86 8 ≤ σ 86 7; omega) (by show 1 ≤ 3 ∧ 3 ≤ 14; omega))) ?_))
  rintro z260 m_ h261
  obtain rfl : σ = m_ := h261.2.2.2
  have h262 : 0 ≤ z260 ∧ z260 ≤ 1 := h261.1
  have h263 : z260 = isF_ σ 3 := h261.2.1
  have h264 : z260 = 1 → σ 86 12 = 0 ∧ σ 86 10 = 1 := h261.2.2.1
  refine And.intro (fun h265 => ?_) (fun h265 => ?_)
  · skip
    refine B rfl ?_
    refine B rfl ?_
    refine And.intro (fun h266 => ?_) (fun h266 => (by exfalso; omega))
    show WP_ X G Q 0 0 ad SHS_ σ 42 [(42, 86), (0, 1)] []
    refine wdrop_ (L' := [(42, 86), (9, 0)]) ⟨Or.inr rfl, ⟨Or.inl rfl, trivial⟩⟩ ?_
    exact jn_42 σ (fun k j hk => rfl) (by show σ 86 8 = σ 86 8; omega) (by show σ 86 9 = σ 86 9; omega) (by show σ 86 7 = σ 86 7; omega) (by show σ 86 10 = σ 86 10; omega) (by show σ 86 12 = 0 → σ 86 12 = 0 ∧ (isF_ σ 3 = 1 ∨ isF_ σ 11 = 1 ∨ isF_ σ 13 = 1); omega) (by show σ 86 12 ≠ 0 ∨ σ 86 12 = σ 86 12; omega) hp2 hp3 (by show σ 92 1 = σ 92 1; omega) (by show σ 92 2 = σ 92 2; omega) (by show σ 92 3 = σ 92 3; omega)
  · skip
    show WP_ X G Q 0 0 ad SHS_ σ 9 [(42, 86), (9, 0)] []
    refine B rfl ?_
    show WP_ X G Q 0 0 ad SHS_ σ 10 [(42, 86), (9, 0)] [(42, 86)]
    refine so_ldcs (n := 210) (i := 10) (tx := "feast") E (eX11_readNext (10, .ldc 210, 2) (List.mem_of_getElem? (i := 5) rfl)) (by decide) ?_
    refine B rfl ?_
    refine Exists.intro 11 (And.intro rfl (And.intro (And.intro (by show σ 86 9 ≤ σ 86 8; omega) (And.intro (by show σ 86 8 ≤ σ 86 7; omega) (by show 1 ≤ 11 ∧ 11 ≤ 14; omega))) ?_))
    rintro z267 m_ h268
    obtain rfl : σ = m_ := h268.2.2.2
    have h269 : 0 ≤ z267 ∧ z267 ≤ 1 := h268.1
    have h270 : z267 = isF_ σ 11 := h268.2.1
    have h271 : z267 = 1 → σ 86 12 = 0 ∧ σ 86 10 = 1 := h268.2.2.1
    refine And.intro (fun h272 => ?_) (fun h272 => ?_)
    · skip
      refine B rfl ?_
      refine B rfl ?_
      refine And.intro (fun h273 => ?_) (fun h273 => (by exfalso; omega))
      show WP_ X G Q 0 0 ad SHS_ σ 42 [(42, 86), (0, 1)] []
      refine wdrop_ (L' := [(42, 86), (9, 0)]) ⟨Or.inr rfl, ⟨Or.inl rfl, trivial⟩⟩ ?_
      exact jn_42 σ (fun k j hk => rfl) (by show σ 86 8 = σ 86 8; omega) (by show σ 86 9 = σ 86 9; omega) (by show σ 86 7 = σ 86 7; omega) (by show σ 86 10 = σ 86 10; omega) (by show σ 86 12 = 0 → σ 86 12 = 0 ∧ (isF_ σ 3 = 1 ∨ isF_ σ 11 = 1 ∨ isF_ σ 13 = 1); omega) (by show σ 86 12 ≠ 0 ∨ σ 86 12 = σ 86 12; omega) hp2 hp3 (by show σ 92 1 = σ 92 1; omega) (by show σ 92 2 = σ 92 2; omega) (by show σ 92 3 = σ 92 3; omega)
    · skip
      show WP_ X G Q 0 0 ad SHS_ σ 18 [(42, 86), (9, 0)] []
      refine B rfl ?_
      show WP_ X G Q 0 0 ad SHS_ σ 19 [(42, 86), (9, 0)] [(42, 86)]
      refine so_ldcs (n := 212) (i := 12) (tx := "truce") E (eX11_readNext (19, .ldc 212, 2) (List.mem_of_getElem? (i := 9) rfl)) (by decide) ?_
      refine B rfl ?_
      refine Exists.intro 13 (And.intro rfl (And.intro (And.intro (by show σ 86 9 ≤ σ 86 8; omega) (And.intro (by show σ 86 8 ≤ σ 86 7; omega) (by show 1 ≤ 13 ∧ 13 ≤ 14; omega))) ?_))
      rintro z274 m_ h275
      obtain rfl : σ = m_ := h275.2.2.2
      have h276 : 0 ≤ z274 ∧ z274 ≤ 1 := h275.1
      have h277 : z274 = isF_ σ 13 := h275.2.1
      have h278 : z274 = 1 → σ 86 12 = 0 ∧ σ 86 10 = 1 := h275.2.2.1
      refine And.intro (fun h279 => ?_) (fun h279 => ?_)
      · skip
        refine B rfl ?_
        refine And.intro (fun h280 => (by exfalso; omega)) (fun h280 => ?_)
        show WP_ X G Q 0 0 ad SHS_ σ 37 [(42, 86), (0, 0)] []
        refine B rfl ?_
        refine Exists.intro 1 (And.intro rfl (And.intro (And.intro (by show 1 ≤ 1; omega) (by show 1 ≤ 3; omega)) ?_))
        intro z281 σ283 h282
        have f284 : ∀ k j : Int, ¬ (k = 86) → σ283 k j = σ k j := h282.2.2.2.2.2.2
        have h285 : σ283 86 8 = σ 86 8 := h282.1
        have h286 : σ283 86 9 = σ 86 9 := h282.2.1
        have h287 : σ283 86 7 = σ 86 7 := h282.2.2.1
        have h288 : σ283 86 10 = σ 86 10 := h282.2.2.2.1
        have h289 : σ283 86 11 = σ 86 11 := h282.2.2.2.2.1
        have h290 : (σ 86 12 = 0 → σ283 86 12 = 1) ∧ (σ 86 12 ≠ 0 → σ283 86 12 = σ 86 12) := h282.2.2.2.2.2.1
        show WP_ X G Q 0 0 ad SHS_ σ283 42 [(42, 86), (0, 0)] []
        refine wdrop_ (L' := [(42, 86), (9, 0)]) ⟨Or.inr rfl, ⟨Or.inl rfl, trivial⟩⟩ ?_
        have p291 : BW σ283 92 := BW_fr hp2 (fun k j hk => (f284 _ _ (by omega)))
        have p292 : SW σ283 92 := SW_fr hp3 (fun k j hk => (f284 _ _ (by omega)))
        try have t293 : σ283 92 1 = σ 92 1 := (f284 _ _ (by omega))
        try have t294 : σ283 92 2 = σ 92 2 := (f284 _ _ (by omega))
        try have t295 : σ283 92 3 = σ 92 3 := (f284 _ _ (by omega))
        exact jn_42 σ283 (fun k j hk => (f284 _ _ (by omega))) (by show σ283 86 8 = σ 86 8; omega) (by show σ283 86 9 = σ 86 9; omega) (by show σ283 86 7 = σ 86 7; omega) (by show σ283 86 10 = σ 86 10; omega) (by show σ283 86 12 = 0 → σ 86 12 = 0 ∧ (isF_ σ 3 = 1 ∨ isF_ σ 11 = 1 ∨ isF_ σ 13 = 1); omega) (by show σ283 86 12 ≠ 0 ∨ σ283 86 12 = σ 86 12; omega) p291 p292 (by show σ283 92 1 = σ 92 1; omega) (by show σ283 92 2 = σ 92 2; omega) (by show σ283 92 3 = σ 92 3; omega)
      · skip
        show WP_ X G Q 0 0 ad SHS_ σ 27 [(42, 86), (9, 0)] []
        refine B rfl ?_
        refine B rfl ?_
        refine And.intro (fun h296 => ?_) (fun h296 => (by exfalso; omega))
        show WP_ X G Q 0 0 ad SHS_ σ 42 [(42, 86), (0, 1)] []
        refine wdrop_ (L' := [(42, 86), (9, 0)]) ⟨Or.inr rfl, ⟨Or.inl rfl, trivial⟩⟩ ?_
        exact jn_42 σ (fun k j hk => rfl) (by show σ 86 8 = σ 86 8; omega) (by show σ 86 9 = σ 86 9; omega) (by show σ 86 7 = σ 86 7; omega) (by show σ 86 10 = σ 86 10; omega) (by show σ 86 12 = 0 → σ 86 12 = 0 ∧ (isF_ σ 3 = 1 ∨ isF_ σ 11 = 1 ∨ isF_ σ 13 = 1); omega) (by show σ 86 12 ≠ 0 ∨ σ 86 12 = σ 86 12; omega) hp2 hp3 (by show σ 92 1 = σ 92 1; omega) (by show σ 92 2 = σ 92 2; omega) (by show σ 92 3 = σ 92 3; omega)
