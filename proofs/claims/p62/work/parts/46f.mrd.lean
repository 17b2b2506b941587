def as_G_X11_readLine : Unit → List Sv_t := fun a => [(42, 86)]
def pre_G_X11_readLine : Unit → Me_t → Prop := fun a σ => (σ 86 9 ≤ σ 86 8) ∧ (σ 86 8 ≤ σ 86 7) ∧ (BW σ 92) ∧ (SW σ 92) ∧ (σ 92 4 ≤ 1200)
def post_G_X11_readLine : Unit → Me_t → Int → Me_t → Prop := fun a σ z σ' => (σ' 86 9 ≤ σ' 86 8) ∧ (σ' 86 8 ≤ σ' 86 7) ∧ (σ' 86 7 = σ 86 7) ∧ (σ 86 8 ≤ σ' 86 8 ∧ (σ 86 8 < σ' 86 8 ∨ σ' 86 10 ≤ σ 86 10)) ∧ (BW σ' 92) ∧ (σ' 86 12 = 0 → (σ 86 8 < σ' 86 8 ∨ σ' 86 10 ≤ 0)) ∧ (σ' 86 12 = 0 → SW σ' 92) ∧ (σ' 92 4 = σ 92 4 + 1) ∧ (σ' 92 5 = σ 92 5) ∧ (∀ k j : Int, ¬ (k = 86 ∨ k = 92) → σ' k j = σ k j)
set_option maxHeartbeats 3000000 in
set_option maxRecDepth 100000 in
theorem ct_G_X11_readLine (l : Launch) : CT_ l yX11_readLine cX11_readLine 1 none 11 238 as_G_X11_readLine (rmV_) pre_G_X11_readLine post_G_X11_readLine := by
  refine ct_of (by decide) (fun _ => Nat.le_of_ble_eq_true rfl) ?_
  intro X G Q ad σ a hl hR E hG R hM hv hp
  have hp0 : σ 86 9 ≤ σ 86 8 := hp.1
  have hp1 : σ 86 8 ≤ σ 86 7 := hp.2.1
  have hp2 : BW σ 92 := hp.2.2.1
  have hp3 : SW σ 92 := hp.2.2.2.1
  have hp4 : σ 92 4 ≤ 1200 := hp.2.2.2.2
  have B := @bk_ X G Q 0 0 ad SHS_ RX11 cX11_readLine 1 none flX11 plX11 knX11 [(294, 1, TR_ as_G_X11_good (rmI_) pre_G_X11_good post_G_X11_good), (326, 1, TR_ as_G_X11_advance (rmV_) pre_G_X11_advance post_G_X11_advance), (338, 2, TR_ as_G_X11_errs (rmV_) pre_G_X11_errs post_G_X11_errs), (454, 1, TR_ as_G_X11_readNext (rmV_) pre_G_X11_readNext post_G_X11_readNext), (346, 2, TR_ as_G_X11_needs (rmV_) pre_G_X11_needs post_G_X11_needs), (370, 4, TR_ as_G_X11_told (rmI_) pre_G_X11_told post_G_X11_told)] _ _ none kX11_readLine [10, 21, 37] flX11_ok plX11_ok knX11_ok eX11_readLine oX11_readLine
    (List.forall_mem_cons.mpr ⟨cok_v (t := 32) (c := 11) (N := 39) (n := 0) (idx := 147) E (ct_G_X11_good X.2.1) (by rw [hR]; decide) (Nat.zero_le _) (Nat.zero_le _) hG rfl rfl ⟨rfl, by decide, by decide, by decide⟩ (fun _ => ⟨_, _, rfl, rfl⟩) wl_X11_147 wi_X11_good ws_X11_good wn_X11 wc_X11_good, List.forall_mem_cons.mpr ⟨cok_v (t := 32) (c := 11) (N := 39) (n := 0) (idx := 163) E (ct_G_X11_advance X.2.1) (by rw [hR]; decide) (Nat.zero_le _) (Nat.zero_le _) hG rfl rfl ⟨rfl, by decide, by decide, by decide⟩ (fun _ => ⟨_, _, rfl, rfl⟩) wl_X11_163 wi_X11_advance ws_X11_advance wn_X11 wc_X11_advance, List.forall_mem_cons.mpr ⟨cok_v (t := 32) (c := 11) (N := 39) (n := 1) (idx := 169) E (ct_G_X11_errs X.2.1) (by rw [hR]; decide) (Nat.zero_le _) (Nat.zero_le _) hG rfl rfl ⟨rfl, by decide, by decide, by decide⟩ (fun _ => ⟨_, _, rfl, rfl⟩) wl_X11_169 wi_X11_errs ws_X11_errs wn_X11 wc_X11_errs, List.forall_mem_cons.mpr ⟨cok_v (t := 32) (c := 11) (N := 39) (n := 0) (idx := 227) E (ct_G_X11_readNext X.2.1) (by rw [hR]; decide) (Nat.zero_le _) (Nat.zero_le _) hG rfl rfl ⟨rfl, by decide, by decide, by decide⟩ (fun _ => ⟨_, _, rfl, rfl⟩) wl_X11_227 wi_X11_readNext ws_X11_readNext wn_X11 wc_X11_readNext, List.forall_mem_cons.mpr ⟨cok_v (t := 32) (c := 11) (N := 39) (n := 1) (idx := 173) E (ct_G_X11_needs X.2.1) (by rw [hR]; decide) (Nat.zero_le _) (Nat.zero_le _) hG rfl rfl ⟨rfl, by decide, by decide, by decide⟩ (fun _ => ⟨_, _, rfl, rfl⟩) wl_X11_173 wi_X11_needs ws_X11_needs wn_X11 wc_X11_needs, List.forall_mem_cons.mpr ⟨cok_v (t := 32) (c := 11) (N := 39) (n := 3) (idx := 185) E (ct_G_X11_told X.2.1) (by rw [hR]; decide) (Nat.zero_le _) (Nat.zero_le _) hG rfl rfl ⟨rfl, by decide, by decide, by decide⟩ (fun _ => ⟨_, _, rfl, rfl⟩) wl_X11_185 wi_X11_told ws_X11_told wn_X11 wc_X11_told, fun _ h => absurd h List.not_mem_nil⟩⟩⟩⟩⟩⟩) R sok_no E
  show WP_ X G Q 0 0 ad SHS_ σ 0 [(42, 86)] []
  refine B rfl ?_
  have jn_37 : ∀ (τ37 : Me_t), (∀ k j : Int, ¬ (k = 86 ∨ k = 92) → τ37 k j = σ k j) → (τ37 86 9 ≤ τ37 86 8) → (τ37 86 8 ≤ τ37 86 7) → (τ37 86 7 = σ 86 7) → (σ 86 8 ≤ τ37 86 8 ∧ (σ 86 8 < τ37 86 8 ∨ τ37 86 10 ≤ σ 86 10)) → (BW τ37 92) → (τ37 86 12 = 0 → (σ 86 8 < τ37 86 8 ∨ τ37 86 10 ≤ 0)) → (τ37 86 12 = 0 → SW τ37 92) → (τ37 92 4 = σ 92 4) → (τ37 92 5 = σ 92 5) → WP_ X G Q 0 0 ad SHS_ τ37 37 [(42, 86)] [] := by
    intro τ37 hf37 hi37_0 hi37_1 hi37_2 hi37_3 hi37_4 hi37_5 hi37_6 hi37_7 hi37_8
    refine B rfl ?_
    try have t1 : τ37 86 11 = σ 86 11 := (hf37 _ _ (by omega))
    refine Exists.intro () (And.intro rfl (And.intro True.intro ?_))
    rintro z2 m_ h3
    obtain rfl : τ37 = m_ := h3.2
    have h4 : (z2 = 1 ∧ τ37 86 12 = 0) ∨ (z2 = 0 ∧ τ37 86 12 ≠ 0) := h3.1
    refine And.intro (fun h5 => ?_) (fun h5 => ?_)
    · skip
      refine B rfl ?_
      refine Exists.intro () (And.intro rfl (And.intro True.intro ?_))
      rintro z6 m_ h7
      obtain rfl : τ37 = m_ := h7.2
      have h8 : (z6 = 1 ∧ τ37 86 12 = 0) ∨ (z6 = 0 ∧ τ37 86 12 ≠ 0) := h7.1
      refine And.intro (fun h9 => ?_) (fun h9 => ?_)
      · skip
        refine B rfl ?_
        refine And.intro (by omega) ?_
        intro z10 ez10 hz10
        have hz10 : ((-1) : Int) ≤ z10 ∧ z10 ≤ (1999 : Int) := hz10
        have b11 := wrh_ hi37_4 (i := 4) (by omega)
        have b11 : (0 : Int) ≤ τ37 92 4 ∧ τ37 92 4 ≤ (1300 : Int) := b11
        refine And.intro (by omega) ?_
        refine And.intro (by omega) ?_
        refine And.intro (by show ((-1) : Int) ≤ _ ∧ _ ≤ (1999 : Int); omega) ?_
        intro σ12 e13
        have p14 : BW σ12 92 := wsth_ hi37_4 e13 (by omega) (by have e5 : hdhi_ 4 = 1300 := rfl; omega)
        refine Exists.intro 0 (And.intro rfl ?_)
        try have t15 : σ12 86 9 = τ37 86 9 := (ups_r e13 (by omega))
        try have t16 : σ12 86 8 = τ37 86 8 := (ups_r e13 (by omega))
        try have t17 : σ12 86 7 = τ37 86 7 := (ups_r e13 (by omega))
        try have t18 : σ12 86 10 = τ37 86 10 := (ups_r e13 (by omega))
        try have t19 : σ12 86 12 = τ37 86 12 := (ups_r e13 (by omega))
        try have t20 : σ12 86 11 = τ37 86 11 := (ups_r e13 (by omega))
        have t21 : σ12 92 4 = z10 + 1 := ups_v e13
        try have t22 : σ12 92 5 = τ37 92 5 := (ups_r e13 (by omega))
        exact (And.intro (by show σ12 86 9 ≤ σ12 86 8; omega) (And.intro (by show σ12 86 8 ≤ σ12 86 7; omega) (And.intro (by show σ12 86 7 = σ 86 7; omega) (And.intro (by show σ 86 8 ≤ σ12 86 8 ∧ (σ 86 8 < σ12 86 8 ∨ σ12 86 10 ≤ σ 86 10); omega) (And.intro p14 (And.intro (by show σ12 86 12 = 0 → (σ 86 8 < σ12 86 8 ∨ σ12 86 10 ≤ 0); omega) (And.intro (by show σ12 86 12 = 0 → SW σ12 92; intro hf; exact SW_eq (hi37_6 (by omega)) ((ups_r e13 (by omega))) (fun j h1 h2 => (ups_r e13 (by omega)))) (And.intro (by show σ12 92 4 = σ 92 4 + 1; omega) (And.intro (by show σ12 92 5 = σ 92 5; omega) (fun k j hk => ((ups_r e13 (by omega)).trans (hf37 _ _ (by omega)))))))))))))
      · skip
        refine Exists.intro () (And.intro rfl (And.intro (by show τ37 86 8 ≤ τ37 86 7; omega) ?_))
        intro z23 σ25 h24
        have f26 : ∀ k j : Int, ¬ (k = 86) → σ25 k j = τ37 k j := h24.2.2.2.2.2.2
        have h27 : σ25 86 9 ≤ σ25 86 8 := h24.1
        have h28 : σ25 86 8 ≤ σ25 86 7 := h24.2.1
        have h29 : σ25 86 7 = τ37 86 7 := h24.2.2.1
        have h30 : τ37 86 8 ≤ σ25 86 8 ∧ (τ37 86 8 < σ25 86 8 ∨ σ25 86 10 ≤ τ37 86 10) := h24.2.2.2.1
        have h31 : σ25 86 12 = τ37 86 12 := h24.2.2.2.2.1
        have h32 : (τ37 86 8 < σ25 86 8 ∨ σ25 86 10 ≤ 0) := h24.2.2.2.2.2.1
        refine And.intro (by omega) ?_
        intro z33 ez33 hz33
        have hz33 : ((-1) : Int) ≤ z33 ∧ z33 ≤ (1999 : Int) := hz33
        try have t34 : σ25 92 4 = τ37 92 4 := (f26 _ _ (by omega))
        have p35 : BW σ25 92 := BW_fr hi37_4 (fun k j hk => (f26 _ _ (by omega)))
        have b36 := wrh_ p35 (i := 4) (by omega)
        have b36 : (0 : Int) ≤ σ25 92 4 ∧ σ25 92 4 ≤ (1300 : Int) := b36
        refine And.intro (by omega) ?_
        refine And.intro (by omega) ?_
        refine And.intro (by show ((-1) : Int) ≤ _ ∧ _ ≤ (1999 : Int); omega) ?_
        intro σ37 e38
        have p39 : BW σ37 92 := wsth_ p35 e38 (by omega) (by have e5 : hdhi_ 4 = 1300 := rfl; omega)
        refine Exists.intro 0 (And.intro rfl ?_)
        try have t40 : σ37 86 9 = σ25 86 9 := (ups_r e38 (by omega))
        try have t41 : σ37 86 8 = σ25 86 8 := (ups_r e38 (by omega))
        try have t42 : σ37 86 7 = σ25 86 7 := (ups_r e38 (by omega))
        try have t43 : σ37 86 10 = σ25 86 10 := (ups_r e38 (by omega))
        try have t44 : σ37 86 12 = σ25 86 12 := (ups_r e38 (by omega))
        try have t45 : σ37 86 11 = τ37 86 11 := ((ups_r e38 (by omega)).trans (f26 _ _ (by omega)))
        have t46 : σ37 92 4 = z33 + 1 := ups_v e38
        try have t47 : σ37 92 5 = τ37 92 5 := ((ups_r e38 (by omega)).trans (f26 _ _ (by omega)))
        exact (And.intro (by show σ37 86 9 ≤ σ37 86 8; omega) (And.intro (by show σ37 86 8 ≤ σ37 86 7; omega) (And.intro (by show σ37 86 7 = σ 86 7; omega) (And.intro (by show σ 86 8 ≤ σ37 86 8 ∧ (σ 86 8 < σ37 86 8 ∨ σ37 86 10 ≤ σ 86 10); omega) (And.intro p39 (And.intro (by show σ37 86 12 = 0 → (σ 86 8 < σ37 86 8 ∨ σ37 86 10 ≤ 0); omega) (And.intro (by show σ37 86 12 = 0 → SW σ37 92; intro hf; exact SW_eq (hi37_6 (by omega)) (((ups_r e38 (by omega)).trans (f26 _ _ (by omega)))) (fun j h1 h2 => ((ups_r e38 (by omega)).trans (f26 _ _ (by omega))))) (And.intro (by show σ37 92 4 = σ 92 4 + 1; omega) (And.intro (by show σ37 92 5 = σ 92 5; omega) (fun k j hk => ((ups_r e38 (by omega)).trans ((f26 _ _ (by omega)).trans (hf37 _ _ (by omega))))))))))))))
    · skip
      intro z48 ez48 hz48
      have hz48 : (0 : Int) ≤ z48 ∧ z48 ≤ (4 : Int) := hz48
      refine And.intro (fun h49 => ?_) (fun h49 => ?_)
      · skip
        refine B rfl ?_
        refine Exists.intro () (And.intro rfl (And.intro True.intro ?_))
        rintro z50 m_ h51
        obtain rfl : τ37 = m_ := h51.2
        have h52 : (z50 = 1 ∧ τ37 86 12 = 0) ∨ (z50 = 0 ∧ τ37 86 12 ≠ 0) := h51.1
        refine And.intro (fun h53 => ?_) (fun h53 => ?_)
        · skip
          refine B rfl ?_
          refine And.intro (by omega) ?_
          intro z54 ez54 hz54
          have hz54 : ((-1) : Int) ≤ z54 ∧ z54 ≤ (1999 : Int) := hz54
          have b55 := wrh_ hi37_4 (i := 4) (by omega)
          have b55 : (0 : Int) ≤ τ37 92 4 ∧ τ37 92 4 ≤ (1300 : Int) := b55
          refine And.intro (by omega) ?_
          refine And.intro (by omega) ?_
          refine And.intro (by show ((-1) : Int) ≤ _ ∧ _ ≤ (1999 : Int); omega) ?_
          intro σ56 e57
          have p58 : BW σ56 92 := wsth_ hi37_4 e57 (by omega) (by have e5 : hdhi_ 4 = 1300 := rfl; omega)
          refine Exists.intro 0 (And.intro rfl ?_)
          try have t59 : σ56 86 9 = τ37 86 9 := (ups_r e57 (by omega))
          try have t60 : σ56 86 8 = τ37 86 8 := (ups_r e57 (by omega))
          try have t61 : σ56 86 7 = τ37 86 7 := (ups_r e57 (by omega))
          try have t62 : σ56 86 10 = τ37 86 10 := (ups_r e57 (by omega))
          try have t63 : σ56 86 12 = τ37 86 12 := (ups_r e57 (by omega))
          try have t64 : σ56 86 11 = τ37 86 11 := (ups_r e57 (by omega))
          have t65 : σ56 92 4 = z54 + 1 := ups_v e57
          try have t66 : σ56 92 5 = τ37 92 5 := (ups_r e57 (by omega))
          exact (And.intro (by show σ56 86 9 ≤ σ56 86 8; omega) (And.intro (by show σ56 86 8 ≤ σ56 86 7; omega) (And.intro (by show σ56 86 7 = σ 86 7; omega) (And.intro (by show σ 86 8 ≤ σ56 86 8 ∧ (σ 86 8 < σ56 86 8 ∨ σ56 86 10 ≤ σ 86 10); omega) (And.intro p58 (And.intro (by show σ56 86 12 = 0 → (σ 86 8 < σ56 86 8 ∨ σ56 86 10 ≤ 0); omega) (And.intro (by show σ56 86 12 = 0 → SW σ56 92; intro hf; exact SW_eq (hi37_6 (by omega)) ((ups_r e57 (by omega))) (fun j h1 h2 => (ups_r e57 (by omega)))) (And.intro (by show σ56 92 4 = σ 92 4 + 1; omega) (And.intro (by show σ56 92 5 = σ 92 5; omega) (fun k j hk => ((ups_r e57 (by omega)).trans (hf37 _ _ (by omega)))))))))))))
        · skip
          refine Exists.intro () (And.intro rfl (And.intro (by show τ37 86 8 ≤ τ37 86 7; omega) ?_))
          intro z67 σ69 h68
          have f70 : ∀ k j : Int, ¬ (k = 86) → σ69 k j = τ37 k j := h68.2.2.2.2.2.2
          have h71 : σ69 86 9 ≤ σ69 86 8 := h68.1
          have h72 : σ69 86 8 ≤ σ69 86 7 := h68.2.1
          have h73 : σ69 86 7 = τ37 86 7 := h68.2.2.1
          have h74 : τ37 86 8 ≤ σ69 86 8 ∧ (τ37 86 8 < σ69 86 8 ∨ σ69 86 10 ≤ τ37 86 10) := h68.2.2.2.1
          have h75 : σ69 86 12 = τ37 86 12 := h68.2.2.2.2.1
          have h76 : (τ37 86 8 < σ69 86 8 ∨ σ69 86 10 ≤ 0) := h68.2.2.2.2.2.1
          refine And.intro (by omega) ?_
          intro z77 ez77 hz77
          have hz77 : ((-1) : Int) ≤ z77 ∧ z77 ≤ (1999 : Int) := hz77
          try have t78 : σ69 92 4 = τ37 92 4 := (f70 _ _ (by omega))
          have p79 : BW σ69 92 := BW_fr hi37_4 (fun k j hk => (f70 _ _ (by omega)))
          have b80 := wrh_ p79 (i := 4) (by omega)
          have b80 : (0 : Int) ≤ σ69 92 4 ∧ σ69 92 4 ≤ (1300 : Int) := b80
          refine And.intro (by omega) ?_
          refine And.intro (by omega) ?_
          refine And.intro (by show ((-1) : Int) ≤ _ ∧ _ ≤ (1999 : Int); omega) ?_
          intro σ81 e82
          have p83 : BW σ81 92 := wsth_ p79 e82 (by omega) (by have e5 : hdhi_ 4 = 1300 := rfl; omega)
          refine Exists.intro 0 (And.intro rfl ?_)
          try have t84 : σ81 86 9 = σ69 86 9 := (ups_r e82 (by omega))
          try have t85 : σ81 86 8 = σ69 86 8 := (ups_r e82 (by omega))
          try have t86 : σ81 86 7 = σ69 86 7 := (ups_r e82 (by omega))
          try have t87 : σ81 86 10 = σ69 86 10 := (ups_r e82 (by omega))
          try have t88 : σ81 86 12 = σ69 86 12 := (ups_r e82 (by omega))
          try have t89 : σ81 86 11 = τ37 86 11 := ((ups_r e82 (by omega)).trans (f70 _ _ (by omega)))
          have t90 : σ81 92 4 = z77 + 1 := ups_v e82
          try have t91 : σ81 92 5 = τ37 92 5 := ((ups_r e82 (by omega)).trans (f70 _ _ (by omega)))
          exact (And.intro (by show σ81 86 9 ≤ σ81 86 8; omega) (And.intro (by show σ81 86 8 ≤ σ81 86 7; omega) (And.intro (by show σ81 86 7 = σ 86 7; omega) (And.intro (by show σ 86 8 ≤ σ81 86 8 ∧ (σ 86 8 < σ81 86 8 ∨ σ81 86 10 ≤ σ 86 10); omega) (And.intro p83 (And.intro (by show σ81 86 12 = 0 → (σ 86 8 < σ81 86 8 ∨ σ81 86 10 ≤ 0); omega) (And.intro (by show σ81 86 12 = 0 → SW σ81 92; intro hf; exact SW_eq (hi37_6 (by omega)) (((ups_r e82 (by omega)).trans (f70 _ _ (by omega)))) (fun j h1 h2 => ((ups_r e82 (by omega)).trans (f70 _ _ (by omega))))) (And.intro (by show σ81 92 4 = σ 92 4 + 1; omega) (And.intro (by show σ81 92 5 = σ 92 5; omega) (fun k j hk => ((ups_r e82 (by omega)).trans ((f70 _ _ (by omega)).trans (hf37 _ _ (by omega))))))))))))))
      · skip
        refine Exists.intro 1 (And.intro rfl (And.intro (And.intro (by show 1 ≤ 1; omega) (by show 1 ≤ 3; omega)) ?_))
        intro z92 σ94 h93
        have f95 : ∀ k j : Int, ¬ (k = 86) → σ94 k j = τ37 k j := h93.2.2.2.2.2.2
        have h96 : σ94 86 8 = τ37 86 8 := h93.1
        have h97 : σ94 86 9 = τ37 86 9 := h93.2.1
        have h98 : σ94 86 7 = τ37 86 7 := h93.2.2.1
        have h99 : σ94 86 10 = τ37 86 10 := h93.2.2.2.1
        have h100 : σ94 86 11 = τ37 86 11 := h93.2.2.2.2.1
        have h101 : (τ37 86 12 = 0 → σ94 86 12 = 1) ∧ (τ37 86 12 ≠ 0 → σ94 86 12 = τ37 86 12) := h93.2.2.2.2.2.1
        refine Exists.intro () (And.intro rfl (And.intro True.intro ?_))
        rintro z102 m_ h103
        obtain rfl : σ94 = m_ := h103.2
        have h104 : (z102 = 1 ∧ σ94 86 12 = 0) ∨ (z102 = 0 ∧ σ94 86 12 ≠ 0) := h103.1
        refine And.intro (fun h105 => ?_) (fun h105 => ?_)
        · skip
          refine B rfl ?_
          refine And.intro (by omega) ?_
          intro z106 ez106 hz106
          have hz106 : ((-1) : Int) ≤ z106 ∧ z106 ≤ (1999 : Int) := hz106
          try have t107 : σ94 92 4 = τ37 92 4 := (f95 _ _ (by omega))
          have p108 : BW σ94 92 := BW_fr hi37_4 (fun k j hk => (f95 _ _ (by omega)))
          have b109 := wrh_ p108 (i := 4) (by omega)
          have b109 : (0 : Int) ≤ σ94 92 4 ∧ σ94 92 4 ≤ (1300 : Int) := b109
          refine And.intro (by omega) ?_
          refine And.intro (by omega) ?_
          refine And.intro (by show ((-1) : Int) ≤ _ ∧ _ ≤ (1999 : Int); omega) ?_
          intro σ110 e111
          have p112 : BW σ110 92 := wsth_ p108 e111 (by omega) (by have e5 : hdhi_ 4 = 1300 := rfl; omega)
          refine Exists.intro 0 (And.intro rfl ?_)
          try have t113 : σ110 86 9 = σ94 86 9 := (ups_r e111 (by omega))
          try have t114 : σ110 86 8 = σ94 86 8 := (ups_r e111 (by omega))
          try have t115 : σ110 86 7 = σ94 86 7 := (ups_r e111 (by omega))
          try have t116 : σ110 86 10 = σ94 86 10 := (ups_r e111 (by omega))
          try have t117 : σ110 86 12 = σ94 86 12 := (ups_r e111 (by omega))
          try have t118 : σ110 86 11 = σ94 86 11 := (ups_r e111 (by omega))
          have t119 : σ110 92 4 = z106 + 1 := ups_v e111
          try have t120 : σ110 92 5 = τ37 92 5 := ((ups_r e111 (by omega)).trans (f95 _ _ (by omega)))
          exact (And.intro (by show σ110 86 9 ≤ σ110 86 8; omega) (And.intro (by show σ110 86 8 ≤ σ110 86 7; omega) (And.intro (by show σ110 86 7 = σ 86 7; omega) (And.intro (by show σ 86 8 ≤ σ110 86 8 ∧ (σ 86 8 < σ110 86 8 ∨ σ110 86 10 ≤ σ 86 10); omega) (And.intro p112 (And.intro (by show σ110 86 12 = 0 → (σ 86 8 < σ110 86 8 ∨ σ110 86 10 ≤ 0); omega) (And.intro (by show σ110 86 12 = 0 → SW σ110 92; intro hf; exact SW_eq (hi37_6 (by omega)) (((ups_r e111 (by omega)).trans (f95 _ _ (by omega)))) (fun j h1 h2 => ((ups_r e111 (by omega)).trans (f95 _ _ (by omega))))) (And.intro (by show σ110 92 4 = σ 92 4 + 1; omega) (And.intro (by show σ110 92 5 = σ 92 5; omega) (fun k j hk => ((ups_r e111 (by omega)).trans ((f95 _ _ (by omega)).trans (hf37 _ _ (by omega))))))))))))))
        · skip
          refine Exists.intro () (And.intro rfl (And.intro (by show σ94 86 8 ≤ σ94 86 7; omega) ?_))
          intro z121 σ123 h122
          have f124 : ∀ k j : Int, ¬ (k = 86) → σ123 k j = σ94 k j := h122.2.2.2.2.2.2
          have h125 : σ123 86 9 ≤ σ123 86 8 := h122.1
          have h126 : σ123 86 8 ≤ σ123 86 7 := h122.2.1
          have h127 : σ123 86 7 = σ94 86 7 := h122.2.2.1
          have h128 : σ94 86 8 ≤ σ123 86 8 ∧ (σ94 86 8 < σ123 86 8 ∨ σ123 86 10 ≤ σ94 86 10) := h122.2.2.2.1
          have h129 : σ123 86 12 = σ94 86 12 := h122.2.2.2.2.1
          have h130 : (σ94 86 8 < σ123 86 8 ∨ σ123 86 10 ≤ 0) := h122.2.2.2.2.2.1
          refine And.intro (by omega) ?_
          intro z131 ez131 hz131
          have hz131 : ((-1) : Int) ≤ z131 ∧ z131 ≤ (1999 : Int) := hz131
          try have t132 : σ123 92 4 = τ37 92 4 := ((f124 _ _ (by omega)).trans (f95 _ _ (by omega)))
          have p133 : BW σ123 92 := BW_fr hi37_4 (fun k j hk => ((f124 _ _ (by omega)).trans (f95 _ _ (by omega))))
          have b134 := wrh_ p133 (i := 4) (by omega)
          have b134 : (0 : Int) ≤ σ123 92 4 ∧ σ123 92 4 ≤ (1300 : Int) := b134
          refine And.intro (by omega) ?_
          refine And.intro (by omega) ?_
          refine And.intro (by show ((-1) : Int) ≤ _ ∧ _ ≤ (1999 : Int); omega) ?_
          intro σ135 e136
          have p137 : BW σ135 92 := wsth_ p133 e136 (by omega) (by have e5 : hdhi_ 4 = 1300 := rfl; omega)
          refine Exists.intro 0 (And.intro rfl ?_)
          try have t138 : σ135 86 9 = σ123 86 9 := (ups_r e136 (by omega))
          try have t139 : σ135 86 8 = σ123 86 8 := (ups_r e136 (by omega))
          try have t140 : σ135 86 7 = σ123 86 7 := (ups_r e136 (by omega))
          try have t141 : σ135 86 10 = σ123 86 10 := (ups_r e136 (by omega))
          try have t142 : σ135 86 12 = σ123 86 12 := (ups_r e136 (by omega))
          try have t143 : σ135 86 11 = σ94 86 11 := ((ups_r e136 (by omega)).trans (f124 _ _ (by omega)))
          have t144 : σ135 92 4 = z131 + 1 := ups_v e136
          try have t145 : σ135 92 5 = τ37 92 5 := ((ups_r e136 (by omega)).trans ((f124 _ _ (by omega)).trans (f95 _ _ (by omega))))
          exact (And.intro (by show σ135 86 9 ≤ σ135 86 8; omega) (And.intro (by show σ135 86 8 ≤ σ135 86 7; omega) (And.intro (by show σ135 86 7 = σ 86 7; omega) (And.intro (by show σ 86 8 ≤ σ135 86 8 ∧ (σ 86 8 < σ135 86 8 ∨ σ135 86 10 ≤ σ 86 10); omega) (And.intro p137 (And.intro (by show σ135 86 12 = 0 → (σ 86 8 < σ135 86 8 ∨ σ135 86 10 ≤ 0); omega) (And.intro (by show σ135 86 12 = 0 → SW σ135 92; intro hf; exact SW_eq (hi37_6 (by omega)) (((ups_r e136 (by omega)).trans ((f124 _ _ (by omega)).trans (f95 _ _ (by omega))))) (fun j h1 h2 => ((ups_r e136 (by omega)).trans ((f124 _ _ (by omega)).trans (f95 _ _ (by omega)))))) (And.intro (by show σ135 92 4 = σ 92 4 + 1; omega) (And.intro (by show σ135 92 5 = σ 92 5; omega) (fun k j hk => ((ups_r e136 (by omega)).trans ((f124 _ _ (by omega)).trans ((f95 _ _ (by omega)).trans (hf37 _ _ (by omega)))))))))))))))
  refine And.intro (by omega) ?_
  intro z146 ez146 hz146
  have hz146 : ((-1) : Int) ≤ z146 ∧ z146 ≤ (1999 : Int) := hz146
  have b147 := wrh_ hp2 (i := 4) (by omega)
  have b147 : (0 : Int) ≤ σ 92 4 ∧ σ 92 4 ≤ (1300 : Int) := b147
  refine And.intro (fun h148 => ?_) (fun h148 => ?_)
  · skip
    refine B rfl ?_
    refine Exists.intro () (And.intro rfl (And.intro (And.intro (by show σ 86 9 ≤ σ 86 8; omega) (And.intro (by show σ 86 8 ≤ σ 86 7; omega) (And.intro hp2 hp3))) ?_))
    intro z149 σ151 h150
    have f152 : ∀ k j : Int, ¬ (k = 86 ∨ k = 92) → σ151 k j = σ k j := h150.2.2.2.2.2.2.2.2
    have h153 : σ151 86 9 ≤ σ151 86 8 := h150.1
    have h154 : σ151 86 8 ≤ σ151 86 7 := h150.2.1
    have h155 : σ151 86 7 = σ 86 7 := h150.2.2.1
    have h156 : σ 86 8 ≤ σ151 86 8 ∧ (σ 86 8 < σ151 86 8 ∨ σ151 86 10 ≤ σ 86 10) := h150.2.2.2.1
    have h157 : BW σ151 92 := h150.2.2.2.2.1
    have h158 : σ151 86 12 = 0 → σ 86 12 = 0 ∧ (σ 86 8 < σ151 86 8 ∨ σ151 86 10 ≤ 0) := h150.2.2.2.2.2.1
    have h159 : σ151 86 12 = 0 → SW σ151 92 := h150.2.2.2.2.2.2.1
    have h160 : ∀ j : Int, j < 6 → j ≠ 1 → j ≠ 2 → j ≠ 3 → σ151 92 j = σ 92 j := h150.2.2.2.2.2.2.2.1
    have hsn : σ151 86 12 = 0 → SW σ151 92 := h150.2.2.2.2.2.2.1
    try have t161 : σ151 86 11 = σ 86 11 := (show σ151 86 11 = σ 86 11 from by first | exact f152 _ _ (by omega) | exact h160 _ (by omega) (by omega) (by omega) (by omega))
    try have t162 : σ151 92 4 = σ 92 4 := (show σ151 92 4 = σ 92 4 from by first | exact f152 _ _ (by omega) | exact h160 _ (by omega) (by omega) (by omega) (by omega))
    try have t163 : σ151 92 5 = σ 92 5 := (show σ151 92 5 = σ 92 5 from by first | exact f152 _ _ (by omega) | exact h160 _ (by omega) (by omega) (by omega) (by omega))
    exact jn_37 σ151 (fun k j hk => (show σ151 k j = σ k j from by first | exact f152 _ _ (by omega) | exact h160 _ (by omega) (by omega) (by omega) (by omega) | (by_cases hka : k = 92; (rw [hka]; exact h160 _ (by omega) (by omega) (by omega) (by omega)); exact f152 _ _ (by omega)))) (by show σ151 86 9 ≤ σ151 86 8; omega) (by show σ151 86 8 ≤ σ151 86 7; omega) (by show σ151 86 7 = σ 86 7; omega) (by show σ 86 8 ≤ σ151 86 8 ∧ (σ 86 8 < σ151 86 8 ∨ σ151 86 10 ≤ σ 86 10); omega) h157 (by show σ151 86 12 = 0 → (σ 86 8 < σ151 86 8 ∨ σ151 86 10 ≤ 0); omega) (by show σ151 86 12 = 0 → SW σ151 92; exact hsn) (by show σ151 92 4 = σ 92 4; omega) (by show σ151 92 5 = σ 92 5; omega)
  · skip
    show WP_ X G Q 0 0 ad SHS_ σ 10 [(42, 86)] [(42, 86)]
    refine so_ldcs (n := 223) (i := 0) (tx := "war") E (eX11_readLine (10, .ldc 223, 2) (List.mem_of_getElem? (i := 6) rfl)) (by decide) ?_
    refine B rfl ?_
    refine Exists.intro 1 (And.intro rfl (And.intro (And.intro (by show σ 86 9 ≤ σ 86 8; omega) (And.intro (by show σ 86 8 ≤ σ 86 7; omega) (by show 1 ≤ 1 ∧ 1 ≤ 14; omega))) ?_))
    intro z164 σ166 h165
    have f167 : ∀ k j : Int, ¬ (k = 86) → σ166 k j = σ k j := h165.2.2.2.2.2
    have h168 : σ166 86 9 ≤ σ166 86 8 := h165.1
    have h169 : σ166 86 8 ≤ σ166 86 7 := h165.2.1
    have h170 : σ166 86 7 = σ 86 7 := h165.2.2.1
    have h171 : σ 86 8 ≤ σ166 86 8 ∧ (σ 86 8 < σ166 86 8 ∨ σ166 86 10 ≤ σ 86 10) := h165.2.2.2.1
    have h172 : σ166 86 12 = 0 → σ 86 12 = 0 ∧ (σ 86 8 < σ166 86 8 ∨ σ166 86 10 ≤ 0) := h165.2.2.2.2.1
    show WP_ X G Q 0 0 ad SHS_ σ166 21 [(42, 86)] [(42, 86), (0, 0), (48, 92)]
    refine so_ldcs (n := 225) (i := 1) (tx := "rain") E (eX11_readLine (21, .ldc 225, 2) (List.mem_of_getElem? (i := 12) rfl)) (by decide) ?_
    refine B rfl ?_
    try have t173 : σ166 86 11 = σ 86 11 := (f167 _ _ (by omega))
    refine Exists.intro (2, 0, 100) (And.intro rfl (And.intro (And.intro (by show σ166 86 9 ≤ σ166 86 8; omega) (And.intro (by show σ166 86 8 ≤ σ166 86 7; omega) (by show 1 ≤ 2 ∧ 2 ≤ 14; omega))) ?_))
    intro z174 σ176 h175
    have f177 : ∀ k j : Int, ¬ (k = 86) → σ176 k j = σ166 k j := h175.2.2.2.2.2
    have h178 : σ176 86 9 ≤ σ176 86 8 := h175.1
    have h179 : σ176 86 8 ≤ σ176 86 7 := h175.2.1
    have h180 : σ176 86 7 = σ166 86 7 := h175.2.2.1
    have h181 : σ166 86 8 ≤ σ176 86 8 ∧ (σ166 86 8 < σ176 86 8 ∨ σ176 86 10 ≤ σ166 86 10) := h175.2.2.2.1
    have h182 : (σ176 86 12 = 0 ∧ σ166 86 12 = 0 ∧ 0 ≤ z174 ∧ z174 ≤ 100 ∧ (σ166 86 8 < σ176 86 8 ∨ σ176 86 10 ≤ 0)) ∨ (σ176 86 12 ≠ 0 ∧ z174 = 0) := h175.2.2.2.2.1
    refine And.intro (by omega) ?_
    refine And.intro (by show ((-1) : Int) ≤ _ ∧ _ ≤ (1999 : Int); omega) ?_
    intro σ183 e184
    have p186 : BW σ176 92 := BW_fr hp2 (fun k j hk => ((f177 _ _ (by omega)).trans (f167 _ _ (by omega))))
    have p185 : BW σ183 92 := wsth_ p186 e184 (by omega) (by have e5 : hdhi_ 0 = 100 := rfl; omega)
    try have t187 : σ183 86 9 = σ176 86 9 := (ups_r e184 (by omega))
    try have t188 : σ183 86 8 = σ176 86 8 := (ups_r e184 (by omega))
    try have t189 : σ183 86 7 = σ176 86 7 := (ups_r e184 (by omega))
    try have t190 : σ183 86 10 = σ176 86 10 := (ups_r e184 (by omega))
    try have t191 : σ183 86 12 = σ176 86 12 := (ups_r e184 (by omega))
    try have t192 : σ183 86 11 = σ166 86 11 := ((ups_r e184 (by omega)).trans (f177 _ _ (by omega)))
    try have t193 : σ183 92 4 = σ 92 4 := ((ups_r e184 (by omega)).trans ((f177 _ _ (by omega)).trans (f167 _ _ (by omega))))
    try have t194 : σ183 92 5 = σ 92 5 := ((ups_r e184 (by omega)).trans ((f177 _ _ (by omega)).trans (f167 _ _ (by omega))))
    exact jn_37 σ183 (fun k j hk => ((ups_r e184 (by omega)).trans ((f177 _ _ (by omega)).trans (f167 _ _ (by omega))))) (by show σ183 86 9 ≤ σ183 86 8; omega) (by show σ183 86 8 ≤ σ183 86 7; omega) (by show σ183 86 7 = σ 86 7; omega) (by show σ 86 8 ≤ σ183 86 8 ∧ (σ 86 8 < σ183 86 8 ∨ σ183 86 10 ≤ σ 86 10); omega) p185 (by show σ183 86 12 = 0 → (σ 86 8 < σ183 86 8 ∨ σ183 86 10 ≤ 0); omega) (by show σ183 86 12 = 0 → SW σ183 92; intro hf; exact SW_eq hp3 (((ups_r e184 (by omega)).trans ((f177 _ _ (by omega)).trans (f167 _ _ (by omega))))) (fun j h1 h2 => ((ups_r e184 (by omega)).trans ((f177 _ _ (by omega)).trans (f167 _ _ (by omega)))))) (by show σ183 92 4 = σ 92 4; omega) (by show σ183 92 5 = σ 92 5; omega)
