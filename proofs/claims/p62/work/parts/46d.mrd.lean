def as_G_X11_readFeast : Unit → List Sv_t := fun a => [(42, 86)]
def pre_G_X11_readFeast : Unit → Me_t → Prop := fun a σ => (σ 86 9 ≤ σ 86 8) ∧ (σ 86 8 ≤ σ 86 7) ∧ (BW σ 92) ∧ (σ 92 2 ≤ 11)
def post_G_X11_readFeast : Unit → Me_t → Int → Me_t → Prop := fun a σ z σ' => (σ' 86 9 ≤ σ' 86 8) ∧ (σ' 86 8 ≤ σ' 86 7) ∧ (σ' 86 7 = σ 86 7) ∧ (σ 86 8 ≤ σ' 86 8 ∧ (σ 86 8 < σ' 86 8 ∨ σ' 86 10 ≤ σ 86 10)) ∧ (BW σ' 92) ∧ (σ' 86 12 = 0 → σ 86 12 = 0) ∧ (∀ j : Int, j < 51 → j ≠ 2 → σ' 92 j = σ 92 j) ∧ (∀ k j : Int, ¬ (k = 86 ∨ k = 92) → σ' k j = σ k j)
set_option maxHeartbeats 3000000 in
set_option maxRecDepth 100000 in
theorem ct_G_X11_readFeast (l : Launch) : CT_ l yX11_readFeast cX11_readFeast 3 none 9 195 as_G_X11_readFeast (rmV_) pre_G_X11_readFeast post_G_X11_readFeast := by
  refine ct_of (by decide) (fun _ => Nat.le_of_ble_eq_true rfl) ?_
  intro X G Q ad σ a hl hR E hG R hM hv hp
  have hp0 : σ 86 9 ≤ σ 86 8 := hp.1
  have hp1 : σ 86 8 ≤ σ 86 7 := hp.2.1
  have hp2 : BW σ 92 := hp.2.2.1
  have hp3 : σ 92 2 ≤ 11 := hp.2.2.2
  have B := @bk_ X G Q 0 0 ad SHS_ RX11 cX11_readFeast 3 none flX11 plX11 knX11 [(402, 1, TR_ as_G_X11_freshLand (rmI_) pre_G_X11_freshLand post_G_X11_freshLand), (354, 3, TR_ as_G_X11_number (rmI_) pre_G_X11_number post_G_X11_number), (370, 4, TR_ as_G_X11_told (rmI_) pre_G_X11_told post_G_X11_told)] _ _ none kX11_readFeast [99] flX11_ok plX11_ok knX11_ok eX11_readFeast oX11_readFeast
    (List.forall_mem_cons.mpr ⟨cok_v (t := 32) (c := 11) (N := 39) (n := 0) (idx := 201) E (ct_G_X11_freshLand X.2.1) (by rw [hR]; decide) (Nat.zero_le _) (Nat.zero_le _) hG rfl rfl ⟨rfl, by decide, by decide, by decide⟩ (fun _ => ⟨_, _, rfl, rfl⟩) wl_X11_201 wi_X11_freshLand ws_X11_freshLand wn_X11 wc_X11_freshLand, List.forall_mem_cons.mpr ⟨cok_v (t := 32) (c := 11) (N := 39) (n := 2) (idx := 177) E (ct_G_X11_number X.2.1) (by rw [hR]; decide) (Nat.zero_le _) (Nat.zero_le _) hG rfl rfl ⟨rfl, by decide, by decide, by decide⟩ (fun _ => ⟨_, _, rfl, rfl⟩) wl_X11_177 wi_X11_number ws_X11_number wn_X11 wc_X11_number, List.forall_mem_cons.mpr ⟨cok_v (t := 32) (c := 11) (N := 39) (n := 3) (idx := 185) E (ct_G_X11_told X.2.1) (by rw [hR]; decide) (Nat.zero_le _) (Nat.zero_le _) hG rfl rfl ⟨rfl, by decide, by decide, by decide⟩ (fun _ => ⟨_, _, rfl, rfl⟩) wl_X11_185 wi_X11_told ws_X11_told wn_X11 wc_X11_told, fun _ h => absurd h List.not_mem_nil⟩⟩⟩) R sok_no E
  show WP_ X G Q 0 0 ad SHS_ σ 0 [(42, 86), (9, 0), (9, 0)] []
  have hb1 := wrh_ hp2 (i := 1) (by omega)
  have hb1 : (0 : Int) ≤ σ 92 1 ∧ σ 92 1 ≤ (3 : Int) := hb1
  refine B rfl ?_
  refine And.intro (by omega) ?_
  intro z1 ez1 hz1
  have hz1 : ((-1) : Int) ≤ z1 ∧ z1 ≤ (1999 : Int) := hz1
  have b2 := wrh_ hp2 (i := 2) (by omega)
  have b2 : (0 : Int) ≤ σ 92 2 ∧ σ 92 2 ≤ (12 : Int) := b2
  refine And.intro (by omega) ?_
  refine And.intro (by omega) ?_
  refine Exists.intro () (And.intro rfl (And.intro (And.intro (by show σ 86 9 ≤ σ 86 8; omega) (And.intro (by show σ 86 8 ≤ σ 86 7; omega) hp2)) ?_))
  intro z3 σ5 h4
  have f6 : ∀ k j : Int, ¬ (k = 86) → σ5 k j = σ k j := h4.2.2.2.2.2
  have h7 : σ5 86 9 ≤ σ5 86 8 := h4.1
  have h8 : σ5 86 8 ≤ σ5 86 7 := h4.2.1
  have h9 : σ5 86 7 = σ 86 7 := h4.2.2.1
  have h10 : σ 86 8 ≤ σ5 86 8 ∧ (σ 86 8 < σ5 86 8 ∨ σ5 86 10 ≤ σ 86 10) := h4.2.2.2.1
  have h11 : (σ5 86 12 = 0 ∧ σ 86 12 = 0 ∧ 0 ≤ z3 ∧ z3 ≤ σ 92 1 - 1 ∧ (σ 86 8 < σ5 86 8 ∨ σ5 86 10 ≤ 0)) ∨ (σ5 86 12 ≠ 0 ∧ z3 = 0) := h4.2.2.2.2.1
  refine And.intro (by omega) ?_
  refine And.intro (by show ((-1) : Int) ≤ _ ∧ _ ≤ (1999 : Int); omega) ?_
  intro σ12 e13
  have p15 : BW σ5 92 := BW_fr hp2 (fun k j hk => (f6 _ _ (by omega)))
  have p14 : BW σ12 92 := wstf_ (c := σ 92 2) (w := 0) p15 e13 (by omega) (by omega) (by omega) (by have e5 : fthi_ 0 = 2 := rfl; omega)
  refine And.intro (by omega) ?_
  intro z16 ez16 hz16
  have hz16 : ((-1) : Int) ≤ z16 ∧ z16 ≤ (1999 : Int) := hz16
  have t17 : σ12 92 (51 + (4 * z1)) = z3 := ups_v e13
  have b18 := wrf_ p14 (x := (51 + (4 * z1))) (c := σ 92 2) (w := 0) (by omega) (by omega) (by omega)
  have eb18 : fthi_ 0 = 2 := rfl
  refine And.intro (by omega) ?_
  refine And.intro (by omega) ?_
  refine And.intro (by omega) ?_
  refine And.intro (by omega) ?_
  refine And.intro (by omega) ?_
  intro z19 ez19 hz19
  have hz19 : ((-1) : Int) ≤ z19 ∧ z19 ≤ (1999 : Int) := hz19
  try have t20 : σ12 92 ((6 + (15 * z16)) + 3) = σ 92 ((6 + (15 * z16)) + 3) := ((ups_r e13 (by omega)).trans (f6 _ _ (by omega)))
  have b21 := wrl_ p14 (x := ((6 + (15 * z16)) + 3)) (l := z16) (w := 3) (by omega) (by omega) (by omega)
  have eb21 : ldhi_ 3 = 8 := rfl
  refine And.intro (by omega) ?_
  try have t22 : σ12 86 12 = σ5 86 12 := (ups_r e13 (by omega))
  try have t23 : σ12 86 10 = σ5 86 10 := (ups_r e13 (by omega))
  try have t24 : σ12 86 8 = σ5 86 8 := (ups_r e13 (by omega))
  try have t25 : σ12 86 11 = σ 86 11 := ((ups_r e13 (by omega)).trans (f6 _ _ (by omega)))
  try have t26 : σ12 86 9 = σ5 86 9 := (ups_r e13 (by omega))
  try have t27 : σ12 86 7 = σ5 86 7 := (ups_r e13 (by omega))
  refine Exists.intro (0, z19 - 1) (And.intro rfl (And.intro (And.intro (by show σ12 86 9 ≤ σ12 86 8; omega) (by show σ12 86 8 ≤ σ12 86 7; omega)) ?_))
  intro z28 σ30 h29
  have f31 : ∀ k j : Int, ¬ (k = 86) → σ30 k j = σ12 k j := h29.2.2.2.2.2
  have h32 : σ30 86 9 ≤ σ30 86 8 := h29.1
  have h33 : σ30 86 8 ≤ σ30 86 7 := h29.2.1
  have h34 : σ30 86 7 = σ12 86 7 := h29.2.2.1
  have h35 : σ12 86 8 ≤ σ30 86 8 ∧ (σ12 86 8 < σ30 86 8 ∨ σ30 86 10 ≤ σ12 86 10) := h29.2.2.2.1
  have h36 : (σ30 86 12 = 0 ∧ σ12 86 12 = 0 ∧ 0 ≤ z28 ∧ z28 ≤ (z19 - 1) ∧ σ12 86 10 = 2 ∧ z28 = σ12 86 11 ∧ (σ12 86 8 < σ30 86 8 ∨ σ30 86 10 ≤ 0)) ∨ (σ30 86 12 ≠ 0 ∧ z28 = 0) := h29.2.2.2.2.1
  refine And.intro (by omega) ?_
  refine And.intro (by show ((-1) : Int) ≤ _ ∧ _ ≤ (1999 : Int); omega) ?_
  intro σ37 e38
  have p40 : BW σ30 92 := BW_fr p14 (fun k j hk => (f31 _ _ (by omega)))
  have p39 : BW σ37 92 := wstf_ (c := σ 92 2) (w := 1) p40 e38 (by omega) (by omega) (by omega) (by have e5 : fthi_ 1 = 7 := rfl; omega)
  refine And.intro (by omega) ?_
  refine And.intro (by omega) ?_
  refine And.intro (by omega) ?_
  refine And.intro (by omega) ?_
  intro z41 ez41 hz41
  have hz41 : ((-1) : Int) ≤ z41 ∧ z41 ≤ (1999 : Int) := hz41
  have t42 : σ37 92 ((51 + (4 * z1)) + 1) = z28 := ups_v e38
  have b43 := wrf_ p39 (x := ((51 + (4 * z1)) + 1)) (c := σ 92 2) (w := 1) (by omega) (by omega) (by omega)
  have eb43 : fthi_ 1 = 7 := rfl
  refine And.intro (by omega) ?_
  refine And.intro (by omega) ?_
  intro z44 ez44 hz44
  have hz44 : ((-1) : Int) ≤ z44 ∧ z44 ≤ (1999 : Int) := hz44
  try have t45 : σ37 92 (((6 + (15 * z16)) + 7) + z41) = σ 92 (((6 + (15 * z16)) + 7) + z41) := ((ups_r e38 (by omega)).trans ((f31 _ _ (by omega)).trans ((ups_r e13 (by omega)).trans (f6 _ _ (by omega)))))
  have b46 := wrl_ p39 (x := (((6 + (15 * z16)) + 7) + z41)) (l := z16) (w := (((6 + (15 * z16)) + 7) + z41) - (6 + 15 * z16)) (by omega) (by omega) (by omega)
  have eb46 := ld_len (w := (((6 + (15 * z16)) + 7) + z41) - (6 + 15 * z16)) (by omega)
  refine And.intro (by omega) ?_
  try have t47 : σ37 86 12 = σ30 86 12 := (ups_r e38 (by omega))
  try have t48 : σ37 86 10 = σ30 86 10 := (ups_r e38 (by omega))
  try have t49 : σ37 86 8 = σ30 86 8 := (ups_r e38 (by omega))
  try have t50 : σ37 86 11 = σ12 86 11 := ((ups_r e38 (by omega)).trans (f31 _ _ (by omega)))
  try have t51 : σ37 86 9 = σ30 86 9 := (ups_r e38 (by omega))
  try have t52 : σ37 86 7 = σ30 86 7 := (ups_r e38 (by omega))
  refine Exists.intro (0, z44 - 1) (And.intro rfl (And.intro (And.intro (by show σ37 86 9 ≤ σ37 86 8; omega) (by show σ37 86 8 ≤ σ37 86 7; omega)) ?_))
  intro z53 σ55 h54
  have f56 : ∀ k j : Int, ¬ (k = 86) → σ55 k j = σ37 k j := h54.2.2.2.2.2
  have h57 : σ55 86 9 ≤ σ55 86 8 := h54.1
  have h58 : σ55 86 8 ≤ σ55 86 7 := h54.2.1
  have h59 : σ55 86 7 = σ37 86 7 := h54.2.2.1
  have h60 : σ37 86 8 ≤ σ55 86 8 ∧ (σ37 86 8 < σ55 86 8 ∨ σ55 86 10 ≤ σ37 86 10) := h54.2.2.2.1
  have h61 : (σ55 86 12 = 0 ∧ σ37 86 12 = 0 ∧ 0 ≤ z53 ∧ z53 ≤ (z44 - 1) ∧ σ37 86 10 = 2 ∧ z53 = σ37 86 11 ∧ (σ37 86 8 < σ55 86 8 ∨ σ55 86 10 ≤ 0)) ∨ (σ55 86 12 ≠ 0 ∧ z53 = 0) := h54.2.2.2.2.1
  refine And.intro (by omega) ?_
  refine And.intro (by show ((-1) : Int) ≤ _ ∧ _ ≤ (1999 : Int); omega) ?_
  intro σ62 e63
  have p65 : BW σ55 92 := BW_fr p39 (fun k j hk => (f56 _ _ (by omega)))
  have p64 : BW σ62 92 := wstf_ (c := σ 92 2) (w := 2) p65 e63 (by omega) (by omega) (by omega) (by have e5 : fthi_ 2 = 59 := rfl; omega)
  refine And.intro (by omega) ?_
  show WP_ X G Q 0 0 ad SHS_ σ62 99 [(42, 86), (0, 51 + (4 * z1)), (0, 6 + (15 * z16))] [(42, 86), (0, (51 + (4 * z1)) + 3), (48, 92)]
  refine so_ldcs (n := 204) (i := 11) (tx := "for") E (eX11_readFeast (99, .ldc 204, 2) (List.mem_of_getElem? (i := 71) rfl)) (by decide) ?_
  refine B rfl ?_
  try have t66 : σ62 86 12 = σ55 86 12 := (ups_r e63 (by omega))
  try have t67 : σ62 86 10 = σ55 86 10 := (ups_r e63 (by omega))
  try have t68 : σ62 86 8 = σ55 86 8 := (ups_r e63 (by omega))
  try have t69 : σ62 86 11 = σ37 86 11 := ((ups_r e63 (by omega)).trans (f56 _ _ (by omega)))
  try have t70 : σ62 86 9 = σ55 86 9 := (ups_r e63 (by omega))
  try have t71 : σ62 86 7 = σ55 86 7 := (ups_r e63 (by omega))
  refine Exists.intro (12, 1, 9) (And.intro rfl (And.intro (And.intro (by show σ62 86 9 ≤ σ62 86 8; omega) (And.intro (by show σ62 86 8 ≤ σ62 86 7; omega) (by show 1 ≤ 12 ∧ 12 ≤ 14; omega))) ?_))
  intro z72 σ74 h73
  have f75 : ∀ k j : Int, ¬ (k = 86) → σ74 k j = σ62 k j := h73.2.2.2.2.2
  have h76 : σ74 86 9 ≤ σ74 86 8 := h73.1
  have h77 : σ74 86 8 ≤ σ74 86 7 := h73.2.1
  have h78 : σ74 86 7 = σ62 86 7 := h73.2.2.1
  have h79 : σ62 86 8 ≤ σ74 86 8 ∧ (σ62 86 8 < σ74 86 8 ∨ σ74 86 10 ≤ σ62 86 10) := h73.2.2.2.1
  have h80 : (σ74 86 12 = 0 ∧ σ62 86 12 = 0 ∧ 1 ≤ z72 ∧ z72 ≤ 9 ∧ (σ62 86 8 < σ74 86 8 ∨ σ74 86 10 ≤ 0)) ∨ (σ74 86 12 ≠ 0 ∧ z72 = 0) := h73.2.2.2.2.1
  refine And.intro (by omega) ?_
  refine And.intro (by show ((-1) : Int) ≤ _ ∧ _ ≤ (1999 : Int); omega) ?_
  intro σ81 e82
  have p84 : BW σ74 92 := BW_fr p64 (fun k j hk => (f75 _ _ (by omega)))
  have p83 : BW σ81 92 := wstf_ (c := σ 92 2) (w := 3) p84 e82 (by omega) (by omega) (by omega) (by have e5 : fthi_ 3 = 9 := rfl; omega)
  refine And.intro (by omega) ?_
  intro z85 ez85 hz85
  have hz85 : ((-1) : Int) ≤ z85 ∧ z85 ≤ (1999 : Int) := hz85
  try have t86 : σ81 92 2 = σ 92 2 := ((ups_r e82 (by omega)).trans ((f75 _ _ (by omega)).trans ((ups_r e63 (by omega)).trans ((f56 _ _ (by omega)).trans ((ups_r e38 (by omega)).trans ((f31 _ _ (by omega)).trans ((ups_r e13 (by omega)).trans (f6 _ _ (by omega)))))))))
  have b87 := wrh_ p83 (i := 2) (by omega)
  have b87 : (0 : Int) ≤ σ81 92 2 ∧ σ81 92 2 ≤ (12 : Int) := b87
  refine And.intro (by omega) ?_
  refine And.intro (by omega) ?_
  refine And.intro (by show ((-1) : Int) ≤ _ ∧ _ ≤ (1999 : Int); omega) ?_
  intro σ88 e89
  have p90 : BW σ88 92 := wsth_ p83 e89 (by omega) (by have e5 : hdhi_ 2 = 12 := rfl; omega)
  refine Exists.intro 0 (And.intro rfl ?_)
  try have t91 : σ88 86 9 = σ74 86 9 := ((ups_r e89 (by omega)).trans (ups_r e82 (by omega)))
  try have t92 : σ88 86 8 = σ74 86 8 := ((ups_r e89 (by omega)).trans (ups_r e82 (by omega)))
  try have t93 : σ88 86 7 = σ74 86 7 := ((ups_r e89 (by omega)).trans (ups_r e82 (by omega)))
  try have t94 : σ88 86 10 = σ74 86 10 := ((ups_r e89 (by omega)).trans (ups_r e82 (by omega)))
  try have t95 : σ88 86 12 = σ74 86 12 := ((ups_r e89 (by omega)).trans (ups_r e82 (by omega)))
  exact (And.intro (by show σ88 86 9 ≤ σ88 86 8; omega) (And.intro (by show σ88 86 8 ≤ σ88 86 7; omega) (And.intro (by show σ88 86 7 = σ 86 7; omega) (And.intro (by show σ 86 8 ≤ σ88 86 8 ∧ (σ 86 8 < σ88 86 8 ∨ σ88 86 10 ≤ σ 86 10); omega) (And.intro p90 (And.intro (by show σ88 86 12 = 0 → σ 86 12 = 0; omega) (And.intro (by show ∀ j : Int, j < 51 → j ≠ 2 → σ88 92 j = σ 92 j; intro j hj0 hj1; exact ((ups_r e89 (by omega)).trans ((ups_r e82 (by omega)).trans ((f75 _ _ (by omega)).trans ((ups_r e63 (by omega)).trans ((f56 _ _ (by omega)).trans ((ups_r e38 (by omega)).trans ((f31 _ _ (by omega)).trans ((ups_r e13 (by omega)).trans (f6 _ _ (by omega))))))))))) (fun k j hk => ((ups_r e89 (by omega)).trans ((ups_r e82 (by omega)).trans ((f75 _ _ (by omega)).trans ((ups_r e63 (by omega)).trans ((f56 _ _ (by omega)).trans ((ups_r e38 (by omega)).trans ((f31 _ _ (by omega)).trans ((ups_r e13 (by omega)).trans (f6 _ _ (by omega))))))))))))))))))
def as_G_X11_readTruce : Unit → List Sv_t := fun a => [(42, 86)]
def pre_G_X11_readTruce : Unit → Me_t → Prop := fun a σ => (σ 86 9 ≤ σ 86 8) ∧ (σ 86 8 ≤ σ 86 7) ∧ (BW σ 92) ∧ (σ 92 3 ≤ 11)
def post_G_X11_readTruce : Unit → Me_t → Int → Me_t → Prop := fun a σ z σ' => (σ' 86 9 ≤ σ' 86 8) ∧ (σ' 86 8 ≤ σ' 86 7) ∧ (σ' 86 7 = σ 86 7) ∧ (σ 86 8 ≤ σ' 86 8 ∧ (σ 86 8 < σ' 86 8 ∨ σ' 86 10 ≤ σ 86 10)) ∧ (BW σ' 92) ∧ (σ' 86 12 = 0 → σ 86 12 = 0) ∧ (∀ j : Int, j < 51 → j ≠ 3 → σ' 92 j = σ 92 j) ∧ (∀ k j : Int, ¬ (k = 86 ∨ k = 92) → σ' k j = σ k j)
set_option maxHeartbeats 3000000 in
set_option maxRecDepth 100000 in
theorem ct_G_X11_readTruce (l : Launch) : CT_ l yX11_readTruce cX11_readTruce 2 none 9 195 as_G_X11_readTruce (rmV_) pre_G_X11_readTruce post_G_X11_readTruce := by
  refine ct_of (by decide) (fun _ => Nat.le_of_ble_eq_true rfl) ?_
  intro X G Q ad σ a hl hR E hG R hM hv hp
  have hp0 : σ 86 9 ≤ σ 86 8 := hp.1
  have hp1 : σ 86 8 ≤ σ 86 7 := hp.2.1
  have hp2 : BW σ 92 := hp.2.2.1
  have hp3 : σ 92 3 ≤ 11 := hp.2.2.2
  have B := @bk_ X G Q 0 0 ad SHS_ RX11 cX11_readTruce 2 none flX11 plX11 knX11 [(402, 1, TR_ as_G_X11_freshLand (rmI_) pre_G_X11_freshLand post_G_X11_freshLand), (370, 4, TR_ as_G_X11_told (rmI_) pre_G_X11_told post_G_X11_told)] _ _ none kX11_readTruce [30, 48] flX11_ok plX11_ok knX11_ok eX11_readTruce oX11_readTruce
    (List.forall_mem_cons.mpr ⟨cok_v (t := 32) (c := 11) (N := 39) (n := 0) (idx := 201) E (ct_G_X11_freshLand X.2.1) (by rw [hR]; decide) (Nat.zero_le _) (Nat.zero_le _) hG rfl rfl ⟨rfl, by decide, by decide, by decide⟩ (fun _ => ⟨_, _, rfl, rfl⟩) wl_X11_201 wi_X11_freshLand ws_X11_freshLand wn_X11 wc_X11_freshLand, List.forall_mem_cons.mpr ⟨cok_v (t := 32) (c := 11) (N := 39) (n := 3) (idx := 185) E (ct_G_X11_told X.2.1) (by rw [hR]; decide) (Nat.zero_le _) (Nat.zero_le _) hG rfl rfl ⟨rfl, by decide, by decide, by decide⟩ (fun _ => ⟨_, _, rfl, rfl⟩) wl_X11_185 wi_X11_told ws_X11_told wn_X11 wc_X11_told, fun _ h => absurd h List.not_mem_nil⟩⟩) R sok_no E
  show WP_ X G Q 0 0 ad SHS_ σ 0 [(42, 86), (9, 0)] []
  have hb1 := wrh_ hp2 (i := 1) (by omega)
  have hb1 : (0 : Int) ≤ σ 92 1 ∧ σ 92 1 ≤ (3 : Int) := hb1
  refine B rfl ?_
  refine And.intro (by omega) ?_
  intro z1 ez1 hz1
  have hz1 : ((-1) : Int) ≤ z1 ∧ z1 ≤ (1999 : Int) := hz1
  have b2 := wrh_ hp2 (i := 3) (by omega)
  have b2 : (0 : Int) ≤ σ 92 3 ∧ σ 92 3 ≤ (12 : Int) := b2
  refine And.intro (by omega) ?_
  refine And.intro (by omega) ?_
  refine Exists.intro () (And.intro rfl (And.intro (And.intro (by show σ 86 9 ≤ σ 86 8; omega) (And.intro (by show σ 86 8 ≤ σ 86 7; omega) hp2)) ?_))
  intro z3 σ5 h4
  have f6 : ∀ k j : Int, ¬ (k = 86) → σ5 k j = σ k j := h4.2.2.2.2.2
  have h7 : σ5 86 9 ≤ σ5 86 8 := h4.1
  have h8 : σ5 86 8 ≤ σ5 86 7 := h4.2.1
  have h9 : σ5 86 7 = σ 86 7 := h4.2.2.1
  have h10 : σ 86 8 ≤ σ5 86 8 ∧ (σ 86 8 < σ5 86 8 ∨ σ5 86 10 ≤ σ 86 10) := h4.2.2.2.1
  have h11 : (σ5 86 12 = 0 ∧ σ 86 12 = 0 ∧ 0 ≤ z3 ∧ z3 ≤ σ 92 1 - 1 ∧ (σ 86 8 < σ5 86 8 ∨ σ5 86 10 ≤ 0)) ∨ (σ5 86 12 ≠ 0 ∧ z3 = 0) := h4.2.2.2.2.1
  refine And.intro (by omega) ?_
  refine And.intro (by show ((-1) : Int) ≤ _ ∧ _ ≤ (1999 : Int); omega) ?_
  intro σ12 e13
  have p15 : BW σ5 92 := BW_fr hp2 (fun k j hk => (f6 _ _ (by omega)))
  have p14 : BW σ12 92 := wstt_ (c := σ 92 3) (w := 0) p15 e13 (by omega) (by omega) (by omega) (by have e5 : tchi_ 0 = 2 := rfl; omega)
  refine And.intro (by omega) ?_
  show WP_ X G Q 0 0 ad SHS_ σ12 30 [(42, 86), (0, 99 + (3 * z1))] [(42, 86), (0, (99 + (3 * z1)) + 1), (48, 92)]
  refine so_ldcs (n := 184) (i := 3) (tx := "from") E (eX11_readTruce (30, .ldc 184, 2) (List.mem_of_getElem? (i := 21) rfl)) (by decide) ?_
  refine B rfl ?_
  try have t16 : σ12 86 12 = σ5 86 12 := (ups_r e13 (by omega))
  try have t17 : σ12 86 10 = σ5 86 10 := (ups_r e13 (by omega))
  try have t18 : σ12 86 8 = σ5 86 8 := (ups_r e13 (by omega))
  try have t19 : σ12 86 11 = σ 86 11 := ((ups_r e13 (by omega)).trans (f6 _ _ (by omega)))
  try have t20 : σ12 86 9 = σ5 86 9 := (ups_r e13 (by omega))
  try have t21 : σ12 86 7 = σ5 86 7 := (ups_r e13 (by omega))
  refine Exists.intro (4, 0, 1999) (And.intro rfl (And.intro (And.intro (by show σ12 86 9 ≤ σ12 86 8; omega) (And.intro (by show σ12 86 8 ≤ σ12 86 7; omega) (by show 1 ≤ 4 ∧ 4 ≤ 14; omega))) ?_))
  intro z22 σ24 h23
  have f25 : ∀ k j : Int, ¬ (k = 86) → σ24 k j = σ12 k j := h23.2.2.2.2.2
  have h26 : σ24 86 9 ≤ σ24 86 8 := h23.1
  have h27 : σ24 86 8 ≤ σ24 86 7 := h23.2.1
  have h28 : σ24 86 7 = σ12 86 7 := h23.2.2.1
  have h29 : σ12 86 8 ≤ σ24 86 8 ∧ (σ12 86 8 < σ24 86 8 ∨ σ24 86 10 ≤ σ12 86 10) := h23.2.2.2.1
  have h30 : (σ24 86 12 = 0 ∧ σ12 86 12 = 0 ∧ 0 ≤ z22 ∧ z22 ≤ 1999 ∧ (σ12 86 8 < σ24 86 8 ∨ σ24 86 10 ≤ 0)) ∨ (σ24 86 12 ≠ 0 ∧ z22 = 0) := h23.2.2.2.2.1
  refine And.intro (by omega) ?_
  refine And.intro (by show ((-1) : Int) ≤ _ ∧ _ ≤ (1999 : Int); omega) ?_
  intro σ31 e32
  have p34 : BW σ24 92 := BW_fr p14 (fun k j hk => (f25 _ _ (by omega)))
  have p33 : BW σ31 92 := wstt_ (c := σ 92 3) (w := 1) p34 e32 (by omega) (by omega) (by omega) (by have e5 : tchi_ 1 = 1999 := rfl; omega)
  refine And.intro (by omega) ?_
  show WP_ X G Q 0 0 ad SHS_ σ31 48 [(42, 86), (0, 99 + (3 * z1))] [(42, 86), (0, (99 + (3 * z1)) + 2), (48, 92)]
  refine so_ldcs (n := 206) (i := 13) (tx := "to") E (eX11_readTruce (48, .ldc 206, 2) (List.mem_of_getElem? (i := 32) rfl)) (by decide) ?_
  refine B rfl ?_
  refine And.intro (by omega) ?_
  refine And.intro (by omega) ?_
  intro z35 ez35 hz35
  have hz35 : ((-1) : Int) ≤ z35 ∧ z35 ≤ (1999 : Int) := hz35
  have t36 : σ31 92 ((99 + (3 * z1)) + 1) = z22 := ups_v e32
  have b37 := wrt_ p33 (x := ((99 + (3 * z1)) + 1)) (c := σ 92 3) (w := 1) (by omega) (by omega) (by omega)
  have eb37 : tchi_ 1 = 1999 := rfl
  try have t38 : σ31 86 12 = σ24 86 12 := (ups_r e32 (by omega))
  try have t39 : σ31 86 10 = σ24 86 10 := (ups_r e32 (by omega))
  try have t40 : σ31 86 8 = σ24 86 8 := (ups_r e32 (by omega))
  try have t41 : σ31 86 11 = σ12 86 11 := ((ups_r e32 (by omega)).trans (f25 _ _ (by omega)))
  try have t42 : σ31 86 9 = σ24 86 9 := (ups_r e32 (by omega))
  try have t43 : σ31 86 7 = σ24 86 7 := (ups_r e32 (by omega))
  refine Exists.intro (14, z35, 1999) (And.intro rfl (And.intro (And.intro (by show σ31 86 9 ≤ σ31 86 8; omega) (And.intro (by show σ31 86 8 ≤ σ31 86 7; omega) (by show 1 ≤ 14 ∧ 14 ≤ 14; omega))) ?_))
  intro z44 σ46 h45
  have f47 : ∀ k j : Int, ¬ (k = 86) → σ46 k j = σ31 k j := h45.2.2.2.2.2
  have h48 : σ46 86 9 ≤ σ46 86 8 := h45.1
  have h49 : σ46 86 8 ≤ σ46 86 7 := h45.2.1
  have h50 : σ46 86 7 = σ31 86 7 := h45.2.2.1
  have h51 : σ31 86 8 ≤ σ46 86 8 ∧ (σ31 86 8 < σ46 86 8 ∨ σ46 86 10 ≤ σ31 86 10) := h45.2.2.2.1
  have h52 : (σ46 86 12 = 0 ∧ σ31 86 12 = 0 ∧ z35 ≤ z44 ∧ z44 ≤ 1999 ∧ (σ31 86 8 < σ46 86 8 ∨ σ46 86 10 ≤ 0)) ∨ (σ46 86 12 ≠ 0 ∧ z44 = 0) := h45.2.2.2.2.1
  refine And.intro (by omega) ?_
  refine And.intro (by show ((-1) : Int) ≤ _ ∧ _ ≤ (1999 : Int); omega) ?_
  intro σ53 e54
  have p56 : BW σ46 92 := BW_fr p33 (fun k j hk => (f47 _ _ (by omega)))
  have p55 : BW σ53 92 := wstt_ (c := σ 92 3) (w := 2) p56 e54 (by omega) (by omega) (by omega) (by have e5 : tchi_ 2 = 1999 := rfl; omega)
  refine And.intro (by omega) ?_
  intro z57 ez57 hz57
  have hz57 : ((-1) : Int) ≤ z57 ∧ z57 ≤ (1999 : Int) := hz57
  try have t58 : σ53 92 3 = σ 92 3 := ((ups_r e54 (by omega)).trans ((f47 _ _ (by omega)).trans ((ups_r e32 (by omega)).trans ((f25 _ _ (by omega)).trans ((ups_r e13 (by omega)).trans (f6 _ _ (by omega)))))))
  have b59 := wrh_ p55 (i := 3) (by omega)
  have b59 : (0 : Int) ≤ σ53 92 3 ∧ σ53 92 3 ≤ (12 : Int) := b59
  refine And.intro (by omega) ?_
  refine And.intro (by omega) ?_
  refine And.intro (by show ((-1) : Int) ≤ _ ∧ _ ≤ (1999 : Int); omega) ?_
  intro σ60 e61
  have p62 : BW σ60 92 := wsth_ p55 e61 (by omega) (by have e5 : hdhi_ 3 = 12 := rfl; omega)
  refine Exists.intro 0 (And.intro rfl ?_)
  try have t63 : σ60 86 9 = σ46 86 9 := ((ups_r e61 (by omega)).trans (ups_r e54 (by omega)))
  try have t64 : σ60 86 8 = σ46 86 8 := ((ups_r e61 (by omega)).trans (ups_r e54 (by omega)))
  try have t65 : σ60 86 7 = σ46 86 7 := ((ups_r e61 (by omega)).trans (ups_r e54 (by omega)))
  try have t66 : σ60 86 10 = σ46 86 10 := ((ups_r e61 (by omega)).trans (ups_r e54 (by omega)))
  try have t67 : σ60 86 12 = σ46 86 12 := ((ups_r e61 (by omega)).trans (ups_r e54 (by omega)))
  exact (And.intro (by show σ60 86 9 ≤ σ60 86 8; omega) (And.intro (by show σ60 86 8 ≤ σ60 86 7; omega) (And.intro (by show σ60 86 7 = σ 86 7; omega) (And.intro (by show σ 86 8 ≤ σ60 86 8 ∧ (σ 86 8 < σ60 86 8 ∨ σ60 86 10 ≤ σ 86 10); omega) (And.intro p62 (And.intro (by show σ60 86 12 = 0 → σ 86 12 = 0; omega) (And.intro (by show ∀ j : Int, j < 51 → j ≠ 3 → σ60 92 j = σ 92 j; intro j hj0 hj1; exact ((ups_r e61 (by omega)).trans ((ups_r e54 (by omega)).trans ((f47 _ _ (by omega)).trans ((ups_r e32 (by omega)).trans ((f25 _ _ (by omega)).trans ((ups_r e13 (by omega)).trans (f6 _ _ (by omega))))))))) (fun k j hk => ((ups_r e61 (by omega)).trans ((ups_r e54 (by omega)).trans ((f47 _ _ (by omega)).trans ((ups_r e32 (by omega)).trans ((f25 _ _ (by omega)).trans ((ups_r e13 (by omega)).trans (f6 _ _ (by omega))))))))))))))))
