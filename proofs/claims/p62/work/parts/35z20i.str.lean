theorem st_ck (l : Launch) {cs : Nat → Nat} {A : Nat → Prop} {k n : Int32} (h0 : ¬ k < 0) (h1 : k < n) : Met l yJ0_checkIndex_df160 (.code yJ0_checkIndex_df160 cJ0_checkIndex_df160 2 none :: gl_) { frames := 1, cells := 0, slots := 0, locals := 22 } (PS_ cs A #[.int k, .int n]) (QS_ none) 0 0 (fun _ => False) := by
  refine st_of (vs := [.int k, .int n]) (P := (XS_ cs A)) (by decide) (Nat.le_of_ble_eq_true rfl) ?_
  intro p e s m below meth c ls Q hx hb hml hown hg hret hlocks hl hX hQ
  have hown : s.vm.findClass RJ0 = some m.cls := hown
  obtain ⟨-, -, -, hZ⟩ := id hX
  have hrf : va_S A s.heap s.heap [] := va_S.rf
  have hl : lv_has ls 2 [(0, .int k), (1, .int n)] := hl
  refine lv_iload_n hx hb (eJ0_checkIndex_df160 (0, .iload_n 0, 1) (List.mem_of_getElem? (i := 0) rfl)) rfl (lv_at hl 0 rfl) ?_
  refine lv_iload_n hx hb (eJ0_checkIndex_df160 (1, .iload_n 1, 1) (List.mem_of_getElem? (i := 1) rfl)) rfl (lv_at hl 1 rfl) ?_
  rcases hZ with hZ | ⟨t, hZ⟩
  · refine va_gets (cc := cJ0_checkIndex_df160) hx hb hZ hrf hown (hg _ wfs_1053) (fun _ h => h) (eJ0_checkIndex_df160 (2, .getstatic 1053, 3) (List.mem_of_getElem? (i := 2) rfl)) ?_
    refine runQ_ (va_runS (As := [.int k, .int n, .null]) (rest := []) ⟨hx, hb, hml, hown, hg⟩ (st_ck3n l h0 h1) ⟨callB_of 3 hg (gin_ (ws := [Cond.code yJ3_checkIndex_8e157 cJ3_checkIndex_8e157 3 (some .int)]) (fun w hw => by
      simp only [List.mem_cons, List.not_mem_nil, or_false] at hw
      subst hw; exact wc_J3_checkIndex_8e157)) rfl rfl rfl (hg _ wn_J3) (hg _ wl_J0_1059) ⟨by decide, by decide, by decide⟩ (by decide), hg _ wt_J3_checkIndex_8e157⟩ ⟨psb_, fun U hU hW => ⟨rfl, XS_move hX hrf hU hW (fun _ h => h)⟩⟩ rfl rfl hl.1 rfl (Nat.le_of_ble_eq_true rfl) (eJ0_checkIndex_df160 (5, .invokestatic 1059, 3) (List.mem_of_getElem? (i := 3) rfl)) (by decide)) ?_
    show W p l e _ s m _ below meth c s.heap [] 0 0 Q (F0 m 8 ls [.int k])
    refine lv_pop hx hb (eJ0_checkIndex_df160 (8, .pop, 1) (List.mem_of_getElem? (i := 4) rfl)) rfl ?_
    subst hQ
    exact W.vret hx hb hret (fun t ht hW => ⟨rfl, ht⟩) (fun _ h => absurd h List.not_mem_nil) (eJ0_checkIndex_df160 (9, .return_, 1) (List.mem_of_getElem? (i := 5) rfl))
  · refine va_gets (cc := cJ0_checkIndex_df160) hx hb hZ hrf hown (hg _ wfs_1053) (fun _ h => h) (eJ0_checkIndex_df160 (2, .getstatic 1053, 3) (List.mem_of_getElem? (i := 2) rfl)) ?_
    refine runQ_ (va_runS (As := [.int k, .int n, .ref t]) (rest := []) ⟨hx, hb, hml, hown, hg⟩ (st_ck3r l h0 h1) ⟨callB_of 3 hg (gin_ (ws := [Cond.code yJ3_checkIndex_8e157 cJ3_checkIndex_8e157 3 (some .int)]) (fun w hw => by
      simp only [List.mem_cons, List.not_mem_nil, or_false] at hw
      subst hw; exact wc_J3_checkIndex_8e157)) rfl rfl rfl (hg _ wn_J3) (hg _ wl_J0_1059) ⟨by decide, by decide, by decide⟩ (by decide), hg _ wt_J3_checkIndex_8e157⟩ ⟨psb_, fun U hU hW => ⟨rfl, XS_move hX hrf hU hW (fun _ h => h)⟩⟩ rfl rfl hl.1 rfl (Nat.le_of_ble_eq_true rfl) (eJ0_checkIndex_df160 (5, .invokestatic 1059, 3) (List.mem_of_getElem? (i := 3) rfl)) (by decide)) ?_
    show W p l e _ s m _ below meth c s.heap [] 0 0 Q (F0 m 8 ls [.int k])
    refine lv_pop hx hb (eJ0_checkIndex_df160 (8, .pop, 1) (List.mem_of_getElem? (i := 4) rfl)) rfl ?_
    subst hQ
    exact W.vret hx hb hret (fun t ht hW => ⟨rfl, ht⟩) (fun _ h => absurd h List.not_mem_nil) (eJ0_checkIndex_df160 (9, .return_, 1) (List.mem_of_getElem? (i := 5) rfl))
