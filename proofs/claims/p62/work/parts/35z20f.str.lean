theorem st_len (l : Launch) {cs : Nat → Nat} {A : Nat → Prop} {i : Nat} (hi : i < 14) : Met l yJ0_length_8abf5 (.code yJ0_length_8abf5 cJ0_length_8abf5 1 (some .int) :: gl_) { frames := 1, cells := 0, slots := 0, locals := 20 } (PS_ cs A #[.ref (cs (i + 1))]) (QS_ (some (.int (Int32.ofNat (lenS_.getD i 0))))) 0 0 (fun _ => False) := by
  refine st_of (vs := [.ref (cs (i + 1))]) (P := (XS_ cs A)) (by decide) (Nat.le_of_ble_eq_true rfl) ?_
  intro p e s m below meth c ls Q hx hb hml hown hg hret hlocks hl hX hQ
  have hown : s.vm.findClass RJ0 = some m.cls := hown
  obtain ⟨⟨adV, hS⟩, -, hZ, -⟩ := id hX
  have hrf : va_S A s.heap s.heap [] := va_S.rf
  have hl : lv_has ls 1 [(0, .ref (cs (i + 1)))] := hl
  refine lv_aload_n hx hb (eJ0_length_8abf5 (0, .aload_n 0, 1) (List.mem_of_getElem? (i := 0) rfl)) rfl (lv_at hl 0 rfl) ?_
  refine vk_getf hx hb (hS.1 i hi).2.2.1 hrf hown (hg _ wfs_9) (fun _ h => h) (eJ0_length_8abf5 (1, .getfield 9, 3) (List.mem_of_getElem? (i := 1) rfl)) ?_
  refine va_tlen (v := Int32.ofNat (lenS_.getD i 0)) hx hb (hS.1 i hi).2.2.2 hrf rfl (eJ0_length_8abf5 (4, .arraylength, 1) (List.mem_of_getElem? (i := 2) rfl)) ?_
  refine lv_aload_n hx hb (eJ0_length_8abf5 (5, .aload_n 0, 1) (List.mem_of_getElem? (i := 3) rfl)) rfl (lv_at hl 0 rfl) ?_
  refine runQ_ (va_runV (As := []) (rest := [.int (Int32.ofNat (lenS_.getD i 0))]) (b := cs (i + 1)) (C := RJ0) ⟨hx, hb, hml, hown, hg⟩ (st_coder l hi) (cwV 0 hg (by
      have := gin_ (ws := [Cond.methodLink RJ0 335 yJ0_coder_7d493, Cond.instanceMethod yJ0_coder_7d493, Cond.selects RJ0 yJ0_coder_7d493 yJ0_coder_7d493, Cond.initialized RJ0, Cond.code yJ0_coder_7d493 cJ0_coder_7d493 1 (some .byte)]) (fun w hw => by
        simp only [List.mem_cons, List.not_mem_nil, or_false] at hw
        rcases hw with rfl | rfl | rfl | rfl | rfl
        · exact wl_J0_335
        · exact wi_J0_coder_7d493
        · exact ws_J0_coder_7d493
        · exact wn_J0
        · exact wc_J0_coder_7d493)
      exact this) rfl rfl rfl ⟨rfl, by decide, by decide, by decide⟩ (by decide)) ⟨psb_, vk_recv (adK := fun i => cs (i + 1)) (i := i) hS hi hrf, fun U hU hW => ⟨rfl, XS_move hX hrf hU hW (fun _ h => h)⟩⟩ rfl rfl hl.1 rfl (Nat.le_of_ble_eq_true rfl) (eJ0_length_8abf5 (6, .invokevirtual 335, 3) (List.mem_of_getElem? (i := 4) rfl)) (by decide)) ?_
  show W p l e _ s m _ below meth c s.heap [] 0 0 Q (F0 m 9 ls [.int 0, .int (Int32.ofNat (lenS_.getD i 0))])
  refine lv_ishr hx hb (eJ0_length_8abf5 (9, .ishr, 1) (List.mem_of_getElem? (i := 5) rfl)) ?_
  have h0 : Int32.ofNat (lenS_.getD i 0) >>> ((0 : Int32) &&& 31) = Int32.ofNat (lenS_.getD i 0) := by
    have key : ∀ i : Nat, i < 14 → Int32.ofNat (lenS_.getD i 0) >>> ((0 : Int32) &&& 31) = Int32.ofNat (lenS_.getD i 0) := by decide +kernel
    exact key i hi
  rw [h0]
  subst hQ
  exact W.iret hx hb hret (fun t ht hW => ⟨rfl, ht⟩) (fun _ h => absurd h List.not_mem_nil) (eJ0_length_8abf5 (10, .ireturn, 1) (List.mem_of_getElem? (i := 6) rfl))
