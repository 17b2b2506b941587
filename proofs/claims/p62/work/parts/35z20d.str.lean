theorem st_coder (l : Launch) {cs : Nat → Nat} {A : Nat → Prop} {i : Nat} (hi : i < 14) : Met l yJ0_coder_7d493 (.code yJ0_coder_7d493 cJ0_coder_7d493 1 (some .byte) :: gl_) { frames := 0, cells := 0, slots := 0, locals := 0 } (PS_ cs A #[.ref (cs (i + 1))]) (QS_ (some (.int 0))) 0 0 (fun _ => False) := by
  refine st_of (vs := [.ref (cs (i + 1))]) (P := (XS_ cs A)) (by decide) (Nat.le_of_ble_eq_true rfl) ?_
  intro p e s m below meth c ls Q hx hb hml hown hg hret hlocks hl hX hQ
  have hown : s.vm.findClass RJ0 = some m.cls := hown
  obtain ⟨⟨adV, hS⟩, -, hZ, -⟩ := hX
  have hrf : va_S A s.heap s.heap [] := va_S.rf
  have hl : lv_has ls 1 [(0, .ref (cs (i + 1)))] := hl
  refine va_gets (cc := cJ0_coder_7d493) hx hb hZ hrf hown (hg _ wfs_38) (fun _ h => h) (eJ0_coder_7d493 (0, .getstatic 38, 3) (List.mem_of_getElem? (i := 0) rfl)) ?_
  refine lv_if_eq hx hb (eJ0_coder_7d493 (3, .ifCond .eq 10, 3) (List.mem_of_getElem? (i := 1) rfl)) rfl (fun h => absurd h (by decide)) (fun _ => ?_)
  refine lv_aload_n hx hb (eJ0_coder_7d493 (6, .aload_n 0, 1) (List.mem_of_getElem? (i := 2) rfl)) rfl (lv_at hl 0 rfl) ?_
  refine vk_getf hx hb (hS.1 i hi).2.1 hrf hown (hg _ wfs_15) (fun _ h => h) (eJ0_coder_7d493 (7, .getfield 15, 3) (List.mem_of_getElem? (i := 3) rfl)) ?_
  refine lv_goto (tgt := 14) hx hb (eJ0_coder_7d493 (10, .goto 4, 3) (List.mem_of_getElem? (i := 4) rfl)) rfl ?_
  subst hQ
  exact W.zret hx hb hret rfl (fun t ht hW => ⟨rfl, ht⟩) (fun _ h => absurd h List.not_mem_nil) (eJ0_coder_7d493 (14, .ireturn, 1) (List.mem_of_getElem? (i := 6) rfl))
