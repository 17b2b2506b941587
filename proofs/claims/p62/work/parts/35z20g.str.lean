theorem st_ck3n (l : Launch) {cs : Nat → Nat} {A : Nat → Prop} {k n : Int32} (h0 : ¬ k < 0) (h1 : k < n) : Met l yJ3_checkIndex_8e157 (.code yJ3_checkIndex_8e157 cJ3_checkIndex_8e157 3 (some .int) :: gl_) { frames := 0, cells := 0, slots := 0, locals := 0 } (PS_ cs A #[.int k, .int n, .null]) (QS_ (some (.int k))) 0 0 (fun _ => False) := by
  refine st_of (vs := [.int k, .int n, .null]) (P := (XS_ cs A)) (by decide) (Nat.le_of_ble_eq_true rfl) ?_
  intro p e s m below meth c ls Q hx hb hml hown hg hret hlocks hl hX hQ
  have hown : s.vm.findClass RJ3 = some m.cls := hown
  have hrf : va_S A s.heap s.heap [] := va_S.rf
  have hl : lv_has ls 3 [(0, .int k), (1, .int n), (2, .null)] := hl
  refine lv_iload_n hx hb (eJ3_checkIndex_8e157 (0, .iload_n 0, 1) (List.mem_of_getElem? (i := 0) rfl)) rfl (lv_at hl 0 rfl) ?_
  refine lv_if_lt hx hb (eJ3_checkIndex_8e157 (1, .ifCond .lt 8, 3) (List.mem_of_getElem? (i := 1) rfl)) rfl (fun h => absurd h h0) (fun _ => ?_)
  refine lv_iload_n hx hb (eJ3_checkIndex_8e157 (4, .iload_n 0, 1) (List.mem_of_getElem? (i := 2) rfl)) rfl (lv_at hl 0 rfl) ?_
  refine lv_iload_n hx hb (eJ3_checkIndex_8e157 (5, .iload_n 1, 1) (List.mem_of_getElem? (i := 3) rfl)) rfl (lv_at hl 1 rfl) ?_
  refine lv_icmp_lt (tgt := 16) hx hb (eJ3_checkIndex_8e157 (6, .if_icmp .lt 10, 3) (List.mem_of_getElem? (i := 4) rfl)) rfl (fun _ => ?_) (fun h => absurd h1 h)
  refine lv_iload_n hx hb (eJ3_checkIndex_8e157 (16, .iload_n 0, 1) (List.mem_of_getElem? (i := 10) rfl)) rfl (lv_at hl 0 rfl) ?_
  subst hQ
  exact W.iret hx hb hret (fun t ht hW => ⟨rfl, ht⟩) (fun _ h => absurd h List.not_mem_nil) (eJ3_checkIndex_8e157 (17, .ireturn, 1) (List.mem_of_getElem? (i := 11) rfl))
