theorem st_ck3n (l : Launch) {cs : Nat → Nat} {A : Nat → Prop} {k n : Int32} (h0 : ¬ k < 0) (h1 : k < n) : Met l yJ3_checkIndex_8e157 (.code yJ3_checkIndex_8e157 cJ3_checkIndex_8e157 3 (some .int) :: gl_) { frames := 0, cells := 0, slots := 0, locals := 0 } (PS_ cs A #[.int k, .int n, .null]) (QS_ (some (.int k))) 0 0 (fun _ => False) := by
  refine Met.ofW (cc := cJ3_checkIndex_8e157) (maxL := 3) (ret := (some .int)) (by decide) rfl ?_
  intro p e s m args below meth c s₁ B hml hP
  obtain ⟨rfl, hX⟩ := hP
  have hts := atoms_spec (ws := .code yJ3_checkIndex_8e157 cJ3_checkIndex_8e157 3 (some .int) :: gl_) B.pre
  have hg : ∀ w ∈ gl_, w.before _ s = true := fun w hw => hts w (List.mem_cons_of_mem _ hw)
  have hown := findClass_of_methodNamed B.named
  have hx := B.exec
  have hb := B.bytes
  have hlocks := B.notSynchronized
  have hl := lv_entry ([.int k, .int n, .null]) (n := 3) (Nat.le_of_ble_eq_true rfl)
  have hrf : va_S A s.heap s.heap [] := va_S.rf
  show W p l e _ s m _ below meth c s.heap [] 0 0 _ (entryFrame m ([.int k, .int n, .null]).toArray 3)
  rw [lg_entry_eq]
  generalize (lg_sl ([.int k, .int n, .null]) ++ List.replicate (3 - (lg_sl ([.int k, .int n, .null])).length) Slot.unset).toArray = ls at hl ⊢
  have hl : lv_has ls 3 [(0, .int k), (1, .int n), (2, .null)] := hl
  refine lv_iload_n hx hb (eJ3_checkIndex_8e157 (0, .iload_n 0, 1) (List.mem_of_getElem? (i := 0) rfl)) rfl (lv_at hl 0 rfl) ?_
  refine lv_if_lt hx hb (eJ3_checkIndex_8e157 (1, .ifCond .lt 8, 3) (List.mem_of_getElem? (i := 1) rfl)) rfl (fun h => absurd h h0) (fun _ => ?_)
  refine lv_iload_n hx hb (eJ3_checkIndex_8e157 (4, .iload_n 0, 1) (List.mem_of_getElem? (i := 2) rfl)) rfl (lv_at hl 0 rfl) ?_
  refine lv_iload_n hx hb (eJ3_checkIndex_8e157 (5, .iload_n 1, 1) (List.mem_of_getElem? (i := 3) rfl)) rfl (lv_at hl 1 rfl) ?_
  refine lv_icmp_lt (tgt := 16) hx hb (eJ3_checkIndex_8e157 (6, .if_icmp .lt 10, 3) (List.mem_of_getElem? (i := 4) rfl)) rfl (fun _ => ?_) (fun h => absurd h1 h)
  refine lv_iload_n hx hb (eJ3_checkIndex_8e157 (16, .iload_n 0, 1) (List.mem_of_getElem? (i := 10) rfl)) rfl (lv_at hl 0 rfl) ?_
  exact W.iret hx hb B.returns (fun t ht hW => ⟨rfl, ht⟩) (fun _ h => absurd h List.not_mem_nil) (eJ3_checkIndex_8e157 (17, .ireturn, 1) (List.mem_of_getElem? (i := 11) rfl))
