def kJ0_length_8abf5 : Ci_t := [(0, .aload_n 0, 1), (1, .getfield 9, 3), (4, .arraylength, 1), (5, .aload_n 0, 1), (6, .invokevirtual 335, 3), (9, .ishr, 1), (10, .ireturn, 1)]
set_option maxRecDepth 100000 in
theorem eJ0_length_8abf5 : ∀ q ∈ kJ0_length_8abf5, decode cJ0_length_8abf5 q.1 = .ok q.2 := by decide +kernel
def kJ0_charAt_5068e : Ci_t := [(0, .aload_n 0, 1), (1, .invokevirtual 492, 3), (4, .ifCond .eq 12, 3), (7, .aload_n 0, 1), (8, .getfield 9, 3), (11, .iload_n 1, 1), (12, .invokestatic 495, 3), (15, .ireturn, 1), (16, .aload_n 0, 1), (17, .getfield 9, 3), (20, .iload_n 1, 1), (21, .invokestatic 498, 3), (24, .ireturn, 1)]
set_option maxRecDepth 100000 in
theorem eJ0_charAt_5068e : ∀ q ∈ kJ0_charAt_5068e, decode cJ0_charAt_5068e q.1 = .ok q.2 := by decide +kernel
def kJ0_coder_7d493 : Ci_t := [(0, .getstatic 38, 3), (3, .ifCond .eq 10, 3), (6, .aload_n 0, 1), (7, .getfield 15, 3), (10, .goto 4, 3), (13, .iconst 1, 1), (14, .ireturn, 1)]
set_option maxRecDepth 100000 in
theorem eJ0_coder_7d493 : ∀ q ∈ kJ0_coder_7d493, decode cJ0_coder_7d493 q.1 = .ok q.2 := by decide +kernel
def kJ0_isLatin1_aae02 : Ci_t := [(0, .getstatic 38, 3), (3, .ifCond .eq 14, 3), (6, .aload_n 0, 1), (7, .getfield 15, 3), (10, .ifCond .ne 7, 3), (13, .iconst 1, 1), (14, .goto 4, 3), (17, .iconst 0, 1), (18, .ireturn, 1)]
set_option maxRecDepth 100000 in
theorem eJ0_isLatin1_aae02 : ∀ q ∈ kJ0_isLatin1_aae02, decode cJ0_isLatin1_aae02 q.1 = .ok q.2 := by decide +kernel
def kJ0_checkIndex_df160 : Ci_t := [(0, .iload_n 0, 1), (1, .iload_n 1, 1), (2, .getstatic 1053, 3), (5, .invokestatic 1059, 3), (8, .pop, 1), (9, .return_, 1)]
set_option maxRecDepth 100000 in
theorem eJ0_checkIndex_df160 : ∀ q ∈ kJ0_checkIndex_df160, decode cJ0_checkIndex_df160 q.1 = .ok q.2 := by decide +kernel
def kJ1_charAt_3b067 : Ci_t := [(0, .iload_n 1, 1), (1, .aload_n 0, 1), (2, .arraylength, 1), (3, .invokestatic 9, 3), (6, .aload_n 0, 1), (7, .iload_n 1, 1), (8, .baload, 1), (9, .sipush 255, 3), (12, .iand, 1), (13, .i2c, 1), (14, .ireturn, 1)]
set_option maxRecDepth 100000 in
theorem eJ1_charAt_3b067 : ∀ q ∈ kJ1_charAt_3b067, decode cJ1_charAt_3b067 q.1 = .ok q.2 := by decide +kernel
def kJ3_checkIndex_8e157 : Ci_t := [(0, .iload_n 0, 1), (1, .ifCond .lt 8, 3), (4, .iload_n 0, 1), (5, .iload_n 1, 1), (6, .if_icmp .lt 10, 3), (9, .aload_n 2, 1), (10, .iload_n 0, 1), (11, .iload_n 1, 1), (12, .invokestatic 95, 3), (15, .athrow, 1), (16, .iload_n 0, 1), (17, .ireturn, 1)]
set_option maxRecDepth 100000 in
theorem eJ3_checkIndex_8e157 : ∀ q ∈ kJ3_checkIndex_8e157, decode cJ3_checkIndex_8e157 q.1 = .ok q.2 := by decide +kernel
set_option maxRecDepth 100000 in
theorem wfs_38 : Cond.fieldLink RJ0 38 "java/lang/String" "COMPACT_STRINGS" "Z" ∈ gl_ := wg_ 516 (by decide +kernel) rfl
set_option maxRecDepth 100000 in
theorem wfs_1053 : Cond.fieldLink RJ0 1053 "jdk/internal/util/Preconditions" "SIOOBE_FORMATTER" "Ljava/util/function/BiFunction;" ∈ gl_ := wg_ 532 (by decide +kernel) rfl
set_option maxRecDepth 100000 in
theorem wfs_9 : Cond.fieldLink RJ0 9 "java/lang/String" "value" "[B" ∈ gl_ := wg_ 1941 (by decide +kernel) rfl
set_option maxRecDepth 100000 in
theorem wfs_15 : Cond.fieldLink RJ0 15 "java/lang/String" "coder" "B" ∈ gl_ := wg_ 1942 (by decide +kernel) rfl
/-! contracts of methods that read alone -/
def PS_ (cs : Nat → Nat) (A : Nat → Prop) (a : Array Value) : Array Value → State → Prop := fun v U => v = a ∧ XS_ cs A U
def PT1_ (cs : Nat → Nat) (A : Nat → Prop) (t n : Nat) (f : Nat → Value) (a : Array Value) : Array Value → State → Prop := fun v U => v = a ∧ va_T .byte t n f A U U.heap ∧ XS_ cs A U
def QS_ (r : Option Value) : Array Value → State → Outcome → State → Prop := fun _ st oc t => oc = .returned r ∧ t.heap = st.heap
theorem psb_ {cs : Nat → Nat} {A : Nat → Prop} {a : Array Value} : FrameBlind (PS_ cs A a) := fun b U g mk q => ⟨q.1, XS_same (s := U) (U := U.calling g mk b) rfl rfl q.2⟩
theorem ptb_ {cs : Nat → Nat} {A : Nat → Prop} {t n : Nat} {f : Nat → Value} {a : Array Value} : FrameBlind (PT1_ cs A t n f a) := fun b U g mk q => ⟨q.1, va_T.moved (u := U) (U := U.calling g mk b) (Vm.Alike.refl U.vm) q.2.1, XS_same (s := U) (U := U.calling g mk b) rfl rfl q.2.2⟩
theorem runQ_ {p : Program} {l : Launch} {e : Env} {R : Room} {s : State} {m : MethodId} {args : Array Value} {below : List Frame} {meth : Method} {c : Code} {H : Heap} {locs : List Loc} {cells slots : Nat} {Q : State → Prop} {pc : Nat} {ls : Array Slot} {rest st0 : List Value} {a : Array Value} {r : Option Value}
    (hr : va_Run p l e R s m args below meth c H locs cells slots 0 0 (F0 m pc ls st0) rest (QS_ r a) (fun _ => False)) (kk : W p l e R s m args below meth c H locs cells slots Q (F0 m (pc + 3) ls (r.toList ++ rest))) : W p l e R s m args below meth c H locs cells slots Q (F0 m pc ls st0) := by
  intro T hT X
  obtain ⟨v, st₀, t, T', L, h0, X', hL, e1, e2, ⟨hv, hh⟩, st⟩ := hr T hT X
  have hv : v = r := Outcome.returned.inj hv
  subst hv
  have hL0 : L = [] := List.eq_nil_iff_forall_not_mem.mpr (fun q hq => hL q hq)
  subst hL0
  rw [List.append_nil] at X'
  obtain ⟨t2, a1, b1⟩ := kk T' (by rw [e1, hh, h0]) X'
  exact ⟨t2, st t2 a1, b1⟩
theorem st_coder (l : Launch) {cs : Nat → Nat} {A : Nat → Prop} {i : Nat} (hi : i < 14) : Met l yJ0_coder_7d493 (.code yJ0_coder_7d493 cJ0_coder_7d493 1 (some .byte) :: gl_) { frames := 0, cells := 0, slots := 0, locals := 0 } (PS_ cs A #[.ref (cs (i + 1))]) (QS_ (some (.int 0))) 0 0 (fun _ => False) := by
  refine Met.ofW (cc := cJ0_coder_7d493) (maxL := 1) (ret := (some .byte)) (by decide) rfl ?_
  intro p e s m args below meth c s₁ B hml hP
  obtain ⟨rfl, hX⟩ := hP
  obtain ⟨⟨adV, hS⟩, -, hZ, -⟩ := hX
  have hts := atoms_spec (ws := .code yJ0_coder_7d493 cJ0_coder_7d493 1 (some .byte) :: gl_) B.pre
  have hg : ∀ w ∈ gl_, w.before _ s = true := fun w hw => hts w (List.mem_cons_of_mem _ hw)
  have hown := findClass_of_methodNamed B.named
  have hx := B.exec
  have hb := B.bytes
  have hlocks := B.notSynchronized
  have hl := lv_entry ([.ref (cs (i + 1))]) (n := 1) (Nat.le_of_ble_eq_true rfl)
  have hrf : va_S A s.heap s.heap [] := va_S.rf
  show W p l e _ s m _ below meth c s.heap [] 0 0 _ (entryFrame m ([.ref (cs (i + 1))]).toArray 1)
  rw [lg_entry_eq]
  generalize (lg_sl ([.ref (cs (i + 1))]) ++ List.replicate (1 - (lg_sl ([.ref (cs (i + 1))])).length) Slot.unset).toArray = ls at hl ⊢
  have hl : lv_has ls 1 [(0, .ref (cs (i + 1)))] := hl
  refine va_gets (cc := cJ0_coder_7d493) hx hb hZ hrf hown (hg _ wfs_38) (fun _ h => h) (eJ0_coder_7d493 (0, .getstatic 38, 3) (List.mem_of_getElem? (i := 0) rfl)) ?_
  refine lv_if_eq hx hb (eJ0_coder_7d493 (3, .ifCond .eq 10, 3) (List.mem_of_getElem? (i := 1) rfl)) rfl (fun h => absurd h (by decide)) (fun _ => ?_)
  refine lv_aload_n hx hb (eJ0_coder_7d493 (6, .aload_n 0, 1) (List.mem_of_getElem? (i := 2) rfl)) rfl (lv_at hl 0 rfl) ?_
  refine vk_getf hx hb (hS.1 i hi).2.1 hrf hown (hg _ wfs_15) (fun _ h => h) (eJ0_coder_7d493 (7, .getfield 15, 3) (List.mem_of_getElem? (i := 3) rfl)) ?_
  refine lv_goto (tgt := 14) hx hb (eJ0_coder_7d493 (10, .goto 4, 3) (List.mem_of_getElem? (i := 4) rfl)) rfl ?_
  exact W.zret hx hb B.returns rfl (fun t ht hW => ⟨rfl, ht⟩) (fun _ h => absurd h List.not_mem_nil) (eJ0_coder_7d493 (14, .ireturn, 1) (List.mem_of_getElem? (i := 6) rfl))
theorem st_lat (l : Launch) {cs : Nat → Nat} {A : Nat → Prop} {i : Nat} (hi : i < 14) : Met l yJ0_isLatin1_aae02 (.code yJ0_isLatin1_aae02 cJ0_isLatin1_aae02 1 (some .boolean) :: gl_) { frames := 0, cells := 0, slots := 0, locals := 0 } (PS_ cs A #[.ref (cs (i + 1))]) (QS_ (some (.int 1))) 0 0 (fun _ => False) := by
  refine Met.ofW (cc := cJ0_isLatin1_aae02) (maxL := 1) (ret := (some .boolean)) (by decide) rfl ?_
  intro p e s m args below meth c s₁ B hml hP
  obtain ⟨rfl, hX⟩ := hP
  obtain ⟨⟨adV, hS⟩, -, hZ, -⟩ := hX
  have hts := atoms_spec (ws := .code yJ0_isLatin1_aae02 cJ0_isLatin1_aae02 1 (some .boolean) :: gl_) B.pre
  have hg : ∀ w ∈ gl_, w.before _ s = true := fun w hw => hts w (List.mem_cons_of_mem _ hw)
  have hown := findClass_of_methodNamed B.named
  have hx := B.exec
  have hb := B.bytes
  have hlocks := B.notSynchronized
  have hl := lv_entry ([.ref (cs (i + 1))]) (n := 1) (Nat.le_of_ble_eq_true rfl)
  have hrf : va_S A s.heap s.heap [] := va_S.rf
  show W p l e _ s m _ below meth c s.heap [] 0 0 _ (entryFrame m ([.ref (cs (i + 1))]).toArray 1)
  rw [lg_entry_eq]
  generalize (lg_sl ([.ref (cs (i + 1))]) ++ List.replicate (1 - (lg_sl ([.ref (cs (i + 1))])).length) Slot.unset).toArray = ls at hl ⊢
  have hl : lv_has ls 1 [(0, .ref (cs (i + 1)))] := hl
  refine va_gets (cc := cJ0_isLatin1_aae02) hx hb hZ hrf hown (hg _ wfs_38) (fun _ h => h) (eJ0_isLatin1_aae02 (0, .getstatic 38, 3) (List.mem_of_getElem? (i := 0) rfl)) ?_
  refine lv_if_eq hx hb (eJ0_isLatin1_aae02 (3, .ifCond .eq 14, 3) (List.mem_of_getElem? (i := 1) rfl)) rfl (fun h => absurd h (by decide)) (fun _ => ?_)
  refine lv_aload_n hx hb (eJ0_isLatin1_aae02 (6, .aload_n 0, 1) (List.mem_of_getElem? (i := 2) rfl)) rfl (lv_at hl 0 rfl) ?_
  refine vk_getf hx hb (hS.1 i hi).2.1 hrf hown (hg _ wfs_15) (fun _ h => h) (eJ0_isLatin1_aae02 (7, .getfield 15, 3) (List.mem_of_getElem? (i := 3) rfl)) ?_
  refine lv_if_ne hx hb (eJ0_isLatin1_aae02 (10, .ifCond .ne 7, 3) (List.mem_of_getElem? (i := 4) rfl)) rfl (fun h => absurd rfl h) (fun _ => ?_)
  refine lv_iconst (v := 1) hx hb (eJ0_isLatin1_aae02 (13, .iconst 1, 1) (List.mem_of_getElem? (i := 5) rfl)) (by decide) ?_
  refine lv_goto (tgt := 18) hx hb (eJ0_isLatin1_aae02 (14, .goto 4, 3) (List.mem_of_getElem? (i := 6) rfl)) rfl ?_
  exact W.zret hx hb B.returns rfl (fun t ht hW => ⟨rfl, ht⟩) (fun _ h => absurd h List.not_mem_nil) (eJ0_isLatin1_aae02 (18, .ireturn, 1) (List.mem_of_getElem? (i := 8) rfl))
theorem st_len (l : Launch) {cs : Nat → Nat} {A : Nat → Prop} {i : Nat} (hi : i < 14) : Met l yJ0_length_8abf5 (.code yJ0_length_8abf5 cJ0_length_8abf5 1 (some .int) :: gl_) { frames := 1, cells := 0, slots := 0, locals := 20 } (PS_ cs A #[.ref (cs (i + 1))]) (QS_ (some (.int (Int32.ofNat (lenS_.getD i 0))))) 0 0 (fun _ => False) := by
  refine Met.ofW (cc := cJ0_length_8abf5) (maxL := 1) (ret := (some .int)) (by decide) rfl ?_
  intro p e s m args below meth c s₁ B hml hP
  obtain ⟨rfl, hX⟩ := hP
  obtain ⟨⟨adV, hS⟩, -, hZ, -⟩ := id hX
  have hts := atoms_spec (ws := .code yJ0_length_8abf5 cJ0_length_8abf5 1 (some .int) :: gl_) B.pre
  have hg : ∀ w ∈ gl_, w.before _ s = true := fun w hw => hts w (List.mem_cons_of_mem _ hw)
  have hown := findClass_of_methodNamed B.named
  have hx := B.exec
  have hb := B.bytes
  have hlocks := B.notSynchronized
  have hl := lv_entry ([.ref (cs (i + 1))]) (n := 1) (Nat.le_of_ble_eq_true rfl)
  have hrf : va_S A s.heap s.heap [] := va_S.rf
  show W p l e _ s m _ below meth c s.heap [] 0 0 _ (entryFrame m ([.ref (cs (i + 1))]).toArray 1)
  rw [lg_entry_eq]
  generalize (lg_sl ([.ref (cs (i + 1))]) ++ List.replicate (1 - (lg_sl ([.ref (cs (i + 1))])).length) Slot.unset).toArray = ls at hl ⊢
  have hl : lv_has ls 1 [(0, .ref (cs (i + 1)))] := hl
  refine lv_aload_n hx hb (eJ0_length_8abf5 (0, .aload_n 0, 1) (List.mem_of_getElem? (i := 0) rfl)) rfl (lv_at hl 0 rfl) ?_
  refine vk_getf hx hb (hS.1 i hi).2.2.1 hrf hown (hg _ wfs_9) (fun _ h => h) (eJ0_length_8abf5 (1, .getfield 9, 3) (List.mem_of_getElem? (i := 1) rfl)) ?_
  refine va_tlen (v := Int32.ofNat (lenS_.getD i 0)) hx hb (hS.1 i hi).2.2.2 hrf rfl (eJ0_length_8abf5 (4, .arraylength, 1) (List.mem_of_getElem? (i := 2) rfl)) ?_
  refine lv_aload_n hx hb (eJ0_length_8abf5 (5, .aload_n 0, 1) (List.mem_of_getElem? (i := 3) rfl)) rfl (lv_at hl 0 rfl) ?_
  refine runQ_ (va_runV (As := []) (rest := [.int (Int32.ofNat (lenS_.getD i 0))]) (b := cs (i + 1)) (C := RJ0) ⟨hx, hb, hml, hown, hg⟩ (st_coder l hi) (cwV 0 hg (by
      have := gin_ (ws := [Cond.methodLink RJ0 335 yJ0_coder_7d493, Cond.instanceMethod yJ0_coder_7d493, Cond.selects RJ0 yJ0_coder_7d493 yJ0_coder_7d493, Cond.initialized RJ0, Cond.code yJ0_coder_7d493 cJ0_coder_7d493 1 (some .byte)]) (fun w hw => by
        simp only [List.mem_cons, List.not_mem_nil, or_false] at hw
        rcases hw with rfl | rfl | rfl | rfl | rfl
        · exact wl_J0_335
        · exact wi_J0_coder_7d493
        · exact ws_J0_coder_7d493
        · exact wn_J0
        · exact wc_J0_coder_7d493)
      exact this) rfl rfl rfl ⟨rfl, by decide, by decide, by decide⟩ (by decide)) ⟨psb_, vk_recv hS hi hrf, fun U hU hW => ⟨rfl, XS_move hX hrf hU hW (fun _ h => h)⟩⟩ rfl rfl hl.1 rfl (by decide) (eJ0_length_8abf5 (6, .invokevirtual 335, 3) (List.mem_of_getElem? (i := 4) rfl)) (by decide)) ?_
  show W p l e _ s m _ below meth c s.heap [] 0 0 _ (F0 m 9 ls [.int 0, .int (Int32.ofNat (lenS_.getD i 0))])
  refine lv_ishr hx hb (eJ0_length_8abf5 (9, .ishr, 1) (List.mem_of_getElem? (i := 5) rfl)) ?_
  have h0 : Int32.ofNat (lenS_.getD i 0) >>> ((0 : Int32) &&& 31) = Int32.ofNat (lenS_.getD i 0) := by
    have key : ∀ i : Nat, i < 14 → Int32.ofNat (lenS_.getD i 0) >>> ((0 : Int32) &&& 31) = Int32.ofNat (lenS_.getD i 0) := by decide +kernel
    exact key i hi
  rw [h0]
  exact W.iret hx hb B.returns (fun t ht hW => ⟨rfl, ht⟩) (fun _ h => absurd h List.not_mem_nil) (eJ0_length_8abf5 (10, .ireturn, 1) (List.mem_of_getElem? (i := 6) rfl))
theorem st_ck3n (l : Launch) {cs : Nat → Nat} {A : Nat → Prop} {k n : Int32} (h0 : ¬ k < 0) (h1 : k < n) : Met l yJ3_checkIndex_8e157 (.code yJ3_checkIndex_8e157 cJ3_checkIndex_8e157 3 (some .int) :: gl_) { frames := 0, cells := 0, slots := 0, locals := 0 } (PS_ cs A #[.int k, .int n, .null]) (QS_ (some (.int k))) 0 0 (fun _ => False) := by
  refine Met.ofW (cc := cJ3_checkIndex_8e157) (maxL := 3) (ret := (some .int)) (by decide) rfl ?_
  intro p e s m args below meth c s₁ B hml hP
  obtain ⟨rfl, hX⟩ := hP
  have hts := atoms_spec (ws := .code yJ3_checkIndex_8e157 cJ3_checkIndex_8e157 3 (some .int) :: gl_) B.pre
  have hg : ∀ w ∈ gl_, w.before _ s = true := fun w hw => hts w (List.mem_cons_of_mem _ hw)
  have hown := findClass_of_methodNamed B.named
  have hx := B.exec
  have hb := B.bytes
  have hlocks := B.notSynchronized
  have hl := lv_entry ([.int k, .int n, .null]) (n := 3) (Nat.le_of_ble_eq_true rfl)
  have hrf : va_S A s.heap s.heap [] := va_S.rf
  show W p l e _ s m _ below meth c s.heap [] 0 0 _ (entryFrame m ([.int k, .int n, .null]).toArray 3)
  rw [lg_entry_eq]
  generalize (lg_sl ([.int k, .int n, .null]) ++ List.replicate (3 - (lg_sl ([.int k, .int n, .null])).length) Slot.unset).toArray = ls at hl ⊢
  have hl : lv_has ls 3 [(0, .int k), (1, .int n), (2, .null)] := hl
  refine lv_iload_n hx hb (eJ3_checkIndex_8e157 (0, .iload_n 0, 1) (List.mem_of_getElem? (i := 0) rfl)) rfl (lv_at hl 0 rfl) ?_
  refine lv_if_lt hx hb (eJ3_checkIndex_8e157 (1, .ifCond .lt 8, 3) (List.mem_of_getElem? (i := 1) rfl)) rfl (fun h => absurd h h0) (fun _ => ?_)
  refine lv_iload_n hx hb (eJ3_checkIndex_8e157 (4, .iload_n 0, 1) (List.mem_of_getElem? (i := 2) rfl)) rfl (lv_at hl 0 rfl) ?_
  refine lv_iload_n hx hb (eJ3_checkIndex_8e157 (5, .iload_n 1, 1) (List.mem_of_getElem? (i := 3) rfl)) rfl (lv_at hl 1 rfl) ?_
  refine lv_icmp_lt (tgt := 16) hx hb (eJ3_checkIndex_8e157 (6, .if_icmp .lt 10, 3) (List.mem_of_getElem? (i := 4) rfl)) rfl (fun _ => ?_) (fun h => absurd h1 h)
  refine lv_iload_n hx hb (eJ3_checkIndex_8e157 (16, .iload_n 0, 1) (List.mem_of_getElem? (i := 10) rfl)) rfl (lv_at hl 0 rfl) ?_
  exact W.iret hx hb B.returns (fun t ht hW => ⟨rfl, ht⟩) (fun _ h => absurd h List.not_mem_nil) (eJ3_checkIndex_8e157 (17, .ireturn, 1) (List.mem_of_getElem? (i := 11) rfl))
theorem st_ck3r (l : Launch) {cs : Nat → Nat} {A : Nat → Prop} {t : Nat} {k n : Int32} (h0 : ¬ k < 0) (h1 : k < n) : Met l yJ3_checkIndex_8e157 (.code yJ3_checkIndex_8e157 cJ3_checkIndex_8e157 3 (some .int) :: gl_) { frames := 0, cells := 0, slots := 0, locals := 0 } (PS_ cs A #[.int k, .int n, .ref t]) (QS_ (some (.int k))) 0 0 (fun _ => False) := by
  refine Met.ofW (cc := cJ3_checkIndex_8e157) (maxL := 3) (ret := (some .int)) (by decide) rfl ?_
  intro p e s m args below meth c s₁ B hml hP
  obtain ⟨rfl, hX⟩ := hP
  have hts := atoms_spec (ws := .code yJ3_checkIndex_8e157 cJ3_checkIndex_8e157 3 (some .int) :: gl_) B.pre
  have hg : ∀ w ∈ gl_, w.before _ s = true := fun w hw => hts w (List.mem_cons_of_mem _ hw)
  have hown := findClass_of_methodNamed B.named
  have hx := B.exec
  have hb := B.bytes
  have hlocks := B.notSynchronized
  have hl := lv_entry ([.int k, .int n, .ref t]) (n := 3) (Nat.le_of_ble_eq_true rfl)
  have hrf : va_S A s.heap s.heap [] := va_S.rf
  show W p l e _ s m _ below meth c s.heap [] 0 0 _ (entryFrame m ([.int k, .int n, .ref t]).toArray 3)
  rw [lg_entry_eq]
  generalize (lg_sl ([.int k, .int n, .ref t]) ++ List.replicate (3 - (lg_sl ([.int k, .int n, .ref t])).length) Slot.unset).toArray = ls at hl ⊢
  have hl : lv_has ls 3 [(0, .int k), (1, .int n), (2, .ref t)] := hl
  refine lv_iload_n hx hb (eJ3_checkIndex_8e157 (0, .iload_n 0, 1) (List.mem_of_getElem? (i := 0) rfl)) rfl (lv_at hl 0 rfl) ?_
  refine lv_if_lt hx hb (eJ3_checkIndex_8e157 (1, .ifCond .lt 8, 3) (List.mem_of_getElem? (i := 1) rfl)) rfl (fun h => absurd h h0) (fun _ => ?_)
  refine lv_iload_n hx hb (eJ3_checkIndex_8e157 (4, .iload_n 0, 1) (List.mem_of_getElem? (i := 2) rfl)) rfl (lv_at hl 0 rfl) ?_
  refine lv_iload_n hx hb (eJ3_checkIndex_8e157 (5, .iload_n 1, 1) (List.mem_of_getElem? (i := 3) rfl)) rfl (lv_at hl 1 rfl) ?_
  refine lv_icmp_lt (tgt := 16) hx hb (eJ3_checkIndex_8e157 (6, .if_icmp .lt 10, 3) (List.mem_of_getElem? (i := 4) rfl)) rfl (fun _ => ?_) (fun h => absurd h1 h)
  refine lv_iload_n hx hb (eJ3_checkIndex_8e157 (16, .iload_n 0, 1) (List.mem_of_getElem? (i := 10) rfl)) rfl (lv_at hl 0 rfl) ?_
  exact W.iret hx hb B.returns (fun t ht hW => ⟨rfl, ht⟩) (fun _ h => absurd h List.not_mem_nil) (eJ3_checkIndex_8e157 (17, .ireturn, 1) (List.mem_of_getElem? (i := 11) rfl))
theorem st_ck (l : Launch) {cs : Nat → Nat} {A : Nat → Prop} {k n : Int32} (h0 : ¬ k < 0) (h1 : k < n) : Met l yJ0_checkIndex_df160 (.code yJ0_checkIndex_df160 cJ0_checkIndex_df160 2 none :: gl_) { frames := 1, cells := 0, slots := 0, locals := 22 } (PS_ cs A #[.int k, .int n]) (QS_ none) 0 0 (fun _ => False) := by
  refine Met.ofW (cc := cJ0_checkIndex_df160) (maxL := 2) (ret := none) (by decide) rfl ?_
  intro p e s m args below meth c s₁ B hml hP
  obtain ⟨rfl, hX⟩ := hP
  obtain ⟨-, -, -, hZ⟩ := id hX
  have hts := atoms_spec (ws := .code yJ0_checkIndex_df160 cJ0_checkIndex_df160 2 none :: gl_) B.pre
  have hg : ∀ w ∈ gl_, w.before _ s = true := fun w hw => hts w (List.mem_cons_of_mem _ hw)
  have hown := findClass_of_methodNamed B.named
  have hx := B.exec
  have hb := B.bytes
  have hlocks := B.notSynchronized
  have hl := lv_entry ([.int k, .int n]) (n := 2) (Nat.le_of_ble_eq_true rfl)
  have hrf : va_S A s.heap s.heap [] := va_S.rf
  show W p l e _ s m _ below meth c s.heap [] 0 0 _ (entryFrame m ([.int k, .int n]).toArray 2)
  rw [lg_entry_eq]
  generalize (lg_sl ([.int k, .int n]) ++ List.replicate (2 - (lg_sl ([.int k, .int n])).length) Slot.unset).toArray = ls at hl ⊢
  have hl : lv_has ls 2 [(0, .int k), (1, .int n)] := hl
  refine lv_iload_n hx hb (eJ0_checkIndex_df160 (0, .iload_n 0, 1) (List.mem_of_getElem? (i := 0) rfl)) rfl (lv_at hl 0 rfl) ?_
  refine lv_iload_n hx hb (eJ0_checkIndex_df160 (1, .iload_n 1, 1) (List.mem_of_getElem? (i := 1) rfl)) rfl (lv_at hl 1 rfl) ?_
  rcases hZ with hZ | ⟨t, hZ⟩
  · refine va_gets (cc := cJ0_checkIndex_df160) hx hb hZ hrf hown (hg _ wfs_1053) (fun _ h => h) (eJ0_checkIndex_df160 (2, .getstatic 1053, 3) (List.mem_of_getElem? (i := 2) rfl)) ?_
    refine runQ_ (va_runS (As := [.int k, .int n, .null]) (rest := []) ⟨hx, hb, hml, hown, hg⟩ (st_ck3n l h0 h1) ⟨callB_of 3 hg (gin_ (ws := [Cond.code yJ3_checkIndex_8e157 cJ3_checkIndex_8e157 3 (some .int)]) (fun w hw => by
      simp only [List.mem_cons, List.not_mem_nil, or_false] at hw
      subst hw; exact wc_J3_checkIndex_8e157)) rfl rfl rfl (hg _ wn_J3) (hg _ wl_J0_1059) ⟨by decide, by decide, by decide⟩ (by decide), hg _ wt_J3_checkIndex_8e157⟩ ⟨psb_, fun U hU hW => ⟨rfl, XS_move hX hrf hU hW (fun _ h => h)⟩⟩ rfl rfl hl.1 rfl (by decide) (eJ0_checkIndex_df160 (5, .invokestatic 1059, 3) (List.mem_of_getElem? (i := 3) rfl)) (by decide)) ?_
    show W p l e _ s m _ below meth c s.heap [] 0 0 _ (F0 m 8 ls [.int k])
    refine lv_pop hx hb (eJ0_checkIndex_df160 (8, .pop, 1) (List.mem_of_getElem? (i := 4) rfl)) rfl ?_
    exact W.vret hx hb B.returns (fun t ht hW => ⟨rfl, ht⟩) (fun _ h => absurd h List.not_mem_nil) (eJ0_checkIndex_df160 (9, .return_, 1) (List.mem_of_getElem? (i := 5) rfl))
  · refine va_gets (cc := cJ0_checkIndex_df160) hx hb hZ hrf hown (hg _ wfs_1053) (fun _ h => h) (eJ0_checkIndex_df160 (2, .getstatic 1053, 3) (List.mem_of_getElem? (i := 2) rfl)) ?_
    refine runQ_ (va_runS (As := [.int k, .int n, .ref t]) (rest := []) ⟨hx, hb, hml, hown, hg⟩ (st_ck3r l h0 h1) ⟨callB_of 3 hg (gin_ (ws := [Cond.code yJ3_checkIndex_8e157 cJ3_checkIndex_8e157 3 (some .int)]) (fun w hw => by
      simp only [List.mem_cons, List.not_mem_nil, or_false] at hw
      subst hw; exact wc_J3_checkIndex_8e157)) rfl rfl rfl (hg _ wn_J3) (hg _ wl_J0_1059) ⟨by decide, by decide, by decide⟩ (by decide), hg _ wt_J3_checkIndex_8e157⟩ ⟨psb_, fun U hU hW => ⟨rfl, XS_move hX hrf hU hW (fun _ h => h)⟩⟩ rfl rfl hl.1 rfl (by decide) (eJ0_checkIndex_df160 (5, .invokestatic 1059, 3) (List.mem_of_getElem? (i := 3) rfl)) (by decide)) ?_
    show W p l e _ s m _ below meth c s.heap [] 0 0 _ (F0 m 8 ls [.int k])
    refine lv_pop hx hb (eJ0_checkIndex_df160 (8, .pop, 1) (List.mem_of_getElem? (i := 4) rfl)) rfl ?_
    exact W.vret hx hb B.returns (fun t ht hW => ⟨rfl, ht⟩) (fun _ h => absurd h List.not_mem_nil) (eJ0_checkIndex_df160 (9, .return_, 1) (List.mem_of_getElem? (i := 5) rfl))
theorem st_ch1 (l : Launch) {cs : Nat → Nat} {A : Nat → Prop} {t n : Nat} {f : Nat → Value} {k v r : Int32} (h0 : ¬ k < 0) (h1 : k < Int32.ofNat n) (hin : vp_in k n) (hf : f k.toNatClampNeg = .int v) (hr : ((v &&& 255).toUInt32 % 65536).toInt32 = r) (hnr : narrow .char (.int r) = .int r) : Met l yJ1_charAt_3b067 (.code yJ1_charAt_3b067 cJ1_charAt_3b067 2 (some .char) :: gl_) { frames := 2, cells := 0, slots := 0, locals := 43 } (PT1_ cs A t n f #[.ref t, .int k]) (QS_ (some (.int r))) 0 0 (fun _ => False) := by
  refine Met.ofW (cc := cJ1_charAt_3b067) (maxL := 2) (ret := (some .char)) (by decide) rfl ?_
  intro p e s m args below meth c s₁ B hml hP
  obtain ⟨rfl, hT, hX⟩ := hP
  have hts := atoms_spec (ws := .code yJ1_charAt_3b067 cJ1_charAt_3b067 2 (some .char) :: gl_) B.pre
  have hg : ∀ w ∈ gl_, w.before _ s = true := fun w hw => hts w (List.mem_cons_of_mem _ hw)
  have hown := findClass_of_methodNamed B.named
  have hx := B.exec
  have hb := B.bytes
  have hlocks := B.notSynchronized
  have hl := lv_entry ([.ref t, .int k]) (n := 2) (Nat.le_of_ble_eq_true rfl)
  have hrf : va_S A s.heap s.heap [] := va_S.rf
  show W p l e _ s m _ below meth c s.heap [] 0 0 _ (entryFrame m ([.ref t, .int k]).toArray 2)
  rw [lg_entry_eq]
  generalize (lg_sl ([.ref t, .int k]) ++ List.replicate (2 - (lg_sl ([.ref t, .int k])).length) Slot.unset).toArray = ls at hl ⊢
  have hl : lv_has ls 2 [(0, .ref t), (1, .int k)] := hl
  refine lv_iload_n hx hb (eJ1_charAt_3b067 (0, .iload_n 1, 1) (List.mem_of_getElem? (i := 0) rfl)) rfl (lv_at hl 1 rfl) ?_
  refine lv_aload_n hx hb (eJ1_charAt_3b067 (1, .aload_n 0, 1) (List.mem_of_getElem? (i := 1) rfl)) rfl (lv_at hl 0 rfl) ?_
  refine va_tlen (v := Int32.ofNat n) hx hb hT hrf rfl (eJ1_charAt_3b067 (2, .arraylength, 1) (List.mem_of_getElem? (i := 2) rfl)) ?_
  refine runQ_ (va_runS (As := [.int k, .int (Int32.ofNat n)]) (rest := []) ⟨hx, hb, hml, hown, hg⟩ (st_ck l h0 h1) ⟨callB_of 2 hg (gin_ (ws := [Cond.code yJ0_checkIndex_df160 cJ0_checkIndex_df160 2 none]) (fun w hw => by
      simp only [List.mem_cons, List.not_mem_nil, or_false] at hw
      subst hw; exact wc_J0_checkIndex_df160)) rfl rfl rfl (hg _ wn_J0) (hg _ wl_J1_9) ⟨by decide, by decide, by decide⟩ (by decide), hg _ wt_J0_checkIndex_df160⟩ ⟨psb_, fun U hU hW => ⟨rfl, XS_move hX hrf hU hW (fun _ h => h)⟩⟩ rfl rfl hl.1 rfl (by decide) (eJ1_charAt_3b067 (3, .invokestatic 9, 3) (List.mem_of_getElem? (i := 3) rfl)) (by decide)) ?_
  show W p l e _ s m _ below meth c s.heap [] 0 0 _ (F0 m 6 ls [])
  refine lv_aload_n hx hb (eJ1_charAt_3b067 (6, .aload_n 0, 1) (List.mem_of_getElem? (i := 4) rfl)) rfl (lv_at hl 0 rfl) ?_
  refine lv_iload_n hx hb (eJ1_charAt_3b067 (7, .iload_n 1, 1) (List.mem_of_getElem? (i := 5) rfl)) rfl (lv_at hl 1 rfl) ?_
  refine va_tb hx hb hT hrf hin hf (eJ1_charAt_3b067 (8, .baload, 1) (List.mem_of_getElem? (i := 6) rfl)) ?_
  refine lv_sipush (v := 255) hx hb (eJ1_charAt_3b067 (9, .sipush 255, 3) (List.mem_of_getElem? (i := 7) rfl)) (by decide) ?_
  refine lv_iand hx hb (eJ1_charAt_3b067 (12, .iand, 1) (List.mem_of_getElem? (i := 8) rfl)) ?_
  refine lv_i2c hx hb (eJ1_charAt_3b067 (13, .i2c, 1) (List.mem_of_getElem? (i := 9) rfl)) hr ?_
  exact W.zret hx hb B.returns hnr (fun t ht hW => ⟨rfl, ht⟩) (fun _ h => absurd h List.not_mem_nil) (eJ1_charAt_3b067 (14, .ireturn, 1) (List.mem_of_getElem? (i := 10) rfl))
def chS_ (i k : Nat) : Int32 := (bytS_.getD i []).getD k 0
theorem chS_ok : ∀ i : Nat, i < 14 → ∀ k : Nat, k < lenS_.getD i 0 → ((chS_ i k &&& 255).toUInt32 % 65536).toInt32 = chS_ i k ∧ narrow .char (.int (chS_ i k)) = .int (chS_ i k) ∧ 0 ≤ (chS_ i k).toInt ∧ (chS_ i k).toInt ≤ 122 := by decide +kernel
theorem lenS_ok : ∀ i : Nat, i < 14 → 1 ≤ lenS_.getD i 0 ∧ lenS_.getD i 0 ≤ 5 := by decide +kernel
theorem st_chr (l : Launch) {cs : Nat → Nat} {A : Nat → Prop} {i k : Nat} (hi : i < 14) (hk : k < lenS_.getD i 0) : Met l yJ0_charAt_5068e (.code yJ0_charAt_5068e cJ0_charAt_5068e 2 (some .char) :: gl_) { frames := 4, cells := 0, slots := 0, locals := 85 } (PS_ cs A #[.ref (cs (i + 1)), .int (Int32.ofNat k)]) (QS_ (some (.int (chS_ i k)))) 0 0 (fun _ => False) := by
  refine Met.ofW (cc := cJ0_charAt_5068e) (maxL := 2) (ret := (some .char)) (by decide) rfl ?_
  intro p e s m args below meth c s₁ B hml hP
  obtain ⟨rfl, hX⟩ := hP
  obtain ⟨⟨adV, hS⟩, -, hZ, -⟩ := id hX
  have hok := chS_ok i hi k hk
  have hle := lenS_ok i hi
  have hts := atoms_spec (ws := .code yJ0_charAt_5068e cJ0_charAt_5068e 2 (some .char) :: gl_) B.pre
  have hg : ∀ w ∈ gl_, w.before _ s = true := fun w hw => hts w (List.mem_cons_of_mem _ hw)
  have hown := findClass_of_methodNamed B.named
  have hx := B.exec
  have hb := B.bytes
  have hlocks := B.notSynchronized
  have hl := lv_entry ([.ref (cs (i + 1)), .int (Int32.ofNat k)]) (n := 2) (Nat.le_of_ble_eq_true rfl)
  have hrf : va_S A s.heap s.heap [] := va_S.rf
  show W p l e _ s m _ below meth c s.heap [] 0 0 _ (entryFrame m ([.ref (cs (i + 1)), .int (Int32.ofNat k)]).toArray 2)
  rw [lg_entry_eq]
  generalize (lg_sl ([.ref (cs (i + 1)), .int (Int32.ofNat k)]) ++ List.replicate (2 - (lg_sl ([.ref (cs (i + 1)), .int (Int32.ofNat k)])).length) Slot.unset).toArray = ls at hl ⊢
  have hl : lv_has ls 2 [(0, .ref (cs (i + 1))), (1, .int (Int32.ofNat k))] := hl
  refine lv_aload_n hx hb (eJ0_charAt_5068e (0, .aload_n 0, 1) (List.mem_of_getElem? (i := 0) rfl)) rfl (lv_at hl 0 rfl) ?_
  refine runQ_ (va_runV (As := []) (rest := []) (b := cs (i + 1)) (C := RJ0) ⟨hx, hb, hml, hown, hg⟩ (st_lat l hi) (cwV 0 hg (by
      have := gin_ (ws := [Cond.methodLink RJ0 492 yJ0_isLatin1_aae02, Cond.instanceMethod yJ0_isLatin1_aae02, Cond.selects RJ0 yJ0_isLatin1_aae02 yJ0_isLatin1_aae02, Cond.initialized RJ0, Cond.code yJ0_isLatin1_aae02 cJ0_isLatin1_aae02 1 (some .boolean)]) (fun w hw => by
        simp only [List.mem_cons, List.not_mem_nil, or_false] at hw
        rcases hw with rfl | rfl | rfl | rfl | rfl
        · exact wl_J0_492
        · exact wi_J0_isLatin1_aae02
        · exact ws_J0_isLatin1_aae02
        · exact wn_J0
        · exact wc_J0_isLatin1_aae02)
      exact this) rfl rfl rfl ⟨rfl, by decide, by decide, by decide⟩ (by decide)) ⟨psb_, vk_recv hS hi hrf, fun U hU hW => ⟨rfl, XS_move hX hrf hU hW (fun _ h => h)⟩⟩ rfl rfl hl.1 rfl (by decide) (eJ0_charAt_5068e (1, .invokevirtual 492, 3) (List.mem_of_getElem? (i := 1) rfl)) (by decide)) ?_
  show W p l e _ s m _ below meth c s.heap [] 0 0 _ (F0 m 4 ls [.int 1])
  refine lv_if_eq hx hb (eJ0_charAt_5068e (4, .ifCond .eq 12, 3) (List.mem_of_getElem? (i := 2) rfl)) rfl (fun h => absurd h (by decide)) (fun _ => ?_)
  refine lv_aload_n hx hb (eJ0_charAt_5068e (7, .aload_n 0, 1) (List.mem_of_getElem? (i := 3) rfl)) rfl (lv_at hl 0 rfl) ?_
  refine vk_getf hx hb (hS.1 i hi).2.2.1 hrf hown (hg _ wfs_9) (fun _ h => h) (eJ0_charAt_5068e (8, .getfield 9, 3) (List.mem_of_getElem? (i := 4) rfl)) ?_
  refine lv_iload_n hx hb (eJ0_charAt_5068e (11, .iload_n 1, 1) (List.mem_of_getElem? (i := 5) rfl)) rfl (lv_at hl 1 rfl) ?_
  have ek : (Int32.ofNat k) = Int32.ofInt (k : Int) := rfl
  have hin : vp_in (Int32.ofNat k) (lenS_.getD i 0) := by rw [ek]; exact in_ (by omega) (by omega)
  have ecl : (Int32.ofNat k).toNatClampNeg = k := by rw [ek, cl_ (by omega) (by omega), Int.toNat_natCast]
  have hn0 : ¬ Int32.ofNat k < 0 := fun h => hin (Or.inl h)
  have hlt : Int32.ofNat k < Int32.ofNat (lenS_.getD i 0) := by
    show Int32.ofInt (k : Int) < Int32.ofInt ((lenS_.getD i 0 : Nat) : Int)
    rw [i3_lt (by omega) (by omega)]
    omega
  refine runQ_ (va_runS (As := [.ref (adV i), .int (Int32.ofNat k)]) (rest := []) ⟨hx, hb, hml, hown, hg⟩ (st_ch1 (v := chS_ i k) (r := chS_ i k) l hn0 hlt hin (by rw [ecl]; rfl) hok.1 hok.2.1) ⟨callB_of 2 hg (gin_ (ws := [Cond.code yJ1_charAt_3b067 cJ1_charAt_3b067 2 (some .char)]) (fun w hw => by
      simp only [List.mem_cons, List.not_mem_nil, or_false] at hw
      subst hw; exact wc_J1_charAt_3b067)) rfl rfl rfl (hg _ wn_J1) (hg _ wl_J0_495) ⟨by decide, by decide, by decide⟩ (by decide), hg _ wt_J1_charAt_3b067⟩ ⟨ptb_, fun U hU hW => ⟨rfl, by rw [hU]; exact va_T.moved hW.alike (hS.1 i hi).2.2.2, XS_move hX hrf hU hW (fun _ h => h)⟩⟩ rfl rfl hl.1 rfl (by decide) (eJ0_charAt_5068e (12, .invokestatic 495, 3) (List.mem_of_getElem? (i := 6) rfl)) (by decide)) ?_
  show W p l e _ s m _ below meth c s.heap [] 0 0 _ (F0 m 15 ls [.int (chS_ i k)])
  exact W.zret hx hb B.returns hok.2.1 (fun t ht hW => ⟨rfl, ht⟩) (fun _ h => absurd h List.not_mem_nil) (eJ0_charAt_5068e (15, .ireturn, 1) (List.mem_of_getElem? (i := 7) rfl))
def slen_ (c : Int) : Int := ((lenS_.getD (c - 1).toNat 0 : Nat) : Int)
def schr_ (c i : Int) : Int := (chS_ (c - 1).toNat i.toNat).toInt
def TLEN_ : Tr_t := fun args σ k => ∃ c : Int, args = [(4, c)] ∧ (1 ≤ c ∧ c ≤ 14) ∧ ∀ z : Int, z = slen_ c → 1 ≤ z ∧ z ≤ 5 → k [(0, z)] σ
def TCHR_ : Tr_t := fun args σ k => ∃ c i : Int, args = [(4, c), (0, i)] ∧ (1 ≤ c ∧ c ≤ 14) ∧ (0 ≤ i ∧ i < slen_ c) ∧ ∀ z : Int, z = schr_ c i → 0 ≤ z ∧ z ≤ 122 → k [(0, z)] σ
theorem so_ldcs {X : Cx_t} {G : Gx_t} {Q : State → Prop} {cl sl pc n i : Nat} {ad shs : List Nat} {σ : Me_t} {L S : List Sv_t} {own tx : String} {cc : ByteArray} {nL : Nat} {rty : Option FieldType} (E : EN_ X G own cc nL rty) (hd : decode cc pc = .ok (.ldc n, 2)) (hq : (own, n, tx, i) ∈ strS_) (k : WP_ X G Q cl sl ad shs σ (pc + 2) L ((4, ((i : Int) + 1)) :: S)) : WP_ X G Q cl sl ad shs σ pc L S := by
  intro hM hA H locs ls hP hD hS hlh vL vS
  refine va_ldcS E.1 E.2.1 E.2.2.2.1 (E.2.2.2.2.2.2.2.2.2.2.1 _ hq) hd ?_
  have := k hM hA H locs ls hP hD hS hlh vL (vc_ (show tv_ shs (4, ((i : Int) + 1)) from trivial) vS)
  rw [List.map_cons, val_4, show ((i : Int) + 1).toNat = i + 1 by omega] at this
  exact this
theorem cok_len {X : Cx_t} {G : Gx_t} {Q : State → Prop} {cl sl idx : Nat} {ad shs : List Nat} {own : String} {cc : ByteArray} {nL : Nat} {rty : Option FieldType} (E : EN_ X G own cc nL rty) (hRm : 1 + 1 ≤ X.2.2.2.1.frames ∧ 8 + (1 + 11) + 20 ≤ X.2.2.2.1.locals) (hc0 : cl ≤ X.2.2.2.1.cells) (hs0 : sl ≤ X.2.2.2.1.slots) (w1 : Cond.methodLink own idx yJ0_length_8abf5 ∈ gl_) : COK_ X G Q cl sl ad shs cc nL (2 * idx) 1 TLEN_ := by
  obtain ⟨p, l, e, R, s, m, args, below, meth, code⟩ := X
  obtain ⟨D, tc, cs, A⟩ := G
  intro pc i σ L as0 S k hi hd hlen hcs hL hT hk
  have hi : i = .invokevirtual idx := by
    rcases hi with ⟨h, -⟩ | ⟨-, h⟩
    · rw [Nat.mul_div_cancel_left _ (by omega)] at h; exact h
    · omega
  subst hi
  obtain ⟨c, rfl, hc, hpost⟩ := hT
  obtain ⟨i, rfl⟩ : ∃ i : Nat, c = (i : Int) + 1 := ⟨(c - 1).toNat, by omega⟩
  have hi : i < 14 := by omega
  have ei : ((i : Int) + 1 - 1).toNat = i := by omega
  have hlo := lenS_ok i hi
  intro hM hA H locs ls hP hD hS hlh vL vS
  have hX : XS_ cs A s := E.2.2.2.2.2.2.2.2.2
  obtain ⟨⟨adV, hSS⟩, -, hZ, -⟩ := id hX
  have hg : ∀ w ∈ gl_, w.before args s = true := E.2.2.2.2.1
  have ev : val_ cs ad (4, (i : Int) + 1) = .ref (cs (i + 1)) := by rw [val_4, show ((i : Int) + 1).toNat = i + 1 by omega]
  show W p l e R s m args below meth code H locs cl sl Q (F0 m pc ls (val_ cs ad (4, (i : Int) + 1) :: S.map (val_ cs ad)))
  rw [ev]
  refine runQ_ (va_runV (As := []) (rest := S.map (val_ cs ad)) (b := cs (i + 1)) (C := RJ0) ⟨E.1, E.2.1, E.2.2.1, E.2.2.2.1, hg⟩ (st_len l hi) (cwV 0 hg ?_ rfl rfl rfl ⟨rfl, by decide, by decide, by decide⟩ hRm) ⟨psb_, vk_recv hSS hi hS, fun U hU hW => ⟨rfl, XS_move hX hS hU hW (fun _ h => h)⟩⟩ rfl rfl (hlh.1.trans hL) rfl ?_ hd ⟨hc0, hs0⟩) ?_
  · have := gin_ (ws := [Cond.methodLink own idx yJ0_length_8abf5, Cond.instanceMethod yJ0_length_8abf5, Cond.selects RJ0 yJ0_length_8abf5 yJ0_length_8abf5, Cond.initialized RJ0, Cond.code yJ0_length_8abf5 cJ0_length_8abf5 1 (some .int)]) (fun w hw => by
      simp only [List.mem_cons, List.not_mem_nil, or_false] at hw
      rcases hw with rfl | rfl | rfl | rfl | rfl
      · exact w1
      · exact wi_J0_length_8abf5
      · exact ws_J0_length_8abf5
      · exact wn_J0
      · exact wc_J0_length_8abf5)
    exact this
  · rw [map_cat]
    show 2 * 0 + csum_ S ≤ 8
    omega
  · have hs : slen_ ((i : Int) + 1) = ((lenS_.getD i 0 : Nat) : Int) := by unfold slen_; rw [ei]
    have key := hk [(0, slen_ ((i : Int) + 1))] σ (hpost _ rfl (by rw [hs]; omega)) hM hA H locs ls hP hD hS hlh vL (vc_ (by rw [hs]; exact ⟨by omega, by omega⟩) (vt_ vS).2)
    rw [hs] at key
    exact key
theorem cok_chr {X : Cx_t} {G : Gx_t} {Q : State → Prop} {cl sl idx : Nat} {ad shs : List Nat} {own : String} {cc : ByteArray} {nL : Nat} {rty : Option FieldType} (E : EN_ X G own cc nL rty) (hRm : 4 + 1 ≤ X.2.2.2.1.frames ∧ 8 + (2 + 11) + 85 ≤ X.2.2.2.1.locals) (hc0 : cl ≤ X.2.2.2.1.cells) (hs0 : sl ≤ X.2.2.2.1.slots) (w1 : Cond.methodLink own idx yJ0_charAt_5068e ∈ gl_) : COK_ X G Q cl sl ad shs cc nL (2 * idx) 2 TCHR_ := by
  obtain ⟨p, l, e, R, s, m, args, below, meth, code⟩ := X
  obtain ⟨D, tc, cs, A⟩ := G
  intro pc i σ L as0 S k hi hd hlen hcs hL hT hk
  have hi : i = .invokevirtual idx := by
    rcases hi with ⟨h, -⟩ | ⟨-, h⟩
    · rw [Nat.mul_div_cancel_left _ (by omega)] at h; exact h
    · omega
  subst hi
  obtain ⟨c, j, rfl, hc, hj, hpost⟩ := hT
  obtain ⟨i, rfl⟩ : ∃ i : Nat, c = (i : Int) + 1 := ⟨(c - 1).toNat, by omega⟩
  have hi : i < 14 := by omega
  have ei : ((i : Int) + 1 - 1).toNat = i := by omega
  have hs : slen_ ((i : Int) + 1) = ((lenS_.getD i 0 : Nat) : Int) := by unfold slen_; rw [ei]
  rw [hs] at hj
  obtain ⟨q, rfl⟩ : ∃ q : Nat, j = (q : Int) := ⟨j.toNat, by omega⟩
  have hq : q < lenS_.getD i 0 := by omega
  have hlo := lenS_ok i hi
  have hok := chS_ok i hi q hq
  intro hM hA H locs ls hP hD hS hlh vL vS
  have hX : XS_ cs A s := E.2.2.2.2.2.2.2.2.2
  obtain ⟨⟨adV, hSS⟩, -, hZ, -⟩ := id hX
  have hg : ∀ w ∈ gl_, w.before args s = true := E.2.2.2.2.1
  have ev : val_ cs ad (4, (i : Int) + 1) = .ref (cs (i + 1)) := by rw [val_4, show ((i : Int) + 1).toNat = i + 1 by omega]
  show W p l e R s m args below meth code H locs cl sl Q (F0 m pc ls (val_ cs ad (0, (q : Int)) :: val_ cs ad (4, (i : Int) + 1) :: S.map (val_ cs ad)))
  rw [ev]
  refine runQ_ (va_runV (As := [.int (Int32.ofNat q)]) (rest := S.map (val_ cs ad)) (b := cs (i + 1)) (C := RJ0) ⟨E.1, E.2.1, E.2.2.1, E.2.2.2.1, hg⟩ (st_chr l hi hq) (cwV 1 hg ?_ rfl rfl rfl ⟨rfl, by decide, by decide, by decide⟩ hRm) ⟨psb_, vk_recv hSS hi hS, fun U hU hW => ⟨rfl, XS_move hX hS hU hW (fun _ h => h)⟩⟩ rfl rfl (hlh.1.trans hL) rfl ?_ hd ⟨hc0, hs0⟩) ?_
  · have := gin_ (ws := [Cond.methodLink own idx yJ0_charAt_5068e, Cond.instanceMethod yJ0_charAt_5068e, Cond.selects RJ0 yJ0_charAt_5068e yJ0_charAt_5068e, Cond.initialized RJ0, Cond.code yJ0_charAt_5068e cJ0_charAt_5068e 2 (some .char)]) (fun w hw => by
      simp only [List.mem_cons, List.not_mem_nil, or_false] at hw
      rcases hw with rfl | rfl | rfl | rfl | rfl
      · exact w1
      · exact wi_J0_charAt_5068e
      · exact ws_J0_charAt_5068e
      · exact wn_J0
      · exact wc_J0_charAt_5068e)
    exact this
  · rw [map_cat]
    show 2 * 0 + csum_ S ≤ 8
    omega
  · have hz : schr_ ((i : Int) + 1) (q : Int) = (chS_ i q).toInt := by unfold schr_; rw [ei, Int.toNat_natCast]
    have key := hk [(0, schr_ ((i : Int) + 1) (q : Int))] σ (hpost _ rfl (by rw [hz]; exact hok.2.2)) hM hA H locs ls hP hD hS hlh vL (vc_ (by rw [hz]; have := hok.2.2; exact ⟨by omega, by omega⟩) (vt_ (vt_ vS).2).2)
    rw [hz, List.cons_append, List.map_cons, val_0, i3_o] at key
    exact key
