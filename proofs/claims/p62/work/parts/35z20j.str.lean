theorem st_ch1 (l : Launch) {cs : Nat → Nat} {A : Nat → Prop} {t n : Nat} {f : Nat → Value} {k v r : Int32} (h0 : ¬ k < 0) (h1 : k < Int32.ofNat n) (hin : vp_in k n) (hf : f k.toNatClampNeg = .int v) (hr : ((v &&& 255).toUInt32 % 65536).toInt32 = r) (hnr : narrow .char (.int r) = .int r) : Met l yJ1_charAt_3b067 (.code yJ1_charAt_3b067 cJ1_charAt_3b067 2 (some .char) :: gl_) { frames := 2, cells := 0, slots := 0, locals := 43 } (PT1_ cs A t n f #[.ref t, .int k]) (QS_ (some (.int r))) 0 0 (fun _ => False) := by
  refine st_of (vs := [.ref t, .int k]) (P := (fun U => va_T .byte t n f A U U.heap ∧ XS_ cs A U)) (by decide) (Nat.le_of_ble_eq_true rfl) ?_
  intro p e s m below meth c ls Q hx hb hml hown hg hret hlocks hl hX hQ
  have hown : s.vm.findClass RJ1 = some m.cls := hown
  obtain ⟨hT, hX⟩ := hX
  have hrf : va_S A s.heap s.heap [] := va_S.rf
  have hl : lv_has ls 2 [(0, .ref t), (1, .int k)] := hl
  refine lv_iload_n hx hb (eJ1_charAt_3b067 (0, .iload_n 1, 1) (List.mem_of_getElem? (i := 0) rfl)) rfl (lv_at hl 1 rfl) ?_
  refine lv_aload_n hx hb (eJ1_charAt_3b067 (1, .aload_n 0, 1) (List.mem_of_getElem? (i := 1) rfl)) rfl (lv_at hl 0 rfl) ?_
  refine va_tlen (v := Int32.ofNat n) hx hb hT hrf rfl (eJ1_charAt_3b067 (2, .arraylength, 1) (List.mem_of_getElem? (i := 2) rfl)) ?_
  refine runQ_ (va_runS (As := [.int k, .int (Int32.ofNat n)]) (rest := []) ⟨hx, hb, hml, hown, hg⟩ (st_ck l h0 h1) ⟨callB_of 2 hg (gin_ (ws := [Cond.code yJ0_checkIndex_df160 cJ0_checkIndex_df160 2 none]) (fun w hw => by
      simp only [List.mem_cons, List.not_mem_nil, or_false] at hw
      subst hw; exact wc_J0_checkIndex_df160)) rfl rfl rfl (hg _ wn_J0) (hg _ wl_J1_9) ⟨by decide, by decide, by decide⟩ (by decide), hg _ wt_J0_checkIndex_df160⟩ ⟨psb_, fun U hU hW => ⟨rfl, XS_move hX hrf hU hW (fun _ h => h)⟩⟩ rfl rfl hl.1 rfl (Nat.le_of_ble_eq_true rfl) (eJ1_charAt_3b067 (3, .invokestatic 9, 3) (List.mem_of_getElem? (i := 3) rfl)) (by decide)) ?_
  show W p l e _ s m _ below meth c s.heap [] 0 0 Q (F0 m 6 ls [])
  refine lv_aload_n hx hb (eJ1_charAt_3b067 (6, .aload_n 0, 1) (List.mem_of_getElem? (i := 4) rfl)) rfl (lv_at hl 0 rfl) ?_
  refine lv_iload_n hx hb (eJ1_charAt_3b067 (7, .iload_n 1, 1) (List.mem_of_getElem? (i := 5) rfl)) rfl (lv_at hl 1 rfl) ?_
  refine va_tb hx hb hT hrf hin hf (eJ1_charAt_3b067 (8, .baload, 1) (List.mem_of_getElem? (i := 6) rfl)) ?_
  refine lv_sipush (v := 255) hx hb (eJ1_charAt_3b067 (9, .sipush 255, 3) (List.mem_of_getElem? (i := 7) rfl)) (by decide) ?_
  refine lv_iand hx hb (eJ1_charAt_3b067 (12, .iand, 1) (List.mem_of_getElem? (i := 8) rfl)) ?_
  refine lv_i2c hx hb (eJ1_charAt_3b067 (13, .i2c, 1) (List.mem_of_getElem? (i := 9) rfl)) hr ?_
  subst hQ
  exact W.zret hx hb hret hnr (fun t ht hW => ⟨rfl, ht⟩) (fun _ h => absurd h List.not_mem_nil) (eJ1_charAt_3b067 (14, .ireturn, 1) (List.mem_of_getElem? (i := 10) rfl))
