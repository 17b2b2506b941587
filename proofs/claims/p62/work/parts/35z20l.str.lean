theorem st_chr (l : Launch) {cs : Nat → Nat} {A : Nat → Prop} {i k : Nat} (hi : i < 14) (hk : k < lenS_.getD i 0) : Met l yJ0_charAt_5068e (.code yJ0_charAt_5068e cJ0_charAt_5068e 2 (some .char) :: gl_) { frames := 4, cells := 0, slots := 0, locals := 85 } (PS_ cs A #[.ref (cs (i + 1)), .int (Int32.ofNat k)]) (QS_ (some (.int (chS_ i k)))) 0 0 (fun _ => False) := by
  refine st_of (vs := [.ref (cs (i + 1)), .int (Int32.ofNat k)]) (P := (XS_ cs A)) (by decide) (Nat.le_of_ble_eq_true rfl) ?_
  intro p e s m below meth c ls Q hx hb hml hown hg hret hlocks hl hX hQ
  have hown : s.vm.findClass RJ0 = some m.cls := hown
  obtain ⟨⟨adV, hS⟩, -, hZ, -⟩ := id hX
  have hok := chS_ok i hi k hk
  have hle := lenS_ok i hi
  have hrf : va_S A s.heap s.heap [] := va_S.rf
  have hl : lv_has ls 2 [(0, .ref (cs (i + 1))), (1, .int (Int32.ofNat k))] := hl
  refine lv_aload_n hx hb (eJ0_charAt_5068e (0, .aload_n 0, 1) (List.mem_of_getElem? (i := 0) rfl)) rfl (lv_at hl 0 rfl) ?_
  refine runQ_ (va_runV (As := []) (rest := []) (b := cs (i + 1)) (C := RJ0) ⟨hx, hb, hml, hown, hg⟩ (st_lat l hi) (cwV 0 hg (by
      have := gin_ (ws := [Cond.methodLink RJ0 492 yJ0_isLatin1_aae02, Cond.instanceMethod yJ0_isLatin1_aae02, Cond.selects RJ0 yJ0_isLatin1_aae02 yJ0_isLatin1_aae02, Cond.initialized RJ0, Cond.code yJ0_isLatin1_aae02 cJ0_isLatin1_aae02 1 (some .boolean)]) (fun w hw => by
        simp only [List.mem_cons, List.not_mem_nil, or_false] at hw
        rcases hw with rfl | rfl | rfl | rfl | rfl
        · exact wl_J0_492
        · exact wi_J0_isLatin1_aae02
        · exact ws_J0_isLatin1_aae02
        · exact wn_J0
        · exact wc_J0_isLatin1_aae02)
      exact this) rfl rfl rfl ⟨rfl, by decide, by decide, by decide⟩ (by decide)) ⟨psb_, vk_recv (adK := fun i => cs (i + 1)) (i := i) hS hi hrf, fun U hU hW => ⟨rfl, XS_move hX hrf hU hW (fun _ h => h)⟩⟩ rfl rfl hl.1 rfl (Nat.le_of_ble_eq_true rfl) (eJ0_charAt_5068e (1, .invokevirtual 492, 3) (List.mem_of_getElem? (i := 1) rfl)) (by decide)) ?_
  show W p l e _ s m _ below meth c s.heap [] 0 0 Q (F0 m 4 ls [.int 1])
  refine lv_if_eq hx hb (eJ0_charAt_5068e (4, .ifCond .eq 12, 3) (List.mem_of_getElem? (i := 2) rfl)) rfl (fun h => absurd h (by decide)) (fun _ => ?_)
  refine lv_aload_n hx hb (eJ0_charAt_5068e (7, .aload_n 0, 1) (List.mem_of_getElem? (i := 3) rfl)) rfl (lv_at hl 0 rfl) ?_
  refine vk_getf hx hb (hS.1 i hi).2.2.1 hrf hown (hg _ wfs_9) (fun _ h => h) (eJ0_charAt_5068e (8, .getfield 9, 3) (List.mem_of_getElem? (i := 4) rfl)) ?_
  refine lv_iload_n hx hb (eJ0_charAt_5068e (11, .iload_n 1, 1) (List.mem_of_getElem? (i := 5) rfl)) rfl (lv_at hl 1 rfl) ?_
  have ek : (Int32.ofNat k) = Int32.ofInt (k : Int) := rfl
  have hin : vp_in (Int32.ofNat k) (lenS_.getD i 0) := by rw [ek]; exact in_ (by omega) (by omega)
  have ecl : (Int32.ofNat k).toNatClampNeg = k := by rw [ek, cl_ (by omega) (by omega), Int.toNat_natCast]
  have hn0 : ¬ Int32.ofNat k < 0 := fun h => hin (Or.inl h)
  have hlt : Int32.ofNat k < Int32.ofNat (lenS_.getD i 0) := by
    show Int32.ofInt (k : Int) < Int32.ofInt ((lenS_.getD i 0 : Nat) : Int)
    rw [i3_lt (by omega) (by omega)]
    omega
  refine runQ_ (va_runS (As := [.ref (adV i), .int (Int32.ofNat k)]) (rest := []) ⟨hx, hb, hml, hown, hg⟩ (st_ch1 (v := chS_ i k) (r := chS_ i k) l hn0 hlt hin (by rw [ecl]) hok.1 hok.2.1) ⟨callB_of 2 hg (gin_ (ws := [Cond.code yJ1_charAt_3b067 cJ1_charAt_3b067 2 (some .char)]) (fun w hw => by
      simp only [List.mem_cons, List.not_mem_nil, or_false] at hw
      subst hw; exact wc_J1_charAt_3b067)) rfl rfl rfl (hg _ wn_J1) (hg _ wl_J0_495) ⟨by decide, by decide, by decide⟩ (by decide), hg _ wt_J1_charAt_3b067⟩ ⟨ptb_, fun U hU hW => ⟨rfl, by rw [hU]; exact va_T.moved hW.alike (hS.1 i hi).2.2.2, XS_move hX hrf hU hW (fun _ h => h)⟩⟩ rfl rfl hl.1 rfl (Nat.le_of_ble_eq_true rfl) (eJ0_charAt_5068e (12, .invokestatic 495, 3) (List.mem_of_getElem? (i := 6) rfl)) (by decide)) ?_
  show W p l e _ s m _ below meth c s.heap [] 0 0 Q (F0 m 15 ls [.int (chS_ i k)])
  subst hQ
  exact W.zret hx hb hret hok.2.1 (fun t ht hW => ⟨rfl, ht⟩) (fun _ h => absurd h List.not_mem_nil) (eJ0_charAt_5068e (15, .ireturn, 1) (List.mem_of_getElem? (i := 7) rfl))
