set_option maxRecDepth 100000 in
theorem wk_L_7 : Cond.classLink RL 7 RX10 ∈ gl_ := wg_ 97 (by decide +kernel) rfl
set_option maxRecDepth 100000 in
theorem wx_X10 : Cond.instantiable RX10 14 ∈ gl_ := wg_ 98 (by decide +kernel) rfl
set_option maxRecDepth 100000 in
theorem wk_L_10 : Cond.classLink RL 10 RX11 ∈ gl_ := wg_ 1225 (by decide +kernel) rfl
set_option maxRecDepth 100000 in
theorem wx_X11 : Cond.instantiable RX11 39 ∈ gl_ := wg_ 1226 (by decide +kernel) rfl
section LAW
variable {X : Cx_t} {G : Gx_t} {Q : State → Prop} {cl sl : Nat} {ad : List Nat} {n : Nat} {xs : Int → Int}
set_option maxHeartbeats 4000000 in
set_option maxRecDepth 100000 in
/-- from the entry -/
theorem law_run (E : EN_ X G RL cL_law 4 (some .boolean)) (hR : X.2.2.2.1 = room_1) (hA0 : ∀ q, X.2.2.2.2.1.heap.size ≤ q → G.2.2.2 q) (hAO : AO_ X.2.2.2.2.1) (SC : ∀ (cl sl : Nat) (ad : List Nat), SOK_ X G Q cl sl ad SHS_ cL_law (some (n, xs))) (hn : n ≤ 3072) (F : ∀ (ad : List Nat) (τ : Me_t) (L : List Sv_t), WP_ X G Q 106 48482 ad SHS_ τ 2812 L [(0, 1)]) : WP_ X G Q 0 0 [] (SHR_.take 0) s0_ 0 [(4, 0), (9, 0), (9, 0), (9, 0)] [] := by
  have B := fun (cl sl : Nat) (ad shs : List Nat) => @bk_ X G Q cl sl ad shs RL cL_law 4 (some .boolean) flL plL knL [] 9 (fun _ _ => False) none kL_0 [0, 4, 8, 12, 18] flL_ok plL_ok knL_ok eL_0 oL_0 (fun _ h => absurd h List.not_mem_nil) (fun _ _ _ _ _ h => h.elim) sok_no E
  refine so_new (n := 0) (sh := 70) (c := 10) (N := 14) E hA0 (eL_0 (0, .new 7, 3) (List.mem_of_getElem? (i := 0) rfl)) rfl rfl rfl (by decide) (fun _ _ _ => rfl) wk_L_7 wx_X10 wn_X10 (by rw [hR]; decide) (by rw [hR]; decide) s0_df rfl ?_
  intro q0
  refine B _ _ _ _ rfl ?_
  show WP_ X G Q _ _ _ _ _ 4 _ _
  refine so_ctor (o := 0) (m := 86) (t := 70) E hA0 hAO (cn_X10 X.2.1 0 rfl rfl rfl rfl rfl rfl rfl rfl rfl rfl rfl rfl rfl rfl rfl rfl rfl rfl rfl rfl rfl rfl rfl rfl rfl rfl rfl rfl rfl rfl rfl rfl rfl rfl rfl rfl rfl rfl rfl rfl rfl rfl rfl rfl rfl rfl rfl rfl rfl rfl rfl rfl rfl rfl rfl rfl rfl rfl rfl rfl rfl rfl rfl rfl rfl rfl rfl rfl rfl rfl rfl rfl rfl rfl rfl rfl rfl rfl rfl rfl rfl rfl rfl rfl rfl rfl) (by omega) (by rw [hR]; decide) (by rw [hR]; decide) (by rw [hR]; decide) (eL_0 (4, .invokespecial 9, 3) (List.mem_of_getElem? (i := 2) rfl)) rfl (Nat.le_of_ble_eq_true rfl) ⟨by decide, by decide, by decide, by decide⟩ wl_L_9 wi_X10_init wn_X10 wc_X10_init s0_df rfl ?_
  intro q1 _ e1
  subst e1
  refine B _ _ _ _ rfl ?_
  show WP_ X G Q _ _ _ _ _ 8 _ _
  refine so_new (n := 86) (sh := 71) (c := 11) (N := 39) E hA0 (eL_0 (8, .new 10, 3) (List.mem_of_getElem? (i := 4) rfl)) rfl rfl rfl (by decide) (fun _ _ _ => rfl) wk_L_10 wx_X11 wn_X11 (by rw [hR]; decide) (by rw [hR]; decide) (df_X10 (by omega) s0_df) rfl ?_
  intro q2
  refine B _ _ _ _ rfl ?_
  show WP_ X G Q _ _ _ _ _ 12 _ _
  refine so_ctor (o := 86) (m := 106) (t := 71) E hA0 hAO (cn_X11 X.2.1 86 rfl rfl rfl rfl rfl rfl rfl rfl rfl rfl rfl rfl rfl rfl rfl rfl rfl rfl rfl rfl) (by omega) (by rw [hR]; decide) (by rw [hR]; decide) (by rw [hR]; decide) (eL_0 (12, .invokespecial 12, 3) (List.mem_of_getElem? (i := 6) rfl)) rfl (Nat.le_of_ble_eq_true rfl) ⟨by decide, by decide, by decide, by decide⟩ wl_L_12 wi_X11_init wn_X11 wc_X11_init (df_X10 (by omega) s0_df) rfl ?_
  intro q3 _ e3
  subst e3
  refine B _ _ _ _ rfl ?_
  show WP_ X G Q 106 48482 _ (SHR_.take 106) sF_ 18 [(4, 0), (80, 0), (81, 86), (0, 0)] []
  refine conv_ sF_mc (fun hl hD => ?_)
  exact law_loop E hR (by rw [hR]; decide) (by rw [hR]; decide) (fun q hq => da_ hl hD hq) (SC _ _ _) hn (F _) (n + 1) 0 sF_ (by omega) sF_C sF_M sF_R (by omega)
end LAW
