def T_X10 (o : Nat) (σ : Me_t) : Me_t := ups_ (T_X4 (o + 84) (ups_ (T_X4 (o + 82) (ups_ (T_X4 (o + 80) (ups_ (T_X4 (o + 78) (ups_ (T_X9 (o + 67) (ups_ (T_X9 (o + 56) (ups_ (T_X9 (o + 45) (ups_ (ups_ (ups_ (T_X7 (o + 42) (ups_ (T_X6 (o + 39) (ups_ (T_X2 (o + 36) (ups_ (T_X5 (o + 34) (ups_ (T_X0 (o + 30) (ups_ (ups_ (ups_ (ups_ (T_X9 (o + 16) (ups_ (T_X9 (o + 5) (ups_ (T_X3 (o + 3) (ups_ (T_X8 (o + 1) (σ)) ((o : Nat) : Int) 0 ((o + 1 : Nat) : Int))) ((o : Nat) : Int) 1 ((o + 3 : Nat) : Int))) ((o : Nat) : Int) 2 ((o + 5 : Nat) : Int))) ((o : Nat) : Int) 3 ((o + 16 : Nat) : Int)) ((o : Nat) : Int) 4 ((o + 27 : Nat) : Int)) ((o : Nat) : Int) 5 ((o + 28 : Nat) : Int)) ((o : Nat) : Int) 6 ((o + 29 : Nat) : Int))) ((o : Nat) : Int) 7 ((o + 30 : Nat) : Int))) ((o : Nat) : Int) 8 ((o + 34 : Nat) : Int))) ((o : Nat) : Int) 9 ((o + 36 : Nat) : Int))) ((o : Nat) : Int) 10 ((o + 39 : Nat) : Int))) ((o : Nat) : Int) 11 ((o + 42 : Nat) : Int)) ((o : Nat) : Int) 12 0) ((o : Nat) : Int) 13 (-1))) ((o + 27 : Nat) : Int) 0 ((o + 45 : Nat) : Int))) ((o + 27 : Nat) : Int) (0 + 1) ((o + 56 : Nat) : Int))) ((o + 27 : Nat) : Int) ((0 + 1) + 1) ((o + 67 : Nat) : Int))) ((o + 29 : Nat) : Int) 0 ((o + 78 : Nat) : Int))) ((o + 29 : Nat) : Int) (0 + 1) ((o + 80 : Nat) : Int))) ((o + 29 : Nat) : Int) ((0 + 1) + 1) ((o + 82 : Nat) : Int))) ((o + 29 : Nat) : Int) (((0 + 1) + 1) + 1) ((o + 84 : Nat) : Int)
theorem T_X10_n {o : Nat} {σ : Me_t} {k j : Int} (h : k < (o : Int)) : T_X10 o σ k j = σ k j := ((ups_n (by omega)).trans ((T_X4_n (by omega)).trans ((ups_n (by omega)).trans ((T_X4_n (by omega)).trans ((ups_n (by omega)).trans ((T_X4_n (by omega)).trans ((ups_n (by omega)).trans ((T_X4_n (by omega)).trans ((ups_n (by omega)).trans ((T_X9_n (by omega)).trans ((ups_n (by omega)).trans ((T_X9_n (by omega)).trans ((ups_n (by omega)).trans ((T_X9_n (by omega)).trans ((ups_n (by omega)).trans ((ups_n (by omega)).trans ((ups_n (by omega)).trans ((T_X7_n (by omega)).trans ((ups_n (by omega)).trans ((T_X6_n (by omega)).trans ((ups_n (by omega)).trans ((T_X2_n (by omega)).trans ((ups_n (by omega)).trans ((T_X5_n (by omega)).trans ((ups_n (by omega)).trans ((T_X0_n (by omega)).trans ((ups_n (by omega)).trans ((ups_n (by omega)).trans ((ups_n (by omega)).trans ((ups_n (by omega)).trans ((T_X9_n (by omega)).trans ((ups_n (by omega)).trans ((T_X9_n (by omega)).trans ((ups_n (by omega)).trans ((T_X3_n (by omega)).trans ((ups_n (by omega)).trans ((T_X8_n (by omega)).trans rfl)))))))))))))))))))))))))))))))))))))
theorem df_X10 {o n : Nat} {σ : Me_t} (h : o + 86 ≤ n) (hD : DF_ o σ) : DF_ n (T_X10 o σ) := (df_up (by omega) (df_X4 (by omega) (df_up (by omega) (df_X4 (by omega) (df_up (by omega) (df_X4 (by omega) (df_up (by omega) (df_X4 (by omega) (df_up (by omega) (df_X9 (by omega) (df_up (by omega) (df_X9 (by omega) (df_up (by omega) (df_X9 (by omega) (df_up (by omega) (df_up (by omega) (df_up (by omega) (df_X7 (by omega) (df_up (by omega) (df_X6 (by omega) (df_up (by omega) (df_X2 (by omega) (df_up (by omega) (df_X5 (by omega) (df_up (by omega) (df_X0 (by omega) (df_up (by omega) (df_up (by omega) (df_up (by omega) (df_up (by omega) (df_X9 (by omega) (df_up (by omega) (df_X9 (by omega) (df_up (by omega) (df_X3 (by omega) (df_up (by omega) (df_X8 (by omega) (df_mono (by omega) hD))))))))))))))))))))))))))))))))))))))
set_option maxHeartbeats 4000000 in
set_option maxRecDepth 100000 in
theorem cx_X10_0 {X : Cx_t} {G : Gx_t} {Q : State → Prop} {o : Nat} {ad : List Nat} {σ : Me_t} (hR : X.2.2.2.1 = { frames := 3, cells := 85, slots := 20233, locals := 81 }) (E : EN_ X G RX10 cX10_init 2 none) (hA0 : ∀ q, X.2.2.2.2.1.heap.size ≤ q → G.2.2.2 q) (hAO : AO_ X.2.2.2.2.1) (hin : X.2.2.2.2.2.2.2.2.1.name = "<init>") (hs1 : SHR_[o + 1]? = some 68) (hs2 : SHR_[o + 2]? = some 2) (hs3 : SHR_[o + 3]? = some 63) (hs4 : SHR_[o + 4]? = some 4) (hD : DF_ (o) σ)  (k : ∀ (ad' : List Nat) (σ' : Me_t), (∃ qs, ad' = ad ++ qs) → σ' = ups_ (T_X3 (o + 3) (ups_ (T_X8 (o + 1) (σ)) ((o : Nat) : Int) 0 ((o + 1 : Nat) : Int))) ((o : Nat) : Int) 1 ((o + 3 : Nat) : Int) → WP_ X G Q 4 1210 ad' (SHR_.take (o + 5)) σ' 26 [(80, ((o : Nat) : Int)), (9, 0)] []) : WP_ X G Q 0 0 ad (SHR_.take (o + 1)) σ 0 [(80, ((o : Nat) : Int)), (9, 0)] [] := by
  have B := fun (cl sl : Nat) (ad shs : List Nat) => @bk_ X G Q cl sl ad shs RX10 cX10_init 2 none flX10 plX10 knX10 [] 9 (fun _ _ => False) none kX10_init [1, 5, 9, 12, 16, 20, 23, 27, 31, 38, 42, 50, 53, 58, 60, 65, 68, 72, 76, 79, 83, 87, 90, 94, 98, 101, 105, 109, 112, 116, 120, 123, 148, 152, 155, 174, 178, 181, 188] flX10_ok plX10_ok knX10_ok eX10_init oX10_init (fun _ h => absurd h List.not_mem_nil) (fun _ _ _ _ _ h => h.elim) sok_no E
  refine B _ _ _ _ rfl ?_
  show WP_ X G Q _ _ _ _ _ 1 _ _
  refine so_obj E (eX10_init (1, .invokespecial 1, 3) (List.mem_of_getElem? (i := 1) rfl)) wo_X10 wo_i wo_c rfl (by rw [hR]; decide) (by rw [hR]; decide) ?_
  refine B _ _ _ _ rfl ?_
  show WP_ X G Q _ _ _ _ _ 5 _ _
  refine so_new (n := o + 1) (sh := 68) (c := 8) (N := 2) E hA0 (eX10_init (5, .new 7, 3) (List.mem_of_getElem? (i := 3) rfl)) rfl rfl hs1 (by decide) (fun _ _ _ => rfl) wk_X10_7 wx_X8 wn_X8 (by rw [hR]; decide) (by rw [hR]; decide) (df_mono (by omega) hD) rfl ?_
  intro q0
  refine B _ _ _ _ rfl ?_
  show WP_ X G Q _ _ _ _ _ 9 _ _
  refine so_ctorN (host := RX10) (o := o + 1) (m := o + 3) (t := 68) E hA0 hAO (cn_X8 X.2.1 (o + 1) hs1 hs2) (by omega) (by rw [hR]; decide) (by rw [hR]; decide) (by rw [hR]; decide) (eX10_init (9, .invokespecial 9, 3) (List.mem_of_getElem? (i := 5) rfl)) rfl (Nat.le_of_ble_eq_true rfl) ⟨by decide, by decide, by decide, by decide⟩ wnl_X10_9 wi_X8_init wn_X8 wc_X8_init (df_mono (by omega) hD) rfl ?_
  intro q1 σ1 e1
  have d1 : DF_ (o + 3) σ1 := by rw [e1]; exact df_X8 (by omega) (df_mono (by omega) hD)
  refine so_putF (c := 10) (jn := 0) (ji := 0) (N := 14) (t := 70) (u := 68) E hin (eX10_init (12, .putfield 10, 3) (List.mem_of_getElem? (i := 6) rfl)) rfl rfl (by decide) rfl wf_X10_10 rfl rfl rfl (fun _ _ _ => rfl) ?_
  intro σ2 e2
  have d2 : DF_ (o + 3) σ2 := by rw [e2]; exact df_up (by omega) (df_mono (by omega) d1)
  refine B _ _ _ _ rfl ?_
  show WP_ X G Q _ _ _ _ _ 16 _ _
  refine so_new (n := o + 3) (sh := 63) (c := 3) (N := 8) E hA0 (eX10_init (16, .new 16, 3) (List.mem_of_getElem? (i := 8) rfl)) rfl rfl hs3 (by decide) (fun _ _ _ => rfl) wk_X10_16 wx_X3 wn_X3 (by rw [hR]; decide) (by rw [hR]; decide) (df_mono (by omega) d2) rfl ?_
  intro q2
  refine B _ _ _ _ rfl ?_
  show WP_ X G Q _ _ _ _ _ 20 _ _
  refine so_ctorN (host := RX10) (o := o + 3) (m := o + 5) (t := 63) E hA0 hAO (cn_X3 X.2.1 (o + 3) hs3 hs4) (by omega) (by rw [hR]; decide) (by rw [hR]; decide) (by rw [hR]; decide) (eX10_init (20, .invokespecial 18, 3) (List.mem_of_getElem? (i := 10) rfl)) rfl (Nat.le_of_ble_eq_true rfl) ⟨by decide, by decide, by decide, by decide⟩ wnl_X10_18 wi_X3_init wn_X3 wc_X3_init (df_mono (by omega) d2) rfl ?_
  intro q3 σ3 e3
  have d3 : DF_ (o + 5) σ3 := by rw [e3]; exact df_X3 (by omega) (df_mono (by omega) d2)
  refine so_putF (c := 10) (jn := 1) (ji := 1) (N := 14) (t := 70) (u := 63) E hin (eX10_init (23, .putfield 19, 3) (List.mem_of_getElem? (i := 11) rfl)) rfl rfl (by decide) rfl wf_X10_19 rfl rfl rfl (fun _ _ _ => rfl) ?_
  intro σ4 e4
  have d4 : DF_ (o + 5) σ4 := by rw [e4]; exact df_up (by omega) (df_mono (by omega) d3)
  exact k _ _ (ap_1 (ap_1 (ap_1 (ap_1 ap_0)))) (by rw [e4, e3, e2, e1])
set_option maxHeartbeats 4000000 in
set_option maxRecDepth 100000 in
theorem cx_X10_1 {X : Cx_t} {G : Gx_t} {Q : State → Prop} {o : Nat} {ad : List Nat} {σ : Me_t} (hR : X.2.2.2.1 = { frames := 3, cells := 85, slots := 20233, locals := 81 }) (E : EN_ X G RX10 cX10_init 2 none) (hA0 : ∀ q, X.2.2.2.2.1.heap.size ≤ q → G.2.2.2 q) (hAO : AO_ X.2.2.2.2.1) (hin : X.2.2.2.2.2.2.2.2.1.name = "<init>") (hs5 : SHR_[o + 5]? = some 69) (hs6 : SHR_[o + 6]? = some 80) (hs7 : SHR_[o + 7]? = some 7) (hs8 : SHR_[o + 8]? = some 8) (hs9 : SHR_[o + 9]? = some 9) (hs10 : SHR_[o + 10]? = some 61) (hs11 : SHR_[o + 11]? = some 11) (hs12 : SHR_[o + 12]? = some 61) (hs13 : SHR_[o + 13]? = some 11) (hs14 : SHR_[o + 14]? = some 61) (hs15 : SHR_[o + 15]? = some 11) (hs16 : SHR_[o + 16]? = some 69) (hs17 : SHR_[o + 17]? = some 80) (hs18 : SHR_[o + 18]? = some 7) (hs19 : SHR_[o + 19]? = some 8) (hs20 : SHR_[o + 20]? = some 9) (hs21 : SHR_[o + 21]? = some 61) (hs22 : SHR_[o + 22]? = some 11) (hs23 : SHR_[o + 23]? = some 61) (hs24 : SHR_[o + 24]? = some 11) (hs25 : SHR_[o + 25]? = some 61) (hs26 : SHR_[o + 26]? = some 11) (hs27 : SHR_[o + 27]? = some 81) (hD : DF_ (o + 5) σ)  (k : ∀ (ad' : List Nat) (σ' : Me_t), (∃ qs, ad' = ad ++ qs) → σ' = ups_ (ups_ (T_X9 (o + 16) (ups_ (T_X9 (o + 5) (σ)) ((o : Nat) : Int) 2 ((o + 5 : Nat) : Int))) ((o : Nat) : Int) 3 ((o + 16 : Nat) : Int)) ((o : Nat) : Int) 4 ((o + 27 : Nat) : Int) → WP_ X G Q 27 2229 ad' (SHR_.take (o + 28)) σ' 56 [(80, ((o : Nat) : Int)), (9, 0)] []) : WP_ X G Q 4 1210 ad (SHR_.take (o + 5)) σ 26 [(80, ((o : Nat) : Int)), (9, 0)] [] := by
  have B := fun (cl sl : Nat) (ad shs : List Nat) => @bk_ X G Q cl sl ad shs RX10 cX10_init 2 none flX10 plX10 knX10 [] 9 (fun _ _ => False) none kX10_init [1, 5, 9, 12, 16, 20, 23, 27, 31, 38, 42, 50, 53, 58, 60, 65, 68, 72, 76, 79, 83, 87, 90, 94, 98, 101, 105, 109, 112, 116, 120, 123, 148, 152, 155, 174, 178, 181, 188] flX10_ok plX10_ok knX10_ok eX10_init oX10_init (fun _ h => absurd h List.not_mem_nil) (fun _ _ _ _ _ h => h.elim) sok_no E
  refine B _ _ _ _ rfl ?_
  show WP_ X G Q _ _ _ _ _ 27 _ _
  refine so_new (n := o + 5) (sh := 69) (c := 9) (N := 10) E hA0 (eX10_init (27, .new 23, 3) (List.mem_of_getElem? (i := 13) rfl)) rfl rfl hs5 (by decide) (fun _ _ _ => rfl) wk_X10_23 wx_X9 wn_X9 (by rw [hR]; decide) (by rw [hR]; decide) (df_mono (by omega) hD) rfl ?_
  intro q0
  refine B _ _ _ _ rfl ?_
  show WP_ X G Q _ _ _ _ _ 31 _ _
  refine so_ctor (o := o + 5) (m := o + 16) (t := 69) E hA0 hAO (cn_X9 X.2.1 (o + 5) hs5 hs6 hs7 hs8 hs9 hs10 hs11 hs12 hs13 hs14 hs15) (by omega) (by rw [hR]; decide) (by rw [hR]; decide) (by rw [hR]; decide) (eX10_init (31, .invokespecial 25, 3) (List.mem_of_getElem? (i := 15) rfl)) rfl (Nat.le_of_ble_eq_true rfl) ⟨by decide, by decide, by decide, by decide⟩ wl_X10_25 wi_X9_init wn_X9 wc_X9_init (df_mono (by omega) hD) rfl ?_
  intro q1 σ1 e1
  have d1 : DF_ (o + 16) σ1 := by rw [e1]; exact df_X9 (by omega) (df_mono (by omega) hD)
  refine B _ _ _ _ rfl ?_
  intro σ2 e2
  have d2 : DF_ (o + 16) σ2 := by rw [e2]; exact df_up (by omega) (df_mono (by omega) d1)
  show WP_ X G Q _ _ _ _ _ 38 _ _
  refine so_new (n := o + 16) (sh := 69) (c := 9) (N := 10) E hA0 (eX10_init (38, .new 23, 3) (List.mem_of_getElem? (i := 18) rfl)) rfl rfl hs16 (by decide) (fun _ _ _ => rfl) wk_X10_23 wx_X9 wn_X9 (by rw [hR]; decide) (by rw [hR]; decide) (df_mono (by omega) d2) rfl ?_
  intro q2
  refine B _ _ _ _ rfl ?_
  show WP_ X G Q _ _ _ _ _ 42 _ _
  refine so_ctor (o := o + 16) (m := o + 27) (t := 69) E hA0 hAO (cn_X9 X.2.1 (o + 16) hs16 hs17 hs18 hs19 hs20 hs21 hs22 hs23 hs24 hs25 hs26) (by omega) (by rw [hR]; decide) (by rw [hR]; decide) (by rw [hR]; decide) (eX10_init (42, .invokespecial 25, 3) (List.mem_of_getElem? (i := 20) rfl)) rfl (Nat.le_of_ble_eq_true rfl) ⟨by decide, by decide, by decide, by decide⟩ wl_X10_25 wi_X9_init wn_X9 wc_X9_init (df_mono (by omega) d2) rfl ?_
  intro q3 σ3 e3
  have d3 : DF_ (o + 27) σ3 := by rw [e3]; exact df_X9 (by omega) (df_mono (by omega) d2)
  refine B _ _ _ _ rfl ?_
  intro σ4 e4
  have d4 : DF_ (o + 27) σ4 := by rw [e4]; exact df_up (by omega) (df_mono (by omega) d3)
  show WP_ X G Q _ _ _ _ _ 50 _ _
  refine so_newq (n := o + 27) (sh := 81) (c := 9) (N := 3) (i := 6) E hA0 (eX10_init (50, .anewarray 23, 3) (List.mem_of_getElem? (i := 24) rfl)) (fun _ => rfl) rfl rfl hs27 (fun _ => ⟨rfl, rfl⟩) (fun _ _ _ => rfl) wk_X10_23 hAO.2.2 (by rw [hR]; decide) (by rw [hR]; decide) (df_mono (by omega) d4) rfl ?_
  intro q4
  refine so_putF (c := 10) (jn := 4) (ji := 4) (N := 14) (t := 70) (u := 81) E hin (eX10_init (53, .putfield 33, 3) (List.mem_of_getElem? (i := 25) rfl)) rfl rfl (by decide) rfl wf_X10_33 rfl rfl rfl (fun _ _ _ => rfl) ?_
  intro σ5 e5
  have d5 : DF_ (o + 28) σ5 := by rw [e5]; exact df_up (by omega) (df_mono (by omega) d4)
  have f5_0_4 : σ5 ((o : Nat) : Int) 4 = ((o + 27 : Nat) : Int) := by rw [e5]; exact ups_s
  exact k _ _ (ap_1 (ap_1 (ap_1 (ap_1 (ap_1 ap_0))))) (by rw [e5, e4, e3, e2, e1])
set_option maxHeartbeats 4000000 in
set_option maxRecDepth 100000 in
theorem cx_X10_2 {X : Cx_t} {G : Gx_t} {Q : State → Prop} {o : Nat} {ad : List Nat} {σ : Me_t} (hR : X.2.2.2.1 = { frames := 3, cells := 85, slots := 20233, locals := 81 }) (E : EN_ X G RX10 cX10_init 2 none) (hA0 : ∀ q, X.2.2.2.2.1.heap.size ≤ q → G.2.2.2 q) (hAO : AO_ X.2.2.2.2.1) (hin : X.2.2.2.2.2.2.2.2.1.name = "<init>") (hs28 : SHR_[o + 28]? = some 13) (hs29 : SHR_[o + 29]? = some 82) (hs30 : SHR_[o + 30]? = some 60) (hs31 : SHR_[o + 31]? = some 16) (hs32 : SHR_[o + 32]? = some 17) (hs33 : SHR_[o + 33]? = some 18) (hD : DF_ (o + 28) σ) (g_0_4 : σ ((o : Nat) : Int) 4 = ((o + 27 : Nat) : Int)) (k : ∀ (ad' : List Nat) (σ' : Me_t), (∃ qs, ad' = ad ++ qs) → σ' = ups_ (T_X0 (o + 30) (ups_ (ups_ (σ) ((o : Nat) : Int) 5 ((o + 28 : Nat) : Int)) ((o : Nat) : Int) 6 ((o + 29 : Nat) : Int))) ((o : Nat) : Int) 7 ((o + 30 : Nat) : Int) → WP_ X G Q 33 16245 ad' (SHR_.take (o + 34)) σ' 82 [(80, ((o : Nat) : Int)), (9, 0)] []) : WP_ X G Q 27 2229 ad (SHR_.take (o + 28)) σ 56 [(80, ((o : Nat) : Int)), (9, 0)] [] := by
  have B := fun (cl sl : Nat) (ad shs : List Nat) => @bk_ X G Q cl sl ad shs RX10 cX10_init 2 none flX10 plX10 knX10 [] 9 (fun _ _ => False) none kX10_init [1, 5, 9, 12, 16, 20, 23, 27, 31, 38, 42, 50, 53, 58, 60, 65, 68, 72, 76, 79, 83, 87, 90, 94, 98, 101, 105, 109, 112, 116, 120, 123, 148, 152, 155, 174, 178, 181, 188] flX10_ok plX10_ok knX10_ok eX10_init oX10_init (fun _ h => absurd h List.not_mem_nil) (fun _ _ _ _ _ h => h.elim) sok_no E
  refine B _ _ _ _ rfl ?_
  show WP_ X G Q _ _ _ _ _ 58 _ _
  refine so_newi (n := o + 28) (sh := 13) (a := 3) (c := 0) (N := 3) (i := 2) (ty := .boolean) E hA0 (eX10_init (58, .newarray .boolean, 2) (List.mem_of_getElem? (i := 28) rfl)) rfl rfl (fun _ => rfl) (Or.inr (Or.inr rfl)) rfl rfl (by decide +kernel) hs28 (fun _ => ⟨rfl, rfl⟩) (fun _ _ _ => rfl) wy_boolean (by rw [hR]; decide) (by rw [hR]; decide) (df_mono (by omega) hD) rfl ?_
  intro q0
  refine so_putF (c := 10) (jn := 5) (ji := 5) (N := 14) (t := 70) (u := 13) E hin (eX10_init (60, .putfield 37, 3) (List.mem_of_getElem? (i := 29) rfl)) rfl rfl (by decide) rfl wf_X10_37 rfl rfl rfl (fun _ _ _ => rfl) ?_
  intro σ1 e1
  have d1 : DF_ (o + 29) σ1 := by rw [e1]; exact df_up (by omega) (df_mono (by omega) hD)
  have f1_0_4 : σ1 ((o : Nat) : Int) 4 = ((o + 27 : Nat) : Int) := by rw [e1]; exact (ups_n (by omega)).trans g_0_4
  refine B _ _ _ _ rfl ?_
  show WP_ X G Q _ _ _ _ _ 65 _ _
  refine so_newq (n := o + 29) (sh := 82) (c := 4) (N := 4) (i := 5) E hA0 (eX10_init (65, .anewarray 41, 3) (List.mem_of_getElem? (i := 32) rfl)) (fun _ => rfl) rfl rfl hs29 (fun _ => ⟨rfl, rfl⟩) (fun _ _ _ => rfl) wk_X10_41 hAO.2.1 (by rw [hR]; decide) (by rw [hR]; decide) (df_mono (by omega) d1) rfl ?_
  intro q1
  refine so_putF (c := 10) (jn := 6) (ji := 6) (N := 14) (t := 70) (u := 82) E hin (eX10_init (68, .putfield 43, 3) (List.mem_of_getElem? (i := 33) rfl)) rfl rfl (by decide) rfl wf_X10_43 rfl rfl rfl (fun _ _ _ => rfl) ?_
  intro σ2 e2
  have d2 : DF_ (o + 30) σ2 := by rw [e2]; exact df_up (by omega) (df_mono (by omega) d1)
  have f2_0_4 : σ2 ((o : Nat) : Int) 4 = ((o + 27 : Nat) : Int) := by rw [e2]; exact (ups_n (by omega)).trans f1_0_4
  have f2_0_6 : σ2 ((o : Nat) : Int) 6 = ((o + 29 : Nat) : Int) := by rw [e2]; exact ups_s
  refine B _ _ _ _ rfl ?_
  show WP_ X G Q _ _ _ _ _ 72 _ _
  refine so_new (n := o + 30) (sh := 60) (c := 0) (N := 9) E hA0 (eX10_init (72, .new 47, 3) (List.mem_of_getElem? (i := 35) rfl)) rfl rfl hs30 (by decide) (fun _ _ _ => rfl) wk_X10_47 wx_X0 wn_X0 (by rw [hR]; decide) (by rw [hR]; decide) (df_mono (by omega) d2) rfl ?_
  intro q2
  refine B _ _ _ _ rfl ?_
  show WP_ X G Q _ _ _ _ _ 76 _ _
  refine so_ctorN (host := RX10) (o := o + 30) (m := o + 34) (t := 60) E hA0 hAO (cn_X0 X.2.1 (o + 30) hs30 hs31 hs32 hs33) (by omega) (by rw [hR]; decide) (by rw [hR]; decide) (by rw [hR]; decide) (eX10_init (76, .invokespecial 49, 3) (List.mem_of_getElem? (i := 37) rfl)) rfl (Nat.le_of_ble_eq_true rfl) ⟨by decide, by decide, by decide, by decide⟩ wnl_X10_49 wi_X0_init wn_X0 wc_X0_init (df_mono (by omega) d2) rfl ?_
  intro q3 σ3 e3
  have d3 : DF_ (o + 34) σ3 := by rw [e3]; exact df_X0 (by omega) (df_mono (by omega) d2)
  have f3_0_4 : σ3 ((o : Nat) : Int) 4 = ((o + 27 : Nat) : Int) := by rw [e3]; exact (T_X0_n (by omega)).trans f2_0_4
  have f3_0_6 : σ3 ((o : Nat) : Int) 6 = ((o + 29 : Nat) : Int) := by rw [e3]; exact (T_X0_n (by omega)).trans f2_0_6
  refine so_putF (c := 10) (jn := 7) (ji := 7) (N := 14) (t := 70) (u := 60) E hin (eX10_init (79, .putfield 50, 3) (List.mem_of_getElem? (i := 38) rfl)) rfl rfl (by decide) rfl wf_X10_50 rfl rfl rfl (fun _ _ _ => rfl) ?_
  intro σ4 e4
  have d4 : DF_ (o + 34) σ4 := by rw [e4]; exact df_up (by omega) (df_mono (by omega) d3)
  have f4_0_4 : σ4 ((o : Nat) : Int) 4 = ((o + 27 : Nat) : Int) := by rw [e4]; exact (ups_n (by omega)).trans f3_0_4
  have f4_0_6 : σ4 ((o : Nat) : Int) 6 = ((o + 29 : Nat) : Int) := by rw [e4]; exact (ups_n (by omega)).trans f3_0_6
  exact k _ _ (ap_1 (ap_1 (ap_1 (ap_1 ap_0)))) (by rw [e4, e3, e2, e1])
set_option maxHeartbeats 4000000 in
set_option maxRecDepth 100000 in
theorem cx_X10_3 {X : Cx_t} {G : Gx_t} {Q : State → Prop} {o : Nat} {ad : List Nat} {σ : Me_t} (hR : X.2.2.2.1 = { frames := 3, cells := 85, slots := 20233, locals := 81 }) (E : EN_ X G RX10 cX10_init 2 none) (hA0 : ∀ q, X.2.2.2.2.1.heap.size ≤ q → G.2.2.2 q) (hAO : AO_ X.2.2.2.2.1) (hin : X.2.2.2.2.2.2.2.2.1.name = "<init>") (hs34 : SHR_[o + 34]? = some 65) (hs35 : SHR_[o + 35]? = some 20) (hs36 : SHR_[o + 36]? = some 62) (hs37 : SHR_[o + 37]? = some 22) (hs38 : SHR_[o + 38]? = some 23) (hD : DF_ (o + 34) σ) (g_0_4 : σ ((o : Nat) : Int) 4 = ((o + 27 : Nat) : Int)) (g_0_6 : σ ((o : Nat) : Int) 6 = ((o + 29 : Nat) : Int)) (k : ∀ (ad' : List Nat) (σ' : Me_t), (∃ qs, ad' = ad ++ qs) → σ' = ups_ (T_X2 (o + 36) (ups_ (T_X5 (o + 34) (σ)) ((o : Nat) : Int) 8 ((o + 34 : Nat) : Int))) ((o : Nat) : Int) 9 ((o + 36 : Nat) : Int) → WP_ X G Q 38 16350 ad' (SHR_.take (o + 39)) σ' 104 [(80, ((o : Nat) : Int)), (9, 0)] []) : WP_ X G Q 33 16245 ad (SHR_.take (o + 34)) σ 82 [(80, ((o : Nat) : Int)), (9, 0)] [] := by
  have B := fun (cl sl : Nat) (ad shs : List Nat) => @bk_ X G Q cl sl ad shs RX10 cX10_init 2 none flX10 plX10 knX10 [] 9 (fun _ _ => False) none kX10_init [1, 5, 9, 12, 16, 20, 23, 27, 31, 38, 42, 50, 53, 58, 60, 65, 68, 72, 76, 79, 83, 87, 90, 94, 98, 101, 105, 109, 112, 116, 120, 123, 148, 152, 155, 174, 178, 181, 188] flX10_ok plX10_ok knX10_ok eX10_init oX10_init (fun _ h => absurd h List.not_mem_nil) (fun _ _ _ _ _ h => h.elim) sok_no E
  refine B _ _ _ _ rfl ?_
  show WP_ X G Q _ _ _ _ _ 83 _ _
  refine so_new (n := o + 34) (sh := 65) (c := 5) (N := 3) E hA0 (eX10_init (83, .new 54, 3) (List.mem_of_getElem? (i := 40) rfl)) rfl rfl hs34 (by decide) (fun _ _ _ => rfl) wk_X10_54 wx_X5 wn_X5 (by rw [hR]; decide) (by rw [hR]; decide) (df_mono (by omega) hD) rfl ?_
  intro q0
  refine B _ _ _ _ rfl ?_
  show WP_ X G Q _ _ _ _ _ 87 _ _
  refine so_ctorN (host := RX10) (o := o + 34) (m := o + 36) (t := 65) E hA0 hAO (cn_X5 X.2.1 (o + 34) hs34 hs35) (by omega) (by rw [hR]; decide) (by rw [hR]; decide) (by rw [hR]; decide) (eX10_init (87, .invokespecial 56, 3) (List.mem_of_getElem? (i := 42) rfl)) rfl (Nat.le_of_ble_eq_true rfl) ⟨by decide, by decide, by decide, by decide⟩ wnl_X10_56 wi_X5_init wn_X5 wc_X5_init (df_mono (by omega) hD) rfl ?_
  intro q1 σ1 e1
  have d1 : DF_ (o + 36) σ1 := by rw [e1]; exact df_X5 (by omega) (df_mono (by omega) hD)
  have f1_0_4 : σ1 ((o : Nat) : Int) 4 = ((o + 27 : Nat) : Int) := by rw [e1]; exact (T_X5_n (by omega)).trans g_0_4
  have f1_0_6 : σ1 ((o : Nat) : Int) 6 = ((o + 29 : Nat) : Int) := by rw [e1]; exact (T_X5_n (by omega)).trans g_0_6
  refine so_putF (c := 10) (jn := 8) (ji := 8) (N := 14) (t := 70) (u := 65) E hin (eX10_init (90, .putfield 57, 3) (List.mem_of_getElem? (i := 43) rfl)) rfl rfl (by decide) rfl wf_X10_57 rfl rfl rfl (fun _ _ _ => rfl) ?_
  intro σ2 e2
  have d2 : DF_ (o + 36) σ2 := by rw [e2]; exact df_up (by omega) (df_mono (by omega) d1)
  have f2_0_4 : σ2 ((o : Nat) : Int) 4 = ((o + 27 : Nat) : Int) := by rw [e2]; exact (ups_n (by omega)).trans f1_0_4
  have f2_0_6 : σ2 ((o : Nat) : Int) 6 = ((o + 29 : Nat) : Int) := by rw [e2]; exact (ups_n (by omega)).trans f1_0_6
  refine B _ _ _ _ rfl ?_
  show WP_ X G Q _ _ _ _ _ 94 _ _
  refine so_new (n := o + 36) (sh := 62) (c := 2) (N := 3) E hA0 (eX10_init (94, .new 61, 3) (List.mem_of_getElem? (i := 45) rfl)) rfl rfl hs36 (by decide) (fun _ _ _ => rfl) wk_X10_61 wx_X2 wn_X2 (by rw [hR]; decide) (by rw [hR]; decide) (df_mono (by omega) d2) rfl ?_
  intro q2
  refine B _ _ _ _ rfl ?_
  show WP_ X G Q _ _ _ _ _ 98 _ _
  refine so_ctorN (host := RX10) (o := o + 36) (m := o + 39) (t := 62) E hA0 hAO (cn_X2 X.2.1 (o + 36) hs36 hs37 hs38) (by omega) (by rw [hR]; decide) (by rw [hR]; decide) (by rw [hR]; decide) (eX10_init (98, .invokespecial 63, 3) (List.mem_of_getElem? (i := 47) rfl)) rfl (Nat.le_of_ble_eq_true rfl) ⟨by decide, by decide, by decide, by decide⟩ wnl_X10_63 wi_X2_init wn_X2 wc_X2_init (df_mono (by omega) d2) rfl ?_
  intro q3 σ3 e3
  have d3 : DF_ (o + 39) σ3 := by rw [e3]; exact df_X2 (by omega) (df_mono (by omega) d2)
  have f3_0_4 : σ3 ((o : Nat) : Int) 4 = ((o + 27 : Nat) : Int) := by rw [e3]; exact (T_X2_n (by omega)).trans f2_0_4
  have f3_0_6 : σ3 ((o : Nat) : Int) 6 = ((o + 29 : Nat) : Int) := by rw [e3]; exact (T_X2_n (by omega)).trans f2_0_6
  refine so_putF (c := 10) (jn := 9) (ji := 9) (N := 14) (t := 70) (u := 62) E hin (eX10_init (101, .putfield 64, 3) (List.mem_of_getElem? (i := 48) rfl)) rfl rfl (by decide) rfl wf_X10_64 rfl rfl rfl (fun _ _ _ => rfl) ?_
  intro σ4 e4
  have d4 : DF_ (o + 39) σ4 := by rw [e4]; exact df_up (by omega) (df_mono (by omega) d3)
  have f4_0_4 : σ4 ((o : Nat) : Int) 4 = ((o + 27 : Nat) : Int) := by rw [e4]; exact (ups_n (by omega)).trans f3_0_4
  have f4_0_6 : σ4 ((o : Nat) : Int) 6 = ((o + 29 : Nat) : Int) := by rw [e4]; exact (ups_n (by omega)).trans f3_0_6
  exact k _ _ (ap_1 (ap_1 (ap_1 (ap_1 ap_0)))) (by rw [e4, e3, e2, e1])
set_option maxHeartbeats 4000000 in
set_option maxRecDepth 100000 in
theorem cx_X10_4 {X : Cx_t} {G : Gx_t} {Q : State → Prop} {o : Nat} {ad : List Nat} {σ : Me_t} (hR : X.2.2.2.1 = { frames := 3, cells := 85, slots := 20233, locals := 81 }) (E : EN_ X G RX10 cX10_init 2 none) (hA0 : ∀ q, X.2.2.2.2.1.heap.size ≤ q → G.2.2.2 q) (hAO : AO_ X.2.2.2.2.1) (hin : X.2.2.2.2.2.2.2.2.1.name = "<init>") (hs39 : SHR_[o + 39]? = some 66) (hs40 : SHR_[o + 40]? = some 25) (hs41 : SHR_[o + 41]? = some 26) (hs42 : SHR_[o + 42]? = some 67) (hs43 : SHR_[o + 43]? = some 28) (hs44 : SHR_[o + 44]? = some 29) (hD : DF_ (o + 39) σ) (g_0_4 : σ ((o : Nat) : Int) 4 = ((o + 27 : Nat) : Int)) (g_0_6 : σ ((o : Nat) : Int) 6 = ((o + 29 : Nat) : Int)) (k : ∀ (ad' : List Nat) (σ' : Me_t), (∃ qs, ad' = ad ++ qs) → σ' = ups_ (T_X7 (o + 42) (ups_ (T_X6 (o + 39) (σ)) ((o : Nat) : Int) 10 ((o + 39 : Nat) : Int))) ((o : Nat) : Int) 11 ((o + 42 : Nat) : Int) → WP_ X G Q 44 18453 ad' (SHR_.take (o + 45)) σ' 126 [(80, ((o : Nat) : Int)), (9, 0)] []) : WP_ X G Q 38 16350 ad (SHR_.take (o + 39)) σ 104 [(80, ((o : Nat) : Int)), (9, 0)] [] := by
  have B := fun (cl sl : Nat) (ad shs : List Nat) => @bk_ X G Q cl sl ad shs RX10 cX10_init 2 none flX10 plX10 knX10 [] 9 (fun _ _ => False) none kX10_init [1, 5, 9, 12, 16, 20, 23, 27, 31, 38, 42, 50, 53, 58, 60, 65, 68, 72, 76, 79, 83, 87, 90, 94, 98, 101, 105, 109, 112, 116, 120, 123, 148, 152, 155, 174, 178, 181, 188] flX10_ok plX10_ok knX10_ok eX10_init oX10_init (fun _ h => absurd h List.not_mem_nil) (fun _ _ _ _ _ h => h.elim) sok_no E
  refine B _ _ _ _ rfl ?_
  show WP_ X G Q _ _ _ _ _ 105 _ _
  refine so_new (n := o + 39) (sh := 66) (c := 6) (N := 5) E hA0 (eX10_init (105, .new 68, 3) (List.mem_of_getElem? (i := 50) rfl)) rfl rfl hs39 (by decide) (fun _ _ _ => rfl) wk_X10_68 wx_X6 wn_X6 (by rw [hR]; decide) (by rw [hR]; decide) (df_mono (by omega) hD) rfl ?_
  intro q0
  refine B _ _ _ _ rfl ?_
  show WP_ X G Q _ _ _ _ _ 109 _ _
  refine so_ctorN (host := RX10) (o := o + 39) (m := o + 42) (t := 66) E hA0 hAO (cn_X6 X.2.1 (o + 39) hs39 hs40 hs41) (by omega) (by rw [hR]; decide) (by rw [hR]; decide) (by rw [hR]; decide) (eX10_init (109, .invokespecial 70, 3) (List.mem_of_getElem? (i := 52) rfl)) rfl (Nat.le_of_ble_eq_true rfl) ⟨by decide, by decide, by decide, by decide⟩ wnl_X10_70 wi_X6_init wn_X6 wc_X6_init (df_mono (by omega) hD) rfl ?_
  intro q1 σ1 e1
  have d1 : DF_ (o + 42) σ1 := by rw [e1]; exact df_X6 (by omega) (df_mono (by omega) hD)
  have f1_0_4 : σ1 ((o : Nat) : Int) 4 = ((o + 27 : Nat) : Int) := by rw [e1]; exact (T_X6_n (by omega)).trans g_0_4
  have f1_0_6 : σ1 ((o : Nat) : Int) 6 = ((o + 29 : Nat) : Int) := by rw [e1]; exact (T_X6_n (by omega)).trans g_0_6
  refine so_putF (c := 10) (jn := 10) (ji := 10) (N := 14) (t := 70) (u := 66) E hin (eX10_init (112, .putfield 71, 3) (List.mem_of_getElem? (i := 53) rfl)) rfl rfl (by decide) rfl wf_X10_71 rfl rfl rfl (fun _ _ _ => rfl) ?_
  intro σ2 e2
  have d2 : DF_ (o + 42) σ2 := by rw [e2]; exact df_up (by omega) (df_mono (by omega) d1)
  have f2_0_4 : σ2 ((o : Nat) : Int) 4 = ((o + 27 : Nat) : Int) := by rw [e2]; exact (ups_n (by omega)).trans f1_0_4
  have f2_0_6 : σ2 ((o : Nat) : Int) 6 = ((o + 29 : Nat) : Int) := by rw [e2]; exact (ups_n (by omega)).trans f1_0_6
  refine B _ _ _ _ rfl ?_
  show WP_ X G Q _ _ _ _ _ 116 _ _
  refine so_new (n := o + 42) (sh := 67) (c := 7) (N := 5) E hA0 (eX10_init (116, .new 75, 3) (List.mem_of_getElem? (i := 55) rfl)) rfl rfl hs42 (by decide) (fun _ _ _ => rfl) wk_X10_75 wx_X7 wn_X7 (by rw [hR]; decide) (by rw [hR]; decide) (df_mono (by omega) d2) rfl ?_
  intro q2
  refine B _ _ _ _ rfl ?_
  show WP_ X G Q _ _ _ _ _ 120 _ _
  refine so_ctorN (host := RX10) (o := o + 42) (m := o + 45) (t := 67) E hA0 hAO (cn_X7 X.2.1 (o + 42) hs42 hs43 hs44) (by omega) (by rw [hR]; decide) (by rw [hR]; decide) (by rw [hR]; decide) (eX10_init (120, .invokespecial 77, 3) (List.mem_of_getElem? (i := 57) rfl)) rfl (Nat.le_of_ble_eq_true rfl) ⟨by decide, by decide, by decide, by decide⟩ wnl_X10_77 wi_X7_init wn_X7 wc_X7_init (df_mono (by omega) d2) rfl ?_
  intro q3 σ3 e3
  have d3 : DF_ (o + 45) σ3 := by rw [e3]; exact df_X7 (by omega) (df_mono (by omega) d2)
  have f3_0_4 : σ3 ((o : Nat) : Int) 4 = ((o + 27 : Nat) : Int) := by rw [e3]; exact (T_X7_n (by omega)).trans f2_0_4
  have f3_0_6 : σ3 ((o : Nat) : Int) 6 = ((o + 29 : Nat) : Int) := by rw [e3]; exact (T_X7_n (by omega)).trans f2_0_6
  refine so_putF (c := 10) (jn := 11) (ji := 11) (N := 14) (t := 70) (u := 67) E hin (eX10_init (123, .putfield 78, 3) (List.mem_of_getElem? (i := 58) rfl)) rfl rfl (by decide) rfl wf_X10_78 rfl rfl rfl (fun _ _ _ => rfl) ?_
  intro σ4 e4
  have d4 : DF_ (o + 45) σ4 := by rw [e4]; exact df_up (by omega) (df_mono (by omega) d3)
  have f4_0_4 : σ4 ((o : Nat) : Int) 4 = ((o + 27 : Nat) : Int) := by rw [e4]; exact (ups_n (by omega)).trans f3_0_4
  have f4_0_6 : σ4 ((o : Nat) : Int) 6 = ((o + 29 : Nat) : Int) := by rw [e4]; exact (ups_n (by omega)).trans f3_0_6
  exact k _ _ (ap_1 (ap_1 (ap_1 (ap_1 ap_0)))) (by rw [e4, e3, e2, e1])
set_option maxHeartbeats 4000000 in
set_option maxRecDepth 100000 in
theorem cx_X10_5 {X : Cx_t} {G : Gx_t} {Q : State → Prop} {o : Nat} {ad : List Nat} {σ : Me_t} (hR : X.2.2.2.1 = { frames := 3, cells := 85, slots := 20233, locals := 81 }) (E : EN_ X G RX10 cX10_init 2 none) (hA0 : ∀ q, X.2.2.2.2.1.heap.size ≤ q → G.2.2.2 q) (hAO : AO_ X.2.2.2.2.1) (hin : X.2.2.2.2.2.2.2.2.1.name = "<init>") (hs27 : SHR_[o + 27]? = some 81) (hs45 : SHR_[o + 45]? = some 69) (hs46 : SHR_[o + 46]? = some 80) (hs47 : SHR_[o + 47]? = some 7) (hs48 : SHR_[o + 48]? = some 8) (hs49 : SHR_[o + 49]? = some 9) (hs50 : SHR_[o + 50]? = some 61) (hs51 : SHR_[o + 51]? = some 11) (hs52 : SHR_[o + 52]? = some 61) (hs53 : SHR_[o + 53]? = some 11) (hs54 : SHR_[o + 54]? = some 61) (hs55 : SHR_[o + 55]? = some 11) (hs56 : SHR_[o + 56]? = some 69) (hs57 : SHR_[o + 57]? = some 80) (hs58 : SHR_[o + 58]? = some 7) (hs59 : SHR_[o + 59]? = some 8) (hs60 : SHR_[o + 60]? = some 9) (hs61 : SHR_[o + 61]? = some 61) (hs62 : SHR_[o + 62]? = some 11) (hs63 : SHR_[o + 63]? = some 61) (hs64 : SHR_[o + 64]? = some 11) (hs65 : SHR_[o + 65]? = some 61) (hs66 : SHR_[o + 66]? = some 11) (hD : DF_ (o + 45) σ) (g_0_4 : σ ((o : Nat) : Int) 4 = ((o + 27 : Nat) : Int)) (g_0_6 : σ ((o : Nat) : Int) 6 = ((o + 29 : Nat) : Int)) (k : ∀ (ad' : List Nat) (σ' : Me_t), (∃ qs, ad' = ad ++ qs) → σ' = ups_ (T_X9 (o + 56) (ups_ (T_X9 (o + 45) (ups_ (ups_ (σ) ((o : Nat) : Int) 12 0) ((o : Nat) : Int) 13 (-1))) ((o + 27 : Nat) : Int) 0 ((o + 45 : Nat) : Int))) ((o + 27 : Nat) : Int) (0 + 1) ((o + 56 : Nat) : Int) → WP_ X G Q 66 19469 ad' (SHR_.take (o + 67)) σ' 156 [(80, ((o : Nat) : Int)), (0, (0 + 1))] []) : WP_ X G Q 44 18453 ad (SHR_.take (o + 45)) σ 126 [(80, ((o : Nat) : Int)), (9, 0)] [] := by
  have B := fun (cl sl : Nat) (ad shs : List Nat) => @bk_ X G Q cl sl ad shs RX10 cX10_init 2 none flX10 plX10 knX10 [] 9 (fun _ _ => False) none kX10_init [1, 5, 9, 12, 16, 20, 23, 27, 31, 38, 42, 50, 53, 58, 60, 65, 68, 72, 76, 79, 83, 87, 90, 94, 98, 101, 105, 109, 112, 116, 120, 123, 148, 152, 155, 174, 178, 181, 188] flX10_ok plX10_ok knX10_ok eX10_init oX10_init (fun _ h => absurd h List.not_mem_nil) (fun _ _ _ _ _ h => h.elim) sok_no E
  refine B _ _ _ _ rfl ?_
  intro σ1 e1
  have d1 : DF_ (o + 45) σ1 := by rw [e1]; exact df_up (by omega) (df_mono (by omega) hD)
  have f1_0_4 : σ1 ((o : Nat) : Int) 4 = ((o + 27 : Nat) : Int) := by rw [e1]; exact (ups_n (by omega)).trans g_0_4
  have f1_0_6 : σ1 ((o : Nat) : Int) 6 = ((o + 29 : Nat) : Int) := by rw [e1]; exact (ups_n (by omega)).trans g_0_6
  intro σ2 e2
  have d2 : DF_ (o + 45) σ2 := by rw [e2]; exact df_up (by omega) (df_mono (by omega) d1)
  have f2_0_4 : σ2 ((o : Nat) : Int) 4 = ((o + 27 : Nat) : Int) := by rw [e2]; exact (ups_n (by omega)).trans f1_0_4
  have f2_0_6 : σ2 ((o : Nat) : Int) 6 = ((o + 29 : Nat) : Int) := by rw [e2]; exact (ups_n (by omega)).trans f1_0_6
  refine And.intro (fun h1 => (by exfalso; omega)) (fun h1 => ?_)
  intro zg2 ezg2 _
  show WP_ X G Q _ _ _ _ _ 148 _ _
  refine so_new (n := o + 45) (sh := 69) (c := 9) (N := 10) E hA0 (eX10_init (148, .new 23, 3) (List.mem_of_getElem? (i := 73) rfl)) rfl rfl hs45 (by decide) (fun _ _ _ => rfl) wk_X10_23 wx_X9 wn_X9 (by rw [hR]; decide) (by rw [hR]; decide) (df_mono (by omega) d2) rfl ?_
  intro q0
  refine B _ _ _ _ rfl ?_
  show WP_ X G Q _ _ _ _ _ 152 _ _
  refine so_ctor (o := o + 45) (m := o + 56) (t := 69) E hA0 hAO (cn_X9 X.2.1 (o + 45) hs45 hs46 hs47 hs48 hs49 hs50 hs51 hs52 hs53 hs54 hs55) (by omega) (by rw [hR]; decide) (by rw [hR]; decide) (by rw [hR]; decide) (eX10_init (152, .invokespecial 25, 3) (List.mem_of_getElem? (i := 75) rfl)) rfl (Nat.le_of_ble_eq_true rfl) ⟨by decide, by decide, by decide, by decide⟩ wl_X10_25 wi_X9_init wn_X9 wc_X9_init (df_mono (by omega) d2) rfl ?_
  intro q1 σ3 e3
  have d3 : DF_ (o + 56) σ3 := by rw [e3]; exact df_X9 (by omega) (df_mono (by omega) d2)
  have f3_0_4 : σ3 ((o : Nat) : Int) 4 = ((o + 27 : Nat) : Int) := by rw [e3]; exact (T_X9_n (by omega)).trans f2_0_4
  have f3_0_6 : σ3 ((o : Nat) : Int) 6 = ((o + 29 : Nat) : Int) := by rw [e3]; exact (T_X9_n (by omega)).trans f2_0_6
  refine so_ast (u := 69) (t := 81) (c := 9) (N := 3) (i := 6) (a := o + 27) E (eX10_init (155, .aastore, 1) (List.mem_of_getElem? (i := 76) rfl)) (ezg2.trans f2_0_4) (tg_ hs27 (by omega)) rfl (by omega) (fun _ => rfl) (fun _ _ _ => rfl) rfl rfl (fun _ => rfl) ?_
  intro σ4 e4
  have d4 : DF_ (o + 56) σ4 := by rw [e4]; exact df_up (by omega) (df_mono (by omega) d3)
  have f4_0_4 : σ4 ((o : Nat) : Int) 4 = ((o + 27 : Nat) : Int) := by rw [e4]; exact (ups_n (by omega)).trans f3_0_4
  have f4_0_6 : σ4 ((o : Nat) : Int) 6 = ((o + 29 : Nat) : Int) := by rw [e4]; exact (ups_n (by omega)).trans f3_0_6
  refine B _ _ _ _ rfl ?_
  refine And.intro (by omega) ?_
  refine B _ _ _ _ rfl ?_
  refine And.intro (fun h3 => (by exfalso; omega)) (fun h3 => ?_)
  intro zg4 ezg4 _
  show WP_ X G Q _ _ _ _ _ 148 _ _
  refine so_new (n := o + 56) (sh := 69) (c := 9) (N := 10) E hA0 (eX10_init (148, .new 23, 3) (List.mem_of_getElem? (i := 73) rfl)) rfl rfl hs56 (by decide) (fun _ _ _ => rfl) wk_X10_23 wx_X9 wn_X9 (by rw [hR]; decide) (by rw [hR]; decide) (df_mono (by omega) d4) rfl ?_
  intro q2
  refine B _ _ _ _ rfl ?_
  show WP_ X G Q _ _ _ _ _ 152 _ _
  refine so_ctor (o := o + 56) (m := o + 67) (t := 69) E hA0 hAO (cn_X9 X.2.1 (o + 56) hs56 hs57 hs58 hs59 hs60 hs61 hs62 hs63 hs64 hs65 hs66) (by omega) (by rw [hR]; decide) (by rw [hR]; decide) (by rw [hR]; decide) (eX10_init (152, .invokespecial 25, 3) (List.mem_of_getElem? (i := 75) rfl)) rfl (Nat.le_of_ble_eq_true rfl) ⟨by decide, by decide, by decide, by decide⟩ wl_X10_25 wi_X9_init wn_X9 wc_X9_init (df_mono (by omega) d4) rfl ?_
  intro q3 σ5 e5
  have d5 : DF_ (o + 67) σ5 := by rw [e5]; exact df_X9 (by omega) (df_mono (by omega) d4)
  have f5_0_4 : σ5 ((o : Nat) : Int) 4 = ((o + 27 : Nat) : Int) := by rw [e5]; exact (T_X9_n (by omega)).trans f4_0_4
  have f5_0_6 : σ5 ((o : Nat) : Int) 6 = ((o + 29 : Nat) : Int) := by rw [e5]; exact (T_X9_n (by omega)).trans f4_0_6
  refine so_ast (u := 69) (t := 81) (c := 9) (N := 3) (i := 6) (a := o + 27) E (eX10_init (155, .aastore, 1) (List.mem_of_getElem? (i := 76) rfl)) (ezg4.trans f4_0_4) (tg_ hs27 (by omega)) rfl (by omega) (fun _ => rfl) (fun _ _ _ => rfl) rfl rfl (fun _ => rfl) ?_
  intro σ6 e6
  have d6 : DF_ (o + 67) σ6 := by rw [e6]; exact df_up (by omega) (df_mono (by omega) d5)
  have f6_0_4 : σ6 ((o : Nat) : Int) 4 = ((o + 27 : Nat) : Int) := by rw [e6]; exact (ups_n (by omega)).trans f5_0_4
  have f6_0_6 : σ6 ((o : Nat) : Int) 6 = ((o + 29 : Nat) : Int) := by rw [e6]; exact (ups_n (by omega)).trans f5_0_6
  exact k _ _ (ap_1 (ap_1 (ap_1 (ap_1 ap_0)))) (by rw [e6, e5, e4, e3, e2, e1])
set_option maxHeartbeats 4000000 in
set_option maxRecDepth 100000 in
theorem cx_X10_6 {X : Cx_t} {G : Gx_t} {Q : State → Prop} {o : Nat} {ad : List Nat} {σ : Me_t} (hR : X.2.2.2.1 = { frames := 3, cells := 85, slots := 20233, locals := 81 }) (E : EN_ X G RX10 cX10_init 2 none) (hA0 : ∀ q, X.2.2.2.2.1.heap.size ≤ q → G.2.2.2 q) (hAO : AO_ X.2.2.2.2.1) (hin : X.2.2.2.2.2.2.2.2.1.name = "<init>") (hs27 : SHR_[o + 27]? = some 81) (hs29 : SHR_[o + 29]? = some 82) (hs67 : SHR_[o + 67]? = some 69) (hs68 : SHR_[o + 68]? = some 80) (hs69 : SHR_[o + 69]? = some 7) (hs70 : SHR_[o + 70]? = some 8) (hs71 : SHR_[o + 71]? = some 9) (hs72 : SHR_[o + 72]? = some 61) (hs73 : SHR_[o + 73]? = some 11) (hs74 : SHR_[o + 74]? = some 61) (hs75 : SHR_[o + 75]? = some 11) (hs76 : SHR_[o + 76]? = some 61) (hs77 : SHR_[o + 77]? = some 11) (hs78 : SHR_[o + 78]? = some 64) (hs79 : SHR_[o + 79]? = some 31) (hD : DF_ (o + 67) σ) (g_0_4 : σ ((o : Nat) : Int) 4 = ((o + 27 : Nat) : Int)) (g_0_6 : σ ((o : Nat) : Int) 6 = ((o + 29 : Nat) : Int)) (k : ∀ (ad' : List Nat) (σ' : Me_t), (∃ qs, ad' = ad ++ qs) → σ' = ups_ (T_X4 (o + 78) (ups_ (T_X9 (o + 67) (σ)) ((o + 27 : Nat) : Int) ((0 + 1) + 1) ((o + 67 : Nat) : Int))) ((o + 29 : Nat) : Int) 0 ((o + 78 : Nat) : Int) → WP_ X G Q 79 20041 ad' (SHR_.take (o + 80)) σ' 182 [(80, ((o : Nat) : Int)), (0, 0)] []) : WP_ X G Q 66 19469 ad (SHR_.take (o + 67)) σ 156 [(80, ((o : Nat) : Int)), (0, (0 + 1))] [] := by
  have B := fun (cl sl : Nat) (ad shs : List Nat) => @bk_ X G Q cl sl ad shs RX10 cX10_init 2 none flX10 plX10 knX10 [] 9 (fun _ _ => False) none kX10_init [1, 5, 9, 12, 16, 20, 23, 27, 31, 38, 42, 50, 53, 58, 60, 65, 68, 72, 76, 79, 83, 87, 90, 94, 98, 101, 105, 109, 112, 116, 120, 123, 148, 152, 155, 174, 178, 181, 188] flX10_ok plX10_ok knX10_ok eX10_init oX10_init (fun _ h => absurd h List.not_mem_nil) (fun _ _ _ _ _ h => h.elim) sok_no E
  refine B _ _ _ _ rfl ?_
  refine And.intro (by omega) ?_
  refine B _ _ _ _ rfl ?_
  refine And.intro (fun h5 => (by exfalso; omega)) (fun h5 => ?_)
  intro zg6 ezg6 _
  show WP_ X G Q _ _ _ _ _ 148 _ _
  refine so_new (n := o + 67) (sh := 69) (c := 9) (N := 10) E hA0 (eX10_init (148, .new 23, 3) (List.mem_of_getElem? (i := 73) rfl)) rfl rfl hs67 (by decide) (fun _ _ _ => rfl) wk_X10_23 wx_X9 wn_X9 (by rw [hR]; decide) (by rw [hR]; decide) (df_mono (by omega) hD) rfl ?_
  intro q0
  refine B _ _ _ _ rfl ?_
  show WP_ X G Q _ _ _ _ _ 152 _ _
  refine so_ctor (o := o + 67) (m := o + 78) (t := 69) E hA0 hAO (cn_X9 X.2.1 (o + 67) hs67 hs68 hs69 hs70 hs71 hs72 hs73 hs74 hs75 hs76 hs77) (by omega) (by rw [hR]; decide) (by rw [hR]; decide) (by rw [hR]; decide) (eX10_init (152, .invokespecial 25, 3) (List.mem_of_getElem? (i := 75) rfl)) rfl (Nat.le_of_ble_eq_true rfl) ⟨by decide, by decide, by decide, by decide⟩ wl_X10_25 wi_X9_init wn_X9 wc_X9_init (df_mono (by omega) hD) rfl ?_
  intro q1 σ1 e1
  have d1 : DF_ (o + 78) σ1 := by rw [e1]; exact df_X9 (by omega) (df_mono (by omega) hD)
  have f1_0_4 : σ1 ((o : Nat) : Int) 4 = ((o + 27 : Nat) : Int) := by rw [e1]; exact (T_X9_n (by omega)).trans g_0_4
  have f1_0_6 : σ1 ((o : Nat) : Int) 6 = ((o + 29 : Nat) : Int) := by rw [e1]; exact (T_X9_n (by omega)).trans g_0_6
  refine so_ast (u := 69) (t := 81) (c := 9) (N := 3) (i := 6) (a := o + 27) E (eX10_init (155, .aastore, 1) (List.mem_of_getElem? (i := 76) rfl)) (ezg6.trans g_0_4) (tg_ hs27 (by omega)) rfl (by omega) (fun _ => rfl) (fun _ _ _ => rfl) rfl rfl (fun _ => rfl) ?_
  intro σ2 e2
  have d2 : DF_ (o + 78) σ2 := by rw [e2]; exact df_up (by omega) (df_mono (by omega) d1)
  have f2_0_4 : σ2 ((o : Nat) : Int) 4 = ((o + 27 : Nat) : Int) := by rw [e2]; exact (ups_n (by omega)).trans f1_0_4
  have f2_0_6 : σ2 ((o : Nat) : Int) 6 = ((o + 29 : Nat) : Int) := by rw [e2]; exact (ups_n (by omega)).trans f1_0_6
  refine B _ _ _ _ rfl ?_
  refine And.intro (by omega) ?_
  refine B _ _ _ _ rfl ?_
  refine And.intro (fun h7 => ?_) (fun h7 => (by exfalso; omega))
  refine B _ _ _ _ rfl ?_
  refine And.intro (fun h8 => (by exfalso; omega)) (fun h8 => ?_)
  intro zg9 ezg9 _
  show WP_ X G Q _ _ _ _ _ 174 _ _
  refine so_new (n := o + 78) (sh := 64) (c := 4) (N := 4) E hA0 (eX10_init (174, .new 41, 3) (List.mem_of_getElem? (i := 87) rfl)) rfl rfl hs78 (by decide) (fun _ _ _ => rfl) wk_X10_41 wx_X4 wn_X4 (by rw [hR]; decide) (by rw [hR]; decide) (df_mono (by omega) d2) rfl ?_
  intro q2
  refine B _ _ _ _ rfl ?_
  show WP_ X G Q _ _ _ _ _ 178 _ _
  refine so_ctorN (host := RX10) (o := o + 78) (m := o + 80) (t := 64) E hA0 hAO (cn_X4 X.2.1 (o + 78) hs78 hs79) (by omega) (by rw [hR]; decide) (by rw [hR]; decide) (by rw [hR]; decide) (eX10_init (178, .invokespecial 89, 3) (List.mem_of_getElem? (i := 89) rfl)) rfl (Nat.le_of_ble_eq_true rfl) ⟨by decide, by decide, by decide, by decide⟩ wnl_X10_89 wi_X4_init wn_X4 wc_X4_init (df_mono (by omega) d2) rfl ?_
  intro q3 σ3 e3
  have d3 : DF_ (o + 80) σ3 := by rw [e3]; exact df_X4 (by omega) (df_mono (by omega) d2)
  have f3_0_4 : σ3 ((o : Nat) : Int) 4 = ((o + 27 : Nat) : Int) := by rw [e3]; exact (T_X4_n (by omega)).trans f2_0_4
  have f3_0_6 : σ3 ((o : Nat) : Int) 6 = ((o + 29 : Nat) : Int) := by rw [e3]; exact (T_X4_n (by omega)).trans f2_0_6
  refine so_ast (u := 64) (t := 82) (c := 4) (N := 4) (i := 5) (a := o + 29) E (eX10_init (181, .aastore, 1) (List.mem_of_getElem? (i := 90) rfl)) (ezg9.trans f2_0_6) (tg_ hs29 (by omega)) rfl (by omega) (fun _ => rfl) (fun _ _ _ => rfl) rfl rfl (fun _ => rfl) ?_
  intro σ4 e4
  have d4 : DF_ (o + 80) σ4 := by rw [e4]; exact df_up (by omega) (df_mono (by omega) d3)
  have f4_0_4 : σ4 ((o : Nat) : Int) 4 = ((o + 27 : Nat) : Int) := by rw [e4]; exact (ups_n (by omega)).trans f3_0_4
  have f4_0_6 : σ4 ((o : Nat) : Int) 6 = ((o + 29 : Nat) : Int) := by rw [e4]; exact (ups_n (by omega)).trans f3_0_6
  exact k _ _ (ap_1 (ap_1 (ap_1 (ap_1 ap_0)))) (by rw [e4, e3, e2, e1])
set_option maxHeartbeats 4000000 in
set_option maxRecDepth 100000 in
theorem cx_X10_7 {X : Cx_t} {G : Gx_t} {Q : State → Prop} {o : Nat} {ad : List Nat} {σ : Me_t} (hR : X.2.2.2.1 = { frames := 3, cells := 85, slots := 20233, locals := 81 }) (E : EN_ X G RX10 cX10_init 2 none) (hA0 : ∀ q, X.2.2.2.2.1.heap.size ≤ q → G.2.2.2 q) (hAO : AO_ X.2.2.2.2.1) (hin : X.2.2.2.2.2.2.2.2.1.name = "<init>") (hs29 : SHR_[o + 29]? = some 82) (hs80 : SHR_[o + 80]? = some 64) (hs81 : SHR_[o + 81]? = some 31) (hs82 : SHR_[o + 82]? = some 64) (hs83 : SHR_[o + 83]? = some 31) (hD : DF_ (o + 80) σ) (g_0_4 : σ ((o : Nat) : Int) 4 = ((o + 27 : Nat) : Int)) (g_0_6 : σ ((o : Nat) : Int) 6 = ((o + 29 : Nat) : Int)) (k : ∀ (ad' : List Nat) (σ' : Me_t), (∃ qs, ad' = ad ++ qs) → σ' = ups_ (T_X4 (o + 82) (ups_ (T_X4 (o + 80) (σ)) ((o + 29 : Nat) : Int) (0 + 1) ((o + 80 : Nat) : Int))) ((o + 29 : Nat) : Int) ((0 + 1) + 1) ((o + 82 : Nat) : Int) → WP_ X G Q 83 20169 ad' (SHR_.take (o + 84)) σ' 182 [(80, ((o : Nat) : Int)), (0, ((0 + 1) + 1))] []) : WP_ X G Q 79 20041 ad (SHR_.take (o + 80)) σ 182 [(80, ((o : Nat) : Int)), (0, 0)] [] := by
  have B := fun (cl sl : Nat) (ad shs : List Nat) => @bk_ X G Q cl sl ad shs RX10 cX10_init 2 none flX10 plX10 knX10 [] 9 (fun _ _ => False) none kX10_init [1, 5, 9, 12, 16, 20, 23, 27, 31, 38, 42, 50, 53, 58, 60, 65, 68, 72, 76, 79, 83, 87, 90, 94, 98, 101, 105, 109, 112, 116, 120, 123, 148, 152, 155, 174, 178, 181, 188] flX10_ok plX10_ok knX10_ok eX10_init oX10_init (fun _ h => absurd h List.not_mem_nil) (fun _ _ _ _ _ h => h.elim) sok_no E
  refine B _ _ _ _ rfl ?_
  refine And.intro (by omega) ?_
  refine B _ _ _ _ rfl ?_
  refine And.intro (fun h10 => (by exfalso; omega)) (fun h10 => ?_)
  intro zg11 ezg11 _
  show WP_ X G Q _ _ _ _ _ 174 _ _
  refine so_new (n := o + 80) (sh := 64) (c := 4) (N := 4) E hA0 (eX10_init (174, .new 41, 3) (List.mem_of_getElem? (i := 87) rfl)) rfl rfl hs80 (by decide) (fun _ _ _ => rfl) wk_X10_41 wx_X4 wn_X4 (by rw [hR]; decide) (by rw [hR]; decide) (df_mono (by omega) hD) rfl ?_
  intro q0
  refine B _ _ _ _ rfl ?_
  show WP_ X G Q _ _ _ _ _ 178 _ _
  refine so_ctorN (host := RX10) (o := o + 80) (m := o + 82) (t := 64) E hA0 hAO (cn_X4 X.2.1 (o + 80) hs80 hs81) (by omega) (by rw [hR]; decide) (by rw [hR]; decide) (by rw [hR]; decide) (eX10_init (178, .invokespecial 89, 3) (List.mem_of_getElem? (i := 89) rfl)) rfl (Nat.le_of_ble_eq_true rfl) ⟨by decide, by decide, by decide, by decide⟩ wnl_X10_89 wi_X4_init wn_X4 wc_X4_init (df_mono (by omega) hD) rfl ?_
  intro q1 σ1 e1
  have d1 : DF_ (o + 82) σ1 := by rw [e1]; exact df_X4 (by omega) (df_mono (by omega) hD)
  have f1_0_4 : σ1 ((o : Nat) : Int) 4 = ((o + 27 : Nat) : Int) := by rw [e1]; exact (T_X4_n (by omega)).trans g_0_4
  have f1_0_6 : σ1 ((o : Nat) : Int) 6 = ((o + 29 : Nat) : Int) := by rw [e1]; exact (T_X4_n (by omega)).trans g_0_6
  refine so_ast (u := 64) (t := 82) (c := 4) (N := 4) (i := 5) (a := o + 29) E (eX10_init (181, .aastore, 1) (List.mem_of_getElem? (i := 90) rfl)) (ezg11.trans g_0_6) (tg_ hs29 (by omega)) rfl (by omega) (fun _ => rfl) (fun _ _ _ => rfl) rfl rfl (fun _ => rfl) ?_
  intro σ2 e2
  have d2 : DF_ (o + 82) σ2 := by rw [e2]; exact df_up (by omega) (df_mono (by omega) d1)
  have f2_0_4 : σ2 ((o : Nat) : Int) 4 = ((o + 27 : Nat) : Int) := by rw [e2]; exact (ups_n (by omega)).trans f1_0_4
  have f2_0_6 : σ2 ((o : Nat) : Int) 6 = ((o + 29 : Nat) : Int) := by rw [e2]; exact (ups_n (by omega)).trans f1_0_6
  refine B _ _ _ _ rfl ?_
  refine And.intro (by omega) ?_
  refine B _ _ _ _ rfl ?_
  refine And.intro (fun h12 => (by exfalso; omega)) (fun h12 => ?_)
  intro zg13 ezg13 _
  show WP_ X G Q _ _ _ _ _ 174 _ _
  refine so_new (n := o + 82) (sh := 64) (c := 4) (N := 4) E hA0 (eX10_init (174, .new 41, 3) (List.mem_of_getElem? (i := 87) rfl)) rfl rfl hs82 (by decide) (fun _ _ _ => rfl) wk_X10_41 wx_X4 wn_X4 (by rw [hR]; decide) (by rw [hR]; decide) (df_mono (by omega) d2) rfl ?_
  intro q2
  refine B _ _ _ _ rfl ?_
  show WP_ X G Q _ _ _ _ _ 178 _ _
  refine so_ctorN (host := RX10) (o := o + 82) (m := o + 84) (t := 64) E hA0 hAO (cn_X4 X.2.1 (o + 82) hs82 hs83) (by omega) (by rw [hR]; decide) (by rw [hR]; decide) (by rw [hR]; decide) (eX10_init (178, .invokespecial 89, 3) (List.mem_of_getElem? (i := 89) rfl)) rfl (Nat.le_of_ble_eq_true rfl) ⟨by decide, by decide, by decide, by decide⟩ wnl_X10_89 wi_X4_init wn_X4 wc_X4_init (df_mono (by omega) d2) rfl ?_
  intro q3 σ3 e3
  have d3 : DF_ (o + 84) σ3 := by rw [e3]; exact df_X4 (by omega) (df_mono (by omega) d2)
  have f3_0_4 : σ3 ((o : Nat) : Int) 4 = ((o + 27 : Nat) : Int) := by rw [e3]; exact (T_X4_n (by omega)).trans f2_0_4
  have f3_0_6 : σ3 ((o : Nat) : Int) 6 = ((o + 29 : Nat) : Int) := by rw [e3]; exact (T_X4_n (by omega)).trans f2_0_6
  refine so_ast (u := 64) (t := 82) (c := 4) (N := 4) (i := 5) (a := o + 29) E (eX10_init (181, .aastore, 1) (List.mem_of_getElem? (i := 90) rfl)) (ezg13.trans f2_0_6) (tg_ hs29 (by omega)) rfl (by omega) (fun _ => rfl) (fun _ _ _ => rfl) rfl rfl (fun _ => rfl) ?_
  intro σ4 e4
  have d4 : DF_ (o + 84) σ4 := by rw [e4]; exact df_up (by omega) (df_mono (by omega) d3)
  have f4_0_4 : σ4 ((o : Nat) : Int) 4 = ((o + 27 : Nat) : Int) := by rw [e4]; exact (ups_n (by omega)).trans f3_0_4
  have f4_0_6 : σ4 ((o : Nat) : Int) 6 = ((o + 29 : Nat) : Int) := by rw [e4]; exact (ups_n (by omega)).trans f3_0_6
  exact k _ _ (ap_1 (ap_1 (ap_1 (ap_1 ap_0)))) (by rw [e4, e3, e2, e1])
set_option maxHeartbeats 4000000 in
set_option maxRecDepth 100000 in
theorem cx_X10_8 {X : Cx_t} {G : Gx_t} {Q : State → Prop} {o : Nat} {ad : List Nat} {σ : Me_t} (hR : X.2.2.2.1 = { frames := 3, cells := 85, slots := 20233, locals := 81 }) (E : EN_ X G RX10 cX10_init 2 none) (hA0 : ∀ q, X.2.2.2.2.1.heap.size ≤ q → G.2.2.2 q) (hAO : AO_ X.2.2.2.2.1) (hin : X.2.2.2.2.2.2.2.2.1.name = "<init>") (hs29 : SHR_[o + 29]? = some 82) (hs84 : SHR_[o + 84]? = some 64) (hs85 : SHR_[o + 85]? = some 31) (hD : DF_ (o + 84) σ) (g_0_4 : σ ((o : Nat) : Int) 4 = ((o + 27 : Nat) : Int)) (g_0_6 : σ ((o : Nat) : Int) 6 = ((o + 29 : Nat) : Int)) (k : ∀ (ad' : List Nat) (σ' : Me_t), (∃ qs, ad' = ad ++ qs) → σ' = ups_ (T_X4 (o + 84) (σ)) ((o + 29 : Nat) : Int) (((0 + 1) + 1) + 1) ((o + 84 : Nat) : Int) → WP_ X G Q 85 20233 ad' (SHR_.take (o + 86)) σ' 188 [(80, ((o : Nat) : Int)), (0, ((((0 + 1) + 1) + 1) + 1))] []) : WP_ X G Q 83 20169 ad (SHR_.take (o + 84)) σ 182 [(80, ((o : Nat) : Int)), (0, ((0 + 1) + 1))] [] := by
  have B := fun (cl sl : Nat) (ad shs : List Nat) => @bk_ X G Q cl sl ad shs RX10 cX10_init 2 none flX10 plX10 knX10 [] 9 (fun _ _ => False) none kX10_init [1, 5, 9, 12, 16, 20, 23, 27, 31, 38, 42, 50, 53, 58, 60, 65, 68, 72, 76, 79, 83, 87, 90, 94, 98, 101, 105, 109, 112, 116, 120, 123, 148, 152, 155, 174, 178, 181, 188] flX10_ok plX10_ok knX10_ok eX10_init oX10_init (fun _ h => absurd h List.not_mem_nil) (fun _ _ _ _ _ h => h.elim) sok_no E
  refine B _ _ _ _ rfl ?_
  refine And.intro (by omega) ?_
  refine B _ _ _ _ rfl ?_
  refine And.intro (fun h14 => (by exfalso; omega)) (fun h14 => ?_)
  intro zg15 ezg15 _
  show WP_ X G Q _ _ _ _ _ 174 _ _
  refine so_new (n := o + 84) (sh := 64) (c := 4) (N := 4) E hA0 (eX10_init (174, .new 41, 3) (List.mem_of_getElem? (i := 87) rfl)) rfl rfl hs84 (by decide) (fun _ _ _ => rfl) wk_X10_41 wx_X4 wn_X4 (by rw [hR]; decide) (by rw [hR]; decide) (df_mono (by omega) hD) rfl ?_
  intro q0
  refine B _ _ _ _ rfl ?_
  show WP_ X G Q _ _ _ _ _ 178 _ _
  refine so_ctorN (host := RX10) (o := o + 84) (m := o + 86) (t := 64) E hA0 hAO (cn_X4 X.2.1 (o + 84) hs84 hs85) (by omega) (by rw [hR]; decide) (by rw [hR]; decide) (by rw [hR]; decide) (eX10_init (178, .invokespecial 89, 3) (List.mem_of_getElem? (i := 89) rfl)) rfl (Nat.le_of_ble_eq_true rfl) ⟨by decide, by decide, by decide, by decide⟩ wnl_X10_89 wi_X4_init wn_X4 wc_X4_init (df_mono (by omega) hD) rfl ?_
  intro q1 σ1 e1
  have d1 : DF_ (o + 86) σ1 := by rw [e1]; exact df_X4 (by omega) (df_mono (by omega) hD)
  have f1_0_4 : σ1 ((o : Nat) : Int) 4 = ((o + 27 : Nat) : Int) := by rw [e1]; exact (T_X4_n (by omega)).trans g_0_4
  have f1_0_6 : σ1 ((o : Nat) : Int) 6 = ((o + 29 : Nat) : Int) := by rw [e1]; exact (T_X4_n (by omega)).trans g_0_6
  refine so_ast (u := 64) (t := 82) (c := 4) (N := 4) (i := 5) (a := o + 29) E (eX10_init (181, .aastore, 1) (List.mem_of_getElem? (i := 90) rfl)) (ezg15.trans g_0_6) (tg_ hs29 (by omega)) rfl (by omega) (fun _ => rfl) (fun _ _ _ => rfl) rfl rfl (fun _ => rfl) ?_
  intro σ2 e2
  have d2 : DF_ (o + 86) σ2 := by rw [e2]; exact df_up (by omega) (df_mono (by omega) d1)
  have f2_0_4 : σ2 ((o : Nat) : Int) 4 = ((o + 27 : Nat) : Int) := by rw [e2]; exact (ups_n (by omega)).trans f1_0_4
  have f2_0_6 : σ2 ((o : Nat) : Int) 6 = ((o + 29 : Nat) : Int) := by rw [e2]; exact (ups_n (by omega)).trans f1_0_6
  refine B _ _ _ _ rfl ?_
  refine And.intro (by omega) ?_
  refine B _ _ _ _ rfl ?_
  refine And.intro (fun h16 => ?_) (fun h16 => (by exfalso; omega))
  exact k _ _ (ap_1 (ap_1 ap_0)) (by rw [e2, e1])
set_option maxHeartbeats 40000000 in
set_option maxRecDepth 100000 in
theorem cn_X10 (l : Launch) (o : Nat) (hs0 : SHR_[o]? = some 70) (hs1 : SHR_[o + 1]? = some 68) (hs2 : SHR_[o + 2]? = some 2) (hs3 : SHR_[o + 3]? = some 63) (hs4 : SHR_[o + 4]? = some 4) (hs5 : SHR_[o + 5]? = some 69) (hs6 : SHR_[o + 6]? = some 80) (hs7 : SHR_[o + 7]? = some 7) (hs8 : SHR_[o + 8]? = some 8) (hs9 : SHR_[o + 9]? = some 9) (hs10 : SHR_[o + 10]? = some 61) (hs11 : SHR_[o + 11]? = some 11) (hs12 : SHR_[o + 12]? = some 61) (hs13 : SHR_[o + 13]? = some 11) (hs14 : SHR_[o + 14]? = some 61) (hs15 : SHR_[o + 15]? = some 11) (hs16 : SHR_[o + 16]? = some 69) (hs17 : SHR_[o + 17]? = some 80) (hs18 : SHR_[o + 18]? = some 7) (hs19 : SHR_[o + 19]? = some 8) (hs20 : SHR_[o + 20]? = some 9) (hs21 : SHR_[o + 21]? = some 61) (hs22 : SHR_[o + 22]? = some 11) (hs23 : SHR_[o + 23]? = some 61) (hs24 : SHR_[o + 24]? = some 11) (hs25 : SHR_[o + 25]? = some 61) (hs26 : SHR_[o + 26]? = some 11) (hs27 : SHR_[o + 27]? = some 81) (hs28 : SHR_[o + 28]? = some 13) (hs29 : SHR_[o + 29]? = some 82) (hs30 : SHR_[o + 30]? = some 60) (hs31 : SHR_[o + 31]? = some 16) (hs32 : SHR_[o + 32]? = some 17) (hs33 : SHR_[o + 33]? = some 18) (hs34 : SHR_[o + 34]? = some 65) (hs35 : SHR_[o + 35]? = some 20) (hs36 : SHR_[o + 36]? = some 62) (hs37 : SHR_[o + 37]? = some 22) (hs38 : SHR_[o + 38]? = some 23) (hs39 : SHR_[o + 39]? = some 66) (hs40 : SHR_[o + 40]? = some 25) (hs41 : SHR_[o + 41]? = some 26) (hs42 : SHR_[o + 42]? = some 67) (hs43 : SHR_[o + 43]? = some 28) (hs44 : SHR_[o + 44]? = some 29) (hs45 : SHR_[o + 45]? = some 69) (hs46 : SHR_[o + 46]? = some 80) (hs47 : SHR_[o + 47]? = some 7) (hs48 : SHR_[o + 48]? = some 8) (hs49 : SHR_[o + 49]? = some 9) (hs50 : SHR_[o + 50]? = some 61) (hs51 : SHR_[o + 51]? = some 11) (hs52 : SHR_[o + 52]? = some 61) (hs53 : SHR_[o + 53]? = some 11) (hs54 : SHR_[o + 54]? = some 61) (hs55 : SHR_[o + 55]? = some 11) (hs56 : SHR_[o + 56]? = some 69) (hs57 : SHR_[o + 57]? = some 80) (hs58 : SHR_[o + 58]? = some 7) (hs59 : SHR_[o + 59]? = some 8) (hs60 : SHR_[o + 60]? = some 9) (hs61 : SHR_[o + 61]? = some 61) (hs62 : SHR_[o + 62]? = some 11) (hs63 : SHR_[o + 63]? = some 61) (hs64 : SHR_[o + 64]? = some 11) (hs65 : SHR_[o + 65]? = some 61) (hs66 : SHR_[o + 66]? = some 11) (hs67 : SHR_[o + 67]? = some 69) (hs68 : SHR_[o + 68]? = some 80) (hs69 : SHR_[o + 69]? = some 7) (hs70 : SHR_[o + 70]? = some 8) (hs71 : SHR_[o + 71]? = some 9) (hs72 : SHR_[o + 72]? = some 61) (hs73 : SHR_[o + 73]? = some 11) (hs74 : SHR_[o + 74]? = some 61) (hs75 : SHR_[o + 75]? = some 11) (hs76 : SHR_[o + 76]? = some 61) (hs77 : SHR_[o + 77]? = some 11) (hs78 : SHR_[o + 78]? = some 64) (hs79 : SHR_[o + 79]? = some 31) (hs80 : SHR_[o + 80]? = some 64) (hs81 : SHR_[o + 81]? = some 31) (hs82 : SHR_[o + 82]? = some 64) (hs83 : SHR_[o + 83]? = some 31) (hs84 : SHR_[o + 84]? = some 64) (hs85 : SHR_[o + 85]? = some 31) : CN_ l yX10_init cX10_init 2 3 81 85 20233 o (o + 86) (T_X10 o) := by
  refine cn_of (by decide) (by decide) (by decide) hs0 ?_
  intro X G Q ad σ hl hR E hA0 hAO hin hD R
  show WP_ X G Q 0 0 ad (SHR_.take (o + 1)) σ 0 [(80, (o : Int)), (9, 0)] []
  refine cx_X10_0 hR E hA0 hAO hin hs1 hs2 hs3 hs4 hD  ?_
  intro ad0 σ0 p0 e0
  have d0 : DF_ (o + 5) σ0 := by rw [e0]; exact (df_up (by omega) (df_X3 (by omega) (df_up (by omega) (df_X8 (by omega) (df_mono (by omega) hD)))))
  refine cx_X10_1 hR E hA0 hAO hin hs5 hs6 hs7 hs8 hs9 hs10 hs11 hs12 hs13 hs14 hs15 hs16 hs17 hs18 hs19 hs20 hs21 hs22 hs23 hs24 hs25 hs26 hs27 d0  ?_
  intro ad1 σ1 p1 e1
  have d1 : DF_ (o + 28) σ1 := by rw [e1]; exact (df_up (by omega) (df_up (by omega) (df_X9 (by omega) (df_up (by omega) (df_X9 (by omega) (df_mono (by omega) d0))))))
  have w1_0_4 : σ1 ((o : Nat) : Int) 4 = ((o + 27 : Nat) : Int) := by rw [e1]; exact ups_s
  refine cx_X10_2 hR E hA0 hAO hin hs28 hs29 hs30 hs31 hs32 hs33 d1 w1_0_4 ?_
  intro ad2 σ2 p2 e2
  have d2 : DF_ (o + 34) σ2 := by rw [e2]; exact (df_up (by omega) (df_X0 (by omega) (df_up (by omega) (df_up (by omega) (df_mono (by omega) d1)))))
  have w2_0_4 : σ2 ((o : Nat) : Int) 4 = ((o + 27 : Nat) : Int) := by rw [e2]; exact ((ups_n (by omega)).trans ((T_X0_n (by omega)).trans ((ups_n (by omega)).trans ((ups_n (by omega)).trans w1_0_4))))
  have w2_0_6 : σ2 ((o : Nat) : Int) 6 = ((o + 29 : Nat) : Int) := by rw [e2]; exact ((ups_n (by omega)).trans ((T_X0_n (by omega)).trans ups_s))
  refine cx_X10_3 hR E hA0 hAO hin hs34 hs35 hs36 hs37 hs38 d2 w2_0_4 w2_0_6 ?_
  intro ad3 σ3 p3 e3
  have d3 : DF_ (o + 39) σ3 := by rw [e3]; exact (df_up (by omega) (df_X2 (by omega) (df_up (by omega) (df_X5 (by omega) (df_mono (by omega) d2)))))
  have w3_0_4 : σ3 ((o : Nat) : Int) 4 = ((o + 27 : Nat) : Int) := by rw [e3]; exact ((ups_n (by omega)).trans ((T_X2_n (by omega)).trans ((ups_n (by omega)).trans ((T_X5_n (by omega)).trans w2_0_4))))
  have w3_0_6 : σ3 ((o : Nat) : Int) 6 = ((o + 29 : Nat) : Int) := by rw [e3]; exact ((ups_n (by omega)).trans ((T_X2_n (by omega)).trans ((ups_n (by omega)).trans ((T_X5_n (by omega)).trans w2_0_6))))
  refine cx_X10_4 hR E hA0 hAO hin hs39 hs40 hs41 hs42 hs43 hs44 d3 w3_0_4 w3_0_6 ?_
  intro ad4 σ4 p4 e4
  have d4 : DF_ (o + 45) σ4 := by rw [e4]; exact (df_up (by omega) (df_X7 (by omega) (df_up (by omega) (df_X6 (by omega) (df_mono (by omega) d3)))))
  have w4_0_4 : σ4 ((o : Nat) : Int) 4 = ((o + 27 : Nat) : Int) := by rw [e4]; exact ((ups_n (by omega)).trans ((T_X7_n (by omega)).trans ((ups_n (by omega)).trans ((T_X6_n (by omega)).trans w3_0_4))))
  have w4_0_6 : σ4 ((o : Nat) : Int) 6 = ((o + 29 : Nat) : Int) := by rw [e4]; exact ((ups_n (by omega)).trans ((T_X7_n (by omega)).trans ((ups_n (by omega)).trans ((T_X6_n (by omega)).trans w3_0_6))))
  refine cx_X10_5 hR E hA0 hAO hin hs27 hs45 hs46 hs47 hs48 hs49 hs50 hs51 hs52 hs53 hs54 hs55 hs56 hs57 hs58 hs59 hs60 hs61 hs62 hs63 hs64 hs65 hs66 d4 w4_0_4 w4_0_6 ?_
  intro ad5 σ5 p5 e5
  have d5 : DF_ (o + 67) σ5 := by rw [e5]; exact (df_up (by omega) (df_X9 (by omega) (df_up (by omega) (df_X9 (by omega) (df_up (by omega) (df_up (by omega) (df_mono (by omega) d4)))))))
  have w5_0_4 : σ5 ((o : Nat) : Int) 4 = ((o + 27 : Nat) : Int) := by rw [e5]; exact ((ups_n (by omega)).trans ((T_X9_n (by omega)).trans ((ups_n (by omega)).trans ((T_X9_n (by omega)).trans ((ups_n (by omega)).trans ((ups_n (by omega)).trans w4_0_4))))))
  have w5_0_6 : σ5 ((o : Nat) : Int) 6 = ((o + 29 : Nat) : Int) := by rw [e5]; exact ((ups_n (by omega)).trans ((T_X9_n (by omega)).trans ((ups_n (by omega)).trans ((T_X9_n (by omega)).trans ((ups_n (by omega)).trans ((ups_n (by omega)).trans w4_0_6))))))
  refine cx_X10_6 hR E hA0 hAO hin hs27 hs29 hs67 hs68 hs69 hs70 hs71 hs72 hs73 hs74 hs75 hs76 hs77 hs78 hs79 d5 w5_0_4 w5_0_6 ?_
  intro ad6 σ6 p6 e6
  have d6 : DF_ (o + 80) σ6 := by rw [e6]; exact (df_up (by omega) (df_X4 (by omega) (df_up (by omega) (df_X9 (by omega) (df_mono (by omega) d5)))))
  have w6_0_4 : σ6 ((o : Nat) : Int) 4 = ((o + 27 : Nat) : Int) := by rw [e6]; exact ((ups_n (by omega)).trans ((T_X4_n (by omega)).trans ((ups_n (by omega)).trans ((T_X9_n (by omega)).trans w5_0_4))))
  have w6_0_6 : σ6 ((o : Nat) : Int) 6 = ((o + 29 : Nat) : Int) := by rw [e6]; exact ((ups_n (by omega)).trans ((T_X4_n (by omega)).trans ((ups_n (by omega)).trans ((T_X9_n (by omega)).trans w5_0_6))))
  refine cx_X10_7 hR E hA0 hAO hin hs29 hs80 hs81 hs82 hs83 d6 w6_0_4 w6_0_6 ?_
  intro ad7 σ7 p7 e7
  have d7 : DF_ (o + 84) σ7 := by rw [e7]; exact (df_up (by omega) (df_X4 (by omega) (df_up (by omega) (df_X4 (by omega) (df_mono (by omega) d6)))))
  have w7_0_4 : σ7 ((o : Nat) : Int) 4 = ((o + 27 : Nat) : Int) := by rw [e7]; exact ((ups_n (by omega)).trans ((T_X4_n (by omega)).trans ((ups_n (by omega)).trans ((T_X4_n (by omega)).trans w6_0_4))))
  have w7_0_6 : σ7 ((o : Nat) : Int) 6 = ((o + 29 : Nat) : Int) := by rw [e7]; exact ((ups_n (by omega)).trans ((T_X4_n (by omega)).trans ((ups_n (by omega)).trans ((T_X4_n (by omega)).trans w6_0_6))))
  refine cx_X10_8 hR E hA0 hAO hin hs29 hs84 hs85 d7 w7_0_4 w7_0_6 ?_
  intro ad8 σ8 p8 e8
  have d8 : DF_ (o + 86) σ8 := by rw [e8]; exact (df_up (by omega) (df_X4 (by omega) (df_mono (by omega) d7)))
  have w8_0_4 : σ8 ((o : Nat) : Int) 4 = ((o + 27 : Nat) : Int) := by rw [e8]; exact ((ups_n (by omega)).trans ((T_X4_n (by omega)).trans w7_0_4))
  have w8_0_6 : σ8 ((o : Nat) : Int) 6 = ((o + 29 : Nat) : Int) := by rw [e8]; exact ((ups_n (by omega)).trans ((T_X4_n (by omega)).trans w7_0_6))
  exact R 188 _ _ _ (eX10_init (188, .return_, 1) (List.mem_of_getElem? (i := 93) rfl)) (ap_t (ap_t (ap_t (ap_t (ap_t (ap_t (ap_t (ap_t p0 p1) p2) p3) p4) p5) p6) p7) p8) (by rw [e8, e7, e6, e5, e4, e3, e2, e1, e0]; rfl)
