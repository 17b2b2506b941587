def T_X11 (o : Nat) (σ : Me_t) : Me_t := ups_ (ups_ (ups_ (ups_ (ups_ (ups_ (ups_ (ups_ (ups_ (ups_ (ups_ (ups_ (ups_ (ups_ (ups_ (ups_ (ups_ (ups_ (ups_ (ups_ (ups_ (ups_ (ups_ (ups_ (σ) ((o : Nat) : Int) 1 ((o + 1 : Nat) : Int)) ((o : Nat) : Int) 2 ((o + 2 : Nat) : Int)) ((o : Nat) : Int) 3 ((o + 3 : Nat) : Int)) ((o : Nat) : Int) 4 ((o + 4 : Nat) : Int)) ((o : Nat) : Int) 6 ((o + 5 : Nat) : Int)) ((o : Nat) : Int) 13 (-1)) ((o : Nat) : Int) 14 ((o + 6 : Nat) : Int)) ((o : Nat) : Int) 15 ((o + 7 : Nat) : Int)) ((o : Nat) : Int) 16 ((o + 8 : Nat) : Int)) ((o : Nat) : Int) 17 ((o + 9 : Nat) : Int)) ((o : Nat) : Int) 18 ((o + 10 : Nat) : Int)) ((o : Nat) : Int) 21 ((o + 11 : Nat) : Int)) ((o : Nat) : Int) 24 ((o + 12 : Nat) : Int)) ((o : Nat) : Int) 29 ((o + 13 : Nat) : Int)) ((o : Nat) : Int) 30 ((o + 14 : Nat) : Int)) ((o : Nat) : Int) 31 ((o + 15 : Nat) : Int)) ((o + 16 : Nat) : Int) 0 (-1)) ((o + 16 : Nat) : Int) 1 (-1)) ((o + 16 : Nat) : Int) 2 (-1)) ((o + 16 : Nat) : Int) 3 (-1)) ((o : Nat) : Int) 35 ((o + 16 : Nat) : Int)) ((o : Nat) : Int) 36 ((o + 17 : Nat) : Int)) ((o : Nat) : Int) 37 ((o + 18 : Nat) : Int)) ((o : Nat) : Int) 38 ((o + 19 : Nat) : Int)
theorem T_X11_n {o : Nat} {σ : Me_t} {k j : Int} (h : k < (o : Int)) : T_X11 o σ k j = σ k j := ((ups_n (by omega)).trans ((ups_n (by omega)).trans ((ups_n (by omega)).trans ((ups_n (by omega)).trans ((ups_n (by omega)).trans ((ups_n (by omega)).trans ((ups_n (by omega)).trans ((ups_n (by omega)).trans ((ups_n (by omega)).trans ((ups_n (by omega)).trans ((ups_n (by omega)).trans ((ups_n (by omega)).trans ((ups_n (by omega)).trans ((ups_n (by omega)).trans ((ups_n (by omega)).trans ((ups_n (by omega)).trans ((ups_n (by omega)).trans ((ups_n (by omega)).trans ((ups_n (by omega)).trans ((ups_n (by omega)).trans ((ups_n (by omega)).trans ((ups_n (by omega)).trans ((ups_n (by omega)).trans ((ups_n (by omega)).trans rfl))))))))))))))))))))))))
theorem df_X11 {o n : Nat} {σ : Me_t} (h : o + 20 ≤ n) (hD : DF_ o σ) : DF_ n (T_X11 o σ) := (df_up (by omega) (df_up (by omega) (df_up (by omega) (df_up (by omega) (df_up (by omega) (df_up (by omega) (df_up (by omega) (df_up (by omega) (df_up (by omega) (df_up (by omega) (df_up (by omega) (df_up (by omega) (df_up (by omega) (df_up (by omega) (df_up (by omega) (df_up (by omega) (df_up (by omega) (df_up (by omega) (df_up (by omega) (df_up (by omega) (df_up (by omega) (df_up (by omega) (df_up (by omega) (df_up (by omega) (df_mono (by omega) hD)))))))))))))))))))))))))
set_option maxHeartbeats 4000000 in
set_option maxRecDepth 100000 in
theorem cx_X11_0 {X : Cx_t} {G : Gx_t} {Q : State → Prop} {o : Nat} {ad : List Nat} {σ : Me_t} (hR : X.2.2.2.1 = { frames := 1, cells := 19, slots := 28196, locals := 40 }) (E : EN_ X G RX11 cX11_init 1 none) (hA0 : ∀ q, X.2.2.2.2.1.heap.size ≤ q → G.2.2.2 q) (hAO : AO_ X.2.2.2.2.1) (hin : X.2.2.2.2.2.2.2.2.1.name = "<init>") (hs1 : SHR_[o + 1]? = some 33) (hs2 : SHR_[o + 2]? = some 34) (hs3 : SHR_[o + 3]? = some 35) (hs4 : SHR_[o + 4]? = some 36) (hD : DF_ (o) σ)  (k : ∀ (ad' : List Nat) (σ' : Me_t), (∃ qs, ad' = ad ++ qs) → σ' = ups_ (ups_ (ups_ (ups_ (σ) ((o : Nat) : Int) 1 ((o + 1 : Nat) : Int)) ((o : Nat) : Int) 2 ((o + 2 : Nat) : Int)) ((o : Nat) : Int) 3 ((o + 3 : Nat) : Int)) ((o : Nat) : Int) 4 ((o + 4 : Nat) : Int) → WP_ X G Q 4 3183 ad' (SHR_.take (o + 5)) σ' 38 [(81, ((o : Nat) : Int))] []) : WP_ X G Q 0 0 ad (SHR_.take (o + 1)) σ 0 [(81, ((o : Nat) : Int))] [] := by
  have B := fun (cl sl : Nat) (ad shs : List Nat) => @bk_ X G Q cl sl ad shs RX11 cX11_init 1 none flX11 plX11 knX11 [] 9 (fun _ _ => False) none kX11_init [1, 8, 10, 17, 19, 24, 26, 33, 35, 40, 42, 54, 56, 63, 65, 72, 74, 81, 83, 90, 92, 98, 100, 106, 108, 114, 116, 122, 124, 130, 132, 137, 155, 160, 162, 169, 171, 177, 179, 182] flX11_ok plX11_ok knX11_ok eX11_init oX11_init (fun _ h => absurd h List.not_mem_nil) (fun _ _ _ _ _ h => h.elim) sok_no E
  refine B _ _ _ _ rfl ?_
  show WP_ X G Q _ _ _ _ _ 1 _ _
  refine so_obj E (eX11_init (1, .invokespecial 3, 3) (List.mem_of_getElem? (i := 1) rfl)) wo_X11 wo_i wo_c rfl (by rw [hR]; decide) (by rw [hR]; decide) ?_
  refine B _ _ _ _ rfl ?_
  show WP_ X G Q _ _ _ _ _ 8 _ _
  refine so_newi (n := o + 1) (sh := 33) (a := 1) (c := 0) (N := 495) (i := 0) (ty := .int) E hA0 (eX11_init (8, .newarray .int, 2) (List.mem_of_getElem? (i := 4) rfl)) rfl rfl (fun _ => rfl) (Or.inl rfl) rfl rfl (by decide +kernel) hs1 (fun _ => ⟨rfl, rfl⟩) (fun _ _ _ => rfl) wy_int (by rw [hR]; decide) (by rw [hR]; decide) (df_mono (by omega) hD) rfl ?_
  intro q0
  refine so_putF (c := 11) (jn := 1) (ji := 1) (N := 39) (t := 71) (u := 33) E hin (eX11_init (10, .putfield 9, 3) (List.mem_of_getElem? (i := 5) rfl)) rfl rfl (by decide) rfl wf_X11_9 rfl rfl rfl (fun _ _ _ => rfl) ?_
  intro σ1 e1
  have d1 : DF_ (o + 2) σ1 := by rw [e1]; exact df_up (by omega) (df_mono (by omega) hD)
  refine B _ _ _ _ rfl ?_
  show WP_ X G Q _ _ _ _ _ 17 _ _
  refine so_newi (n := o + 2) (sh := 34) (a := 1) (c := 0) (N := 1485) (i := 0) (ty := .int) E hA0 (eX11_init (17, .newarray .int, 2) (List.mem_of_getElem? (i := 8) rfl)) rfl rfl (fun _ => rfl) (Or.inl rfl) rfl rfl (by decide +kernel) hs2 (fun _ => ⟨rfl, rfl⟩) (fun _ _ _ => rfl) wy_int (by rw [hR]; decide) (by rw [hR]; decide) (df_mono (by omega) d1) rfl ?_
  intro q1
  refine so_putF (c := 11) (jn := 2) (ji := 2) (N := 39) (t := 71) (u := 34) E hin (eX11_init (19, .putfield 13, 3) (List.mem_of_getElem? (i := 9) rfl)) rfl rfl (by decide) rfl wf_X11_13 rfl rfl rfl (fun _ _ _ => rfl) ?_
  intro σ2 e2
  have d2 : DF_ (o + 3) σ2 := by rw [e2]; exact df_up (by omega) (df_mono (by omega) d1)
  refine B _ _ _ _ rfl ?_
  show WP_ X G Q _ _ _ _ _ 24 _ _
  refine so_newi (n := o + 3) (sh := 35) (a := 3) (c := 0) (N := 3) (i := 2) (ty := .boolean) E hA0 (eX11_init (24, .newarray .boolean, 2) (List.mem_of_getElem? (i := 12) rfl)) rfl rfl (fun _ => rfl) (Or.inr (Or.inr rfl)) rfl rfl (by decide +kernel) hs3 (fun _ => ⟨rfl, rfl⟩) (fun _ _ _ => rfl) wy_boolean (by rw [hR]; decide) (by rw [hR]; decide) (df_mono (by omega) d2) rfl ?_
  intro q2
  refine so_putF (c := 11) (jn := 3) (ji := 3) (N := 39) (t := 71) (u := 35) E hin (eX11_init (26, .putfield 16, 3) (List.mem_of_getElem? (i := 13) rfl)) rfl rfl (by decide) rfl wf_X11_16 rfl rfl rfl (fun _ _ _ => rfl) ?_
  intro σ3 e3
  have d3 : DF_ (o + 4) σ3 := by rw [e3]; exact df_up (by omega) (df_mono (by omega) d2)
  refine B _ _ _ _ rfl ?_
  show WP_ X G Q _ _ _ _ _ 33 _ _
  refine so_newi (n := o + 4) (sh := 36) (a := 2) (c := 0) (N := 1200) (i := 1) (ty := .byte) E hA0 (eX11_init (33, .newarray .byte, 2) (List.mem_of_getElem? (i := 16) rfl)) rfl rfl (fun _ => rfl) (Or.inr (Or.inl rfl)) rfl rfl (by decide +kernel) hs4 (fun _ => ⟨rfl, rfl⟩) (fun _ _ _ => rfl) wy_byte (by rw [hR]; decide) (by rw [hR]; decide) (df_mono (by omega) d3) rfl ?_
  intro q3
  refine so_putF (c := 11) (jn := 4) (ji := 4) (N := 39) (t := 71) (u := 36) E hin (eX11_init (35, .putfield 20, 3) (List.mem_of_getElem? (i := 17) rfl)) rfl rfl (by decide) rfl wf_X11_20 rfl rfl rfl (fun _ _ _ => rfl) ?_
  intro σ4 e4
  have d4 : DF_ (o + 5) σ4 := by rw [e4]; exact df_up (by omega) (df_mono (by omega) d3)
  exact k _ _ (ap_1 (ap_1 (ap_1 (ap_1 ap_0)))) (by rw [e4, e3, e2, e1])
set_option maxHeartbeats 4000000 in
set_option maxRecDepth 100000 in
theorem cx_X11_1 {X : Cx_t} {G : Gx_t} {Q : State → Prop} {o : Nat} {ad : List Nat} {σ : Me_t} (hR : X.2.2.2.1 = { frames := 1, cells := 19, slots := 28196, locals := 40 }) (E : EN_ X G RX11 cX11_init 1 none) (hA0 : ∀ q, X.2.2.2.2.1.heap.size ≤ q → G.2.2.2 q) (hAO : AO_ X.2.2.2.2.1) (hin : X.2.2.2.2.2.2.2.2.1.name = "<init>") (hs5 : SHR_[o + 5]? = some 37) (hs6 : SHR_[o + 6]? = some 38) (hs7 : SHR_[o + 7]? = some 39) (hs8 : SHR_[o + 8]? = some 40) (hD : DF_ (o + 5) σ)  (k : ∀ (ad' : List Nat) (σ' : Me_t), (∃ qs, ad' = ad ++ qs) → σ' = ups_ (ups_ (ups_ (ups_ (ups_ (σ) ((o : Nat) : Int) 6 ((o + 5 : Nat) : Int)) ((o : Nat) : Int) 13 (-1)) ((o : Nat) : Int) 14 ((o + 6 : Nat) : Int)) ((o : Nat) : Int) 15 ((o + 7 : Nat) : Int)) ((o : Nat) : Int) 16 ((o + 8 : Nat) : Int) → WP_ X G Q 8 15683 ad' (SHR_.take (o + 9)) σ' 77 [(81, ((o : Nat) : Int))] []) : WP_ X G Q 4 3183 ad (SHR_.take (o + 5)) σ 38 [(81, ((o : Nat) : Int))] [] := by
  have B := fun (cl sl : Nat) (ad shs : List Nat) => @bk_ X G Q cl sl ad shs RX11 cX11_init 1 none flX11 plX11 knX11 [] 9 (fun _ _ => False) none kX11_init [1, 8, 10, 17, 19, 24, 26, 33, 35, 40, 42, 54, 56, 63, 65, 72, 74, 81, 83, 90, 92, 98, 100, 106, 108, 114, 116, 122, 124, 130, 132, 137, 155, 160, 162, 169, 171, 177, 179, 182] flX11_ok plX11_ok knX11_ok eX11_init oX11_init (fun _ h => absurd h List.not_mem_nil) (fun _ _ _ _ _ h => h.elim) sok_no E
  refine B _ _ _ _ rfl ?_
  show WP_ X G Q _ _ _ _ _ 40 _ _
  refine so_newi (n := o + 5) (sh := 37) (a := 1) (c := 0) (N := 5) (i := 0) (ty := .int) E hA0 (eX11_init (40, .newarray .int, 2) (List.mem_of_getElem? (i := 20) rfl)) rfl rfl (fun _ => rfl) (Or.inl rfl) rfl rfl (by decide +kernel) hs5 (fun _ => ⟨rfl, rfl⟩) (fun _ _ _ => rfl) wy_int (by rw [hR]; decide) (by rw [hR]; decide) (df_mono (by omega) hD) rfl ?_
  intro q0
  refine so_putF (c := 11) (jn := 6) (ji := 6) (N := 39) (t := 71) (u := 37) E hin (eX11_init (42, .putfield 24, 3) (List.mem_of_getElem? (i := 21) rfl)) rfl rfl (by decide) rfl wf_X11_24 rfl rfl rfl (fun _ _ _ => rfl) ?_
  intro σ1 e1
  have d1 : DF_ (o + 6) σ1 := by rw [e1]; exact df_up (by omega) (df_mono (by omega) hD)
  refine B _ _ _ _ rfl ?_
  intro σ2 e2
  have d2 : DF_ (o + 6) σ2 := by rw [e2]; exact df_up (by omega) (df_mono (by omega) d1)
  show WP_ X G Q _ _ _ _ _ 54 _ _
  refine so_newi (n := o + 6) (sh := 38) (a := 1) (c := 0) (N := 495) (i := 0) (ty := .int) E hA0 (eX11_init (54, .newarray .int, 2) (List.mem_of_getElem? (i := 27) rfl)) rfl rfl (fun _ => rfl) (Or.inl rfl) rfl rfl (by decide +kernel) hs6 (fun _ => ⟨rfl, rfl⟩) (fun _ _ _ => rfl) wy_int (by rw [hR]; decide) (by rw [hR]; decide) (df_mono (by omega) d2) rfl ?_
  intro q1
  refine so_putF (c := 11) (jn := 14) (ji := 14) (N := 39) (t := 71) (u := 38) E hin (eX11_init (56, .putfield 31, 3) (List.mem_of_getElem? (i := 28) rfl)) rfl rfl (by decide) rfl wf_X11_31 rfl rfl rfl (fun _ _ _ => rfl) ?_
  intro σ3 e3
  have d3 : DF_ (o + 7) σ3 := by rw [e3]; exact df_up (by omega) (df_mono (by omega) d2)
  refine B _ _ _ _ rfl ?_
  show WP_ X G Q _ _ _ _ _ 63 _ _
  refine so_newi (n := o + 7) (sh := 39) (a := 1) (c := 0) (N := 6000) (i := 0) (ty := .int) E hA0 (eX11_init (63, .newarray .int, 2) (List.mem_of_getElem? (i := 31) rfl)) rfl rfl (fun _ => rfl) (Or.inl rfl) rfl rfl (by decide +kernel) hs7 (fun _ => ⟨rfl, rfl⟩) (fun _ _ _ => rfl) wy_int (by rw [hR]; decide) (by rw [hR]; decide) (df_mono (by omega) d3) rfl ?_
  intro q2
  refine so_putF (c := 11) (jn := 15) (ji := 15) (N := 39) (t := 71) (u := 39) E hin (eX11_init (65, .putfield 34, 3) (List.mem_of_getElem? (i := 32) rfl)) rfl rfl (by decide) rfl wf_X11_34 rfl rfl rfl (fun _ _ _ => rfl) ?_
  intro σ4 e4
  have d4 : DF_ (o + 8) σ4 := by rw [e4]; exact df_up (by omega) (df_mono (by omega) d3)
  refine B _ _ _ _ rfl ?_
  show WP_ X G Q _ _ _ _ _ 72 _ _
  refine so_newi (n := o + 8) (sh := 40) (a := 1) (c := 0) (N := 6000) (i := 0) (ty := .int) E hA0 (eX11_init (72, .newarray .int, 2) (List.mem_of_getElem? (i := 35) rfl)) rfl rfl (fun _ => rfl) (Or.inl rfl) rfl rfl (by decide +kernel) hs8 (fun _ => ⟨rfl, rfl⟩) (fun _ _ _ => rfl) wy_int (by rw [hR]; decide) (by rw [hR]; decide) (df_mono (by omega) d4) rfl ?_
  intro q3
  refine so_putF (c := 11) (jn := 16) (ji := 16) (N := 39) (t := 71) (u := 40) E hin (eX11_init (74, .putfield 37, 3) (List.mem_of_getElem? (i := 36) rfl)) rfl rfl (by decide) rfl wf_X11_37 rfl rfl rfl (fun _ _ _ => rfl) ?_
  intro σ5 e5
  have d5 : DF_ (o + 9) σ5 := by rw [e5]; exact df_up (by omega) (df_mono (by omega) d4)
  exact k _ _ (ap_1 (ap_1 (ap_1 (ap_1 ap_0)))) (by rw [e5, e4, e3, e2, e1])
set_option maxHeartbeats 4000000 in
set_option maxRecDepth 100000 in
theorem cx_X11_2 {X : Cx_t} {G : Gx_t} {Q : State → Prop} {o : Nat} {ad : List Nat} {σ : Me_t} (hR : X.2.2.2.1 = { frames := 1, cells := 19, slots := 28196, locals := 40 }) (E : EN_ X G RX11 cX11_init 1 none) (hA0 : ∀ q, X.2.2.2.2.1.heap.size ≤ q → G.2.2.2 q) (hAO : AO_ X.2.2.2.2.1) (hin : X.2.2.2.2.2.2.2.2.1.name = "<init>") (hs9 : SHR_[o + 9]? = some 41) (hs10 : SHR_[o + 10]? = some 42) (hs11 : SHR_[o + 11]? = some 43) (hs12 : SHR_[o + 12]? = some 44) (hD : DF_ (o + 9) σ)  (k : ∀ (ad' : List Nat) (σ' : Me_t), (∃ qs, ad' = ad ++ qs) → σ' = ups_ (ups_ (ups_ (ups_ (σ) ((o : Nat) : Int) 17 ((o + 9 : Nat) : Int)) ((o : Nat) : Int) 18 ((o + 10 : Nat) : Int)) ((o : Nat) : Int) 21 ((o + 11 : Nat) : Int)) ((o : Nat) : Int) 24 ((o + 12 : Nat) : Int) → WP_ X G Q 12 27765 ad' (SHR_.take (o + 13)) σ' 111 [(81, ((o : Nat) : Int))] []) : WP_ X G Q 8 15683 ad (SHR_.take (o + 9)) σ 77 [(81, ((o : Nat) : Int))] [] := by
  have B := fun (cl sl : Nat) (ad shs : List Nat) => @bk_ X G Q cl sl ad shs RX11 cX11_init 1 none flX11 plX11 knX11 [] 9 (fun _ _ => False) none kX11_init [1, 8, 10, 17, 19, 24, 26, 33, 35, 40, 42, 54, 56, 63, 65, 72, 74, 81, 83, 90, 92, 98, 100, 106, 108, 114, 116, 122, 124, 130, 132, 137, 155, 160, 162, 169, 171, 177, 179, 182] flX11_ok plX11_ok knX11_ok eX11_init oX11_init (fun _ h => absurd h List.not_mem_nil) (fun _ _ _ _ _ h => h.elim) sok_no E
  refine B _ _ _ _ rfl ?_
  show WP_ X G Q _ _ _ _ _ 81 _ _
  refine so_newi (n := o + 9) (sh := 41) (a := 1) (c := 0) (N := 6000) (i := 0) (ty := .int) E hA0 (eX11_init (81, .newarray .int, 2) (List.mem_of_getElem? (i := 39) rfl)) rfl rfl (fun _ => rfl) (Or.inl rfl) rfl rfl (by decide +kernel) hs9 (fun _ => ⟨rfl, rfl⟩) (fun _ _ _ => rfl) wy_int (by rw [hR]; decide) (by rw [hR]; decide) (df_mono (by omega) hD) rfl ?_
  intro q0
  refine so_putF (c := 11) (jn := 17) (ji := 17) (N := 39) (t := 71) (u := 41) E hin (eX11_init (83, .putfield 40, 3) (List.mem_of_getElem? (i := 40) rfl)) rfl rfl (by decide) rfl wf_X11_40 rfl rfl rfl (fun _ _ _ => rfl) ?_
  intro σ1 e1
  have d1 : DF_ (o + 10) σ1 := by rw [e1]; exact df_up (by omega) (df_mono (by omega) hD)
  refine B _ _ _ _ rfl ?_
  show WP_ X G Q _ _ _ _ _ 90 _ _
  refine so_newi (n := o + 10) (sh := 42) (a := 1) (c := 0) (N := 6000) (i := 0) (ty := .int) E hA0 (eX11_init (90, .newarray .int, 2) (List.mem_of_getElem? (i := 43) rfl)) rfl rfl (fun _ => rfl) (Or.inl rfl) rfl rfl (by decide +kernel) hs10 (fun _ => ⟨rfl, rfl⟩) (fun _ _ _ => rfl) wy_int (by rw [hR]; decide) (by rw [hR]; decide) (df_mono (by omega) d1) rfl ?_
  intro q1
  refine so_putF (c := 11) (jn := 18) (ji := 18) (N := 39) (t := 71) (u := 42) E hin (eX11_init (92, .putfield 43, 3) (List.mem_of_getElem? (i := 44) rfl)) rfl rfl (by decide) rfl wf_X11_43 rfl rfl rfl (fun _ _ _ => rfl) ?_
  intro σ2 e2
  have d2 : DF_ (o + 11) σ2 := by rw [e2]; exact df_up (by omega) (df_mono (by omega) d1)
  refine B _ _ _ _ rfl ?_
  show WP_ X G Q _ _ _ _ _ 98 _ _
  refine so_newi (n := o + 11) (sh := 43) (a := 3) (c := 0) (N := 70) (i := 2) (ty := .boolean) E hA0 (eX11_init (98, .newarray .boolean, 2) (List.mem_of_getElem? (i := 47) rfl)) rfl rfl (fun _ => rfl) (Or.inr (Or.inr rfl)) rfl rfl (by decide +kernel) hs11 (fun _ => ⟨rfl, rfl⟩) (fun _ _ _ => rfl) wy_boolean (by rw [hR]; decide) (by rw [hR]; decide) (df_mono (by omega) d2) rfl ?_
  intro q2
  refine so_putF (c := 11) (jn := 21) (ji := 21) (N := 39) (t := 71) (u := 43) E hin (eX11_init (100, .putfield 46, 3) (List.mem_of_getElem? (i := 48) rfl)) rfl rfl (by decide) rfl wf_X11_46 rfl rfl rfl (fun _ _ _ => rfl) ?_
  intro σ3 e3
  have d3 : DF_ (o + 12) σ3 := by rw [e3]; exact df_up (by omega) (df_mono (by omega) d2)
  refine B _ _ _ _ rfl ?_
  show WP_ X G Q _ _ _ _ _ 106 _ _
  refine so_newi (n := o + 12) (sh := 44) (a := 1) (c := 0) (N := 12) (i := 0) (ty := .int) E hA0 (eX11_init (106, .newarray .int, 2) (List.mem_of_getElem? (i := 51) rfl)) rfl rfl (fun _ => rfl) (Or.inl rfl) rfl rfl (by decide +kernel) hs12 (fun _ => ⟨rfl, rfl⟩) (fun _ _ _ => rfl) wy_int (by rw [hR]; decide) (by rw [hR]; decide) (df_mono (by omega) d3) rfl ?_
  intro q3
  refine so_putF (c := 11) (jn := 24) (ji := 24) (N := 39) (t := 71) (u := 44) E hin (eX11_init (108, .putfield 49, 3) (List.mem_of_getElem? (i := 52) rfl)) rfl rfl (by decide) rfl wf_X11_49 rfl rfl rfl (fun _ _ _ => rfl) ?_
  intro σ4 e4
  have d4 : DF_ (o + 13) σ4 := by rw [e4]; exact df_up (by omega) (df_mono (by omega) d3)
  exact k _ _ (ap_1 (ap_1 (ap_1 (ap_1 ap_0)))) (by rw [e4, e3, e2, e1])
set_option maxHeartbeats 4000000 in
set_option maxRecDepth 100000 in
theorem cx_X11_3 {X : Cx_t} {G : Gx_t} {Q : State → Prop} {o : Nat} {ad : List Nat} {σ : Me_t} (hR : X.2.2.2.1 = { frames := 1, cells := 19, slots := 28196, locals := 40 }) (E : EN_ X G RX11 cX11_init 1 none) (hA0 : ∀ q, X.2.2.2.2.1.heap.size ≤ q → G.2.2.2 q) (hAO : AO_ X.2.2.2.2.1) (hin : X.2.2.2.2.2.2.2.2.1.name = "<init>") (hs13 : SHR_[o + 13]? = some 45) (hs14 : SHR_[o + 14]? = some 46) (hs15 : SHR_[o + 15]? = some 47) (hs16 : SHR_[o + 16]? = some 48) (hD : DF_ (o + 13) σ)  (k : ∀ (ad' : List Nat) (σ' : Me_t), (∃ qs, ad' = ad ++ qs) → σ' = ups_ (ups_ (ups_ (ups_ (ups_ (ups_ (ups_ (ups_ (σ) ((o : Nat) : Int) 29 ((o + 13 : Nat) : Int)) ((o : Nat) : Int) 30 ((o + 14 : Nat) : Int)) ((o : Nat) : Int) 31 ((o + 15 : Nat) : Int)) ((o + 16 : Nat) : Int) 0 (-1)) ((o + 16 : Nat) : Int) 1 (-1)) ((o + 16 : Nat) : Int) 2 (-1)) ((o + 16 : Nat) : Int) 3 (-1)) ((o : Nat) : Int) 35 ((o + 16 : Nat) : Int) → WP_ X G Q 16 27892 ad' (SHR_.take (o + 17)) σ' 158 [(81, ((o : Nat) : Int))] []) : WP_ X G Q 12 27765 ad (SHR_.take (o + 13)) σ 111 [(81, ((o : Nat) : Int))] [] := by
  have B := fun (cl sl : Nat) (ad shs : List Nat) => @bk_ X G Q cl sl ad shs RX11 cX11_init 1 none flX11 plX11 knX11 [] 9 (fun _ _ => False) none kX11_init [1, 8, 10, 17, 19, 24, 26, 33, 35, 40, 42, 54, 56, 63, 65, 72, 74, 81, 83, 90, 92, 98, 100, 106, 108, 114, 116, 122, 124, 130, 132, 137, 155, 160, 162, 169, 171, 177, 179, 182] flX11_ok plX11_ok knX11_ok eX11_init oX11_init (fun _ h => absurd h List.not_mem_nil) (fun _ _ _ _ _ h => h.elim) sok_no E
  refine B _ _ _ _ rfl ?_
  show WP_ X G Q _ _ _ _ _ 114 _ _
  refine so_newi (n := o + 13) (sh := 45) (a := 1) (c := 0) (N := 41) (i := 0) (ty := .int) E hA0 (eX11_init (114, .newarray .int, 2) (List.mem_of_getElem? (i := 55) rfl)) rfl rfl (fun _ => rfl) (Or.inl rfl) rfl rfl (by decide +kernel) hs13 (fun _ => ⟨rfl, rfl⟩) (fun _ _ _ => rfl) wy_int (by rw [hR]; decide) (by rw [hR]; decide) (df_mono (by omega) hD) rfl ?_
  intro q0
  refine so_putF (c := 11) (jn := 29) (ji := 29) (N := 39) (t := 71) (u := 45) E hin (eX11_init (116, .putfield 52, 3) (List.mem_of_getElem? (i := 56) rfl)) rfl rfl (by decide) rfl wf_X11_52 rfl rfl rfl (fun _ _ _ => rfl) ?_
  intro σ1 e1
  have d1 : DF_ (o + 14) σ1 := by rw [e1]; exact df_up (by omega) (df_mono (by omega) hD)
  refine B _ _ _ _ rfl ?_
  show WP_ X G Q _ _ _ _ _ 122 _ _
  refine so_newi (n := o + 14) (sh := 46) (a := 1) (c := 0) (N := 41) (i := 0) (ty := .int) E hA0 (eX11_init (122, .newarray .int, 2) (List.mem_of_getElem? (i := 59) rfl)) rfl rfl (fun _ => rfl) (Or.inl rfl) rfl rfl (by decide +kernel) hs14 (fun _ => ⟨rfl, rfl⟩) (fun _ _ _ => rfl) wy_int (by rw [hR]; decide) (by rw [hR]; decide) (df_mono (by omega) d1) rfl ?_
  intro q1
  refine so_putF (c := 11) (jn := 30) (ji := 30) (N := 39) (t := 71) (u := 46) E hin (eX11_init (124, .putfield 55, 3) (List.mem_of_getElem? (i := 60) rfl)) rfl rfl (by decide) rfl wf_X11_55 rfl rfl rfl (fun _ _ _ => rfl) ?_
  intro σ2 e2
  have d2 : DF_ (o + 15) σ2 := by rw [e2]; exact df_up (by omega) (df_mono (by omega) d1)
  refine B _ _ _ _ rfl ?_
  show WP_ X G Q _ _ _ _ _ 130 _ _
  refine so_newi (n := o + 15) (sh := 47) (a := 1) (c := 0) (N := 41) (i := 0) (ty := .int) E hA0 (eX11_init (130, .newarray .int, 2) (List.mem_of_getElem? (i := 63) rfl)) rfl rfl (fun _ => rfl) (Or.inl rfl) rfl rfl (by decide +kernel) hs15 (fun _ => ⟨rfl, rfl⟩) (fun _ _ _ => rfl) wy_int (by rw [hR]; decide) (by rw [hR]; decide) (df_mono (by omega) d2) rfl ?_
  intro q2
  refine so_putF (c := 11) (jn := 31) (ji := 31) (N := 39) (t := 71) (u := 47) E hin (eX11_init (132, .putfield 58, 3) (List.mem_of_getElem? (i := 64) rfl)) rfl rfl (by decide) rfl wf_X11_58 rfl rfl rfl (fun _ _ _ => rfl) ?_
  intro σ3 e3
  have d3 : DF_ (o + 16) σ3 := by rw [e3]; exact df_up (by omega) (df_mono (by omega) d2)
  refine B _ _ _ _ rfl ?_
  show WP_ X G Q _ _ _ _ _ 137 _ _
  refine so_newi (n := o + 16) (sh := 48) (a := 1) (c := 0) (N := 4) (i := 0) (ty := .int) E hA0 (eX11_init (137, .newarray .int, 2) (List.mem_of_getElem? (i := 67) rfl)) rfl rfl (fun _ => rfl) (Or.inl rfl) rfl rfl (by decide +kernel) hs16 (fun _ => ⟨rfl, rfl⟩) (fun _ _ _ => rfl) wy_int (by rw [hR]; decide) (by rw [hR]; decide) (df_mono (by omega) d3) rfl ?_
  intro q3
  refine B _ _ _ _ rfl ?_
  refine And.intro (by omega) ?_
  refine And.intro (by show ((-1) : Int) ≤ _ ∧ _ ≤ (60 : Int); omega) ?_
  intro σ4 e4
  have d4 : DF_ (o + 17) σ4 := by rw [e4]; exact df_up (by omega) (df_mono (by omega) d3)
  refine And.intro (by omega) ?_
  refine And.intro (by show ((-1) : Int) ≤ _ ∧ _ ≤ (60 : Int); omega) ?_
  intro σ5 e5
  have d5 : DF_ (o + 17) σ5 := by rw [e5]; exact df_up (by omega) (df_mono (by omega) d4)
  refine And.intro (by omega) ?_
  refine And.intro (by show ((-1) : Int) ≤ _ ∧ _ ≤ (60 : Int); omega) ?_
  intro σ6 e6
  have d6 : DF_ (o + 17) σ6 := by rw [e6]; exact df_up (by omega) (df_mono (by omega) d5)
  refine And.intro (by omega) ?_
  refine And.intro (by show ((-1) : Int) ≤ _ ∧ _ ≤ (60 : Int); omega) ?_
  intro σ7 e7
  have d7 : DF_ (o + 17) σ7 := by rw [e7]; exact df_up (by omega) (df_mono (by omega) d6)
  show WP_ X G Q _ _ _ _ _ 155 _ _
  refine so_putF (c := 11) (jn := 35) (ji := 35) (N := 39) (t := 71) (u := 48) E hin (eX11_init (155, .putfield 61, 3) (List.mem_of_getElem? (i := 84) rfl)) rfl rfl (by decide) rfl wf_X11_61 rfl rfl rfl (fun _ _ _ => rfl) ?_
  intro σ8 e8
  have d8 : DF_ (o + 17) σ8 := by rw [e8]; exact df_up (by omega) (df_mono (by omega) d7)
  exact k _ _ (ap_1 (ap_1 (ap_1 (ap_1 ap_0)))) (by rw [e8, e7, e6, e5, e4, e3, e2, e1])
set_option maxHeartbeats 4000000 in
set_option maxRecDepth 100000 in
theorem cx_X11_4 {X : Cx_t} {G : Gx_t} {Q : State → Prop} {o : Nat} {ad : List Nat} {σ : Me_t} (hR : X.2.2.2.1 = { frames := 1, cells := 19, slots := 28196, locals := 40 }) (E : EN_ X G RX11 cX11_init 1 none) (hA0 : ∀ q, X.2.2.2.2.1.heap.size ≤ q → G.2.2.2 q) (hAO : AO_ X.2.2.2.2.1) (hin : X.2.2.2.2.2.2.2.2.1.name = "<init>") (hs17 : SHR_[o + 17]? = some 49) (hs18 : SHR_[o + 18]? = some 50) (hs19 : SHR_[o + 19]? = some 51) (hD : DF_ (o + 17) σ)  (k : ∀ (ad' : List Nat) (σ' : Me_t), (∃ qs, ad' = ad ++ qs) → σ' = ups_ (ups_ (ups_ (σ) ((o : Nat) : Int) 36 ((o + 17 : Nat) : Int)) ((o : Nat) : Int) 37 ((o + 18 : Nat) : Int)) ((o : Nat) : Int) 38 ((o + 19 : Nat) : Int) → WP_ X G Q 19 28196 ad' (SHR_.take (o + 20)) σ' 182 [(81, ((o : Nat) : Int))] []) : WP_ X G Q 16 27892 ad (SHR_.take (o + 17)) σ 158 [(81, ((o : Nat) : Int))] [] := by
  have B := fun (cl sl : Nat) (ad shs : List Nat) => @bk_ X G Q cl sl ad shs RX11 cX11_init 1 none flX11 plX11 knX11 [] 9 (fun _ _ => False) none kX11_init [1, 8, 10, 17, 19, 24, 26, 33, 35, 40, 42, 54, 56, 63, 65, 72, 74, 81, 83, 90, 92, 98, 100, 106, 108, 114, 116, 122, 124, 130, 132, 137, 155, 160, 162, 169, 171, 177, 179, 182] flX11_ok plX11_ok knX11_ok eX11_init oX11_init (fun _ h => absurd h List.not_mem_nil) (fun _ _ _ _ _ h => h.elim) sok_no E
  refine B _ _ _ _ rfl ?_
  show WP_ X G Q _ _ _ _ _ 160 _ _
  refine so_newi (n := o + 17) (sh := 49) (a := 1) (c := 0) (N := 4) (i := 0) (ty := .int) E hA0 (eX11_init (160, .newarray .int, 2) (List.mem_of_getElem? (i := 87) rfl)) rfl rfl (fun _ => rfl) (Or.inl rfl) rfl rfl (by decide +kernel) hs17 (fun _ => ⟨rfl, rfl⟩) (fun _ _ _ => rfl) wy_int (by rw [hR]; decide) (by rw [hR]; decide) (df_mono (by omega) hD) rfl ?_
  intro q0
  refine so_putF (c := 11) (jn := 36) (ji := 36) (N := 39) (t := 71) (u := 49) E hin (eX11_init (162, .putfield 64, 3) (List.mem_of_getElem? (i := 88) rfl)) rfl rfl (by decide) rfl wf_X11_64 rfl rfl rfl (fun _ _ _ => rfl) ?_
  intro σ1 e1
  have d1 : DF_ (o + 18) σ1 := by rw [e1]; exact df_up (by omega) (df_mono (by omega) hD)
  refine B _ _ _ _ rfl ?_
  show WP_ X G Q _ _ _ _ _ 169 _ _
  refine so_newl (n := o + 18) (sh := 50) (c := 0) (N := 240) E hA0 (eX11_init (169, .newarray .long, 2) (List.mem_of_getElem? (i := 91) rfl)) rfl rfl (by decide +kernel) hs18 (fun _ => ⟨rfl, rfl⟩) (fun _ _ _ => rfl) wy_long (by rw [hR]; decide) (by rw [hR]; decide) (df_mono (by omega) d1) rfl ?_
  intro q1
  refine so_putF (c := 11) (jn := 37) (ji := 37) (N := 39) (t := 71) (u := 50) E hin (eX11_init (171, .putfield 67, 3) (List.mem_of_getElem? (i := 92) rfl)) rfl rfl (by decide) rfl wf_X11_67 rfl rfl rfl (fun _ _ _ => rfl) ?_
  intro σ2 e2
  have d2 : DF_ (o + 19) σ2 := by rw [e2]; exact df_up (by omega) (df_mono (by omega) d1)
  refine B _ _ _ _ rfl ?_
  show WP_ X G Q _ _ _ _ _ 177 _ _
  refine so_newl (n := o + 19) (sh := 51) (c := 0) (N := 60) E hA0 (eX11_init (177, .newarray .long, 2) (List.mem_of_getElem? (i := 95) rfl)) rfl rfl (by decide +kernel) hs19 (fun _ => ⟨rfl, rfl⟩) (fun _ _ _ => rfl) wy_long (by rw [hR]; decide) (by rw [hR]; decide) (df_mono (by omega) d2) rfl ?_
  intro q2
  refine so_putF (c := 11) (jn := 38) (ji := 38) (N := 39) (t := 71) (u := 51) E hin (eX11_init (179, .putfield 71, 3) (List.mem_of_getElem? (i := 96) rfl)) rfl rfl (by decide) rfl wf_X11_71 rfl rfl rfl (fun _ _ _ => rfl) ?_
  intro σ3 e3
  have d3 : DF_ (o + 20) σ3 := by rw [e3]; exact df_up (by omega) (df_mono (by omega) d2)
  exact k _ _ (ap_1 (ap_1 (ap_1 ap_0))) (by rw [e3, e2, e1])
set_option maxHeartbeats 40000000 in
set_option maxRecDepth 100000 in
theorem cn_X11 (l : Launch) (o : Nat) (hs0 : SHR_[o]? = some 71) (hs1 : SHR_[o + 1]? = some 33) (hs2 : SHR_[o + 2]? = some 34) (hs3 : SHR_[o + 3]? = some 35) (hs4 : SHR_[o + 4]? = some 36) (hs5 : SHR_[o + 5]? = some 37) (hs6 : SHR_[o + 6]? = some 38) (hs7 : SHR_[o + 7]? = some 39) (hs8 : SHR_[o + 8]? = some 40) (hs9 : SHR_[o + 9]? = some 41) (hs10 : SHR_[o + 10]? = some 42) (hs11 : SHR_[o + 11]? = some 43) (hs12 : SHR_[o + 12]? = some 44) (hs13 : SHR_[o + 13]? = some 45) (hs14 : SHR_[o + 14]? = some 46) (hs15 : SHR_[o + 15]? = some 47) (hs16 : SHR_[o + 16]? = some 48) (hs17 : SHR_[o + 17]? = some 49) (hs18 : SHR_[o + 18]? = some 50) (hs19 : SHR_[o + 19]? = some 51) : CN_ l yX11_init cX11_init 1 1 40 19 28196 o (o + 20) (T_X11 o) := by
  refine cn_of (by decide) (by decide) (by decide) hs0 ?_
  intro X G Q ad σ hl hR E hA0 hAO hin hD R
  show WP_ X G Q 0 0 ad (SHR_.take (o + 1)) σ 0 [(81, (o : Int))] []
  refine cx_X11_0 hR E hA0 hAO hin hs1 hs2 hs3 hs4 hD  ?_
  intro ad0 σ0 p0 e0
  have d0 : DF_ (o + 5) σ0 := by rw [e0]; exact (df_up (by omega) (df_up (by omega) (df_up (by omega) (df_up (by omega) (df_mono (by omega) hD)))))
  refine cx_X11_1 hR E hA0 hAO hin hs5 hs6 hs7 hs8 d0  ?_
  intro ad1 σ1 p1 e1
  have d1 : DF_ (o + 9) σ1 := by rw [e1]; exact (df_up (by omega) (df_up (by omega) (df_up (by omega) (df_up (by omega) (df_up (by omega) (df_mono (by omega) d0))))))
  refine cx_X11_2 hR E hA0 hAO hin hs9 hs10 hs11 hs12 d1  ?_
  intro ad2 σ2 p2 e2
  have d2 : DF_ (o + 13) σ2 := by rw [e2]; exact (df_up (by omega) (df_up (by omega) (df_up (by omega) (df_up (by omega) (df_mono (by omega) d1)))))
  refine cx_X11_3 hR E hA0 hAO hin hs13 hs14 hs15 hs16 d2  ?_
  intro ad3 σ3 p3 e3
  have d3 : DF_ (o + 17) σ3 := by rw [e3]; exact (df_up (by omega) (df_up (by omega) (df_up (by omega) (df_up (by omega) (df_up (by omega) (df_up (by omega) (df_up (by omega) (df_up (by omega) (df_mono (by omega) d2)))))))))
  refine cx_X11_4 hR E hA0 hAO hin hs17 hs18 hs19 d3  ?_
  intro ad4 σ4 p4 e4
  have d4 : DF_ (o + 20) σ4 := by rw [e4]; exact (df_up (by omega) (df_up (by omega) (df_up (by omega) (df_mono (by omega) d3))))
  exact R 182 _ _ _ (eX11_init (182, .return_, 1) (List.mem_of_getElem? (i := 97) rfl)) (ap_t (ap_t (ap_t (ap_t p0 p1) p2) p3) p4) (by rw [e4, e3, e2, e1, e0]; rfl)
