set_option maxRecDepth 100000 in
theorem wo_X8 : Cond.methodLink RX8 3 objectInit ∈ gl_ := wg_ 110 (by decide +kernel) rfl
set_option maxRecDepth 100000 in
theorem wo_i : Cond.instanceMethod objectInit ∈ gl_ := wg_ 103 (by decide +kernel) rfl
set_option maxRecDepth 100000 in
theorem wo_c : Cond.code objectInit ⟨#[0xb1]⟩ 1 none ∈ gl_ := wg_ 104 (by decide +kernel) rfl
set_option maxRecDepth 100000 in
theorem wy_byte : Cond.arrayClass .byte ∈ gl_ := wg_ 121 (by decide +kernel) rfl
set_option maxRecDepth 100000 in
theorem wf_X8_9 : Cond.fieldLink RX8 9 (TX8 0).1 (TX8 0).2.1 (TX8 0).2.2.1 ∈ gl_ := wg_ 111 (by decide +kernel) rfl
set_option maxRecDepth 100000 in
theorem wo_X3 : Cond.methodLink RX3 3 objectInit ∈ gl_ := wg_ 127 (by decide +kernel) rfl
set_option maxRecDepth 100000 in
theorem wo_X1 : Cond.methodLink RX1 3 objectInit ∈ gl_ := wg_ 167 (by decide +kernel) rfl
set_option maxRecDepth 100000 in
theorem wy_int : Cond.arrayClass .int ∈ gl_ := wg_ 218 (by decide +kernel) rfl
set_option maxRecDepth 100000 in
theorem wf_X1_36 : Cond.fieldLink RX1 36 (TX1 8).1 (TX1 8).2.1 (TX1 8).2.2.1 ∈ gl_ := wg_ 195 (by decide +kernel) rfl
set_option maxRecDepth 100000 in
theorem wo_X9 : Cond.methodLink RX9 3 objectInit ∈ gl_ := wg_ 160 (by decide +kernel) rfl
set_option maxRecDepth 100000 in
theorem wk_X9_30 : Cond.classLink RX9 30 RX1 ∈ gl_ := wg_ 161 (by decide +kernel) rfl
set_option maxRecDepth 100000 in
theorem wf_X9_32 : Cond.fieldLink RX9 32 (TX9 6).1 (TX9 6).2.1 (TX9 6).2.2.1 ∈ gl_ := wg_ 239 (by decide +kernel) rfl
set_option maxRecDepth 100000 in
theorem wf_X9_36 : Cond.fieldLink RX9 36 (TX9 7).1 (TX9 7).2.1 (TX9 7).2.2.1 ∈ gl_ := wg_ 243 (by decide +kernel) rfl
set_option maxRecDepth 100000 in
theorem wf_X9_40 : Cond.fieldLink RX9 40 (TX9 8).1 (TX9 8).2.1 (TX9 8).2.2.1 ∈ gl_ := wg_ 246 (by decide +kernel) rfl
set_option maxRecDepth 100000 in
theorem wf_X9_43 : Cond.fieldLink RX9 43 (TX9 9).1 (TX9 9).2.1 (TX9 9).2.2.1 ∈ gl_ := wg_ 249 (by decide +kernel) rfl
set_option maxRecDepth 100000 in
theorem wx_X1 : Cond.instantiable RX1 9 ∈ gl_ := wg_ 163 (by decide +kernel) rfl
set_option maxRecDepth 100000 in
theorem wnl_X9_46 : Cond.methodLinkNest RX9 46 yX1_init RX10 ∈ lw_tbl := List.mem_of_getElem? (i := 164) (by decide +kernel)
set_option maxRecDepth 100000 in
theorem wo_X0 : Cond.methodLink RX0 3 objectInit ∈ gl_ := wg_ 279 (by decide +kernel) rfl
set_option maxRecDepth 100000 in
theorem wf_X0_9 : Cond.fieldLink RX0 9 (TX0 0).1 (TX0 0).2.1 (TX0 0).2.2.1 ∈ gl_ := wg_ 280 (by decide +kernel) rfl
set_option maxRecDepth 100000 in
theorem wf_X0_15 : Cond.fieldLink RX0 15 (TX0 1).1 (TX0 1).2.1 (TX0 1).2.2.1 ∈ gl_ := wg_ 281 (by decide +kernel) rfl
set_option maxRecDepth 100000 in
theorem wf_X0_19 : Cond.fieldLink RX0 19 (TX0 2).1 (TX0 2).2.1 (TX0 2).2.2.1 ∈ gl_ := wg_ 282 (by decide +kernel) rfl
set_option maxRecDepth 100000 in
theorem wo_X5 : Cond.methodLink RX5 3 objectInit ∈ gl_ := wg_ 320 (by decide +kernel) rfl
set_option maxRecDepth 100000 in
theorem wy_boolean : Cond.arrayClass .boolean ∈ gl_ := wg_ 314 (by decide +kernel) rfl
set_option maxRecDepth 100000 in
theorem wf_X5_9 : Cond.fieldLink RX5 9 (TX5 0).1 (TX5 0).2.1 (TX5 0).2.2.1 ∈ gl_ := wg_ 321 (by decide +kernel) rfl
set_option maxRecDepth 100000 in
theorem wo_X2 : Cond.methodLink RX2 3 objectInit ∈ gl_ := wg_ 338 (by decide +kernel) rfl
set_option maxRecDepth 100000 in
theorem wf_X2_11 : Cond.fieldLink RX2 11 (TX2 0).1 (TX2 0).2.1 (TX2 0).2.2.1 ∈ gl_ := wg_ 339 (by decide +kernel) rfl
set_option maxRecDepth 100000 in
theorem wf_X2_15 : Cond.fieldLink RX2 15 (TX2 1).1 (TX2 1).2.1 (TX2 1).2.2.1 ∈ gl_ := wg_ 340 (by decide +kernel) rfl
set_option maxRecDepth 100000 in
theorem wo_X6 : Cond.methodLink RX6 3 objectInit ∈ gl_ := wg_ 355 (by decide +kernel) rfl
set_option maxRecDepth 100000 in
theorem wf_X6_9 : Cond.fieldLink RX6 9 (TX6 0).1 (TX6 0).2.1 (TX6 0).2.2.1 ∈ gl_ := wg_ 356 (by decide +kernel) rfl
set_option maxRecDepth 100000 in
theorem wf_X6_19 : Cond.fieldLink RX6 19 (TX6 2).1 (TX6 2).2.1 (TX6 2).2.2.1 ∈ gl_ := wg_ 360 (by decide +kernel) rfl
set_option maxRecDepth 100000 in
theorem wo_X7 : Cond.methodLink RX7 3 objectInit ∈ gl_ := wg_ 381 (by decide +kernel) rfl
set_option maxRecDepth 100000 in
theorem wf_X7_9 : Cond.fieldLink RX7 9 (TX7 0).1 (TX7 0).2.1 (TX7 0).2.2.1 ∈ gl_ := wg_ 382 (by decide +kernel) rfl
set_option maxRecDepth 100000 in
theorem wf_X7_19 : Cond.fieldLink RX7 19 (TX7 2).1 (TX7 2).2.1 (TX7 2).2.2.1 ∈ gl_ := wg_ 384 (by decide +kernel) rfl
set_option maxRecDepth 100000 in
theorem wo_X4 : Cond.methodLink RX4 3 objectInit ∈ gl_ := wg_ 404 (by decide +kernel) rfl
set_option maxRecDepth 100000 in
theorem wy_long : Cond.arrayClass .long ∈ gl_ := wg_ 426 (by decide +kernel) rfl
set_option maxRecDepth 100000 in
theorem wf_X4_9 : Cond.fieldLink RX4 9 (TX4 0).1 (TX4 0).2.1 (TX4 0).2.2.1 ∈ gl_ := wg_ 405 (by decide +kernel) rfl
set_option maxRecDepth 100000 in
theorem wo_X10 : Cond.methodLink RX10 1 objectInit ∈ gl_ := wg_ 102 (by decide +kernel) rfl
set_option maxRecDepth 100000 in
theorem wk_X10_7 : Cond.classLink RX10 7 RX8 ∈ gl_ := wg_ 105 (by decide +kernel) rfl
set_option maxRecDepth 100000 in
theorem wx_X8 : Cond.instantiable RX8 2 ∈ gl_ := wg_ 106 (by decide +kernel) rfl
set_option maxRecDepth 100000 in
theorem wnl_X10_9 : Cond.methodLinkNest RX10 9 yX8_init RX10 ∈ lw_tbl := List.mem_of_getElem? (i := 107) (by decide +kernel)
set_option maxRecDepth 100000 in
theorem wf_X10_10 : Cond.fieldLink RX10 10 (TX10 0).1 (TX10 0).2.1 (TX10 0).2.2.1 ∈ gl_ := wg_ 427 (by decide +kernel) rfl
set_option maxRecDepth 100000 in
theorem wk_X10_16 : Cond.classLink RX10 16 RX3 ∈ gl_ := wg_ 122 (by decide +kernel) rfl
set_option maxRecDepth 100000 in
theorem wx_X3 : Cond.instantiable RX3 8 ∈ gl_ := wg_ 123 (by decide +kernel) rfl
set_option maxRecDepth 100000 in
theorem wnl_X10_18 : Cond.methodLinkNest RX10 18 yX3_init RX10 ∈ lw_tbl := List.mem_of_getElem? (i := 124) (by decide +kernel)
set_option maxRecDepth 100000 in
theorem wf_X10_19 : Cond.fieldLink RX10 19 (TX10 1).1 (TX10 1).2.1 (TX10 1).2.2.1 ∈ gl_ := wg_ 428 (by decide +kernel) rfl
set_option maxRecDepth 100000 in
theorem wk_X10_23 : Cond.classLink RX10 23 RX9 ∈ gl_ := wg_ 155 (by decide +kernel) rfl
set_option maxRecDepth 100000 in
theorem wx_X9 : Cond.instantiable RX9 10 ∈ gl_ := wg_ 156 (by decide +kernel) rfl
set_option maxRecDepth 100000 in
theorem wf_X10_33 : Cond.fieldLink RX10 33 (TX10 4).1 (TX10 4).2.1 (TX10 4).2.2.1 ∈ gl_ := wg_ 431 (by decide +kernel) rfl
set_option maxRecDepth 100000 in
theorem wf_X10_37 : Cond.fieldLink RX10 37 (TX10 5).1 (TX10 5).2.1 (TX10 5).2.2.1 ∈ gl_ := wg_ 432 (by decide +kernel) rfl
set_option maxRecDepth 100000 in
theorem wk_X10_41 : Cond.classLink RX10 41 RX4 ∈ gl_ := wg_ 272 (by decide +kernel) rfl
set_option maxRecDepth 100000 in
theorem wf_X10_43 : Cond.fieldLink RX10 43 (TX10 6).1 (TX10 6).2.1 (TX10 6).2.2.1 ∈ gl_ := wg_ 433 (by decide +kernel) rfl
set_option maxRecDepth 100000 in
theorem wk_X10_47 : Cond.classLink RX10 47 RX0 ∈ gl_ := wg_ 274 (by decide +kernel) rfl
set_option maxRecDepth 100000 in
theorem wx_X0 : Cond.instantiable RX0 9 ∈ gl_ := wg_ 275 (by decide +kernel) rfl
set_option maxRecDepth 100000 in
theorem wnl_X10_49 : Cond.methodLinkNest RX10 49 yX0_init RX10 ∈ lw_tbl := List.mem_of_getElem? (i := 276) (by decide +kernel)
set_option maxRecDepth 100000 in
theorem wf_X10_50 : Cond.fieldLink RX10 50 (TX10 7).1 (TX10 7).2.1 (TX10 7).2.2.1 ∈ gl_ := wg_ 434 (by decide +kernel) rfl
set_option maxRecDepth 100000 in
theorem wk_X10_54 : Cond.classLink RX10 54 RX5 ∈ gl_ := wg_ 315 (by decide +kernel) rfl
set_option maxRecDepth 100000 in
theorem wx_X5 : Cond.instantiable RX5 3 ∈ gl_ := wg_ 316 (by decide +kernel) rfl
set_option maxRecDepth 100000 in
theorem wnl_X10_56 : Cond.methodLinkNest RX10 56 yX5_init RX10 ∈ lw_tbl := List.mem_of_getElem? (i := 317) (by decide +kernel)
set_option maxRecDepth 100000 in
theorem wf_X10_57 : Cond.fieldLink RX10 57 (TX10 8).1 (TX10 8).2.1 (TX10 8).2.2.1 ∈ gl_ := wg_ 435 (by decide +kernel) rfl
set_option maxRecDepth 100000 in
theorem wk_X10_61 : Cond.classLink RX10 61 RX2 ∈ gl_ := wg_ 333 (by decide +kernel) rfl
set_option maxRecDepth 100000 in
theorem wx_X2 : Cond.instantiable RX2 3 ∈ gl_ := wg_ 334 (by decide +kernel) rfl
set_option maxRecDepth 100000 in
theorem wnl_X10_63 : Cond.methodLinkNest RX10 63 yX2_init RX10 ∈ lw_tbl := List.mem_of_getElem? (i := 335) (by decide +kernel)
set_option maxRecDepth 100000 in
theorem wf_X10_64 : Cond.fieldLink RX10 64 (TX10 9).1 (TX10 9).2.1 (TX10 9).2.2.1 ∈ gl_ := wg_ 436 (by decide +kernel) rfl
set_option maxRecDepth 100000 in
theorem wk_X10_68 : Cond.classLink RX10 68 RX6 ∈ gl_ := wg_ 350 (by decide +kernel) rfl
set_option maxRecDepth 100000 in
theorem wx_X6 : Cond.instantiable RX6 5 ∈ gl_ := wg_ 351 (by decide +kernel) rfl
set_option maxRecDepth 100000 in
theorem wnl_X10_70 : Cond.methodLinkNest RX10 70 yX6_init RX10 ∈ lw_tbl := List.mem_of_getElem? (i := 352) (by decide +kernel)
set_option maxRecDepth 100000 in
theorem wf_X10_71 : Cond.fieldLink RX10 71 (TX10 10).1 (TX10 10).2.1 (TX10 10).2.2.1 ∈ gl_ := wg_ 437 (by decide +kernel) rfl
set_option maxRecDepth 100000 in
theorem wk_X10_75 : Cond.classLink RX10 75 RX7 ∈ gl_ := wg_ 376 (by decide +kernel) rfl
set_option maxRecDepth 100000 in
theorem wx_X7 : Cond.instantiable RX7 5 ∈ gl_ := wg_ 377 (by decide +kernel) rfl
set_option maxRecDepth 100000 in
theorem wnl_X10_77 : Cond.methodLinkNest RX10 77 yX7_init RX10 ∈ lw_tbl := List.mem_of_getElem? (i := 378) (by decide +kernel)
set_option maxRecDepth 100000 in
theorem wf_X10_78 : Cond.fieldLink RX10 78 (TX10 11).1 (TX10 11).2.1 (TX10 11).2.2.1 ∈ gl_ := wg_ 438 (by decide +kernel) rfl
set_option maxRecDepth 100000 in
theorem wx_X4 : Cond.instantiable RX4 4 ∈ gl_ := wg_ 400 (by decide +kernel) rfl
set_option maxRecDepth 100000 in
theorem wnl_X10_89 : Cond.methodLinkNest RX10 89 yX4_init RX10 ∈ lw_tbl := List.mem_of_getElem? (i := 401) (by decide +kernel)
set_option maxRecDepth 100000 in
theorem wo_X11 : Cond.methodLink RX11 3 objectInit ∈ gl_ := wg_ 1230 (by decide +kernel) rfl
set_option maxRecDepth 100000 in
theorem wf_X11_9 : Cond.fieldLink RX11 9 (TX11 1).1 (TX11 1).2.1 (TX11 1).2.2.1 ∈ gl_ := wg_ 1231 (by decide +kernel) rfl
set_option maxRecDepth 100000 in
theorem wf_X11_13 : Cond.fieldLink RX11 13 (TX11 2).1 (TX11 2).2.1 (TX11 2).2.2.1 ∈ gl_ := wg_ 1232 (by decide +kernel) rfl
set_option maxRecDepth 100000 in
theorem wf_X11_16 : Cond.fieldLink RX11 16 (TX11 3).1 (TX11 3).2.1 (TX11 3).2.2.1 ∈ gl_ := wg_ 1233 (by decide +kernel) rfl
set_option maxRecDepth 100000 in
theorem wf_X11_20 : Cond.fieldLink RX11 20 (TX11 4).1 (TX11 4).2.1 (TX11 4).2.2.1 ∈ gl_ := wg_ 1234 (by decide +kernel) rfl
set_option maxRecDepth 100000 in
theorem wf_X11_24 : Cond.fieldLink RX11 24 (TX11 6).1 (TX11 6).2.1 (TX11 6).2.2.1 ∈ gl_ := wg_ 1236 (by decide +kernel) rfl
set_option maxRecDepth 100000 in
theorem wf_X11_31 : Cond.fieldLink RX11 31 (TX11 14).1 (TX11 14).2.1 (TX11 14).2.2.1 ∈ gl_ := wg_ 1244 (by decide +kernel) rfl
set_option maxRecDepth 100000 in
theorem wf_X11_34 : Cond.fieldLink RX11 34 (TX11 15).1 (TX11 15).2.1 (TX11 15).2.2.1 ∈ gl_ := wg_ 1245 (by decide +kernel) rfl
set_option maxRecDepth 100000 in
theorem wf_X11_37 : Cond.fieldLink RX11 37 (TX11 16).1 (TX11 16).2.1 (TX11 16).2.2.1 ∈ gl_ := wg_ 1246 (by decide +kernel) rfl
set_option maxRecDepth 100000 in
theorem wf_X11_40 : Cond.fieldLink RX11 40 (TX11 17).1 (TX11 17).2.1 (TX11 17).2.2.1 ∈ gl_ := wg_ 1247 (by decide +kernel) rfl
set_option maxRecDepth 100000 in
theorem wf_X11_43 : Cond.fieldLink RX11 43 (TX11 18).1 (TX11 18).2.1 (TX11 18).2.2.1 ∈ gl_ := wg_ 1248 (by decide +kernel) rfl
set_option maxRecDepth 100000 in
theorem wf_X11_46 : Cond.fieldLink RX11 46 (TX11 21).1 (TX11 21).2.1 (TX11 21).2.2.1 ∈ gl_ := wg_ 1251 (by decide +kernel) rfl
set_option maxRecDepth 100000 in
theorem wf_X11_49 : Cond.fieldLink RX11 49 (TX11 24).1 (TX11 24).2.1 (TX11 24).2.2.1 ∈ gl_ := wg_ 1254 (by decide +kernel) rfl
set_option maxRecDepth 100000 in
theorem wf_X11_52 : Cond.fieldLink RX11 52 (TX11 29).1 (TX11 29).2.1 (TX11 29).2.2.1 ∈ gl_ := wg_ 1259 (by decide +kernel) rfl
set_option maxRecDepth 100000 in
theorem wf_X11_55 : Cond.fieldLink RX11 55 (TX11 30).1 (TX11 30).2.1 (TX11 30).2.2.1 ∈ gl_ := wg_ 1260 (by decide +kernel) rfl
set_option maxRecDepth 100000 in
theorem wf_X11_58 : Cond.fieldLink RX11 58 (TX11 31).1 (TX11 31).2.1 (TX11 31).2.2.1 ∈ gl_ := wg_ 1261 (by decide +kernel) rfl
set_option maxRecDepth 100000 in
theorem wf_X11_61 : Cond.fieldLink RX11 61 (TX11 35).1 (TX11 35).2.1 (TX11 35).2.2.1 ∈ gl_ := wg_ 1265 (by decide +kernel) rfl
set_option maxRecDepth 100000 in
theorem wf_X11_64 : Cond.fieldLink RX11 64 (TX11 36).1 (TX11 36).2.1 (TX11 36).2.2.1 ∈ gl_ := wg_ 1266 (by decide +kernel) rfl
set_option maxRecDepth 100000 in
theorem wf_X11_67 : Cond.fieldLink RX11 67 (TX11 37).1 (TX11 37).2.1 (TX11 37).2.2.1 ∈ gl_ := wg_ 1267 (by decide +kernel) rfl
set_option maxRecDepth 100000 in
theorem wf_X11_71 : Cond.fieldLink RX11 71 (TX11 38).1 (TX11 38).2.1 (TX11 38).2.2.1 ∈ gl_ := wg_ 1268 (by decide +kernel) rfl
def T_X8 (o : Nat) (σ : Me_t) : Me_t := ups_ (ups_ (σ) ((o : Nat) : Int) 0 ((o + 1 : Nat) : Int)) ((o : Nat) : Int) 1 0
theorem T_X8_n {o : Nat} {σ : Me_t} {k j : Int} (h : k < (o : Int)) : T_X8 o σ k j = σ k j := ((ups_n (by omega)).trans ((ups_n (by omega)).trans rfl))
theorem df_X8 {o n : Nat} {σ : Me_t} (h : o + 2 ≤ n) (hD : DF_ o σ) : DF_ n (T_X8 o σ) := (df_up (by omega) (df_up (by omega) (df_mono (by omega) hD)))
set_option maxHeartbeats 4000000 in
set_option maxRecDepth 100000 in
theorem cn_X8 (l : Launch) (o : Nat) (hs0 : SHR_[o]? = some 68) (hs1 : SHR_[o + 1]? = some 2) : CN_ l yX8_init cX8_init 1 1 40 1 1200 o (o + 2) (T_X8 o) := by
  refine cn_of (by decide) (by decide) (by decide) hs0 ?_
  intro X G Q ad σ hl hR E hA0 hAO hin hD R
  have B := fun (cl sl : Nat) (ad shs : List Nat) => @bk_ X G Q cl sl ad shs RX8 cX8_init 1 none flX8 plX8 knX8 [] 9 (fun _ _ => False) none kX8_init [1, 8, 10, 18] flX8_ok plX8_ok knX8_ok eX8_init oX8_init (fun _ h => absurd h List.not_mem_nil) (fun _ _ _ _ _ h => h.elim) sok_no E
  show WP_ X G Q 0 0 ad (SHR_.take (o + 1)) σ 0 [(78, (o : Int))] []
  refine B _ _ _ _ rfl ?_
  show WP_ X G Q _ _ _ _ _ 1 _ _
  refine so_obj E (eX8_init (1, .invokespecial 3, 3) (List.mem_of_getElem? (i := 1) rfl)) wo_X8 wo_i wo_c rfl (by rw [hR]; decide) (by rw [hR]; decide) ?_
  refine B _ _ _ _ rfl ?_
  show WP_ X G Q _ _ _ _ _ 8 _ _
  refine so_newi (n := o + 1) (sh := 2) (a := 2) (c := 0) (N := 1200) (i := 1) (ty := .byte) E hA0 (eX8_init (8, .newarray .byte, 2) (List.mem_of_getElem? (i := 4) rfl)) rfl rfl (fun _ => rfl) (Or.inr (Or.inl rfl)) rfl rfl (by decide +kernel) hs1 (fun _ => ⟨rfl, rfl⟩) (fun _ _ _ => rfl) wy_byte (by rw [hR]; decide) (by rw [hR]; decide) (df_mono (by omega) hD) rfl ?_
  intro q0
  refine so_putF (c := 8) (jn := 0) (ji := 0) (N := 2) (t := 68) (u := 2) E hin (eX8_init (10, .putfield 9, 3) (List.mem_of_getElem? (i := 5) rfl)) rfl rfl (by decide) rfl wf_X8_9 rfl rfl rfl (fun _ _ _ => rfl) ?_
  intro σ1 e1
  have d1 : DF_ (o + 2) σ1 := by rw [e1]; exact df_up (by omega) (df_mono (by omega) hD)
  refine B _ _ _ _ rfl ?_
  intro σ2 e2
  have d2 : DF_ (o + 2) σ2 := by rw [e2]; exact df_up (by omega) (df_mono (by omega) d1)
  show WP_ X G Q _ _ _ _ _ 18 _ _
  exact R 18 _ _ _ (eX8_init (18, .return_, 1) (List.mem_of_getElem? (i := 9) rfl)) ⟨_, by first | rfl | (simp only [List.append_assoc]; rfl)⟩ (by subst e2 e1; rfl)
def T_X3 (o : Nat) (σ : Me_t) : Me_t := ups_ (ups_ (ups_ (ups_ (ups_ (ups_ (ups_ (ups_ (σ) ((o : Nat) : Int) 0 ((o + 1 : Nat) : Int)) ((o : Nat) : Int) 1 0) ((o : Nat) : Int) 2 0) ((o : Nat) : Int) 3 0) ((o : Nat) : Int) 4 0) ((o : Nat) : Int) 5 0) ((o : Nat) : Int) 6 0) ((o : Nat) : Int) 7 (-1)
theorem T_X3_n {o : Nat} {σ : Me_t} {k j : Int} (h : k < (o : Int)) : T_X3 o σ k j = σ k j := ((ups_n (by omega)).trans ((ups_n (by omega)).trans ((ups_n (by omega)).trans ((ups_n (by omega)).trans ((ups_n (by omega)).trans ((ups_n (by omega)).trans ((ups_n (by omega)).trans ((ups_n (by omega)).trans rfl))))))))
theorem df_X3 {o n : Nat} {σ : Me_t} (h : o + 2 ≤ n) (hD : DF_ o σ) : DF_ n (T_X3 o σ) := (df_up (by omega) (df_up (by omega) (df_up (by omega) (df_up (by omega) (df_up (by omega) (df_up (by omega) (df_up (by omega) (df_up (by omega) (df_mono (by omega) hD)))))))))
set_option maxHeartbeats 4000000 in
set_option maxRecDepth 100000 in
theorem cn_X3 (l : Launch) (o : Nat) (hs0 : SHR_[o]? = some 63) (hs1 : SHR_[o + 1]? = some 4) : CN_ l yX3_init cX3_init 1 1 40 1 0 o (o + 2) (T_X3 o) := by
  refine cn_of (by decide) (by decide) (by decide) hs0 ?_
  intro X G Q ad σ hl hR E hA0 hAO hin hD R
  have B := fun (cl sl : Nat) (ad shs : List Nat) => @bk_ X G Q cl sl ad shs RX3 cX3_init 1 none flX3 plX3 knX3 [] 9 (fun _ _ => False) none kX3_init [1, 6, 46] flX3_ok plX3_ok knX3_ok eX3_init oX3_init (fun _ h => absurd h List.not_mem_nil) (fun _ _ _ _ _ h => h.elim) sok_no E
  show WP_ X G Q 0 0 ad (SHR_.take (o + 1)) σ 0 [(73, (o : Int))] []
  refine B _ _ _ _ rfl ?_
  show WP_ X G Q _ _ _ _ _ 1 _ _
  refine so_obj E (eX3_init (1, .invokespecial 3, 3) (List.mem_of_getElem? (i := 1) rfl)) wo_X3 wo_i wo_c rfl (by rw [hR]; decide) (by rw [hR]; decide) ?_
  refine B _ _ _ _ rfl ?_
  show WP_ X G Q _ _ _ _ _ 6 _ _
  refine so_newi (n := o + 1) (sh := 4) (a := 2) (c := 0) (N := 0) (i := 1) (ty := .byte) E hA0 (eX3_init (6, .newarray .byte, 2) (List.mem_of_getElem? (i := 4) rfl)) rfl rfl (fun _ => rfl) (Or.inr (Or.inl rfl)) rfl rfl (by decide +kernel) hs1 (fun _ => ⟨rfl, rfl⟩) (fun _ _ _ => rfl) wy_byte (by rw [hR]; decide) (by rw [hR]; decide) (df_mono (by omega) hD) rfl ?_
  intro q0
  refine B _ _ _ _ rfl ?_
  intro σ1 e1
  have d1 : DF_ (o + 2) σ1 := by rw [e1]; exact df_up (by omega) (df_mono (by omega) hD)
  intro σ2 e2
  have d2 : DF_ (o + 2) σ2 := by rw [e2]; exact df_up (by omega) (df_mono (by omega) d1)
  intro σ3 e3
  have d3 : DF_ (o + 2) σ3 := by rw [e3]; exact df_up (by omega) (df_mono (by omega) d2)
  intro σ4 e4
  have d4 : DF_ (o + 2) σ4 := by rw [e4]; exact df_up (by omega) (df_mono (by omega) d3)
  intro σ5 e5
  have d5 : DF_ (o + 2) σ5 := by rw [e5]; exact df_up (by omega) (df_mono (by omega) d4)
  intro σ6 e6
  have d6 : DF_ (o + 2) σ6 := by rw [e6]; exact df_up (by omega) (df_mono (by omega) d5)
  intro σ7 e7
  have d7 : DF_ (o + 2) σ7 := by rw [e7]; exact df_up (by omega) (df_mono (by omega) d6)
  intro σ8 e8
  have d8 : DF_ (o + 2) σ8 := by rw [e8]; exact df_up (by omega) (df_mono (by omega) d7)
  show WP_ X G Q _ _ _ _ _ 46 _ _
  exact R 46 _ _ _ (eX3_init (46, .return_, 1) (List.mem_of_getElem? (i := 27) rfl)) ⟨_, by first | rfl | (simp only [List.append_assoc]; rfl)⟩ (by subst e8 e7 e6 e5 e4 e3 e2 e1; rfl)
def T_X1 (o : Nat) (σ : Me_t) : Me_t := ups_ (ups_ (ups_ (ups_ (ups_ (ups_ (ups_ (ups_ (ups_ (σ) ((o : Nat) : Int) 0 0) ((o : Nat) : Int) 1 2) ((o : Nat) : Int) 2 0) ((o : Nat) : Int) 3 0) ((o : Nat) : Int) 4 0) ((o : Nat) : Int) 5 (-1)) ((o : Nat) : Int) 6 0) ((o : Nat) : Int) 7 0) ((o : Nat) : Int) 8 ((o + 1 : Nat) : Int)
theorem T_X1_n {o : Nat} {σ : Me_t} {k j : Int} (h : k < (o : Int)) : T_X1 o σ k j = σ k j := ((ups_n (by omega)).trans ((ups_n (by omega)).trans ((ups_n (by omega)).trans ((ups_n (by omega)).trans ((ups_n (by omega)).trans ((ups_n (by omega)).trans ((ups_n (by omega)).trans ((ups_n (by omega)).trans ((ups_n (by omega)).trans rfl)))))))))
theorem df_X1 {o n : Nat} {σ : Me_t} (h : o + 2 ≤ n) (hD : DF_ o σ) : DF_ n (T_X1 o σ) := (df_up (by omega) (df_up (by omega) (df_up (by omega) (df_up (by omega) (df_up (by omega) (df_up (by omega) (df_up (by omega) (df_up (by omega) (df_up (by omega) (df_mono (by omega) hD))))))))))
set_option maxHeartbeats 4000000 in
set_option maxRecDepth 100000 in
theorem cn_X1 (l : Launch) (o : Nat) (hs0 : SHR_[o]? = some 61) (hs1 : SHR_[o + 1]? = some 11) : CN_ l yX1_init cX1_init 1 1 40 1 8 o (o + 2) (T_X1 o) := by
  refine cn_of (by decide) (by decide) (by decide) hs0 ?_
  intro X G Q ad σ hl hR E hA0 hAO hin hD R
  have B := fun (cl sl : Nat) (ad shs : List Nat) => @bk_ X G Q cl sl ad shs RX1 cX1_init 1 none flX1 plX1 knX1 [] 9 (fun _ _ => False) none kX1_init [1, 47, 49, 52] flX1_ok plX1_ok knX1_ok eX1_init oX1_init (fun _ h => absurd h List.not_mem_nil) (fun _ _ _ _ _ h => h.elim) sok_no E
  show WP_ X G Q 0 0 ad (SHR_.take (o + 1)) σ 0 [(71, (o : Int))] []
  refine B _ _ _ _ rfl ?_
  show WP_ X G Q _ _ _ _ _ 1 _ _
  refine so_obj E (eX1_init (1, .invokespecial 3, 3) (List.mem_of_getElem? (i := 1) rfl)) wo_X1 wo_i wo_c rfl (by rw [hR]; decide) (by rw [hR]; decide) ?_
  refine B _ _ _ _ rfl ?_
  intro σ1 e1
  have d1 : DF_ (o + 1) σ1 := by rw [e1]; exact df_up (by omega) (df_mono (by omega) hD)
  intro σ2 e2
  have d2 : DF_ (o + 1) σ2 := by rw [e2]; exact df_up (by omega) (df_mono (by omega) d1)
  intro σ3 e3
  have d3 : DF_ (o + 1) σ3 := by rw [e3]; exact df_up (by omega) (df_mono (by omega) d2)
  intro σ4 e4
  have d4 : DF_ (o + 1) σ4 := by rw [e4]; exact df_up (by omega) (df_mono (by omega) d3)
  intro σ5 e5
  have d5 : DF_ (o + 1) σ5 := by rw [e5]; exact df_up (by omega) (df_mono (by omega) d4)
  intro σ6 e6
  have d6 : DF_ (o + 1) σ6 := by rw [e6]; exact df_up (by omega) (df_mono (by omega) d5)
  intro σ7 e7
  have d7 : DF_ (o + 1) σ7 := by rw [e7]; exact df_up (by omega) (df_mono (by omega) d6)
  intro σ8 e8
  have d8 : DF_ (o + 1) σ8 := by rw [e8]; exact df_up (by omega) (df_mono (by omega) d7)
  show WP_ X G Q _ _ _ _ _ 47 _ _
  refine so_newi (n := o + 1) (sh := 11) (a := 1) (c := 0) (N := 8) (i := 0) (ty := .int) E hA0 (eX1_init (47, .newarray .int, 2) (List.mem_of_getElem? (i := 28) rfl)) rfl rfl (fun _ => rfl) (Or.inl rfl) rfl rfl (by decide +kernel) hs1 (fun _ => ⟨rfl, rfl⟩) (fun _ _ _ => rfl) wy_int (by rw [hR]; decide) (by rw [hR]; decide) (df_mono (by omega) d8) rfl ?_
  intro q0
  refine so_putF (c := 1) (jn := 8) (ji := 8) (N := 9) (t := 61) (u := 11) E hin (eX1_init (49, .putfield 36, 3) (List.mem_of_getElem? (i := 29) rfl)) rfl rfl (by decide) rfl wf_X1_36 rfl rfl rfl (fun _ _ _ => rfl) ?_
  intro σ9 e9
  have d9 : DF_ (o + 2) σ9 := by rw [e9]; exact df_up (by omega) (df_mono (by omega) d8)
  exact R 52 _ _ _ (eX1_init (52, .return_, 1) (List.mem_of_getElem? (i := 30) rfl)) ⟨_, by first | rfl | (simp only [List.append_assoc]; rfl)⟩ (by subst e9 e8 e7 e6 e5 e4 e3 e2 e1; rfl)
def T_X9 (o : Nat) (σ : Me_t) : Me_t := ups_ (T_X1 (o + 9) (ups_ (T_X1 (o + 7) (ups_ (T_X1 (o + 5) (ups_ (ups_ (ups_ (ups_ (ups_ (ups_ (ups_ (ups_ (ups_ (ups_ (σ) ((o : Nat) : Int) 0 0) ((o : Nat) : Int) 1 0) ((o : Nat) : Int) 2 0) ((o : Nat) : Int) 3 0) ((o : Nat) : Int) 4 0) ((o : Nat) : Int) 5 0) ((o : Nat) : Int) 6 ((o + 1 : Nat) : Int)) ((o : Nat) : Int) 7 ((o + 2 : Nat) : Int)) ((o : Nat) : Int) 8 ((o + 3 : Nat) : Int)) ((o : Nat) : Int) 9 ((o + 4 : Nat) : Int))) ((o + 1 : Nat) : Int) 0 ((o + 5 : Nat) : Int))) ((o + 1 : Nat) : Int) (0 + 1) ((o + 7 : Nat) : Int))) ((o + 1 : Nat) : Int) ((0 + 1) + 1) ((o + 9 : Nat) : Int)
theorem T_X9_n {o : Nat} {σ : Me_t} {k j : Int} (h : k < (o : Int)) : T_X9 o σ k j = σ k j := ((ups_n (by omega)).trans ((T_X1_n (by omega)).trans ((ups_n (by omega)).trans ((T_X1_n (by omega)).trans ((ups_n (by omega)).trans ((T_X1_n (by omega)).trans ((ups_n (by omega)).trans ((ups_n (by omega)).trans ((ups_n (by omega)).trans ((ups_n (by omega)).trans ((ups_n (by omega)).trans ((ups_n (by omega)).trans ((ups_n (by omega)).trans ((ups_n (by omega)).trans ((ups_n (by omega)).trans ((ups_n (by omega)).trans rfl))))))))))))))))
theorem df_X9 {o n : Nat} {σ : Me_t} (h : o + 11 ≤ n) (hD : DF_ o σ) : DF_ n (T_X9 o σ) := (df_up (by omega) (df_X1 (by omega) (df_up (by omega) (df_X1 (by omega) (df_up (by omega) (df_X1 (by omega) (df_up (by omega) (df_up (by omega) (df_up (by omega) (df_up (by omega) (df_up (by omega) (df_up (by omega) (df_up (by omega) (df_up (by omega) (df_up (by omega) (df_up (by omega) (df_mono (by omega) hD)))))))))))))))))
set_option maxHeartbeats 4000000 in
set_option maxRecDepth 100000 in
theorem cn_X9 (l : Launch) (o : Nat) (hs0 : SHR_[o]? = some 69) (hs1 : SHR_[o + 1]? = some 80) (hs2 : SHR_[o + 2]? = some 7) (hs3 : SHR_[o + 3]? = some 8) (hs4 : SHR_[o + 4]? = some 9) (hs5 : SHR_[o + 5]? = some 61) (hs6 : SHR_[o + 6]? = some 11) (hs7 : SHR_[o + 7]? = some 61) (hs8 : SHR_[o + 8]? = some 11) (hs9 : SHR_[o + 9]? = some 61) (hs10 : SHR_[o + 10]? = some 11) : CN_ l yX9_init cX9_init 2 2 60 10 498 o (o + 11) (T_X9 o) := by
  refine cn_of (by decide) (by decide) (by decide) hs0 ?_
  intro X G Q ad σ hl hR E hA0 hAO hin hD R
  have B := fun (cl sl : Nat) (ad shs : List Nat) => @bk_ X G Q cl sl ad shs RX9 cX9_init 2 none flX9 plX9 knX9 [] 9 (fun _ _ => False) none kX9_init [1, 36, 39, 45, 47, 53, 55, 62, 64, 79, 83, 86, 93] flX9_ok plX9_ok knX9_ok eX9_init oX9_init (fun _ h => absurd h List.not_mem_nil) (fun _ _ _ _ _ h => h.elim) sok_no E
  show WP_ X G Q 0 0 ad (SHR_.take (o + 1)) σ 0 [(79, (o : Int)), (9, 0)] []
  refine B _ _ _ _ rfl ?_
  show WP_ X G Q _ _ _ _ _ 1 _ _
  refine so_obj E (eX9_init (1, .invokespecial 3, 3) (List.mem_of_getElem? (i := 1) rfl)) wo_X9 wo_i wo_c rfl (by rw [hR]; decide) (by rw [hR]; decide) ?_
  refine B _ _ _ _ rfl ?_
  intro σ1 e1
  have d1 : DF_ (o + 1) σ1 := by rw [e1]; exact df_up (by omega) (df_mono (by omega) hD)
  intro σ2 e2
  have d2 : DF_ (o + 1) σ2 := by rw [e2]; exact df_up (by omega) (df_mono (by omega) d1)
  intro σ3 e3
  have d3 : DF_ (o + 1) σ3 := by rw [e3]; exact df_up (by omega) (df_mono (by omega) d2)
  intro σ4 e4
  have d4 : DF_ (o + 1) σ4 := by rw [e4]; exact df_up (by omega) (df_mono (by omega) d3)
  intro σ5 e5
  have d5 : DF_ (o + 1) σ5 := by rw [e5]; exact df_up (by omega) (df_mono (by omega) d4)
  intro σ6 e6
  have d6 : DF_ (o + 1) σ6 := by rw [e6]; exact df_up (by omega) (df_mono (by omega) d5)
  show WP_ X G Q _ _ _ _ _ 36 _ _
  refine so_newq (n := o + 1) (sh := 80) (c := 1) (N := 3) (i := 4) E hA0 (eX9_init (36, .anewarray 30, 3) (List.mem_of_getElem? (i := 22) rfl)) (fun _ => rfl) rfl rfl hs1 (fun _ => ⟨rfl, rfl⟩) (fun _ _ _ => rfl) wk_X9_30 hAO.1 (by rw [hR]; decide) (by rw [hR]; decide) (df_mono (by omega) d6) rfl ?_
  intro q0
  refine so_putF (c := 9) (jn := 6) (ji := 6) (N := 10) (t := 69) (u := 80) E hin (eX9_init (39, .putfield 32, 3) (List.mem_of_getElem? (i := 23) rfl)) rfl rfl (by decide) rfl wf_X9_32 rfl rfl rfl (fun _ _ _ => rfl) ?_
  intro σ7 e7
  have d7 : DF_ (o + 2) σ7 := by rw [e7]; exact df_up (by omega) (df_mono (by omega) d6)
  have f7_0_6 : σ7 ((o : Nat) : Int) 6 = ((o + 1 : Nat) : Int) := by rw [e7]; exact ups_s
  refine B _ _ _ _ rfl ?_
  show WP_ X G Q _ _ _ _ _ 45 _ _
  refine so_newi (n := o + 2) (sh := 7) (a := 1) (c := 0) (N := 48) (i := 0) (ty := .int) E hA0 (eX9_init (45, .newarray .int, 2) (List.mem_of_getElem? (i := 26) rfl)) rfl rfl (fun _ => rfl) (Or.inl rfl) rfl rfl (by decide +kernel) hs2 (fun _ => ⟨rfl, rfl⟩) (fun _ _ _ => rfl) wy_int (by rw [hR]; decide) (by rw [hR]; decide) (df_mono (by omega) d7) rfl ?_
  intro q1
  refine so_putF (c := 9) (jn := 7) (ji := 7) (N := 10) (t := 69) (u := 7) E hin (eX9_init (47, .putfield 36, 3) (List.mem_of_getElem? (i := 27) rfl)) rfl rfl (by decide) rfl wf_X9_36 rfl rfl rfl (fun _ _ _ => rfl) ?_
  intro σ8 e8
  have d8 : DF_ (o + 3) σ8 := by rw [e8]; exact df_up (by omega) (df_mono (by omega) d7)
  have f8_0_6 : σ8 ((o : Nat) : Int) 6 = ((o + 1 : Nat) : Int) := by rw [e8]; exact (ups_n (by omega)).trans f7_0_6
  refine B _ _ _ _ rfl ?_
  show WP_ X G Q _ _ _ _ _ 53 _ _
  refine so_newi (n := o + 3) (sh := 8) (a := 1) (c := 0) (N := 36) (i := 0) (ty := .int) E hA0 (eX9_init (53, .newarray .int, 2) (List.mem_of_getElem? (i := 30) rfl)) rfl rfl (fun _ => rfl) (Or.inl rfl) rfl rfl (by decide +kernel) hs3 (fun _ => ⟨rfl, rfl⟩) (fun _ _ _ => rfl) wy_int (by rw [hR]; decide) (by rw [hR]; decide) (df_mono (by omega) d8) rfl ?_
  intro q2
  refine so_putF (c := 9) (jn := 8) (ji := 8) (N := 10) (t := 69) (u := 8) E hin (eX9_init (55, .putfield 40, 3) (List.mem_of_getElem? (i := 31) rfl)) rfl rfl (by decide) rfl wf_X9_40 rfl rfl rfl (fun _ _ _ => rfl) ?_
  intro σ9 e9
  have d9 : DF_ (o + 4) σ9 := by rw [e9]; exact df_up (by omega) (df_mono (by omega) d8)
  have f9_0_6 : σ9 ((o : Nat) : Int) 6 = ((o + 1 : Nat) : Int) := by rw [e9]; exact (ups_n (by omega)).trans f8_0_6
  refine B _ _ _ _ rfl ?_
  show WP_ X G Q _ _ _ _ _ 62 _ _
  refine so_newi (n := o + 4) (sh := 9) (a := 1) (c := 0) (N := 360) (i := 0) (ty := .int) E hA0 (eX9_init (62, .newarray .int, 2) (List.mem_of_getElem? (i := 34) rfl)) rfl rfl (fun _ => rfl) (Or.inl rfl) rfl rfl (by decide +kernel) hs4 (fun _ => ⟨rfl, rfl⟩) (fun _ _ _ => rfl) wy_int (by rw [hR]; decide) (by rw [hR]; decide) (df_mono (by omega) d9) rfl ?_
  intro q3
  refine so_putF (c := 9) (jn := 9) (ji := 9) (N := 10) (t := 69) (u := 9) E hin (eX9_init (64, .putfield 43, 3) (List.mem_of_getElem? (i := 35) rfl)) rfl rfl (by decide) rfl wf_X9_43 rfl rfl rfl (fun _ _ _ => rfl) ?_
  intro σ10 e10
  have d10 : DF_ (o + 5) σ10 := by rw [e10]; exact df_up (by omega) (df_mono (by omega) d9)
  have f10_0_6 : σ10 ((o : Nat) : Int) 6 = ((o + 1 : Nat) : Int) := by rw [e10]; exact (ups_n (by omega)).trans f9_0_6
  refine B _ _ _ _ rfl ?_
  refine And.intro (fun h1 => (by exfalso; omega)) (fun h1 => ?_)
  show WP_ X G Q _ _ _ _ _ 79 _ _
  refine so_new (n := o + 5) (sh := 61) (c := 1) (N := 9) E hA0 (eX9_init (79, .new 30, 3) (List.mem_of_getElem? (i := 44) rfl)) rfl rfl hs5 (by decide) (fun _ _ _ => rfl) wk_X9_30 wx_X1 wn_X1 (by rw [hR]; decide) (by rw [hR]; decide) (df_mono (by omega) d10) rfl ?_
  intro q4
  refine B _ _ _ _ rfl ?_
  show WP_ X G Q _ _ _ _ _ 83 _ _
  refine so_ctorN (host := RX10) (o := o + 5) (m := o + 7) (t := 61) E hA0 hAO (cn_X1 X.2.1 (o + 5) hs5 hs6) (by omega) (by rw [hR]; decide) (by rw [hR]; decide) (by rw [hR]; decide) (eX9_init (83, .invokespecial 46, 3) (List.mem_of_getElem? (i := 46) rfl)) rfl (Nat.le_of_ble_eq_true rfl) ⟨by decide, by decide, by decide, by decide⟩ wnl_X9_46 wi_X1_init wn_X1 wc_X1_init (df_mono (by omega) d10) rfl ?_
  intro q5 σ11 e11
  have d11 : DF_ (o + 7) σ11 := by rw [e11]; exact df_X1 (by omega) d10
  have f11_0_6 : σ11 ((o : Nat) : Int) 6 = ((o + 1 : Nat) : Int) := by rw [e11]; exact (T_X1_n (by omega)).trans f10_0_6
  refine so_ast (u := 61) (t := 80) (c := 1) (N := 3) (i := 4) (a := o + 1) E (eX9_init (86, .aastore, 1) (List.mem_of_getElem? (i := 47) rfl)) f10_0_6 (tg_ hs1 (by omega)) rfl (by omega) (fun _ => rfl) (fun _ _ _ => rfl) rfl rfl (fun _ => rfl) ?_
  intro σ12 e12
  have d12 : DF_ (o + 7) σ12 := by rw [e12]; exact df_up (by omega) (df_mono (by omega) d11)
  have f12_0_6 : σ12 ((o : Nat) : Int) 6 = ((o + 1 : Nat) : Int) := by rw [e12]; exact (ups_n (by omega)).trans f11_0_6
  refine B _ _ _ _ rfl ?_
  refine And.intro (by omega) ?_
  refine B _ _ _ _ rfl ?_
  refine And.intro (fun h2 => (by exfalso; omega)) (fun h2 => ?_)
  show WP_ X G Q _ _ _ _ _ 79 _ _
  refine so_new (n := o + 7) (sh := 61) (c := 1) (N := 9) E hA0 (eX9_init (79, .new 30, 3) (List.mem_of_getElem? (i := 44) rfl)) rfl rfl hs7 (by decide) (fun _ _ _ => rfl) wk_X9_30 wx_X1 wn_X1 (by rw [hR]; decide) (by rw [hR]; decide) (df_mono (by omega) d12) rfl ?_
  intro q6
  refine B _ _ _ _ rfl ?_
  show WP_ X G Q _ _ _ _ _ 83 _ _
  refine so_ctorN (host := RX10) (o := o + 7) (m := o + 9) (t := 61) E hA0 hAO (cn_X1 X.2.1 (o + 7) hs7 hs8) (by omega) (by rw [hR]; decide) (by rw [hR]; decide) (by rw [hR]; decide) (eX9_init (83, .invokespecial 46, 3) (List.mem_of_getElem? (i := 46) rfl)) rfl (Nat.le_of_ble_eq_true rfl) ⟨by decide, by decide, by decide, by decide⟩ wnl_X9_46 wi_X1_init wn_X1 wc_X1_init (df_mono (by omega) d12) rfl ?_
  intro q7 σ13 e13
  have d13 : DF_ (o + 9) σ13 := by rw [e13]; exact df_X1 (by omega) d12
  have f13_0_6 : σ13 ((o : Nat) : Int) 6 = ((o + 1 : Nat) : Int) := by rw [e13]; exact (T_X1_n (by omega)).trans f12_0_6
  refine so_ast (u := 61) (t := 80) (c := 1) (N := 3) (i := 4) (a := o + 1) E (eX9_init (86, .aastore, 1) (List.mem_of_getElem? (i := 47) rfl)) f12_0_6 (tg_ hs1 (by omega)) rfl (by omega) (fun _ => rfl) (fun _ _ _ => rfl) rfl rfl (fun _ => rfl) ?_
  intro σ14 e14
  have d14 : DF_ (o + 9) σ14 := by rw [e14]; exact df_up (by omega) (df_mono (by omega) d13)
  have f14_0_6 : σ14 ((o : Nat) : Int) 6 = ((o + 1 : Nat) : Int) := by rw [e14]; exact (ups_n (by omega)).trans f13_0_6
  refine B _ _ _ _ rfl ?_
  refine And.intro (by omega) ?_
  refine B _ _ _ _ rfl ?_
  refine And.intro (fun h3 => (by exfalso; omega)) (fun h3 => ?_)
  show WP_ X G Q _ _ _ _ _ 79 _ _
  refine so_new (n := o + 9) (sh := 61) (c := 1) (N := 9) E hA0 (eX9_init (79, .new 30, 3) (List.mem_of_getElem? (i := 44) rfl)) rfl rfl hs9 (by decide) (fun _ _ _ => rfl) wk_X9_30 wx_X1 wn_X1 (by rw [hR]; decide) (by rw [hR]; decide) (df_mono (by omega) d14) rfl ?_
  intro q8
  refine B _ _ _ _ rfl ?_
  show WP_ X G Q _ _ _ _ _ 83 _ _
  refine so_ctorN (host := RX10) (o := o + 9) (m := o + 11) (t := 61) E hA0 hAO (cn_X1 X.2.1 (o + 9) hs9 hs10) (by omega) (by rw [hR]; decide) (by rw [hR]; decide) (by rw [hR]; decide) (eX9_init (83, .invokespecial 46, 3) (List.mem_of_getElem? (i := 46) rfl)) rfl (Nat.le_of_ble_eq_true rfl) ⟨by decide, by decide, by decide, by decide⟩ wnl_X9_46 wi_X1_init wn_X1 wc_X1_init (df_mono (by omega) d14) rfl ?_
  intro q9 σ15 e15
  have d15 : DF_ (o + 11) σ15 := by rw [e15]; exact df_X1 (by omega) d14
  have f15_0_6 : σ15 ((o : Nat) : Int) 6 = ((o + 1 : Nat) : Int) := by rw [e15]; exact (T_X1_n (by omega)).trans f14_0_6
  refine so_ast (u := 61) (t := 80) (c := 1) (N := 3) (i := 4) (a := o + 1) E (eX9_init (86, .aastore, 1) (List.mem_of_getElem? (i := 47) rfl)) f14_0_6 (tg_ hs1 (by omega)) rfl (by omega) (fun _ => rfl) (fun _ _ _ => rfl) rfl rfl (fun _ => rfl) ?_
  intro σ16 e16
  have d16 : DF_ (o + 11) σ16 := by rw [e16]; exact df_up (by omega) (df_mono (by omega) d15)
  have f16_0_6 : σ16 ((o : Nat) : Int) 6 = ((o + 1 : Nat) : Int) := by rw [e16]; exact (ups_n (by omega)).trans f15_0_6
  refine B _ _ _ _ rfl ?_
  refine And.intro (by omega) ?_
  refine B _ _ _ _ rfl ?_
  refine And.intro (fun h4 => ?_) (fun h4 => (by exfalso; omega))
  exact R 93 _ _ _ (eX9_init (93, .return_, 1) (List.mem_of_getElem? (i := 50) rfl)) ⟨_, by first | rfl | (simp only [List.append_assoc]; rfl)⟩ (by subst e16 e15 e14 e13 e12 e11 e10 e9 e8 e7 e6 e5 e4 e3 e2 e1; rfl)
def T_X0 (o : Nat) (σ : Me_t) : Me_t := ups_ (ups_ (ups_ (ups_ (ups_ (ups_ (ups_ (ups_ (ups_ (σ) ((o : Nat) : Int) 0 ((o + 1 : Nat) : Int)) ((o : Nat) : Int) 1 ((o + 2 : Nat) : Int)) ((o : Nat) : Int) 2 ((o + 3 : Nat) : Int)) ((o : Nat) : Int) 3 1) ((o : Nat) : Int) 4 0) ((o : Nat) : Int) 5 0) ((o : Nat) : Int) 6 (-1)) ((o : Nat) : Int) 7 0) ((o : Nat) : Int) 8 0
theorem T_X0_n {o : Nat} {σ : Me_t} {k j : Int} (h : k < (o : Int)) : T_X0 o σ k j = σ k j := ((ups_n (by omega)).trans ((ups_n (by omega)).trans ((ups_n (by omega)).trans ((ups_n (by omega)).trans ((ups_n (by omega)).trans ((ups_n (by omega)).trans ((ups_n (by omega)).trans ((ups_n (by omega)).trans ((ups_n (by omega)).trans rfl)))))))))
theorem df_X0 {o n : Nat} {σ : Me_t} (h : o + 4 ≤ n) (hD : DF_ o σ) : DF_ n (T_X0 o σ) := (df_up (by omega) (df_up (by omega) (df_up (by omega) (df_up (by omega) (df_up (by omega) (df_up (by omega) (df_up (by omega) (df_up (by omega) (df_up (by omega) (df_mono (by omega) hD))))))))))
set_option maxHeartbeats 4000000 in
set_option maxRecDepth 100000 in
theorem cn_X0 (l : Launch) (o : Nat) (hs0 : SHR_[o]? = some 60) (hs1 : SHR_[o + 1]? = some 16) (hs2 : SHR_[o + 2]? = some 17) (hs3 : SHR_[o + 3]? = some 18) : CN_ l yX0_init cX0_init 1 1 40 3 14000 o (o + 4) (T_X0 o) := by
  refine cn_of (by decide) (by decide) (by decide) hs0 ?_
  intro X G Q ad σ hl hR E hA0 hAO hin hD R
  have B := fun (cl sl : Nat) (ad shs : List Nat) => @bk_ X G Q cl sl ad shs RX0 cX0_init 1 none flX0 plX0 knX0 [] 9 (fun _ _ => False) none kX0_init [1, 8, 10, 17, 19, 26, 28, 61] flX0_ok plX0_ok knX0_ok eX0_init oX0_init (fun _ h => absurd h List.not_mem_nil) (fun _ _ _ _ _ h => h.elim) sok_no E
  show WP_ X G Q 0 0 ad (SHR_.take (o + 1)) σ 0 [(70, (o : Int))] []
  refine B _ _ _ _ rfl ?_
  show WP_ X G Q _ _ _ _ _ 1 _ _
  refine so_obj E (eX0_init (1, .invokespecial 3, 3) (List.mem_of_getElem? (i := 1) rfl)) wo_X0 wo_i wo_c rfl (by rw [hR]; decide) (by rw [hR]; decide) ?_
  refine B _ _ _ _ rfl ?_
  show WP_ X G Q _ _ _ _ _ 8 _ _
  refine so_newi (n := o + 1) (sh := 16) (a := 1) (c := 0) (N := 6000) (i := 0) (ty := .int) E hA0 (eX0_init (8, .newarray .int, 2) (List.mem_of_getElem? (i := 4) rfl)) rfl rfl (fun _ => rfl) (Or.inl rfl) rfl rfl (by decide +kernel) hs1 (fun _ => ⟨rfl, rfl⟩) (fun _ _ _ => rfl) wy_int (by rw [hR]; decide) (by rw [hR]; decide) (df_mono (by omega) hD) rfl ?_
  intro q0
  refine so_putF (c := 0) (jn := 0) (ji := 0) (N := 9) (t := 60) (u := 16) E hin (eX0_init (10, .putfield 9, 3) (List.mem_of_getElem? (i := 5) rfl)) rfl rfl (by decide) rfl wf_X0_9 rfl rfl rfl (fun _ _ _ => rfl) ?_
  intro σ1 e1
  have d1 : DF_ (o + 2) σ1 := by rw [e1]; exact df_up (by omega) (df_mono (by omega) hD)
  refine B _ _ _ _ rfl ?_
  show WP_ X G Q _ _ _ _ _ 17 _ _
  refine so_newi (n := o + 2) (sh := 17) (a := 2) (c := 0) (N := 6000) (i := 1) (ty := .byte) E hA0 (eX0_init (17, .newarray .byte, 2) (List.mem_of_getElem? (i := 8) rfl)) rfl rfl (fun _ => rfl) (Or.inr (Or.inl rfl)) rfl rfl (by decide +kernel) hs2 (fun _ => ⟨rfl, rfl⟩) (fun _ _ _ => rfl) wy_byte (by rw [hR]; decide) (by rw [hR]; decide) (df_mono (by omega) d1) rfl ?_
  intro q1
  refine so_putF (c := 0) (jn := 1) (ji := 1) (N := 9) (t := 60) (u := 17) E hin (eX0_init (19, .putfield 15, 3) (List.mem_of_getElem? (i := 9) rfl)) rfl rfl (by decide) rfl wf_X0_15 rfl rfl rfl (fun _ _ _ => rfl) ?_
  intro σ2 e2
  have d2 : DF_ (o + 3) σ2 := by rw [e2]; exact df_up (by omega) (df_mono (by omega) d1)
  refine B _ _ _ _ rfl ?_
  show WP_ X G Q _ _ _ _ _ 26 _ _
  refine so_newi (n := o + 3) (sh := 18) (a := 2) (c := 0) (N := 2000) (i := 1) (ty := .byte) E hA0 (eX0_init (26, .newarray .byte, 2) (List.mem_of_getElem? (i := 12) rfl)) rfl rfl (fun _ => rfl) (Or.inr (Or.inl rfl)) rfl rfl (by decide +kernel) hs3 (fun _ => ⟨rfl, rfl⟩) (fun _ _ _ => rfl) wy_byte (by rw [hR]; decide) (by rw [hR]; decide) (df_mono (by omega) d2) rfl ?_
  intro q2
  refine so_putF (c := 0) (jn := 2) (ji := 2) (N := 9) (t := 60) (u := 18) E hin (eX0_init (28, .putfield 19, 3) (List.mem_of_getElem? (i := 13) rfl)) rfl rfl (by decide) rfl wf_X0_19 rfl rfl rfl (fun _ _ _ => rfl) ?_
  intro σ3 e3
  have d3 : DF_ (o + 4) σ3 := by rw [e3]; exact df_up (by omega) (df_mono (by omega) d2)
  refine B _ _ _ _ rfl ?_
  refine And.intro (by omega) ?_
  intro σ4 e4
  have d4 : DF_ (o + 4) σ4 := by rw [e4]; exact df_up (by omega) (df_mono (by omega) d3)
  intro σ5 e5
  have d5 : DF_ (o + 4) σ5 := by rw [e5]; exact df_up (by omega) (df_mono (by omega) d4)
  intro σ6 e6
  have d6 : DF_ (o + 4) σ6 := by rw [e6]; exact df_up (by omega) (df_mono (by omega) d5)
  intro σ7 e7
  have d7 : DF_ (o + 4) σ7 := by rw [e7]; exact df_up (by omega) (df_mono (by omega) d6)
  intro σ8 e8
  have d8 : DF_ (o + 4) σ8 := by rw [e8]; exact df_up (by omega) (df_mono (by omega) d7)
  intro σ9 e9
  have d9 : DF_ (o + 4) σ9 := by rw [e9]; exact df_up (by omega) (df_mono (by omega) d8)
  show WP_ X G Q _ _ _ _ _ 61 _ _
  exact R 61 _ _ _ (eX0_init (61, .return_, 1) (List.mem_of_getElem? (i := 32) rfl)) ⟨_, by first | rfl | (simp only [List.append_assoc]; rfl)⟩ (by subst e9 e8 e7 e6 e5 e4 e3 e2 e1; rfl)
def T_X5 (o : Nat) (σ : Me_t) : Me_t := ups_ (ups_ (ups_ (σ) ((o : Nat) : Int) 0 ((o + 1 : Nat) : Int)) ((o : Nat) : Int) 1 0) ((o : Nat) : Int) 2 0
theorem T_X5_n {o : Nat} {σ : Me_t} {k j : Int} (h : k < (o : Int)) : T_X5 o σ k j = σ k j := ((ups_n (by omega)).trans ((ups_n (by omega)).trans ((ups_n (by omega)).trans rfl)))
theorem df_X5 {o n : Nat} {σ : Me_t} (h : o + 2 ≤ n) (hD : DF_ o σ) : DF_ n (T_X5 o σ) := (df_up (by omega) (df_up (by omega) (df_up (by omega) (df_mono (by omega) hD))))
set_option maxHeartbeats 4000000 in
set_option maxRecDepth 100000 in
theorem cn_X5 (l : Launch) (o : Nat) (hs0 : SHR_[o]? = some 65) (hs1 : SHR_[o + 1]? = some 20) : CN_ l yX5_init cX5_init 1 1 40 1 69 o (o + 2) (T_X5 o) := by
  refine cn_of (by decide) (by decide) (by decide) hs0 ?_
  intro X G Q ad σ hl hR E hA0 hAO hin hD R
  have B := fun (cl sl : Nat) (ad shs : List Nat) => @bk_ X G Q cl sl ad shs RX5 cX5_init 1 none flX5 plX5 knX5 [] 9 (fun _ _ => False) none kX5_init [1, 7, 9, 22] flX5_ok plX5_ok knX5_ok eX5_init oX5_init (fun _ h => absurd h List.not_mem_nil) (fun _ _ _ _ _ h => h.elim) sok_no E
  show WP_ X G Q 0 0 ad (SHR_.take (o + 1)) σ 0 [(75, (o : Int))] []
  refine B _ _ _ _ rfl ?_
  show WP_ X G Q _ _ _ _ _ 1 _ _
  refine so_obj E (eX5_init (1, .invokespecial 3, 3) (List.mem_of_getElem? (i := 1) rfl)) wo_X5 wo_i wo_c rfl (by rw [hR]; decide) (by rw [hR]; decide) ?_
  refine B _ _ _ _ rfl ?_
  show WP_ X G Q _ _ _ _ _ 7 _ _
  refine so_newi (n := o + 1) (sh := 20) (a := 3) (c := 0) (N := 69) (i := 2) (ty := .boolean) E hA0 (eX5_init (7, .newarray .boolean, 2) (List.mem_of_getElem? (i := 4) rfl)) rfl rfl (fun _ => rfl) (Or.inr (Or.inr rfl)) rfl rfl (by decide +kernel) hs1 (fun _ => ⟨rfl, rfl⟩) (fun _ _ _ => rfl) wy_boolean (by rw [hR]; decide) (by rw [hR]; decide) (df_mono (by omega) hD) rfl ?_
  intro q0
  refine so_putF (c := 5) (jn := 0) (ji := 0) (N := 3) (t := 65) (u := 20) E hin (eX5_init (9, .putfield 9, 3) (List.mem_of_getElem? (i := 5) rfl)) rfl rfl (by decide) rfl wf_X5_9 rfl rfl rfl (fun _ _ _ => rfl) ?_
  intro σ1 e1
  have d1 : DF_ (o + 2) σ1 := by rw [e1]; exact df_up (by omega) (df_mono (by omega) hD)
  refine B _ _ _ _ rfl ?_
  intro σ2 e2
  have d2 : DF_ (o + 2) σ2 := by rw [e2]; exact df_up (by omega) (df_mono (by omega) d1)
  intro σ3 e3
  have d3 : DF_ (o + 2) σ3 := by rw [e3]; exact df_up (by omega) (df_mono (by omega) d2)
  show WP_ X G Q _ _ _ _ _ 22 _ _
  exact R 22 _ _ _ (eX5_init (22, .return_, 1) (List.mem_of_getElem? (i := 12) rfl)) ⟨_, by first | rfl | (simp only [List.append_assoc]; rfl)⟩ (by subst e3 e2 e1; rfl)
def T_X2 (o : Nat) (σ : Me_t) : Me_t := ups_ (ups_ (ups_ (σ) ((o : Nat) : Int) 0 ((o + 1 : Nat) : Int)) ((o : Nat) : Int) 1 ((o + 2 : Nat) : Int)) ((o : Nat) : Int) 2 0
theorem T_X2_n {o : Nat} {σ : Me_t} {k j : Int} (h : k < (o : Int)) : T_X2 o σ k j = σ k j := ((ups_n (by omega)).trans ((ups_n (by omega)).trans ((ups_n (by omega)).trans rfl)))
theorem df_X2 {o n : Nat} {σ : Me_t} (h : o + 3 ≤ n) (hD : DF_ o σ) : DF_ n (T_X2 o σ) := (df_up (by omega) (df_up (by omega) (df_up (by omega) (df_mono (by omega) hD))))
set_option maxHeartbeats 4000000 in
set_option maxRecDepth 100000 in
theorem cn_X2 (l : Launch) (o : Nat) (hs0 : SHR_[o]? = some 62) (hs1 : SHR_[o + 1]? = some 22) (hs2 : SHR_[o + 2]? = some 23) : CN_ l yX2_init cX2_init 1 1 40 2 30 o (o + 3) (T_X2 o) := by
  refine cn_of (by decide) (by decide) (by decide) hs0 ?_
  intro X G Q ad σ hl hR E hA0 hAO hin hD R
  have B := fun (cl sl : Nat) (ad shs : List Nat) => @bk_ X G Q cl sl ad shs RX2 cX2_init 1 none flX2 plX2 knX2 [] 9 (fun _ _ => False) none kX2_init [1, 7, 9, 15, 17, 25] flX2_ok plX2_ok knX2_ok eX2_init oX2_init (fun _ h => absurd h List.not_mem_nil) (fun _ _ _ _ _ h => h.elim) sok_no E
  show WP_ X G Q 0 0 ad (SHR_.take (o + 1)) σ 0 [(72, (o : Int))] []
  refine B _ _ _ _ rfl ?_
  show WP_ X G Q _ _ _ _ _ 1 _ _
  refine so_obj E (eX2_init (1, .invokespecial 3, 3) (List.mem_of_getElem? (i := 1) rfl)) wo_X2 wo_i wo_c rfl (by rw [hR]; decide) (by rw [hR]; decide) ?_
  refine B _ _ _ _ rfl ?_
  show WP_ X G Q _ _ _ _ _ 7 _ _
  refine so_newi (n := o + 1) (sh := 22) (a := 1) (c := 0) (N := 15) (i := 0) (ty := .int) E hA0 (eX2_init (7, .newarray .int, 2) (List.mem_of_getElem? (i := 4) rfl)) rfl rfl (fun _ => rfl) (Or.inl rfl) rfl rfl (by decide +kernel) hs1 (fun _ => ⟨rfl, rfl⟩) (fun _ _ _ => rfl) wy_int (by rw [hR]; decide) (by rw [hR]; decide) (df_mono (by omega) hD) rfl ?_
  intro q0
  refine so_putF (c := 2) (jn := 0) (ji := 0) (N := 3) (t := 62) (u := 22) E hin (eX2_init (9, .putfield 11, 3) (List.mem_of_getElem? (i := 5) rfl)) rfl rfl (by decide) rfl wf_X2_11 rfl rfl rfl (fun _ _ _ => rfl) ?_
  intro σ1 e1
  have d1 : DF_ (o + 2) σ1 := by rw [e1]; exact df_up (by omega) (df_mono (by omega) hD)
  refine B _ _ _ _ rfl ?_
  show WP_ X G Q _ _ _ _ _ 15 _ _
  refine so_newi (n := o + 2) (sh := 23) (a := 1) (c := 0) (N := 15) (i := 0) (ty := .int) E hA0 (eX2_init (15, .newarray .int, 2) (List.mem_of_getElem? (i := 8) rfl)) rfl rfl (fun _ => rfl) (Or.inl rfl) rfl rfl (by decide +kernel) hs2 (fun _ => ⟨rfl, rfl⟩) (fun _ _ _ => rfl) wy_int (by rw [hR]; decide) (by rw [hR]; decide) (df_mono (by omega) d1) rfl ?_
  intro q1
  refine so_putF (c := 2) (jn := 1) (ji := 1) (N := 3) (t := 62) (u := 23) E hin (eX2_init (17, .putfield 15, 3) (List.mem_of_getElem? (i := 9) rfl)) rfl rfl (by decide) rfl wf_X2_15 rfl rfl rfl (fun _ _ _ => rfl) ?_
  intro σ2 e2
  have d2 : DF_ (o + 3) σ2 := by rw [e2]; exact df_up (by omega) (df_mono (by omega) d1)
  refine B _ _ _ _ rfl ?_
  intro σ3 e3
  have d3 : DF_ (o + 3) σ3 := by rw [e3]; exact df_up (by omega) (df_mono (by omega) d2)
  show WP_ X G Q _ _ _ _ _ 25 _ _
  exact R 25 _ _ _ (eX2_init (25, .return_, 1) (List.mem_of_getElem? (i := 13) rfl)) ⟨_, by first | rfl | (simp only [List.append_assoc]; rfl)⟩ (by subst e3 e2 e1; rfl)
def T_X6 (o : Nat) (σ : Me_t) : Me_t := ups_ (ups_ (ups_ (ups_ (ups_ (σ) ((o : Nat) : Int) 0 ((o + 1 : Nat) : Int)) ((o : Nat) : Int) 1 0) ((o : Nat) : Int) 2 ((o + 2 : Nat) : Int)) ((o : Nat) : Int) 3 (-1)) ((o : Nat) : Int) 4 0
theorem T_X6_n {o : Nat} {σ : Me_t} {k j : Int} (h : k < (o : Int)) : T_X6 o σ k j = σ k j := ((ups_n (by omega)).trans ((ups_n (by omega)).trans ((ups_n (by omega)).trans ((ups_n (by omega)).trans ((ups_n (by omega)).trans rfl)))))
theorem df_X6 {o n : Nat} {σ : Me_t} (h : o + 3 ≤ n) (hD : DF_ o σ) : DF_ n (T_X6 o σ) := (df_up (by omega) (df_up (by omega) (df_up (by omega) (df_up (by omega) (df_up (by omega) (df_mono (by omega) hD))))))
set_option maxHeartbeats 4000000 in
set_option maxRecDepth 100000 in
theorem cn_X6 (l : Launch) (o : Nat) (hs0 : SHR_[o]? = some 66) (hs1 : SHR_[o + 1]? = some 25) (hs2 : SHR_[o + 2]? = some 26) : CN_ l yX6_init cX6_init 1 1 40 2 2012 o (o + 3) (T_X6 o) := by
  refine cn_of (by decide) (by decide) (by decide) hs0 ?_
  intro X G Q ad σ hl hR E hA0 hAO hin hD R
  have B := fun (cl sl : Nat) (ad shs : List Nat) => @bk_ X G Q cl sl ad shs RX6 cX6_init 1 none flX6 plX6 knX6 [] 9 (fun _ _ => False) none kX6_init [1, 8, 10, 21, 23, 36] flX6_ok plX6_ok knX6_ok eX6_init oX6_init (fun _ h => absurd h List.not_mem_nil) (fun _ _ _ _ _ h => h.elim) sok_no E
  show WP_ X G Q 0 0 ad (SHR_.take (o + 1)) σ 0 [(76, (o : Int))] []
  refine B _ _ _ _ rfl ?_
  show WP_ X G Q _ _ _ _ _ 1 _ _
  refine so_obj E (eX6_init (1, .invokespecial 3, 3) (List.mem_of_getElem? (i := 1) rfl)) wo_X6 wo_i wo_c rfl (by rw [hR]; decide) (by rw [hR]; decide) ?_
  refine B _ _ _ _ rfl ?_
  show WP_ X G Q _ _ _ _ _ 8 _ _
  refine so_newi (n := o + 1) (sh := 25) (a := 1) (c := 0) (N := 2000) (i := 0) (ty := .int) E hA0 (eX6_init (8, .newarray .int, 2) (List.mem_of_getElem? (i := 4) rfl)) rfl rfl (fun _ => rfl) (Or.inl rfl) rfl rfl (by decide +kernel) hs1 (fun _ => ⟨rfl, rfl⟩) (fun _ _ _ => rfl) wy_int (by rw [hR]; decide) (by rw [hR]; decide) (df_mono (by omega) hD) rfl ?_
  intro q0
  refine so_putF (c := 6) (jn := 0) (ji := 0) (N := 5) (t := 66) (u := 25) E hin (eX6_init (10, .putfield 9, 3) (List.mem_of_getElem? (i := 5) rfl)) rfl rfl (by decide) rfl wf_X6_9 rfl rfl rfl (fun _ _ _ => rfl) ?_
  intro σ1 e1
  have d1 : DF_ (o + 2) σ1 := by rw [e1]; exact df_up (by omega) (df_mono (by omega) hD)
  refine B _ _ _ _ rfl ?_
  intro σ2 e2
  have d2 : DF_ (o + 2) σ2 := by rw [e2]; exact df_up (by omega) (df_mono (by omega) d1)
  show WP_ X G Q _ _ _ _ _ 21 _ _
  refine so_newi (n := o + 2) (sh := 26) (a := 1) (c := 0) (N := 12) (i := 0) (ty := .int) E hA0 (eX6_init (21, .newarray .int, 2) (List.mem_of_getElem? (i := 11) rfl)) rfl rfl (fun _ => rfl) (Or.inl rfl) rfl rfl (by decide +kernel) hs2 (fun _ => ⟨rfl, rfl⟩) (fun _ _ _ => rfl) wy_int (by rw [hR]; decide) (by rw [hR]; decide) (df_mono (by omega) d2) rfl ?_
  intro q1
  refine so_putF (c := 6) (jn := 2) (ji := 2) (N := 5) (t := 66) (u := 26) E hin (eX6_init (23, .putfield 19, 3) (List.mem_of_getElem? (i := 12) rfl)) rfl rfl (by decide) rfl wf_X6_19 rfl rfl rfl (fun _ _ _ => rfl) ?_
  intro σ3 e3
  have d3 : DF_ (o + 3) σ3 := by rw [e3]; exact df_up (by omega) (df_mono (by omega) d2)
  refine B _ _ _ _ rfl ?_
  intro σ4 e4
  have d4 : DF_ (o + 3) σ4 := by rw [e4]; exact df_up (by omega) (df_mono (by omega) d3)
  intro σ5 e5
  have d5 : DF_ (o + 3) σ5 := by rw [e5]; exact df_up (by omega) (df_mono (by omega) d4)
  show WP_ X G Q _ _ _ _ _ 36 _ _
  exact R 36 _ _ _ (eX6_init (36, .return_, 1) (List.mem_of_getElem? (i := 19) rfl)) ⟨_, by first | rfl | (simp only [List.append_assoc]; rfl)⟩ (by subst e5 e4 e3 e2 e1; rfl)
def T_X7 (o : Nat) (σ : Me_t) : Me_t := ups_ (ups_ (ups_ (ups_ (ups_ (σ) ((o : Nat) : Int) 0 ((o + 1 : Nat) : Int)) ((o : Nat) : Int) 1 0) ((o : Nat) : Int) 2 ((o + 2 : Nat) : Int)) ((o : Nat) : Int) 3 (-1)) ((o : Nat) : Int) 4 0
theorem T_X7_n {o : Nat} {σ : Me_t} {k j : Int} (h : k < (o : Int)) : T_X7 o σ k j = σ k j := ((ups_n (by omega)).trans ((ups_n (by omega)).trans ((ups_n (by omega)).trans ((ups_n (by omega)).trans ((ups_n (by omega)).trans rfl)))))
theorem df_X7 {o n : Nat} {σ : Me_t} (h : o + 3 ≤ n) (hD : DF_ o σ) : DF_ n (T_X7 o σ) := (df_up (by omega) (df_up (by omega) (df_up (by omega) (df_up (by omega) (df_up (by omega) (df_mono (by omega) hD))))))
set_option maxHeartbeats 4000000 in
set_option maxRecDepth 100000 in
theorem cn_X7 (l : Launch) (o : Nat) (hs0 : SHR_[o]? = some 67) (hs1 : SHR_[o + 1]? = some 28) (hs2 : SHR_[o + 2]? = some 29) : CN_ l yX7_init cX7_init 1 1 40 2 81 o (o + 3) (T_X7 o) := by
  refine cn_of (by decide) (by decide) (by decide) hs0 ?_
  intro X G Q ad σ hl hR E hA0 hAO hin hD R
  have B := fun (cl sl : Nat) (ad shs : List Nat) => @bk_ X G Q cl sl ad shs RX7 cX7_init 1 none flX7 plX7 knX7 [] 9 (fun _ _ => False) none kX7_init [1, 7, 9, 20, 22, 35] flX7_ok plX7_ok knX7_ok eX7_init oX7_init (fun _ h => absurd h List.not_mem_nil) (fun _ _ _ _ _ h => h.elim) sok_no E
  show WP_ X G Q 0 0 ad (SHR_.take (o + 1)) σ 0 [(77, (o : Int))] []
  refine B _ _ _ _ rfl ?_
  show WP_ X G Q _ _ _ _ _ 1 _ _
  refine so_obj E (eX7_init (1, .invokespecial 3, 3) (List.mem_of_getElem? (i := 1) rfl)) wo_X7 wo_i wo_c rfl (by rw [hR]; decide) (by rw [hR]; decide) ?_
  refine B _ _ _ _ rfl ?_
  show WP_ X G Q _ _ _ _ _ 7 _ _
  refine so_newi (n := o + 1) (sh := 28) (a := 1) (c := 0) (N := 40) (i := 0) (ty := .int) E hA0 (eX7_init (7, .newarray .int, 2) (List.mem_of_getElem? (i := 4) rfl)) rfl rfl (fun _ => rfl) (Or.inl rfl) rfl rfl (by decide +kernel) hs1 (fun _ => ⟨rfl, rfl⟩) (fun _ _ _ => rfl) wy_int (by rw [hR]; decide) (by rw [hR]; decide) (df_mono (by omega) hD) rfl ?_
  intro q0
  refine so_putF (c := 7) (jn := 0) (ji := 0) (N := 5) (t := 67) (u := 28) E hin (eX7_init (9, .putfield 9, 3) (List.mem_of_getElem? (i := 5) rfl)) rfl rfl (by decide) rfl wf_X7_9 rfl rfl rfl (fun _ _ _ => rfl) ?_
  intro σ1 e1
  have d1 : DF_ (o + 2) σ1 := by rw [e1]; exact df_up (by omega) (df_mono (by omega) hD)
  refine B _ _ _ _ rfl ?_
  intro σ2 e2
  have d2 : DF_ (o + 2) σ2 := by rw [e2]; exact df_up (by omega) (df_mono (by omega) d1)
  show WP_ X G Q _ _ _ _ _ 20 _ _
  refine so_newi (n := o + 2) (sh := 29) (a := 1) (c := 0) (N := 41) (i := 0) (ty := .int) E hA0 (eX7_init (20, .newarray .int, 2) (List.mem_of_getElem? (i := 11) rfl)) rfl rfl (fun _ => rfl) (Or.inl rfl) rfl rfl (by decide +kernel) hs2 (fun _ => ⟨rfl, rfl⟩) (fun _ _ _ => rfl) wy_int (by rw [hR]; decide) (by rw [hR]; decide) (df_mono (by omega) d2) rfl ?_
  intro q1
  refine so_putF (c := 7) (jn := 2) (ji := 2) (N := 5) (t := 67) (u := 29) E hin (eX7_init (22, .putfield 19, 3) (List.mem_of_getElem? (i := 12) rfl)) rfl rfl (by decide) rfl wf_X7_19 rfl rfl rfl (fun _ _ _ => rfl) ?_
  intro σ3 e3
  have d3 : DF_ (o + 3) σ3 := by rw [e3]; exact df_up (by omega) (df_mono (by omega) d2)
  refine B _ _ _ _ rfl ?_
  intro σ4 e4
  have d4 : DF_ (o + 3) σ4 := by rw [e4]; exact df_up (by omega) (df_mono (by omega) d3)
  intro σ5 e5
  have d5 : DF_ (o + 3) σ5 := by rw [e5]; exact df_up (by omega) (df_mono (by omega) d4)
  show WP_ X G Q _ _ _ _ _ 35 _ _
  exact R 35 _ _ _ (eX7_init (35, .return_, 1) (List.mem_of_getElem? (i := 19) rfl)) ⟨_, by first | rfl | (simp only [List.append_assoc]; rfl)⟩ (by subst e5 e4 e3 e2 e1; rfl)
def T_X4 (o : Nat) (σ : Me_t) : Me_t := ups_ (ups_ (ups_ (ups_ (σ) ((o : Nat) : Int) 0 ((o + 1 : Nat) : Int)) ((o : Nat) : Int) 1 0) ((o : Nat) : Int) 2 0) ((o : Nat) : Int) 3 0
theorem T_X4_n {o : Nat} {σ : Me_t} {k j : Int} (h : k < (o : Int)) : T_X4 o σ k j = σ k j := ((ups_n (by omega)).trans ((ups_n (by omega)).trans ((ups_n (by omega)).trans ((ups_n (by omega)).trans rfl))))
theorem df_X4 {o n : Nat} {σ : Me_t} (h : o + 2 ≤ n) (hD : DF_ o σ) : DF_ n (T_X4 o σ) := (df_up (by omega) (df_up (by omega) (df_up (by omega) (df_up (by omega) (df_mono (by omega) hD)))))
set_option maxHeartbeats 4000000 in
set_option maxRecDepth 100000 in
theorem cn_X4 (l : Launch) (o : Nat) (hs0 : SHR_[o]? = some 64) (hs1 : SHR_[o + 1]? = some 31) : CN_ l yX4_init cX4_init 1 1 40 1 60 o (o + 2) (T_X4 o) := by
  refine cn_of (by decide) (by decide) (by decide) hs0 ?_
  intro X G Q ad σ hl hR E hA0 hAO hin hD R
  have B := fun (cl sl : Nat) (ad shs : List Nat) => @bk_ X G Q cl sl ad shs RX4 cX4_init 1 none flX4 plX4 knX4 [] 9 (fun _ _ => False) none kX4_init [1, 7, 9, 27] flX4_ok plX4_ok knX4_ok eX4_init oX4_init (fun _ h => absurd h List.not_mem_nil) (fun _ _ _ _ _ h => h.elim) sok_no E
  show WP_ X G Q 0 0 ad (SHR_.take (o + 1)) σ 0 [(74, (o : Int))] []
  refine B _ _ _ _ rfl ?_
  show WP_ X G Q _ _ _ _ _ 1 _ _
  refine so_obj E (eX4_init (1, .invokespecial 3, 3) (List.mem_of_getElem? (i := 1) rfl)) wo_X4 wo_i wo_c rfl (by rw [hR]; decide) (by rw [hR]; decide) ?_
  refine B _ _ _ _ rfl ?_
  show WP_ X G Q _ _ _ _ _ 7 _ _
  refine so_newl (n := o + 1) (sh := 31) (c := 0) (N := 60) E hA0 (eX4_init (7, .newarray .long, 2) (List.mem_of_getElem? (i := 4) rfl)) rfl rfl (by decide +kernel) hs1 (fun _ => ⟨rfl, rfl⟩) (fun _ _ _ => rfl) wy_long (by rw [hR]; decide) (by rw [hR]; decide) (df_mono (by omega) hD) rfl ?_
  intro q0
  refine so_putF (c := 4) (jn := 0) (ji := 0) (N := 4) (t := 64) (u := 31) E hin (eX4_init (9, .putfield 9, 3) (List.mem_of_getElem? (i := 5) rfl)) rfl rfl (by decide) rfl wf_X4_9 rfl rfl rfl (fun _ _ _ => rfl) ?_
  intro σ1 e1
  have d1 : DF_ (o + 2) σ1 := by rw [e1]; exact df_up (by omega) (df_mono (by omega) hD)
  refine B _ _ _ _ rfl ?_
  refine And.intro (by omega) ?_
  intro σ2 e2
  have d2 : DF_ (o + 2) σ2 := by rw [e2]; exact df_up (by omega) (df_mono (by omega) d1)
  intro σ3 e3
  have d3 : DF_ (o + 2) σ3 := by rw [e3]; exact df_up (by omega) (df_mono (by omega) d2)
  intro σ4 e4
  have d4 : DF_ (o + 2) σ4 := by rw [e4]; exact df_up (by omega) (df_mono (by omega) d3)
  show WP_ X G Q _ _ _ _ _ 27 _ _
  exact R 27 _ _ _ (eX4_init (27, .return_, 1) (List.mem_of_getElem? (i := 15) rfl)) ⟨_, by first | rfl | (simp only [List.append_assoc]; rfl)⟩ (by subst e4 e3 e2 e1; rfl)
def T_X10 (o : Nat) (σ : Me_t) : Me_t := ups_ (T_X4 (o + 84) (ups_ (T_X4 (o + 82) (ups_ (T_X4 (o + 80) (ups_ (T_X4 (o + 78) (ups_ (T_X9 (o + 67) (ups_ (T_X9 (o + 56) (ups_ (T_X9 (o + 45) (ups_ (ups_ (ups_ (T_X7 (o + 42) (ups_ (T_X6 (o + 39) (ups_ (T_X2 (o + 36) (ups_ (T_X5 (o + 34) (ups_ (T_X0 (o + 30) (ups_ (ups_ (ups_ (ups_ (T_X9 (o + 16) (ups_ (T_X9 (o + 5) (ups_ (T_X3 (o + 3) (ups_ (T_X8 (o + 1) (σ)) ((o : Nat) : Int) 0 ((o + 1 : Nat) : Int))) ((o : Nat) : Int) 1 ((o + 3 : Nat) : Int))) ((o : Nat) : Int) 2 ((o + 5 : Nat) : Int))) ((o : Nat) : Int) 3 ((o + 16 : Nat) : Int)) ((o : Nat) : Int) 4 ((o + 27 : Nat) : Int)) ((o : Nat) : Int) 5 ((o + 28 : Nat) : Int)) ((o : Nat) : Int) 6 ((o + 29 : Nat) : Int))) ((o : Nat) : Int) 7 ((o + 30 : Nat) : Int))) ((o : Nat) : Int) 8 ((o + 34 : Nat) : Int))) ((o : Nat) : Int) 9 ((o + 36 : Nat) : Int))) ((o : Nat) : Int) 10 ((o + 39 : Nat) : Int))) ((o : Nat) : Int) 11 ((o + 42 : Nat) : Int)) ((o : Nat) : Int) 12 0) ((o : Nat) : Int) 13 (-1))) ((o + 27 : Nat) : Int) 0 ((o + 45 : Nat) : Int))) ((o + 27 : Nat) : Int) (0 + 1) ((o + 56 : Nat) : Int))) ((o + 27 : Nat) : Int) ((0 + 1) + 1) ((o + 67 : Nat) : Int))) ((o + 29 : Nat) : Int) 0 ((o + 78 : Nat) : Int))) ((o + 29 : Nat) : Int) (0 + 1) ((o + 80 : Nat) : Int))) ((o + 29 : Nat) : Int) ((0 + 1) + 1) ((o + 82 : Nat) : Int))) ((o + 29 : Nat) : Int) (((0 + 1) + 1) + 1) ((o + 84 : Nat) : Int)
theorem T_X10_n {o : Nat} {σ : Me_t} {k j : Int} (h : k < (o : Int)) : T_X10 o σ k j = σ k j := ((ups_n (by omega)).trans ((T_X4_n (by omega)).trans ((ups_n (by omega)).trans ((T_X4_n (by omega)).trans ((ups_n (by omega)).trans ((T_X4_n (by omega)).trans ((ups_n (by omega)).trans ((T_X4_n (by omega)).trans ((ups_n (by omega)).trans ((T_X9_n (by omega)).trans ((ups_n (by omega)).trans ((T_X9_n (by omega)).trans ((ups_n (by omega)).trans ((T_X9_n (by omega)).trans ((ups_n (by omega)).trans ((ups_n (by omega)).trans ((ups_n (by omega)).trans ((T_X7_n (by omega)).trans ((ups_n (by omega)).trans ((T_X6_n (by omega)).trans ((ups_n (by omega)).trans ((T_X2_n (by omega)).trans ((ups_n (by omega)).trans ((T_X5_n (by omega)).trans ((ups_n (by omega)).trans ((T_X0_n (by omega)).trans ((ups_n (by omega)).trans ((ups_n (by omega)).trans ((ups_n (by omega)).trans ((ups_n (by omega)).trans ((T_X9_n (by omega)).trans ((ups_n (by omega)).trans ((T_X9_n (by omega)).trans ((ups_n (by omega)).trans ((T_X3_n (by omega)).trans ((ups_n (by omega)).trans ((T_X8_n (by omega)).trans rfl)))))))))))))))))))))))))))))))))))))
theorem df_X10 {o n : Nat} {σ : Me_t} (h : o + 86 ≤ n) (hD : DF_ o σ) : DF_ n (T_X10 o σ) := (df_up (by omega) (df_X4 (by omega) (df_up (by omega) (df_X4 (by omega) (df_up (by omega) (df_X4 (by omega) (df_up (by omega) (df_X4 (by omega) (df_up (by omega) (df_X9 (by omega) (df_up (by omega) (df_X9 (by omega) (df_up (by omega) (df_X9 (by omega) (df_up (by omega) (df_up (by omega) (df_up (by omega) (df_X7 (by omega) (df_up (by omega) (df_X6 (by omega) (df_up (by omega) (df_X2 (by omega) (df_up (by omega) (df_X5 (by omega) (df_up (by omega) (df_X0 (by omega) (df_up (by omega) (df_up (by omega) (df_up (by omega) (df_up (by omega) (df_X9 (by omega) (df_up (by omega) (df_X9 (by omega) (df_up (by omega) (df_X3 (by omega) (df_up (by omega) (df_X8 (by omega) (df_mono (by omega) hD))))))))))))))))))))))))))))))))))))))
set_option maxHeartbeats 4000000 in
set_option maxRecDepth 100000 in
theorem cn_X10 (l : Launch) (o : Nat) (hs0 : SHR_[o]? = some 70) (hs1 : SHR_[o + 1]? = some 68) (hs2 : SHR_[o + 2]? = some 2) (hs3 : SHR_[o + 3]? = some 63) (hs4 : SHR_[o + 4]? = some 4) (hs5 : SHR_[o + 5]? = some 69) (hs6 : SHR_[o + 6]? = some 80) (hs7 : SHR_[o + 7]? = some 7) (hs8 : SHR_[o + 8]? = some 8) (hs9 : SHR_[o + 9]? = some 9) (hs10 : SHR_[o + 10]? = some 61) (hs11 : SHR_[o + 11]? = some 11) (hs12 : SHR_[o + 12]? = some 61) (hs13 : SHR_[o + 13]? = some 11) (hs14 : SHR_[o + 14]? = some 61) (hs15 : SHR_[o + 15]? = some 11) (hs16 : SHR_[o + 16]? = some 69) (hs17 : SHR_[o + 17]? = some 80) (hs18 : SHR_[o + 18]? = some 7) (hs19 : SHR_[o + 19]? = some 8) (hs20 : SHR_[o + 20]? = some 9) (hs21 : SHR_[o + 21]? = some 61) (hs22 : SHR_[o + 22]? = some 11) (hs23 : SHR_[o + 23]? = some 61) (hs24 : SHR_[o + 24]? = some 11) (hs25 : SHR_[o + 25]? = some 61) (hs26 : SHR_[o + 26]? = some 11) (hs27 : SHR_[o + 27]? = some 81) (hs28 : SHR_[o + 28]? = some 13) (hs29 : SHR_[o + 29]? = some 82) (hs30 : SHR_[o + 30]? = some 60) (hs31 : SHR_[o + 31]? = some 16) (hs32 : SHR_[o + 32]? = some 17) (hs33 : SHR_[o + 33]? = some 18) (hs34 : SHR_[o + 34]? = some 65) (hs35 : SHR_[o + 35]? = some 20) (hs36 : SHR_[o + 36]? = some 62) (hs37 : SHR_[o + 37]? = some 22) (hs38 : SHR_[o + 38]? = some 23) (hs39 : SHR_[o + 39]? = some 66) (hs40 : SHR_[o + 40]? = some 25) (hs41 : SHR_[o + 41]? = some 26) (hs42 : SHR_[o + 42]? = some 67) (hs43 : SHR_[o + 43]? = some 28) (hs44 : SHR_[o + 44]? = some 29) (hs45 : SHR_[o + 45]? = some 69) (hs46 : SHR_[o + 46]? = some 80) (hs47 : SHR_[o + 47]? = some 7) (hs48 : SHR_[o + 48]? = some 8) (hs49 : SHR_[o + 49]? = some 9) (hs50 : SHR_[o + 50]? = some 61) (hs51 : SHR_[o + 51]? = some 11) (hs52 : SHR_[o + 52]? = some 61) (hs53 : SHR_[o + 53]? = some 11) (hs54 : SHR_[o + 54]? = some 61) (hs55 : SHR_[o + 55]? = some 11) (hs56 : SHR_[o + 56]? = some 69) (hs57 : SHR_[o + 57]? = some 80) (hs58 : SHR_[o + 58]? = some 7) (hs59 : SHR_[o + 59]? = some 8) (hs60 : SHR_[o + 60]? = some 9) (hs61 : SHR_[o + 61]? = some 61) (hs62 : SHR_[o + 62]? = some 11) (hs63 : SHR_[o + 63]? = some 61) (hs64 : SHR_[o + 64]? = some 11) (hs65 : SHR_[o + 65]? = some 61) (hs66 : SHR_[o + 66]? = some 11) (hs67 : SHR_[o + 67]? = some 69) (hs68 : SHR_[o + 68]? = some 80) (hs69 : SHR_[o + 69]? = some 7) (hs70 : SHR_[o + 70]? = some 8) (hs71 : SHR_[o + 71]? = some 9) (hs72 : SHR_[o + 72]? = some 61) (hs73 : SHR_[o + 73]? = some 11) (hs74 : SHR_[o + 74]? = some 61) (hs75 : SHR_[o + 75]? = some 11) (hs76 : SHR_[o + 76]? = some 61) (hs77 : SHR_[o + 77]? = some 11) (hs78 : SHR_[o + 78]? = some 64) (hs79 : SHR_[o + 79]? = some 31) (hs80 : SHR_[o + 80]? = some 64) (hs81 : SHR_[o + 81]? = some 31) (hs82 : SHR_[o + 82]? = some 64) (hs83 : SHR_[o + 83]? = some 31) (hs84 : SHR_[o + 84]? = some 64) (hs85 : SHR_[o + 85]? = some 31) : CN_ l yX10_init cX10_init 2 3 81 85 20233 o (o + 86) (T_X10 o) := by
  refine cn_of (by decide) (by decide) (by decide) hs0 ?_
  intro X G Q ad σ hl hR E hA0 hAO hin hD R
  have B := fun (cl sl : Nat) (ad shs : List Nat) => @bk_ X G Q cl sl ad shs RX10 cX10_init 2 none flX10 plX10 knX10 [] 9 (fun _ _ => False) none kX10_init [1, 5, 9, 12, 16, 20, 23, 27, 31, 38, 42, 50, 53, 58, 60, 65, 68, 72, 76, 79, 83, 87, 90, 94, 98, 101, 105, 109, 112, 116, 120, 123, 148, 152, 155, 174, 178, 181, 188] flX10_ok plX10_ok knX10_ok eX10_init oX10_init (fun _ h => absurd h List.not_mem_nil) (fun _ _ _ _ _ h => h.elim) sok_no E
  show WP_ X G Q 0 0 ad (SHR_.take (o + 1)) σ 0 [(80, (o : Int)), (9, 0)] []
  refine B _ _ _ _ rfl ?_
  show WP_ X G Q _ _ _ _ _ 1 _ _
  refine so_obj E (eX10_init (1, .invokespecial 1, 3) (List.mem_of_getElem? (i := 1) rfl)) wo_X10 wo_i wo_c rfl (by rw [hR]; decide) (by rw [hR]; decide) ?_
  refine B _ _ _ _ rfl ?_
  show WP_ X G Q _ _ _ _ _ 5 _ _
  refine so_new (n := o + 1) (sh := 68) (c := 8) (N := 2) E hA0 (eX10_init (5, .new 7, 3) (List.mem_of_getElem? (i := 3) rfl)) rfl rfl hs1 (by decide) (fun _ _ _ => rfl) wk_X10_7 wx_X8 wn_X8 (by rw [hR]; decide) (by rw [hR]; decide) (df_mono (by omega) hD) rfl ?_
  intro q0
  refine B _ _ _ _ rfl ?_
  show WP_ X G Q _ _ _ _ _ 9 _ _
  refine so_ctorN (host := RX10) (o := o + 1) (m := o + 3) (t := 68) E hA0 hAO (cn_X8 X.2.1 (o + 1) hs1 hs2) (by omega) (by rw [hR]; decide) (by rw [hR]; decide) (by rw [hR]; decide) (eX10_init (9, .invokespecial 9, 3) (List.mem_of_getElem? (i := 5) rfl)) rfl (Nat.le_of_ble_eq_true rfl) ⟨by decide, by decide, by decide, by decide⟩ wnl_X10_9 wi_X8_init wn_X8 wc_X8_init (df_mono (by omega) hD) rfl ?_
  intro q1 σ1 e1
  have d1 : DF_ (o + 3) σ1 := by rw [e1]; exact df_X8 (by omega) hD
  refine so_putF (c := 10) (jn := 0) (ji := 0) (N := 14) (t := 70) (u := 68) E hin (eX10_init (12, .putfield 10, 3) (List.mem_of_getElem? (i := 6) rfl)) rfl rfl (by decide) rfl wf_X10_10 rfl rfl rfl (fun _ _ _ => rfl) ?_
  intro σ2 e2
  have d2 : DF_ (o + 3) σ2 := by rw [e2]; exact df_up (by omega) (df_mono (by omega) d1)
  refine B _ _ _ _ rfl ?_
  show WP_ X G Q _ _ _ _ _ 16 _ _
  refine so_new (n := o + 3) (sh := 63) (c := 3) (N := 8) E hA0 (eX10_init (16, .new 16, 3) (List.mem_of_getElem? (i := 8) rfl)) rfl rfl hs3 (by decide) (fun _ _ _ => rfl) wk_X10_16 wx_X3 wn_X3 (by rw [hR]; decide) (by rw [hR]; decide) (df_mono (by omega) d2) rfl ?_
  intro q2
  refine B _ _ _ _ rfl ?_
  show WP_ X G Q _ _ _ _ _ 20 _ _
  refine so_ctorN (host := RX10) (o := o + 3) (m := o + 5) (t := 63) E hA0 hAO (cn_X3 X.2.1 (o + 3) hs3 hs4) (by omega) (by rw [hR]; decide) (by rw [hR]; decide) (by rw [hR]; decide) (eX10_init (20, .invokespecial 18, 3) (List.mem_of_getElem? (i := 10) rfl)) rfl (Nat.le_of_ble_eq_true rfl) ⟨by decide, by decide, by decide, by decide⟩ wnl_X10_18 wi_X3_init wn_X3 wc_X3_init (df_mono (by omega) d2) rfl ?_
  intro q3 σ3 e3
  have d3 : DF_ (o + 5) σ3 := by rw [e3]; exact df_X3 (by omega) d2
  refine so_putF (c := 10) (jn := 1) (ji := 1) (N := 14) (t := 70) (u := 63) E hin (eX10_init (23, .putfield 19, 3) (List.mem_of_getElem? (i := 11) rfl)) rfl rfl (by decide) rfl wf_X10_19 rfl rfl rfl (fun _ _ _ => rfl) ?_
  intro σ4 e4
  have d4 : DF_ (o + 5) σ4 := by rw [e4]; exact df_up (by omega) (df_mono (by omega) d3)
  refine B _ _ _ _ rfl ?_
  show WP_ X G Q _ _ _ _ _ 27 _ _
  refine so_new (n := o + 5) (sh := 69) (c := 9) (N := 10) E hA0 (eX10_init (27, .new 23, 3) (List.mem_of_getElem? (i := 13) rfl)) rfl rfl hs5 (by decide) (fun _ _ _ => rfl) wk_X10_23 wx_X9 wn_X9 (by rw [hR]; decide) (by rw [hR]; decide) (df_mono (by omega) d4) rfl ?_
  intro q4
  refine B _ _ _ _ rfl ?_
  show WP_ X G Q _ _ _ _ _ 31 _ _
  refine so_ctor (o := o + 5) (m := o + 16) (t := 69) E hA0 hAO (cn_X9 X.2.1 (o + 5) hs5 hs6 hs7 hs8 hs9 hs10 hs11 hs12 hs13 hs14 hs15) (by omega) (by rw [hR]; decide) (by rw [hR]; decide) (by rw [hR]; decide) (eX10_init (31, .invokespecial 25, 3) (List.mem_of_getElem? (i := 15) rfl)) rfl (Nat.le_of_ble_eq_true rfl) ⟨by decide, by decide, by decide, by decide⟩ wl_X10_25 wi_X9_init wn_X9 wc_X9_init (df_mono (by omega) d4) rfl ?_
  intro q5 σ5 e5
  have d5 : DF_ (o + 16) σ5 := by rw [e5]; exact df_X9 (by omega) d4
  refine B _ _ _ _ rfl ?_
  intro σ6 e6
  have d6 : DF_ (o + 16) σ6 := by rw [e6]; exact df_up (by omega) (df_mono (by omega) d5)
  show WP_ X G Q _ _ _ _ _ 38 _ _
  refine so_new (n := o + 16) (sh := 69) (c := 9) (N := 10) E hA0 (eX10_init (38, .new 23, 3) (List.mem_of_getElem? (i := 18) rfl)) rfl rfl hs16 (by decide) (fun _ _ _ => rfl) wk_X10_23 wx_X9 wn_X9 (by rw [hR]; decide) (by rw [hR]; decide) (df_mono (by omega) d6) rfl ?_
  intro q6
  refine B _ _ _ _ rfl ?_
  show WP_ X G Q _ _ _ _ _ 42 _ _
  refine so_ctor (o := o + 16) (m := o + 27) (t := 69) E hA0 hAO (cn_X9 X.2.1 (o + 16) hs16 hs17 hs18 hs19 hs20 hs21 hs22 hs23 hs24 hs25 hs26) (by omega) (by rw [hR]; decide) (by rw [hR]; decide) (by rw [hR]; decide) (eX10_init (42, .invokespecial 25, 3) (List.mem_of_getElem? (i := 20) rfl)) rfl (Nat.le_of_ble_eq_true rfl) ⟨by decide, by decide, by decide, by decide⟩ wl_X10_25 wi_X9_init wn_X9 wc_X9_init (df_mono (by omega) d6) rfl ?_
  intro q7 σ7 e7
  have d7 : DF_ (o + 27) σ7 := by rw [e7]; exact df_X9 (by omega) d6
  refine B _ _ _ _ rfl ?_
  intro σ8 e8
  have d8 : DF_ (o + 27) σ8 := by rw [e8]; exact df_up (by omega) (df_mono (by omega) d7)
  show WP_ X G Q _ _ _ _ _ 50 _ _
  refine so_newq (n := o + 27) (sh := 81) (c := 9) (N := 3) (i := 6) E hA0 (eX10_init (50, .anewarray 23, 3) (List.mem_of_getElem? (i := 24) rfl)) (fun _ => rfl) rfl rfl hs27 (fun _ => ⟨rfl, rfl⟩) (fun _ _ _ => rfl) wk_X10_23 hAO.2.2 (by rw [hR]; decide) (by rw [hR]; decide) (df_mono (by omega) d8) rfl ?_
  intro q8
  refine so_putF (c := 10) (jn := 4) (ji := 4) (N := 14) (t := 70) (u := 81) E hin (eX10_init (53, .putfield 33, 3) (List.mem_of_getElem? (i := 25) rfl)) rfl rfl (by decide) rfl wf_X10_33 rfl rfl rfl (fun _ _ _ => rfl) ?_
  intro σ9 e9
  have d9 : DF_ (o + 28) σ9 := by rw [e9]; exact df_up (by omega) (df_mono (by omega) d8)
  have f9_0_4 : σ9 ((o : Nat) : Int) 4 = ((o + 27 : Nat) : Int) := by rw [e9]; exact ups_s
  refine B _ _ _ _ rfl ?_
  show WP_ X G Q _ _ _ _ _ 58 _ _
  refine so_newi (n := o + 28) (sh := 13) (a := 3) (c := 0) (N := 3) (i := 2) (ty := .boolean) E hA0 (eX10_init (58, .newarray .boolean, 2) (List.mem_of_getElem? (i := 28) rfl)) rfl rfl (fun _ => rfl) (Or.inr (Or.inr rfl)) rfl rfl (by decide +kernel) hs28 (fun _ => ⟨rfl, rfl⟩) (fun _ _ _ => rfl) wy_boolean (by rw [hR]; decide) (by rw [hR]; decide) (df_mono (by omega) d9) rfl ?_
  intro q9
  refine so_putF (c := 10) (jn := 5) (ji := 5) (N := 14) (t := 70) (u := 13) E hin (eX10_init (60, .putfield 37, 3) (List.mem_of_getElem? (i := 29) rfl)) rfl rfl (by decide) rfl wf_X10_37 rfl rfl rfl (fun _ _ _ => rfl) ?_
  intro σ10 e10
  have d10 : DF_ (o + 29) σ10 := by rw [e10]; exact df_up (by omega) (df_mono (by omega) d9)
  have f10_0_4 : σ10 ((o : Nat) : Int) 4 = ((o + 27 : Nat) : Int) := by rw [e10]; exact (ups_n (by omega)).trans f9_0_4
  refine B _ _ _ _ rfl ?_
  show WP_ X G Q _ _ _ _ _ 65 _ _
  refine so_newq (n := o + 29) (sh := 82) (c := 4) (N := 4) (i := 5) E hA0 (eX10_init (65, .anewarray 41, 3) (List.mem_of_getElem? (i := 32) rfl)) (fun _ => rfl) rfl rfl hs29 (fun _ => ⟨rfl, rfl⟩) (fun _ _ _ => rfl) wk_X10_41 hAO.2.1 (by rw [hR]; decide) (by rw [hR]; decide) (df_mono (by omega) d10) rfl ?_
  intro q10
  refine so_putF (c := 10) (jn := 6) (ji := 6) (N := 14) (t := 70) (u := 82) E hin (eX10_init (68, .putfield 43, 3) (List.mem_of_getElem? (i := 33) rfl)) rfl rfl (by decide) rfl wf_X10_43 rfl rfl rfl (fun _ _ _ => rfl) ?_
  intro σ11 e11
  have d11 : DF_ (o + 30) σ11 := by rw [e11]; exact df_up (by omega) (df_mono (by omega) d10)
  have f11_0_4 : σ11 ((o : Nat) : Int) 4 = ((o + 27 : Nat) : Int) := by rw [e11]; exact (ups_n (by omega)).trans f10_0_4
  have f11_0_6 : σ11 ((o : Nat) : Int) 6 = ((o + 29 : Nat) : Int) := by rw [e11]; exact ups_s
  refine B _ _ _ _ rfl ?_
  show WP_ X G Q _ _ _ _ _ 72 _ _
  refine so_new (n := o + 30) (sh := 60) (c := 0) (N := 9) E hA0 (eX10_init (72, .new 47, 3) (List.mem_of_getElem? (i := 35) rfl)) rfl rfl hs30 (by decide) (fun _ _ _ => rfl) wk_X10_47 wx_X0 wn_X0 (by rw [hR]; decide) (by rw [hR]; decide) (df_mono (by omega) d11) rfl ?_
  intro q11
  refine B _ _ _ _ rfl ?_
  show WP_ X G Q _ _ _ _ _ 76 _ _
  refine so_ctorN (host := RX10) (o := o + 30) (m := o + 34) (t := 60) E hA0 hAO (cn_X0 X.2.1 (o + 30) hs30 hs31 hs32 hs33) (by omega) (by rw [hR]; decide) (by rw [hR]; decide) (by rw [hR]; decide) (eX10_init (76, .invokespecial 49, 3) (List.mem_of_getElem? (i := 37) rfl)) rfl (Nat.le_of_ble_eq_true rfl) ⟨by decide, by decide, by decide, by decide⟩ wnl_X10_49 wi_X0_init wn_X0 wc_X0_init (df_mono (by omega) d11) rfl ?_
  intro q12 σ12 e12
  have d12 : DF_ (o + 34) σ12 := by rw [e12]; exact df_X0 (by omega) d11
  have f12_0_4 : σ12 ((o : Nat) : Int) 4 = ((o + 27 : Nat) : Int) := by rw [e12]; exact (T_X0_n (by omega)).trans f11_0_4
  have f12_0_6 : σ12 ((o : Nat) : Int) 6 = ((o + 29 : Nat) : Int) := by rw [e12]; exact (T_X0_n (by omega)).trans f11_0_6
  refine so_putF (c := 10) (jn := 7) (ji := 7) (N := 14) (t := 70) (u := 60) E hin (eX10_init (79, .putfield 50, 3) (List.mem_of_getElem? (i := 38) rfl)) rfl rfl (by decide) rfl wf_X10_50 rfl rfl rfl (fun _ _ _ => rfl) ?_
  intro σ13 e13
  have d13 : DF_ (o + 34) σ13 := by rw [e13]; exact df_up (by omega) (df_mono (by omega) d12)
  have f13_0_4 : σ13 ((o : Nat) : Int) 4 = ((o + 27 : Nat) : Int) := by rw [e13]; exact (ups_n (by omega)).trans f12_0_4
  have f13_0_6 : σ13 ((o : Nat) : Int) 6 = ((o + 29 : Nat) : Int) := by rw [e13]; exact (ups_n (by omega)).trans f12_0_6
  refine B _ _ _ _ rfl ?_
  show WP_ X G Q _ _ _ _ _ 83 _ _
  refine so_new (n := o + 34) (sh := 65) (c := 5) (N := 3) E hA0 (eX10_init (83, .new 54, 3) (List.mem_of_getElem? (i := 40) rfl)) rfl rfl hs34 (by decide) (fun _ _ _ => rfl) wk_X10_54 wx_X5 wn_X5 (by rw [hR]; decide) (by rw [hR]; decide) (df_mono (by omega) d13) rfl ?_
  intro q13
  refine B _ _ _ _ rfl ?_
  show WP_ X G Q _ _ _ _ _ 87 _ _
  refine so_ctorN (host := RX10) (o := o + 34) (m := o + 36) (t := 65) E hA0 hAO (cn_X5 X.2.1 (o + 34) hs34 hs35) (by omega) (by rw [hR]; decide) (by rw [hR]; decide) (by rw [hR]; decide) (eX10_init (87, .invokespecial 56, 3) (List.mem_of_getElem? (i := 42) rfl)) rfl (Nat.le_of_ble_eq_true rfl) ⟨by decide, by decide, by decide, by decide⟩ wnl_X10_56 wi_X5_init wn_X5 wc_X5_init (df_mono (by omega) d13) rfl ?_
  intro q14 σ14 e14
  have d14 : DF_ (o + 36) σ14 := by rw [e14]; exact df_X5 (by omega) d13
  have f14_0_4 : σ14 ((o : Nat) : Int) 4 = ((o + 27 : Nat) : Int) := by rw [e14]; exact (T_X5_n (by omega)).trans f13_0_4
  have f14_0_6 : σ14 ((o : Nat) : Int) 6 = ((o + 29 : Nat) : Int) := by rw [e14]; exact (T_X5_n (by omega)).trans f13_0_6
  refine so_putF (c := 10) (jn := 8) (ji := 8) (N := 14) (t := 70) (u := 65) E hin (eX10_init (90, .putfield 57, 3) (List.mem_of_getElem? (i := 43) rfl)) rfl rfl (by decide) rfl wf_X10_57 rfl rfl rfl (fun _ _ _ => rfl) ?_
  intro σ15 e15
  have d15 : DF_ (o + 36) σ15 := by rw [e15]; exact df_up (by omega) (df_mono (by omega) d14)
  have f15_0_4 : σ15 ((o : Nat) : Int) 4 = ((o + 27 : Nat) : Int) := by rw [e15]; exact (ups_n (by omega)).trans f14_0_4
  have f15_0_6 : σ15 ((o : Nat) : Int) 6 = ((o + 29 : Nat) : Int) := by rw [e15]; exact (ups_n (by omega)).trans f14_0_6
  refine B _ _ _ _ rfl ?_
  show WP_ X G Q _ _ _ _ _ 94 _ _
  refine so_new (n := o + 36) (sh := 62) (c := 2) (N := 3) E hA0 (eX10_init (94, .new 61, 3) (List.mem_of_getElem? (i := 45) rfl)) rfl rfl hs36 (by decide) (fun _ _ _ => rfl) wk_X10_61 wx_X2 wn_X2 (by rw [hR]; decide) (by rw [hR]; decide) (df_mono (by omega) d15) rfl ?_
  intro q15
  refine B _ _ _ _ rfl ?_
  show WP_ X G Q _ _ _ _ _ 98 _ _
  refine so_ctorN (host := RX10) (o := o + 36) (m := o + 39) (t := 62) E hA0 hAO (cn_X2 X.2.1 (o + 36) hs36 hs37 hs38) (by omega) (by rw [hR]; decide) (by rw [hR]; decide) (by rw [hR]; decide) (eX10_init (98, .invokespecial 63, 3) (List.mem_of_getElem? (i := 47) rfl)) rfl (Nat.le_of_ble_eq_true rfl) ⟨by decide, by decide, by decide, by decide⟩ wnl_X10_63 wi_X2_init wn_X2 wc_X2_init (df_mono (by omega) d15) rfl ?_
  intro q16 σ16 e16
  have d16 : DF_ (o + 39) σ16 := by rw [e16]; exact df_X2 (by omega) d15
  have f16_0_4 : σ16 ((o : Nat) : Int) 4 = ((o + 27 : Nat) : Int) := by rw [e16]; exact (T_X2_n (by omega)).trans f15_0_4
  have f16_0_6 : σ16 ((o : Nat) : Int) 6 = ((o + 29 : Nat) : Int) := by rw [e16]; exact (T_X2_n (by omega)).trans f15_0_6
  refine so_putF (c := 10) (jn := 9) (ji := 9) (N := 14) (t := 70) (u := 62) E hin (eX10_init (101, .putfield 64, 3) (List.mem_of_getElem? (i := 48) rfl)) rfl rfl (by decide) rfl wf_X10_64 rfl rfl rfl (fun _ _ _ => rfl) ?_
  intro σ17 e17
  have d17 : DF_ (o + 39) σ17 := by rw [e17]; exact df_up (by omega) (df_mono (by omega) d16)
  have f17_0_4 : σ17 ((o : Nat) : Int) 4 = ((o + 27 : Nat) : Int) := by rw [e17]; exact (ups_n (by omega)).trans f16_0_4
  have f17_0_6 : σ17 ((o : Nat) : Int) 6 = ((o + 29 : Nat) : Int) := by rw [e17]; exact (ups_n (by omega)).trans f16_0_6
  refine B _ _ _ _ rfl ?_
  show WP_ X G Q _ _ _ _ _ 105 _ _
  refine so_new (n := o + 39) (sh := 66) (c := 6) (N := 5) E hA0 (eX10_init (105, .new 68, 3) (List.mem_of_getElem? (i := 50) rfl)) rfl rfl hs39 (by decide) (fun _ _ _ => rfl) wk_X10_68 wx_X6 wn_X6 (by rw [hR]; decide) (by rw [hR]; decide) (df_mono (by omega) d17) rfl ?_
  intro q17
  refine B _ _ _ _ rfl ?_
  show WP_ X G Q _ _ _ _ _ 109 _ _
  refine so_ctorN (host := RX10) (o := o + 39) (m := o + 42) (t := 66) E hA0 hAO (cn_X6 X.2.1 (o + 39) hs39 hs40 hs41) (by omega) (by rw [hR]; decide) (by rw [hR]; decide) (by rw [hR]; decide) (eX10_init (109, .invokespecial 70, 3) (List.mem_of_getElem? (i := 52) rfl)) rfl (Nat.le_of_ble_eq_true rfl) ⟨by decide, by decide, by decide, by decide⟩ wnl_X10_70 wi_X6_init wn_X6 wc_X6_init (df_mono (by omega) d17) rfl ?_
  intro q18 σ18 e18
  have d18 : DF_ (o + 42) σ18 := by rw [e18]; exact df_X6 (by omega) d17
  have f18_0_4 : σ18 ((o : Nat) : Int) 4 = ((o + 27 : Nat) : Int) := by rw [e18]; exact (T_X6_n (by omega)).trans f17_0_4
  have f18_0_6 : σ18 ((o : Nat) : Int) 6 = ((o + 29 : Nat) : Int) := by rw [e18]; exact (T_X6_n (by omega)).trans f17_0_6
  refine so_putF (c := 10) (jn := 10) (ji := 10) (N := 14) (t := 70) (u := 66) E hin (eX10_init (112, .putfield 71, 3) (List.mem_of_getElem? (i := 53) rfl)) rfl rfl (by decide) rfl wf_X10_71 rfl rfl rfl (fun _ _ _ => rfl) ?_
  intro σ19 e19
  have d19 : DF_ (o + 42) σ19 := by rw [e19]; exact df_up (by omega) (df_mono (by omega) d18)
  have f19_0_4 : σ19 ((o : Nat) : Int) 4 = ((o + 27 : Nat) : Int) := by rw [e19]; exact (ups_n (by omega)).trans f18_0_4
  have f19_0_6 : σ19 ((o : Nat) : Int) 6 = ((o + 29 : Nat) : Int) := by rw [e19]; exact (ups_n (by omega)).trans f18_0_6
  refine B _ _ _ _ rfl ?_
  show WP_ X G Q _ _ _ _ _ 116 _ _
  refine so_new (n := o + 42) (sh := 67) (c := 7) (N := 5) E hA0 (eX10_init (116, .new 75, 3) (List.mem_of_getElem? (i := 55) rfl)) rfl rfl hs42 (by decide) (fun _ _ _ => rfl) wk_X10_75 wx_X7 wn_X7 (by rw [hR]; decide) (by rw [hR]; decide) (df_mono (by omega) d19) rfl ?_
  intro q19
  refine B _ _ _ _ rfl ?_
  show WP_ X G Q _ _ _ _ _ 120 _ _
  refine so_ctorN (host := RX10) (o := o + 42) (m := o + 45) (t := 67) E hA0 hAO (cn_X7 X.2.1 (o + 42) hs42 hs43 hs44) (by omega) (by rw [hR]; decide) (by rw [hR]; decide) (by rw [hR]; decide) (eX10_init (120, .invokespecial 77, 3) (List.mem_of_getElem? (i := 57) rfl)) rfl (Nat.le_of_ble_eq_true rfl) ⟨by decide, by decide, by decide, by decide⟩ wnl_X10_77 wi_X7_init wn_X7 wc_X7_init (df_mono (by omega) d19) rfl ?_
  intro q20 σ20 e20
  have d20 : DF_ (o + 45) σ20 := by rw [e20]; exact df_X7 (by omega) d19
  have f20_0_4 : σ20 ((o : Nat) : Int) 4 = ((o + 27 : Nat) : Int) := by rw [e20]; exact (T_X7_n (by omega)).trans f19_0_4
  have f20_0_6 : σ20 ((o : Nat) : Int) 6 = ((o + 29 : Nat) : Int) := by rw [e20]; exact (T_X7_n (by omega)).trans f19_0_6
  refine so_putF (c := 10) (jn := 11) (ji := 11) (N := 14) (t := 70) (u := 67) E hin (eX10_init (123, .putfield 78, 3) (List.mem_of_getElem? (i := 58) rfl)) rfl rfl (by decide) rfl wf_X10_78 rfl rfl rfl (fun _ _ _ => rfl) ?_
  intro σ21 e21
  have d21 : DF_ (o + 45) σ21 := by rw [e21]; exact df_up (by omega) (df_mono (by omega) d20)
  have f21_0_4 : σ21 ((o : Nat) : Int) 4 = ((o + 27 : Nat) : Int) := by rw [e21]; exact (ups_n (by omega)).trans f20_0_4
  have f21_0_6 : σ21 ((o : Nat) : Int) 6 = ((o + 29 : Nat) : Int) := by rw [e21]; exact (ups_n (by omega)).trans f20_0_6
  refine B _ _ _ _ rfl ?_
  intro σ22 e22
  have d22 : DF_ (o + 45) σ22 := by rw [e22]; exact df_up (by omega) (df_mono (by omega) d21)
  have f22_0_4 : σ22 ((o : Nat) : Int) 4 = ((o + 27 : Nat) : Int) := by rw [e22]; exact (ups_n (by omega)).trans f21_0_4
  have f22_0_6 : σ22 ((o : Nat) : Int) 6 = ((o + 29 : Nat) : Int) := by rw [e22]; exact (ups_n (by omega)).trans f21_0_6
  intro σ23 e23
  have d23 : DF_ (o + 45) σ23 := by rw [e23]; exact df_up (by omega) (df_mono (by omega) d22)
  have f23_0_4 : σ23 ((o : Nat) : Int) 4 = ((o + 27 : Nat) : Int) := by rw [e23]; exact (ups_n (by omega)).trans f22_0_4
  have f23_0_6 : σ23 ((o : Nat) : Int) 6 = ((o + 29 : Nat) : Int) := by rw [e23]; exact (ups_n (by omega)).trans f22_0_6
  refine And.intro (fun h1 => (by exfalso; omega)) (fun h1 => ?_)
  show WP_ X G Q _ _ _ _ _ 148 _ _
  refine so_new (n := o + 45) (sh := 69) (c := 9) (N := 10) E hA0 (eX10_init (148, .new 23, 3) (List.mem_of_getElem? (i := 73) rfl)) rfl rfl hs45 (by decide) (fun _ _ _ => rfl) wk_X10_23 wx_X9 wn_X9 (by rw [hR]; decide) (by rw [hR]; decide) (df_mono (by omega) d23) rfl ?_
  intro q21
  refine B _ _ _ _ rfl ?_
  show WP_ X G Q _ _ _ _ _ 152 _ _
  refine so_ctor (o := o + 45) (m := o + 56) (t := 69) E hA0 hAO (cn_X9 X.2.1 (o + 45) hs45 hs46 hs47 hs48 hs49 hs50 hs51 hs52 hs53 hs54 hs55) (by omega) (by rw [hR]; decide) (by rw [hR]; decide) (by rw [hR]; decide) (eX10_init (152, .invokespecial 25, 3) (List.mem_of_getElem? (i := 75) rfl)) rfl (Nat.le_of_ble_eq_true rfl) ⟨by decide, by decide, by decide, by decide⟩ wl_X10_25 wi_X9_init wn_X9 wc_X9_init (df_mono (by omega) d23) rfl ?_
  intro q22 σ24 e24
  have d24 : DF_ (o + 56) σ24 := by rw [e24]; exact df_X9 (by omega) d23
  have f24_0_4 : σ24 ((o : Nat) : Int) 4 = ((o + 27 : Nat) : Int) := by rw [e24]; exact (T_X9_n (by omega)).trans f23_0_4
  have f24_0_6 : σ24 ((o : Nat) : Int) 6 = ((o + 29 : Nat) : Int) := by rw [e24]; exact (T_X9_n (by omega)).trans f23_0_6
  refine so_ast (u := 69) (t := 81) (c := 9) (N := 3) (i := 6) (a := o + 27) E (eX10_init (155, .aastore, 1) (List.mem_of_getElem? (i := 76) rfl)) f23_0_4 (tg_ hs27 (by omega)) rfl (by omega) (fun _ => rfl) (fun _ _ _ => rfl) rfl rfl (fun _ => rfl) ?_
  intro σ25 e25
  have d25 : DF_ (o + 56) σ25 := by rw [e25]; exact df_up (by omega) (df_mono (by omega) d24)
  have f25_0_4 : σ25 ((o : Nat) : Int) 4 = ((o + 27 : Nat) : Int) := by rw [e25]; exact (ups_n (by omega)).trans f24_0_4
  have f25_0_6 : σ25 ((o : Nat) : Int) 6 = ((o + 29 : Nat) : Int) := by rw [e25]; exact (ups_n (by omega)).trans f24_0_6
  refine B _ _ _ _ rfl ?_
  refine And.intro (by omega) ?_
  refine B _ _ _ _ rfl ?_
  refine And.intro (fun h2 => (by exfalso; omega)) (fun h2 => ?_)
  show WP_ X G Q _ _ _ _ _ 148 _ _
  refine so_new (n := o + 56) (sh := 69) (c := 9) (N := 10) E hA0 (eX10_init (148, .new 23, 3) (List.mem_of_getElem? (i := 73) rfl)) rfl rfl hs56 (by decide) (fun _ _ _ => rfl) wk_X10_23 wx_X9 wn_X9 (by rw [hR]; decide) (by rw [hR]; decide) (df_mono (by omega) d25) rfl ?_
  intro q23
  refine B _ _ _ _ rfl ?_
  show WP_ X G Q _ _ _ _ _ 152 _ _
  refine so_ctor (o := o + 56) (m := o + 67) (t := 69) E hA0 hAO (cn_X9 X.2.1 (o + 56) hs56 hs57 hs58 hs59 hs60 hs61 hs62 hs63 hs64 hs65 hs66) (by omega) (by rw [hR]; decide) (by rw [hR]; decide) (by rw [hR]; decide) (eX10_init (152, .invokespecial 25, 3) (List.mem_of_getElem? (i := 75) rfl)) rfl (Nat.le_of_ble_eq_true rfl) ⟨by decide, by decide, by decide, by decide⟩ wl_X10_25 wi_X9_init wn_X9 wc_X9_init (df_mono (by omega) d25) rfl ?_
  intro q24 σ26 e26
  have d26 : DF_ (o + 67) σ26 := by rw [e26]; exact df_X9 (by omega) d25
  have f26_0_4 : σ26 ((o : Nat) : Int) 4 = ((o + 27 : Nat) : Int) := by rw [e26]; exact (T_X9_n (by omega)).trans f25_0_4
  have f26_0_6 : σ26 ((o : Nat) : Int) 6 = ((o + 29 : Nat) : Int) := by rw [e26]; exact (T_X9_n (by omega)).trans f25_0_6
  refine so_ast (u := 69) (t := 81) (c := 9) (N := 3) (i := 6) (a := o + 27) E (eX10_init (155, .aastore, 1) (List.mem_of_getElem? (i := 76) rfl)) f25_0_4 (tg_ hs27 (by omega)) rfl (by omega) (fun _ => rfl) (fun _ _ _ => rfl) rfl rfl (fun _ => rfl) ?_
  intro σ27 e27
  have d27 : DF_ (o + 67) σ27 := by rw [e27]; exact df_up (by omega) (df_mono (by omega) d26)
  have f27_0_4 : σ27 ((o : Nat) : Int) 4 = ((o + 27 : Nat) : Int) := by rw [e27]; exact (ups_n (by omega)).trans f26_0_4
  have f27_0_6 : σ27 ((o : Nat) : Int) 6 = ((o + 29 : Nat) : Int) := by rw [e27]; exact (ups_n (by omega)).trans f26_0_6
  refine B _ _ _ _ rfl ?_
  refine And.intro (by omega) ?_
  refine B _ _ _ _ rfl ?_
  refine And.intro (fun h3 => (by exfalso; omega)) (fun h3 => ?_)
  show WP_ X G Q _ _ _ _ _ 148 _ _
  refine so_new (n := o + 67) (sh := 69) (c := 9) (N := 10) E hA0 (eX10_init (148, .new 23, 3) (List.mem_of_getElem? (i := 73) rfl)) rfl rfl hs67 (by decide) (fun _ _ _ => rfl) wk_X10_23 wx_X9 wn_X9 (by rw [hR]; decide) (by rw [hR]; decide) (df_mono (by omega) d27) rfl ?_
  intro q25
  refine B _ _ _ _ rfl ?_
  show WP_ X G Q _ _ _ _ _ 152 _ _
  refine so_ctor (o := o + 67) (m := o + 78) (t := 69) E hA0 hAO (cn_X9 X.2.1 (o + 67) hs67 hs68 hs69 hs70 hs71 hs72 hs73 hs74 hs75 hs76 hs77) (by omega) (by rw [hR]; decide) (by rw [hR]; decide) (by rw [hR]; decide) (eX10_init (152, .invokespecial 25, 3) (List.mem_of_getElem? (i := 75) rfl)) rfl (Nat.le_of_ble_eq_true rfl) ⟨by decide, by decide, by decide, by decide⟩ wl_X10_25 wi_X9_init wn_X9 wc_X9_init (df_mono (by omega) d27) rfl ?_
  intro q26 σ28 e28
  have d28 : DF_ (o + 78) σ28 := by rw [e28]; exact df_X9 (by omega) d27
  have f28_0_4 : σ28 ((o : Nat) : Int) 4 = ((o + 27 : Nat) : Int) := by rw [e28]; exact (T_X9_n (by omega)).trans f27_0_4
  have f28_0_6 : σ28 ((o : Nat) : Int) 6 = ((o + 29 : Nat) : Int) := by rw [e28]; exact (T_X9_n (by omega)).trans f27_0_6
  refine so_ast (u := 69) (t := 81) (c := 9) (N := 3) (i := 6) (a := o + 27) E (eX10_init (155, .aastore, 1) (List.mem_of_getElem? (i := 76) rfl)) f27_0_4 (tg_ hs27 (by omega)) rfl (by omega) (fun _ => rfl) (fun _ _ _ => rfl) rfl rfl (fun _ => rfl) ?_
  intro σ29 e29
  have d29 : DF_ (o + 78) σ29 := by rw [e29]; exact df_up (by omega) (df_mono (by omega) d28)
  have f29_0_4 : σ29 ((o : Nat) : Int) 4 = ((o + 27 : Nat) : Int) := by rw [e29]; exact (ups_n (by omega)).trans f28_0_4
  have f29_0_6 : σ29 ((o : Nat) : Int) 6 = ((o + 29 : Nat) : Int) := by rw [e29]; exact (ups_n (by omega)).trans f28_0_6
  refine B _ _ _ _ rfl ?_
  refine And.intro (by omega) ?_
  refine B _ _ _ _ rfl ?_
  refine And.intro (fun h4 => ?_) (fun h4 => (by exfalso; omega))
  refine B _ _ _ _ rfl ?_
  refine And.intro (fun h5 => (by exfalso; omega)) (fun h5 => ?_)
  show WP_ X G Q _ _ _ _ _ 174 _ _
  refine so_new (n := o + 78) (sh := 64) (c := 4) (N := 4) E hA0 (eX10_init (174, .new 41, 3) (List.mem_of_getElem? (i := 87) rfl)) rfl rfl hs78 (by decide) (fun _ _ _ => rfl) wk_X10_41 wx_X4 wn_X4 (by rw [hR]; decide) (by rw [hR]; decide) (df_mono (by omega) d29) rfl ?_
  intro q27
  refine B _ _ _ _ rfl ?_
  show WP_ X G Q _ _ _ _ _ 178 _ _
  refine so_ctorN (host := RX10) (o := o + 78) (m := o + 80) (t := 64) E hA0 hAO (cn_X4 X.2.1 (o + 78) hs78 hs79) (by omega) (by rw [hR]; decide) (by rw [hR]; decide) (by rw [hR]; decide) (eX10_init (178, .invokespecial 89, 3) (List.mem_of_getElem? (i := 89) rfl)) rfl (Nat.le_of_ble_eq_true rfl) ⟨by decide, by decide, by decide, by decide⟩ wnl_X10_89 wi_X4_init wn_X4 wc_X4_init (df_mono (by omega) d29) rfl ?_
  intro q28 σ30 e30
  have d30 : DF_ (o + 80) σ30 := by rw [e30]; exact df_X4 (by omega) d29
  have f30_0_4 : σ30 ((o : Nat) : Int) 4 = ((o + 27 : Nat) : Int) := by rw [e30]; exact (T_X4_n (by omega)).trans f29_0_4
  have f30_0_6 : σ30 ((o : Nat) : Int) 6 = ((o + 29 : Nat) : Int) := by rw [e30]; exact (T_X4_n (by omega)).trans f29_0_6
  refine so_ast (u := 64) (t := 82) (c := 4) (N := 4) (i := 5) (a := o + 29) E (eX10_init (181, .aastore, 1) (List.mem_of_getElem? (i := 90) rfl)) f29_0_6 (tg_ hs29 (by omega)) rfl (by omega) (fun _ => rfl) (fun _ _ _ => rfl) rfl rfl (fun _ => rfl) ?_
  intro σ31 e31
  have d31 : DF_ (o + 80) σ31 := by rw [e31]; exact df_up (by omega) (df_mono (by omega) d30)
  have f31_0_4 : σ31 ((o : Nat) : Int) 4 = ((o + 27 : Nat) : Int) := by rw [e31]; exact (ups_n (by omega)).trans f30_0_4
  have f31_0_6 : σ31 ((o : Nat) : Int) 6 = ((o + 29 : Nat) : Int) := by rw [e31]; exact (ups_n (by omega)).trans f30_0_6
  refine B _ _ _ _ rfl ?_
  refine And.intro (by omega) ?_
  refine B _ _ _ _ rfl ?_
  refine And.intro (fun h6 => (by exfalso; omega)) (fun h6 => ?_)
  show WP_ X G Q _ _ _ _ _ 174 _ _
  refine so_new (n := o + 80) (sh := 64) (c := 4) (N := 4) E hA0 (eX10_init (174, .new 41, 3) (List.mem_of_getElem? (i := 87) rfl)) rfl rfl hs80 (by decide) (fun _ _ _ => rfl) wk_X10_41 wx_X4 wn_X4 (by rw [hR]; decide) (by rw [hR]; decide) (df_mono (by omega) d31) rfl ?_
  intro q29
  refine B _ _ _ _ rfl ?_
  show WP_ X G Q _ _ _ _ _ 178 _ _
  refine so_ctorN (host := RX10) (o := o + 80) (m := o + 82) (t := 64) E hA0 hAO (cn_X4 X.2.1 (o + 80) hs80 hs81) (by omega) (by rw [hR]; decide) (by rw [hR]; decide) (by rw [hR]; decide) (eX10_init (178, .invokespecial 89, 3) (List.mem_of_getElem? (i := 89) rfl)) rfl (Nat.le_of_ble_eq_true rfl) ⟨by decide, by decide, by decide, by decide⟩ wnl_X10_89 wi_X4_init wn_X4 wc_X4_init (df_mono (by omega) d31) rfl ?_
  intro q30 σ32 e32
  have d32 : DF_ (o + 82) σ32 := by rw [e32]; exact df_X4 (by omega) d31
  have f32_0_4 : σ32 ((o : Nat) : Int) 4 = ((o + 27 : Nat) : Int) := by rw [e32]; exact (T_X4_n (by omega)).trans f31_0_4
  have f32_0_6 : σ32 ((o : Nat) : Int) 6 = ((o + 29 : Nat) : Int) := by rw [e32]; exact (T_X4_n (by omega)).trans f31_0_6
  refine so_ast (u := 64) (t := 82) (c := 4) (N := 4) (i := 5) (a := o + 29) E (eX10_init (181, .aastore, 1) (List.mem_of_getElem? (i := 90) rfl)) f31_0_6 (tg_ hs29 (by omega)) rfl (by omega) (fun _ => rfl) (fun _ _ _ => rfl) rfl rfl (fun _ => rfl) ?_
  intro σ33 e33
  have d33 : DF_ (o + 82) σ33 := by rw [e33]; exact df_up (by omega) (df_mono (by omega) d32)
  have f33_0_4 : σ33 ((o : Nat) : Int) 4 = ((o + 27 : Nat) : Int) := by rw [e33]; exact (ups_n (by omega)).trans f32_0_4
  have f33_0_6 : σ33 ((o : Nat) : Int) 6 = ((o + 29 : Nat) : Int) := by rw [e33]; exact (ups_n (by omega)).trans f32_0_6
  refine B _ _ _ _ rfl ?_
  refine And.intro (by omega) ?_
  refine B _ _ _ _ rfl ?_
  refine And.intro (fun h7 => (by exfalso; omega)) (fun h7 => ?_)
  show WP_ X G Q _ _ _ _ _ 174 _ _
  refine so_new (n := o + 82) (sh := 64) (c := 4) (N := 4) E hA0 (eX10_init (174, .new 41, 3) (List.mem_of_getElem? (i := 87) rfl)) rfl rfl hs82 (by decide) (fun _ _ _ => rfl) wk_X10_41 wx_X4 wn_X4 (by rw [hR]; decide) (by rw [hR]; decide) (df_mono (by omega) d33) rfl ?_
  intro q31
  refine B _ _ _ _ rfl ?_
  show WP_ X G Q _ _ _ _ _ 178 _ _
  refine so_ctorN (host := RX10) (o := o + 82) (m := o + 84) (t := 64) E hA0 hAO (cn_X4 X.2.1 (o + 82) hs82 hs83) (by omega) (by rw [hR]; decide) (by rw [hR]; decide) (by rw [hR]; decide) (eX10_init (178, .invokespecial 89, 3) (List.mem_of_getElem? (i := 89) rfl)) rfl (Nat.le_of_ble_eq_true rfl) ⟨by decide, by decide, by decide, by decide⟩ wnl_X10_89 wi_X4_init wn_X4 wc_X4_init (df_mono (by omega) d33) rfl ?_
  intro q32 σ34 e34
  have d34 : DF_ (o + 84) σ34 := by rw [e34]; exact df_X4 (by omega) d33
  have f34_0_4 : σ34 ((o : Nat) : Int) 4 = ((o + 27 : Nat) : Int) := by rw [e34]; exact (T_X4_n (by omega)).trans f33_0_4
  have f34_0_6 : σ34 ((o : Nat) : Int) 6 = ((o + 29 : Nat) : Int) := by rw [e34]; exact (T_X4_n (by omega)).trans f33_0_6
  refine so_ast (u := 64) (t := 82) (c := 4) (N := 4) (i := 5) (a := o + 29) E (eX10_init (181, .aastore, 1) (List.mem_of_getElem? (i := 90) rfl)) f33_0_6 (tg_ hs29 (by omega)) rfl (by omega) (fun _ => rfl) (fun _ _ _ => rfl) rfl rfl (fun _ => rfl) ?_
  intro σ35 e35
  have d35 : DF_ (o + 84) σ35 := by rw [e35]; exact df_up (by omega) (df_mono (by omega) d34)
  have f35_0_4 : σ35 ((o : Nat) : Int) 4 = ((o + 27 : Nat) : Int) := by rw [e35]; exact (ups_n (by omega)).trans f34_0_4
  have f35_0_6 : σ35 ((o : Nat) : Int) 6 = ((o + 29 : Nat) : Int) := by rw [e35]; exact (ups_n (by omega)).trans f34_0_6
  refine B _ _ _ _ rfl ?_
  refine And.intro (by omega) ?_
  refine B _ _ _ _ rfl ?_
  refine And.intro (fun h8 => (by exfalso; omega)) (fun h8 => ?_)
  show WP_ X G Q _ _ _ _ _ 174 _ _
  refine so_new (n := o + 84) (sh := 64) (c := 4) (N := 4) E hA0 (eX10_init (174, .new 41, 3) (List.mem_of_getElem? (i := 87) rfl)) rfl rfl hs84 (by decide) (fun _ _ _ => rfl) wk_X10_41 wx_X4 wn_X4 (by rw [hR]; decide) (by rw [hR]; decide) (df_mono (by omega) d35) rfl ?_
  intro q33
  refine B _ _ _ _ rfl ?_
  show WP_ X G Q _ _ _ _ _ 178 _ _
  refine so_ctorN (host := RX10) (o := o + 84) (m := o + 86) (t := 64) E hA0 hAO (cn_X4 X.2.1 (o + 84) hs84 hs85) (by omega) (by rw [hR]; decide) (by rw [hR]; decide) (by rw [hR]; decide) (eX10_init (178, .invokespecial 89, 3) (List.mem_of_getElem? (i := 89) rfl)) rfl (Nat.le_of_ble_eq_true rfl) ⟨by decide, by decide, by decide, by decide⟩ wnl_X10_89 wi_X4_init wn_X4 wc_X4_init (df_mono (by omega) d35) rfl ?_
  intro q34 σ36 e36
  have d36 : DF_ (o + 86) σ36 := by rw [e36]; exact df_X4 (by omega) d35
  have f36_0_4 : σ36 ((o : Nat) : Int) 4 = ((o + 27 : Nat) : Int) := by rw [e36]; exact (T_X4_n (by omega)).trans f35_0_4
  have f36_0_6 : σ36 ((o : Nat) : Int) 6 = ((o + 29 : Nat) : Int) := by rw [e36]; exact (T_X4_n (by omega)).trans f35_0_6
  refine so_ast (u := 64) (t := 82) (c := 4) (N := 4) (i := 5) (a := o + 29) E (eX10_init (181, .aastore, 1) (List.mem_of_getElem? (i := 90) rfl)) f35_0_6 (tg_ hs29 (by omega)) rfl (by omega) (fun _ => rfl) (fun _ _ _ => rfl) rfl rfl (fun _ => rfl) ?_
  intro σ37 e37
  have d37 : DF_ (o + 86) σ37 := by rw [e37]; exact df_up (by omega) (df_mono (by omega) d36)
  have f37_0_4 : σ37 ((o : Nat) : Int) 4 = ((o + 27 : Nat) : Int) := by rw [e37]; exact (ups_n (by omega)).trans f36_0_4
  have f37_0_6 : σ37 ((o : Nat) : Int) 6 = ((o + 29 : Nat) : Int) := by rw [e37]; exact (ups_n (by omega)).trans f36_0_6
  refine B _ _ _ _ rfl ?_
  refine And.intro (by omega) ?_
  refine B _ _ _ _ rfl ?_
  refine And.intro (fun h9 => ?_) (fun h9 => (by exfalso; omega))
  exact R 188 _ _ _ (eX10_init (188, .return_, 1) (List.mem_of_getElem? (i := 93) rfl)) ⟨_, by first | rfl | (simp only [List.append_assoc]; rfl)⟩ (by subst e37 e36 e35 e34 e33 e32 e31 e30 e29 e28 e27 e26 e25 e24 e23 e22 e21 e20 e19 e18 e17 e16 e15 e14 e13 e12 e11 e10 e9 e8 e7 e6 e5 e4 e3 e2 e1; rfl)
def T_X11 (o : Nat) (σ : Me_t) : Me_t := ups_ (ups_ (ups_ (ups_ (ups_ (ups_ (ups_ (ups_ (ups_ (ups_ (ups_ (ups_ (ups_ (ups_ (ups_ (ups_ (ups_ (ups_ (ups_ (ups_ (ups_ (ups_ (ups_ (ups_ (σ) ((o : Nat) : Int) 1 ((o + 1 : Nat) : Int)) ((o : Nat) : Int) 2 ((o + 2 : Nat) : Int)) ((o : Nat) : Int) 3 ((o + 3 : Nat) : Int)) ((o : Nat) : Int) 4 ((o + 4 : Nat) : Int)) ((o : Nat) : Int) 6 ((o + 5 : Nat) : Int)) ((o : Nat) : Int) 13 (-1)) ((o : Nat) : Int) 14 ((o + 6 : Nat) : Int)) ((o : Nat) : Int) 15 ((o + 7 : Nat) : Int)) ((o : Nat) : Int) 16 ((o + 8 : Nat) : Int)) ((o : Nat) : Int) 17 ((o + 9 : Nat) : Int)) ((o : Nat) : Int) 18 ((o + 10 : Nat) : Int)) ((o : Nat) : Int) 21 ((o + 11 : Nat) : Int)) ((o : Nat) : Int) 24 ((o + 12 : Nat) : Int)) ((o : Nat) : Int) 29 ((o + 13 : Nat) : Int)) ((o : Nat) : Int) 30 ((o + 14 : Nat) : Int)) ((o : Nat) : Int) 31 ((o + 15 : Nat) : Int)) ((o + 16 : Nat) : Int) 0 (-1)) ((o + 16 : Nat) : Int) 1 (-1)) ((o + 16 : Nat) : Int) 2 (-1)) ((o + 16 : Nat) : Int) 3 (-1)) ((o : Nat) : Int) 35 ((o + 16 : Nat) : Int)) ((o : Nat) : Int) 36 ((o + 17 : Nat) : Int)) ((o : Nat) : Int) 37 ((o + 18 : Nat) : Int)) ((o : Nat) : Int) 38 ((o + 19 : Nat) : Int)
theorem T_X11_n {o : Nat} {σ : Me_t} {k j : Int} (h : k < (o : Int)) : T_X11 o σ k j = σ k j := ((ups_n (by omega)).trans ((ups_n (by omega)).trans ((ups_n (by omega)).trans ((ups_n (by omega)).trans ((ups_n (by omega)).trans ((ups_n (by omega)).trans ((ups_n (by omega)).trans ((ups_n (by omega)).trans ((ups_n (by omega)).trans ((ups_n (by omega)).trans ((ups_n (by omega)).trans ((ups_n (by omega)).trans ((ups_n (by omega)).trans ((ups_n (by omega)).trans ((ups_n (by omega)).trans ((ups_n (by omega)).trans ((ups_n (by omega)).trans ((ups_n (by omega)).trans ((ups_n (by omega)).trans ((ups_n (by omega)).trans ((ups_n (by omega)).trans ((ups_n (by omega)).trans ((ups_n (by omega)).trans ((ups_n (by omega)).trans rfl))))))))))))))))))))))))
theorem df_X11 {o n : Nat} {σ : Me_t} (h : o + 20 ≤ n) (hD : DF_ o σ) : DF_ n (T_X11 o σ) := (df_up (by omega) (df_up (by omega) (df_up (by omega) (df_up (by omega) (df_up (by omega) (df_up (by omega) (df_up (by omega) (df_up (by omega) (df_up (by omega) (df_up (by omega) (df_up (by omega) (df_up (by omega) (df_up (by omega) (df_up (by omega) (df_up (by omega) (df_up (by omega) (df_up (by omega) (df_up (by omega) (df_up (by omega) (df_up (by omega) (df_up (by omega) (df_up (by omega) (df_up (by omega) (df_up (by omega) (df_mono (by omega) hD)))))))))))))))))))))))))
set_option maxHeartbeats 4000000 in
set_option maxRecDepth 100000 in
theorem cn_X11 (l : Launch) (o : Nat) (hs0 : SHR_[o]? = some 71) (hs1 : SHR_[o + 1]? = some 33) (hs2 : SHR_[o + 2]? = some 34) (hs3 : SHR_[o + 3]? = some 35) (hs4 : SHR_[o + 4]? = some 36) (hs5 : SHR_[o + 5]? = some 37) (hs6 : SHR_[o + 6]? = some 38) (hs7 : SHR_[o + 7]? = some 39) (hs8 : SHR_[o + 8]? = some 40) (hs9 : SHR_[o + 9]? = some 41) (hs10 : SHR_[o + 10]? = some 42) (hs11 : SHR_[o + 11]? = some 43) (hs12 : SHR_[o + 12]? = some 44) (hs13 : SHR_[o + 13]? = some 45) (hs14 : SHR_[o + 14]? = some 46) (hs15 : SHR_[o + 15]? = some 47) (hs16 : SHR_[o + 16]? = some 48) (hs17 : SHR_[o + 17]? = some 49) (hs18 : SHR_[o + 18]? = some 50) (hs19 : SHR_[o + 19]? = some 51) : CN_ l yX11_init cX11_init 1 1 40 19 28196 o (o + 20) (T_X11 o) := by
  refine cn_of (by decide) (by decide) (by decide) hs0 ?_
  intro X G Q ad σ hl hR E hA0 hAO hin hD R
  have B := fun (cl sl : Nat) (ad shs : List Nat) => @bk_ X G Q cl sl ad shs RX11 cX11_init 1 none flX11 plX11 knX11 [] 9 (fun _ _ => False) none kX11_init [1, 8, 10, 17, 19, 24, 26, 33, 35, 40, 42, 54, 56, 63, 65, 72, 74, 81, 83, 90, 92, 98, 100, 106, 108, 114, 116, 122, 124, 130, 132, 137, 155, 160, 162, 169, 171, 177, 179, 182] flX11_ok plX11_ok knX11_ok eX11_init oX11_init (fun _ h => absurd h List.not_mem_nil) (fun _ _ _ _ _ h => h.elim) sok_no E
  show WP_ X G Q 0 0 ad (SHR_.take (o + 1)) σ 0 [(81, (o : Int))] []
  refine B _ _ _ _ rfl ?_
  show WP_ X G Q _ _ _ _ _ 1 _ _
  refine so_obj E (eX11_init (1, .invokespecial 3, 3) (List.mem_of_getElem? (i := 1) rfl)) wo_X11 wo_i wo_c rfl (by rw [hR]; decide) (by rw [hR]; decide) ?_
  refine B _ _ _ _ rfl ?_
  show WP_ X G Q _ _ _ _ _ 8 _ _
  refine so_newi (n := o + 1) (sh := 33) (a := 1) (c := 0) (N := 495) (i := 0) (ty := .int) E hA0 (eX11_init (8, .newarray .int, 2) (List.mem_of_getElem? (i := 4) rfl)) rfl rfl (fun _ => rfl) (Or.inl rfl) rfl rfl (by decide +kernel) hs1 (fun _ => ⟨rfl, rfl⟩) (fun _ _ _ => rfl) wy_int (by rw [hR]; decide) (by rw [hR]; decide) (df_mono (by omega) hD) rfl ?_
  intro q0
  refine so_putF (c := 11) (jn := 1) (ji := 1) (N := 39) (t := 71) (u := 33) E hin (eX11_init (10, .putfield 9, 3) (List.mem_of_getElem? (i := 5) rfl)) rfl rfl (by decide) rfl wf_X11_9 rfl rfl rfl (fun _ _ _ => rfl) ?_
  intro σ1 e1
  have d1 : DF_ (o + 2) σ1 := by rw [e1]; exact df_up (by omega) (df_mono (by omega) hD)
  refine B _ _ _ _ rfl ?_
  show WP_ X G Q _ _ _ _ _ 17 _ _
  refine so_newi (n := o + 2) (sh := 34) (a := 1) (c := 0) (N := 1485) (i := 0) (ty := .int) E hA0 (eX11_init (17, .newarray .int, 2) (List.mem_of_getElem? (i := 8) rfl)) rfl rfl (fun _ => rfl) (Or.inl rfl) rfl rfl (by decide +kernel) hs2 (fun _ => ⟨rfl, rfl⟩) (fun _ _ _ => rfl) wy_int (by rw [hR]; decide) (by rw [hR]; decide) (df_mono (by omega) d1) rfl ?_
  intro q1
  refine so_putF (c := 11) (jn := 2) (ji := 2) (N := 39) (t := 71) (u := 34) E hin (eX11_init (19, .putfield 13, 3) (List.mem_of_getElem? (i := 9) rfl)) rfl rfl (by decide) rfl wf_X11_13 rfl rfl rfl (fun _ _ _ => rfl) ?_
  intro σ2 e2
  have d2 : DF_ (o + 3) σ2 := by rw [e2]; exact df_up (by omega) (df_mono (by omega) d1)
  refine B _ _ _ _ rfl ?_
  show WP_ X G Q _ _ _ _ _ 24 _ _
  refine so_newi (n := o + 3) (sh := 35) (a := 3) (c := 0) (N := 3) (i := 2) (ty := .boolean) E hA0 (eX11_init (24, .newarray .boolean, 2) (List.mem_of_getElem? (i := 12) rfl)) rfl rfl (fun _ => rfl) (Or.inr (Or.inr rfl)) rfl rfl (by decide +kernel) hs3 (fun _ => ⟨rfl, rfl⟩) (fun _ _ _ => rfl) wy_boolean (by rw [hR]; decide) (by rw [hR]; decide) (df_mono (by omega) d2) rfl ?_
  intro q2
  refine so_putF (c := 11) (jn := 3) (ji := 3) (N := 39) (t := 71) (u := 35) E hin (eX11_init (26, .putfield 16, 3) (List.mem_of_getElem? (i := 13) rfl)) rfl rfl (by decide) rfl wf_X11_16 rfl rfl rfl (fun _ _ _ => rfl) ?_
  intro σ3 e3
  have d3 : DF_ (o + 4) σ3 := by rw [e3]; exact df_up (by omega) (df_mono (by omega) d2)
  refine B _ _ _ _ rfl ?_
  show WP_ X G Q _ _ _ _ _ 33 _ _
  refine so_newi (n := o + 4) (sh := 36) (a := 2) (c := 0) (N := 1200) (i := 1) (ty := .byte) E hA0 (eX11_init (33, .newarray .byte, 2) (List.mem_of_getElem? (i := 16) rfl)) rfl rfl (fun _ => rfl) (Or.inr (Or.inl rfl)) rfl rfl (by decide +kernel) hs4 (fun _ => ⟨rfl, rfl⟩) (fun _ _ _ => rfl) wy_byte (by rw [hR]; decide) (by rw [hR]; decide) (df_mono (by omega) d3) rfl ?_
  intro q3
  refine so_putF (c := 11) (jn := 4) (ji := 4) (N := 39) (t := 71) (u := 36) E hin (eX11_init (35, .putfield 20, 3) (List.mem_of_getElem? (i := 17) rfl)) rfl rfl (by decide) rfl wf_X11_20 rfl rfl rfl (fun _ _ _ => rfl) ?_
  intro σ4 e4
  have d4 : DF_ (o + 5) σ4 := by rw [e4]; exact df_up (by omega) (df_mono (by omega) d3)
  refine B _ _ _ _ rfl ?_
  show WP_ X G Q _ _ _ _ _ 40 _ _
  refine so_newi (n := o + 5) (sh := 37) (a := 1) (c := 0) (N := 5) (i := 0) (ty := .int) E hA0 (eX11_init (40, .newarray .int, 2) (List.mem_of_getElem? (i := 20) rfl)) rfl rfl (fun _ => rfl) (Or.inl rfl) rfl rfl (by decide +kernel) hs5 (fun _ => ⟨rfl, rfl⟩) (fun _ _ _ => rfl) wy_int (by rw [hR]; decide) (by rw [hR]; decide) (df_mono (by omega) d4) rfl ?_
  intro q4
  refine so_putF (c := 11) (jn := 6) (ji := 6) (N := 39) (t := 71) (u := 37) E hin (eX11_init (42, .putfield 24, 3) (List.mem_of_getElem? (i := 21) rfl)) rfl rfl (by decide) rfl wf_X11_24 rfl rfl rfl (fun _ _ _ => rfl) ?_
  intro σ5 e5
  have d5 : DF_ (o + 6) σ5 := by rw [e5]; exact df_up (by omega) (df_mono (by omega) d4)
  refine B _ _ _ _ rfl ?_
  intro σ6 e6
  have d6 : DF_ (o + 6) σ6 := by rw [e6]; exact df_up (by omega) (df_mono (by omega) d5)
  show WP_ X G Q _ _ _ _ _ 54 _ _
  refine so_newi (n := o + 6) (sh := 38) (a := 1) (c := 0) (N := 495) (i := 0) (ty := .int) E hA0 (eX11_init (54, .newarray .int, 2) (List.mem_of_getElem? (i := 27) rfl)) rfl rfl (fun _ => rfl) (Or.inl rfl) rfl rfl (by decide +kernel) hs6 (fun _ => ⟨rfl, rfl⟩) (fun _ _ _ => rfl) wy_int (by rw [hR]; decide) (by rw [hR]; decide) (df_mono (by omega) d6) rfl ?_
  intro q5
  refine so_putF (c := 11) (jn := 14) (ji := 14) (N := 39) (t := 71) (u := 38) E hin (eX11_init (56, .putfield 31, 3) (List.mem_of_getElem? (i := 28) rfl)) rfl rfl (by decide) rfl wf_X11_31 rfl rfl rfl (fun _ _ _ => rfl) ?_
  intro σ7 e7
  have d7 : DF_ (o + 7) σ7 := by rw [e7]; exact df_up (by omega) (df_mono (by omega) d6)
  refine B _ _ _ _ rfl ?_
  show WP_ X G Q _ _ _ _ _ 63 _ _
  refine so_newi (n := o + 7) (sh := 39) (a := 1) (c := 0) (N := 6000) (i := 0) (ty := .int) E hA0 (eX11_init (63, .newarray .int, 2) (List.mem_of_getElem? (i := 31) rfl)) rfl rfl (fun _ => rfl) (Or.inl rfl) rfl rfl (by decide +kernel) hs7 (fun _ => ⟨rfl, rfl⟩) (fun _ _ _ => rfl) wy_int (by rw [hR]; decide) (by rw [hR]; decide) (df_mono (by omega) d7) rfl ?_
  intro q6
  refine so_putF (c := 11) (jn := 15) (ji := 15) (N := 39) (t := 71) (u := 39) E hin (eX11_init (65, .putfield 34, 3) (List.mem_of_getElem? (i := 32) rfl)) rfl rfl (by decide) rfl wf_X11_34 rfl rfl rfl (fun _ _ _ => rfl) ?_
  intro σ8 e8
  have d8 : DF_ (o + 8) σ8 := by rw [e8]; exact df_up (by omega) (df_mono (by omega) d7)
  refine B _ _ _ _ rfl ?_
  show WP_ X G Q _ _ _ _ _ 72 _ _
  refine so_newi (n := o + 8) (sh := 40) (a := 1) (c := 0) (N := 6000) (i := 0) (ty := .int) E hA0 (eX11_init (72, .newarray .int, 2) (List.mem_of_getElem? (i := 35) rfl)) rfl rfl (fun _ => rfl) (Or.inl rfl) rfl rfl (by decide +kernel) hs8 (fun _ => ⟨rfl, rfl⟩) (fun _ _ _ => rfl) wy_int (by rw [hR]; decide) (by rw [hR]; decide) (df_mono (by omega) d8) rfl ?_
  intro q7
  refine so_putF (c := 11) (jn := 16) (ji := 16) (N := 39) (t := 71) (u := 40) E hin (eX11_init (74, .putfield 37, 3) (List.mem_of_getElem? (i := 36) rfl)) rfl rfl (by decide) rfl wf_X11_37 rfl rfl rfl (fun _ _ _ => rfl) ?_
  intro σ9 e9
  have d9 : DF_ (o + 9) σ9 := by rw [e9]; exact df_up (by omega) (df_mono (by omega) d8)
  refine B _ _ _ _ rfl ?_
  show WP_ X G Q _ _ _ _ _ 81 _ _
  refine so_newi (n := o + 9) (sh := 41) (a := 1) (c := 0) (N := 6000) (i := 0) (ty := .int) E hA0 (eX11_init (81, .newarray .int, 2) (List.mem_of_getElem? (i := 39) rfl)) rfl rfl (fun _ => rfl) (Or.inl rfl) rfl rfl (by decide +kernel) hs9 (fun _ => ⟨rfl, rfl⟩) (fun _ _ _ => rfl) wy_int (by rw [hR]; decide) (by rw [hR]; decide) (df_mono (by omega) d9) rfl ?_
  intro q8
  refine so_putF (c := 11) (jn := 17) (ji := 17) (N := 39) (t := 71) (u := 41) E hin (eX11_init (83, .putfield 40, 3) (List.mem_of_getElem? (i := 40) rfl)) rfl rfl (by decide) rfl wf_X11_40 rfl rfl rfl (fun _ _ _ => rfl) ?_
  intro σ10 e10
  have d10 : DF_ (o + 10) σ10 := by rw [e10]; exact df_up (by omega) (df_mono (by omega) d9)
  refine B _ _ _ _ rfl ?_
  show WP_ X G Q _ _ _ _ _ 90 _ _
  refine so_newi (n := o + 10) (sh := 42) (a := 1) (c := 0) (N := 6000) (i := 0) (ty := .int) E hA0 (eX11_init (90, .newarray .int, 2) (List.mem_of_getElem? (i := 43) rfl)) rfl rfl (fun _ => rfl) (Or.inl rfl) rfl rfl (by decide +kernel) hs10 (fun _ => ⟨rfl, rfl⟩) (fun _ _ _ => rfl) wy_int (by rw [hR]; decide) (by rw [hR]; decide) (df_mono (by omega) d10) rfl ?_
  intro q9
  refine so_putF (c := 11) (jn := 18) (ji := 18) (N := 39) (t := 71) (u := 42) E hin (eX11_init (92, .putfield 43, 3) (List.mem_of_getElem? (i := 44) rfl)) rfl rfl (by decide) rfl wf_X11_43 rfl rfl rfl (fun _ _ _ => rfl) ?_
  intro σ11 e11
  have d11 : DF_ (o + 11) σ11 := by rw [e11]; exact df_up (by omega) (df_mono (by omega) d10)
  refine B _ _ _ _ rfl ?_
  show WP_ X G Q _ _ _ _ _ 98 _ _
  refine so_newi (n := o + 11) (sh := 43) (a := 3) (c := 0) (N := 70) (i := 2) (ty := .boolean) E hA0 (eX11_init (98, .newarray .boolean, 2) (List.mem_of_getElem? (i := 47) rfl)) rfl rfl (fun _ => rfl) (Or.inr (Or.inr rfl)) rfl rfl (by decide +kernel) hs11 (fun _ => ⟨rfl, rfl⟩) (fun _ _ _ => rfl) wy_boolean (by rw [hR]; decide) (by rw [hR]; decide) (df_mono (by omega) d11) rfl ?_
  intro q10
  refine so_putF (c := 11) (jn := 21) (ji := 21) (N := 39) (t := 71) (u := 43) E hin (eX11_init (100, .putfield 46, 3) (List.mem_of_getElem? (i := 48) rfl)) rfl rfl (by decide) rfl wf_X11_46 rfl rfl rfl (fun _ _ _ => rfl) ?_
  intro σ12 e12
  have d12 : DF_ (o + 12) σ12 := by rw [e12]; exact df_up (by omega) (df_mono (by omega) d11)
  refine B _ _ _ _ rfl ?_
  show WP_ X G Q _ _ _ _ _ 106 _ _
  refine so_newi (n := o + 12) (sh := 44) (a := 1) (c := 0) (N := 12) (i := 0) (ty := .int) E hA0 (eX11_init (106, .newarray .int, 2) (List.mem_of_getElem? (i := 51) rfl)) rfl rfl (fun _ => rfl) (Or.inl rfl) rfl rfl (by decide +kernel) hs12 (fun _ => ⟨rfl, rfl⟩) (fun _ _ _ => rfl) wy_int (by rw [hR]; decide) (by rw [hR]; decide) (df_mono (by omega) d12) rfl ?_
  intro q11
  refine so_putF (c := 11) (jn := 24) (ji := 24) (N := 39) (t := 71) (u := 44) E hin (eX11_init (108, .putfield 49, 3) (List.mem_of_getElem? (i := 52) rfl)) rfl rfl (by decide) rfl wf_X11_49 rfl rfl rfl (fun _ _ _ => rfl) ?_
  intro σ13 e13
  have d13 : DF_ (o + 13) σ13 := by rw [e13]; exact df_up (by omega) (df_mono (by omega) d12)
  refine B _ _ _ _ rfl ?_
  show WP_ X G Q _ _ _ _ _ 114 _ _
  refine so_newi (n := o + 13) (sh := 45) (a := 1) (c := 0) (N := 41) (i := 0) (ty := .int) E hA0 (eX11_init (114, .newarray .int, 2) (List.mem_of_getElem? (i := 55) rfl)) rfl rfl (fun _ => rfl) (Or.inl rfl) rfl rfl (by decide +kernel) hs13 (fun _ => ⟨rfl, rfl⟩) (fun _ _ _ => rfl) wy_int (by rw [hR]; decide) (by rw [hR]; decide) (df_mono (by omega) d13) rfl ?_
  intro q12
  refine so_putF (c := 11) (jn := 29) (ji := 29) (N := 39) (t := 71) (u := 45) E hin (eX11_init (116, .putfield 52, 3) (List.mem_of_getElem? (i := 56) rfl)) rfl rfl (by decide) rfl wf_X11_52 rfl rfl rfl (fun _ _ _ => rfl) ?_
  intro σ14 e14
  have d14 : DF_ (o + 14) σ14 := by rw [e14]; exact df_up (by omega) (df_mono (by omega) d13)
  refine B _ _ _ _ rfl ?_
  show WP_ X G Q _ _ _ _ _ 122 _ _
  refine so_newi (n := o + 14) (sh := 46) (a := 1) (c := 0) (N := 41) (i := 0) (ty := .int) E hA0 (eX11_init (122, .newarray .int, 2) (List.mem_of_getElem? (i := 59) rfl)) rfl rfl (fun _ => rfl) (Or.inl rfl) rfl rfl (by decide +kernel) hs14 (fun _ => ⟨rfl, rfl⟩) (fun _ _ _ => rfl) wy_int (by rw [hR]; decide) (by rw [hR]; decide) (df_mono (by omega) d14) rfl ?_
  intro q13
  refine so_putF (c := 11) (jn := 30) (ji := 30) (N := 39) (t := 71) (u := 46) E hin (eX11_init (124, .putfield 55, 3) (List.mem_of_getElem? (i := 60) rfl)) rfl rfl (by decide) rfl wf_X11_55 rfl rfl rfl (fun _ _ _ => rfl) ?_
  intro σ15 e15
  have d15 : DF_ (o + 15) σ15 := by rw [e15]; exact df_up (by omega) (df_mono (by omega) d14)
  refine B _ _ _ _ rfl ?_
  show WP_ X G Q _ _ _ _ _ 130 _ _
  refine so_newi (n := o + 15) (sh := 47) (a := 1) (c := 0) (N := 41) (i := 0) (ty := .int) E hA0 (eX11_init (130, .newarray .int, 2) (List.mem_of_getElem? (i := 63) rfl)) rfl rfl (fun _ => rfl) (Or.inl rfl) rfl rfl (by decide +kernel) hs15 (fun _ => ⟨rfl, rfl⟩) (fun _ _ _ => rfl) wy_int (by rw [hR]; decide) (by rw [hR]; decide) (df_mono (by omega) d15) rfl ?_
  intro q14
  refine so_putF (c := 11) (jn := 31) (ji := 31) (N := 39) (t := 71) (u := 47) E hin (eX11_init (132, .putfield 58, 3) (List.mem_of_getElem? (i := 64) rfl)) rfl rfl (by decide) rfl wf_X11_58 rfl rfl rfl (fun _ _ _ => rfl) ?_
  intro σ16 e16
  have d16 : DF_ (o + 16) σ16 := by rw [e16]; exact df_up (by omega) (df_mono (by omega) d15)
  refine B _ _ _ _ rfl ?_
  show WP_ X G Q _ _ _ _ _ 137 _ _
  refine so_newi (n := o + 16) (sh := 48) (a := 1) (c := 0) (N := 4) (i := 0) (ty := .int) E hA0 (eX11_init (137, .newarray .int, 2) (List.mem_of_getElem? (i := 67) rfl)) rfl rfl (fun _ => rfl) (Or.inl rfl) rfl rfl (by decide +kernel) hs16 (fun _ => ⟨rfl, rfl⟩) (fun _ _ _ => rfl) wy_int (by rw [hR]; decide) (by rw [hR]; decide) (df_mono (by omega) d16) rfl ?_
  intro q15
  refine B _ _ _ _ rfl ?_
  refine And.intro (by omega) ?_
  intro σ17 e17
  have d17 : DF_ (o + 17) σ17 := by rw [e17]; exact df_up (by omega) (df_mono (by omega) d16)
  refine And.intro (by omega) ?_
  intro σ18 e18
  have d18 : DF_ (o + 17) σ18 := by rw [e18]; exact df_up (by omega) (df_mono (by omega) d17)
  refine And.intro (by omega) ?_
  intro σ19 e19
  have d19 : DF_ (o + 17) σ19 := by rw [e19]; exact df_up (by omega) (df_mono (by omega) d18)
  refine And.intro (by omega) ?_
  intro σ20 e20
  have d20 : DF_ (o + 17) σ20 := by rw [e20]; exact df_up (by omega) (df_mono (by omega) d19)
  show WP_ X G Q _ _ _ _ _ 155 _ _
  refine so_putF (c := 11) (jn := 35) (ji := 35) (N := 39) (t := 71) (u := 48) E hin (eX11_init (155, .putfield 61, 3) (List.mem_of_getElem? (i := 84) rfl)) rfl rfl (by decide) rfl wf_X11_61 rfl rfl rfl (fun _ _ _ => rfl) ?_
  intro σ21 e21
  have d21 : DF_ (o + 17) σ21 := by rw [e21]; exact df_up (by omega) (df_mono (by omega) d20)
  refine B _ _ _ _ rfl ?_
  show WP_ X G Q _ _ _ _ _ 160 _ _
  refine so_newi (n := o + 17) (sh := 49) (a := 1) (c := 0) (N := 4) (i := 0) (ty := .int) E hA0 (eX11_init (160, .newarray .int, 2) (List.mem_of_getElem? (i := 87) rfl)) rfl rfl (fun _ => rfl) (Or.inl rfl) rfl rfl (by decide +kernel) hs17 (fun _ => ⟨rfl, rfl⟩) (fun _ _ _ => rfl) wy_int (by rw [hR]; decide) (by rw [hR]; decide) (df_mono (by omega) d21) rfl ?_
  intro q16
  refine so_putF (c := 11) (jn := 36) (ji := 36) (N := 39) (t := 71) (u := 49) E hin (eX11_init (162, .putfield 64, 3) (List.mem_of_getElem? (i := 88) rfl)) rfl rfl (by decide) rfl wf_X11_64 rfl rfl rfl (fun _ _ _ => rfl) ?_
  intro σ22 e22
  have d22 : DF_ (o + 18) σ22 := by rw [e22]; exact df_up (by omega) (df_mono (by omega) d21)
  refine B _ _ _ _ rfl ?_
  show WP_ X G Q _ _ _ _ _ 169 _ _
  refine so_newl (n := o + 18) (sh := 50) (c := 0) (N := 240) E hA0 (eX11_init (169, .newarray .long, 2) (List.mem_of_getElem? (i := 91) rfl)) rfl rfl (by decide +kernel) hs18 (fun _ => ⟨rfl, rfl⟩) (fun _ _ _ => rfl) wy_long (by rw [hR]; decide) (by rw [hR]; decide) (df_mono (by omega) d22) rfl ?_
  intro q17
  refine so_putF (c := 11) (jn := 37) (ji := 37) (N := 39) (t := 71) (u := 50) E hin (eX11_init (171, .putfield 67, 3) (List.mem_of_getElem? (i := 92) rfl)) rfl rfl (by decide) rfl wf_X11_67 rfl rfl rfl (fun _ _ _ => rfl) ?_
  intro σ23 e23
  have d23 : DF_ (o + 19) σ23 := by rw [e23]; exact df_up (by omega) (df_mono (by omega) d22)
  refine B _ _ _ _ rfl ?_
  show WP_ X G Q _ _ _ _ _ 177 _ _
  refine so_newl (n := o + 19) (sh := 51) (c := 0) (N := 60) E hA0 (eX11_init (177, .newarray .long, 2) (List.mem_of_getElem? (i := 95) rfl)) rfl rfl (by decide +kernel) hs19 (fun _ => ⟨rfl, rfl⟩) (fun _ _ _ => rfl) wy_long (by rw [hR]; decide) (by rw [hR]; decide) (df_mono (by omega) d23) rfl ?_
  intro q18
  refine so_putF (c := 11) (jn := 38) (ji := 38) (N := 39) (t := 71) (u := 51) E hin (eX11_init (179, .putfield 71, 3) (List.mem_of_getElem? (i := 96) rfl)) rfl rfl (by decide) rfl wf_X11_71 rfl rfl rfl (fun _ _ _ => rfl) ?_
  intro σ24 e24
  have d24 : DF_ (o + 20) σ24 := by rw [e24]; exact df_up (by omega) (df_mono (by omega) d23)
  exact R 182 _ _ _ (eX11_init (182, .return_, 1) (List.mem_of_getElem? (i := 97) rfl)) ⟨_, by first | rfl | (simp only [List.append_assoc]; rfl)⟩ (by subst e24 e23 e22 e21 e20 e19 e18 e17 e16 e15 e14 e13 e12 e11 e10 e9 e8 e7 e6 e5 e4 e3 e2 e1; rfl)
