set_option maxRecDepth 100000 in
theorem wo_X8 : Cond.methodLink RX8 3 objectInit ∈ gl_ := wg_ 110 (by decide +kernel) rfl
set_option maxRecDepth 100000 in
theorem wo_i : Cond.instanceMethod objectInit ∈ gl_ := wg_ 103 (by decide +kernel) rfl
set_option maxRecDepth 100000 in
theorem wo_c : Cond.code objectInit ⟨#[0xb1]⟩ 1 none ∈ gl_ := wg_ 104 (by decide +kernel) rfl
set_option maxRecDepth 100000 in
theorem wy_byte : Cond.arrayClass .byte ∈ gl_ := wg_ 121 (by decide +kernel) rfl
set_option maxRecDepth 100000 in
theorem wf_X8_9 : Cond.fieldLink RX8 9 (TX8 0).1 (TX8 0).2.1 (TX8 0).2.2.1 ∈ gl_ := wg_ 111 (by decide +kernel) rfl
set_option maxRecDepth 100000 in
theorem wo_X3 : Cond.methodLink RX3 3 objectInit ∈ gl_ := wg_ 127 (by decide +kernel) rfl
set_option maxRecDepth 100000 in
theorem wo_X1 : Cond.methodLink RX1 3 objectInit ∈ gl_ := wg_ 167 (by decide +kernel) rfl
set_option maxRecDepth 100000 in
theorem wy_int : Cond.arrayClass .int ∈ gl_ := wg_ 218 (by decide +kernel) rfl
set_option maxRecDepth 100000 in
theorem wf_X1_36 : Cond.fieldLink RX1 36 (TX1 8).1 (TX1 8).2.1 (TX1 8).2.2.1 ∈ gl_ := wg_ 195 (by decide +kernel) rfl
set_option maxRecDepth 100000 in
theorem wo_X9 : Cond.methodLink RX9 3 objectInit ∈ gl_ := wg_ 160 (by decide +kernel) rfl
set_option maxRecDepth 100000 in
theorem wk_X9_30 : Cond.classLink RX9 30 RX1 ∈ gl_ := wg_ 161 (by decide +kernel) rfl
set_option maxRecDepth 100000 in
theorem wf_X9_32 : Cond.fieldLink RX9 32 (TX9 6).1 (TX9 6).2.1 (TX9 6).2.2.1 ∈ gl_ := wg_ 239 (by decide +kernel) rfl
set_option maxRecDepth 100000 in
theorem wf_X9_36 : Cond.fieldLink RX9 36 (TX9 7).1 (TX9 7).2.1 (TX9 7).2.2.1 ∈ gl_ := wg_ 243 (by decide +kernel) rfl
set_option maxRecDepth 100000 in
theorem wf_X9_40 : Cond.fieldLink RX9 40 (TX9 8).1 (TX9 8).2.1 (TX9 8).2.2.1 ∈ gl_ := wg_ 246 (by decide +kernel) rfl
set_option maxRecDepth 100000 in
theorem wf_X9_43 : Cond.fieldLink RX9 43 (TX9 9).1 (TX9 9).2.1 (TX9 9).2.2.1 ∈ gl_ := wg_ 249 (by decide +kernel) rfl
set_option maxRecDepth 100000 in
theorem wx_X1 : Cond.instantiable RX1 9 ∈ gl_ := wg_ 163 (by decide +kernel) rfl
set_option maxRecDepth 100000 in
theorem wnl_X9_46 : Cond.methodLinkNest RX9 46 yX1_init RX10 ∈ lw_tbl := List.mem_of_getElem? (i := 164) (by decide +kernel)
set_option maxRecDepth 100000 in
theorem wo_X0 : Cond.methodLink RX0 3 objectInit ∈ gl_ := wg_ 279 (by decide +kernel) rfl
set_option maxRecDepth 100000 in
theorem wf_X0_9 : Cond.fieldLink RX0 9 (TX0 0).1 (TX0 0).2.1 (TX0 0).2.2.1 ∈ gl_ := wg_ 280 (by decide +kernel) rfl
set_option maxRecDepth 100000 in
theorem wf_X0_15 : Cond.fieldLink RX0 15 (TX0 1).1 (TX0 1).2.1 (TX0 1).2.2.1 ∈ gl_ := wg_ 281 (by decide +kernel) rfl
set_option maxRecDepth 100000 in
theorem wf_X0_19 : Cond.fieldLink RX0 19 (TX0 2).1 (TX0 2).2.1 (TX0 2).2.2.1 ∈ gl_ := wg_ 282 (by decide +kernel) rfl
set_option maxRecDepth 100000 in
theorem wo_X5 : Cond.methodLink RX5 3 objectInit ∈ gl_ := wg_ 320 (by decide +kernel) rfl
set_option maxRecDepth 100000 in
theorem wy_boolean : Cond.arrayClass .boolean ∈ gl_ := wg_ 314 (by decide +kernel) rfl
set_option maxRecDepth 100000 in
theorem wf_X5_9 : Cond.fieldLink RX5 9 (TX5 0).1 (TX5 0).2.1 (TX5 0).2.2.1 ∈ gl_ := wg_ 321 (by decide +kernel) rfl
set_option maxRecDepth 100000 in
theorem wo_X2 : Cond.methodLink RX2 3 objectInit ∈ gl_ := wg_ 338 (by decide +kernel) rfl
set_option maxRecDepth 100000 in
theorem wf_X2_11 : Cond.fieldLink RX2 11 (TX2 0).1 (TX2 0).2.1 (TX2 0).2.2.1 ∈ gl_ := wg_ 339 (by decide +kernel) rfl
set_option maxRecDepth 100000 in
theorem wf_X2_15 : Cond.fieldLink RX2 15 (TX2 1).1 (TX2 1).2.1 (TX2 1).2.2.1 ∈ gl_ := wg_ 340 (by decide +kernel) rfl
set_option maxRecDepth 100000 in
theorem wo_X6 : Cond.methodLink RX6 3 objectInit ∈ gl_ := wg_ 355 (by decide +kernel) rfl
set_option maxRecDepth 100000 in
theorem wf_X6_9 : Cond.fieldLink RX6 9 (TX6 0).1 (TX6 0).2.1 (TX6 0).2.2.1 ∈ gl_ := wg_ 356 (by decide +kernel) rfl
set_option maxRecDepth 100000 in
theorem wf_X6_19 : Cond.fieldLink RX6 19 (TX6 2).1 (TX6 2).2.1 (TX6 2).2.2.1 ∈ gl_ := wg_ 360 (by decide +kernel) rfl
set_option maxRecDepth 100000 in
theorem wo_X7 : Cond.methodLink RX7 3 objectInit ∈ gl_ := wg_ 381 (by decide +kernel) rfl
set_option maxRecDepth 100000 in
theorem wf_X7_9 : Cond.fieldLink RX7 9 (TX7 0).1 (TX7 0).2.1 (TX7 0).2.2.1 ∈ gl_ := wg_ 382 (by decide +kernel) rfl
set_option maxRecDepth 100000 in
theorem wf_X7_19 : Cond.fieldLink RX7 19 (TX7 2).1 (TX7 2).2.1 (TX7 2).2.2.1 ∈ gl_ := wg_ 384 (by decide +kernel) rfl
set_option maxRecDepth 100000 in
theorem wo_X4 : Cond.methodLink RX4 3 objectInit ∈ gl_ := wg_ 404 (by decide +kernel) rfl
set_option maxRecDepth 100000 in
theorem wy_long : Cond.arrayClass .long ∈ gl_ := wg_ 426 (by decide +kernel) rfl
set_option maxRecDepth 100000 in
theorem wf_X4_9 : Cond.fieldLink RX4 9 (TX4 0).1 (TX4 0).2.1 (TX4 0).2.2.1 ∈ gl_ := wg_ 405 (by decide +kernel) rfl
set_option maxRecDepth 100000 in
theorem wo_X10 : Cond.methodLink RX10 1 objectInit ∈ gl_ := wg_ 102 (by decide +kernel) rfl
set_option maxRecDepth 100000 in
theorem wk_X10_7 : Cond.classLink RX10 7 RX8 ∈ gl_ := wg_ 105 (by decide +kernel) rfl
set_option maxRecDepth 100000 in
theorem wx_X8 : Cond.instantiable RX8 2 ∈ gl_ := wg_ 106 (by decide +kernel) rfl
set_option maxRecDepth 100000 in
theorem wnl_X10_9 : Cond.methodLinkNest RX10 9 yX8_init RX10 ∈ lw_tbl := List.mem_of_getElem? (i := 107) (by decide +kernel)
set_option maxRecDepth 100000 in
theorem wf_X10_10 : Cond.fieldLink RX10 10 (TX10 0).1 (TX10 0).2.1 (TX10 0).2.2.1 ∈ gl_ := wg_ 427 (by decide +kernel) rfl
set_option maxRecDepth 100000 in
theorem wk_X10_16 : Cond.classLink RX10 16 RX3 ∈ gl_ := wg_ 122 (by decide +kernel) rfl
set_option maxRecDepth 100000 in
theorem wx_X3 : Cond.instantiable RX3 8 ∈ gl_ := wg_ 123 (by decide +kernel) rfl
set_option maxRecDepth 100000 in
theorem wnl_X10_18 : Cond.methodLinkNest RX10 18 yX3_init RX10 ∈ lw_tbl := List.mem_of_getElem? (i := 124) (by decide +kernel)
set_option maxRecDepth 100000 in
theorem wf_X10_19 : Cond.fieldLink RX10 19 (TX10 1).1 (TX10 1).2.1 (TX10 1).2.2.1 ∈ gl_ := wg_ 428 (by decide +kernel) rfl
set_option maxRecDepth 100000 in
theorem wk_X10_23 : Cond.classLink RX10 23 RX9 ∈ gl_ := wg_ 155 (by decide +kernel) rfl
set_option maxRecDepth 100000 in
theorem wx_X9 : Cond.instantiable RX9 10 ∈ gl_ := wg_ 156 (by decide +kernel) rfl
set_option maxRecDepth 100000 in
theorem wf_X10_33 : Cond.fieldLink RX10 33 (TX10 4).1 (TX10 4).2.1 (TX10 4).2.2.1 ∈ gl_ := wg_ 431 (by decide +kernel) rfl
set_option maxRecDepth 100000 in
theorem wf_X10_37 : Cond.fieldLink RX10 37 (TX10 5).1 (TX10 5).2.1 (TX10 5).2.2.1 ∈ gl_ := wg_ 432 (by decide +kernel) rfl
set_option maxRecDepth 100000 in
theorem wk_X10_41 : Cond.classLink RX10 41 RX4 ∈ gl_ := wg_ 272 (by decide +kernel) rfl
set_option maxRecDepth 100000 in
theorem wf_X10_43 : Cond.fieldLink RX10 43 (TX10 6).1 (TX10 6).2.1 (TX10 6).2.2.1 ∈ gl_ := wg_ 433 (by decide +kernel) rfl
set_option maxRecDepth 100000 in
theorem wk_X10_47 : Cond.classLink RX10 47 RX0 ∈ gl_ := wg_ 274 (by decide +kernel) rfl
set_option maxRecDepth 100000 in
theorem wx_X0 : Cond.instantiable RX0 9 ∈ gl_ := wg_ 275 (by decide +kernel) rfl
set_option maxRecDepth 100000 in
theorem wnl_X10_49 : Cond.methodLinkNest RX10 49 yX0_init RX10 ∈ lw_tbl := List.mem_of_getElem? (i := 276) (by decide +kernel)
set_option maxRecDepth 100000 in
theorem wf_X10_50 : Cond.fieldLink RX10 50 (TX10 7).1 (TX10 7).2.1 (TX10 7).2.2.1 ∈ gl_ := wg_ 434 (by decide +kernel) rfl
set_option maxRecDepth 100000 in
theorem wk_X10_54 : Cond.classLink RX10 54 RX5 ∈ gl_ := wg_ 315 (by decide +kernel) rfl
set_option maxRecDepth 100000 in
theorem wx_X5 : Cond.instantiable RX5 3 ∈ gl_ := wg_ 316 (by decide +kernel) rfl
set_option maxRecDepth 100000 in
theorem wnl_X10_56 : Cond.methodLinkNest RX10 56 yX5_init RX10 ∈ lw_tbl := List.mem_of_getElem? (i := 317) (by decide +kernel)
set_option maxRecDepth 100000 in
theorem wf_X10_57 : Cond.fieldLink RX10 57 (TX10 8).1 (TX10 8).2.1 (TX10 8).2.2.1 ∈ gl_ := wg_ 435 (by decide +kernel) rfl
set_option maxRecDepth 100000 in
theorem wk_X10_61 : Cond.classLink RX10 61 RX2 ∈ gl_ := wg_ 333 (by decide +kernel) rfl
set_option maxRecDepth 100000 in
theorem wx_X2 : Cond.instantiable RX2 3 ∈ gl_ := wg_ 334 (by decide +kernel) rfl
set_option maxRecDepth 100000 in
theorem wnl_X10_63 : Cond.methodLinkNest RX10 63 yX2_init RX10 ∈ lw_tbl := List.mem_of_getElem? (i := 335) (by decide +kernel)
set_option maxRecDepth 100000 in
theorem wf_X10_64 : Cond.fieldLink RX10 64 (TX10 9).1 (TX10 9).2.1 (TX10 9).2.2.1 ∈ gl_ := wg_ 436 (by decide +kernel) rfl
set_option maxRecDepth 100000 in
theorem wk_X10_68 : Cond.classLink RX10 68 RX6 ∈ gl_ := wg_ 350 (by decide +kernel) rfl
set_option maxRecDepth 100000 in
theorem wx_X6 : Cond.instantiable RX6 5 ∈ gl_ := wg_ 351 (by decide +kernel) rfl
set_option maxRecDepth 100000 in
theorem wnl_X10_70 : Cond.methodLinkNest RX10 70 yX6_init RX10 ∈ lw_tbl := List.mem_of_getElem? (i := 352) (by decide +kernel)
set_option maxRecDepth 100000 in
theorem wf_X10_71 : Cond.fieldLink RX10 71 (TX10 10).1 (TX10 10).2.1 (TX10 10).2.2.1 ∈ gl_ := wg_ 437 (by decide +kernel) rfl
set_option maxRecDepth 100000 in
theorem wk_X10_75 : Cond.classLink RX10 75 RX7 ∈ gl_ := wg_ 376 (by decide +kernel) rfl
set_option maxRecDepth 100000 in
theorem wx_X7 : Cond.instantiable RX7 5 ∈ gl_ := wg_ 377 (by decide +kernel) rfl
set_option maxRecDepth 100000 in
theorem wnl_X10_77 : Cond.methodLinkNest RX10 77 yX7_init RX10 ∈ lw_tbl := List.mem_of_getElem? (i := 378) (by decide +kernel)
set_option maxRecDepth 100000 in
theorem wf_X10_78 : Cond.fieldLink RX10 78 (TX10 11).1 (TX10 11).2.1 (TX10 11).2.2.1 ∈ gl_ := wg_ 438 (by decide +kernel) rfl
set_option maxRecDepth 100000 in
theorem wx_X4 : Cond.instantiable RX4 4 ∈ gl_ := wg_ 400 (by decide +kernel) rfl
set_option maxRecDepth 100000 in
theorem wnl_X10_89 : Cond.methodLinkNest RX10 89 yX4_init RX10 ∈ lw_tbl := List.mem_of_getElem? (i := 401) (by decide +kernel)
set_option maxRecDepth 100000 in
theorem wo_X11 : Cond.methodLink RX11 3 objectInit ∈ gl_ := wg_ 1230 (by decide +kernel) rfl
set_option maxRecDepth 100000 in
theorem wf_X11_9 : Cond.fieldLink RX11 9 (TX11 1).1 (TX11 1).2.1 (TX11 1).2.2.1 ∈ gl_ := wg_ 1231 (by decide +kernel) rfl
set_option maxRecDepth 100000 in
theorem wf_X11_13 : Cond.fieldLink RX11 13 (TX11 2).1 (TX11 2).2.1 (TX11 2).2.2.1 ∈ gl_ := wg_ 1232 (by decide +kernel) rfl
set_option maxRecDepth 100000 in
theorem wf_X11_16 : Cond.fieldLink RX11 16 (TX11 3).1 (TX11 3).2.1 (TX11 3).2.2.1 ∈ gl_ := wg_ 1233 (by decide +kernel) rfl
set_option maxRecDepth 100000 in
theorem wf_X11_20 : Cond.fieldLink RX11 20 (TX11 4).1 (TX11 4).2.1 (TX11 4).2.2.1 ∈ gl_ := wg_ 1234 (by decide +kernel) rfl
set_option maxRecDepth 100000 in
theorem wf_X11_24 : Cond.fieldLink RX11 24 (TX11 6).1 (TX11 6).2.1 (TX11 6).2.2.1 ∈ gl_ := wg_ 1236 (by decide +kernel) rfl
set_option maxRecDepth 100000 in
theorem wf_X11_31 : Cond.fieldLink RX11 31 (TX11 14).1 (TX11 14).2.1 (TX11 14).2.2.1 ∈ gl_ := wg_ 1244 (by decide +kernel) rfl
set_option maxRecDepth 100000 in
theorem wf_X11_34 : Cond.fieldLink RX11 34 (TX11 15).1 (TX11 15).2.1 (TX11 15).2.2.1 ∈ gl_ := wg_ 1245 (by decide +kernel) rfl
set_option maxRecDepth 100000 in
theorem wf_X11_37 : Cond.fieldLink RX11 37 (TX11 16).1 (TX11 16).2.1 (TX11 16).2.2.1 ∈ gl_ := wg_ 1246 (by decide +kernel) rfl
set_option maxRecDepth 100000 in
theorem wf_X11_40 : Cond.fieldLink RX11 40 (TX11 17).1 (TX11 17).2.1 (TX11 17).2.2.1 ∈ gl_ := wg_ 1247 (by decide +kernel) rfl
set_option maxRecDepth 100000 in
theorem wf_X11_43 : Cond.fieldLink RX11 43 (TX11 18).1 (TX11 18).2.1 (TX11 18).2.2.1 ∈ gl_ := wg_ 1248 (by decide +kernel) rfl
set_option maxRecDepth 100000 in
theorem wf_X11_46 : Cond.fieldLink RX11 46 (TX11 21).1 (TX11 21).2.1 (TX11 21).2.2.1 ∈ gl_ := wg_ 1251 (by decide +kernel) rfl
set_option maxRecDepth 100000 in
theorem wf_X11_49 : Cond.fieldLink RX11 49 (TX11 24).1 (TX11 24).2.1 (TX11 24).2.2.1 ∈ gl_ := wg_ 1254 (by decide +kernel) rfl
set_option maxRecDepth 100000 in
theorem wf_X11_52 : Cond.fieldLink RX11 52 (TX11 29).1 (TX11 29).2.1 (TX11 29).2.2.1 ∈ gl_ := wg_ 1259 (by decide +kernel) rfl
set_option maxRecDepth 100000 in
theorem wf_X11_55 : Cond.fieldLink RX11 55 (TX11 30).1 (TX11 30).2.1 (TX11 30).2.2.1 ∈ gl_ := wg_ 1260 (by decide +kernel) rfl
set_option maxRecDepth 100000 in
theorem wf_X11_58 : Cond.fieldLink RX11 58 (TX11 31).1 (TX11 31).2.1 (TX11 31).2.2.1 ∈ gl_ := wg_ 1261 (by decide +kernel) rfl
set_option maxRecDepth 100000 in
theorem wf_X11_61 : Cond.fieldLink RX11 61 (TX11 35).1 (TX11 35).2.1 (TX11 35).2.2.1 ∈ gl_ := wg_ 1265 (by decide +kernel) rfl
set_option maxRecDepth 100000 in
theorem wf_X11_64 : Cond.fieldLink RX11 64 (TX11 36).1 (TX11 36).2.1 (TX11 36).2.2.1 ∈ gl_ := wg_ 1266 (by decide +kernel) rfl
set_option maxRecDepth 100000 in
theorem wf_X11_67 : Cond.fieldLink RX11 67 (TX11 37).1 (TX11 37).2.1 (TX11 37).2.2.1 ∈ gl_ := wg_ 1267 (by decide +kernel) rfl
set_option maxRecDepth 100000 in
theorem wf_X11_71 : Cond.fieldLink RX11 71 (TX11 38).1 (TX11 38).2.1 (TX11 38).2.2.1 ∈ gl_ := wg_ 1268 (by decide +kernel) rfl
def T_X8 (o : Nat) (σ : Me_t) : Me_t := ups_ (ups_ (σ) ((o : Nat) : Int) 0 ((o + 1 : Nat) : Int)) ((o : Nat) : Int) 1 0
theorem T_X8_n {o : Nat} {σ : Me_t} {k j : Int} (h : k < (o : Int)) : T_X8 o σ k j = σ k j := ((ups_n (by omega)).trans ((ups_n (by omega)).trans rfl))
theorem df_X8 {o n : Nat} {σ : Me_t} (h : o + 2 ≤ n) (hD : DF_ o σ) : DF_ n (T_X8 o σ) := (df_up (by omega) (df_up (by omega) (df_mono (by omega) hD)))
set_option maxHeartbeats 4000000 in
set_option maxRecDepth 100000 in
theorem cn_X8 (l : Launch) (o : Nat) (hs0 : SHR_[o]? = some 68) (hs1 : SHR_[o + 1]? = some 2) : CN_ l yX8_init cX8_init 1 1 40 1 1200 o (o + 2) (T_X8 o) := by
  refine cn_of (by decide) (by decide) (by decide) hs0 ?_
  intro X G Q ad σ hl hR E hA0 hAO hin hD R
  have B := fun (cl sl : Nat) (ad shs : List Nat) => @bk_ X G Q cl sl ad shs RX8 cX8_init 1 none flX8 plX8 knX8 [] 9 (fun _ _ => False) none kX8_init [1, 8, 10, 18] flX8_ok plX8_ok knX8_ok eX8_init oX8_init (fun _ h => absurd h List.not_mem_nil) (fun _ _ _ _ _ h => h.elim) sok_no E
  show WP_ X G Q 0 0 ad (SHR_.take (o + 1)) σ 0 [(78, (o : Int))] []
  refine B _ _ _ _ rfl ?_
  show WP_ X G Q _ _ _ _ _ 1 _ _
  refine so_obj E (eX8_init _ (List.mem_of_getElem? (i := 1) rfl)) wo_X8 wo_i wo_c rfl (by rw [hR]; decide) (by rw [hR]; decide) ?_
  refine B _ _ _ _ rfl ?_
  show WP_ X G Q _ _ _ _ _ 8 _ _
  refine so_newi (n := o + 1) (sh := 2) (a := 2) (c := 0) (N := 1200) (i := 1) (ty := .byte) E hA0 (eX8_init _ (List.mem_of_getElem? (i := 4) rfl)) rfl rfl (fun _ => rfl) (Or.inr (Or.inl rfl)) rfl rfl (by decide) hs1 (fun _ => ⟨rfl, rfl⟩) (fun _ _ _ => rfl) wy_byte (by rw [hR]; decide) (by rw [hR]; decide) (df_mono (by omega) hD) rfl ?_
  intro q0
  refine so_putF (c := 8) (jn := 0) (ji := 0) (N := 2) (t := 68) (u := 2) E hin (eX8_init _ (List.mem_of_getElem? (i := 5) rfl)) rfl rfl (by decide) rfl wf_X8_9 rfl rfl rfl (fun _ _ _ => rfl) ?_
  refine B _ _ _ _ rfl ?_
  rintro _ rfl
  show WP_ X G Q _ _ _ _ _ 18 _ _
  exact R 18 _ _ _ (eX8_init _ (List.mem_of_getElem? (i := 9) rfl)) ⟨_, by first | rfl | (simp only [List.append_assoc]; rfl)⟩ rfl
def T_X3 (o : Nat) (σ : Me_t) : Me_t := ups_ (ups_ (ups_ (ups_ (ups_ (ups_ (ups_ (ups_ (σ) ((o : Nat) : Int) 0 ((o + 1 : Nat) : Int)) ((o : Nat) : Int) 1 0) ((o : Nat) : Int) 2 0) ((o : Nat) : Int) 3 0) ((o : Nat) : Int) 4 0) ((o : Nat) : Int) 5 0) ((o : Nat) : Int) 6 0) ((o : Nat) : Int) 7 (-1)
theorem T_X3_n {o : Nat} {σ : Me_t} {k j : Int} (h : k < (o : Int)) : T_X3 o σ k j = σ k j := ((ups_n (by omega)).trans ((ups_n (by omega)).trans ((ups_n (by omega)).trans ((ups_n (by omega)).trans ((ups_n (by omega)).trans ((ups_n (by omega)).trans ((ups_n (by omega)).trans ((ups_n (by omega)).trans rfl))))))))
theorem df_X3 {o n : Nat} {σ : Me_t} (h : o + 2 ≤ n) (hD : DF_ o σ) : DF_ n (T_X3 o σ) := (df_up (by omega) (df_up (by omega) (df_up (by omega) (df_up (by omega) (df_up (by omega) (df_up (by omega) (df_up (by omega) (df_up (by omega) (df_mono (by omega) hD)))))))))
set_option maxHeartbeats 4000000 in
set_option maxRecDepth 100000 in
theorem cn_X3 (l : Launch) (o : Nat) (hs0 : SHR_[o]? = some 63) (hs1 : SHR_[o + 1]? = some 4) : CN_ l yX3_init cX3_init 1 1 40 1 0 o (o + 2) (T_X3 o) := by
  refine cn_of (by decide) (by decide) (by decide) hs0 ?_
  intro X G Q ad σ hl hR E hA0 hAO hin hD R
  have B := fun (cl sl : Nat) (ad shs : List Nat) => @bk_ X G Q cl sl ad shs RX3 cX3_init 1 none flX3 plX3 knX3 [] 9 (fun _ _ => False) none kX3_init [1, 6, 46] flX3_ok plX3_ok knX3_ok eX3_init oX3_init (fun _ h => absurd h List.not_mem_nil) (fun _ _ _ _ _ h => h.elim) sok_no E
  show WP_ X G Q 0 0 ad (SHR_.take (o + 1)) σ 0 [(73, (o : Int))] []
  refine B _ _ _ _ rfl ?_
  show WP_ X G Q _ _ _ _ _ 1 _ _
  refine so_obj E (eX3_init _ (List.mem_of_getElem? (i := 1) rfl)) wo_X3 wo_i wo_c rfl (by rw [hR]; decide) (by rw [hR]; decide) ?_
  refine B _ _ _ _ rfl ?_
  show WP_ X G Q _ _ _ _ _ 6 _ _
  refine so_newi (n := o + 1) (sh := 4) (a := 2) (c := 0) (N := 0) (i := 1) (ty := .byte) E hA0 (eX3_init _ (List.mem_of_getElem? (i := 4) rfl)) rfl rfl (fun _ => rfl) (Or.inr (Or.inl rfl)) rfl rfl (by decide) hs1 (fun _ => ⟨rfl, rfl⟩) (fun _ _ _ => rfl) wy_byte (by rw [hR]; decide) (by rw [hR]; decide) (df_mono (by omega) hD) rfl ?_
  intro q0
  refine B _ _ _ _ rfl ?_
  rintro _ rfl
  rintro _ rfl
  rintro _ rfl
  rintro _ rfl
  rintro _ rfl
  rintro _ rfl
  rintro _ rfl
  rintro _ rfl
  show WP_ X G Q _ _ _ _ _ 46 _ _
  exact R 46 _ _ _ (eX3_init _ (List.mem_of_getElem? (i := 27) rfl)) ⟨_, by first | rfl | (simp only [List.append_assoc]; rfl)⟩ rfl
def T_X1 (o : Nat) (σ : Me_t) : Me_t := ups_ (ups_ (ups_ (ups_ (ups_ (ups_ (ups_ (ups_ (ups_ (σ) ((o : Nat) : Int) 0 0) ((o : Nat) : Int) 1 2) ((o : Nat) : Int) 2 0) ((o : Nat) : Int) 3 0) ((o : Nat) : Int) 4 0) ((o : Nat) : Int) 5 (-1)) ((o : Nat) : Int) 6 0) ((o : Nat) : Int) 7 0) ((o : Nat) : Int) 8 ((o + 1 : Nat) : Int)
theorem T_X1_n {o : Nat} {σ : Me_t} {k j : Int} (h : k < (o : Int)) : T_X1 o σ k j = σ k j := ((ups_n (by omega)).trans ((ups_n (by omega)).trans ((ups_n (by omega)).trans ((ups_n (by omega)).trans ((ups_n (by omega)).trans ((ups_n (by omega)).trans ((ups_n (by omega)).trans ((ups_n (by omega)).trans ((ups_n (by omega)).trans rfl)))))))))
theorem df_X1 {o n : Nat} {σ : Me_t} (h : o + 2 ≤ n) (hD : DF_ o σ) : DF_ n (T_X1 o σ) := (df_up (by omega) (df_up (by omega) (df_up (by omega) (df_up (by omega) (df_up (by omega) (df_up (by omega) (df_up (by omega) (df_up (by omega) (df_up (by omega) (df_mono (by omega) hD))))))))))
set_option maxHeartbeats 4000000 in
set_option maxRecDepth 100000 in
theorem cn_X1 (l : Launch) (o : Nat) (hs0 : SHR_[o]? = some 61) (hs1 : SHR_[o + 1]? = some 11) : CN_ l yX1_init cX1_init 1 1 40 1 8 o (o + 2) (T_X1 o) := by
  refine cn_of (by decide) (by decide) (by decide) hs0 ?_
  intro X G Q ad σ hl hR E hA0 hAO hin hD R
  have B := fun (cl sl : Nat) (ad shs : List Nat) => @bk_ X G Q cl sl ad shs RX1 cX1_init 1 none flX1 plX1 knX1 [] 9 (fun _ _ => False) none kX1_init [1, 47, 49, 52] flX1_ok plX1_ok knX1_ok eX1_init oX1_init (fun _ h => absurd h List.not_mem_nil) (fun _ _ _ _ _ h => h.elim) sok_no E
  show WP_ X G Q 0 0 ad (SHR_.take (o + 1)) σ 0 [(71, (o : Int))] []
  refine B _ _ _ _ rfl ?_
  show WP_ X G Q _ _ _ _ _ 1 _ _
  refine so_obj E (eX1_init _ (List.mem_of_getElem? (i := 1) rfl)) wo_X1 wo_i wo_c rfl (by rw [hR]; decide) (by rw [hR]; decide) ?_
  refine B _ _ _ _ rfl ?_
  rintro _ rfl
  rintro _ rfl
  rintro _ rfl
  rintro _ rfl
  rintro _ rfl
  rintro _ rfl
  rintro _ rfl
  rintro _ rfl
  show WP_ X G Q _ _ _ _ _ 47 _ _
  refine so_newi (n := o + 1) (sh := 11) (a := 1) (c := 0) (N := 8) (i := 0) (ty := .int) E hA0 (eX1_init _ (List.mem_of_getElem? (i := 28) rfl)) rfl rfl (fun _ => rfl) (Or.inl rfl) rfl rfl (by decide) hs1 (fun _ => ⟨rfl, rfl⟩) (fun _ _ _ => rfl) wy_int (by rw [hR]; decide) (by rw [hR]; decide) (df_up (by omega) (df_up (by omega) (df_up (by omega) (df_up (by omega) (df_up (by omega) (df_up (by omega) (df_up (by omega) (df_up (by omega) (df_mono (by omega) hD))))))))) rfl ?_
  intro q0
  refine so_putF (c := 1) (jn := 8) (ji := 8) (N := 9) (t := 61) (u := 11) E hin (eX1_init _ (List.mem_of_getElem? (i := 29) rfl)) rfl rfl (by decide) rfl wf_X1_36 rfl rfl rfl (fun _ _ _ => rfl) ?_
  exact R 52 _ _ _ (eX1_init _ (List.mem_of_getElem? (i := 30) rfl)) ⟨_, by first | rfl | (simp only [List.append_assoc]; rfl)⟩ rfl
def T_X9 (o : Nat) (σ : Me_t) : Me_t := ups_ (T_X1 (o + 9) (ups_ (T_X1 (o + 7) (ups_ (T_X1 (o + 5) (ups_ (ups_ (ups_ (ups_ (ups_ (ups_ (ups_ (ups_ (ups_ (ups_ (σ) ((o : Nat) : Int) 0 0) ((o : Nat) : Int) 1 0) ((o : Nat) : Int) 2 0) ((o : Nat) : Int) 3 0) ((o : Nat) : Int) 4 0) ((o : Nat) : Int) 5 0) ((o : Nat) : Int) 6 ((o + 1 : Nat) : Int)) ((o : Nat) : Int) 7 ((o + 2 : Nat) : Int)) ((o : Nat) : Int) 8 ((o + 3 : Nat) : Int)) ((o : Nat) : Int) 9 ((o + 4 : Nat) : Int))) ((o + 1 : Nat) : Int) 0 ((o + 5 : Nat) : Int))) ((o + 1 : Nat) : Int) (0 + 1) ((o + 7 : Nat) : Int))) ((o + 1 : Nat) : Int) ((0 + 1) + 1) ((o + 9 : Nat) : Int)
theorem T_X9_n {o : Nat} {σ : Me_t} {k j : Int} (h : k < (o : Int)) : T_X9 o σ k j = σ k j := ((ups_n (by omega)).trans ((T_X1_n (by omega)).trans ((ups_n (by omega)).trans ((T_X1_n (by omega)).trans ((ups_n (by omega)).trans ((T_X1_n (by omega)).trans ((ups_n (by omega)).trans ((ups_n (by omega)).trans ((ups_n (by omega)).trans ((ups_n (by omega)).trans ((ups_n (by omega)).trans ((ups_n (by omega)).trans ((ups_n (by omega)).trans ((ups_n (by omega)).trans ((ups_n (by omega)).trans ((ups_n (by omega)).trans rfl))))))))))))))))
theorem df_X9 {o n : Nat} {σ : Me_t} (h : o + 11 ≤ n) (hD : DF_ o σ) : DF_ n (T_X9 o σ) := (df_up (by omega) (df_X1 (by omega) (df_up (by omega) (df_X1 (by omega) (df_up (by omega) (df_X1 (by omega) (df_up (by omega) (df_up (by omega) (df_up (by omega) (df_up (by omega) (df_up (by omega) (df_up (by omega) (df_up (by omega) (df_up (by omega) (df_up (by omega) (df_up (by omega) (df_mono (by omega) hD)))))))))))))))))
set_option maxHeartbeats 4000000 in
set_option maxRecDepth 100000 in
theorem cn_X9 (l : Launch) (o : Nat) (hs0 : SHR_[o]? = some 69) (hs1 : SHR_[o + 1]? = some 80) (hs2 : SHR_[o + 2]? = some 7) (hs3 : SHR_[o + 3]? = some 8) (hs4 : SHR_[o + 4]? = some 9) (hs5 : SHR_[o + 5]? = some 61) (hs6 : SHR_[o + 6]? = some 11) (hs7 : SHR_[o + 7]? = some 61) (hs8 : SHR_[o + 8]? = some 11) (hs9 : SHR_[o + 9]? = some 61) (hs10 : SHR_[o + 10]? = some 11) : CN_ l yX9_init cX9_init 2 2 60 10 498 o (o + 11) (T_X9 o) := by
  refine cn_of (by decide) (by decide) (by decide) hs0 ?_
  intro X G Q ad σ hl hR E hA0 hAO hin hD R
  have B := fun (cl sl : Nat) (ad shs : List Nat) => @bk_ X G Q cl sl ad shs RX9 cX9_init 2 none flX9 plX9 knX9 [] 9 (fun _ _ => False) none kX9_init [1, 36, 39, 45, 47, 53, 55, 62, 64, 79, 83, 86, 93] flX9_ok plX9_ok knX9_ok eX9_init oX9_init (fun _ h => absurd h List.not_mem_nil) (fun _ _ _ _ _ h => h.elim) sok_no E
  show WP_ X G Q 0 0 ad (SHR_.take (o + 1)) σ 0 [(79, (o : Int)), (9, 0)] []
  refine B _ _ _ _ rfl ?_
  show WP_ X G Q _ _ _ _ _ 1 _ _
  refine so_obj E (eX9_init _ (List.mem_of_getElem? (i := 1) rfl)) wo_X9 wo_i wo_c rfl (by rw [hR]; decide) (by rw [hR]; decide) ?_
  refine B _ _ _ _ rfl ?_
  rintro _ rfl
  rintro _ rfl
  rintro _ rfl
  rintro _ rfl
  rintro _ rfl
  rintro _ rfl
  show WP_ X G Q _ _ _ _ _ 36 _ _
  refine so_newq (n := o + 1) (sh := 80) (c := 1) (N := 3) (i := 4) E hA0 (eX9_init _ (List.mem_of_getElem? (i := 22) rfl)) (fun _ => rfl) rfl rfl hs1 (fun _ => ⟨rfl, rfl⟩) (fun _ _ _ => rfl) wk_X9_30 hAO.1 (by rw [hR]; decide) (by rw [hR]; decide) (df_up (by omega) (df_up (by omega) (df_up (by omega) (df_up (by omega) (df_up (by omega) (df_up (by omega) (df_mono (by omega) hD))))))) rfl ?_
  intro q0
  refine so_putF (c := 9) (jn := 6) (ji := 6) (N := 10) (t := 69) (u := 80) E hin (eX9_init _ (List.mem_of_getElem? (i := 23) rfl)) rfl rfl (by decide) rfl wf_X9_32 rfl rfl rfl (fun _ _ _ => rfl) ?_
  refine B _ _ _ _ rfl ?_
  show WP_ X G Q _ _ _ _ _ 45 _ _
  refine so_newi (n := o + 2) (sh := 7) (a := 1) (c := 0) (N := 48) (i := 0) (ty := .int) E hA0 (eX9_init _ (List.mem_of_getElem? (i := 26) rfl)) rfl rfl (fun _ => rfl) (Or.inl rfl) rfl rfl (by decide) hs2 (fun _ => ⟨rfl, rfl⟩) (fun _ _ _ => rfl) wy_int (by rw [hR]; decide) (by rw [hR]; decide) (df_up (by omega) (df_up (by omega) (df_up (by omega) (df_up (by omega) (df_up (by omega) (df_up (by omega) (df_up (by omega) (df_mono (by omega) hD)))))))) rfl ?_
  intro q1
  refine so_putF (c := 9) (jn := 7) (ji := 7) (N := 10) (t := 69) (u := 7) E hin (eX9_init _ (List.mem_of_getElem? (i := 27) rfl)) rfl rfl (by decide) rfl wf_X9_36 rfl rfl rfl (fun _ _ _ => rfl) ?_
  refine B _ _ _ _ rfl ?_
  show WP_ X G Q _ _ _ _ _ 53 _ _
  refine so_newi (n := o + 3) (sh := 8) (a := 1) (c := 0) (N := 36) (i := 0) (ty := .int) E hA0 (eX9_init _ (List.mem_of_getElem? (i := 30) rfl)) rfl rfl (fun _ => rfl) (Or.inl rfl) rfl rfl (by decide) hs3 (fun _ => ⟨rfl, rfl⟩) (fun _ _ _ => rfl) wy_int (by rw [hR]; decide) (by rw [hR]; decide) (df_up (by omega) (df_up (by omega) (df_up (by omega) (df_up (by omega) (df_up (by omega) (df_up (by omega) (df_up (by omega) (df_up (by omega) (df_mono (by omega) hD))))))))) rfl ?_
  intro q2
  refine so_putF (c := 9) (jn := 8) (ji := 8) (N := 10) (t := 69) (u := 8) E hin (eX9_init _ (List.mem_of_getElem? (i := 31) rfl)) rfl rfl (by decide) rfl wf_X9_40 rfl rfl rfl (fun _ _ _ => rfl) ?_
  refine B _ _ _ _ rfl ?_
  show WP_ X G Q _ _ _ _ _ 62 _ _
  refine so_newi (n := o + 4) (sh := 9) (a := 1) (c := 0) (N := 360) (i := 0) (ty := .int) E hA0 (eX9_init _ (List.mem_of_getElem? (i := 34) rfl)) rfl rfl (fun _ => rfl) (Or.inl rfl) rfl rfl (by decide) hs4 (fun _ => ⟨rfl, rfl⟩) (fun _ _ _ => rfl) wy_int (by rw [hR]; decide) (by rw [hR]; decide) (df_up (by omega) (df_up (by omega) (df_up (by omega) (df_up (by omega) (df_up (by omega) (df_up (by omega) (df_up (by omega) (df_up (by omega) (df_up (by omega) (df_mono (by omega) hD)))))))))) rfl ?_
  intro q3
  refine so_putF (c := 9) (jn := 9) (ji := 9) (N := 10) (t := 69) (u := 9) E hin (eX9_init _ (List.mem_of_getElem? (i := 35) rfl)) rfl rfl (by decide) rfl wf_X9_43 rfl rfl rfl (fun _ _ _ => rfl) ?_
  refine B _ _ _ _ rfl ?_
  refine And.intro (fun h1 => (by exfalso; omega)) (fun h1 => ?_)
  show WP_ X G Q _ _ _ _ _ 79 _ _
  refine so_new (n := o + 5) (sh := 61) (c := 1) (N := 9) E hA0 (eX9_init _ (List.mem_of_getElem? (i := 44) rfl)) rfl rfl hs5 (by decide) (fun _ _ _ => rfl) wk_X9_30 wx_X1 wn_X1 (by rw [hR]; decide) (by rw [hR]; decide) (df_up (by omega) (df_up (by omega) (df_up (by omega) (df_up (by omega) (df_up (by omega) (df_up (by omega) (df_up (by omega) (df_up (by omega) (df_up (by omega) (df_up (by omega) (df_mono (by omega) hD))))))))))) rfl ?_
  intro q4
  refine B _ _ _ _ rfl ?_
  show WP_ X G Q _ _ _ _ _ 83 _ _
  refine so_ctorN (host := RX10) (o := o + 5) (m := o + 7) (t := 61) E hA0 hAO (cn_X1 X.2.1 (o + 5) hs5 hs6) (by omega) (by rw [hR]; decide) (by rw [hR]; decide) (by rw [hR]; decide) (eX9_init _ (List.mem_of_getElem? (i := 46) rfl)) rfl (by decide) ⟨by decide, by decide, by decide, by decide⟩ wnl_X9_46 wi_X1_init wn_X1 wc_X1_init (df_up (by omega) (df_up (by omega) (df_up (by omega) (df_up (by omega) (df_up (by omega) (df_up (by omega) (df_up (by omega) (df_up (by omega) (df_up (by omega) (df_up (by omega) (df_mono (by omega) hD))))))))))) rfl ?_
  intro q5
  refine so_ast (u := 61) (t := 80) (c := 1) (N := 3) (i := 4) (a := o + 1) E (eX9_init _ (List.mem_of_getElem? (i := 47) rfl)) ((ups_n (by omega)).trans ((ups_n (by omega)).trans ((ups_n (by omega)).trans ups_s))) (tg_ hs1 (by omega)) rfl (by omega) (fun _ => rfl) (fun _ _ _ => rfl) rfl rfl (fun _ => rfl) ?_
  refine B _ _ _ _ rfl ?_
  refine And.intro (by omega) ?_
  refine B _ _ _ _ rfl ?_
  refine And.intro (fun h2 => (by exfalso; omega)) (fun h2 => ?_)
  show WP_ X G Q _ _ _ _ _ 79 _ _
  refine so_new (n := o + 7) (sh := 61) (c := 1) (N := 9) E hA0 (eX9_init _ (List.mem_of_getElem? (i := 44) rfl)) rfl rfl hs7 (by decide) (fun _ _ _ => rfl) wk_X9_30 wx_X1 wn_X1 (by rw [hR]; decide) (by rw [hR]; decide) (df_up (by omega) (df_X1 (by omega) (df_up (by omega) (df_up (by omega) (df_up (by omega) (df_up (by omega) (df_up (by omega) (df_up (by omega) (df_up (by omega) (df_up (by omega) (df_up (by omega) (df_up (by omega) (df_mono (by omega) hD))))))))))))) rfl ?_
  intro q6
  refine B _ _ _ _ rfl ?_
  show WP_ X G Q _ _ _ _ _ 83 _ _
  refine so_ctorN (host := RX10) (o := o + 7) (m := o + 9) (t := 61) E hA0 hAO (cn_X1 X.2.1 (o + 7) hs7 hs8) (by omega) (by rw [hR]; decide) (by rw [hR]; decide) (by rw [hR]; decide) (eX9_init _ (List.mem_of_getElem? (i := 46) rfl)) rfl (by decide) ⟨by decide, by decide, by decide, by decide⟩ wnl_X9_46 wi_X1_init wn_X1 wc_X1_init (df_up (by omega) (df_X1 (by omega) (df_up (by omega) (df_up (by omega) (df_up (by omega) (df_up (by omega) (df_up (by omega) (df_up (by omega) (df_up (by omega) (df_up (by omega) (df_up (by omega) (df_up (by omega) (df_mono (by omega) hD))))))))))))) rfl ?_
  intro q7
  refine so_ast (u := 61) (t := 80) (c := 1) (N := 3) (i := 4) (a := o + 1) E (eX9_init _ (List.mem_of_getElem? (i := 47) rfl)) ((ups_n (by omega)).trans ((T_X1_n (by omega)).trans ((ups_n (by omega)).trans ((ups_n (by omega)).trans ((ups_n (by omega)).trans ups_s))))) (tg_ hs1 (by omega)) rfl (by omega) (fun _ => rfl) (fun _ _ _ => rfl) rfl rfl (fun _ => rfl) ?_
  refine B _ _ _ _ rfl ?_
  refine And.intro (by omega) ?_
  refine B _ _ _ _ rfl ?_
  refine And.intro (fun h3 => (by exfalso; omega)) (fun h3 => ?_)
  show WP_ X G Q _ _ _ _ _ 79 _ _
  refine so_new (n := o + 9) (sh := 61) (c := 1) (N := 9) E hA0 (eX9_init _ (List.mem_of_getElem? (i := 44) rfl)) rfl rfl hs9 (by decide) (fun _ _ _ => rfl) wk_X9_30 wx_X1 wn_X1 (by rw [hR]; decide) (by rw [hR]; decide) (df_up (by omega) (df_X1 (by omega) (df_up (by omega) (df_X1 (by omega) (df_up (by omega) (df_up (by omega) (df_up (by omega) (df_up (by omega) (df_up (by omega) (df_up (by omega) (df_up (by omega) (df_up (by omega) (df_up (by omega) (df_up (by omega) (df_mono (by omega) hD))))))))))))))) rfl ?_
  intro q8
  refine B _ _ _ _ rfl ?_
  show WP_ X G Q _ _ _ _ _ 83 _ _
  refine so_ctorN (host := RX10) (o := o + 9) (m := o + 11) (t := 61) E hA0 hAO (cn_X1 X.2.1 (o + 9) hs9 hs10) (by omega) (by rw [hR]; decide) (by rw [hR]; decide) (by rw [hR]; decide) (eX9_init _ (List.mem_of_getElem? (i := 46) rfl)) rfl (by decide) ⟨by decide, by decide, by decide, by decide⟩ wnl_X9_46 wi_X1_init wn_X1 wc_X1_init (df_up (by omega) (df_X1 (by omega) (df_up (by omega) (df_X1 (by omega) (df_up (by omega) (df_up (by omega) (df_up (by omega) (df_up (by omega) (df_up (by omega) (df_up (by omega) (df_up (by omega) (df_up (by omega) (df_up (by omega) (df_up (by omega) (df_mono (by omega) hD))))))))))))))) rfl ?_
  intro q9
  refine so_ast (u := 61) (t := 80) (c := 1) (N := 3) (i := 4) (a := o + 1) E (eX9_init _ (List.mem_of_getElem? (i := 47) rfl)) ((ups_n (by omega)).trans ((T_X1_n (by omega)).trans ((ups_n (by omega)).trans ((T_X1_n (by omega)).trans ((ups_n (by omega)).trans ((ups_n (by omega)).trans ((ups_n (by omega)).trans ups_s))))))) (tg_ hs1 (by omega)) rfl (by omega) (fun _ => rfl) (fun _ _ _ => rfl) rfl rfl (fun _ => rfl) ?_
  refine B _ _ _ _ rfl ?_
  refine And.intro (by omega) ?_
  refine B _ _ _ _ rfl ?_
  refine And.intro (fun h4 => ?_) (fun h4 => (by exfalso; omega))
  exact R 93 _ _ _ (eX9_init _ (List.mem_of_getElem? (i := 50) rfl)) ⟨_, by first | rfl | (simp only [List.append_assoc]; rfl)⟩ rfl
def T_X0 (o : Nat) (σ : Me_t) : Me_t := ups_ (ups_ (ups_ (ups_ (ups_ (ups_ (ups_ (ups_ (ups_ (σ) ((o : Nat) : Int) 0 ((o + 1 : Nat) : Int)) ((o : Nat) : Int) 1 ((o + 2 : Nat) : Int)) ((o : Nat) : Int) 2 ((o + 3 : Nat) : Int)) ((o : Nat) : Int) 3 1) ((o : Nat) : Int) 4 0) ((o : Nat) : Int) 5 0) ((o : Nat) : Int) 6 (-1)) ((o : Nat) : Int) 7 0) ((o : Nat) : Int) 8 0
theorem T_X0_n {o : Nat} {σ : Me_t} {k j : Int} (h : k < (o : Int)) : T_X0 o σ k j = σ k j := ((ups_n (by omega)).trans ((ups_n (by omega)).trans ((ups_n (by omega)).trans ((ups_n (by omega)).trans ((ups_n (by omega)).trans ((ups_n (by omega)).trans ((ups_n (by omega)).trans ((ups_n (by omega)).trans ((ups_n (by omega)).trans rfl)))))))))
theorem df_X0 {o n : Nat} {σ : Me_t} (h : o + 4 ≤ n) (hD : DF_ o σ) : DF_ n (T_X0 o σ) := (df_up (by omega) (df_up (by omega) (df_up (by omega) (df_up (by omega) (df_up (by omega) (df_up (by omega) (df_up (by omega) (df_up (by omega) (df_up (by omega) (df_mono (by omega) hD))))))))))
set_option maxHeartbeats 4000000 in
set_option maxRecDepth 100000 in
theorem cn_X0 (l : Launch) (o : Nat) (hs0 : SHR_[o]? = some 60) (hs1 : SHR_[o + 1]? = some 16) (hs2 : SHR_[o + 2]? = some 17) (hs3 : SHR_[o + 3]? = some 18) : CN_ l yX0_init cX0_init 1 1 40 3 14000 o (o + 4) (T_X0 o) := by
  refine cn_of (by decide) (by decide) (by decide) hs0 ?_
  intro X G Q ad σ hl hR E hA0 hAO hin hD R
  have B := fun (cl sl : Nat) (ad shs : List Nat) => @bk_ X G Q cl sl ad shs RX0 cX0_init 1 none flX0 plX0 knX0 [] 9 (fun _ _ => False) none kX0_init [1, 8, 10, 17, 19, 26, 28, 61] flX0_ok plX0_ok knX0_ok eX0_init oX0_init (fun _ h => absurd h List.not_mem_nil) (fun _ _ _ _ _ h => h.elim) sok_no E
  show WP_ X G Q 0 0 ad (SHR_.take (o + 1)) σ 0 [(70, (o : Int))] []
  refine B _ _ _ _ rfl ?_
  show WP_ X G Q _ _ _ _ _ 1 _ _
  refine so_obj E (eX0_init _ (List.mem_of_getElem? (i := 1) rfl)) wo_X0 wo_i wo_c rfl (by rw [hR]; decide) (by rw [hR]; decide) ?_
  refine B _ _ _ _ rfl ?_
  show WP_ X G Q _ _ _ _ _ 8 _ _
  refine so_newi (n := o + 1) (sh := 16) (a := 1) (c := 0) (N := 6000) (i := 0) (ty := .int) E hA0 (eX0_init _ (List.mem_of_getElem? (i := 4) rfl)) rfl rfl (fun _ => rfl) (Or.inl rfl) rfl rfl (by decide) hs1 (fun _ => ⟨rfl, rfl⟩) (fun _ _ _ => rfl) wy_int (by rw [hR]; decide) (by rw [hR]; decide) (df_mono (by omega) hD) rfl ?_
  intro q0
  refine so_putF (c := 0) (jn := 0) (ji := 0) (N := 9) (t := 60) (u := 16) E hin (eX0_init _ (List.mem_of_getElem? (i := 5) rfl)) rfl rfl (by decide) rfl wf_X0_9 rfl rfl rfl (fun _ _ _ => rfl) ?_
  refine B _ _ _ _ rfl ?_
  show WP_ X G Q _ _ _ _ _ 17 _ _
  refine so_newi (n := o + 2) (sh := 17) (a := 2) (c := 0) (N := 6000) (i := 1) (ty := .byte) E hA0 (eX0_init _ (List.mem_of_getElem? (i := 8) rfl)) rfl rfl (fun _ => rfl) (Or.inr (Or.inl rfl)) rfl rfl (by decide) hs2 (fun _ => ⟨rfl, rfl⟩) (fun _ _ _ => rfl) wy_byte (by rw [hR]; decide) (by rw [hR]; decide) (df_up (by omega) (df_mono (by omega) hD)) rfl ?_
  intro q1
  refine so_putF (c := 0) (jn := 1) (ji := 1) (N := 9) (t := 60) (u := 17) E hin (eX0_init _ (List.mem_of_getElem? (i := 9) rfl)) rfl rfl (by decide) rfl wf_X0_15 rfl rfl rfl (fun _ _ _ => rfl) ?_
  refine B _ _ _ _ rfl ?_
  show WP_ X G Q _ _ _ _ _ 26 _ _
  refine so_newi (n := o + 3) (sh := 18) (a := 2) (c := 0) (N := 2000) (i := 1) (ty := .byte) E hA0 (eX0_init _ (List.mem_of_getElem? (i := 12) rfl)) rfl rfl (fun _ => rfl) (Or.inr (Or.inl rfl)) rfl rfl (by decide) hs3 (fun _ => ⟨rfl, rfl⟩) (fun _ _ _ => rfl) wy_byte (by rw [hR]; decide) (by rw [hR]; decide) (df_up (by omega) (df_up (by omega) (df_mono (by omega) hD))) rfl ?_
  intro q2
  refine so_putF (c := 0) (jn := 2) (ji := 2) (N := 9) (t := 60) (u := 18) E hin (eX0_init _ (List.mem_of_getElem? (i := 13) rfl)) rfl rfl (by decide) rfl wf_X0_19 rfl rfl rfl (fun _ _ _ => rfl) ?_
  refine B _ _ _ _ rfl ?_
  refine And.intro (by omega) ?_
  rintro _ rfl
  rintro _ rfl
  rintro _ rfl
  rintro _ rfl
  rintro _ rfl
  rintro _ rfl
  show WP_ X G Q _ _ _ _ _ 61 _ _
  exact R 61 _ _ _ (eX0_init _ (List.mem_of_getElem? (i := 32) rfl)) ⟨_, by first | rfl | (simp only [List.append_assoc]; rfl)⟩ rfl
def T_X5 (o : Nat) (σ : Me_t) : Me_t := ups_ (ups_ (ups_ (σ) ((o : Nat) : Int) 0 ((o + 1 : Nat) : Int)) ((o : Nat) : Int) 1 0) ((o : Nat) : Int) 2 0
theorem T_X5_n {o : Nat} {σ : Me_t} {k j : Int} (h : k < (o : Int)) : T_X5 o σ k j = σ k j := ((ups_n (by omega)).trans ((ups_n (by omega)).trans ((ups_n (by omega)).trans rfl)))
theorem df_X5 {o n : Nat} {σ : Me_t} (h : o + 2 ≤ n) (hD : DF_ o σ) : DF_ n (T_X5 o σ) := (df_up (by omega) (df_up (by omega) (df_up (by omega) (df_mono (by omega) hD))))
set_option maxHeartbeats 4000000 in
set_option maxRecDepth 100000 in
theorem cn_X5 (l : Launch) (o : Nat) (hs0 : SHR_[o]? = some 65) (hs1 : SHR_[o + 1]? = some 20) : CN_ l yX5_init cX5_init 1 1 40 1 69 o (o + 2) (T_X5 o) := by
  refine cn_of (by decide) (by decide) (by decide) hs0 ?_
  intro X G Q ad σ hl hR E hA0 hAO hin hD R
  have B := fun (cl sl : Nat) (ad shs : List Nat) => @bk_ X G Q cl sl ad shs RX5 cX5_init 1 none flX5 plX5 knX5 [] 9 (fun _ _ => False) none kX5_init [1, 7, 9, 22] flX5_ok plX5_ok knX5_ok eX5_init oX5_init (fun _ h => absurd h List.not_mem_nil) (fun _ _ _ _ _ h => h.elim) sok_no E
  show WP_ X G Q 0 0 ad (SHR_.take (o + 1)) σ 0 [(75, (o : Int))] []
  refine B _ _ _ _ rfl ?_
  show WP_ X G Q _ _ _ _ _ 1 _ _
  refine so_obj E (eX5_init _ (List.mem_of_getElem? (i := 1) rfl)) wo_X5 wo_i wo_c rfl (by rw [hR]; decide) (by rw [hR]; decide) ?_
  refine B _ _ _ _ rfl ?_
  show WP_ X G Q _ _ _ _ _ 7 _ _
  refine so_newi (n := o + 1) (sh := 20) (a := 3) (c := 0) (N := 69) (i := 2) (ty := .boolean) E hA0 (eX5_init _ (List.mem_of_getElem? (i := 4) rfl)) rfl rfl (fun _ => rfl) (Or.inr (Or.inr rfl)) rfl rfl (by decide) hs1 (fun _ => ⟨rfl, rfl⟩) (fun _ _ _ => rfl) wy_boolean (by rw [hR]; decide) (by rw [hR]; decide) (df_mono (by omega) hD) rfl ?_
  intro q0
  refine so_putF (c := 5) (jn := 0) (ji := 0) (N := 3) (t := 65) (u := 20) E hin (eX5_init _ (List.mem_of_getElem? (i := 5) rfl)) rfl rfl (by decide) rfl wf_X5_9 rfl rfl rfl (fun _ _ _ => rfl) ?_
  refine B _ _ _ _ rfl ?_
  rintro _ rfl
  rintro _ rfl
  show WP_ X G Q _ _ _ _ _ 22 _ _
  exact R 22 _ _ _ (eX5_init _ (List.mem_of_getElem? (i := 12) rfl)) ⟨_, by first | rfl | (simp only [List.append_assoc]; rfl)⟩ rfl
def T_X2 (o : Nat) (σ : Me_t) : Me_t := ups_ (ups_ (ups_ (σ) ((o : Nat) : Int) 0 ((o + 1 : Nat) : Int)) ((o : Nat) : Int) 1 ((o + 2 : Nat) : Int)) ((o : Nat) : Int) 2 0
theorem T_X2_n {o : Nat} {σ : Me_t} {k j : Int} (h : k < (o : Int)) : T_X2 o σ k j = σ k j := ((ups_n (by omega)).trans ((ups_n (by omega)).trans ((ups_n (by omega)).trans rfl)))
theorem df_X2 {o n : Nat} {σ : Me_t} (h : o + 3 ≤ n) (hD : DF_ o σ) : DF_ n (T_X2 o σ) := (df_up (by omega) (df_up (by omega) (df_up (by omega) (df_mono (by omega) hD))))
set_option maxHeartbeats 4000000 in
set_option maxRecDepth 100000 in
theorem cn_X2 (l : Launch) (o : Nat) (hs0 : SHR_[o]? = some 62) (hs1 : SHR_[o + 1]? = some 22) (hs2 : SHR_[o + 2]? = some 23) : CN_ l yX2_init cX2_init 1 1 40 2 30 o (o + 3) (T_X2 o) := by
  refine cn_of (by decide) (by decide) (by decide) hs0 ?_
  intro X G Q ad σ hl hR E hA0 hAO hin hD R
  have B := fun (cl sl : Nat) (ad shs : List Nat) => @bk_ X G Q cl sl ad shs RX2 cX2_init 1 none flX2 plX2 knX2 [] 9 (fun _ _ => False) none kX2_init [1, 7, 9, 15, 17, 25] flX2_ok plX2_ok knX2_ok eX2_init oX2_init (fun _ h => absurd h List.not_mem_nil) (fun _ _ _ _ _ h => h.elim) sok_no E
  show WP_ X G Q 0 0 ad (SHR_.take (o + 1)) σ 0 [(72, (o : Int))] []
  refine B _ _ _ _ rfl ?_
  show WP_ X G Q _ _ _ _ _ 1 _ _
  refine so_obj E (eX2_init _ (List.mem_of_getElem? (i := 1) rfl)) wo_X2 wo_i wo_c rfl (by rw [hR]; decide) (by rw [hR]; decide) ?_
  refine B _ _ _ _ rfl ?_
  show WP_ X G Q _ _ _ _ _ 7 _ _
  refine so_newi (n := o + 1) (sh := 22) (a := 1) (c := 0) (N := 15) (i := 0) (ty := .int) E hA0 (eX2_init _ (List.mem_of_getElem? (i := 4) rfl)) rfl rfl (fun _ => rfl) (Or.inl rfl) rfl rfl (by decide) hs1 (fun _ => ⟨rfl, rfl⟩) (fun _ _ _ => rfl) wy_int (by rw [hR]; decide) (by rw [hR]; decide) (df_mono (by omega) hD) rfl ?_
  intro q0
  refine so_putF (c := 2) (jn := 0) (ji := 0) (N := 3) (t := 62) (u := 22) E hin (eX2_init _ (List.mem_of_getElem? (i := 5) rfl)) rfl rfl (by decide) rfl wf_X2_11 rfl rfl rfl (fun _ _ _ => rfl) ?_
  refine B _ _ _ _ rfl ?_
  show WP_ X G Q _ _ _ _ _ 15 _ _
  refine so_newi (n := o + 2) (sh := 23) (a := 1) (c := 0) (N := 15) (i := 0) (ty := .int) E hA0 (eX2_init _ (List.mem_of_getElem? (i := 8) rfl)) rfl rfl (fun _ => rfl) (Or.inl rfl) rfl rfl (by decide) hs2 (fun _ => ⟨rfl, rfl⟩) (fun _ _ _ => rfl) wy_int (by rw [hR]; decide) (by rw [hR]; decide) (df_up (by omega) (df_mono (by omega) hD)) rfl ?_
  intro q1
  refine so_putF (c := 2) (jn := 1) (ji := 1) (N := 3) (t := 62) (u := 23) E hin (eX2_init _ (List.mem_of_getElem? (i := 9) rfl)) rfl rfl (by decide) rfl wf_X2_15 rfl rfl rfl (fun _ _ _ => rfl) ?_
  refine B _ _ _ _ rfl ?_
  rintro _ rfl
  show WP_ X G Q _ _ _ _ _ 25 _ _
  exact R 25 _ _ _ (eX2_init _ (List.mem_of_getElem? (i := 13) rfl)) ⟨_, by first | rfl | (simp only [List.append_assoc]; rfl)⟩ rfl
def T_X6 (o : Nat) (σ : Me_t) : Me_t := ups_ (ups_ (ups_ (ups_ (ups_ (σ) ((o : Nat) : Int) 0 ((o + 1 : Nat) : Int)) ((o : Nat) : Int) 1 0) ((o : Nat) : Int) 2 ((o + 2 : Nat) : Int)) ((o : Nat) : Int) 3 (-1)) ((o : Nat) : Int) 4 0
theorem T_X6_n {o : Nat} {σ : Me_t} {k j : Int} (h : k < (o : Int)) : T_X6 o σ k j = σ k j := ((ups_n (by omega)).trans ((ups_n (by omega)).trans ((ups_n (by omega)).trans ((ups_n (by omega)).trans ((ups_n (by omega)).trans rfl)))))
theorem df_X6 {o n : Nat} {σ : Me_t} (h : o + 3 ≤ n) (hD : DF_ o σ) : DF_ n (T_X6 o σ) := (df_up (by omega) (df_up (by omega) (df_up (by omega) (df_up (by omega) (df_up (by omega) (df_mono (by omega) hD))))))
set_option maxHeartbeats 4000000 in
set_option maxRecDepth 100000 in
theorem cn_X6 (l : Launch) (o : Nat) (hs0 : SHR_[o]? = some 66) (hs1 : SHR_[o + 1]? = some 25) (hs2 : SHR_[o + 2]? = some 26) : CN_ l yX6_init cX6_init 1 1 40 2 2012 o (o + 3) (T_X6 o) := by
  refine cn_of (by decide) (by decide) (by decide) hs0 ?_
  intro X G Q ad σ hl hR E hA0 hAO hin hD R
  have B := fun (cl sl : Nat) (ad shs : List Nat) => @bk_ X G Q cl sl ad shs RX6 cX6_init 1 none flX6 plX6 knX6 [] 9 (fun _ _ => False) none kX6_init [1, 8, 10, 21, 23, 36] flX6_ok plX6_ok knX6_ok eX6_init oX6_init (fun _ h => absurd h List.not_mem_nil) (fun _ _ _ _ _ h => h.elim) sok_no E
  show WP_ X G Q 0 0 ad (SHR_.take (o + 1)) σ 0 [(76, (o : Int))] []
  refine B _ _ _ _ rfl ?_
  show WP_ X G Q _ _ _ _ _ 1 _ _
  refine so_obj E (eX6_init _ (List.mem_of_getElem? (i := 1) rfl)) wo_X6 wo_i wo_c rfl (by rw [hR]; decide) (by rw [hR]; decide) ?_
  refine B _ _ _ _ rfl ?_
  show WP_ X G Q _ _ _ _ _ 8 _ _
  refine so_newi (n := o + 1) (sh := 25) (a := 1) (c := 0) (N := 2000) (i := 0) (ty := .int) E hA0 (eX6_init _ (List.mem_of_getElem? (i := 4) rfl)) rfl rfl (fun _ => rfl) (Or.inl rfl) rfl rfl (by decide) hs1 (fun _ => ⟨rfl, rfl⟩) (fun _ _ _ => rfl) wy_int (by rw [hR]; decide) (by rw [hR]; decide) (df_mono (by omega) hD) rfl ?_
  intro q0
  refine so_putF (c := 6) (jn := 0) (ji := 0) (N := 5) (t := 66) (u := 25) E hin (eX6_init _ (List.mem_of_getElem? (i := 5) rfl)) rfl rfl (by decide) rfl wf_X6_9 rfl rfl rfl (fun _ _ _ => rfl) ?_
  refine B _ _ _ _ rfl ?_
  rintro _ rfl
  show WP_ X G Q _ _ _ _ _ 21 _ _
  refine so_newi (n := o + 2) (sh := 26) (a := 1) (c := 0) (N := 12) (i := 0) (ty := .int) E hA0 (eX6_init _ (List.mem_of_getElem? (i := 11) rfl)) rfl rfl (fun _ => rfl) (Or.inl rfl) rfl rfl (by decide) hs2 (fun _ => ⟨rfl, rfl⟩) (fun _ _ _ => rfl) wy_int (by rw [hR]; decide) (by rw [hR]; decide) (df_up (by omega) (df_up (by omega) (df_mono (by omega) hD))) rfl ?_
  intro q1
  refine so_putF (c := 6) (jn := 2) (ji := 2) (N := 5) (t := 66) (u := 26) E hin (eX6_init _ (List.mem_of_getElem? (i := 12) rfl)) rfl rfl (by decide) rfl wf_X6_19 rfl rfl rfl (fun _ _ _ => rfl) ?_
  refine B _ _ _ _ rfl ?_
  rintro _ rfl
  rintro _ rfl
  show WP_ X G Q _ _ _ _ _ 36 _ _
  exact R 36 _ _ _ (eX6_init _ (List.mem_of_getElem? (i := 19) rfl)) ⟨_, by first | rfl | (simp only [List.append_assoc]; rfl)⟩ rfl
def T_X7 (o : Nat) (σ : Me_t) : Me_t := ups_ (ups_ (ups_ (ups_ (ups_ (σ) ((o : Nat) : Int) 0 ((o + 1 : Nat) : Int)) ((o : Nat) : Int) 1 0) ((o : Nat) : Int) 2 ((o + 2 : Nat) : Int)) ((o : Nat) : Int) 3 (-1)) ((o : Nat) : Int) 4 0
theorem T_X7_n {o : Nat} {σ : Me_t} {k j : Int} (h : k < (o : Int)) : T_X7 o σ k j = σ k j := ((ups_n (by omega)).trans ((ups_n (by omega)).trans ((ups_n (by omega)).trans ((ups_n (by omega)).trans ((ups_n (by omega)).trans rfl)))))
theorem df_X7 {o n : Nat} {σ : Me_t} (h : o + 3 ≤ n) (hD : DF_ o σ) : DF_ n (T_X7 o σ) := (df_up (by omega) (df_up (by omega) (df_up (by omega) (df_up (by omega) (df_up (by omega) (df_mono (by omega) hD))))))
set_option maxHeartbeats 4000000 in
set_option maxRecDepth 100000 in
theorem cn_X7 (l : Launch) (o : Nat) (hs0 : SHR_[o]? = some 67) (hs1 : SHR_[o + 1]? = some 28) (hs2 : SHR_[o + 2]? = some 29) : CN_ l yX7_init cX7_init 1 1 40 2 81 o (o + 3) (T_X7 o) := by
  refine cn_of (by decide) (by decide) (by decide) hs0 ?_
  intro X G Q ad σ hl hR E hA0 hAO hin hD R
  have B := fun (cl sl : Nat) (ad shs : List Nat) => @bk_ X G Q cl sl ad shs RX7 cX7_init 1 none flX7 plX7 knX7 [] 9 (fun _ _ => False) none kX7_init [1, 7, 9, 20, 22, 35] flX7_ok plX7_ok knX7_ok eX7_init oX7_init (fun _ h => absurd h List.not_mem_nil) (fun _ _ _ _ _ h => h.elim) sok_no E
  show WP_ X G Q 0 0 ad (SHR_.take (o + 1)) σ 0 [(77, (o : Int))] []
  refine B _ _ _ _ rfl ?_
  show WP_ X G Q _ _ _ _ _ 1 _ _
  refine so_obj E (eX7_init _ (List.mem_of_getElem? (i := 1) rfl)) wo_X7 wo_i wo_c rfl (by rw [hR]; decide) (by rw [hR]; decide) ?_
  refine B _ _ _ _ rfl ?_
  show WP_ X G Q _ _ _ _ _ 7 _ _
  refine so_newi (n := o + 1) (sh := 28) (a := 1) (c := 0) (N := 40) (i := 0) (ty := .int) E hA0 (eX7_init _ (List.mem_of_getElem? (i := 4) rfl)) rfl rfl (fun _ => rfl) (Or.inl rfl) rfl rfl (by decide) hs1 (fun _ => ⟨rfl, rfl⟩) (fun _ _ _ => rfl) wy_int (by rw [hR]; decide) (by rw [hR]; decide) (df_mono (by omega) hD) rfl ?_
  intro q0
  refine so_putF (c := 7) (jn := 0) (ji := 0) (N := 5) (t := 67) (u := 28) E hin (eX7_init _ (List.mem_of_getElem? (i := 5) rfl)) rfl rfl (by decide) rfl wf_X7_9 rfl rfl rfl (fun _ _ _ => rfl) ?_
  refine B _ _ _ _ rfl ?_
  rintro _ rfl
  show WP_ X G Q _ _ _ _ _ 20 _ _
  refine so_newi (n := o + 2) (sh := 29) (a := 1) (c := 0) (N := 41) (i := 0) (ty := .int) E hA0 (eX7_init _ (List.mem_of_getElem? (i := 11) rfl)) rfl rfl (fun _ => rfl) (Or.inl rfl) rfl rfl (by decide) hs2 (fun _ => ⟨rfl, rfl⟩) (fun _ _ _ => rfl) wy_int (by rw [hR]; decide) (by rw [hR]; decide) (df_up (by omega) (df_up (by omega) (df_mono (by omega) hD))) rfl ?_
  intro q1
  refine so_putF (c := 7) (jn := 2) (ji := 2) (N := 5) (t := 67) (u := 29) E hin (eX7_init _ (List.mem_of_getElem? (i := 12) rfl)) rfl rfl (by decide) rfl wf_X7_19 rfl rfl rfl (fun _ _ _ => rfl) ?_
  refine B _ _ _ _ rfl ?_
  rintro _ rfl
  rintro _ rfl
  show WP_ X G Q _ _ _ _ _ 35 _ _
  exact R 35 _ _ _ (eX7_init _ (List.mem_of_getElem? (i := 19) rfl)) ⟨_, by first | rfl | (simp only [List.append_assoc]; rfl)⟩ rfl
def T_X4 (o : Nat) (σ : Me_t) : Me_t := ups_ (ups_ (ups_ (ups_ (σ) ((o : Nat) : Int) 0 ((o + 1 : Nat) : Int)) ((o : Nat) : Int) 1 0) ((o : Nat) : Int) 2 0) ((o : Nat) : Int) 3 0
theorem T_X4_n {o : Nat} {σ : Me_t} {k j : Int} (h : k < (o : Int)) : T_X4 o σ k j = σ k j := ((ups_n (by omega)).trans ((ups_n (by omega)).trans ((ups_n (by omega)).trans ((ups_n (by omega)).trans rfl))))
theorem df_X4 {o n : Nat} {σ : Me_t} (h : o + 2 ≤ n) (hD : DF_ o σ) : DF_ n (T_X4 o σ) := (df_up (by omega) (df_up (by omega) (df_up (by omega) (df_up (by omega) (df_mono (by omega) hD)))))
set_option maxHeartbeats 4000000 in
set_option maxRecDepth 100000 in
theorem cn_X4 (l : Launch) (o : Nat) (hs0 : SHR_[o]? = some 64) (hs1 : SHR_[o + 1]? = some 31) : CN_ l yX4_init cX4_init 1 1 40 1 60 o (o + 2) (T_X4 o) := by
  refine cn_of (by decide) (by decide) (by decide) hs0 ?_
  intro X G Q ad σ hl hR E hA0 hAO hin hD R
  have B := fun (cl sl : Nat) (ad shs : List Nat) => @bk_ X G Q cl sl ad shs RX4 cX4_init 1 none flX4 plX4 knX4 [] 9 (fun _ _ => False) none kX4_init [1, 7, 9, 27] flX4_ok plX4_ok knX4_ok eX4_init oX4_init (fun _ h => absurd h List.not_mem_nil) (fun _ _ _ _ _ h => h.elim) sok_no E
  show WP_ X G Q 0 0 ad (SHR_.take (o + 1)) σ 0 [(74, (o : Int))] []
  refine B _ _ _ _ rfl ?_
  show WP_ X G Q _ _ _ _ _ 1 _ _
  refine so_obj E (eX4_init _ (List.mem_of_getElem? (i := 1) rfl)) wo_X4 wo_i wo_c rfl (by rw [hR]; decide) (by rw [hR]; decide) ?_
  refine B _ _ _ _ rfl ?_
  show WP_ X G Q _ _ _ _ _ 7 _ _
  refine so_newl (n := o + 1) (sh := 31) (c := 0) (N := 60) E hA0 (eX4_init _ (List.mem_of_getElem? (i := 4) rfl)) rfl rfl (by decide) hs1 (fun _ => ⟨rfl, rfl⟩) (fun _ _ _ => rfl) wy_long (by rw [hR]; decide) (by rw [hR]; decide) (df_mono (by omega) hD) rfl ?_
  intro q0
  refine so_putF (c := 4) (jn := 0) (ji := 0) (N := 4) (t := 64) (u := 31) E hin (eX4_init _ (List.mem_of_getElem? (i := 5) rfl)) rfl rfl (by decide) rfl wf_X4_9 rfl rfl rfl (fun _ _ _ => rfl) ?_
  refine B _ _ _ _ rfl ?_
  refine And.intro (by omega) ?_
  rintro _ rfl
  rintro _ rfl
  rintro _ rfl
  show WP_ X G Q _ _ _ _ _ 27 _ _
  exact R 27 _ _ _ (eX4_init _ (List.mem_of_getElem? (i := 15) rfl)) ⟨_, by first | rfl | (simp only [List.append_assoc]; rfl)⟩ rfl
def T_X10 (o : Nat) (σ : Me_t) : Me_t := ups_ (T_X4 (o + 84) (ups_ (T_X4 (o + 82) (ups_ (T_X4 (o + 80) (ups_ (T_X4 (o + 78) (ups_ (T_X9 (o + 67) (ups_ (T_X9 (o + 56) (ups_ (T_X9 (o + 45) (ups_ (ups_ (ups_ (T_X7 (o + 42) (ups_ (T_X6 (o + 39) (ups_ (T_X2 (o + 36) (ups_ (T_X5 (o + 34) (ups_ (T_X0 (o + 30) (ups_ (ups_ (ups_ (ups_ (T_X9 (o + 16) (ups_ (T_X9 (o + 5) (ups_ (T_X3 (o + 3) (ups_ (T_X8 (o + 1) (σ)) ((o : Nat) : Int) 0 ((o + 1 : Nat) : Int))) ((o : Nat) : Int) 1 ((o + 3 : Nat) : Int))) ((o : Nat) : Int) 2 ((o + 5 : Nat) : Int))) ((o : Nat) : Int) 3 ((o + 16 : Nat) : Int)) ((o : Nat) : Int) 4 ((o + 27 : Nat) : Int)) ((o : Nat) : Int) 5 ((o + 28 : Nat) : Int)) ((o : Nat) : Int) 6 ((o + 29 : Nat) : Int))) ((o : Nat) : Int) 7 ((o + 30 : Nat) : Int))) ((o : Nat) : Int) 8 ((o + 34 : Nat) : Int))) ((o : Nat) : Int) 9 ((o + 36 : Nat) : Int))) ((o : Nat) : Int) 10 ((o + 39 : Nat) : Int))) ((o : Nat) : Int) 11 ((o + 42 : Nat) : Int)) ((o : Nat) : Int) 12 0) ((o : Nat) : Int) 13 (-1))) ((o + 27 : Nat) : Int) 0 ((o + 45 : Nat) : Int))) ((o + 27 : Nat) : Int) (0 + 1) ((o + 56 : Nat) : Int))) ((o + 27 : Nat) : Int) ((0 + 1) + 1) ((o + 67 : Nat) : Int))) ((o + 29 : Nat) : Int) 0 ((o + 78 : Nat) : Int))) ((o + 29 : Nat) : Int) (0 + 1) ((o + 80 : Nat) : Int))) ((o + 29 : Nat) : Int) ((0 + 1) + 1) ((o + 82 : Nat) : Int))) ((o + 29 : Nat) : Int) (((0 + 1) + 1) + 1) ((o + 84 : Nat) : Int)
theorem T_X10_n {o : Nat} {σ : Me_t} {k j : Int} (h : k < (o : Int)) : T_X10 o σ k j = σ k j := ((ups_n (by omega)).trans ((T_X4_n (by omega)).trans ((ups_n (by omega)).trans ((T_X4_n (by omega)).trans ((ups_n (by omega)).trans ((T_X4_n (by omega)).trans ((ups_n (by omega)).trans ((T_X4_n (by omega)).trans ((ups_n (by omega)).trans ((T_X9_n (by omega)).trans ((ups_n (by omega)).trans ((T_X9_n (by omega)).trans ((ups_n (by omega)).trans ((T_X9_n (by omega)).trans ((ups_n (by omega)).trans ((ups_n (by omega)).trans ((ups_n (by omega)).trans ((T_X7_n (by omega)).trans ((ups_n (by omega)).trans ((T_X6_n (by omega)).trans ((ups_n (by omega)).trans ((T_X2_n (by omega)).trans ((ups_n (by omega)).trans ((T_X5_n (by omega)).trans ((ups_n (by omega)).trans ((T_X0_n (by omega)).trans ((ups_n (by omega)).trans ((ups_n (by omega)).trans ((ups_n (by omega)).trans ((ups_n (by omega)).trans ((T_X9_n (by omega)).trans ((ups_n (by omega)).trans ((T_X9_n (by omega)).trans ((ups_n (by omega)).trans ((T_X3_n (by omega)).trans ((ups_n (by omega)).trans ((T_X8_n (by omega)).trans rfl)))))))))))))))))))))))))))))))))))))
theorem df_X10 {o n : Nat} {σ : Me_t} (h : o + 86 ≤ n) (hD : DF_ o σ) : DF_ n (T_X10 o σ) := (df_up (by omega) (df_X4 (by omega) (df_up (by omega) (df_X4 (by omega) (df_up (by omega) (df_X4 (by omega) (df_up (by omega) (df_X4 (by omega) (df_up (by omega) (df_X9 (by omega) (df_up (by omega) (df_X9 (by omega) (df_up (by omega) (df_X9 (by omega) (df_up (by omega) (df_up (by omega) (df_up (by omega) (df_X7 (by omega) (df_up (by omega) (df_X6 (by omega) (df_up (by omega) (df_X2 (by omega) (df_up (by omega) (df_X5 (by omega) (df_up (by omega) (df_X0 (by omega) (df_up (by omega) (df_up (by omega) (df_up (by omega) (df_up (by omega) (df_X9 (by omega) (df_up (by omega) (df_X9 (by omega) (df_up (by omega) (df_X3 (by omega) (df_up (by omega) (df_X8 (by omega) (df_mono (by omega) hD))))))))))))))))))))))))))))))))))))))
set_option maxHeartbeats 4000000 in
set_option maxRecDepth 100000 in
theorem cn_X10 (l : Launch) (o : Nat) (hs0 : SHR_[o]? = some 70) (hs1 : SHR_[o + 1]? = some 68) (hs2 : SHR_[o + 2]? = some 2) (hs3 : SHR_[o + 3]? = some 63) (hs4 : SHR_[o + 4]? = some 4) (hs5 : SHR_[o + 5]? = some 69) (hs6 : SHR_[o + 6]? = some 80) (hs7 : SHR_[o + 7]? = some 7) (hs8 : SHR_[o + 8]? = some 8) (hs9 : SHR_[o + 9]? = some 9) (hs10 : SHR_[o + 10]? = some 61) (hs11 : SHR_[o + 11]? = some 11) (hs12 : SHR_[o + 12]? = some 61) (hs13 : SHR_[o + 13]? = some 11) (hs14 : SHR_[o + 14]? = some 61) (hs15 : SHR_[o + 15]? = some 11) (hs16 : SHR_[o + 16]? = some 69) (hs17 : SHR_[o + 17]? = some 80) (hs18 : SHR_[o + 18]? = some 7) (hs19 : SHR_[o + 19]? = some 8) (hs20 : SHR_[o + 20]? = some 9) (hs21 : SHR_[o + 21]? = some 61) (hs22 : SHR_[o + 22]? = some 11) (hs23 : SHR_[o + 23]? = some 61) (hs24 : SHR_[o + 24]? = some 11) (hs25 : SHR_[o + 25]? = some 61) (hs26 : SHR_[o + 26]? = some 11) (hs27 : SHR_[o + 27]? = some 81) (hs28 : SHR_[o + 28]? = some 13) (hs29 : SHR_[o + 29]? = some 82) (hs30 : SHR_[o + 30]? = some 60) (hs31 : SHR_[o + 31]? = some 16) (hs32 : SHR_[o + 32]? = some 17) (hs33 : SHR_[o + 33]? = some 18) (hs34 : SHR_[o + 34]? = some 65) (hs35 : SHR_[o + 35]? = some 20) (hs36 : SHR_[o + 36]? = some 62) (hs37 : SHR_[o + 37]? = some 22) (hs38 : SHR_[o + 38]? = some 23) (hs39 : SHR_[o + 39]? = some 66) (hs40 : SHR_[o + 40]? = some 25) (hs41 : SHR_[o + 41]? = some 26) (hs42 : SHR_[o + 42]? = some 67) (hs43 : SHR_[o + 43]? = some 28) (hs44 : SHR_[o + 44]? = some 29) (hs45 : SHR_[o + 45]? = some 69) (hs46 : SHR_[o + 46]? = some 80) (hs47 : SHR_[o + 47]? = some 7) (hs48 : SHR_[o + 48]? = some 8) (hs49 : SHR_[o + 49]? = some 9) (hs50 : SHR_[o + 50]? = some 61) (hs51 : SHR_[o + 51]? = some 11) (hs52 : SHR_[o + 52]? = some 61) (hs53 : SHR_[o + 53]? = some 11) (hs54 : SHR_[o + 54]? = some 61) (hs55 : SHR_[o + 55]? = some 11) (hs56 : SHR_[o + 56]? = some 69) (hs57 : SHR_[o + 57]? = some 80) (hs58 : SHR_[o + 58]? = some 7) (hs59 : SHR_[o + 59]? = some 8) (hs60 : SHR_[o + 60]? = some 9) (hs61 : SHR_[o + 61]? = some 61) (hs62 : SHR_[o + 62]? = some 11) (hs63 : SHR_[o + 63]? = some 61) (hs64 : SHR_[o + 64]? = some 11) (hs65 : SHR_[o + 65]? = some 61) (hs66 : SHR_[o + 66]? = some 11) (hs67 : SHR_[o + 67]? = some 69) (hs68 : SHR_[o + 68]? = some 80) (hs69 : SHR_[o + 69]? = some 7) (hs70 : SHR_[o + 70]? = some 8) (hs71 : SHR_[o + 71]? = some 9) (hs72 : SHR_[o + 72]? = some 61) (hs73 : SHR_[o + 73]? = some 11) (hs74 : SHR_[o + 74]? = some 61) (hs75 : SHR_[o + 75]? = some 11) (hs76 : SHR_[o + 76]? = some 61) (hs77 : SHR_[o + 77]? = some 11) (hs78 : SHR_[o + 78]? = some 64) (hs79 : SHR_[o + 79]? = some 31) (hs80 : SHR_[o + 80]? = some 64) (hs81 : SHR_[o + 81]? = some 31) (hs82 : SHR_[o + 82]? = some 64) (hs83 : SHR_[o + 83]? = some 31) (hs84 : SHR_[o + 84]? = some 64) (hs85 : SHR_[o + 85]? = some 31) : CN_ l yX10_init cX10_init 2 3 81 85 20233 o (o + 86) (T_X10 o) := by
  refine cn_of (by decide) (by decide) (by decide) hs0 ?_
  intro X G Q ad σ hl hR E hA0 hAO hin hD R
  have B := fun (cl sl : Nat) (ad shs : List Nat) => @bk_ X G Q cl sl ad shs RX10 cX10_init 2 none flX10 plX10 knX10 [] 9 (fun _ _ => False) none kX10_init [1, 5, 9, 12, 16, 20, 23, 27, 31, 38, 42, 50, 53, 58, 60, 65, 68, 72, 76, 79, 83, 87, 90, 94, 98, 101, 105, 109, 112, 116, 120, 123, 148, 152, 155, 174, 178, 181, 188] flX10_ok plX10_ok knX10_ok eX10_init oX10_init (fun _ h => absurd h List.not_mem_nil) (fun _ _ _ _ _ h => h.elim) sok_no E
  show WP_ X G Q 0 0 ad (SHR_.take (o + 1)) σ 0 [(80, (o : Int)), (9, 0)] []
  refine B _ _ _ _ rfl ?_
  show WP_ X G Q _ _ _ _ _ 1 _ _
  refine so_obj E (eX10_init _ (List.mem_of_getElem? (i := 1) rfl)) wo_X10 wo_i wo_c rfl (by rw [hR]; decide) (by rw [hR]; decide) ?_
  refine B _ _ _ _ rfl ?_
  show WP_ X G Q _ _ _ _ _ 5 _ _
  refine so_new (n := o + 1) (sh := 68) (c := 8) (N := 2) E hA0 (eX10_init _ (List.mem_of_getElem? (i := 3) rfl)) rfl rfl hs1 (by decide) (fun _ _ _ => rfl) wk_X10_7 wx_X8 wn_X8 (by rw [hR]; decide) (by rw [hR]; decide) (df_mono (by omega) hD) rfl ?_
  intro q0
  refine B _ _ _ _ rfl ?_
  show WP_ X G Q _ _ _ _ _ 9 _ _
  refine so_ctorN (host := RX10) (o := o + 1) (m := o + 3) (t := 68) E hA0 hAO (cn_X8 X.2.1 (o + 1) hs1 hs2) (by omega) (by rw [hR]; decide) (by rw [hR]; decide) (by rw [hR]; decide) (eX10_init _ (List.mem_of_getElem? (i := 5) rfl)) rfl (by decide) ⟨by decide, by decide, by decide, by decide⟩ wnl_X10_9 wi_X8_init wn_X8 wc_X8_init (df_mono (by omega) hD) rfl ?_
  intro q1
  refine so_putF (c := 10) (jn := 0) (ji := 0) (N := 14) (t := 70) (u := 68) E hin (eX10_init _ (List.mem_of_getElem? (i := 6) rfl)) rfl rfl (by decide) rfl wf_X10_10 rfl rfl rfl (fun _ _ _ => rfl) ?_
  refine B _ _ _ _ rfl ?_
  show WP_ X G Q _ _ _ _ _ 16 _ _
  refine so_new (n := o + 3) (sh := 63) (c := 3) (N := 8) E hA0 (eX10_init _ (List.mem_of_getElem? (i := 8) rfl)) rfl rfl hs3 (by decide) (fun _ _ _ => rfl) wk_X10_16 wx_X3 wn_X3 (by rw [hR]; decide) (by rw [hR]; decide) (df_up (by omega) (df_X8 (by omega) (df_mono (by omega) hD))) rfl ?_
  intro q2
  refine B _ _ _ _ rfl ?_
  show WP_ X G Q _ _ _ _ _ 20 _ _
  refine so_ctorN (host := RX10) (o := o + 3) (m := o + 5) (t := 63) E hA0 hAO (cn_X3 X.2.1 (o + 3) hs3 hs4) (by omega) (by rw [hR]; decide) (by rw [hR]; decide) (by rw [hR]; decide) (eX10_init _ (List.mem_of_getElem? (i := 10) rfl)) rfl (by decide) ⟨by decide, by decide, by decide, by decide⟩ wnl_X10_18 wi_X3_init wn_X3 wc_X3_init (df_up (by omega) (df_X8 (by omega) (df_mono (by omega) hD))) rfl ?_
  intro q3
  refine so_putF (c := 10) (jn := 1) (ji := 1) (N := 14) (t := 70) (u := 63) E hin (eX10_init _ (List.mem_of_getElem? (i := 11) rfl)) rfl rfl (by decide) rfl wf_X10_19 rfl rfl rfl (fun _ _ _ => rfl) ?_
  refine B _ _ _ _ rfl ?_
  show WP_ X G Q _ _ _ _ _ 27 _ _
  refine so_new (n := o + 5) (sh := 69) (c := 9) (N := 10) E hA0 (eX10_init _ (List.mem_of_getElem? (i := 13) rfl)) rfl rfl hs5 (by decide) (fun _ _ _ => rfl) wk_X10_23 wx_X9 wn_X9 (by rw [hR]; decide) (by rw [hR]; decide) (df_up (by omega) (df_X3 (by omega) (df_up (by omega) (df_X8 (by omega) (df_mono (by omega) hD))))) rfl ?_
  intro q4
  refine B _ _ _ _ rfl ?_
  show WP_ X G Q _ _ _ _ _ 31 _ _
  refine so_ctor (o := o + 5) (m := o + 16) (t := 69) E hA0 hAO (cn_X9 X.2.1 (o + 5) hs5 hs6 hs7 hs8 hs9 hs10 hs11 hs12 hs13 hs14 hs15) (by omega) (by rw [hR]; decide) (by rw [hR]; decide) (by rw [hR]; decide) (eX10_init _ (List.mem_of_getElem? (i := 15) rfl)) rfl (by decide) ⟨by decide, by decide, by decide, by decide⟩ wl_X10_25 wi_X9_init wn_X9 wc_X9_init (df_up (by omega) (df_X3 (by omega) (df_up (by omega) (df_X8 (by omega) (df_mono (by omega) hD))))) rfl ?_
  intro q5
  refine B _ _ _ _ rfl ?_
  rintro _ rfl
  show WP_ X G Q _ _ _ _ _ 38 _ _
  refine so_new (n := o + 16) (sh := 69) (c := 9) (N := 10) E hA0 (eX10_init _ (List.mem_of_getElem? (i := 18) rfl)) rfl rfl hs16 (by decide) (fun _ _ _ => rfl) wk_X10_23 wx_X9 wn_X9 (by rw [hR]; decide) (by rw [hR]; decide) (df_up (by omega) (df_X9 (by omega) (df_up (by omega) (df_X3 (by omega) (df_up (by omega) (df_X8 (by omega) (df_mono (by omega) hD))))))) rfl ?_
  intro q6
  refine B _ _ _ _ rfl ?_
  show WP_ X G Q _ _ _ _ _ 42 _ _
  refine so_ctor (o := o + 16) (m := o + 27) (t := 69) E hA0 hAO (cn_X9 X.2.1 (o + 16) hs16 hs17 hs18 hs19 hs20 hs21 hs22 hs23 hs24 hs25 hs26) (by omega) (by rw [hR]; decide) (by rw [hR]; decide) (by rw [hR]; decide) (eX10_init _ (List.mem_of_getElem? (i := 20) rfl)) rfl (by decide) ⟨by decide, by decide, by decide, by decide⟩ wl_X10_25 wi_X9_init wn_X9 wc_X9_init (df_up (by omega) (df_X9 (by omega) (df_up (by omega) (df_X3 (by omega) (df_up (by omega) (df_X8 (by omega) (df_mono (by omega) hD))))))) rfl ?_
  intro q7
  refine B _ _ _ _ rfl ?_
  rintro _ rfl
  show WP_ X G Q _ _ _ _ _ 50 _ _
  refine so_newq (n := o + 27) (sh := 81) (c := 9) (N := 3) (i := 6) E hA0 (eX10_init _ (List.mem_of_getElem? (i := 24) rfl)) (fun _ => rfl) rfl rfl hs27 (fun _ => ⟨rfl, rfl⟩) (fun _ _ _ => rfl) wk_X10_23 hAO.2.2 (by rw [hR]; decide) (by rw [hR]; decide) (df_up (by omega) (df_X9 (by omega) (df_up (by omega) (df_X9 (by omega) (df_up (by omega) (df_X3 (by omega) (df_up (by omega) (df_X8 (by omega) (df_mono (by omega) hD))))))))) rfl ?_
  intro q8
  refine so_putF (c := 10) (jn := 4) (ji := 4) (N := 14) (t := 70) (u := 81) E hin (eX10_init _ (List.mem_of_getElem? (i := 25) rfl)) rfl rfl (by decide) rfl wf_X10_33 rfl rfl rfl (fun _ _ _ => rfl) ?_
  refine B _ _ _ _ rfl ?_
  show WP_ X G Q _ _ _ _ _ 58 _ _
  refine so_newi (n := o + 28) (sh := 13) (a := 3) (c := 0) (N := 3) (i := 2) (ty := .boolean) E hA0 (eX10_init _ (List.mem_of_getElem? (i := 28) rfl)) rfl rfl (fun _ => rfl) (Or.inr (Or.inr rfl)) rfl rfl (by decide) hs28 (fun _ => ⟨rfl, rfl⟩) (fun _ _ _ => rfl) wy_boolean (by rw [hR]; decide) (by rw [hR]; decide) (df_up (by omega) (df_up (by omega) (df_X9 (by omega) (df_up (by omega) (df_X9 (by omega) (df_up (by omega) (df_X3 (by omega) (df_up (by omega) (df_X8 (by omega) (df_mono (by omega) hD)))))))))) rfl ?_
  intro q9
  refine so_putF (c := 10) (jn := 5) (ji := 5) (N := 14) (t := 70) (u := 13) E hin (eX10_init _ (List.mem_of_getElem? (i := 29) rfl)) rfl rfl (by decide) rfl wf_X10_37 rfl rfl rfl (fun _ _ _ => rfl) ?_
  refine B _ _ _ _ rfl ?_
  show WP_ X G Q _ _ _ _ _ 65 _ _
  refine so_newq (n := o + 29) (sh := 82) (c := 4) (N := 4) (i := 5) E hA0 (eX10_init _ (List.mem_of_getElem? (i := 32) rfl)) (fun _ => rfl) rfl rfl hs29 (fun _ => ⟨rfl, rfl⟩) (fun _ _ _ => rfl) wk_X10_41 hAO.2.1 (by rw [hR]; decide) (by rw [hR]; decide) (df_up (by omega) (df_up (by omega) (df_up (by omega) (df_X9 (by omega) (df_up (by omega) (df_X9 (by omega) (df_up (by omega) (df_X3 (by omega) (df_up (by omega) (df_X8 (by omega) (df_mono (by omega) hD))))))))))) rfl ?_
  intro q10
  refine so_putF (c := 10) (jn := 6) (ji := 6) (N := 14) (t := 70) (u := 82) E hin (eX10_init _ (List.mem_of_getElem? (i := 33) rfl)) rfl rfl (by decide) rfl wf_X10_43 rfl rfl rfl (fun _ _ _ => rfl) ?_
  refine B _ _ _ _ rfl ?_
  show WP_ X G Q _ _ _ _ _ 72 _ _
  refine so_new (n := o + 30) (sh := 60) (c := 0) (N := 9) E hA0 (eX10_init _ (List.mem_of_getElem? (i := 35) rfl)) rfl rfl hs30 (by decide) (fun _ _ _ => rfl) wk_X10_47 wx_X0 wn_X0 (by rw [hR]; decide) (by rw [hR]; decide) (df_up (by omega) (df_up (by omega) (df_up (by omega) (df_up (by omega) (df_X9 (by omega) (df_up (by omega) (df_X9 (by omega) (df_up (by omega) (df_X3 (by omega) (df_up (by omega) (df_X8 (by omega) (df_mono (by omega) hD)))))))))))) rfl ?_
  intro q11
  refine B _ _ _ _ rfl ?_
  show WP_ X G Q _ _ _ _ _ 76 _ _
  refine so_ctorN (host := RX10) (o := o + 30) (m := o + 34) (t := 60) E hA0 hAO (cn_X0 X.2.1 (o + 30) hs30 hs31 hs32 hs33) (by omega) (by rw [hR]; decide) (by rw [hR]; decide) (by rw [hR]; decide) (eX10_init _ (List.mem_of_getElem? (i := 37) rfl)) rfl (by decide) ⟨by decide, by decide, by decide, by decide⟩ wnl_X10_49 wi_X0_init wn_X0 wc_X0_init (df_up (by omega) (df_up (by omega) (df_up (by omega) (df_up (by omega) (df_X9 (by omega) (df_up (by omega) (df_X9 (by omega) (df_up (by omega) (df_X3 (by omega) (df_up (by omega) (df_X8 (by omega) (df_mono (by omega) hD)))))))))))) rfl ?_
  intro q12
  refine so_putF (c := 10) (jn := 7) (ji := 7) (N := 14) (t := 70) (u := 60) E hin (eX10_init _ (List.mem_of_getElem? (i := 38) rfl)) rfl rfl (by decide) rfl wf_X10_50 rfl rfl rfl (fun _ _ _ => rfl) ?_
  refine B _ _ _ _ rfl ?_
  show WP_ X G Q _ _ _ _ _ 83 _ _
  refine so_new (n := o + 34) (sh := 65) (c := 5) (N := 3) E hA0 (eX10_init _ (List.mem_of_getElem? (i := 40) rfl)) rfl rfl hs34 (by decide) (fun _ _ _ => rfl) wk_X10_54 wx_X5 wn_X5 (by rw [hR]; decide) (by rw [hR]; decide) (df_up (by omega) (df_X0 (by omega) (df_up (by omega) (df_up (by omega) (df_up (by omega) (df_up (by omega) (df_X9 (by omega) (df_up (by omega) (df_X9 (by omega) (df_up (by omega) (df_X3 (by omega) (df_up (by omega) (df_X8 (by omega) (df_mono (by omega) hD)))))))))))))) rfl ?_
  intro q13
  refine B _ _ _ _ rfl ?_
  show WP_ X G Q _ _ _ _ _ 87 _ _
  refine so_ctorN (host := RX10) (o := o + 34) (m := o + 36) (t := 65) E hA0 hAO (cn_X5 X.2.1 (o + 34) hs34 hs35) (by omega) (by rw [hR]; decide) (by rw [hR]; decide) (by rw [hR]; decide) (eX10_init _ (List.mem_of_getElem? (i := 42) rfl)) rfl (by decide) ⟨by decide, by decide, by decide, by decide⟩ wnl_X10_56 wi_X5_init wn_X5 wc_X5_init (df_up (by omega) (df_X0 (by omega) (df_up (by omega) (df_up (by omega) (df_up (by omega) (df_up (by omega) (df_X9 (by omega) (df_up (by omega) (df_X9 (by omega) (df_up (by omega) (df_X3 (by omega) (df_up (by omega) (df_X8 (by omega) (df_mono (by omega) hD)))))))))))))) rfl ?_
  intro q14
  refine so_putF (c := 10) (jn := 8) (ji := 8) (N := 14) (t := 70) (u := 65) E hin (eX10_init _ (List.mem_of_getElem? (i := 43) rfl)) rfl rfl (by decide) rfl wf_X10_57 rfl rfl rfl (fun _ _ _ => rfl) ?_
  refine B _ _ _ _ rfl ?_
  show WP_ X G Q _ _ _ _ _ 94 _ _
  refine so_new (n := o + 36) (sh := 62) (c := 2) (N := 3) E hA0 (eX10_init _ (List.mem_of_getElem? (i := 45) rfl)) rfl rfl hs36 (by decide) (fun _ _ _ => rfl) wk_X10_61 wx_X2 wn_X2 (by rw [hR]; decide) (by rw [hR]; decide) (df_up (by omega) (df_X5 (by omega) (df_up (by omega) (df_X0 (by omega) (df_up (by omega) (df_up (by omega) (df_up (by omega) (df_up (by omega) (df_X9 (by omega) (df_up (by omega) (df_X9 (by omega) (df_up (by omega) (df_X3 (by omega) (df_up (by omega) (df_X8 (by omega) (df_mono (by omega) hD)))))))))))))))) rfl ?_
  intro q15
  refine B _ _ _ _ rfl ?_
  show WP_ X G Q _ _ _ _ _ 98 _ _
  refine so_ctorN (host := RX10) (o := o + 36) (m := o + 39) (t := 62) E hA0 hAO (cn_X2 X.2.1 (o + 36) hs36 hs37 hs38) (by omega) (by rw [hR]; decide) (by rw [hR]; decide) (by rw [hR]; decide) (eX10_init _ (List.mem_of_getElem? (i := 47) rfl)) rfl (by decide) ⟨by decide, by decide, by decide, by decide⟩ wnl_X10_63 wi_X2_init wn_X2 wc_X2_init (df_up (by omega) (df_X5 (by omega) (df_up (by omega) (df_X0 (by omega) (df_up (by omega) (df_up (by omega) (df_up (by omega) (df_up (by omega) (df_X9 (by omega) (df_up (by omega) (df_X9 (by omega) (df_up (by omega) (df_X3 (by omega) (df_up (by omega) (df_X8 (by omega) (df_mono (by omega) hD)))))))))))))))) rfl ?_
  intro q16
  refine so_putF (c := 10) (jn := 9) (ji := 9) (N := 14) (t := 70) (u := 62) E hin (eX10_init _ (List.mem_of_getElem? (i := 48) rfl)) rfl rfl (by decide) rfl wf_X10_64 rfl rfl rfl (fun _ _ _ => rfl) ?_
  refine B _ _ _ _ rfl ?_
  show WP_ X G Q _ _ _ _ _ 105 _ _
  refine so_new (n := o + 39) (sh := 66) (c := 6) (N := 5) E hA0 (eX10_init _ (List.mem_of_getElem? (i := 50) rfl)) rfl rfl hs39 (by decide) (fun _ _ _ => rfl) wk_X10_68 wx_X6 wn_X6 (by rw [hR]; decide) (by rw [hR]; decide) (df_up (by omega) (df_X2 (by omega) (df_up (by omega) (df_X5 (by omega) (df_up (by omega) (df_X0 (by omega) (df_up (by omega) (df_up (by omega) (df_up (by omega) (df_up (by omega) (df_X9 (by omega) (df_up (by omega) (df_X9 (by omega) (df_up (by omega) (df_X3 (by omega) (df_up (by omega) (df_X8 (by omega) (df_mono (by omega) hD)))))))))))))))))) rfl ?_
  intro q17
  refine B _ _ _ _ rfl ?_
  show WP_ X G Q _ _ _ _ _ 109 _ _
  refine so_ctorN (host := RX10) (o := o + 39) (m := o + 42) (t := 66) E hA0 hAO (cn_X6 X.2.1 (o + 39) hs39 hs40 hs41) (by omega) (by rw [hR]; decide) (by rw [hR]; decide) (by rw [hR]; decide) (eX10_init _ (List.mem_of_getElem? (i := 52) rfl)) rfl (by decide) ⟨by decide, by decide, by decide, by decide⟩ wnl_X10_70 wi_X6_init wn_X6 wc_X6_init (df_up (by omega) (df_X2 (by omega) (df_up (by omega) (df_X5 (by omega) (df_up (by omega) (df_X0 (by omega) (df_up (by omega) (df_up (by omega) (df_up (by omega) (df_up (by omega) (df_X9 (by omega) (df_up (by omega) (df_X9 (by omega) (df_up (by omega) (df_X3 (by omega) (df_up (by omega) (df_X8 (by omega) (df_mono (by omega) hD)))))))))))))))))) rfl ?_
  intro q18
  refine so_putF (c := 10) (jn := 10) (ji := 10) (N := 14) (t := 70) (u := 66) E hin (eX10_init _ (List.mem_of_getElem? (i := 53) rfl)) rfl rfl (by decide) rfl wf_X10_71 rfl rfl rfl (fun _ _ _ => rfl) ?_
  refine B _ _ _ _ rfl ?_
  show WP_ X G Q _ _ _ _ _ 116 _ _
  refine so_new (n := o + 42) (sh := 67) (c := 7) (N := 5) E hA0 (eX10_init _ (List.mem_of_getElem? (i := 55) rfl)) rfl rfl hs42 (by decide) (fun _ _ _ => rfl) wk_X10_75 wx_X7 wn_X7 (by rw [hR]; decide) (by rw [hR]; decide) (df_up (by omega) (df_X6 (by omega) (df_up (by omega) (df_X2 (by omega) (df_up (by omega) (df_X5 (by omega) (df_up (by omega) (df_X0 (by omega) (df_up (by omega) (df_up (by omega) (df_up (by omega) (df_up (by omega) (df_X9 (by omega) (df_up (by omega) (df_X9 (by omega) (df_up (by omega) (df_X3 (by omega) (df_up (by omega) (df_X8 (by omega) (df_mono (by omega) hD)))))))))))))))))))) rfl ?_
  intro q19
  refine B _ _ _ _ rfl ?_
  show WP_ X G Q _ _ _ _ _ 120 _ _
  refine so_ctorN (host := RX10) (o := o + 42) (m := o + 45) (t := 67) E hA0 hAO (cn_X7 X.2.1 (o + 42) hs42 hs43 hs44) (by omega) (by rw [hR]; decide) (by rw [hR]; decide) (by rw [hR]; decide) (eX10_init _ (List.mem_of_getElem? (i := 57) rfl)) rfl (by decide) ⟨by decide, by decide, by decide, by decide⟩ wnl_X10_77 wi_X7_init wn_X7 wc_X7_init (df_up (by omega) (df_X6 (by omega) (df_up (by omega) (df_X2 (by omega) (df_up (by omega) (df_X5 (by omega) (df_up (by omega) (df_X0 (by omega) (df_up (by omega) (df_up (by omega) (df_up (by omega) (df_up (by omega) (df_X9 (by omega) (df_up (by omega) (df_X9 (by omega) (df_up (by omega) (df_X3 (by omega) (df_up (by omega) (df_X8 (by omega) (df_mono (by omega) hD)))))))))))))))))))) rfl ?_
  intro q20
  refine so_putF (c := 10) (jn := 11) (ji := 11) (N := 14) (t := 70) (u := 67) E hin (eX10_init _ (List.mem_of_getElem? (i := 58) rfl)) rfl rfl (by decide) rfl wf_X10_78 rfl rfl rfl (fun _ _ _ => rfl) ?_
  refine B _ _ _ _ rfl ?_
  rintro _ rfl
  rintro _ rfl
  refine And.intro (fun h1 => (by exfalso; omega)) (fun h1 => ?_)
  show WP_ X G Q _ _ _ _ _ 148 _ _
  refine so_new (n := o + 45) (sh := 69) (c := 9) (N := 10) E hA0 (eX10_init _ (List.mem_of_getElem? (i := 73) rfl)) rfl rfl hs45 (by decide) (fun _ _ _ => rfl) wk_X10_23 wx_X9 wn_X9 (by rw [hR]; decide) (by rw [hR]; decide) (df_up (by omega) (df_up (by omega) (df_up (by omega) (df_X7 (by omega) (df_up (by omega) (df_X6 (by omega) (df_up (by omega) (df_X2 (by omega) (df_up (by omega) (df_X5 (by omega) (df_up (by omega) (df_X0 (by omega) (df_up (by omega) (df_up (by omega) (df_up (by omega) (df_up (by omega) (df_X9 (by omega) (df_up (by omega) (df_X9 (by omega) (df_up (by omega) (df_X3 (by omega) (df_up (by omega) (df_X8 (by omega) (df_mono (by omega) hD)))))))))))))))))))))))) rfl ?_
  intro q21
  refine B _ _ _ _ rfl ?_
  show WP_ X G Q _ _ _ _ _ 152 _ _
  refine so_ctor (o := o + 45) (m := o + 56) (t := 69) E hA0 hAO (cn_X9 X.2.1 (o + 45) hs45 hs46 hs47 hs48 hs49 hs50 hs51 hs52 hs53 hs54 hs55) (by omega) (by rw [hR]; decide) (by rw [hR]; decide) (by rw [hR]; decide) (eX10_init _ (List.mem_of_getElem? (i := 75) rfl)) rfl (by decide) ⟨by decide, by decide, by decide, by decide⟩ wl_X10_25 wi_X9_init wn_X9 wc_X9_init (df_up (by omega) (df_up (by omega) (df_up (by omega) (df_X7 (by omega) (df_up (by omega) (df_X6 (by omega) (df_up (by omega) (df_X2 (by omega) (df_up (by omega) (df_X5 (by omega) (df_up (by omega) (df_X0 (by omega) (df_up (by omega) (df_up (by omega) (df_up (by omega) (df_up (by omega) (df_X9 (by omega) (df_up (by omega) (df_X9 (by omega) (df_up (by omega) (df_X3 (by omega) (df_up (by omega) (df_X8 (by omega) (df_mono (by omega) hD)))))))))))))))))))))))) rfl ?_
  intro q22
  refine so_ast (u := 69) (t := 81) (c := 9) (N := 3) (i := 6) (a := o + 27) E (eX10_init _ (List.mem_of_getElem? (i := 76) rfl)) ((ups_n (by omega)).trans ((ups_n (by omega)).trans ((ups_n (by omega)).trans ((T_X7_n (by omega)).trans ((ups_n (by omega)).trans ((T_X6_n (by omega)).trans ((ups_n (by omega)).trans ((T_X2_n (by omega)).trans ((ups_n (by omega)).trans ((T_X5_n (by omega)).trans ((ups_n (by omega)).trans ((T_X0_n (by omega)).trans ((ups_n (by omega)).trans ((ups_n (by omega)).trans ups_s)))))))))))))) (tg_ hs27 (by omega)) rfl (by omega) (fun _ => rfl) (fun _ _ _ => rfl) rfl rfl (fun _ => rfl) ?_
  refine B _ _ _ _ rfl ?_
  refine And.intro (by omega) ?_
  refine B _ _ _ _ rfl ?_
  refine And.intro (fun h2 => (by exfalso; omega)) (fun h2 => ?_)
  show WP_ X G Q _ _ _ _ _ 148 _ _
  refine so_new (n := o + 56) (sh := 69) (c := 9) (N := 10) E hA0 (eX10_init _ (List.mem_of_getElem? (i := 73) rfl)) rfl rfl hs56 (by decide) (fun _ _ _ => rfl) wk_X10_23 wx_X9 wn_X9 (by rw [hR]; decide) (by rw [hR]; decide) (df_up (by omega) (df_X9 (by omega) (df_up (by omega) (df_up (by omega) (df_up (by omega) (df_X7 (by omega) (df_up (by omega) (df_X6 (by omega) (df_up (by omega) (df_X2 (by omega) (df_up (by omega) (df_X5 (by omega) (df_up (by omega) (df_X0 (by omega) (df_up (by omega) (df_up (by omega) (df_up (by omega) (df_up (by omega) (df_X9 (by omega) (df_up (by omega) (df_X9 (by omega) (df_up (by omega) (df_X3 (by omega) (df_up (by omega) (df_X8 (by omega) (df_mono (by omega) hD)))))))))))))))))))))))))) rfl ?_
  intro q23
  refine B _ _ _ _ rfl ?_
  show WP_ X G Q _ _ _ _ _ 152 _ _
  refine so_ctor (o := o + 56) (m := o + 67) (t := 69) E hA0 hAO (cn_X9 X.2.1 (o + 56) hs56 hs57 hs58 hs59 hs60 hs61 hs62 hs63 hs64 hs65 hs66) (by omega) (by rw [hR]; decide) (by rw [hR]; decide) (by rw [hR]; decide) (eX10_init _ (List.mem_of_getElem? (i := 75) rfl)) rfl (by decide) ⟨by decide, by decide, by decide, by decide⟩ wl_X10_25 wi_X9_init wn_X9 wc_X9_init (df_up (by omega) (df_X9 (by omega) (df_up (by omega) (df_up (by omega) (df_up (by omega) (df_X7 (by omega) (df_up (by omega) (df_X6 (by omega) (df_up (by omega) (df_X2 (by omega) (df_up (by omega) (df_X5 (by omega) (df_up (by omega) (df_X0 (by omega) (df_up (by omega) (df_up (by omega) (df_up (by omega) (df_up (by omega) (df_X9 (by omega) (df_up (by omega) (df_X9 (by omega) (df_up (by omega) (df_X3 (by omega) (df_up (by omega) (df_X8 (by omega) (df_mono (by omega) hD)))))))))))))))))))))))))) rfl ?_
  intro q24
  refine so_ast (u := 69) (t := 81) (c := 9) (N := 3) (i := 6) (a := o + 27) E (eX10_init _ (List.mem_of_getElem? (i := 76) rfl)) ((ups_n (by omega)).trans ((T_X9_n (by omega)).trans ((ups_n (by omega)).trans ((ups_n (by omega)).trans ((ups_n (by omega)).trans ((T_X7_n (by omega)).trans ((ups_n (by omega)).trans ((T_X6_n (by omega)).trans ((ups_n (by omega)).trans ((T_X2_n (by omega)).trans ((ups_n (by omega)).trans ((T_X5_n (by omega)).trans ((ups_n (by omega)).trans ((T_X0_n (by omega)).trans ((ups_n (by omega)).trans ((ups_n (by omega)).trans ups_s)))))))))))))))) (tg_ hs27 (by omega)) rfl (by omega) (fun _ => rfl) (fun _ _ _ => rfl) rfl rfl (fun _ => rfl) ?_
  refine B _ _ _ _ rfl ?_
  refine And.intro (by omega) ?_
  refine B _ _ _ _ rfl ?_
  refine And.intro (fun h3 => (by exfalso; omega)) (fun h3 => ?_)
  show WP_ X G Q _ _ _ _ _ 148 _ _
  refine so_new (n := o + 67) (sh := 69) (c := 9) (N := 10) E hA0 (eX10_init _ (List.mem_of_getElem? (i := 73) rfl)) rfl rfl hs67 (by decide) (fun _ _ _ => rfl) wk_X10_23 wx_X9 wn_X9 (by rw [hR]; decide) (by rw [hR]; decide) (df_up (by omega) (df_X9 (by omega) (df_up (by omega) (df_X9 (by omega) (df_up (by omega) (df_up (by omega) (df_up (by omega) (df_X7 (by omega) (df_up (by omega) (df_X6 (by omega) (df_up (by omega) (df_X2 (by omega) (df_up (by omega) (df_X5 (by omega) (df_up (by omega) (df_X0 (by omega) (df_up (by omega) (df_up (by omega) (df_up (by omega) (df_up (by omega) (df_X9 (by omega) (df_up (by omega) (df_X9 (by omega) (df_up (by omega) (df_X3 (by omega) (df_up (by omega) (df_X8 (by omega) (df_mono (by omega) hD)))))))))))))))))))))))))))) rfl ?_
  intro q25
  refine B _ _ _ _ rfl ?_
  show WP_ X G Q _ _ _ _ _ 152 _ _
  refine so_ctor (o := o + 67) (m := o + 78) (t := 69) E hA0 hAO (cn_X9 X.2.1 (o + 67) hs67 hs68 hs69 hs70 hs71 hs72 hs73 hs74 hs75 hs76 hs77) (by omega) (by rw [hR]; decide) (by rw [hR]; decide) (by rw [hR]; decide) (eX10_init _ (List.mem_of_getElem? (i := 75) rfl)) rfl (by decide) ⟨by decide, by decide, by decide, by decide⟩ wl_X10_25 wi_X9_init wn_X9 wc_X9_init (df_up (by omega) (df_X9 (by omega) (df_up (by omega) (df_X9 (by omega) (df_up (by omega) (df_up (by omega) (df_up (by omega) (df_X7 (by omega) (df_up (by omega) (df_X6 (by omega) (df_up (by omega) (df_X2 (by omega) (df_up (by omega) (df_X5 (by omega) (df_up (by omega) (df_X0 (by omega) (df_up (by omega) (df_up (by omega) (df_up (by omega) (df_up (by omega) (df_X9 (by omega) (df_up (by omega) (df_X9 (by omega) (df_up (by omega) (df_X3 (by omega) (df_up (by omega) (df_X8 (by omega) (df_mono (by omega) hD)))))))))))))))))))))))))))) rfl ?_
  intro q26
  refine so_ast (u := 69) (t := 81) (c := 9) (N := 3) (i := 6) (a := o + 27) E (eX10_init _ (List.mem_of_getElem? (i := 76) rfl)) ((ups_n (by omega)).trans ((T_X9_n (by omega)).trans ((ups_n (by omega)).trans ((T_X9_n (by omega)).trans ((ups_n (by omega)).trans ((ups_n (by omega)).trans ((ups_n (by omega)).trans ((T_X7_n (by omega)).trans ((ups_n (by omega)).trans ((T_X6_n (by omega)).trans ((ups_n (by omega)).trans ((T_X2_n (by omega)).trans ((ups_n (by omega)).trans ((T_X5_n (by omega)).trans ((ups_n (by omega)).trans ((T_X0_n (by omega)).trans ((ups_n (by omega)).trans ((ups_n (by omega)).trans ups_s)))))))))))))))))) (tg_ hs27 (by omega)) rfl (by omega) (fun _ => rfl) (fun _ _ _ => rfl) rfl rfl (fun _ => rfl) ?_
  refine B _ _ _ _ rfl ?_
  refine And.intro (by omega) ?_
  refine B _ _ _ _ rfl ?_
  refine And.intro (fun h4 => ?_) (fun h4 => (by exfalso; omega))
  refine B _ _ _ _ rfl ?_
  refine And.intro (fun h5 => (by exfalso; omega)) (fun h5 => ?_)
  show WP_ X G Q _ _ _ _ _ 174 _ _
  refine so_new (n := o + 78) (sh := 64) (c := 4) (N := 4) E hA0 (eX10_init _ (List.mem_of_getElem? (i := 87) rfl)) rfl rfl hs78 (by decide) (fun _ _ _ => rfl) wk_X10_41 wx_X4 wn_X4 (by rw [hR]; decide) (by rw [hR]; decide) (df_up (by omega) (df_X9 (by omega) (df_up (by omega) (df_X9 (by omega) (df_up (by omega) (df_X9 (by omega) (df_up (by omega) (df_up (by omega) (df_up (by omega) (df_X7 (by omega) (df_up (by omega) (df_X6 (by omega) (df_up (by omega) (df_X2 (by omega) (df_up (by omega) (df_X5 (by omega) (df_up (by omega) (df_X0 (by omega) (df_up (by omega) (df_up (by omega) (df_up (by omega) (df_up (by omega) (df_X9 (by omega) (df_up (by omega) (df_X9 (by omega) (df_up (by omega) (df_X3 (by omega) (df_up (by omega) (df_X8 (by omega) (df_mono (by omega) hD)))))))))))))))))))))))))))))) rfl ?_
  intro q27
  refine B _ _ _ _ rfl ?_
  show WP_ X G Q _ _ _ _ _ 178 _ _
  refine so_ctorN (host := RX10) (o := o + 78) (m := o + 80) (t := 64) E hA0 hAO (cn_X4 X.2.1 (o + 78) hs78 hs79) (by omega) (by rw [hR]; decide) (by rw [hR]; decide) (by rw [hR]; decide) (eX10_init _ (List.mem_of_getElem? (i := 89) rfl)) rfl (by decide) ⟨by decide, by decide, by decide, by decide⟩ wnl_X10_89 wi_X4_init wn_X4 wc_X4_init (df_up (by omega) (df_X9 (by omega) (df_up (by omega) (df_X9 (by omega) (df_up (by omega) (df_X9 (by omega) (df_up (by omega) (df_up (by omega) (df_up (by omega) (df_X7 (by omega) (df_up (by omega) (df_X6 (by omega) (df_up (by omega) (df_X2 (by omega) (df_up (by omega) (df_X5 (by omega) (df_up (by omega) (df_X0 (by omega) (df_up (by omega) (df_up (by omega) (df_up (by omega) (df_up (by omega) (df_X9 (by omega) (df_up (by omega) (df_X9 (by omega) (df_up (by omega) (df_X3 (by omega) (df_up (by omega) (df_X8 (by omega) (df_mono (by omega) hD)))))))))))))))))))))))))))))) rfl ?_
  intro q28
  refine so_ast (u := 64) (t := 82) (c := 4) (N := 4) (i := 5) (a := o + 29) E (eX10_init _ (List.mem_of_getElem? (i := 90) rfl)) ((ups_n (by omega)).trans ((T_X9_n (by omega)).trans ((ups_n (by omega)).trans ((T_X9_n (by omega)).trans ((ups_n (by omega)).trans ((T_X9_n (by omega)).trans ((ups_n (by omega)).trans ((ups_n (by omega)).trans ((ups_n (by omega)).trans ((T_X7_n (by omega)).trans ((ups_n (by omega)).trans ((T_X6_n (by omega)).trans ((ups_n (by omega)).trans ((T_X2_n (by omega)).trans ((ups_n (by omega)).trans ((T_X5_n (by omega)).trans ((ups_n (by omega)).trans ((T_X0_n (by omega)).trans ups_s)))))))))))))))))) (tg_ hs29 (by omega)) rfl (by omega) (fun _ => rfl) (fun _ _ _ => rfl) rfl rfl (fun _ => rfl) ?_
  refine B _ _ _ _ rfl ?_
  refine And.intro (by omega) ?_
  refine B _ _ _ _ rfl ?_
  refine And.intro (fun h6 => (by exfalso; omega)) (fun h6 => ?_)
  show WP_ X G Q _ _ _ _ _ 174 _ _
  refine so_new (n := o + 80) (sh := 64) (c := 4) (N := 4) E hA0 (eX10_init _ (List.mem_of_getElem? (i := 87) rfl)) rfl rfl hs80 (by decide) (fun _ _ _ => rfl) wk_X10_41 wx_X4 wn_X4 (by rw [hR]; decide) (by rw [hR]; decide) (df_up (by omega) (df_X4 (by omega) (df_up (by omega) (df_X9 (by omega) (df_up (by omega) (df_X9 (by omega) (df_up (by omega) (df_X9 (by omega) (df_up (by omega) (df_up (by omega) (df_up (by omega) (df_X7 (by omega) (df_up (by omega) (df_X6 (by omega) (df_up (by omega) (df_X2 (by omega) (df_up (by omega) (df_X5 (by omega) (df_up (by omega) (df_X0 (by omega) (df_up (by omega) (df_up (by omega) (df_up (by omega) (df_up (by omega) (df_X9 (by omega) (df_up (by omega) (df_X9 (by omega) (df_up (by omega) (df_X3 (by omega) (df_up (by omega) (df_X8 (by omega) (df_mono (by omega) hD)))))))))))))))))))))))))))))))) rfl ?_
  intro q29
  refine B _ _ _ _ rfl ?_
  show WP_ X G Q _ _ _ _ _ 178 _ _
  refine so_ctorN (host := RX10) (o := o + 80) (m := o + 82) (t := 64) E hA0 hAO (cn_X4 X.2.1 (o + 80) hs80 hs81) (by omega) (by rw [hR]; decide) (by rw [hR]; decide) (by rw [hR]; decide) (eX10_init _ (List.mem_of_getElem? (i := 89) rfl)) rfl (by decide) ⟨by decide, by decide, by decide, by decide⟩ wnl_X10_89 wi_X4_init wn_X4 wc_X4_init (df_up (by omega) (df_X4 (by omega) (df_up (by omega) (df_X9 (by omega) (df_up (by omega) (df_X9 (by omega) (df_up (by omega) (df_X9 (by omega) (df_up (by omega) (df_up (by omega) (df_up (by omega) (df_X7 (by omega) (df_up (by omega) (df_X6 (by omega) (df_up (by omega) (df_X2 (by omega) (df_up (by omega) (df_X5 (by omega) (df_up (by omega) (df_X0 (by omega) (df_up (by omega) (df_up (by omega) (df_up (by omega) (df_up (by omega) (df_X9 (by omega) (df_up (by omega) (df_X9 (by omega) (df_up (by omega) (df_X3 (by omega) (df_up (by omega) (df_X8 (by omega) (df_mono (by omega) hD)))))))))))))))))))))))))))))))) rfl ?_
  intro q30
  refine so_ast (u := 64) (t := 82) (c := 4) (N := 4) (i := 5) (a := o + 29) E (eX10_init _ (List.mem_of_getElem? (i := 90) rfl)) ((ups_n (by omega)).trans ((T_X4_n (by omega)).trans ((ups_n (by omega)).trans ((T_X9_n (by omega)).trans ((ups_n (by omega)).trans ((T_X9_n (by omega)).trans ((ups_n (by omega)).trans ((T_X9_n (by omega)).trans ((ups_n (by omega)).trans ((ups_n (by omega)).trans ((ups_n (by omega)).trans ((T_X7_n (by omega)).trans ((ups_n (by omega)).trans ((T_X6_n (by omega)).trans ((ups_n (by omega)).trans ((T_X2_n (by omega)).trans ((ups_n (by omega)).trans ((T_X5_n (by omega)).trans ((ups_n (by omega)).trans ((T_X0_n (by omega)).trans ups_s)))))))))))))))))))) (tg_ hs29 (by omega)) rfl (by omega) (fun _ => rfl) (fun _ _ _ => rfl) rfl rfl (fun _ => rfl) ?_
  refine B _ _ _ _ rfl ?_
  refine And.intro (by omega) ?_
  refine B _ _ _ _ rfl ?_
  refine And.intro (fun h7 => (by exfalso; omega)) (fun h7 => ?_)
  show WP_ X G Q _ _ _ _ _ 174 _ _
  refine so_new (n := o + 82) (sh := 64) (c := 4) (N := 4) E hA0 (eX10_init _ (List.mem_of_getElem? (i := 87) rfl)) rfl rfl hs82 (by decide) (fun _ _ _ => rfl) wk_X10_41 wx_X4 wn_X4 (by rw [hR]; decide) (by rw [hR]; decide) (df_up (by omega) (df_X4 (by omega) (df_up (by omega) (df_X4 (by omega) (df_up (by omega) (df_X9 (by omega) (df_up (by omega) (df_X9 (by omega) (df_up (by omega) (df_X9 (by omega) (df_up (by omega) (df_up (by omega) (df_up (by omega) (df_X7 (by omega) (df_up (by omega) (df_X6 (by omega) (df_up (by omega) (df_X2 (by omega) (df_up (by omega) (df_X5 (by omega) (df_up (by omega) (df_X0 (by omega) (df_up (by omega) (df_up (by omega) (df_up (by omega) (df_up (by omega) (df_X9 (by omega) (df_up (by omega) (df_X9 (by omega) (df_up (by omega) (df_X3 (by omega) (df_up (by omega) (df_X8 (by omega) (df_mono (by omega) hD)))))))))))))))))))))))))))))))))) rfl ?_
  intro q31
  refine B _ _ _ _ rfl ?_
  show WP_ X G Q _ _ _ _ _ 178 _ _
  refine so_ctorN (host := RX10) (o := o + 82) (m := o + 84) (t := 64) E hA0 hAO (cn_X4 X.2.1 (o + 82) hs82 hs83) (by omega) (by rw [hR]; decide) (by rw [hR]; decide) (by rw [hR]; decide) (eX10_init _ (List.mem_of_getElem? (i := 89) rfl)) rfl (by decide) ⟨by decide, by decide, by decide, by decide⟩ wnl_X10_89 wi_X4_init wn_X4 wc_X4_init (df_up (by omega) (df_X4 (by omega) (df_up (by omega) (df_X4 (by omega) (df_up (by omega) (df_X9 (by omega) (df_up (by omega) (df_X9 (by omega) (df_up (by omega) (df_X9 (by omega) (df_up (by omega) (df_up (by omega) (df_up (by omega) (df_X7 (by omega) (df_up (by omega) (df_X6 (by omega) (df_up (by omega) (df_X2 (by omega) (df_up (by omega) (df_X5 (by omega) (df_up (by omega) (df_X0 (by omega) (df_up (by omega) (df_up (by omega) (df_up (by omega) (df_up (by omega) (df_X9 (by omega) (df_up (by omega) (df_X9 (by omega) (df_up (by omega) (df_X3 (by omega) (df_up (by omega) (df_X8 (by omega) (df_mono (by omega) hD)))))))))))))))))))))))))))))))))) rfl ?_
  intro q32
  refine so_ast (u := 64) (t := 82) (c := 4) (N := 4) (i := 5) (a := o + 29) E (eX10_init _ (List.mem_of_getElem? (i := 90) rfl)) ((ups_n (by omega)).trans ((T_X4_n (by omega)).trans ((ups_n (by omega)).trans ((T_X4_n (by omega)).trans ((ups_n (by omega)).trans ((T_X9_n (by omega)).trans ((ups_n (by omega)).trans ((T_X9_n (by omega)).trans ((ups_n (by omega)).trans ((T_X9_n (by omega)).trans ((ups_n (by omega)).trans ((ups_n (by omega)).trans ((ups_n (by omega)).trans ((T_X7_n (by omega)).trans ((ups_n (by omega)).trans ((T_X6_n (by omega)).trans ((ups_n (by omega)).trans ((T_X2_n (by omega)).trans ((ups_n (by omega)).trans ((T_X5_n (by omega)).trans ((ups_n (by omega)).trans ((T_X0_n (by omega)).trans ups_s)))))))))))))))))))))) (tg_ hs29 (by omega)) rfl (by omega) (fun _ => rfl) (fun _ _ _ => rfl) rfl rfl (fun _ => rfl) ?_
  refine B _ _ _ _ rfl ?_
  refine And.intro (by omega) ?_
  refine B _ _ _ _ rfl ?_
  refine And.intro (fun h8 => (by exfalso; omega)) (fun h8 => ?_)
  show WP_ X G Q _ _ _ _ _ 174 _ _
  refine so_new (n := o + 84) (sh := 64) (c := 4) (N := 4) E hA0 (eX10_init _ (List.mem_of_getElem? (i := 87) rfl)) rfl rfl hs84 (by decide) (fun _ _ _ => rfl) wk_X10_41 wx_X4 wn_X4 (by rw [hR]; decide) (by rw [hR]; decide) (df_up (by omega) (df_X4 (by omega) (df_up (by omega) (df_X4 (by omega) (df_up (by omega) (df_X4 (by omega) (df_up (by omega) (df_X9 (by omega) (df_up (by omega) (df_X9 (by omega) (df_up (by omega) (df_X9 (by omega) (df_up (by omega) (df_up (by omega) (df_up (by omega) (df_X7 (by omega) (df_up (by omega) (df_X6 (by omega) (df_up (by omega) (df_X2 (by omega) (df_up (by omega) (df_X5 (by omega) (df_up (by omega) (df_X0 (by omega) (df_up (by omega) (df_up (by omega) (df_up (by omega) (df_up (by omega) (df_X9 (by omega) (df_up (by omega) (df_X9 (by omega) (df_up (by omega) (df_X3 (by omega) (df_up (by omega) (df_X8 (by omega) (df_mono (by omega) hD)))))))))))))))))))))))))))))))))))) rfl ?_
  intro q33
  refine B _ _ _ _ rfl ?_
  show WP_ X G Q _ _ _ _ _ 178 _ _
  refine so_ctorN (host := RX10) (o := o + 84) (m := o + 86) (t := 64) E hA0 hAO (cn_X4 X.2.1 (o + 84) hs84 hs85) (by omega) (by rw [hR]; decide) (by rw [hR]; decide) (by rw [hR]; decide) (eX10_init _ (List.mem_of_getElem? (i := 89) rfl)) rfl (by decide) ⟨by decide, by decide, by decide, by decide⟩ wnl_X10_89 wi_X4_init wn_X4 wc_X4_init (df_up (by omega) (df_X4 (by omega) (df_up (by omega) (df_X4 (by omega) (df_up (by omega) (df_X4 (by omega) (df_up (by omega) (df_X9 (by omega) (df_up (by omega) (df_X9 (by omega) (df_up (by omega) (df_X9 (by omega) (df_up (by omega) (df_up (by omega) (df_up (by omega) (df_X7 (by omega) (df_up (by omega) (df_X6 (by omega) (df_up (by omega) (df_X2 (by omega) (df_up (by omega) (df_X5 (by omega) (df_up (by omega) (df_X0 (by omega) (df_up (by omega) (df_up (by omega) (df_up (by omega) (df_up (by omega) (df_X9 (by omega) (df_up (by omega) (df_X9 (by omega) (df_up (by omega) (df_X3 (by omega) (df_up (by omega) (df_X8 (by omega) (df_mono (by omega) hD)))))))))))))))))))))))))))))))))))) rfl ?_
  intro q34
  refine so_ast (u := 64) (t := 82) (c := 4) (N := 4) (i := 5) (a := o + 29) E (eX10_init _ (List.mem_of_getElem? (i := 90) rfl)) ((ups_n (by omega)).trans ((T_X4_n (by omega)).trans ((ups_n (by omega)).trans ((T_X4_n (by omega)).trans ((ups_n (by omega)).trans ((T_X4_n (by omega)).trans ((ups_n (by omega)).trans ((T_X9_n (by omega)).trans ((ups_n (by omega)).trans ((T_X9_n (by omega)).trans ((ups_n (by omega)).trans ((T_X9_n (by omega)).trans ((ups_n (by omega)).trans ((ups_n (by omega)).trans ((ups_n (by omega)).trans ((T_X7_n (by omega)).trans ((ups_n (by omega)).trans ((T_X6_n (by omega)).trans ((ups_n (by omega)).trans ((T_X2_n (by omega)).trans ((ups_n (by omega)).trans ((T_X5_n (by omega)).trans ((ups_n (by omega)).trans ((T_X0_n (by omega)).trans ups_s)))))))))))))))))))))))) (tg_ hs29 (by omega)) rfl (by omega) (fun _ => rfl) (fun _ _ _ => rfl) rfl rfl (fun _ => rfl) ?_
  refine B _ _ _ _ rfl ?_
  refine And.intro (by omega) ?_
  refine B _ _ _ _ rfl ?_
  refine And.intro (fun h9 => ?_) (fun h9 => (by exfalso; omega))
  exact R 188 _ _ _ (eX10_init _ (List.mem_of_getElem? (i := 93) rfl)) ⟨_, by first | rfl | (simp only [List.append_assoc]; rfl)⟩ rfl
def T_X11 (o : Nat) (σ : Me_t) : Me_t := ups_ (ups_ (ups_ (ups_ (ups_ (ups_ (ups_ (ups_ (ups_ (ups_ (ups_ (ups_ (ups_ (ups_ (ups_ (ups_ (ups_ (ups_ (ups_ (ups_ (ups_ (ups_ (ups_ (ups_ (σ) ((o : Nat) : Int) 1 ((o + 1 : Nat) : Int)) ((o : Nat) : Int) 2 ((o + 2 : Nat) : Int)) ((o : Nat) : Int) 3 ((o + 3 : Nat) : Int)) ((o : Nat) : Int) 4 ((o + 4 : Nat) : Int)) ((o : Nat) : Int) 6 ((o + 5 : Nat) : Int)) ((o : Nat) : Int) 13 (-1)) ((o : Nat) : Int) 14 ((o + 6 : Nat) : Int)) ((o : Nat) : Int) 15 ((o + 7 : Nat) : Int)) ((o : Nat) : Int) 16 ((o + 8 : Nat) : Int)) ((o : Nat) : Int) 17 ((o + 9 : Nat) : Int)) ((o : Nat) : Int) 18 ((o + 10 : Nat) : Int)) ((o : Nat) : Int) 21 ((o + 11 : Nat) : Int)) ((o : Nat) : Int) 24 ((o + 12 : Nat) : Int)) ((o : Nat) : Int) 29 ((o + 13 : Nat) : Int)) ((o : Nat) : Int) 30 ((o + 14 : Nat) : Int)) ((o : Nat) : Int) 31 ((o + 15 : Nat) : Int)) ((o + 16 : Nat) : Int) 0 (-1)) ((o + 16 : Nat) : Int) 1 (-1)) ((o + 16 : Nat) : Int) 2 (-1)) ((o + 16 : Nat) : Int) 3 (-1)) ((o : Nat) : Int) 35 ((o + 16 : Nat) : Int)) ((o : Nat) : Int) 36 ((o + 17 : Nat) : Int)) ((o : Nat) : Int) 37 ((o + 18 : Nat) : Int)) ((o : Nat) : Int) 38 ((o + 19 : Nat) : Int)
theorem T_X11_n {o : Nat} {σ : Me_t} {k j : Int} (h : k < (o : Int)) : T_X11 o σ k j = σ k j := ((ups_n (by omega)).trans ((ups_n (by omega)).trans ((ups_n (by omega)).trans ((ups_n (by omega)).trans ((ups_n (by omega)).trans ((ups_n (by omega)).trans ((ups_n (by omega)).trans ((ups_n (by omega)).trans ((ups_n (by omega)).trans ((ups_n (by omega)).trans ((ups_n (by omega)).trans ((ups_n (by omega)).trans ((ups_n (by omega)).trans ((ups_n (by omega)).trans ((ups_n (by omega)).trans ((ups_n (by omega)).trans ((ups_n (by omega)).trans ((ups_n (by omega)).trans ((ups_n (by omega)).trans ((ups_n (by omega)).trans ((ups_n (by omega)).trans ((ups_n (by omega)).trans ((ups_n (by omega)).trans ((ups_n (by omega)).trans rfl))))))))))))))))))))))))
theorem df_X11 {o n : Nat} {σ : Me_t} (h : o + 20 ≤ n) (hD : DF_ o σ) : DF_ n (T_X11 o σ) := (df_up (by omega) (df_up (by omega) (df_up (by omega) (df_up (by omega) (df_up (by omega) (df_up (by omega) (df_up (by omega) (df_up (by omega) (df_up (by omega) (df_up (by omega) (df_up (by omega) (df_up (by omega) (df_up (by omega) (df_up (by omega) (df_up (by omega) (df_up (by omega) (df_up (by omega) (df_up (by omega) (df_up (by omega) (df_up (by omega) (df_up (by omega) (df_up (by omega) (df_up (by omega) (df_up (by omega) (df_mono (by omega) hD)))))))))))))))))))))))))
set_option maxHeartbeats 4000000 in
set_option maxRecDepth 100000 in
theorem cn_X11 (l : Launch) (o : Nat) (hs0 : SHR_[o]? = some 71) (hs1 : SHR_[o + 1]? = some 33) (hs2 : SHR_[o + 2]? = some 34) (hs3 : SHR_[o + 3]? = some 35) (hs4 : SHR_[o + 4]? = some 36) (hs5 : SHR_[o + 5]? = some 37) (hs6 : SHR_[o + 6]? = some 38) (hs7 : SHR_[o + 7]? = some 39) (hs8 : SHR_[o + 8]? = some 40) (hs9 : SHR_[o + 9]? = some 41) (hs10 : SHR_[o + 10]? = some 42) (hs11 : SHR_[o + 11]? = some 43) (hs12 : SHR_[o + 12]? = some 44) (hs13 : SHR_[o + 13]? = some 45) (hs14 : SHR_[o + 14]? = some 46) (hs15 : SHR_[o + 15]? = some 47) (hs16 : SHR_[o + 16]? = some 48) (hs17 : SHR_[o + 17]? = some 49) (hs18 : SHR_[o + 18]? = some 50) (hs19 : SHR_[o + 19]? = some 51) : CN_ l yX11_init cX11_init 1 1 40 19 28196 o (o + 20) (T_X11 o) := by
  refine cn_of (by decide) (by decide) (by decide) hs0 ?_
  intro X G Q ad σ hl hR E hA0 hAO hin hD R
  have B := fun (cl sl : Nat) (ad shs : List Nat) => @bk_ X G Q cl sl ad shs RX11 cX11_init 1 none flX11 plX11 knX11 [] 9 (fun _ _ => False) none kX11_init [1, 8, 10, 17, 19, 24, 26, 33, 35, 40, 42, 54, 56, 63, 65, 72, 74, 81, 83, 90, 92, 98, 100, 106, 108, 114, 116, 122, 124, 130, 132, 137, 155, 160, 162, 169, 171, 177, 179, 182] flX11_ok plX11_ok knX11_ok eX11_init oX11_init (fun _ h => absurd h List.not_mem_nil) (fun _ _ _ _ _ h => h.elim) sok_no E
  show WP_ X G Q 0 0 ad (SHR_.take (o + 1)) σ 0 [(81, (o : Int))] []
  refine B _ _ _ _ rfl ?_
  show WP_ X G Q _ _ _ _ _ 1 _ _
  refine so_obj E (eX11_init _ (List.mem_of_getElem? (i := 1) rfl)) wo_X11 wo_i wo_c rfl (by rw [hR]; decide) (by rw [hR]; decide) ?_
  refine B _ _ _ _ rfl ?_
  show WP_ X G Q _ _ _ _ _ 8 _ _
  refine so_newi (n := o + 1) (sh := 33) (a := 1) (c := 0) (N := 495) (i := 0) (ty := .int) E hA0 (eX11_init _ (List.mem_of_getElem? (i := 4) rfl)) rfl rfl (fun _ => rfl) (Or.inl rfl) rfl rfl (by decide) hs1 (fun _ => ⟨rfl, rfl⟩) (fun _ _ _ => rfl) wy_int (by rw [hR]; decide) (by rw [hR]; decide) (df_mono (by omega) hD) rfl ?_
  intro q0
  refine so_putF (c := 11) (jn := 1) (ji := 1) (N := 39) (t := 71) (u := 33) E hin (eX11_init _ (List.mem_of_getElem? (i := 5) rfl)) rfl rfl (by decide) rfl wf_X11_9 rfl rfl rfl (fun _ _ _ => rfl) ?_
  refine B _ _ _ _ rfl ?_
  show WP_ X G Q _ _ _ _ _ 17 _ _
  refine so_newi (n := o + 2) (sh := 34) (a := 1) (c := 0) (N := 1485) (i := 0) (ty := .int) E hA0 (eX11_init _ (List.mem_of_getElem? (i := 8) rfl)) rfl rfl (fun _ => rfl) (Or.inl rfl) rfl rfl (by decide) hs2 (fun _ => ⟨rfl, rfl⟩) (fun _ _ _ => rfl) wy_int (by rw [hR]; decide) (by rw [hR]; decide) (df_up (by omega) (df_mono (by omega) hD)) rfl ?_
  intro q1
  refine so_putF (c := 11) (jn := 2) (ji := 2) (N := 39) (t := 71) (u := 34) E hin (eX11_init _ (List.mem_of_getElem? (i := 9) rfl)) rfl rfl (by decide) rfl wf_X11_13 rfl rfl rfl (fun _ _ _ => rfl) ?_
  refine B _ _ _ _ rfl ?_
  show WP_ X G Q _ _ _ _ _ 24 _ _
  refine so_newi (n := o + 3) (sh := 35) (a := 3) (c := 0) (N := 3) (i := 2) (ty := .boolean) E hA0 (eX11_init _ (List.mem_of_getElem? (i := 12) rfl)) rfl rfl (fun _ => rfl) (Or.inr (Or.inr rfl)) rfl rfl (by decide) hs3 (fun _ => ⟨rfl, rfl⟩) (fun _ _ _ => rfl) wy_boolean (by rw [hR]; decide) (by rw [hR]; decide) (df_up (by omega) (df_up (by omega) (df_mono (by omega) hD))) rfl ?_
  intro q2
  refine so_putF (c := 11) (jn := 3) (ji := 3) (N := 39) (t := 71) (u := 35) E hin (eX11_init _ (List.mem_of_getElem? (i := 13) rfl)) rfl rfl (by decide) rfl wf_X11_16 rfl rfl rfl (fun _ _ _ => rfl) ?_
  refine B _ _ _ _ rfl ?_
  show WP_ X G Q _ _ _ _ _ 33 _ _
  refine so_newi (n := o + 4) (sh := 36) (a := 2) (c := 0) (N := 1200) (i := 1) (ty := .byte) E hA0 (eX11_init _ (List.mem_of_getElem? (i := 16) rfl)) rfl rfl (fun _ => rfl) (Or.inr (Or.inl rfl)) rfl rfl (by decide) hs4 (fun _ => ⟨rfl, rfl⟩) (fun _ _ _ => rfl) wy_byte (by rw [hR]; decide) (by rw [hR]; decide) (df_up (by omega) (df_up (by omega) (df_up (by omega) (df_mono (by omega) hD)))) rfl ?_
  intro q3
  refine so_putF (c := 11) (jn := 4) (ji := 4) (N := 39) (t := 71) (u := 36) E hin (eX11_init _ (List.mem_of_getElem? (i := 17) rfl)) rfl rfl (by decide) rfl wf_X11_20 rfl rfl rfl (fun _ _ _ => rfl) ?_
  refine B _ _ _ _ rfl ?_
  show WP_ X G Q _ _ _ _ _ 40 _ _
  refine so_newi (n := o + 5) (sh := 37) (a := 1) (c := 0) (N := 5) (i := 0) (ty := .int) E hA0 (eX11_init _ (List.mem_of_getElem? (i := 20) rfl)) rfl rfl (fun _ => rfl) (Or.inl rfl) rfl rfl (by decide) hs5 (fun _ => ⟨rfl, rfl⟩) (fun _ _ _ => rfl) wy_int (by rw [hR]; decide) (by rw [hR]; decide) (df_up (by omega) (df_up (by omega) (df_up (by omega) (df_up (by omega) (df_mono (by omega) hD))))) rfl ?_
  intro q4
  refine so_putF (c := 11) (jn := 6) (ji := 6) (N := 39) (t := 71) (u := 37) E hin (eX11_init _ (List.mem_of_getElem? (i := 21) rfl)) rfl rfl (by decide) rfl wf_X11_24 rfl rfl rfl (fun _ _ _ => rfl) ?_
  refine B _ _ _ _ rfl ?_
  rintro _ rfl
  show WP_ X G Q _ _ _ _ _ 54 _ _
  refine so_newi (n := o + 6) (sh := 38) (a := 1) (c := 0) (N := 495) (i := 0) (ty := .int) E hA0 (eX11_init _ (List.mem_of_getElem? (i := 27) rfl)) rfl rfl (fun _ => rfl) (Or.inl rfl) rfl rfl (by decide) hs6 (fun _ => ⟨rfl, rfl⟩) (fun _ _ _ => rfl) wy_int (by rw [hR]; decide) (by rw [hR]; decide) (df_up (by omega) (df_up (by omega) (df_up (by omega) (df_up (by omega) (df_up (by omega) (df_up (by omega) (df_mono (by omega) hD))))))) rfl ?_
  intro q5
  refine so_putF (c := 11) (jn := 14) (ji := 14) (N := 39) (t := 71) (u := 38) E hin (eX11_init _ (List.mem_of_getElem? (i := 28) rfl)) rfl rfl (by decide) rfl wf_X11_31 rfl rfl rfl (fun _ _ _ => rfl) ?_
  refine B _ _ _ _ rfl ?_
  show WP_ X G Q _ _ _ _ _ 63 _ _
  refine so_newi (n := o + 7) (sh := 39) (a := 1) (c := 0) (N := 6000) (i := 0) (ty := .int) E hA0 (eX11_init _ (List.mem_of_getElem? (i := 31) rfl)) rfl rfl (fun _ => rfl) (Or.inl rfl) rfl rfl (by decide) hs7 (fun _ => ⟨rfl, rfl⟩) (fun _ _ _ => rfl) wy_int (by rw [hR]; decide) (by rw [hR]; decide) (df_up (by omega) (df_up (by omega) (df_up (by omega) (df_up (by omega) (df_up (by omega) (df_up (by omega) (df_up (by omega) (df_mono (by omega) hD)))))))) rfl ?_
  intro q6
  refine so_putF (c := 11) (jn := 15) (ji := 15) (N := 39) (t := 71) (u := 39) E hin (eX11_init _ (List.mem_of_getElem? (i := 32) rfl)) rfl rfl (by decide) rfl wf_X11_34 rfl rfl rfl (fun _ _ _ => rfl) ?_
  refine B _ _ _ _ rfl ?_
  show WP_ X G Q _ _ _ _ _ 72 _ _
  refine so_newi (n := o + 8) (sh := 40) (a := 1) (c := 0) (N := 6000) (i := 0) (ty := .int) E hA0 (eX11_init _ (List.mem_of_getElem? (i := 35) rfl)) rfl rfl (fun _ => rfl) (Or.inl rfl) rfl rfl (by decide) hs8 (fun _ => ⟨rfl, rfl⟩) (fun _ _ _ => rfl) wy_int (by rw [hR]; decide) (by rw [hR]; decide) (df_up (by omega) (df_up (by omega) (df_up (by omega) (df_up (by omega) (df_up (by omega) (df_up (by omega) (df_up (by omega) (df_up (by omega) (df_mono (by omega) hD))))))))) rfl ?_
  intro q7
  refine so_putF (c := 11) (jn := 16) (ji := 16) (N := 39) (t := 71) (u := 40) E hin (eX11_init _ (List.mem_of_getElem? (i := 36) rfl)) rfl rfl (by decide) rfl wf_X11_37 rfl rfl rfl (fun _ _ _ => rfl) ?_
  refine B _ _ _ _ rfl ?_
  show WP_ X G Q _ _ _ _ _ 81 _ _
  refine so_newi (n := o + 9) (sh := 41) (a := 1) (c := 0) (N := 6000) (i := 0) (ty := .int) E hA0 (eX11_init _ (List.mem_of_getElem? (i := 39) rfl)) rfl rfl (fun _ => rfl) (Or.inl rfl) rfl rfl (by decide) hs9 (fun _ => ⟨rfl, rfl⟩) (fun _ _ _ => rfl) wy_int (by rw [hR]; decide) (by rw [hR]; decide) (df_up (by omega) (df_up (by omega) (df_up (by omega) (df_up (by omega) (df_up (by omega) (df_up (by omega) (df_up (by omega) (df_up (by omega) (df_up (by omega) (df_mono (by omega) hD)))))))))) rfl ?_
  intro q8
  refine so_putF (c := 11) (jn := 17) (ji := 17) (N := 39) (t := 71) (u := 41) E hin (eX11_init _ (List.mem_of_getElem? (i := 40) rfl)) rfl rfl (by decide) rfl wf_X11_40 rfl rfl rfl (fun _ _ _ => rfl) ?_
  refine B _ _ _ _ rfl ?_
  show WP_ X G Q _ _ _ _ _ 90 _ _
  refine so_newi (n := o + 10) (sh := 42) (a := 1) (c := 0) (N := 6000) (i := 0) (ty := .int) E hA0 (eX11_init _ (List.mem_of_getElem? (i := 43) rfl)) rfl rfl (fun _ => rfl) (Or.inl rfl) rfl rfl (by decide) hs10 (fun _ => ⟨rfl, rfl⟩) (fun _ _ _ => rfl) wy_int (by rw [hR]; decide) (by rw [hR]; decide) (df_up (by omega) (df_up (by omega) (df_up (by omega) (df_up (by omega) (df_up (by omega) (df_up (by omega) (df_up (by omega) (df_up (by omega) (df_up (by omega) (df_up (by omega) (df_mono (by omega) hD))))))))))) rfl ?_
  intro q9
  refine so_putF (c := 11) (jn := 18) (ji := 18) (N := 39) (t := 71) (u := 42) E hin (eX11_init _ (List.mem_of_getElem? (i := 44) rfl)) rfl rfl (by decide) rfl wf_X11_43 rfl rfl rfl (fun _ _ _ => rfl) ?_
  refine B _ _ _ _ rfl ?_
  show WP_ X G Q _ _ _ _ _ 98 _ _
  refine so_newi (n := o + 11) (sh := 43) (a := 3) (c := 0) (N := 70) (i := 2) (ty := .boolean) E hA0 (eX11_init _ (List.mem_of_getElem? (i := 47) rfl)) rfl rfl (fun _ => rfl) (Or.inr (Or.inr rfl)) rfl rfl (by decide) hs11 (fun _ => ⟨rfl, rfl⟩) (fun _ _ _ => rfl) wy_boolean (by rw [hR]; decide) (by rw [hR]; decide) (df_up (by omega) (df_up (by omega) (df_up (by omega) (df_up (by omega) (df_up (by omega) (df_up (by omega) (df_up (by omega) (df_up (by omega) (df_up (by omega) (df_up (by omega) (df_up (by omega) (df_mono (by omega) hD)))))))))))) rfl ?_
  intro q10
  refine so_putF (c := 11) (jn := 21) (ji := 21) (N := 39) (t := 71) (u := 43) E hin (eX11_init _ (List.mem_of_getElem? (i := 48) rfl)) rfl rfl (by decide) rfl wf_X11_46 rfl rfl rfl (fun _ _ _ => rfl) ?_
  refine B _ _ _ _ rfl ?_
  show WP_ X G Q _ _ _ _ _ 106 _ _
  refine so_newi (n := o + 12) (sh := 44) (a := 1) (c := 0) (N := 12) (i := 0) (ty := .int) E hA0 (eX11_init _ (List.mem_of_getElem? (i := 51) rfl)) rfl rfl (fun _ => rfl) (Or.inl rfl) rfl rfl (by decide) hs12 (fun _ => ⟨rfl, rfl⟩) (fun _ _ _ => rfl) wy_int (by rw [hR]; decide) (by rw [hR]; decide) (df_up (by omega) (df_up (by omega) (df_up (by omega) (df_up (by omega) (df_up (by omega) (df_up (by omega) (df_up (by omega) (df_up (by omega) (df_up (by omega) (df_up (by omega) (df_up (by omega) (df_up (by omega) (df_mono (by omega) hD))))))))))))) rfl ?_
  intro q11
  refine so_putF (c := 11) (jn := 24) (ji := 24) (N := 39) (t := 71) (u := 44) E hin (eX11_init _ (List.mem_of_getElem? (i := 52) rfl)) rfl rfl (by decide) rfl wf_X11_49 rfl rfl rfl (fun _ _ _ => rfl) ?_
  refine B _ _ _ _ rfl ?_
  show WP_ X G Q _ _ _ _ _ 114 _ _
  refine so_newi (n := o + 13) (sh := 45) (a := 1) (c := 0) (N := 41) (i := 0) (ty := .int) E hA0 (eX11_init _ (List.mem_of_getElem? (i := 55) rfl)) rfl rfl (fun _ => rfl) (Or.inl rfl) rfl rfl (by decide) hs13 (fun _ => ⟨rfl, rfl⟩) (fun _ _ _ => rfl) wy_int (by rw [hR]; decide) (by rw [hR]; decide) (df_up (by omega) (df_up (by omega) (df_up (by omega) (df_up (by omega) (df_up (by omega) (df_up (by omega) (df_up (by omega) (df_up (by omega) (df_up (by omega) (df_up (by omega) (df_up (by omega) (df_up (by omega) (df_up (by omega) (df_mono (by omega) hD)))))))))))))) rfl ?_
  intro q12
  refine so_putF (c := 11) (jn := 29) (ji := 29) (N := 39) (t := 71) (u := 45) E hin (eX11_init _ (List.mem_of_getElem? (i := 56) rfl)) rfl rfl (by decide) rfl wf_X11_52 rfl rfl rfl (fun _ _ _ => rfl) ?_
  refine B _ _ _ _ rfl ?_
  show WP_ X G Q _ _ _ _ _ 122 _ _
  refine so_newi (n := o + 14) (sh := 46) (a := 1) (c := 0) (N := 41) (i := 0) (ty := .int) E hA0 (eX11_init _ (List.mem_of_getElem? (i := 59) rfl)) rfl rfl (fun _ => rfl) (Or.inl rfl) rfl rfl (by decide) hs14 (fun _ => ⟨rfl, rfl⟩) (fun _ _ _ => rfl) wy_int (by rw [hR]; decide) (by rw [hR]; decide) (df_up (by omega) (df_up (by omega) (df_up (by omega) (df_up (by omega) (df_up (by omega) (df_up (by omega) (df_up (by omega) (df_up (by omega) (df_up (by omega) (df_up (by omega) (df_up (by omega) (df_up (by omega) (df_up (by omega) (df_up (by omega) (df_mono (by omega) hD))))))))))))))) rfl ?_
  intro q13
  refine so_putF (c := 11) (jn := 30) (ji := 30) (N := 39) (t := 71) (u := 46) E hin (eX11_init _ (List.mem_of_getElem? (i := 60) rfl)) rfl rfl (by decide) rfl wf_X11_55 rfl rfl rfl (fun _ _ _ => rfl) ?_
  refine B _ _ _ _ rfl ?_
  show WP_ X G Q _ _ _ _ _ 130 _ _
  refine so_newi (n := o + 15) (sh := 47) (a := 1) (c := 0) (N := 41) (i := 0) (ty := .int) E hA0 (eX11_init _ (List.mem_of_getElem? (i := 63) rfl)) rfl rfl (fun _ => rfl) (Or.inl rfl) rfl rfl (by decide) hs15 (fun _ => ⟨rfl, rfl⟩) (fun _ _ _ => rfl) wy_int (by rw [hR]; decide) (by rw [hR]; decide) (df_up (by omega) (df_up (by omega) (df_up (by omega) (df_up (by omega) (df_up (by omega) (df_up (by omega) (df_up (by omega) (df_up (by omega) (df_up (by omega) (df_up (by omega) (df_up (by omega) (df_up (by omega) (df_up (by omega) (df_up (by omega) (df_up (by omega) (df_mono (by omega) hD)))))))))))))))) rfl ?_
  intro q14
  refine so_putF (c := 11) (jn := 31) (ji := 31) (N := 39) (t := 71) (u := 47) E hin (eX11_init _ (List.mem_of_getElem? (i := 64) rfl)) rfl rfl (by decide) rfl wf_X11_58 rfl rfl rfl (fun _ _ _ => rfl) ?_
  refine B _ _ _ _ rfl ?_
  show WP_ X G Q _ _ _ _ _ 137 _ _
  refine so_newi (n := o + 16) (sh := 48) (a := 1) (c := 0) (N := 4) (i := 0) (ty := .int) E hA0 (eX11_init _ (List.mem_of_getElem? (i := 67) rfl)) rfl rfl (fun _ => rfl) (Or.inl rfl) rfl rfl (by decide) hs16 (fun _ => ⟨rfl, rfl⟩) (fun _ _ _ => rfl) wy_int (by rw [hR]; decide) (by rw [hR]; decide) (df_up (by omega) (df_up (by omega) (df_up (by omega) (df_up (by omega) (df_up (by omega) (df_up (by omega) (df_up (by omega) (df_up (by omega) (df_up (by omega) (df_up (by omega) (df_up (by omega) (df_up (by omega) (df_up (by omega) (df_up (by omega) (df_up (by omega) (df_up (by omega) (df_mono (by omega) hD))))))))))))))))) rfl ?_
  intro q15
  refine B _ _ _ _ rfl ?_
  refine And.intro (by omega) ?_
  rintro _ rfl
  refine And.intro (by omega) ?_
  rintro _ rfl
  refine And.intro (by omega) ?_
  rintro _ rfl
  refine And.intro (by omega) ?_
  rintro _ rfl
  show WP_ X G Q _ _ _ _ _ 155 _ _
  refine so_putF (c := 11) (jn := 35) (ji := 35) (N := 39) (t := 71) (u := 48) E hin (eX11_init _ (List.mem_of_getElem? (i := 84) rfl)) rfl rfl (by decide) rfl wf_X11_61 rfl rfl rfl (fun _ _ _ => rfl) ?_
  refine B _ _ _ _ rfl ?_
  show WP_ X G Q _ _ _ _ _ 160 _ _
  refine so_newi (n := o + 17) (sh := 49) (a := 1) (c := 0) (N := 4) (i := 0) (ty := .int) E hA0 (eX11_init _ (List.mem_of_getElem? (i := 87) rfl)) rfl rfl (fun _ => rfl) (Or.inl rfl) rfl rfl (by decide) hs17 (fun _ => ⟨rfl, rfl⟩) (fun _ _ _ => rfl) wy_int (by rw [hR]; decide) (by rw [hR]; decide) (df_up (by omega) (df_up (by omega) (df_up (by omega) (df_up (by omega) (df_up (by omega) (df_up (by omega) (df_up (by omega) (df_up (by omega) (df_up (by omega) (df_up (by omega) (df_up (by omega) (df_up (by omega) (df_up (by omega) (df_up (by omega) (df_up (by omega) (df_up (by omega) (df_up (by omega) (df_up (by omega) (df_up (by omega) (df_up (by omega) (df_up (by omega) (df_mono (by omega) hD)))))))))))))))))))))) rfl ?_
  intro q16
  refine so_putF (c := 11) (jn := 36) (ji := 36) (N := 39) (t := 71) (u := 49) E hin (eX11_init _ (List.mem_of_getElem? (i := 88) rfl)) rfl rfl (by decide) rfl wf_X11_64 rfl rfl rfl (fun _ _ _ => rfl) ?_
  refine B _ _ _ _ rfl ?_
  show WP_ X G Q _ _ _ _ _ 169 _ _
  refine so_newl (n := o + 18) (sh := 50) (c := 0) (N := 240) E hA0 (eX11_init _ (List.mem_of_getElem? (i := 91) rfl)) rfl rfl (by decide) hs18 (fun _ => ⟨rfl, rfl⟩) (fun _ _ _ => rfl) wy_long (by rw [hR]; decide) (by rw [hR]; decide) (df_up (by omega) (df_up (by omega) (df_up (by omega) (df_up (by omega) (df_up (by omega) (df_up (by omega) (df_up (by omega) (df_up (by omega) (df_up (by omega) (df_up (by omega) (df_up (by omega) (df_up (by omega) (df_up (by omega) (df_up (by omega) (df_up (by omega) (df_up (by omega) (df_up (by omega) (df_up (by omega) (df_up (by omega) (df_up (by omega) (df_up (by omega) (df_up (by omega) (df_mono (by omega) hD))))))))))))))))))))))) rfl ?_
  intro q17
  refine so_putF (c := 11) (jn := 37) (ji := 37) (N := 39) (t := 71) (u := 50) E hin (eX11_init _ (List.mem_of_getElem? (i := 92) rfl)) rfl rfl (by decide) rfl wf_X11_67 rfl rfl rfl (fun _ _ _ => rfl) ?_
  refine B _ _ _ _ rfl ?_
  show WP_ X G Q _ _ _ _ _ 177 _ _
  refine so_newl (n := o + 19) (sh := 51) (c := 0) (N := 60) E hA0 (eX11_init _ (List.mem_of_getElem? (i := 95) rfl)) rfl rfl (by decide) hs19 (fun _ => ⟨rfl, rfl⟩) (fun _ _ _ => rfl) wy_long (by rw [hR]; decide) (by rw [hR]; decide) (df_up (by omega) (df_up (by omega) (df_up (by omega) (df_up (by omega) (df_up (by omega) (df_up (by omega) (df_up (by omega) (df_up (by omega) (df_up (by omega) (df_up (by omega) (df_up (by omega) (df_up (by omega) (df_up (by omega) (df_up (by omega) (df_up (by omega) (df_up (by omega) (df_up (by omega) (df_up (by omega) (df_up (by omega) (df_up (by omega) (df_up (by omega) (df_up (by omega) (df_up (by omega) (df_mono (by omega) hD)))))))))))))))))))))))) rfl ?_
  intro q18
  refine so_putF (c := 11) (jn := 38) (ji := 38) (N := 39) (t := 71) (u := 51) E hin (eX11_init _ (List.mem_of_getElem? (i := 96) rfl)) rfl rfl (by decide) rfl wf_X11_71 rfl rfl rfl (fun _ _ _ => rfl) ?_
  exact R 182 _ _ _ (eX11_init _ (List.mem_of_getElem? (i := 97) rfl)) ⟨_, by first | rfl | (simp only [List.append_assoc]; rfl)⟩ rfl
