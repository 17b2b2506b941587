set_option maxRecDepth 100000 in
theorem wo_X8 : Cond.methodLink RX8 3 objectInit ∈ gl_ := wg_ 110 (by decide +kernel) rfl
set_option maxRecDepth 100000 in
theorem wo_i : Cond.instanceMethod objectInit ∈ gl_ := wg_ 103 (by decide +kernel) rfl
set_option maxRecDepth 100000 in
theorem wo_c : Cond.code objectInit ⟨#[0xb1]⟩ 1 none ∈ gl_ := wg_ 104 (by decide +kernel) rfl
set_option maxRecDepth 100000 in
theorem wy_byte : Cond.arrayClass .byte ∈ gl_ := wg_ 121 (by decide +kernel) rfl
set_option maxRecDepth 100000 in
theorem wf_X8_9 : Cond.fieldLink RX8 9 (TX8 0).1 (TX8 0).2.1 (TX8 0).2.2.1 ∈ gl_ := wg_ 111 (by decide +kernel) rfl
set_option maxRecDepth 100000 in
theorem wo_X3 : Cond.methodLink RX3 3 objectInit ∈ gl_ := wg_ 127 (by decide +kernel) rfl
set_option maxRecDepth 100000 in
theorem wo_X1 : Cond.methodLink RX1 3 objectInit ∈ gl_ := wg_ 167 (by decide +kernel) rfl
set_option maxRecDepth 100000 in
theorem wy_int : Cond.arrayClass .int ∈ gl_ := wg_ 218 (by decide +kernel) rfl
set_option maxRecDepth 100000 in
theorem wf_X1_36 : Cond.fieldLink RX1 36 (TX1 8).1 (TX1 8).2.1 (TX1 8).2.2.1 ∈ gl_ := wg_ 195 (by decide +kernel) rfl
set_option maxRecDepth 100000 in
theorem wo_X9 : Cond.methodLink RX9 3 objectInit ∈ gl_ := wg_ 160 (by decide +kernel) rfl
set_option maxRecDepth 100000 in
theorem wk_X9_30 : Cond.classLink RX9 30 RX1 ∈ gl_ := wg_ 161 (by decide +kernel) rfl
set_option maxRecDepth 100000 in
theorem wf_X9_32 : Cond.fieldLink RX9 32 (TX9 6).1 (TX9 6).2.1 (TX9 6).2.2.1 ∈ gl_ := wg_ 239 (by decide +kernel) rfl
set_option maxRecDepth 100000 in
theorem wf_X9_36 : Cond.fieldLink RX9 36 (TX9 7).1 (TX9 7).2.1 (TX9 7).2.2.1 ∈ gl_ := wg_ 243 (by decide +kernel) rfl
set_option maxRecDepth 100000 in
theorem wf_X9_40 : Cond.fieldLink RX9 40 (TX9 8).1 (TX9 8).2.1 (TX9 8).2.2.1 ∈ gl_ := wg_ 246 (by decide +kernel) rfl
set_option maxRecDepth 100000 in
theorem wf_X9_43 : Cond.fieldLink RX9 43 (TX9 9).1 (TX9 9).2.1 (TX9 9).2.2.1 ∈ gl_ := wg_ 249 (by decide +kernel) rfl
set_option maxRecDepth 100000 in
theorem wx_X1 : Cond.instantiable RX1 9 ∈ gl_ := wg_ 163 (by decide +kernel) rfl
set_option maxRecDepth 100000 in
theorem wnl_X9_46 : Cond.methodLinkNest RX9 46 yX1_init RX10 ∈ lw_tbl := List.mem_of_getElem? (i := 164) (by decide +kernel)
set_option maxRecDepth 100000 in
theorem wo_X0 : Cond.methodLink RX0 3 objectInit ∈ gl_ := wg_ 279 (by decide +kernel) rfl
set_option maxRecDepth 100000 in
theorem wf_X0_9 : Cond.fieldLink RX0 9 (TX0 0).1 (TX0 0).2.1 (TX0 0).2.2.1 ∈ gl_ := wg_ 280 (by decide +kernel) rfl
set_option maxRecDepth 100000 in
theorem wf_X0_15 : Cond.fieldLink RX0 15 (TX0 1).1 (TX0 1).2.1 (TX0 1).2.2.1 ∈ gl_ := wg_ 281 (by decide +kernel) rfl
set_option maxRecDepth 100000 in
theorem wf_X0_19 : Cond.fieldLink RX0 19 (TX0 2).1 (TX0 2).2.1 (TX0 2).2.2.1 ∈ gl_ := wg_ 282 (by decide +kernel) rfl
set_option maxRecDepth 100000 in
theorem wo_X5 : Cond.methodLink RX5 3 objectInit ∈ gl_ := wg_ 320 (by decide +kernel) rfl
set_option maxRecDepth 100000 in
theorem wy_boolean : Cond.arrayClass .boolean ∈ gl_ := wg_ 314 (by decide +kernel) rfl
set_option maxRecDepth 100000 in
theorem wf_X5_9 : Cond.fieldLink RX5 9 (TX5 0).1 (TX5 0).2.1 (TX5 0).2.2.1 ∈ gl_ := wg_ 321 (by decide +kernel) rfl
set_option maxRecDepth 100000 in
theorem wo_X2 : Cond.methodLink RX2 3 objectInit ∈ gl_ := wg_ 338 (by decide +kernel) rfl
set_option maxRecDepth 100000 in
theorem wf_X2_11 : Cond.fieldLink RX2 11 (TX2 0).1 (TX2 0).2.1 (TX2 0).2.2.1 ∈ gl_ := wg_ 339 (by decide +kernel) rfl
set_option maxRecDepth 100000 in
theorem wf_X2_15 : Cond.fieldLink RX2 15 (TX2 1).1 (TX2 1).2.1 (TX2 1).2.2.1 ∈ gl_ := wg_ 340 (by decide +kernel) rfl
set_option maxRecDepth 100000 in
theorem wo_X6 : Cond.methodLink RX6 3 objectInit ∈ gl_ := wg_ 355 (by decide +kernel) rfl
set_option maxRecDepth 100000 in
theorem wf_X6_9 : Cond.fieldLink RX6 9 (TX6 0).1 (TX6 0).2.1 (TX6 0).2.2.1 ∈ gl_ := wg_ 356 (by decide +kernel) rfl
set_option maxRecDepth 100000 in
theorem wf_X6_19 : Cond.fieldLink RX6 19 (TX6 2).1 (TX6 2).2.1 (TX6 2).2.2.1 ∈ gl_ := wg_ 360 (by decide +kernel) rfl
set_option maxRecDepth 100000 in
theorem wo_X7 : Cond.methodLink RX7 3 objectInit ∈ gl_ := wg_ 381 (by decide +kernel) rfl
set_option maxRecDepth 100000 in
theorem wf_X7_9 : Cond.fieldLink RX7 9 (TX7 0).1 (TX7 0).2.1 (TX7 0).2.2.1 ∈ gl_ := wg_ 382 (by decide +kernel) rfl
set_option maxRecDepth 100000 in
theorem wf_X7_19 : Cond.fieldLink RX7 19 (TX7 2).1 (TX7 2).2.1 (TX7 2).2.2.1 ∈ gl_ := wg_ 384 (by decide +kernel) rfl
set_option maxRecDepth 100000 in
theorem wo_X4 : Cond.methodLink RX4 3 objectInit ∈ gl_ := wg_ 404 (by decide +kernel) rfl
set_option maxRecDepth 100000 in
theorem wy_long : Cond.arrayClass .long ∈ gl_ := wg_ 426 (by decide +kernel) rfl
set_option maxRecDepth 100000 in
theorem wf_X4_9 : Cond.fieldLink RX4 9 (TX4 0).1 (TX4 0).2.1 (TX4 0).2.2.1 ∈ gl_ := wg_ 405 (by decide +kernel) rfl
set_option maxRecDepth 100000 in
theorem wo_X10 : Cond.methodLink RX10 1 objectInit ∈ gl_ := wg_ 102 (by decide +kernel) rfl
set_option maxRecDepth 100000 in
theorem wk_X10_7 : Cond.classLink RX10 7 RX8 ∈ gl_ := wg_ 105 (by decide +kernel) rfl
set_option maxRecDepth 100000 in
theorem wx_X8 : Cond.instantiable RX8 2 ∈ gl_ := wg_ 106 (by decide +kernel) rfl
set_option maxRecDepth 100000 in
theorem wnl_X10_9 : Cond.methodLinkNest RX10 9 yX8_init RX10 ∈ lw_tbl := List.mem_of_getElem? (i := 107) (by decide +kernel)
set_option maxRecDepth 100000 in
theorem wf_X10_10 : Cond.fieldLink RX10 10 (TX10 0).1 (TX10 0).2.1 (TX10 0).2.2.1 ∈ gl_ := wg_ 427 (by decide +kernel) rfl
set_option maxRecDepth 100000 in
theorem wk_X10_16 : Cond.classLink RX10 16 RX3 ∈ gl_ := wg_ 122 (by decide +kernel) rfl
set_option maxRecDepth 100000 in
theorem wx_X3 : Cond.instantiable RX3 8 ∈ gl_ := wg_ 123 (by decide +kernel) rfl
set_option maxRecDepth 100000 in
theorem wnl_X10_18 : Cond.methodLinkNest RX10 18 yX3_init RX10 ∈ lw_tbl := List.mem_of_getElem? (i := 124) (by decide +kernel)
set_option maxRecDepth 100000 in
theorem wf_X10_19 : Cond.fieldLink RX10 19 (TX10 1).1 (TX10 1).2.1 (TX10 1).2.2.1 ∈ gl_ := wg_ 428 (by decide +kernel) rfl
set_option maxRecDepth 100000 in
theorem wk_X10_23 : Cond.classLink RX10 23 RX9 ∈ gl_ := wg_ 155 (by decide +kernel) rfl
set_option maxRecDepth 100000 in
theorem wx_X9 : Cond.instantiable RX9 10 ∈ gl_ := wg_ 156 (by decide +kernel) rfl
set_option maxRecDepth 100000 in
theorem wf_X10_33 : Cond.fieldLink RX10 33 (TX10 4).1 (TX10 4).2.1 (TX10 4).2.2.1 ∈ gl_ := wg_ 431 (by decide +kernel) rfl
set_option maxRecDepth 100000 in
theorem wf_X10_37 : Cond.fieldLink RX10 37 (TX10 5).1 (TX10 5).2.1 (TX10 5).2.2.1 ∈ gl_ := wg_ 432 (by decide +kernel) rfl
set_option maxRecDepth 100000 in
theorem wk_X10_41 : Cond.classLink RX10 41 RX4 ∈ gl_ := wg_ 272 (by decide +kernel) rfl
set_option maxRecDepth 100000 in
theorem wf_X10_43 : Cond.fieldLink RX10 43 (TX10 6).1 (TX10 6).2.1 (TX10 6).2.2.1 ∈ gl_ := wg_ 433 (by decide +kernel) rfl
set_option maxRecDepth 100000 in
theorem wk_X10_47 : Cond.classLink RX10 47 RX0 ∈ gl_ := wg_ 274 (by decide +kernel) rfl
set_option maxRecDepth 100000 in
theorem wx_X0 : Cond.instantiable RX0 9 ∈ gl_ := wg_ 275 (by decide +kernel) rfl
set_option maxRecDepth 100000 in
theorem wnl_X10_49 : Cond.methodLinkNest RX10 49 yX0_init RX10 ∈ lw_tbl := List.mem_of_getElem? (i := 276) (by decide +kernel)
set_option maxRecDepth 100000 in
theorem wf_X10_50 : Cond.fieldLink RX10 50 (TX10 7).1 (TX10 7).2.1 (TX10 7).2.2.1 ∈ gl_ := wg_ 434 (by decide +kernel) rfl
set_option maxRecDepth 100000 in
theorem wk_X10_54 : Cond.classLink RX10 54 RX5 ∈ gl_ := wg_ 315 (by decide +kernel) rfl
set_option maxRecDepth 100000 in
theorem wx_X5 : Cond.instantiable RX5 3 ∈ gl_ := wg_ 316 (by decide +kernel) rfl
set_option maxRecDepth 100000 in
theorem wnl_X10_56 : Cond.methodLinkNest RX10 56 yX5_init RX10 ∈ lw_tbl := List.mem_of_getElem? (i := 317) (by decide +kernel)
set_option maxRecDepth 100000 in
theorem wf_X10_57 : Cond.fieldLink RX10 57 (TX10 8).1 (TX10 8).2.1 (TX10 8).2.2.1 ∈ gl_ := wg_ 435 (by decide +kernel) rfl
set_option maxRecDepth 100000 in
theorem wk_X10_61 : Cond.classLink RX10 61 RX2 ∈ gl_ := wg_ 333 (by decide +kernel) rfl
set_option maxRecDepth 100000 in
theorem wx_X2 : Cond.instantiable RX2 3 ∈ gl_ := wg_ 334 (by decide +kernel) rfl
set_option maxRecDepth 100000 in
theorem wnl_X10_63 : Cond.methodLinkNest RX10 63 yX2_init RX10 ∈ lw_tbl := List.mem_of_getElem? (i := 335) (by decide +kernel)
set_option maxRecDepth 100000 in
theorem wf_X10_64 : Cond.fieldLink RX10 64 (TX10 9).1 (TX10 9).2.1 (TX10 9).2.2.1 ∈ gl_ := wg_ 436 (by decide +kernel) rfl
set_option maxRecDepth 100000 in
theorem wk_X10_68 : Cond.classLink RX10 68 RX6 ∈ gl_ := wg_ 350 (by decide +kernel) rfl
set_option maxRecDepth 100000 in
theorem wx_X6 : Cond.instantiable RX6 5 ∈ gl_ := wg_ 351 (by decide +kernel) rfl
set_option maxRecDepth 100000 in
theorem wnl_X10_70 : Cond.methodLinkNest RX10 70 yX6_init RX10 ∈ lw_tbl := List.mem_of_getElem? (i := 352) (by decide +kernel)
set_option maxRecDepth 100000 in
theorem wf_X10_71 : Cond.fieldLink RX10 71 (TX10 10).1 (TX10 10).2.1 (TX10 10).2.2.1 ∈ gl_ := wg_ 437 (by decide +kernel) rfl
set_option maxRecDepth 100000 in
theorem wk_X10_75 : Cond.classLink RX10 75 RX7 ∈ gl_ := wg_ 376 (by decide +kernel) rfl
set_option maxRecDepth 100000 in
theorem wx_X7 : Cond.instantiable RX7 5 ∈ gl_ := wg_ 377 (by decide +kernel) rfl
set_option maxRecDepth 100000 in
theorem wnl_X10_77 : Cond.methodLinkNest RX10 77 yX7_init RX10 ∈ lw_tbl := List.mem_of_getElem? (i := 378) (by decide +kernel)
set_option maxRecDepth 100000 in
theorem wf_X10_78 : Cond.fieldLink RX10 78 (TX10 11).1 (TX10 11).2.1 (TX10 11).2.2.1 ∈ gl_ := wg_ 438 (by decide +kernel) rfl
set_option maxRecDepth 100000 in
theorem wx_X4 : Cond.instantiable RX4 4 ∈ gl_ := wg_ 400 (by decide +kernel) rfl
set_option maxRecDepth 100000 in
theorem wnl_X10_89 : Cond.methodLinkNest RX10 89 yX4_init RX10 ∈ lw_tbl := List.mem_of_getElem? (i := 401) (by decide +kernel)
set_option maxRecDepth 100000 in
theorem wo_X11 : Cond.methodLink RX11 3 objectInit ∈ gl_ := wg_ 1230 (by decide +kernel) rfl
set_option maxRecDepth 100000 in
theorem wf_X11_9 : Cond.fieldLink RX11 9 (TX11 1).1 (TX11 1).2.1 (TX11 1).2.2.1 ∈ gl_ := wg_ 1231 (by decide +kernel) rfl
set_option maxRecDepth 100000 in
theorem wf_X11_13 : Cond.fieldLink RX11 13 (TX11 2).1 (TX11 2).2.1 (TX11 2).2.2.1 ∈ gl_ := wg_ 1232 (by decide +kernel) rfl
set_option maxRecDepth 100000 in
theorem wf_X11_16 : Cond.fieldLink RX11 16 (TX11 3).1 (TX11 3).2.1 (TX11 3).2.2.1 ∈ gl_ := wg_ 1233 (by decide +kernel) rfl
set_option maxRecDepth 100000 in
theorem wf_X11_20 : Cond.fieldLink RX11 20 (TX11 4).1 (TX11 4).2.1 (TX11 4).2.2.1 ∈ gl_ := wg_ 1234 (by decide +kernel) rfl
set_option maxRecDepth 100000 in
theorem wf_X11_24 : Cond.fieldLink RX11 24 (TX11 6).1 (TX11 6).2.1 (TX11 6).2.2.1 ∈ gl_ := wg_ 1236 (by decide +kernel) rfl
set_option maxRecDepth 100000 in
theorem wf_X11_31 : Cond.fieldLink RX11 31 (TX11 14).1 (TX11 14).2.1 (TX11 14).2.2.1 ∈ gl_ := wg_ 1244 (by decide +kernel) rfl
set_option maxRecDepth 100000 in
theorem wf_X11_34 : Cond.fieldLink RX11 34 (TX11 15).1 (TX11 15).2.1 (TX11 15).2.2.1 ∈ gl_ := wg_ 1245 (by decide +kernel) rfl
set_option maxRecDepth 100000 in
theorem wf_X11_37 : Cond.fieldLink RX11 37 (TX11 16).1 (TX11 16).2.1 (TX11 16).2.2.1 ∈ gl_ := wg_ 1246 (by decide +kernel) rfl
set_option maxRecDepth 100000 in
theorem wf_X11_40 : Cond.fieldLink RX11 40 (TX11 17).1 (TX11 17).2.1 (TX11 17).2.2.1 ∈ gl_ := wg_ 1247 (by decide +kernel) rfl
set_option maxRecDepth 100000 in
theorem wf_X11_43 : Cond.fieldLink RX11 43 (TX11 18).1 (TX11 18).2.1 (TX11 18).2.2.1 ∈ gl_ := wg_ 1248 (by decide +kernel) rfl
set_option maxRecDepth 100000 in
theorem wf_X11_46 : Cond.fieldLink RX11 46 (TX11 21).1 (TX11 21).2.1 (TX11 21).2.2.1 ∈ gl_ := wg_ 1251 (by decide +kernel) rfl
set_option maxRecDepth 100000 in
theorem wf_X11_49 : Cond.fieldLink RX11 49 (TX11 24).1 (TX11 24).2.1 (TX11 24).2.2.1 ∈ gl_ := wg_ 1254 (by decide +kernel) rfl
set_option maxRecDepth 100000 in
theorem wf_X11_52 : Cond.fieldLink RX11 52 (TX11 29).1 (TX11 29).2.1 (TX11 29).2.2.1 ∈ gl_ := wg_ 1259 (by decide +kernel) rfl
set_option maxRecDepth 100000 in
theorem wf_X11_55 : Cond.fieldLink RX11 55 (TX11 30).1 (TX11 30).2.1 (TX11 30).2.2.1 ∈ gl_ := wg_ 1260 (by decide +kernel) rfl
set_option maxRecDepth 100000 in
theorem wf_X11_58 : Cond.fieldLink RX11 58 (TX11 31).1 (TX11 31).2.1 (TX11 31).2.2.1 ∈ gl_ := wg_ 1261 (by decide +kernel) rfl
set_option maxRecDepth 100000 in
theorem wf_X11_61 : Cond.fieldLink RX11 61 (TX11 35).1 (TX11 35).2.1 (TX11 35).2.2.1 ∈ gl_ := wg_ 1265 (by decide +kernel) rfl
set_option maxRecDepth 100000 in
theorem wf_X11_64 : Cond.fieldLink RX11 64 (TX11 36).1 (TX11 36).2.1 (TX11 36).2.2.1 ∈ gl_ := wg_ 1266 (by decide +kernel) rfl
set_option maxRecDepth 100000 in
theorem wf_X11_67 : Cond.fieldLink RX11 67 (TX11 37).1 (TX11 37).2.1 (TX11 37).2.2.1 ∈ gl_ := wg_ 1267 (by decide +kernel) rfl
set_option maxRecDepth 100000 in
theorem wf_X11_71 : Cond.fieldLink RX11 71 (TX11 38).1 (TX11 38).2.1 (TX11 38).2.2.1 ∈ gl_ := wg_ 1268 (by decide +kernel) rfl
theorem ap_0 {a : List Nat} : ∃ qs, a = a ++ qs := ⟨[], (List.append_nil a).symm⟩
theorem ap_1 {a b q : List Nat} (h : ∃ qs, b = a ++ qs) : ∃ qs, b ++ q = a ++ qs := by
  obtain ⟨qs, rfl⟩ := h
  exact ⟨qs ++ q, List.append_assoc _ _ _⟩
theorem ap_t {a b c : List Nat} (h : ∃ qs, b = a ++ qs) (h2 : ∃ qs, c = b ++ qs) : ∃ qs, c = a ++ qs := by
  obtain ⟨q, rfl⟩ := h2
  exact ap_1 h
def T_X8 (o : Nat) (σ : Me_t) : Me_t := ups_ (ups_ (σ) ((o : Nat) : Int) 0 ((o + 1 : Nat) : Int)) ((o : Nat) : Int) 1 0
theorem T_X8_n {o : Nat} {σ : Me_t} {k j : Int} (h : k < (o : Int)) : T_X8 o σ k j = σ k j := ((ups_n (by omega)).trans ((ups_n (by omega)).trans rfl))
theorem df_X8 {o n : Nat} {σ : Me_t} (h : o + 2 ≤ n) (hD : DF_ o σ) : DF_ n (T_X8 o σ) := (df_up (by omega) (df_up (by omega) (df_mono (by omega) hD)))
set_option maxHeartbeats 4000000 in
set_option maxRecDepth 100000 in
theorem cn_X8 (l : Launch) (o : Nat) (hs0 : SHR_[o]? = some 68) (hs1 : SHR_[o + 1]? = some 2) : CN_ l yX8_init cX8_init 1 1 40 1 1200 o (o + 2) (T_X8 o) := by
  refine cn_of (by decide) (by decide) (by decide) hs0 ?_
  intro X G Q ad σ hl hR E hA0 hAO hin hD R
  have B := fun (cl sl : Nat) (ad shs : List Nat) => @bk_ X G Q cl sl ad shs RX8 cX8_init 1 none flX8 plX8 knX8 [] 9 (fun _ _ => False) none kX8_init [1, 8, 10, 18] flX8_ok plX8_ok knX8_ok eX8_init oX8_init (fun _ h => absurd h List.not_mem_nil) (fun _ _ _ _ _ h => h.elim) sok_no E
  show WP_ X G Q 0 0 ad (SHR_.take (o + 1)) σ 0 [(78, (o : Int))] []
  refine B _ _ _ _ rfl ?_
  show WP_ X G Q _ _ _ _ _ 1 _ _
  refine so_obj E (eX8_init (1, .invokespecial 3, 3) (List.mem_of_getElem? (i := 1) rfl)) wo_X8 wo_i wo_c rfl (by rw [hR]; decide) (by rw [hR]; decide) ?_
  refine B _ _ _ _ rfl ?_
  show WP_ X G Q _ _ _ _ _ 8 _ _
  refine so_newi (n := o + 1) (sh := 2) (a := 2) (c := 0) (N := 1200) (i := 1) (ty := .byte) E hA0 (eX8_init (8, .newarray .byte, 2) (List.mem_of_getElem? (i := 4) rfl)) rfl rfl (fun _ => rfl) (Or.inr (Or.inl rfl)) rfl rfl (by decide +kernel) hs1 (fun _ => ⟨rfl, rfl⟩) (fun _ _ _ => rfl) wy_byte (by rw [hR]; decide) (by rw [hR]; decide) (df_mono (by omega) hD) rfl ?_
  intro q0
  refine so_putF (c := 8) (jn := 0) (ji := 0) (N := 2) (t := 68) (u := 2) E hin (eX8_init (10, .putfield 9, 3) (List.mem_of_getElem? (i := 5) rfl)) rfl rfl (by decide) rfl wf_X8_9 rfl rfl rfl (fun _ _ _ => rfl) ?_
  intro σ1 e1
  have d1 : DF_ (o + 2) σ1 := by rw [e1]; exact df_up (by omega) (df_mono (by omega) hD)
  refine B _ _ _ _ rfl ?_
  intro σ2 e2
  have d2 : DF_ (o + 2) σ2 := by rw [e2]; exact df_up (by omega) (df_mono (by omega) d1)
  show WP_ X G Q _ _ _ _ _ 18 _ _
  exact R 18 _ _ _ (eX8_init (18, .return_, 1) (List.mem_of_getElem? (i := 9) rfl)) ⟨_, by first | rfl | (simp only [List.append_assoc]; rfl)⟩ (by subst e2 e1; rfl)
def T_X3 (o : Nat) (σ : Me_t) : Me_t := ups_ (ups_ (ups_ (ups_ (ups_ (ups_ (ups_ (ups_ (σ) ((o : Nat) : Int) 0 ((o + 1 : Nat) : Int)) ((o : Nat) : Int) 1 0) ((o : Nat) : Int) 2 0) ((o : Nat) : Int) 3 0) ((o : Nat) : Int) 4 0) ((o : Nat) : Int) 5 0) ((o : Nat) : Int) 6 0) ((o : Nat) : Int) 7 (-1)
theorem T_X3_n {o : Nat} {σ : Me_t} {k j : Int} (h : k < (o : Int)) : T_X3 o σ k j = σ k j := ((ups_n (by omega)).trans ((ups_n (by omega)).trans ((ups_n (by omega)).trans ((ups_n (by omega)).trans ((ups_n (by omega)).trans ((ups_n (by omega)).trans ((ups_n (by omega)).trans ((ups_n (by omega)).trans rfl))))))))
theorem df_X3 {o n : Nat} {σ : Me_t} (h : o + 2 ≤ n) (hD : DF_ o σ) : DF_ n (T_X3 o σ) := (df_up (by omega) (df_up (by omega) (df_up (by omega) (df_up (by omega) (df_up (by omega) (df_up (by omega) (df_up (by omega) (df_up (by omega) (df_mono (by omega) hD)))))))))
set_option maxHeartbeats 4000000 in
set_option maxRecDepth 100000 in
theorem cn_X3 (l : Launch) (o : Nat) (hs0 : SHR_[o]? = some 63) (hs1 : SHR_[o + 1]? = some 4) : CN_ l yX3_init cX3_init 1 1 40 1 0 o (o + 2) (T_X3 o) := by
  refine cn_of (by decide) (by decide) (by decide) hs0 ?_
  intro X G Q ad σ hl hR E hA0 hAO hin hD R
  have B := fun (cl sl : Nat) (ad shs : List Nat) => @bk_ X G Q cl sl ad shs RX3 cX3_init 1 none flX3 plX3 knX3 [] 9 (fun _ _ => False) none kX3_init [1, 6, 46] flX3_ok plX3_ok knX3_ok eX3_init oX3_init (fun _ h => absurd h List.not_mem_nil) (fun _ _ _ _ _ h => h.elim) sok_no E
  show WP_ X G Q 0 0 ad (SHR_.take (o + 1)) σ 0 [(73, (o : Int))] []
  refine B _ _ _ _ rfl ?_
  show WP_ X G Q _ _ _ _ _ 1 _ _
  refine so_obj E (eX3_init (1, .invokespecial 3, 3) (List.mem_of_getElem? (i := 1) rfl)) wo_X3 wo_i wo_c rfl (by rw [hR]; decide) (by rw [hR]; decide) ?_
  refine B _ _ _ _ rfl ?_
  show WP_ X G Q _ _ _ _ _ 6 _ _
  refine so_newi (n := o + 1) (sh := 4) (a := 2) (c := 0) (N := 0) (i := 1) (ty := .byte) E hA0 (eX3_init (6, .newarray .byte, 2) (List.mem_of_getElem? (i := 4) rfl)) rfl rfl (fun _ => rfl) (Or.inr (Or.inl rfl)) rfl rfl (by decide +kernel) hs1 (fun _ => ⟨rfl, rfl⟩) (fun _ _ _ => rfl) wy_byte (by rw [hR]; decide) (by rw [hR]; decide) (df_mono (by omega) hD) rfl ?_
  intro q0
  refine B _ _ _ _ rfl ?_
  intro σ1 e1
  have d1 : DF_ (o + 2) σ1 := by rw [e1]; exact df_up (by omega) (df_mono (by omega) hD)
  intro σ2 e2
  have d2 : DF_ (o + 2) σ2 := by rw [e2]; exact df_up (by omega) (df_mono (by omega) d1)
  intro σ3 e3
  have d3 : DF_ (o + 2) σ3 := by rw [e3]; exact df_up (by omega) (df_mono (by omega) d2)
  intro σ4 e4
  have d4 : DF_ (o + 2) σ4 := by rw [e4]; exact df_up (by omega) (df_mono (by omega) d3)
  intro σ5 e5
  have d5 : DF_ (o + 2) σ5 := by rw [e5]; exact df_up (by omega) (df_mono (by omega) d4)
  intro σ6 e6
  have d6 : DF_ (o + 2) σ6 := by rw [e6]; exact df_up (by omega) (df_mono (by omega) d5)
  intro σ7 e7
  have d7 : DF_ (o + 2) σ7 := by rw [e7]; exact df_up (by omega) (df_mono (by omega) d6)
  intro σ8 e8
  have d8 : DF_ (o + 2) σ8 := by rw [e8]; exact df_up (by omega) (df_mono (by omega) d7)
  show WP_ X G Q _ _ _ _ _ 46 _ _
  exact R 46 _ _ _ (eX3_init (46, .return_, 1) (List.mem_of_getElem? (i := 27) rfl)) ⟨_, by first | rfl | (simp only [List.append_assoc]; rfl)⟩ (by subst e8 e7 e6 e5 e4 e3 e2 e1; rfl)
def T_X1 (o : Nat) (σ : Me_t) : Me_t := ups_ (ups_ (ups_ (ups_ (ups_ (ups_ (ups_ (ups_ (ups_ (σ) ((o : Nat) : Int) 0 0) ((o : Nat) : Int) 1 2) ((o : Nat) : Int) 2 0) ((o : Nat) : Int) 3 0) ((o : Nat) : Int) 4 0) ((o : Nat) : Int) 5 (-1)) ((o : Nat) : Int) 6 0) ((o : Nat) : Int) 7 0) ((o : Nat) : Int) 8 ((o + 1 : Nat) : Int)
theorem T_X1_n {o : Nat} {σ : Me_t} {k j : Int} (h : k < (o : Int)) : T_X1 o σ k j = σ k j := ((ups_n (by omega)).trans ((ups_n (by omega)).trans ((ups_n (by omega)).trans ((ups_n (by omega)).trans ((ups_n (by omega)).trans ((ups_n (by omega)).trans ((ups_n (by omega)).trans ((ups_n (by omega)).trans ((ups_n (by omega)).trans rfl)))))))))
theorem df_X1 {o n : Nat} {σ : Me_t} (h : o + 2 ≤ n) (hD : DF_ o σ) : DF_ n (T_X1 o σ) := (df_up (by omega) (df_up (by omega) (df_up (by omega) (df_up (by omega) (df_up (by omega) (df_up (by omega) (df_up (by omega) (df_up (by omega) (df_up (by omega) (df_mono (by omega) hD))))))))))
set_option maxHeartbeats 4000000 in
set_option maxRecDepth 100000 in
theorem cn_X1 (l : Launch) (o : Nat) (hs0 : SHR_[o]? = some 61) (hs1 : SHR_[o + 1]? = some 11) : CN_ l yX1_init cX1_init 1 1 40 1 8 o (o + 2) (T_X1 o) := by
  refine cn_of (by decide) (by decide) (by decide) hs0 ?_
  intro X G Q ad σ hl hR E hA0 hAO hin hD R
  have B := fun (cl sl : Nat) (ad shs : List Nat) => @bk_ X G Q cl sl ad shs RX1 cX1_init 1 none flX1 plX1 knX1 [] 9 (fun _ _ => False) none kX1_init [1, 47, 49, 52] flX1_ok plX1_ok knX1_ok eX1_init oX1_init (fun _ h => absurd h List.not_mem_nil) (fun _ _ _ _ _ h => h.elim) sok_no E
  show WP_ X G Q 0 0 ad (SHR_.take (o + 1)) σ 0 [(71, (o : Int))] []
  refine B _ _ _ _ rfl ?_
  show WP_ X G Q _ _ _ _ _ 1 _ _
  refine so_obj E (eX1_init (1, .invokespecial 3, 3) (List.mem_of_getElem? (i := 1) rfl)) wo_X1 wo_i wo_c rfl (by rw [hR]; decide) (by rw [hR]; decide) ?_
  refine B _ _ _ _ rfl ?_
  intro σ1 e1
  have d1 : DF_ (o + 1) σ1 := by rw [e1]; exact df_up (by omega) (df_mono (by omega) hD)
  intro σ2 e2
  have d2 : DF_ (o + 1) σ2 := by rw [e2]; exact df_up (by omega) (df_mono (by omega) d1)
  intro σ3 e3
  have d3 : DF_ (o + 1) σ3 := by rw [e3]; exact df_up (by omega) (df_mono (by omega) d2)
  intro σ4 e4
  have d4 : DF_ (o + 1) σ4 := by rw [e4]; exact df_up (by omega) (df_mono (by omega) d3)
  intro σ5 e5
  have d5 : DF_ (o + 1) σ5 := by rw [e5]; exact df_up (by omega) (df_mono (by omega) d4)
  intro σ6 e6
  have d6 : DF_ (o + 1) σ6 := by rw [e6]; exact df_up (by omega) (df_mono (by omega) d5)
  intro σ7 e7
  have d7 : DF_ (o + 1) σ7 := by rw [e7]; exact df_up (by omega) (df_mono (by omega) d6)
  intro σ8 e8
  have d8 : DF_ (o + 1) σ8 := by rw [e8]; exact df_up (by omega) (df_mono (by omega) d7)
  show WP_ X G Q _ _ _ _ _ 47 _ _
  refine so_newi (n := o + 1) (sh := 11) (a := 1) (c := 0) (N := 8) (i := 0) (ty := .int) E hA0 (eX1_init (47, .newarray .int, 2) (List.mem_of_getElem? (i := 28) rfl)) rfl rfl (fun _ => rfl) (Or.inl rfl) rfl rfl (by decide +kernel) hs1 (fun _ => ⟨rfl, rfl⟩) (fun _ _ _ => rfl) wy_int (by rw [hR]; decide) (by rw [hR]; decide) (df_mono (by omega) d8) rfl ?_
  intro q0
  refine so_putF (c := 1) (jn := 8) (ji := 8) (N := 9) (t := 61) (u := 11) E hin (eX1_init (49, .putfield 36, 3) (List.mem_of_getElem? (i := 29) rfl)) rfl rfl (by decide) rfl wf_X1_36 rfl rfl rfl (fun _ _ _ => rfl) ?_
  intro σ9 e9
  have d9 : DF_ (o + 2) σ9 := by rw [e9]; exact df_up (by omega) (df_mono (by omega) d8)
  exact R 52 _ _ _ (eX1_init (52, .return_, 1) (List.mem_of_getElem? (i := 30) rfl)) ⟨_, by first | rfl | (simp only [List.append_assoc]; rfl)⟩ (by subst e9 e8 e7 e6 e5 e4 e3 e2 e1; rfl)
def T_X9 (o : Nat) (σ : Me_t) : Me_t := ups_ (T_X1 (o + 9) (ups_ (T_X1 (o + 7) (ups_ (T_X1 (o + 5) (ups_ (ups_ (ups_ (ups_ (ups_ (ups_ (ups_ (ups_ (ups_ (ups_ (σ) ((o : Nat) : Int) 0 0) ((o : Nat) : Int) 1 0) ((o : Nat) : Int) 2 0) ((o : Nat) : Int) 3 0) ((o : Nat) : Int) 4 0) ((o : Nat) : Int) 5 0) ((o : Nat) : Int) 6 ((o + 1 : Nat) : Int)) ((o : Nat) : Int) 7 ((o + 2 : Nat) : Int)) ((o : Nat) : Int) 8 ((o + 3 : Nat) : Int)) ((o : Nat) : Int) 9 ((o + 4 : Nat) : Int))) ((o + 1 : Nat) : Int) 0 ((o + 5 : Nat) : Int))) ((o + 1 : Nat) : Int) (0 + 1) ((o + 7 : Nat) : Int))) ((o + 1 : Nat) : Int) ((0 + 1) + 1) ((o + 9 : Nat) : Int)
theorem T_X9_n {o : Nat} {σ : Me_t} {k j : Int} (h : k < (o : Int)) : T_X9 o σ k j = σ k j := ((ups_n (by omega)).trans ((T_X1_n (by omega)).trans ((ups_n (by omega)).trans ((T_X1_n (by omega)).trans ((ups_n (by omega)).trans ((T_X1_n (by omega)).trans ((ups_n (by omega)).trans ((ups_n (by omega)).trans ((ups_n (by omega)).trans ((ups_n (by omega)).trans ((ups_n (by omega)).trans ((ups_n (by omega)).trans ((ups_n (by omega)).trans ((ups_n (by omega)).trans ((ups_n (by omega)).trans ((ups_n (by omega)).trans rfl))))))))))))))))
theorem df_X9 {o n : Nat} {σ : Me_t} (h : o + 11 ≤ n) (hD : DF_ o σ) : DF_ n (T_X9 o σ) := (df_up (by omega) (df_X1 (by omega) (df_up (by omega) (df_X1 (by omega) (df_up (by omega) (df_X1 (by omega) (df_up (by omega) (df_up (by omega) (df_up (by omega) (df_up (by omega) (df_up (by omega) (df_up (by omega) (df_up (by omega) (df_up (by omega) (df_up (by omega) (df_up (by omega) (df_mono (by omega) hD)))))))))))))))))
set_option maxHeartbeats 4000000 in
set_option maxRecDepth 100000 in
theorem cn_X9 (l : Launch) (o : Nat) (hs0 : SHR_[o]? = some 69) (hs1 : SHR_[o + 1]? = some 80) (hs2 : SHR_[o + 2]? = some 7) (hs3 : SHR_[o + 3]? = some 8) (hs4 : SHR_[o + 4]? = some 9) (hs5 : SHR_[o + 5]? = some 61) (hs6 : SHR_[o + 6]? = some 11) (hs7 : SHR_[o + 7]? = some 61) (hs8 : SHR_[o + 8]? = some 11) (hs9 : SHR_[o + 9]? = some 61) (hs10 : SHR_[o + 10]? = some 11) : CN_ l yX9_init cX9_init 2 2 60 10 498 o (o + 11) (T_X9 o) := by
  refine cn_of (by decide) (by decide) (by decide) hs0 ?_
  intro X G Q ad σ hl hR E hA0 hAO hin hD R
  have B := fun (cl sl : Nat) (ad shs : List Nat) => @bk_ X G Q cl sl ad shs RX9 cX9_init 2 none flX9 plX9 knX9 [] 9 (fun _ _ => False) none kX9_init [1, 36, 39, 45, 47, 53, 55, 62, 64, 79, 83, 86, 93] flX9_ok plX9_ok knX9_ok eX9_init oX9_init (fun _ h => absurd h List.not_mem_nil) (fun _ _ _ _ _ h => h.elim) sok_no E
  show WP_ X G Q 0 0 ad (SHR_.take (o + 1)) σ 0 [(79, (o : Int)), (9, 0)] []
  refine B _ _ _ _ rfl ?_
  show WP_ X G Q _ _ _ _ _ 1 _ _
  refine so_obj E (eX9_init (1, .invokespecial 3, 3) (List.mem_of_getElem? (i := 1) rfl)) wo_X9 wo_i wo_c rfl (by rw [hR]; decide) (by rw [hR]; decide) ?_
  refine B _ _ _ _ rfl ?_
  intro σ1 e1
  have d1 : DF_ (o + 1) σ1 := by rw [e1]; exact df_up (by omega) (df_mono (by omega) hD)
  intro σ2 e2
  have d2 : DF_ (o + 1) σ2 := by rw [e2]; exact df_up (by omega) (df_mono (by omega) d1)
  intro σ3 e3
  have d3 : DF_ (o + 1) σ3 := by rw [e3]; exact df_up (by omega) (df_mono (by omega) d2)
  intro σ4 e4
  have d4 : DF_ (o + 1) σ4 := by rw [e4]; exact df_up (by omega) (df_mono (by omega) d3)
  intro σ5 e5
  have d5 : DF_ (o + 1) σ5 := by rw [e5]; exact df_up (by omega) (df_mono (by omega) d4)
  intro σ6 e6
  have d6 : DF_ (o + 1) σ6 := by rw [e6]; exact df_up (by omega) (df_mono (by omega) d5)
  show WP_ X G Q _ _ _ _ _ 36 _ _
  refine so_newq (n := o + 1) (sh := 80) (c := 1) (N := 3) (i := 4) E hA0 (eX9_init (36, .anewarray 30, 3) (List.mem_of_getElem? (i := 22) rfl)) (fun _ => rfl) rfl rfl hs1 (fun _ => ⟨rfl, rfl⟩) (fun _ _ _ => rfl) wk_X9_30 hAO.1 (by rw [hR]; decide) (by rw [hR]; decide) (df_mono (by omega) d6) rfl ?_
  intro q0
  refine so_putF (c := 9) (jn := 6) (ji := 6) (N := 10) (t := 69) (u := 80) E hin (eX9_init (39, .putfield 32, 3) (List.mem_of_getElem? (i := 23) rfl)) rfl rfl (by decide) rfl wf_X9_32 rfl rfl rfl (fun _ _ _ => rfl) ?_
  intro σ7 e7
  have d7 : DF_ (o + 2) σ7 := by rw [e7]; exact df_up (by omega) (df_mono (by omega) d6)
  have f7_0_6 : σ7 ((o : Nat) : Int) 6 = ((o + 1 : Nat) : Int) := by rw [e7]; exact ups_s
  refine B _ _ _ _ rfl ?_
  show WP_ X G Q _ _ _ _ _ 45 _ _
  refine so_newi (n := o + 2) (sh := 7) (a := 1) (c := 0) (N := 48) (i := 0) (ty := .int) E hA0 (eX9_init (45, .newarray .int, 2) (List.mem_of_getElem? (i := 26) rfl)) rfl rfl (fun _ => rfl) (Or.inl rfl) rfl rfl (by decide +kernel) hs2 (fun _ => ⟨rfl, rfl⟩) (fun _ _ _ => rfl) wy_int (by rw [hR]; decide) (by rw [hR]; decide) (df_mono (by omega) d7) rfl ?_
  intro q1
  refine so_putF (c := 9) (jn := 7) (ji := 7) (N := 10) (t := 69) (u := 7) E hin (eX9_init (47, .putfield 36, 3) (List.mem_of_getElem? (i := 27) rfl)) rfl rfl (by decide) rfl wf_X9_36 rfl rfl rfl (fun _ _ _ => rfl) ?_
  intro σ8 e8
  have d8 : DF_ (o + 3) σ8 := by rw [e8]; exact df_up (by omega) (df_mono (by omega) d7)
  have f8_0_6 : σ8 ((o : Nat) : Int) 6 = ((o + 1 : Nat) : Int) := by rw [e8]; exact (ups_n (by omega)).trans f7_0_6
  refine B _ _ _ _ rfl ?_
  show WP_ X G Q _ _ _ _ _ 53 _ _
  refine so_newi (n := o + 3) (sh := 8) (a := 1) (c := 0) (N := 36) (i := 0) (ty := .int) E hA0 (eX9_init (53, .newarray .int, 2) (List.mem_of_getElem? (i := 30) rfl)) rfl rfl (fun _ => rfl) (Or.inl rfl) rfl rfl (by decide +kernel) hs3 (fun _ => ⟨rfl, rfl⟩) (fun _ _ _ => rfl) wy_int (by rw [hR]; decide) (by rw [hR]; decide) (df_mono (by omega) d8) rfl ?_
  intro q2
  refine so_putF (c := 9) (jn := 8) (ji := 8) (N := 10) (t := 69) (u := 8) E hin (eX9_init (55, .putfield 40, 3) (List.mem_of_getElem? (i := 31) rfl)) rfl rfl (by decide) rfl wf_X9_40 rfl rfl rfl (fun _ _ _ => rfl) ?_
  intro σ9 e9
  have d9 : DF_ (o + 4) σ9 := by rw [e9]; exact df_up (by omega) (df_mono (by omega) d8)
  have f9_0_6 : σ9 ((o : Nat) : Int) 6 = ((o + 1 : Nat) : Int) := by rw [e9]; exact (ups_n (by omega)).trans f8_0_6
  refine B _ _ _ _ rfl ?_
  show WP_ X G Q _ _ _ _ _ 62 _ _
  refine so_newi (n := o + 4) (sh := 9) (a := 1) (c := 0) (N := 360) (i := 0) (ty := .int) E hA0 (eX9_init (62, .newarray .int, 2) (List.mem_of_getElem? (i := 34) rfl)) rfl rfl (fun _ => rfl) (Or.inl rfl) rfl rfl (by decide +kernel) hs4 (fun _ => ⟨rfl, rfl⟩) (fun _ _ _ => rfl) wy_int (by rw [hR]; decide) (by rw [hR]; decide) (df_mono (by omega) d9) rfl ?_
  intro q3
  refine so_putF (c := 9) (jn := 9) (ji := 9) (N := 10) (t := 69) (u := 9) E hin (eX9_init (64, .putfield 43, 3) (List.mem_of_getElem? (i := 35) rfl)) rfl rfl (by decide) rfl wf_X9_43 rfl rfl rfl (fun _ _ _ => rfl) ?_
  intro σ10 e10
  have d10 : DF_ (o + 5) σ10 := by rw [e10]; exact df_up (by omega) (df_mono (by omega) d9)
  have f10_0_6 : σ10 ((o : Nat) : Int) 6 = ((o + 1 : Nat) : Int) := by rw [e10]; exact (ups_n (by omega)).trans f9_0_6
  refine B _ _ _ _ rfl ?_
  refine And.intro (fun h1 => (by exfalso; omega)) (fun h1 => ?_)
  intro zg2 ezg2 _
  show WP_ X G Q _ _ _ _ _ 79 _ _
  refine so_new (n := o + 5) (sh := 61) (c := 1) (N := 9) E hA0 (eX9_init (79, .new 30, 3) (List.mem_of_getElem? (i := 44) rfl)) rfl rfl hs5 (by decide) (fun _ _ _ => rfl) wk_X9_30 wx_X1 wn_X1 (by rw [hR]; decide) (by rw [hR]; decide) (df_mono (by omega) d10) rfl ?_
  intro q4
  refine B _ _ _ _ rfl ?_
  show WP_ X G Q _ _ _ _ _ 83 _ _
  refine so_ctorN (host := RX10) (o := o + 5) (m := o + 7) (t := 61) E hA0 hAO (cn_X1 X.2.1 (o + 5) hs5 hs6) (by omega) (by rw [hR]; decide) (by rw [hR]; decide) (by rw [hR]; decide) (eX9_init (83, .invokespecial 46, 3) (List.mem_of_getElem? (i := 46) rfl)) rfl (Nat.le_of_ble_eq_true rfl) ⟨by decide, by decide, by decide, by decide⟩ wnl_X9_46 wi_X1_init wn_X1 wc_X1_init (df_mono (by omega) d10) rfl ?_
  intro q5 σ11 e11
  have d11 : DF_ (o + 7) σ11 := by rw [e11]; exact df_X1 (by omega) (df_mono (by omega) d10)
  have f11_0_6 : σ11 ((o : Nat) : Int) 6 = ((o + 1 : Nat) : Int) := by rw [e11]; exact (T_X1_n (by omega)).trans f10_0_6
  refine so_ast (u := 61) (t := 80) (c := 1) (N := 3) (i := 4) (a := o + 1) E (eX9_init (86, .aastore, 1) (List.mem_of_getElem? (i := 47) rfl)) (ezg2.trans f10_0_6) (tg_ hs1 (by omega)) rfl (by omega) (fun _ => rfl) (fun _ _ _ => rfl) rfl rfl (fun _ => rfl) ?_
  intro σ12 e12
  have d12 : DF_ (o + 7) σ12 := by rw [e12]; exact df_up (by omega) (df_mono (by omega) d11)
  have f12_0_6 : σ12 ((o : Nat) : Int) 6 = ((o + 1 : Nat) : Int) := by rw [e12]; exact (ups_n (by omega)).trans f11_0_6
  refine B _ _ _ _ rfl ?_
  refine And.intro (by omega) ?_
  refine B _ _ _ _ rfl ?_
  refine And.intro (fun h3 => (by exfalso; omega)) (fun h3 => ?_)
  intro zg4 ezg4 _
  show WP_ X G Q _ _ _ _ _ 79 _ _
  refine so_new (n := o + 7) (sh := 61) (c := 1) (N := 9) E hA0 (eX9_init (79, .new 30, 3) (List.mem_of_getElem? (i := 44) rfl)) rfl rfl hs7 (by decide) (fun _ _ _ => rfl) wk_X9_30 wx_X1 wn_X1 (by rw [hR]; decide) (by rw [hR]; decide) (df_mono (by omega) d12) rfl ?_
  intro q6
  refine B _ _ _ _ rfl ?_
  show WP_ X G Q _ _ _ _ _ 83 _ _
  refine so_ctorN (host := RX10) (o := o + 7) (m := o + 9) (t := 61) E hA0 hAO (cn_X1 X.2.1 (o + 7) hs7 hs8) (by omega) (by rw [hR]; decide) (by rw [hR]; decide) (by rw [hR]; decide) (eX9_init (83, .invokespecial 46, 3) (List.mem_of_getElem? (i := 46) rfl)) rfl (Nat.le_of_ble_eq_true rfl) ⟨by decide, by decide, by decide, by decide⟩ wnl_X9_46 wi_X1_init wn_X1 wc_X1_init (df_mono (by omega) d12) rfl ?_
  intro q7 σ13 e13
  have d13 : DF_ (o + 9) σ13 := by rw [e13]; exact df_X1 (by omega) (df_mono (by omega) d12)
  have f13_0_6 : σ13 ((o : Nat) : Int) 6 = ((o + 1 : Nat) : Int) := by rw [e13]; exact (T_X1_n (by omega)).trans f12_0_6
  refine so_ast (u := 61) (t := 80) (c := 1) (N := 3) (i := 4) (a := o + 1) E (eX9_init (86, .aastore, 1) (List.mem_of_getElem? (i := 47) rfl)) (ezg4.trans f12_0_6) (tg_ hs1 (by omega)) rfl (by omega) (fun _ => rfl) (fun _ _ _ => rfl) rfl rfl (fun _ => rfl) ?_
  intro σ14 e14
  have d14 : DF_ (o + 9) σ14 := by rw [e14]; exact df_up (by omega) (df_mono (by omega) d13)
  have f14_0_6 : σ14 ((o : Nat) : Int) 6 = ((o + 1 : Nat) : Int) := by rw [e14]; exact (ups_n (by omega)).trans f13_0_6
  refine B _ _ _ _ rfl ?_
  refine And.intro (by omega) ?_
  refine B _ _ _ _ rfl ?_
  refine And.intro (fun h5 => (by exfalso; omega)) (fun h5 => ?_)
  intro zg6 ezg6 _
  show WP_ X G Q _ _ _ _ _ 79 _ _
  refine so_new (n := o + 9) (sh := 61) (c := 1) (N := 9) E hA0 (eX9_init (79, .new 30, 3) (List.mem_of_getElem? (i := 44) rfl)) rfl rfl hs9 (by decide) (fun _ _ _ => rfl) wk_X9_30 wx_X1 wn_X1 (by rw [hR]; decide) (by rw [hR]; decide) (df_mono (by omega) d14) rfl ?_
  intro q8
  refine B _ _ _ _ rfl ?_
  show WP_ X G Q _ _ _ _ _ 83 _ _
  refine so_ctorN (host := RX10) (o := o + 9) (m := o + 11) (t := 61) E hA0 hAO (cn_X1 X.2.1 (o + 9) hs9 hs10) (by omega) (by rw [hR]; decide) (by rw [hR]; decide) (by rw [hR]; decide) (eX9_init (83, .invokespecial 46, 3) (List.mem_of_getElem? (i := 46) rfl)) rfl (Nat.le_of_ble_eq_true rfl) ⟨by decide, by decide, by decide, by decide⟩ wnl_X9_46 wi_X1_init wn_X1 wc_X1_init (df_mono (by omega) d14) rfl ?_
  intro q9 σ15 e15
  have d15 : DF_ (o + 11) σ15 := by rw [e15]; exact df_X1 (by omega) (df_mono (by omega) d14)
  have f15_0_6 : σ15 ((o : Nat) : Int) 6 = ((o + 1 : Nat) : Int) := by rw [e15]; exact (T_X1_n (by omega)).trans f14_0_6
  refine so_ast (u := 61) (t := 80) (c := 1) (N := 3) (i := 4) (a := o + 1) E (eX9_init (86, .aastore, 1) (List.mem_of_getElem? (i := 47) rfl)) (ezg6.trans f14_0_6) (tg_ hs1 (by omega)) rfl (by omega) (fun _ => rfl) (fun _ _ _ => rfl) rfl rfl (fun _ => rfl) ?_
  intro σ16 e16
  have d16 : DF_ (o + 11) σ16 := by rw [e16]; exact df_up (by omega) (df_mono (by omega) d15)
  have f16_0_6 : σ16 ((o : Nat) : Int) 6 = ((o + 1 : Nat) : Int) := by rw [e16]; exact (ups_n (by omega)).trans f15_0_6
  refine B _ _ _ _ rfl ?_
  refine And.intro (by omega) ?_
  refine B _ _ _ _ rfl ?_
  refine And.intro (fun h7 => ?_) (fun h7 => (by exfalso; omega))
  exact R 93 _ _ _ (eX9_init (93, .return_, 1) (List.mem_of_getElem? (i := 50) rfl)) ⟨_, by first | rfl | (simp only [List.append_assoc]; rfl)⟩ (by subst e16 e15 e14 e13 e12 e11 e10 e9 e8 e7 e6 e5 e4 e3 e2 e1; rfl)
def T_X0 (o : Nat) (σ : Me_t) : Me_t := ups_ (ups_ (ups_ (ups_ (ups_ (ups_ (ups_ (ups_ (ups_ (σ) ((o : Nat) : Int) 0 ((o + 1 : Nat) : Int)) ((o : Nat) : Int) 1 ((o + 2 : Nat) : Int)) ((o : Nat) : Int) 2 ((o + 3 : Nat) : Int)) ((o : Nat) : Int) 3 1) ((o : Nat) : Int) 4 0) ((o : Nat) : Int) 5 0) ((o : Nat) : Int) 6 (-1)) ((o : Nat) : Int) 7 0) ((o : Nat) : Int) 8 0
theorem T_X0_n {o : Nat} {σ : Me_t} {k j : Int} (h : k < (o : Int)) : T_X0 o σ k j = σ k j := ((ups_n (by omega)).trans ((ups_n (by omega)).trans ((ups_n (by omega)).trans ((ups_n (by omega)).trans ((ups_n (by omega)).trans ((ups_n (by omega)).trans ((ups_n (by omega)).trans ((ups_n (by omega)).trans ((ups_n (by omega)).trans rfl)))))))))
theorem df_X0 {o n : Nat} {σ : Me_t} (h : o + 4 ≤ n) (hD : DF_ o σ) : DF_ n (T_X0 o σ) := (df_up (by omega) (df_up (by omega) (df_up (by omega) (df_up (by omega) (df_up (by omega) (df_up (by omega) (df_up (by omega) (df_up (by omega) (df_up (by omega) (df_mono (by omega) hD))))))))))
set_option maxHeartbeats 4000000 in
set_option maxRecDepth 100000 in
theorem cn_X0 (l : Launch) (o : Nat) (hs0 : SHR_[o]? = some 60) (hs1 : SHR_[o + 1]? = some 16) (hs2 : SHR_[o + 2]? = some 17) (hs3 : SHR_[o + 3]? = some 18) : CN_ l yX0_init cX0_init 1 1 40 3 14000 o (o + 4) (T_X0 o) := by
  refine cn_of (by decide) (by decide) (by decide) hs0 ?_
  intro X G Q ad σ hl hR E hA0 hAO hin hD R
  have B := fun (cl sl : Nat) (ad shs : List Nat) => @bk_ X G Q cl sl ad shs RX0 cX0_init 1 none flX0 plX0 knX0 [] 9 (fun _ _ => False) none kX0_init [1, 8, 10, 17, 19, 26, 28, 61] flX0_ok plX0_ok knX0_ok eX0_init oX0_init (fun _ h => absurd h List.not_mem_nil) (fun _ _ _ _ _ h => h.elim) sok_no E
  show WP_ X G Q 0 0 ad (SHR_.take (o + 1)) σ 0 [(70, (o : Int))] []
  refine B _ _ _ _ rfl ?_
  show WP_ X G Q _ _ _ _ _ 1 _ _
  refine so_obj E (eX0_init (1, .invokespecial 3, 3) (List.mem_of_getElem? (i := 1) rfl)) wo_X0 wo_i wo_c rfl (by rw [hR]; decide) (by rw [hR]; decide) ?_
  refine B _ _ _ _ rfl ?_
  show WP_ X G Q _ _ _ _ _ 8 _ _
  refine so_newi (n := o + 1) (sh := 16) (a := 1) (c := 0) (N := 6000) (i := 0) (ty := .int) E hA0 (eX0_init (8, .newarray .int, 2) (List.mem_of_getElem? (i := 4) rfl)) rfl rfl (fun _ => rfl) (Or.inl rfl) rfl rfl (by decide +kernel) hs1 (fun _ => ⟨rfl, rfl⟩) (fun _ _ _ => rfl) wy_int (by rw [hR]; decide) (by rw [hR]; decide) (df_mono (by omega) hD) rfl ?_
  intro q0
  refine so_putF (c := 0) (jn := 0) (ji := 0) (N := 9) (t := 60) (u := 16) E hin (eX0_init (10, .putfield 9, 3) (List.mem_of_getElem? (i := 5) rfl)) rfl rfl (by decide) rfl wf_X0_9 rfl rfl rfl (fun _ _ _ => rfl) ?_
  intro σ1 e1
  have d1 : DF_ (o + 2) σ1 := by rw [e1]; exact df_up (by omega) (df_mono (by omega) hD)
  refine B _ _ _ _ rfl ?_
  show WP_ X G Q _ _ _ _ _ 17 _ _
  refine so_newi (n := o + 2) (sh := 17) (a := 2) (c := 0) (N := 6000) (i := 1) (ty := .byte) E hA0 (eX0_init (17, .newarray .byte, 2) (List.mem_of_getElem? (i := 8) rfl)) rfl rfl (fun _ => rfl) (Or.inr (Or.inl rfl)) rfl rfl (by decide +kernel) hs2 (fun _ => ⟨rfl, rfl⟩) (fun _ _ _ => rfl) wy_byte (by rw [hR]; decide) (by rw [hR]; decide) (df_mono (by omega) d1) rfl ?_
  intro q1
  refine so_putF (c := 0) (jn := 1) (ji := 1) (N := 9) (t := 60) (u := 17) E hin (eX0_init (19, .putfield 15, 3) (List.mem_of_getElem? (i := 9) rfl)) rfl rfl (by decide) rfl wf_X0_15 rfl rfl rfl (fun _ _ _ => rfl) ?_
  intro σ2 e2
  have d2 : DF_ (o + 3) σ2 := by rw [e2]; exact df_up (by omega) (df_mono (by omega) d1)
  refine B _ _ _ _ rfl ?_
  show WP_ X G Q _ _ _ _ _ 26 _ _
  refine so_newi (n := o + 3) (sh := 18) (a := 2) (c := 0) (N := 2000) (i := 1) (ty := .byte) E hA0 (eX0_init (26, .newarray .byte, 2) (List.mem_of_getElem? (i := 12) rfl)) rfl rfl (fun _ => rfl) (Or.inr (Or.inl rfl)) rfl rfl (by decide +kernel) hs3 (fun _ => ⟨rfl, rfl⟩) (fun _ _ _ => rfl) wy_byte (by rw [hR]; decide) (by rw [hR]; decide) (df_mono (by omega) d2) rfl ?_
  intro q2
  refine so_putF (c := 0) (jn := 2) (ji := 2) (N := 9) (t := 60) (u := 18) E hin (eX0_init (28, .putfield 19, 3) (List.mem_of_getElem? (i := 13) rfl)) rfl rfl (by decide) rfl wf_X0_19 rfl rfl rfl (fun _ _ _ => rfl) ?_
  intro σ3 e3
  have d3 : DF_ (o + 4) σ3 := by rw [e3]; exact df_up (by omega) (df_mono (by omega) d2)
  refine B _ _ _ _ rfl ?_
  refine And.intro (by omega) ?_
  intro σ4 e4
  have d4 : DF_ (o + 4) σ4 := by rw [e4]; exact df_up (by omega) (df_mono (by omega) d3)
  intro σ5 e5
  have d5 : DF_ (o + 4) σ5 := by rw [e5]; exact df_up (by omega) (df_mono (by omega) d4)
  intro σ6 e6
  have d6 : DF_ (o + 4) σ6 := by rw [e6]; exact df_up (by omega) (df_mono (by omega) d5)
  intro σ7 e7
  have d7 : DF_ (o + 4) σ7 := by rw [e7]; exact df_up (by omega) (df_mono (by omega) d6)
  intro σ8 e8
  have d8 : DF_ (o + 4) σ8 := by rw [e8]; exact df_up (by omega) (df_mono (by omega) d7)
  intro σ9 e9
  have d9 : DF_ (o + 4) σ9 := by rw [e9]; exact df_up (by omega) (df_mono (by omega) d8)
  show WP_ X G Q _ _ _ _ _ 61 _ _
  exact R 61 _ _ _ (eX0_init (61, .return_, 1) (List.mem_of_getElem? (i := 32) rfl)) ⟨_, by first | rfl | (simp only [List.append_assoc]; rfl)⟩ (by subst e9 e8 e7 e6 e5 e4 e3 e2 e1; rfl)
def T_X5 (o : Nat) (σ : Me_t) : Me_t := ups_ (ups_ (ups_ (σ) ((o : Nat) : Int) 0 ((o + 1 : Nat) : Int)) ((o : Nat) : Int) 1 0) ((o : Nat) : Int) 2 0
theorem T_X5_n {o : Nat} {σ : Me_t} {k j : Int} (h : k < (o : Int)) : T_X5 o σ k j = σ k j := ((ups_n (by omega)).trans ((ups_n (by omega)).trans ((ups_n (by omega)).trans rfl)))
theorem df_X5 {o n : Nat} {σ : Me_t} (h : o + 2 ≤ n) (hD : DF_ o σ) : DF_ n (T_X5 o σ) := (df_up (by omega) (df_up (by omega) (df_up (by omega) (df_mono (by omega) hD))))
set_option maxHeartbeats 4000000 in
set_option maxRecDepth 100000 in
theorem cn_X5 (l : Launch) (o : Nat) (hs0 : SHR_[o]? = some 65) (hs1 : SHR_[o + 1]? = some 20) : CN_ l yX5_init cX5_init 1 1 40 1 69 o (o + 2) (T_X5 o) := by
  refine cn_of (by decide) (by decide) (by decide) hs0 ?_
  intro X G Q ad σ hl hR E hA0 hAO hin hD R
  have B := fun (cl sl : Nat) (ad shs : List Nat) => @bk_ X G Q cl sl ad shs RX5 cX5_init 1 none flX5 plX5 knX5 [] 9 (fun _ _ => False) none kX5_init [1, 7, 9, 22] flX5_ok plX5_ok knX5_ok eX5_init oX5_init (fun _ h => absurd h List.not_mem_nil) (fun _ _ _ _ _ h => h.elim) sok_no E
  show WP_ X G Q 0 0 ad (SHR_.take (o + 1)) σ 0 [(75, (o : Int))] []
  refine B _ _ _ _ rfl ?_
  show WP_ X G Q _ _ _ _ _ 1 _ _
  refine so_obj E (eX5_init (1, .invokespecial 3, 3) (List.mem_of_getElem? (i := 1) rfl)) wo_X5 wo_i wo_c rfl (by rw [hR]; decide) (by rw [hR]; decide) ?_
  refine B _ _ _ _ rfl ?_
  show WP_ X G Q _ _ _ _ _ 7 _ _
  refine so_newi (n := o + 1) (sh := 20) (a := 3) (c := 0) (N := 69) (i := 2) (ty := .boolean) E hA0 (eX5_init (7, .newarray .boolean, 2) (List.mem_of_getElem? (i := 4) rfl)) rfl rfl (fun _ => rfl) (Or.inr (Or.inr rfl)) rfl rfl (by decide +kernel) hs1 (fun _ => ⟨rfl, rfl⟩) (fun _ _ _ => rfl) wy_boolean (by rw [hR]; decide) (by rw [hR]; decide) (df_mono (by omega) hD) rfl ?_
  intro q0
  refine so_putF (c := 5) (jn := 0) (ji := 0) (N := 3) (t := 65) (u := 20) E hin (eX5_init (9, .putfield 9, 3) (List.mem_of_getElem? (i := 5) rfl)) rfl rfl (by decide) rfl wf_X5_9 rfl rfl rfl (fun _ _ _ => rfl) ?_
  intro σ1 e1
  have d1 : DF_ (o + 2) σ1 := by rw [e1]; exact df_up (by omega) (df_mono (by omega) hD)
  refine B _ _ _ _ rfl ?_
  intro σ2 e2
  have d2 : DF_ (o + 2) σ2 := by rw [e2]; exact df_up (by omega) (df_mono (by omega) d1)
  intro σ3 e3
  have d3 : DF_ (o + 2) σ3 := by rw [e3]; exact df_up (by omega) (df_mono (by omega) d2)
  show WP_ X G Q _ _ _ _ _ 22 _ _
  exact R 22 _ _ _ (eX5_init (22, .return_, 1) (List.mem_of_getElem? (i := 12) rfl)) ⟨_, by first | rfl | (simp only [List.append_assoc]; rfl)⟩ (by subst e3 e2 e1; rfl)
def T_X2 (o : Nat) (σ : Me_t) : Me_t := ups_ (ups_ (ups_ (σ) ((o : Nat) : Int) 0 ((o + 1 : Nat) : Int)) ((o : Nat) : Int) 1 ((o + 2 : Nat) : Int)) ((o : Nat) : Int) 2 0
theorem T_X2_n {o : Nat} {σ : Me_t} {k j : Int} (h : k < (o : Int)) : T_X2 o σ k j = σ k j := ((ups_n (by omega)).trans ((ups_n (by omega)).trans ((ups_n (by omega)).trans rfl)))
theorem df_X2 {o n : Nat} {σ : Me_t} (h : o + 3 ≤ n) (hD : DF_ o σ) : DF_ n (T_X2 o σ) := (df_up (by omega) (df_up (by omega) (df_up (by omega) (df_mono (by omega) hD))))
set_option maxHeartbeats 4000000 in
set_option maxRecDepth 100000 in
theorem cn_X2 (l : Launch) (o : Nat) (hs0 : SHR_[o]? = some 62) (hs1 : SHR_[o + 1]? = some 22) (hs2 : SHR_[o + 2]? = some 23) : CN_ l yX2_init cX2_init 1 1 40 2 30 o (o + 3) (T_X2 o) := by
  refine cn_of (by decide) (by decide) (by decide) hs0 ?_
  intro X G Q ad σ hl hR E hA0 hAO hin hD R
  have B := fun (cl sl : Nat) (ad shs : List Nat) => @bk_ X G Q cl sl ad shs RX2 cX2_init 1 none flX2 plX2 knX2 [] 9 (fun _ _ => False) none kX2_init [1, 7, 9, 15, 17, 25] flX2_ok plX2_ok knX2_ok eX2_init oX2_init (fun _ h => absurd h List.not_mem_nil) (fun _ _ _ _ _ h => h.elim) sok_no E
  show WP_ X G Q 0 0 ad (SHR_.take (o + 1)) σ 0 [(72, (o : Int))] []
  refine B _ _ _ _ rfl ?_
  show WP_ X G Q _ _ _ _ _ 1 _ _
  refine so_obj E (eX2_init (1, .invokespecial 3, 3) (List.mem_of_getElem? (i := 1) rfl)) wo_X2 wo_i wo_c rfl (by rw [hR]; decide) (by rw [hR]; decide) ?_
  refine B _ _ _ _ rfl ?_
  show WP_ X G Q _ _ _ _ _ 7 _ _
  refine so_newi (n := o + 1) (sh := 22) (a := 1) (c := 0) (N := 15) (i := 0) (ty := .int) E hA0 (eX2_init (7, .newarray .int, 2) (List.mem_of_getElem? (i := 4) rfl)) rfl rfl (fun _ => rfl) (Or.inl rfl) rfl rfl (by decide +kernel) hs1 (fun _ => ⟨rfl, rfl⟩) (fun _ _ _ => rfl) wy_int (by rw [hR]; decide) (by rw [hR]; decide) (df_mono (by omega) hD) rfl ?_
  intro q0
  refine so_putF (c := 2) (jn := 0) (ji := 0) (N := 3) (t := 62) (u := 22) E hin (eX2_init (9, .putfield 11, 3) (List.mem_of_getElem? (i := 5) rfl)) rfl rfl (by decide) rfl wf_X2_11 rfl rfl rfl (fun _ _ _ => rfl) ?_
  intro σ1 e1
  have d1 : DF_ (o + 2) σ1 := by rw [e1]; exact df_up (by omega) (df_mono (by omega) hD)
  refine B _ _ _ _ rfl ?_
  show WP_ X G Q _ _ _ _ _ 15 _ _
  refine so_newi (n := o + 2) (sh := 23) (a := 1) (c := 0) (N := 15) (i := 0) (ty := .int) E hA0 (eX2_init (15, .newarray .int, 2) (List.mem_of_getElem? (i := 8) rfl)) rfl rfl (fun _ => rfl) (Or.inl rfl) rfl rfl (by decide +kernel) hs2 (fun _ => ⟨rfl, rfl⟩) (fun _ _ _ => rfl) wy_int (by rw [hR]; decide) (by rw [hR]; decide) (df_mono (by omega) d1) rfl ?_
  intro q1
  refine so_putF (c := 2) (jn := 1) (ji := 1) (N := 3) (t := 62) (u := 23) E hin (eX2_init (17, .putfield 15, 3) (List.mem_of_getElem? (i := 9) rfl)) rfl rfl (by decide) rfl wf_X2_15 rfl rfl rfl (fun _ _ _ => rfl) ?_
  intro σ2 e2
  have d2 : DF_ (o + 3) σ2 := by rw [e2]; exact df_up (by omega) (df_mono (by omega) d1)
  refine B _ _ _ _ rfl ?_
  intro σ3 e3
  have d3 : DF_ (o + 3) σ3 := by rw [e3]; exact df_up (by omega) (df_mono (by omega) d2)
  show WP_ X G Q _ _ _ _ _ 25 _ _
  exact R 25 _ _ _ (eX2_init (25, .return_, 1) (List.mem_of_getElem? (i := 13) rfl)) ⟨_, by first | rfl | (simp only [List.append_assoc]; rfl)⟩ (by subst e3 e2 e1; rfl)
def T_X6 (o : Nat) (σ : Me_t) : Me_t := ups_ (ups_ (ups_ (ups_ (ups_ (σ) ((o : Nat) : Int) 0 ((o + 1 : Nat) : Int)) ((o : Nat) : Int) 1 0) ((o : Nat) : Int) 2 ((o + 2 : Nat) : Int)) ((o : Nat) : Int) 3 (-1)) ((o : Nat) : Int) 4 0
theorem T_X6_n {o : Nat} {σ : Me_t} {k j : Int} (h : k < (o : Int)) : T_X6 o σ k j = σ k j := ((ups_n (by omega)).trans ((ups_n (by omega)).trans ((ups_n (by omega)).trans ((ups_n (by omega)).trans ((ups_n (by omega)).trans rfl)))))
theorem df_X6 {o n : Nat} {σ : Me_t} (h : o + 3 ≤ n) (hD : DF_ o σ) : DF_ n (T_X6 o σ) := (df_up (by omega) (df_up (by omega) (df_up (by omega) (df_up (by omega) (df_up (by omega) (df_mono (by omega) hD))))))
set_option maxHeartbeats 4000000 in
set_option maxRecDepth 100000 in
theorem cn_X6 (l : Launch) (o : Nat) (hs0 : SHR_[o]? = some 66) (hs1 : SHR_[o + 1]? = some 25) (hs2 : SHR_[o + 2]? = some 26) : CN_ l yX6_init cX6_init 1 1 40 2 2012 o (o + 3) (T_X6 o) := by
  refine cn_of (by decide) (by decide) (by decide) hs0 ?_
  intro X G Q ad σ hl hR E hA0 hAO hin hD R
  have B := fun (cl sl : Nat) (ad shs : List Nat) => @bk_ X G Q cl sl ad shs RX6 cX6_init 1 none flX6 plX6 knX6 [] 9 (fun _ _ => False) none kX6_init [1, 8, 10, 21, 23, 36] flX6_ok plX6_ok knX6_ok eX6_init oX6_init (fun _ h => absurd h List.not_mem_nil) (fun _ _ _ _ _ h => h.elim) sok_no E
  show WP_ X G Q 0 0 ad (SHR_.take (o + 1)) σ 0 [(76, (o : Int))] []
  refine B _ _ _ _ rfl ?_
  show WP_ X G Q _ _ _ _ _ 1 _ _
  refine so_obj E (eX6_init (1, .invokespecial 3, 3) (List.mem_of_getElem? (i := 1) rfl)) wo_X6 wo_i wo_c rfl (by rw [hR]; decide) (by rw [hR]; decide) ?_
  refine B _ _ _ _ rfl ?_
  show WP_ X G Q _ _ _ _ _ 8 _ _
  refine so_newi (n := o + 1) (sh := 25) (a := 1) (c := 0) (N := 2000) (i := 0) (ty := .int) E hA0 (eX6_init (8, .newarray .int, 2) (List.mem_of_getElem? (i := 4) rfl)) rfl rfl (fun _ => rfl) (Or.inl rfl) rfl rfl (by decide +kernel) hs1 (fun _ => ⟨rfl, rfl⟩) (fun _ _ _ => rfl) wy_int (by rw [hR]; decide) (by rw [hR]; decide) (df_mono (by omega) hD) rfl ?_
  intro q0
  refine so_putF (c := 6) (jn := 0) (ji := 0) (N := 5) (t := 66) (u := 25) E hin (eX6_init (10, .putfield 9, 3) (List.mem_of_getElem? (i := 5) rfl)) rfl rfl (by decide) rfl wf_X6_9 rfl rfl rfl (fun _ _ _ => rfl) ?_
  intro σ1 e1
  have d1 : DF_ (o + 2) σ1 := by rw [e1]; exact df_up (by omega) (df_mono (by omega) hD)
  refine B _ _ _ _ rfl ?_
  intro σ2 e2
  have d2 : DF_ (o + 2) σ2 := by rw [e2]; exact df_up (by omega) (df_mono (by omega) d1)
  show WP_ X G Q _ _ _ _ _ 21 _ _
  refine so_newi (n := o + 2) (sh := 26) (a := 1) (c := 0) (N := 12) (i := 0) (ty := .int) E hA0 (eX6_init (21, .newarray .int, 2) (List.mem_of_getElem? (i := 11) rfl)) rfl rfl (fun _ => rfl) (Or.inl rfl) rfl rfl (by decide +kernel) hs2 (fun _ => ⟨rfl, rfl⟩) (fun _ _ _ => rfl) wy_int (by rw [hR]; decide) (by rw [hR]; decide) (df_mono (by omega) d2) rfl ?_
  intro q1
  refine so_putF (c := 6) (jn := 2) (ji := 2) (N := 5) (t := 66) (u := 26) E hin (eX6_init (23, .putfield 19, 3) (List.mem_of_getElem? (i := 12) rfl)) rfl rfl (by decide) rfl wf_X6_19 rfl rfl rfl (fun _ _ _ => rfl) ?_
  intro σ3 e3
  have d3 : DF_ (o + 3) σ3 := by rw [e3]; exact df_up (by omega) (df_mono (by omega) d2)
  refine B _ _ _ _ rfl ?_
  intro σ4 e4
  have d4 : DF_ (o + 3) σ4 := by rw [e4]; exact df_up (by omega) (df_mono (by omega) d3)
  intro σ5 e5
  have d5 : DF_ (o + 3) σ5 := by rw [e5]; exact df_up (by omega) (df_mono (by omega) d4)
  show WP_ X G Q _ _ _ _ _ 36 _ _
  exact R 36 _ _ _ (eX6_init (36, .return_, 1) (List.mem_of_getElem? (i := 19) rfl)) ⟨_, by first | rfl | (simp only [List.append_assoc]; rfl)⟩ (by subst e5 e4 e3 e2 e1; rfl)
def T_X7 (o : Nat) (σ : Me_t) : Me_t := ups_ (ups_ (ups_ (ups_ (ups_ (σ) ((o : Nat) : Int) 0 ((o + 1 : Nat) : Int)) ((o : Nat) : Int) 1 0) ((o : Nat) : Int) 2 ((o + 2 : Nat) : Int)) ((o : Nat) : Int) 3 (-1)) ((o : Nat) : Int) 4 0
theorem T_X7_n {o : Nat} {σ : Me_t} {k j : Int} (h : k < (o : Int)) : T_X7 o σ k j = σ k j := ((ups_n (by omega)).trans ((ups_n (by omega)).trans ((ups_n (by omega)).trans ((ups_n (by omega)).trans ((ups_n (by omega)).trans rfl)))))
theorem df_X7 {o n : Nat} {σ : Me_t} (h : o + 3 ≤ n) (hD : DF_ o σ) : DF_ n (T_X7 o σ) := (df_up (by omega) (df_up (by omega) (df_up (by omega) (df_up (by omega) (df_up (by omega) (df_mono (by omega) hD))))))
set_option maxHeartbeats 4000000 in
set_option maxRecDepth 100000 in
theorem cn_X7 (l : Launch) (o : Nat) (hs0 : SHR_[o]? = some 67) (hs1 : SHR_[o + 1]? = some 28) (hs2 : SHR_[o + 2]? = some 29) : CN_ l yX7_init cX7_init 1 1 40 2 81 o (o + 3) (T_X7 o) := by
  refine cn_of (by decide) (by decide) (by decide) hs0 ?_
  intro X G Q ad σ hl hR E hA0 hAO hin hD R
  have B := fun (cl sl : Nat) (ad shs : List Nat) => @bk_ X G Q cl sl ad shs RX7 cX7_init 1 none flX7 plX7 knX7 [] 9 (fun _ _ => False) none kX7_init [1, 7, 9, 20, 22, 35] flX7_ok plX7_ok knX7_ok eX7_init oX7_init (fun _ h => absurd h List.not_mem_nil) (fun _ _ _ _ _ h => h.elim) sok_no E
  show WP_ X G Q 0 0 ad (SHR_.take (o + 1)) σ 0 [(77, (o : Int))] []
  refine B _ _ _ _ rfl ?_
  show WP_ X G Q _ _ _ _ _ 1 _ _
  refine so_obj E (eX7_init (1, .invokespecial 3, 3) (List.mem_of_getElem? (i := 1) rfl)) wo_X7 wo_i wo_c rfl (by rw [hR]; decide) (by rw [hR]; decide) ?_
  refine B _ _ _ _ rfl ?_
  show WP_ X G Q _ _ _ _ _ 7 _ _
  refine so_newi (n := o + 1) (sh := 28) (a := 1) (c := 0) (N := 40) (i := 0) (ty := .int) E hA0 (eX7_init (7, .newarray .int, 2) (List.mem_of_getElem? (i := 4) rfl)) rfl rfl (fun _ => rfl) (Or.inl rfl) rfl rfl (by decide +kernel) hs1 (fun _ => ⟨rfl, rfl⟩) (fun _ _ _ => rfl) wy_int (by rw [hR]; decide) (by rw [hR]; decide) (df_mono (by omega) hD) rfl ?_
  intro q0
  refine so_putF (c := 7) (jn := 0) (ji := 0) (N := 5) (t := 67) (u := 28) E hin (eX7_init (9, .putfield 9, 3) (List.mem_of_getElem? (i := 5) rfl)) rfl rfl (by decide) rfl wf_X7_9 rfl rfl rfl (fun _ _ _ => rfl) ?_
  intro σ1 e1
  have d1 : DF_ (o + 2) σ1 := by rw [e1]; exact df_up (by omega) (df_mono (by omega) hD)
  refine B _ _ _ _ rfl ?_
  intro σ2 e2
  have d2 : DF_ (o + 2) σ2 := by rw [e2]; exact df_up (by omega) (df_mono (by omega) d1)
  show WP_ X G Q _ _ _ _ _ 20 _ _
  refine so_newi (n := o + 2) (sh := 29) (a := 1) (c := 0) (N := 41) (i := 0) (ty := .int) E hA0 (eX7_init (20, .newarray .int, 2) (List.mem_of_getElem? (i := 11) rfl)) rfl rfl (fun _ => rfl) (Or.inl rfl) rfl rfl (by decide +kernel) hs2 (fun _ => ⟨rfl, rfl⟩) (fun _ _ _ => rfl) wy_int (by rw [hR]; decide) (by rw [hR]; decide) (df_mono (by omega) d2) rfl ?_
  intro q1
  refine so_putF (c := 7) (jn := 2) (ji := 2) (N := 5) (t := 67) (u := 29) E hin (eX7_init (22, .putfield 19, 3) (List.mem_of_getElem? (i := 12) rfl)) rfl rfl (by decide) rfl wf_X7_19 rfl rfl rfl (fun _ _ _ => rfl) ?_
  intro σ3 e3
  have d3 : DF_ (o + 3) σ3 := by rw [e3]; exact df_up (by omega) (df_mono (by omega) d2)
  refine B _ _ _ _ rfl ?_
  intro σ4 e4
  have d4 : DF_ (o + 3) σ4 := by rw [e4]; exact df_up (by omega) (df_mono (by omega) d3)
  intro σ5 e5
  have d5 : DF_ (o + 3) σ5 := by rw [e5]; exact df_up (by omega) (df_mono (by omega) d4)
  show WP_ X G Q _ _ _ _ _ 35 _ _
  exact R 35 _ _ _ (eX7_init (35, .return_, 1) (List.mem_of_getElem? (i := 19) rfl)) ⟨_, by first | rfl | (simp only [List.append_assoc]; rfl)⟩ (by subst e5 e4 e3 e2 e1; rfl)
def T_X4 (o : Nat) (σ : Me_t) : Me_t := ups_ (ups_ (ups_ (ups_ (σ) ((o : Nat) : Int) 0 ((o + 1 : Nat) : Int)) ((o : Nat) : Int) 1 0) ((o : Nat) : Int) 2 0) ((o : Nat) : Int) 3 0
theorem T_X4_n {o : Nat} {σ : Me_t} {k j : Int} (h : k < (o : Int)) : T_X4 o σ k j = σ k j := ((ups_n (by omega)).trans ((ups_n (by omega)).trans ((ups_n (by omega)).trans ((ups_n (by omega)).trans rfl))))
theorem df_X4 {o n : Nat} {σ : Me_t} (h : o + 2 ≤ n) (hD : DF_ o σ) : DF_ n (T_X4 o σ) := (df_up (by omega) (df_up (by omega) (df_up (by omega) (df_up (by omega) (df_mono (by omega) hD)))))
set_option maxHeartbeats 4000000 in
set_option maxRecDepth 100000 in
theorem cn_X4 (l : Launch) (o : Nat) (hs0 : SHR_[o]? = some 64) (hs1 : SHR_[o + 1]? = some 31) : CN_ l yX4_init cX4_init 1 1 40 1 60 o (o + 2) (T_X4 o) := by
  refine cn_of (by decide) (by decide) (by decide) hs0 ?_
  intro X G Q ad σ hl hR E hA0 hAO hin hD R
  have B := fun (cl sl : Nat) (ad shs : List Nat) => @bk_ X G Q cl sl ad shs RX4 cX4_init 1 none flX4 plX4 knX4 [] 9 (fun _ _ => False) none kX4_init [1, 7, 9, 27] flX4_ok plX4_ok knX4_ok eX4_init oX4_init (fun _ h => absurd h List.not_mem_nil) (fun _ _ _ _ _ h => h.elim) sok_no E
  show WP_ X G Q 0 0 ad (SHR_.take (o + 1)) σ 0 [(74, (o : Int))] []
  refine B _ _ _ _ rfl ?_
  show WP_ X G Q _ _ _ _ _ 1 _ _
  refine so_obj E (eX4_init (1, .invokespecial 3, 3) (List.mem_of_getElem? (i := 1) rfl)) wo_X4 wo_i wo_c rfl (by rw [hR]; decide) (by rw [hR]; decide) ?_
  refine B _ _ _ _ rfl ?_
  show WP_ X G Q _ _ _ _ _ 7 _ _
  refine so_newl (n := o + 1) (sh := 31) (c := 0) (N := 60) E hA0 (eX4_init (7, .newarray .long, 2) (List.mem_of_getElem? (i := 4) rfl)) rfl rfl (by decide +kernel) hs1 (fun _ => ⟨rfl, rfl⟩) (fun _ _ _ => rfl) wy_long (by rw [hR]; decide) (by rw [hR]; decide) (df_mono (by omega) hD) rfl ?_
  intro q0
  refine so_putF (c := 4) (jn := 0) (ji := 0) (N := 4) (t := 64) (u := 31) E hin (eX4_init (9, .putfield 9, 3) (List.mem_of_getElem? (i := 5) rfl)) rfl rfl (by decide) rfl wf_X4_9 rfl rfl rfl (fun _ _ _ => rfl) ?_
  intro σ1 e1
  have d1 : DF_ (o + 2) σ1 := by rw [e1]; exact df_up (by omega) (df_mono (by omega) hD)
  refine B _ _ _ _ rfl ?_
  refine And.intro (by omega) ?_
  intro σ2 e2
  have d2 : DF_ (o + 2) σ2 := by rw [e2]; exact df_up (by omega) (df_mono (by omega) d1)
  intro σ3 e3
  have d3 : DF_ (o + 2) σ3 := by rw [e3]; exact df_up (by omega) (df_mono (by omega) d2)
  intro σ4 e4
  have d4 : DF_ (o + 2) σ4 := by rw [e4]; exact df_up (by omega) (df_mono (by omega) d3)
  show WP_ X G Q _ _ _ _ _ 27 _ _
  exact R 27 _ _ _ (eX4_init (27, .return_, 1) (List.mem_of_getElem? (i := 15) rfl)) ⟨_, by first | rfl | (simp only [List.append_assoc]; rfl)⟩ (by subst e4 e3 e2 e1; rfl)
