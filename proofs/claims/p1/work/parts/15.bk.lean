/-- the row from a place on -/
def suf_ (cs : Ci_t) (pc : Nat) : Ci_t := match cs with
  | [] => []
  | q :: r => bif q.1 == pc then q :: r else suf_ r pc
theorem suf_mem {cs : Ci_t} {pc : Nat} : ∀ q ∈ suf_ cs pc, q ∈ cs := by
  induction cs with
  | nil => intro q h; exact h
  | cons a r ih =>
    intro q h
    unfold suf_ at h
    cases hb : (a.1 == pc) with
    | true => rw [hb] at h; exact h
    | false => rw [hb] at h; exact List.mem_cons_of_mem _ (ih q h)
theorem suf_ck {kn : List (Nat × Sv_t)} {cs : Ci_t} {pc : Nat} (h : ck_ kn cs = true) : ck_ kn (suf_ cs pc) = true := by
  induction cs with
  | nil => exact h
  | cons a r ih =>
    unfold suf_
    cases hb : (a.1 == pc) with
    | true => exact h
    | false =>
      simp only [ck_, Bool.and_eq_true] at h
      exact ih h.2
theorem suf_hd {cs : Ci_t} {pc : Nat} : suf_ cs pc = [] ∨ ((suf_ cs pc).head?.map (fun q => q.1)) = some pc := by
  induction cs with
  | nil => exact Or.inl rfl
  | cons a r ih =>
    unfold suf_
    cases hb : (a.1 == pc) with
    | true =>
      have : a.1 = pc := by simpa using hb
      right
      simp [this]
    | false => exact ih
theorem bk_ {X : Cx_t} {G : Gx_t} {Q : State → Prop} {cl sl : Nat} {ad shs : List Nat} {own : String} {cc : ByteArray} {nL : Nat} {rty : Option FieldType} {fl pl : List (Nat × Nat × Nat × Int)} {kn : List (Nat × Sv_t)} {cal : List (Nat × Nat × Tr_t)} {rk : Nat} {Ret : List Sv_t → Me_t → Prop} {scr : Option (Nat × (Int → Int))} {cs : Ci_t}
    (hF : FT_ own fl) (hP : PT_ own pl) (hK : KN_ own kn) (he : ∀ q ∈ cs, decode cc q.1 = .ok q.2) (ho : ck_ kn cs = true) (hC : ∀ q ∈ cal, COK_ X G Q cl sl ad shs cc nL q.1 q.2.1 q.2.2) (hR : ROK_ X G Q cl sl ad shs cc rk Ret) (hS : SOK_ X G Q cl sl ad shs cc scr)
    (E : EN_ X G own cc nL rty) {pc : Nat} {L S : List Sv_t} {σ : Me_t} (hL : L.length = nL) (h : wpb_ fl pl kn cal rk Ret (fun tg L' S' σ' => WP_ X G Q cl sl ad shs σ' tg L' S') scr (suf_ cs pc) L S σ) : WP_ X G Q cl sl ad shs σ pc L S := by
  rcases suf_hd (cs := cs) (pc := pc) with e | e
  · rw [e] at h; exact h.elim
  · exact blk_ CL_ok SH_ok SA_ok hF hP hK (fun n na T q => hC _ (lk_mem q)) hR hS E (suf_ cs pc) (fun q hq => he q (suf_mem q hq)) (suf_ck ho) pc L S σ hL e h
