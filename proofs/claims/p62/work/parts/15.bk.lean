/-- the row from a place on -/
def suf_ (cs : Ci_t) (pc : Nat) : Ci_t := match cs with
  | [] => []
  | q :: r => bif q.1 == pc then q :: r else suf_ r pc
theorem suf_mem {cs : Ci_t} {pc : Nat} : ∀ q ∈ suf_ cs pc, q ∈ cs := by
  induction cs with
  | nil => intro q h; exact h
  | cons a r ih =>
    intro q h
    unfold suf_ at h
    cases hb : (a.1 == pc) with
    | true => rw [hb] at h; exact h
    | false => rw [hb] at h; exact List.mem_cons_of_mem _ (ih q h)
theorem suf_ck {kn : List (Nat × Sv_t)} {cs : Ci_t} {pc : Nat} (h : ck_ kn cs = true) : ck_ kn (suf_ cs pc) = true := by
  induction cs with
  | nil => exact h
  | cons a r ih =>
    unfold suf_
    cases hb : (a.1 == pc) with
    | true => exact h
    | false =>
      simp only [ck_, Bool.and_eq_true] at h
      exact ih h.2
theorem suf_hd {cs : Ci_t} {pc : Nat} : suf_ cs pc = [] ∨ ((suf_ cs pc).head?.map (fun q => q.1)) = some pc := by
  induction cs with
  | nil => exact Or.inl rfl
  | cons a r ih =>
    unfold suf_
    cases hb : (a.1 == pc) with
    | true =>
      have : a.1 = pc := by simpa using hb
      right
      simp [this]
    | false => exact ih
theorem bk_ {X : Cx_t} {G : Gx_t} {Q : State → Prop} {cl sl : Nat} {ad shs : List Nat} {own : String} {cc : ByteArray} {nL : Nat} {rty : Option FieldType} {fl pl : List (Nat × Nat × Nat × Int)} {kn : List (Nat × Sv_t)} {cal : List (Nat × Nat × Tr_t)} {rk : Nat} {Ret : List Sv_t → Me_t → Prop} {scr : Option (Nat × (Int → Int))} {cs : Ci_t} (ct : List Nat)
    (hF : FT_ own fl) (hP : PT_ own pl) (hK : KN_ own kn) (he : ∀ q ∈ cs, decode cc q.1 = .ok q.2) (ho : ck_ kn cs = true) (hC : ∀ q ∈ cal, COK_ X G Q cl sl ad shs cc nL q.1 q.2.1 q.2.2) (hR : ROK_ X G Q cl sl ad shs cc rk Ret) (hS : SOK_ X G Q cl sl ad shs cc scr)
    (E : EN_ X G own cc nL rty) {pc : Nat} {L S : List Sv_t} {σ : Me_t} (hL : L.length = nL) (h : wpb_ fl pl kn cal rk Ret (fun tg L' S' σ' => WP_ X G Q cl sl ad shs σ' tg L' S') scr ct (suf_ cs pc) L S σ) : WP_ X G Q cl sl ad shs σ pc L S := by
  rcases suf_hd (cs := cs) (pc := pc) with e | e
  · rw [e] at h; exact h.elim
  · exact blk_ CL_ok SH_ok SA_ok hF hP hK (fun n na T q => hC _ (lk_mem q)) hR hS E (suf_ cs pc) (fun q hq => he q (suf_mem q hq)) (suf_ck ho) pc L S σ hL e h
theorem lcmp_lt0 {a b : Int} : lcmp_ a b < 0 ↔ a < b := by unfold lcmp_; split <;> (try split) <;> omega
theorem lcmp_ge0 {a b : Int} : 0 ≤ lcmp_ a b ↔ b ≤ a := by unfold lcmp_; split <;> (try split) <;> omega
theorem lcmp_gt0 {a b : Int} : 0 < lcmp_ a b ↔ b < a := by unfold lcmp_; split <;> (try split) <;> omega
theorem lcmp_le0 {a b : Int} : lcmp_ a b ≤ 0 ↔ a ≤ b := by unfold lcmp_; split <;> (try split) <;> omega
theorem lcmp_eq0 {a b : Int} : lcmp_ a b = 0 ↔ a = b := by unfold lcmp_; split <;> (try split) <;> omega
def rmI_ : Int → List Sv_t := fun z => [(0, z)]
def rmL_ : Int → List Sv_t := fun z => [(1, z)]
def rmV_ : Int → List Sv_t := fun _ => []
def rmR_ (t : Nat) : Int → List Sv_t := fun z => [(t, z)]
/-- the fresh objects: what a first call sees -/
def FX_ (σ : Me_t) : Prop := σ 0 2 = 5 ∧ σ 0 3 = 16 ∧ σ (σ 0 2) 0 = 0 ∧ σ (σ 0 2) 1 = 0 ∧ σ (σ 0 2) 2 = 0 ∧ σ (σ 0 2) 3 = 0 ∧ σ (σ 0 2) 4 = 0 ∧ σ (σ 0 2) 5 = 0 ∧ σ 0 12 = 0 ∧ σ 0 13 = -1 ∧ σ 1 1 = 0 ∧ (∀ k, 0 ≤ k → k < 3 → σ 28 k = 0) ∧ (∀ k, 0 ≤ k → k < 4 → σ (78 + 2 * k) 1 = 0)
def FM_ (σ : Me_t) : Prop := σ 87 0 = 0 ∧ σ 87 1 = 0 ∧ σ 87 2 = 0 ∧ σ 87 3 = 0 ∧ σ 87 4 = 0 ∧ σ 87 5 = 0 ∧ σ 86 5 = 0 ∧ σ 86 12 = 0 ∧ σ 86 13 = -1 ∧ (∀ k, 0 ≤ k → k < 3 → σ 89 k = 0) ∧ (∀ k, 0 ≤ k → k < 4 → σ 102 k = -1) ∧ σ 86 7 = 0 ∧ σ 86 8 = 0 ∧ σ 92 4 = 0
