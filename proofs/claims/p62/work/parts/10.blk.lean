/-! A ROW OF INSTRUCTIONS -/
def wpb_ (fl pl : List (Nat × Nat × Nat × Int)) (kn : List (Nat × Sv_t)) (cal : List (Nat × Nat × Tr_t)) (rk : Nat) (Ret : List Sv_t → Me_t → Prop) (J : Nat → List Sv_t → List Sv_t → Me_t → Prop) (scr : Option (Nat × (Int → Int))) (ct : List Nat) : Ci_t → List Sv_t → List Sv_t → Me_t → Prop
  | [], _, _, _ => False
  | q :: cs, L, S, σ => stp_ fl pl kn cal rk Ret J scr q.1 q.2.1 L S σ (fun L' S' σ' => bif ct.contains (q.1 + q.2.2) then J (q.1 + q.2.2) L' S' σ' else wpb_ fl pl kn cal rk Ret J scr ct cs L' S' σ')
/-- places and lengths fit; jumps stay at 0 and above; constants of the right kind -/
def jok_ (kn : List (Nat × Sv_t)) (pc : Nat) (i : Instr) (len : Nat) : Bool := match i with
  | .ifCond _ o => decide (0 ≤ (pc : Int) + o) && len == 3
  | .if_icmp _ o => decide (0 ≤ (pc : Int) + o) && len == 3
  | .goto o => decide (0 ≤ (pc : Int) + o) && len == 3
  | .tableswitch d lo hi offs => decide (0 ≤ (pc : Int) + d) && offs.toList.all (fun o => decide (0 ≤ (pc : Int) + o)) && decide ((offs.size : Int) = hi - lo + 1)
  | .ldc n => (match lk_ kn n with | some v => v.1 == 0 | none => true) && len == 2
  | .ldc_w n => (match lk_ kn n with | some v => v.1 == 0 | none => true) && len == 3
  | .ldc2_w n => (match lk_ kn n with | some v => v.1 == 1 | none => true) && len == 3
  | i => len == ln_ i
def ck_ (kn : List (Nat × Sv_t)) : Ci_t → Bool
  | [] => true
  | q :: cs => jok_ kn q.1 q.2.1 q.2.2 && (match cs with | [] => true | q2 :: _ => q.1 + q.2.2 == q2.1) && ck_ kn cs
section BLK
variable {X : Cx_t} {G : Gx_t} {Q : State → Prop} {cl sl : Nat} {ad shs : List Nat} {σ : Me_t} {pc pc' : Nat} {L S : List Sv_t} {own : String} {cc : ByteArray} {nL : Nat} {rty : Option FieldType}
/-- a call by its transformer -/
def COK_ (X : Cx_t) (G : Gx_t) (Q : State → Prop) (cl sl : Nat) (ad shs : List Nat) (cc : ByteArray) (nL : Nat) (n na : Nat) (T : Tr_t) : Prop :=
  ∀ (pc : Nat) (i : Instr) (σ : Me_t) (L as S : List Sv_t) (k : List Sv_t → Me_t → Prop), ((i = .invokevirtual (n / 2) ∧ n % 2 = 0) ∨ (i = .invokestatic (n / 2) ∧ n % 2 = 1)) → decode cc pc = .ok (i, 3) → as.length = na → csum_ S ≤ 8 → L.length = nL → T as σ k → (∀ r σ', k r σ' → WP_ X G Q cl sl ad shs σ' (pc + 3) L (r ++ S)) → WP_ X G Q cl sl ad shs σ pc L (as.reverse ++ S)
/-- what the end asks -/
def ROK_ (X : Cx_t) (G : Gx_t) (Q : State → Prop) (cl sl : Nat) (ad shs : List Nat) (cc : ByteArray) (rk : Nat) (Ret : List Sv_t → Me_t → Prop) : Prop :=
  ∀ (pc : Nat) (σ : Me_t) (L S : List Sv_t), ((decode cc pc = .ok (.ireturn, 1) ∧ ∃ z, S = [(0, z)] ∧ (rk = 1 ∨ rk = 2 ∧ 0 ≤ z ∧ z ≤ 1)) ∨ (decode cc pc = .ok (.lreturn, 1) ∧ rk = 3 ∧ ∃ z, S = [(1, z)]) ∨ (decode cc pc = .ok (.areturn, 1) ∧ rk = 4 ∧ ∃ t z, S = [(t + 10, z)]) ∨ (decode cc pc = .ok (.return_, 1) ∧ rk = 0 ∧ S = [])) → Ret S σ → WP_ X G Q cl sl ad shs σ pc L S
/-- the script -/
def SOK_ (X : Cx_t) (G : Gx_t) (Q : State → Prop) (cl sl : Nat) (ad shs : List Nat) (cc : ByteArray) (scr : Option (Nat × (Int → Int))) : Prop :=
  ∀ (n : Nat) (xs : Int → Int), scr = some (n, xs) → ∀ (pc : Nat) (σ : Me_t) (L S : List Sv_t), (∀ x : Int, decode cc pc = .ok (.iaload, 1) → 0 ≤ x ∧ x < (n : Int) → WP_ X G Q cl sl ad shs σ (pc + 1) L ((0, xs x) :: S) → WP_ X G Q cl sl ad shs σ pc L ((0, x) :: (4, 0) :: S)) ∧ (decode cc pc = .ok (.arraylength, 1) → WP_ X G Q cl sl ad shs σ (pc + 1) L ((0, (n : Int)) :: S) → WP_ X G Q cl sl ad shs σ pc L ((4, 0) :: S))
theorem sok_no : SOK_ X G Q cl sl ad shs cc none := fun _ _ h => by cases h
theorem blt_ {a b : Nat} (h : a.blt b = true) : a < b := by
  unfold Nat.blt at h
  exact Nat.le_of_ble_eq_true h
set_option maxHeartbeats 2000000 in
theorem stp_ok {fl pl : List (Nat × Nat × Nat × Int)} {kn : List (Nat × Sv_t)} {cal : List (Nat × Nat × Tr_t)} {rk : Nat} {Ret : List Sv_t → Me_t → Prop} {scr : Option (Nat × (Int → Int))} {i : Instr} {len : Nat} {k : List Sv_t → List Sv_t → Me_t → Prop}
    (hCL : CL_) (hSH : SH_) (hSA : SA_) (hF : FT_ own fl) (hP : PT_ own pl) (hK : KN_ own kn) (hC : ∀ n na T, lk_ cal n = some (na, T) → COK_ X G Q cl sl ad shs cc nL n na T) (hR : ROK_ X G Q cl sl ad shs cc rk Ret) (hS : SOK_ X G Q cl sl ad shs cc scr)
    (E : EN_ X G own cc nL rty) (hd : decode cc pc = .ok (i, len)) (hj : jok_ kn pc i len = true) (hL : L.length = nL) (h : stp_ fl pl kn cal rk Ret (fun tg L' S' σ' => WP_ X G Q cl sl ad shs σ' tg L' S') scr pc i L S σ k)
    (hk : ∀ L' S' σ', L'.length = nL → k L' S' σ' → WP_ X G Q cl sl ad shs σ' (pc + len) L' S') : WP_ X G Q cl sl ad shs σ pc L S := by
  have l1 : ∀ n v, (ls1_ L n v).length = nL := fun n v => by simp [ls1_, ls0_len, hL]
  have l2 : ∀ n v, (ls2_ L n v).length = nL := fun n v => by simp [ls2_, ls0_len, hL]
  cases i with
  | iload n =>
    have e : len = 2 := by simpa [jok_, ln_] using hj
    subst e
    simp only [stp_] at h
    split at h
    next z hz => exact so_iload (i := 0) E hd hz (hk _ _ _ hL h)
    next => exact h.elim
  | iload_n n =>
    have e : len = 1 := by simpa [jok_, ln_] using hj
    subst e
    simp only [stp_] at h
    split at h
    next z hz => exact so_iload_n E hd hz (hk _ _ _ hL h)
    next => exact h.elim
  | lload n =>
    have e : len = 2 := by simpa [jok_, ln_] using hj
    subst e
    simp only [stp_] at h
    split at h
    next z hz => exact so_lload E hd hz (hk _ _ _ hL h)
    next => exact h.elim
  | lload_n n =>
    have e : len = 1 := by simpa [jok_, ln_] using hj
    subst e
    simp only [stp_] at h
    split at h
    next z hz => exact so_lload_n E hd hz (hk _ _ _ hL h)
    next => exact h.elim
  | aload n =>
    have e : len = 2 := by simpa [jok_, ln_] using hj
    subst e
    simp only [stp_] at h
    split at h
    next z hz => exact so_aload4 E hd hz (hk _ _ _ hL h)
    next t z hz => exact so_aload E hd hz (hk _ _ _ hL h)
    next => exact h.elim
  | aload_n n =>
    have e : len = 1 := by simpa [jok_, ln_] using hj
    subst e
    simp only [stp_] at h
    split at h
    next z hz => exact so_aload4_n E hd hz (hk _ _ _ hL h)
    next t z hz => exact so_aload_n E hd hz (hk _ _ _ hL h)
    next => exact h.elim
  | istore n =>
    have e : len = 2 := by simpa [jok_, ln_] using hj
    subst e
    simp only [stp_] at h
    split at h
    next z S' =>
      cases hb : n.blt L.length with
      | true => rw [hb] at h; exact so_istore E hd (blt_ hb) (hk _ _ _ (l1 _ _) h)
      | false => rw [hb] at h; exact h.elim
    next => exact h.elim
  | istore_n n =>
    have e : len = 1 := by simpa [jok_, ln_] using hj
    subst e
    simp only [stp_] at h
    split at h
    next z S' =>
      cases hb : n.val.blt L.length with
      | true => rw [hb] at h; exact so_istore_n E hd (blt_ hb) (hk _ _ _ (l1 _ _) h)
      | false => rw [hb] at h; exact h.elim
    next => exact h.elim
  | lstore n =>
    have e : len = 2 := by simpa [jok_, ln_] using hj
    subst e
    simp only [stp_] at h
    split at h
    next z S' =>
      cases hb : (n + 1).blt L.length with
      | true => rw [hb] at h; exact so_lstore E hd (blt_ hb) (hk _ _ _ (l2 _ _) h)
      | false => rw [hb] at h; exact h.elim
    next => exact h.elim
  | lstore_n n =>
    have e : len = 1 := by simpa [jok_, ln_] using hj
    subst e
    simp only [stp_] at h
    split at h
    next z S' =>
      cases hb : (n.val + 1).blt L.length with
      | true => rw [hb] at h; exact so_lstore_n E hd (blt_ hb) (hk _ _ _ (l2 _ _) h)
      | false => rw [hb] at h; exact h.elim
    next => exact h.elim
  | astore n =>
    have e : len = 2 := by simpa [jok_, ln_] using hj
    subst e
    simp only [stp_] at h
    split at h
    next t z S' =>
      cases hb : n.blt L.length with
      | true => rw [hb] at h; exact so_astore E hd (blt_ hb) (hk _ _ _ (l1 _ _) h)
      | false => rw [hb] at h; exact h.elim
    next => exact h.elim
  | astore_n n =>
    have e : len = 1 := by simpa [jok_, ln_] using hj
    subst e
    simp only [stp_] at h
    split at h
    next t z S' =>
      cases hb : n.val.blt L.length with
      | true => rw [hb] at h; exact so_astore_n E hd (blt_ hb) (hk _ _ _ (l1 _ _) h)
      | false => rw [hb] at h; exact h.elim
    next => exact h.elim
  | iinc n c =>
    have e : len = 3 := by simpa [jok_, ln_] using hj
    subst e
    simp only [stp_] at h
    split at h
    next z hz => exact so_iinc E hd hz h.1 (hk _ _ _ (l1 _ _) h.2)
    next => exact h.elim
  | iconst c =>
    have e : len = 1 := by simpa [jok_, ln_] using hj
    subst e
    simp only [stp_] at h
    cases hb : (decide (-128 ≤ c) && decide (c ≤ 127)) with
    | true =>
      rw [hb] at h
      simp only [Bool.and_eq_true, decide_eq_true_eq] at hb
      exact so_iconst E hd hb.1 hb.2 (hk _ _ _ hL h)
    | false => rw [hb] at h; exact h.elim
  | bipush c =>
    have e : len = 2 := by simpa [jok_, ln_] using hj
    subst e
    simp only [stp_] at h
    cases hb : (decide (-128 ≤ c) && decide (c ≤ 127)) with
    | true =>
      rw [hb] at h
      simp only [Bool.and_eq_true, decide_eq_true_eq] at hb
      exact so_bipush E hd hb.1 hb.2 (hk _ _ _ hL h)
    | false => rw [hb] at h; exact h.elim
  | sipush c =>
    have e : len = 3 := by simpa [jok_, ln_] using hj
    subst e
    simp only [stp_] at h
    cases hb : (decide (-32768 ≤ c) && decide (c ≤ 32767)) with
    | true =>
      rw [hb] at h
      simp only [Bool.and_eq_true, decide_eq_true_eq] at hb
      exact so_sipush E hd hb.1 hb.2 (hk _ _ _ hL h)
    | false => rw [hb] at h; exact h.elim
  | lconst c =>
    have e : len = 1 := by simpa [jok_, ln_] using hj
    subst e
    simp only [stp_] at h
    cases hb : (c.val == 0) with
    | true => rw [hb] at h; exact so_lconst0 E hd (by simpa using hb) (hk _ _ _ hL h)
    | false => rw [hb] at h; exact so_lconst1 E hd (by simpa using hb) (hk _ _ _ hL h)
  | ldc n =>
    simp only [stp_] at h
    split at h
    next v hv =>
      simp only [jok_, hv, Bool.and_eq_true, beq_iff_eq] at hj
      obtain ⟨h0, rfl⟩ := hj
      exact so_ldc E hK hv hd (hk _ _ _ hL h) h0
    next => exact h.elim
  | ldc_w n =>
    simp only [stp_] at h
    split at h
    next v hv =>
      simp only [jok_, hv, Bool.and_eq_true, beq_iff_eq] at hj
      obtain ⟨h0, rfl⟩ := hj
      exact so_ldcw E hK hv hd (hk _ _ _ hL h) h0
    next => exact h.elim
  | ldc2_w n =>
    simp only [stp_] at h
    split at h
    next v hv =>
      simp only [jok_, hv, Bool.and_eq_true, beq_iff_eq] at hj
      obtain ⟨h0, rfl⟩ := hj
      exact so_ldc2 E hK hv hd (hk _ _ _ hL h) h0
    next => exact h.elim
  | iadd =>
    have e : len = 1 := by simpa [jok_, ln_] using hj
    subst e
    simp only [stp_] at h
    split at h
    next b a S' => exact so_iadd E hd h.1 (hk _ _ _ hL h.2)
    next => exact h.elim
  | isub =>
    have e : len = 1 := by simpa [jok_, ln_] using hj
    subst e
    simp only [stp_] at h
    split at h
    next b a S' => exact so_isub E hd h.1 (hk _ _ _ hL h.2)
    next => exact h.elim
  | imul =>
    have e : len = 1 := by simpa [jok_, ln_] using hj
    subst e
    simp only [stp_] at h
    split at h
    next b a S' => exact so_imul E hd h.1 (hk _ _ _ hL h.2)
    next => exact h.elim
  | idiv =>
    have e : len = 1 := by simpa [jok_, ln_] using hj
    subst e
    simp only [stp_] at h
    split at h
    next b a S' => exact so_idiv E hd h.1.1 h.1.2 (hk _ _ _ hL h.2)
    next => exact h.elim
  | irem =>
    have e : len = 1 := by simpa [jok_, ln_] using hj
    subst e
    simp only [stp_] at h
    split at h
    next b a S' => exact so_irem E hd h.1 (hk _ _ _ hL h.2)
    next => exact h.elim
  | iand =>
    have e : len = 1 := by simpa [jok_, ln_] using hj
    subst e
    simp only [stp_] at h
    split at h
    next b a S' => exact so_iand E hd (hk _ _ _ hL h)
    next => exact h.elim
  | ior =>
    have e : len = 1 := by simpa [jok_, ln_] using hj
    subst e
    simp only [stp_] at h
    split at h
    next b a S' => exact so_ior E hd (hk _ _ _ hL h)
    next => exact h.elim
  | ixor =>
    have e : len = 1 := by simpa [jok_, ln_] using hj
    subst e
    simp only [stp_] at h
    split at h
    next b a S' => exact so_ixor E hd (hk _ _ _ hL h)
    next => exact h.elim
  | ishl =>
    have e : len = 1 := by simpa [jok_, ln_] using hj
    subst e
    simp only [stp_] at h
    split at h
    next b a S' => exact so_ishl E hd (hk _ _ _ hL h)
    next => exact h.elim
  | ishr =>
    have e : len = 1 := by simpa [jok_, ln_] using hj
    subst e
    simp only [stp_] at h
    split at h
    next b a S' => exact so_ishr E hd (hk _ _ _ hL h)
    next => exact h.elim
  | i2b =>
    have e : len = 1 := by simpa [jok_, ln_] using hj
    subst e
    simp only [stp_] at h
    split at h
    next a S' => exact so_i2b E hd (hk _ _ _ hL h)
    next => exact h.elim
  | i2s =>
    have e : len = 1 := by simpa [jok_, ln_] using hj
    subst e
    simp only [stp_] at h
    split at h
    next a S' => exact so_i2s E hd (hk _ _ _ hL h)
    next => exact h.elim
  | i2l =>
    have e : len = 1 := by simpa [jok_, ln_] using hj
    subst e
    simp only [stp_] at h
    split at h
    next a S' => exact so_i2l E hd (hk _ _ _ hL h)
    next => exact h.elim
  | l2i =>
    have e : len = 1 := by simpa [jok_, ln_] using hj
    subst e
    simp only [stp_] at h
    split at h
    next a S' => exact so_l2i E hd (hk _ _ _ hL h)
    next => exact h.elim
  | ladd =>
    have e : len = 1 := by simpa [jok_, ln_] using hj
    subst e
    simp only [stp_] at h
    split at h
    next b a S' => exact so_ladd E hd h.1 (hk _ _ _ hL h.2)
    next => exact h.elim
  | lsub =>
    have e : len = 1 := by simpa [jok_, ln_] using hj
    subst e
    simp only [stp_] at h
    split at h
    next b a S' => exact so_lsub E hd h.1 (hk _ _ _ hL h.2)
    next => exact h.elim
  | lmul =>
    have e : len = 1 := by simpa [jok_, ln_] using hj
    subst e
    simp only [stp_] at h
    split at h
    next b a S' => exact so_lmul E hd h.1 (hk _ _ _ hL h.2)
    next => exact h.elim
  | ldiv =>
    have e : len = 1 := by simpa [jok_, ln_] using hj
    subst e
    simp only [stp_] at h
    split at h
    next b a S' => exact so_ldiv E hd h.1.1 h.1.2 (hk _ _ _ hL h.2)
    next => exact h.elim
  | lrem =>
    have e : len = 1 := by simpa [jok_, ln_] using hj
    subst e
    simp only [stp_] at h
    split at h
    next b a S' => exact so_lrem E hd h.1 (hk _ _ _ hL h.2)
    next => exact h.elim
  | land =>
    have e : len = 1 := by simpa [jok_, ln_] using hj
    subst e
    simp only [stp_] at h
    split at h
    next b a S' => exact so_land E hd (hk _ _ _ hL h)
    next => exact h.elim
  | lor =>
    have e : len = 1 := by simpa [jok_, ln_] using hj
    subst e
    simp only [stp_] at h
    split at h
    next b a S' => exact so_lor E hd (hk _ _ _ hL h)
    next => exact h.elim
  | lshl =>
    have e : len = 1 := by simpa [jok_, ln_] using hj
    subst e
    simp only [stp_] at h
    split at h
    next b a S' => exact so_lshl E hd (hk _ _ _ hL h)
    next => exact h.elim
  | lshr =>
    have e : len = 1 := by simpa [jok_, ln_] using hj
    subst e
    simp only [stp_] at h
    split at h
    next b a S' => exact so_lshr E hd (hk _ _ _ hL h)
    next => exact h.elim
  | lcmp =>
    have e : len = 1 := by simpa [jok_, ln_] using hj
    subst e
    simp only [stp_] at h
    split at h
    next b a S' => exact so_lcmp E hd (hk _ _ _ hL h)
    next => exact h.elim
  | dup =>
    have e : len = 1 := by simpa [jok_, ln_] using hj
    subst e
    simp only [stp_] at h
    split at h
    next v S' =>
      cases hb : (v.1 == 1) with
      | true => rw [hb] at h; exact h.elim
      | false => rw [hb] at h; exact so_dup E hd hb (hk _ _ _ hL h)
    next => exact h.elim
  | dup2 =>
    have e : len = 1 := by simpa [jok_, ln_] using hj
    subst e
    simp only [stp_] at h
    split at h
    next v w S' =>
      cases hb : (v.1 == 1 || w.1 == 1) with
      | true => rw [hb] at h; exact h.elim
      | false =>
        rw [hb] at h
        simp only [Bool.or_eq_false_iff] at hb
        exact so_dup2 E hd hb.1 hb.2 (hk _ _ _ hL h)
    next => exact h.elim
  | pop =>
    have e : len = 1 := by simpa [jok_, ln_] using hj
    subst e
    simp only [stp_] at h
    split at h
    next v S' =>
      cases hb : (v.1 == 1) with
      | true => rw [hb] at h; exact h.elim
      | false => rw [hb] at h; exact so_pop E hd hb (hk _ _ _ hL h)
    next => exact h.elim
  | pop2 =>
    have e : len = 1 := by simpa [jok_, ln_] using hj
    subst e
    simp only [stp_] at h
    split at h
    next z S' => exact so_pop2 E hd (hk _ _ _ hL h)
    next => exact h.elim
  | ifCond c off =>
    simp only [jok_, Bool.and_eq_true, decide_eq_true_eq, beq_iff_eq] at hj
    obtain ⟨h0, rfl⟩ := hj
    simp only [stp_] at h
    split at h
    next z S' => exact so_if E hd h0 h (fun a => a) (fun b => hk _ _ _ hL b)
    next => exact h.elim
  | if_icmp c off =>
    simp only [jok_, Bool.and_eq_true, decide_eq_true_eq, beq_iff_eq] at hj
    obtain ⟨h0, rfl⟩ := hj
    simp only [stp_] at h
    split at h
    next y z S' => exact so_icmp E hd h0 h (fun a => a) (fun b => hk _ _ _ hL b)
    next => exact h.elim
  | goto off =>
    simp only [jok_, Bool.and_eq_true, decide_eq_true_eq, beq_iff_eq] at hj
    obtain ⟨h0, rfl⟩ := hj
    exact so_goto E hd h0 h
  | tableswitch d lo hi offs =>
    simp only [jok_, Bool.and_eq_true, decide_eq_true_eq, List.all_eq_true] at hj
    obtain ⟨⟨h0, h1⟩, h2⟩ := hj
    simp only [stp_] at h
    split at h
    next z S' => exact so_tsw E hd h2 h0 h1 h
    next => exact h.elim
  | getfield n =>
    have e : len = 3 := by simpa [jok_, ln_] using hj
    subst e
    simp only [stp_] at h
    split at h
    next t o S' =>
      split at h
      next c jn ji hl =>
        split at h
        next c' N hkt =>
          cases hb : (c == c' && jn.blt N) with
          | false => rw [hb] at h; exact h.elim
          | true =>
            rw [hb] at h
            simp only [Bool.and_eq_true, beq_iff_eq] at hb
            obtain ⟨rfl, hb⟩ := hb
            have hjn := blt_ hb
            obtain ⟨C, T, N', g1, g2, g3, g4⟩ := hF _ (lk_mem hl)
            simp only at g3
            simp only [cond_true] at h
            split at h
            next r hr =>
              intro hM hA H locs ls hP hD hS hlh vL vS
              have hok := mt_at hM (vt_ vS).1 (j := jn) (by unfold sz_; rw [hkt]; exact hjn)
              have er : σ o ji = r := by
                have := hok.2.2 r (by rw [← g3]; exact hr)
                rw [g3]; exact this
              exact so_get hCL hF E hd hl hkt hjn (by rw [er]; exact hk _ _ _ hL h) hM hA H locs ls hP hD hS hlh vL vS
            next =>
              intro hM hA H locs ls hP hD hS hlh vL vS
              have hok := mt_at hM (vt_ vS).1 (j := jn) (by unfold sz_; rw [hkt]; exact hjn)
              exact so_get hCL hF E hd hl hkt hjn (hk _ _ _ hL (h _ rfl (rgo_of (by rw [g3]; exact hok)))) hM hA H locs ls hP hD hS hlh vL vS
        next => exact h.elim
      next => exact h.elim
    next => exact h.elim
  | putfield n =>
    have e : len = 3 := by simpa [jok_, ln_] using hj
    subst e
    simp only [stp_] at h
    split at h
    next u z t o S' =>
      split at h
      next c jn ji hl =>
        split at h
        next c' N hkt =>
          cases hb : (c == c' && jn.blt N) with
          | false => rw [hb] at h; exact h.elim
          | true =>
            rw [hb] at h
            simp only [Bool.and_eq_true, beq_iff_eq] at hb
            obtain ⟨rfl, hb⟩ := hb
            have hjn := blt_ hb
            obtain ⟨C, T, N', g1, g2, g3, g4⟩ := hP.1 _ (lk_mem hl)
            simp only at g3
            simp only [cond_true] at h
            split at h
            next => exact h.elim
            next hrt =>
              have hrt' : ∀ r, rt_ t o jn (jn : Int) = some r → z = r := fun r q => by rw [← g3, hrt] at q; cases q
              split at h
              next lo hi hty =>
                cases hu : (u == 0) with
                | false => rw [hu] at h; exact h.elim
                | true =>
                  rw [hu] at h
                  have eu : u = 0 := by simpa using hu
                  subst eu
                  simp only [cond_true] at h
                  cases hf : ful_ lo hi with
                  | true =>
                    rw [hf] at h
                    simp only [ful_, Bool.and_eq_true, decide_eq_true_eq] at hf
                    exact so_put hCL hSH hP E hd hl hkt hjn (fun cs => by rw [hty]) (fun hv => ⟨by rw [hty]; exact hv, fun _ => by rw [hty]; have hv : -2147483648 ≤ z ∧ z ≤ 2147483647 := hv; exact ⟨Int.le_trans hf.1 hv.1, Int.le_trans hv.2 hf.2⟩, hrt'⟩) (hk _ _ _ hL (h _ rfl))
                  | false =>
                    rw [hf] at h
                    exact so_put hCL hSH hP E hd hl hkt hjn (fun cs => by rw [hty]) (fun hv => ⟨by rw [hty]; exact hv, fun _ => by rw [hty]; exact h.1, hrt'⟩) (hk _ _ _ hL (h.2 _ rfl))
              next lo hi hty =>
                cases hu : (u == 1 && ful6_ lo hi) with
                | false => rw [hu] at h; exact h.elim
                | true =>
                  rw [hu] at h
                  simp only [Bool.and_eq_true, beq_iff_eq, ful6_, decide_eq_true_eq] at hu
                  obtain ⟨rfl, hf⟩ := hu
                  exact so_put hCL hSH hP E hd hl hkt hjn (fun cs => by rw [hty]) (fun hv => ⟨by rw [hty]; exact hv, fun _ => by rw [hty]; have hv : -9223372036854775808 ≤ z ∧ z ≤ 9223372036854775807 := hv; exact ⟨Int.le_trans hf.1 hv.1, Int.le_trans hv.2 hf.2⟩, hrt'⟩) (hk _ _ _ hL (h _ rfl))
              next lo hi hty =>
                cases hu : Nat.ble 10 u with
                | false => rw [hu] at h; exact h.elim
                | true =>
                  rw [hu] at h
                  obtain ⟨w, rfl⟩ : ∃ w, u = w + 10 := ⟨u - 10, by have := Nat.le_of_ble_eq_true hu; omega⟩
                  exact so_put hCL hSH hP E hd hl hkt hjn (fun cs => by rw [hty]; rfl) (fun hv => ⟨by rw [hty]; exact Or.inr (List.getElem?_eq_some_iff.mp hv.2).1, fun q => by rw [hty] at q; simp at q, hrt'⟩) (hk _ _ _ hL (h _ rfl))
              next g lo hi _ _ _ hty =>
                cases hu : (u == g && Nat.ble 10 g) with
                | false => rw [hu] at h; exact h.elim
                | true =>
                  rw [hu] at h
                  simp only [Bool.and_eq_true, beq_iff_eq] at hu
                  obtain ⟨rfl, hu⟩ := hu
                  have h10 := Nat.le_of_ble_eq_true hu
                  exact so_put hCL hSH hP E hd hl hkt hjn (fun cs => by rw [hty]) (fun hv => ⟨by rw [hty]; exact hv, fun q => by rw [hty] at q; simp only at q; omega, hrt'⟩) (hk _ _ _ hL (h _ rfl))
        next => exact h.elim
      next => exact h.elim
    next => exact h.elim
  | iaload =>
    have e : len = 1 := by simpa [jok_, ln_] using hj
    subst e
    simp only [stp_] at h
    split at h
    next x S' =>
      split at h
      next n xs => exact (hS n xs rfl pc σ L S').1 x hd h.1 (hk _ _ _ hL h.2)
      next => exact h.elim
    next x t o S' =>
      split at h
      next c N hkt =>
        intro hM hA H locs ls hP hD hS hlh vL vS
        have hok := mt_at hM (vt_ (vt_ vS).2).1 (j := x.toNat) (by unfold sz_; rw [hkt]; have := h.1; simp only; omega)
        rw [tn_ h.1.1] at hok
        have hrg := rgo_of hok
        have e0 : ty_ t x.toNat = ty_ t 0 := by
          have hsa := hSA t 1 c N hkt
          first | exact (hsa.1 rfl x.toNat).1 | exact (hsa.2.1 rfl x.toNat).1 | exact (hsa.2.2.1 rfl x.toNat).1
        rw [e0] at hrg
        exact so_ild hSA E hd hkt h.1 (hk _ _ _ hL (h.2 _ rfl hrg)) hM hA H locs ls hP hD hS hlh vL vS
      next => exact h.elim
    next => exact h.elim
  | baload =>
    have e : len = 1 := by simpa [jok_, ln_] using hj
    subst e
    simp only [stp_] at h
    split at h
    next x t o S' =>
      split at h
      next c N hkt =>
        intro hM hA H locs ls hP hD hS hlh vL vS
        have hok := mt_at hM (vt_ (vt_ vS).2).1 (j := x.toNat) (by unfold sz_; rw [hkt]; have := h.1; simp only; omega)
        rw [tn_ h.1.1] at hok
        have hrg := rgo_of hok
        have e0 : ty_ t x.toNat = ty_ t 0 := by
          have hsa := hSA t 2 c N hkt
          first | exact (hsa.1 rfl x.toNat).1 | exact (hsa.2.1 rfl x.toNat).1 | exact (hsa.2.2.1 rfl x.toNat).1
        rw [e0] at hrg
        exact so_bld hSA E hd hkt h.1 (hk _ _ _ hL (h.2 _ rfl hrg)) hM hA H locs ls hP hD hS hlh vL vS
      next c N hkt =>
        intro hM hA H locs ls hP hD hS hlh vL vS
        have hok := mt_at hM (vt_ (vt_ vS).2).1 (j := x.toNat) (by unfold sz_; rw [hkt]; have := h.1; simp only; omega)
        rw [tn_ h.1.1] at hok
        have hrg := rgo_of hok
        have e0 : ty_ t x.toNat = ty_ t 0 := by
          have hsa := hSA t 3 c N hkt
          first | exact (hsa.1 rfl x.toNat).1 | exact (hsa.2.1 rfl x.toNat).1 | exact (hsa.2.2.1 rfl x.toNat).1
        rw [e0] at hrg
        exact so_zld hSA E hd hkt h.1 (hk _ _ _ hL (h.2 _ rfl hrg)) hM hA H locs ls hP hD hS hlh vL vS
      next => exact h.elim
    next => exact h.elim
  | laload =>
    have e : len = 1 := by simpa [jok_, ln_] using hj
    subst e
    simp only [stp_] at h
    split at h
    next x t o S' =>
      split at h
      next c N hkt => exact so_lld hSA E hd hkt h.1 (hk _ _ _ hL h.2)
      next => exact h.elim
    next => exact h.elim
  | aaload =>
    have e : len = 1 := by simpa [jok_, ln_] using hj
    subst e
    simp only [stp_] at h
    split at h
    next x t o S' =>
      split at h
      next c N hkt =>
        obtain ⟨h1, h2⟩ := h
        split at h2
        next r hr => exact so_ald hSA E hd hkt h1 hr (hk _ _ _ hL h2)
        next => exact h2.elim
      next => exact h.elim
    next => exact h.elim
  | iastore =>
    have e : len = 1 := by simpa [jok_, ln_] using hj
    subst e
    simp only [stp_] at h
    split at h
    next z x t o S' =>
      split at h
      next c N hkt =>
        obtain ⟨h1, h2⟩ := h
        cases hf : ful_ (ty_ t 0).2.1 (ty_ t 0).2.2 with
        | true =>
          rw [hf] at h2
          simp only [ful_, Bool.and_eq_true, decide_eq_true_eq] at hf
          exact so_ist hSA E hd hkt h1 (fun hv => by have hv : -2147483648 ≤ z ∧ z ≤ 2147483647 := hv; exact ⟨Int.le_trans hf.1 hv.1, Int.le_trans hv.2 hf.2⟩) (hk _ _ _ hL (h2 _ rfl))
        | false =>
          rw [hf] at h2
          exact so_ist hSA E hd hkt h1 (fun _ => h2.1) (hk _ _ _ hL (h2.2 _ rfl))
      next => exact h.elim
    next => exact h.elim
  | bastore =>
    have e : len = 1 := by simpa [jok_, ln_] using hj
    subst e
    simp only [stp_] at h
    split at h
    next z x t o S' =>
      split at h
      next c N hkt => exact so_bst hSA E hd hkt h.1 h.2.1 (hk _ _ _ hL (h.2.2 _ rfl))
      next c N hkt => exact so_zst hSA E hd hkt h.1 h.2.1 (hk _ _ _ hL (h.2.2 _ rfl))
      next => exact h.elim
    next => exact h.elim
  | lastore =>
    have e : len = 1 := by simpa [jok_, ln_] using hj
    subst e
    simp only [stp_] at h
    split at h
    next z x t o S' =>
      split at h
      next c N hkt =>
        obtain ⟨h1, h2⟩ := h
        cases hf : ful6_ (ty_ t 0).2.1 (ty_ t 0).2.2 with
        | true =>
          rw [hf] at h2
          simp only [ful6_, Bool.and_eq_true, decide_eq_true_eq] at hf
          exact so_lst hSA E hd hkt h1 (fun hv => by have hv : -9223372036854775808 ≤ z ∧ z ≤ 9223372036854775807 := hv; exact ⟨Int.le_trans hf.1 hv.1, Int.le_trans hv.2 hf.2⟩) (hk _ _ _ hL (h2 _ rfl))
        | false => rw [hf] at h2; exact h2.elim
      next => exact h.elim
    next => exact h.elim
  | arraylength =>
    have e : len = 1 := by simpa [jok_, ln_] using hj
    subst e
    simp only [stp_] at h
    split at h
    next S' =>
      split at h
      next n xs => exact (hS n xs rfl pc σ L S').2 hd (hk _ _ _ hL h)
      next => exact h.elim
    next t o S' =>
      obtain ⟨a, c, N, hkt⟩ : ∃ a c N, KT_ t = (a, c, N) := ⟨_, _, _, rfl⟩
      · rw [hkt] at h
        cases hb : (Nat.ble 1 a && Nat.ble a 5) with
        | false => rw [hb] at h; exact h.elim
        | true =>
          rw [hb] at h
          simp only [Bool.and_eq_true] at hb
          exact so_alen hSA E hd hkt ⟨Nat.le_of_ble_eq_true hb.1, Nat.le_of_ble_eq_true hb.2⟩ (hk _ _ _ hL h)
    next => exact h.elim
  | invokevirtual n =>
    have e : len = 3 := by simpa [jok_, ln_] using hj
    subst e
    simp only [stp_] at h
    split at h
    next na T hl =>
      cases hb : (Nat.ble na S.length && Nat.ble (csum_ (S.drop na)) 8) with
      | false => rw [hb] at h; exact h.elim
      | true =>
        rw [hb] at h
        simp only [Bool.and_eq_true] at hb
        have h1 := Nat.le_of_ble_eq_true hb.1
        have h2 := Nat.le_of_ble_eq_true hb.2
        have := hC _ _ _ hl pc (.invokevirtual n) σ L (S.take na).reverse (S.drop na) _ (Or.inl ⟨by rw [Nat.mul_div_cancel_left _ (by omega)], by omega⟩) hd (by simp; omega) h2 hL h (fun r σ' q => hk _ _ _ hL q)
        rw [List.reverse_reverse, List.take_append_drop] at this
        exact this
    next => exact h.elim
  | invokestatic n =>
    have e : len = 3 := by simpa [jok_, ln_] using hj
    subst e
    simp only [stp_] at h
    split at h
    next na T hl =>
      cases hb : (Nat.ble na S.length && Nat.ble (csum_ (S.drop na)) 8) with
      | false => rw [hb] at h; exact h.elim
      | true =>
        rw [hb] at h
        simp only [Bool.and_eq_true] at hb
        have h1 := Nat.le_of_ble_eq_true hb.1
        have h2 := Nat.le_of_ble_eq_true hb.2
        have := hC _ _ _ hl pc (.invokestatic n) σ L (S.take na).reverse (S.drop na) _ (Or.inr ⟨by rw [show (2 * n + 1) / 2 = n by omega], by omega⟩) hd (by simp; omega) h2 hL h (fun r σ' q => hk _ _ _ hL q)
        rw [List.reverse_reverse, List.take_append_drop] at this
        exact this
    next => exact h.elim
  | ireturn =>
    have e : len = 1 := by simpa [jok_, ln_] using hj
    subst e
    simp only [stp_] at h
    split at h
    next z =>
      cases h1 : (rk == 1) with
      | true => rw [h1] at h; exact hR pc σ L _ (Or.inl ⟨hd, z, rfl, Or.inl (by simpa using h1)⟩) h
      | false =>
        rw [h1] at h
        simp only [cond_false] at h
        cases h2 : (rk == 2) with
        | true => rw [h2] at h; exact hR pc σ L _ (Or.inl ⟨hd, z, rfl, Or.inr ⟨by simpa using h2, h.1⟩⟩) h.2
        | false => rw [h2] at h; exact h.elim
    next => exact h.elim
  | lreturn =>
    have e : len = 1 := by simpa [jok_, ln_] using hj
    subst e
    simp only [stp_] at h
    split at h
    next z =>
      cases h1 : (rk == 3) with
      | true => rw [h1] at h; exact hR pc σ L _ (Or.inr (Or.inl ⟨hd, by simpa using h1, z, rfl⟩)) h
      | false => rw [h1] at h; exact h.elim
    next => exact h.elim
  | areturn =>
    have e : len = 1 := by simpa [jok_, ln_] using hj
    subst e
    simp only [stp_] at h
    split at h
    next t z =>
      cases h1 : (rk == 4) with
      | true => rw [h1] at h; exact hR pc σ L _ (Or.inr (Or.inr (Or.inl ⟨hd, by simpa using h1, t, z, rfl⟩))) h
      | false => rw [h1] at h; exact h.elim
    next => exact h.elim
  | return_ =>
    have e : len = 1 := by simpa [jok_, ln_] using hj
    subst e
    simp only [stp_] at h
    split at h
    next =>
      cases h1 : (rk == 0) with
      | true => rw [h1] at h; exact hR pc σ L _ (Or.inr (Or.inr (Or.inr ⟨hd, by simpa using h1, rfl⟩))) h
      | false => rw [h1] at h; exact h.elim
    next => exact h.elim
  | _ => exact h.elim
theorem blk_ {fl pl : List (Nat × Nat × Nat × Int)} {kn : List (Nat × Sv_t)} {cal : List (Nat × Nat × Tr_t)} {rk : Nat} {Ret : List Sv_t → Me_t → Prop} {scr : Option (Nat × (Int → Int))} {ct : List Nat}
    (hCL : CL_) (hSH : SH_) (hSA : SA_) (hF : FT_ own fl) (hP : PT_ own pl) (hK : KN_ own kn) (hC : ∀ n na T, lk_ cal n = some (na, T) → COK_ X G Q cl sl ad shs cc nL n na T) (hR : ROK_ X G Q cl sl ad shs cc rk Ret) (hS : SOK_ X G Q cl sl ad shs cc scr)
    (E : EN_ X G own cc nL rty) : ∀ (cs : Ci_t), (∀ q ∈ cs, decode cc q.1 = .ok q.2) → ck_ kn cs = true → ∀ (pc : Nat) (L S : List Sv_t) (σ : Me_t), L.length = nL → (cs.head?.map (fun q => q.1)) = some pc → wpb_ fl pl kn cal rk Ret (fun tg L' S' σ' => WP_ X G Q cl sl ad shs σ' tg L' S') scr ct cs L S σ → WP_ X G Q cl sl ad shs σ pc L S := by
  intro cs
  induction cs with
  | nil => intro _ _ pc L S σ _ _ h; exact h.elim
  | cons q cs ih =>
    intro hd hck pc L S σ hL hpc h
    simp only [List.head?_cons, Option.map_some, Option.some.injEq] at hpc
    subst hpc
    simp only [ck_, Bool.and_eq_true] at hck
    obtain ⟨⟨h1, h2⟩, h3⟩ := hck
    refine stp_ok hCL hSH hSA hF hP hK hC hR hS E (hd q List.mem_cons_self) h1 hL h ?_
    intro L' S' σ' hL' hk
    cases hct : ct.contains (q.1 + q.2.2) with
    | true => rw [hct] at hk; exact hk
    | false =>
    rw [hct] at hk
    simp only [cond_false] at hk
    cases cs with
    | nil => exact hk.elim
    | cons q2 cs2 =>
      have e : q.1 + q.2.2 = q2.1 := by simpa using h2
      rw [e]
      exact ih (fun r hr => hd r (List.mem_cons_of_mem _ hr)) h3 q2.1 L' S' σ' hL' rfl hk
end BLK
