/-! WALKS OVER A MEMORY. X: the machine, the launch, the method; G: the classes' numbers, the arrays' classes, fixed addresses, the cells that may change. -/
abbrev Cx_t : Type := Program × Launch × Env × Room × State × MethodId × Array Value × List Frame × Method × Code
abbrev Gx_t : Type := va_G × (Nat → ClassId) × (Nat → Nat) × (Nat → Prop)
def tys_ (tc : Nat → ClassId) : List (ClassId × FieldType) := [(tc 1, .int), (tc 2, .byte), (tc 3, .boolean), (tc 4, .long), (tc 6, .object RX1), (tc 9, .object RX4), (tc 14, .object RX9)]
def isNest_ : Cond → Bool
  | .methodLinkNest .. => true
  | _ => false
def XW_ (U : State) : Prop := ∀ w ∈ lw_tbl, isNest_ w = true → va_Nw w U
theorem XW_warm {s U : State} (hW : s.WarmedH U.vm) (h : XW_ s) : XW_ U := by
  intro w hw hn
  have h1 := h w hw hn
  cases w <;> first | (simp [isNest_] at hn; done) | exact va_Nw.warmM hW h1
theorem XW_same {s U : State} (e : s.vm = U.vm) (h : XW_ s) : XW_ U := by
  intro w hw hn
  have h1 := h w hw hn
  cases w <;> first | (simp [isNest_] at hn; done) | exact va_Nw.same rfl e h1
/-- the String constants: who is where -/
def XS_ (cs : Nat → Nat) (A : Nat → Prop) (U : State) : Prop := (∃ adV : Nat → Nat, vk_S 14 lenS_ bytS_ (fun i => cs (i + 1)) adV A U U.heap) ∧ (∀ q ∈ strS_, vk_R q.1 q.2.1 q.2.2.1 (cs (q.2.2.2 + 1)) U) ∧ va_Z "java/lang/String" "COMPACT_STRINGS" "Z" (.int 1) A U U.heap ∧ va_Zq "jdk/internal/util/Preconditions" "SIOOBE_FORMATTER" "Ljava/util/function/BiFunction;" A U U.heap
theorem XS_move {cs : Nat → Nat} {A B : Nat → Prop} {s U : State} {H : Heap} {locs : List Loc} (h : XS_ cs A s) (hS : va_S A s.heap H locs) (hU : U.heap = H) (hW : s.WarmedH U.vm) (hB : ∀ q, B q → A q) : XS_ cs B U := by
  obtain ⟨⟨adV, h1⟩, h2, h3, h4⟩ := h
  refine ⟨⟨adV, ?_⟩, fun q hq => vk_R.warm hW (h2 q hq), ?_, ?_⟩
  · rw [hU]
    exact vk_S.narrow (vk_S.moved hW.alike (vk_S.kept h1 hS.2.1)) hB
  · rw [hU]
    exact va_Z.narrow (va_Z.moved hW.alike (va_Z.kept h3 hS.2.1)) hB
  · rw [hU]
    exact va_Zq.narrow (va_Zq.moved hW.alike (va_Zq.kept h4 hS.2.1)) hB
theorem XS_same {cs : Nat → Nat} {A : Nat → Prop} {s U : State} (hv : U.vm = s.vm) (hh : U.heap = s.heap) (h : XS_ cs A s) : XS_ cs A U := by
  obtain ⟨⟨adV, h1⟩, h2, h3, h4⟩ := h
  have al : s.vm.Alike U.vm := by rw [hv]; exact Vm.Alike.refl s.vm
  refine ⟨⟨adV, ?_⟩, fun q hq => vk_R.same hv (h2 q hq), ?_, ?_⟩
  · rw [hh]; exact vk_S.moved al h1
  · rw [hh]; exact va_Z.moved al h3
  · rw [hh]; exact va_Zq.moved al h4
def WP_ (X : Cx_t) (G : Gx_t) (Q : State → Prop) (cl sl : Nat) (ad shs : List Nat) (σ : Me_t) (pc : Nat) (L S : List Sv_t) : Prop :=
  MT_ shs σ → ad.length = shs.length → ∀ (H : Heap) (locs : List Loc) (ls : Array Slot), va_P G.1 cls_ (wl_ G.2.2.1 G.2.1 ad shs σ) H → va_D G.2.2.2 (wl_ G.2.2.1 G.2.1 ad shs σ) → va_S G.2.2.2 X.2.2.2.2.1.heap H locs → lh_ G.2.2.1 ad L ls → (∀ v ∈ L, tv_ shs v) → (∀ v ∈ S, tv_ shs v) →
    W X.1 X.2.1 X.2.2.1 X.2.2.2.1 X.2.2.2.2.1 X.2.2.2.2.2.1 X.2.2.2.2.2.2.1 X.2.2.2.2.2.2.2.1 X.2.2.2.2.2.2.2.2.1 X.2.2.2.2.2.2.2.2.2 H locs cl sl Q (F0 X.2.2.2.2.2.1 pc ls (S.map (val_ G.2.2.1 ad)))
def EN_ (X : Cx_t) (G : Gx_t) (own : String) (cc : ByteArray) (nL : Nat) (rty : Option FieldType) : Prop :=
  X.1.tables.exec = Jvm.exec ∧ X.2.2.2.2.2.2.2.2.2.code = cc ∧ X.2.2.2.2.2.2.2.2.2.maxLocals = nL ∧ X.2.2.2.2.1.vm.findClass own = some X.2.2.2.2.2.1.cls ∧ (∀ w ∈ gl_, w.before X.2.2.2.2.2.2.1 X.2.2.2.2.1 = true) ∧ va_K G.1 cls_ (tys_ G.2.1) X.2.2.2.2.1 ∧ X.2.2.2.2.2.2.2.2.1.sig.returnType = rty ∧ X.2.2.2.2.2.2.2.2.1.locks = false ∧ XW_ X.2.2.2.2.1 ∧ XS_ G.2.2.1 G.2.2.2 X.2.2.2.2.1
theorem vc_ {shs : List Nat} {v : Sv_t} {S : List Sv_t} (h : tv_ shs v) (hS : ∀ w ∈ S, tv_ shs w) : ∀ w ∈ v :: S, tv_ shs w := List.forall_mem_cons.mpr ⟨h, hS⟩
theorem vt_ {shs : List Nat} {v : Sv_t} {S : List Sv_t} (hS : ∀ w ∈ v :: S, tv_ shs w) : tv_ shs v ∧ ∀ w ∈ S, tv_ shs w := List.forall_mem_cons.mp hS
theorem vg_ {shs : List Nat} {v : Sv_t} {L : List Sv_t} {n : Nat} (hL : ∀ w ∈ L, tv_ shs w) (h : L[n]? = some v) : tv_ shs v := hL v (List.mem_of_getElem? h)
theorem val_0 {cs : Nat → Nat} {ad : List Nat} {z : Int} : val_ cs ad (0, z) = .int (Int32.ofInt z) := rfl
theorem val_1 {cs : Nat → Nat} {ad : List Nat} {z : Int} : val_ cs ad (1, z) = .long (Int64.ofInt z) := rfl
theorem val_4 {cs : Nat → Nat} {ad : List Nat} {z : Int} : val_ cs ad (4, z) = .ref (cs z.toNat) := rfl
theorem val_r {cs : Nat → Nat} {ad : List Nat} {z : Int} {t : Nat} (h : 0 ≤ z) : val_ cs ad (t + 10, z) = .ref (ad.getD z.toNat 0) := by
  show (if z < 0 then Value.null else .ref (ad.getD z.toNat 0)) = _
  rw [if_neg (by omega)]
theorem val_q {cs : Nat → Nat} {ad : List Nat} {z : Int} {t u : Nat} : val_ cs ad (t + 10, z) = val_ cs ad (u + 10, z) := rfl
theorem val_2 {cs : Nat → Nat} {ad : List Nat} {z : Int} {t : Nat} : val_ cs ad (t + 10, z) = val_ cs ad (2, z) := rfl
/-- what a read gives: its range -/
def rgo_ (t : Nat × Int × Int) (z : Int) : Prop := match t.1 with
  | 0 => t.2.1 ≤ z ∧ z ≤ t.2.2
  | _ => True
theorem rgo_of {shs : List Nat} {sh : Nat} {k : Int} {j : Nat} {z : Int} (h : ok_ shs sh k j z) : rgo_ (ty_ sh j) z := by
  unfold rgo_
  split
  next e => exact h.2.1 (by omega)
  next => trivial
abbrev Tr_t : Type := List Sv_t → Me_t → (List Sv_t → Me_t → Prop) → Prop
def csum_ (S : List Sv_t) : Nat := match S with
  | [] => 0
  | v :: S => (bif v.1 == 1 then 2 else 1) + csum_ S
def cmp0_ (c : ClassFile.Cond) (z y : Int) (a b : Prop) : Prop := match c with
  | .eq => (z = y → a) ∧ (¬ z = y → b)
  | .ne => (¬ z = y → a) ∧ (z = y → b)
  | .lt => (z < y → a) ∧ (y ≤ z → b)
  | .ge => (y ≤ z → a) ∧ (z < y → b)
  | .gt => (y < z → a) ∧ (z ≤ y → b)
  | .le => (z ≤ y → a) ∧ (y < z → b)
def tsw_ (J : Nat → Prop) (pc : Nat) (z lo : Int) (offs : List Int) : Prop := match offs with
  | [] => True
  | o :: os => (z = lo → J ((pc : Int) + o).toNat) ∧ tsw_ J pc z (lo + 1) os
def ful_ (lo hi : Int) : Bool := decide (lo ≤ -2147483648) && decide (2147483647 ≤ hi)
def ful6_ (lo hi : Int) : Bool := decide (lo ≤ -9223372036854775808) && decide (9223372036854775807 ≤ hi)
def lk_ {α : Type} (l : List (Nat × α)) (n : Nat) : Option α := match l with
  | [] => none
  | q :: l => bif q.1 == n then some q.2 else lk_ l n
/-- what an instruction asks for, and what it leaves: fl, pl fields by their place in the pool (class, slot), kn constants, cal calls (2 i an instance's, 2 i + 1 a static one's), rk the kind of answer -/
def stp_ (fl pl : List (Nat × Nat × Nat × Int)) (kn : List (Nat × Sv_t)) (cal : List (Nat × Nat × Tr_t)) (rk : Nat) (Ret : List Sv_t → Me_t → Prop) (J : Nat → List Sv_t → List Sv_t → Me_t → Prop) (scr : Option (Nat × (Int → Int))) (pc : Nat) (i : Instr) (L S : List Sv_t) (σ : Me_t) (k : List Sv_t → List Sv_t → Me_t → Prop) : Prop :=
  match i with
  | .iload n => match L[n]? with
    | some (0, z) => k L ((0, z) :: S) σ
    | _ => False
  | .iload_n n => match L[n.val]? with
    | some (0, z) => k L ((0, z) :: S) σ
    | _ => False
  | .lload n => match L[n]? with
    | some (1, z) => k L ((1, z) :: S) σ
    | _ => False
  | .lload_n n => match L[n.val]? with
    | some (1, z) => k L ((1, z) :: S) σ
    | _ => False
  | .aload n => match L[n]? with
    | some (4, z) => k L ((4, z) :: S) σ
    | some (t + 10, z) => k L ((t + 10, z) :: S) σ
    | _ => False
  | .aload_n n => match L[n.val]? with
    | some (4, z) => k L ((4, z) :: S) σ
    | some (t + 10, z) => k L ((t + 10, z) :: S) σ
    | _ => False
  | .istore n => match S with
    | (0, z) :: S' => bif n.blt L.length then k (ls1_ L n (0, z)) S' σ else False
    | _ => False
  | .istore_n n => match S with
    | (0, z) :: S' => bif n.val.blt L.length then k (ls1_ L n.val (0, z)) S' σ else False
    | _ => False
  | .lstore n => match S with
    | (1, z) :: S' => bif (n + 1).blt L.length then k (ls2_ L n (1, z)) S' σ else False
    | _ => False
  | .lstore_n n => match S with
    | (1, z) :: S' => bif (n.val + 1).blt L.length then k (ls2_ L n.val (1, z)) S' σ else False
    | _ => False
  | .astore n => match S with
    | (t + 10, z) :: S' => bif n.blt L.length then k (ls1_ L n (t + 10, z)) S' σ else False
    | _ => False
  | .astore_n n => match S with
    | (t + 10, z) :: S' => bif n.val.blt L.length then k (ls1_ L n.val (t + 10, z)) S' σ else False
    | _ => False
  | .iinc n c => match L[n]? with
    | some (0, z) => (-2147483648 ≤ z + c ∧ z + c ≤ 2147483647) ∧ k (ls1_ L n (0, z + c)) S σ
    | _ => False
  | .iconst c => bif decide (-128 ≤ c) && decide (c ≤ 127) then k L ((0, c) :: S) σ else False
  | .bipush c => bif decide (-128 ≤ c) && decide (c ≤ 127) then k L ((0, c) :: S) σ else False
  | .sipush c => bif decide (-32768 ≤ c) && decide (c ≤ 32767) then k L ((0, c) :: S) σ else False
  | .lconst c => bif c.val == 0 then k L ((1, 0) :: S) σ else k L ((1, 1) :: S) σ
  | .ldc n => match lk_ kn n with
    | some v => k L (v :: S) σ
    | none => False
  | .ldc_w n => match lk_ kn n with
    | some v => k L (v :: S) σ
    | none => False
  | .ldc2_w n => match lk_ kn n with
    | some v => k L (v :: S) σ
    | none => False
  | .iadd => match S with
    | (0, b) :: (0, a) :: S' => (-2147483648 ≤ a + b ∧ a + b ≤ 2147483647) ∧ k L ((0, a + b) :: S') σ
    | _ => False
  | .isub => match S with
    | (0, b) :: (0, a) :: S' => (-2147483648 ≤ a - b ∧ a - b ≤ 2147483647) ∧ k L ((0, a - b) :: S') σ
    | _ => False
  | .imul => match S with
    | (0, b) :: (0, a) :: S' => (-2147483648 ≤ a * b ∧ a * b ≤ 2147483647) ∧ k L ((0, a * b) :: S') σ
    | _ => False
  | .idiv => match S with
    | (0, b) :: (0, a) :: S' => (¬ b = 0 ∧ -2147483648 ≤ a.tdiv b ∧ a.tdiv b ≤ 2147483647) ∧ k L ((0, a.tdiv b) :: S') σ
    | _ => False
  | .irem => match S with
    | (0, b) :: (0, a) :: S' => ¬ b = 0 ∧ k L ((0, a.tmod b) :: S') σ
    | _ => False
  | .iand => match S with
    | (0, b) :: (0, a) :: S' => k L ((0, and3_ a b) :: S') σ
    | _ => False
  | .ior => match S with
    | (0, b) :: (0, a) :: S' => k L ((0, or3_ a b) :: S') σ
    | _ => False
  | .ixor => match S with
    | (0, b) :: (0, a) :: S' => k L ((0, xor3_ a b) :: S') σ
    | _ => False
  | .ishl => match S with
    | (0, b) :: (0, a) :: S' => k L ((0, shl3_ a b) :: S') σ
    | _ => False
  | .ishr => match S with
    | (0, b) :: (0, a) :: S' => k L ((0, shr3_ a b) :: S') σ
    | _ => False
  | .i2b => match S with
    | (0, a) :: S' => k L ((0, i2b_ a) :: S') σ
    | _ => False
  | .i2s => match S with
    | (0, a) :: S' => k L ((0, i2s_ a) :: S') σ
    | _ => False
  | .i2l => match S with
    | (0, a) :: S' => k L ((1, a) :: S') σ
    | _ => False
  | .l2i => match S with
    | (1, a) :: S' => k L ((0, l2i_ a) :: S') σ
    | _ => False
  | .ladd => match S with
    | (1, b) :: (1, a) :: S' => (-9223372036854775808 ≤ a + b ∧ a + b ≤ 9223372036854775807) ∧ k L ((1, a + b) :: S') σ
    | _ => False
  | .lsub => match S with
    | (1, b) :: (1, a) :: S' => (-9223372036854775808 ≤ a - b ∧ a - b ≤ 9223372036854775807) ∧ k L ((1, a - b) :: S') σ
    | _ => False
  | .lmul => match S with
    | (1, b) :: (1, a) :: S' => (-9223372036854775808 ≤ a * b ∧ a * b ≤ 9223372036854775807) ∧ k L ((1, a * b) :: S') σ
    | _ => False
  | .ldiv => match S with
    | (1, b) :: (1, a) :: S' => (¬ b = 0 ∧ -9223372036854775808 ≤ a.tdiv b ∧ a.tdiv b ≤ 9223372036854775807) ∧ k L ((1, a.tdiv b) :: S') σ
    | _ => False
  | .lrem => match S with
    | (1, b) :: (1, a) :: S' => ¬ b = 0 ∧ k L ((1, a.tmod b) :: S') σ
    | _ => False
  | .land => match S with
    | (1, b) :: (1, a) :: S' => k L ((1, and6_ a b) :: S') σ
    | _ => False
  | .lor => match S with
    | (1, b) :: (1, a) :: S' => k L ((1, or6_ a b) :: S') σ
    | _ => False
  | .lshl => match S with
    | (0, b) :: (1, a) :: S' => k L ((1, shl6_ a b) :: S') σ
    | _ => False
  | .lshr => match S with
    | (0, b) :: (1, a) :: S' => k L ((1, shr6_ a b) :: S') σ
    | _ => False
  | .lcmp => match S with
    | (1, b) :: (1, a) :: S' => k L ((0, lcmp_ a b) :: S') σ
    | _ => False
  | .dup => match S with
    | v :: S' => bif v.1 == 1 then False else k L (v :: v :: S') σ
    | _ => False
  | .dup2 => match S with
    | v :: w :: S' => bif v.1 == 1 || w.1 == 1 then False else k L (v :: w :: v :: w :: S') σ
    | _ => False
  | .pop => match S with
    | v :: S' => bif v.1 == 1 then False else k L S' σ
    | _ => False
  | .pop2 => match S with
    | (1, _) :: S' => k L S' σ
    | _ => False
  | .ifCond c off => match S with
    | (0, z) :: S' => cmp0_ c z 0 (J ((pc : Int) + off).toNat L S' σ) (k L S' σ)
    | _ => False
  | .if_icmp c off => match S with
    | (0, y) :: (0, z) :: S' => cmp0_ c z y (J ((pc : Int) + off).toNat L S' σ) (k L S' σ)
    | _ => False
  | .goto off => J ((pc : Int) + off).toNat L S σ
  | .tableswitch d lo hi offs => match S with
    | (0, z) :: S' => (z < lo ∨ hi < z → J ((pc : Int) + d).toNat L S' σ) ∧ tsw_ (fun t => J t L S' σ) pc z lo offs.toList
    | _ => False
  | .getfield n => match S with
    | (t + 10, o) :: S' => match lk_ fl n with
      | some (c, jn, ji) => match KT_ t with
        | (0, c', N) => bif c == c' && jn.blt N then (match rt_ t o jn ji with
          | some r => k L (((ty_ t jn).1, r) :: S') σ
          | none => ∀ z : Int, z = σ o ji → rgo_ (ty_ t jn) z → k L (((ty_ t jn).1, z) :: S') σ) else False
        | _ => False
      | none => False
    | _ => False
  | .putfield n => match S with
    | (u, z) :: (t + 10, o) :: S' => match lk_ pl n with
      | some (c, jn, ji) => match KT_ t with
        | (0, c', N) => bif c == c' && jn.blt N then (match rt_ t o jn ji with
          | some _ => False
          | none => match ty_ t jn with
            | (0, lo, hi) => bif u == 0 then (bif ful_ lo hi then (∀ σ' : Me_t, σ' = ups_ σ o ji z → k L S' σ') else (lo ≤ z ∧ z ≤ hi) ∧ (∀ σ' : Me_t, σ' = ups_ σ o ji z → k L S' σ')) else False
            | (1, lo, hi) => bif u == 1 && ful6_ lo hi then (∀ σ' : Me_t, σ' = ups_ σ o ji z → k L S' σ') else False
            | (2, _, _) => bif Nat.ble 10 u then (∀ σ' : Me_t, σ' = ups_ σ o ji z → k L S' σ') else False
            | (w, _, _) => bif u == w && Nat.ble 10 w then (∀ σ' : Me_t, σ' = ups_ σ o ji z → k L S' σ') else False) else False
        | _ => False
      | none => False
    | _ => False
  | .iaload => match S with
    | (0, x) :: (4, 0) :: S' => match scr with
      | some (n, xs) => (0 ≤ x ∧ x < (n : Int)) ∧ k L ((0, xs x) :: S') σ
      | none => False
    | (0, x) :: (t + 10, o) :: S' => match KT_ t with
      | (1, _, N) => (0 ≤ x ∧ x < (N : Int)) ∧ ∀ z : Int, z = σ o x → rgo_ (ty_ t 0) z → k L ((0, z) :: S') σ
      | _ => False
    | _ => False
  | .baload => match S with
    | (0, x) :: (t + 10, o) :: S' => match KT_ t with
      | (2, _, N) => (0 ≤ x ∧ x < (N : Int)) ∧ ∀ z : Int, z = σ o x → rgo_ (ty_ t 0) z → k L ((0, z) :: S') σ
      | (3, _, N) => (0 ≤ x ∧ x < (N : Int)) ∧ ∀ z : Int, z = σ o x → rgo_ (ty_ t 0) z → k L ((0, z) :: S') σ
      | _ => False
    | _ => False
  | .laload => match S with
    | (0, x) :: (t + 10, o) :: S' => match KT_ t with
      | (4, _, N) => (0 ≤ x ∧ x < (N : Int)) ∧ k L ((1, σ o x) :: S') σ
      | _ => False
    | _ => False
  | .aaload => match S with
    | (0, x) :: (t + 10, o) :: S' => match KT_ t with
      | (5, _, N) => (0 ≤ x ∧ x < (N : Int)) ∧ (match rt_ t o 0 x with
        | some r => k L (((ty_ t 0).1, r) :: S') σ
        | none => False)
      | _ => False
    | _ => False
  | .iastore => match S with
    | (0, z) :: (0, x) :: (t + 10, o) :: S' => match KT_ t with
      | (1, _, N) => (0 ≤ x ∧ x < (N : Int)) ∧ (bif ful_ (ty_ t 0).2.1 (ty_ t 0).2.2 then (∀ σ' : Me_t, σ' = ups_ σ o x z → k L S' σ') else ((ty_ t 0).2.1 ≤ z ∧ z ≤ (ty_ t 0).2.2) ∧ (∀ σ' : Me_t, σ' = ups_ σ o x z → k L S' σ'))
      | _ => False
    | _ => False
  | .bastore => match S with
    | (0, z) :: (0, x) :: (t + 10, o) :: S' => match KT_ t with
      | (2, _, N) => (0 ≤ x ∧ x < (N : Int)) ∧ ((ty_ t 0).2.1 ≤ z ∧ z ≤ (ty_ t 0).2.2) ∧ (∀ σ' : Me_t, σ' = ups_ σ o x z → k L S' σ')
      | (3, _, N) => (0 ≤ x ∧ x < (N : Int)) ∧ ((ty_ t 0).2.1 ≤ z ∧ z ≤ (ty_ t 0).2.2) ∧ (∀ σ' : Me_t, σ' = ups_ σ o x z → k L S' σ')
      | _ => False
    | _ => False
  | .lastore => match S with
    | (1, z) :: (0, x) :: (t + 10, o) :: S' => match KT_ t with
      | (4, _, N) => (0 ≤ x ∧ x < (N : Int)) ∧ (bif ful6_ (ty_ t 0).2.1 (ty_ t 0).2.2 then (∀ σ' : Me_t, σ' = ups_ σ o x z → k L S' σ') else False)
      | _ => False
    | _ => False
  | .arraylength => match S with
    | (4, 0) :: S' => match scr with
      | some (n, _) => k L ((0, (n : Int)) :: S') σ
      | none => False
    | (t + 10, _) :: S' => match KT_ t with
      | (a, _, N) => bif Nat.ble 1 a && Nat.ble a 5 then k L ((0, (N : Int)) :: S') σ else False
    | _ => False
  | .invokevirtual n => match lk_ cal (2 * n) with
    | some (na, T) => bif Nat.ble na S.length && Nat.ble (csum_ (S.drop na)) 8 then T (S.take na).reverse σ (fun r σ' => k L (r ++ S.drop na) σ') else False
    | none => False
  | .invokestatic n => match lk_ cal (2 * n + 1) with
    | some (na, T) => bif Nat.ble na S.length && Nat.ble (csum_ (S.drop na)) 8 then T (S.take na).reverse σ (fun r σ' => k L (r ++ S.drop na) σ') else False
    | none => False
  | .ireturn => match S with
    | [(0, z)] => bif rk == 1 then Ret [(0, z)] σ else bif rk == 2 then (0 ≤ z ∧ z ≤ 1) ∧ Ret [(0, z)] σ else False
    | _ => False
  | .lreturn => match S with
    | [(1, z)] => bif rk == 3 then Ret [(1, z)] σ else False
    | _ => False
  | .areturn => match S with
    | [(t + 10, z)] => bif rk == 4 then Ret [(t + 10, z)] σ else False
    | _ => False
  | .return_ => match S with
    | [] => bif rk == 0 then Ret [] σ else False
    | _ => False
  | _ => False
def ln_ (i : Instr) : Nat := match i with
  | .iload _ | .lload _ | .aload _ | .istore _ | .lstore _ | .astore _ | .bipush _ | .ldc _ | .newarray _ => 2
  | .iinc _ _ | .sipush _ | .ldc_w _ | .ldc2_w _ | .ifCond _ _ | .if_icmp _ _ | .goto _ | .getfield _ | .putfield _ | .invokevirtual _ | .invokestatic _ | .invokespecial _ | .new _ | .anewarray _ => 3
  | _ => 1
