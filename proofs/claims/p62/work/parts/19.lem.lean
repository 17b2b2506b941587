/-! lemmas for the walks in any state -/
def isWar_ (w : Int) : Prop := w = 5 ∨ w = 16 ∨ w = 45 ∨ w = 56 ∨ w = 67
def isLand_ (o : Int) : Prop := (o = 10 ∨ o = 12 ∨ o = 14) ∨ (o = 21 ∨ o = 23 ∨ o = 25) ∨ (o = 50 ∨ o = 52 ∨ o = 54) ∨ (o = 61 ∨ o = 63 ∨ o = 65) ∨ (o = 72 ∨ o = 74 ∨ o = 76)
def isRow_ (o : Int) : Prop := o = 78 ∨ o = 80 ∨ o = 82 ∨ o = 84
theorem shs_at {t : Nat} {z : Int} (h : tv_ SHS_ (t + 10, z)) : ∃ k : Nat, z = (k : Int) ∧ k < 106 ∧ SHS_[k]? = some t := by
  obtain ⟨h1, h2⟩ := h
  exact ⟨z.toNat, by omega, (List.getElem?_eq_some_iff.mp h2).1, h2⟩
theorem tvWar_ {z : Int} (h : tv_ SHS_ (15, z)) : isWar_ z := by
  obtain ⟨k, rfl, hk, h2⟩ := shs_at (t := 5) h
  have key : ∀ k, k < 106 → SHS_[k]? = some 5 → k = 5 ∨ k = 16 ∨ k = 45 ∨ k = 56 ∨ k = 67 := by decide +kernel
  have := key k hk h2
  unfold isWar_
  omega
theorem tvLand_ {z : Int} (h : tv_ SHS_ (20, z)) : isLand_ z := by
  obtain ⟨k, rfl, hk, h2⟩ := shs_at (t := 10) h
  have key : ∀ k, k < 106 → SHS_[k]? = some 10 → (k = 10 ∨ k = 12 ∨ k = 14) ∨ (k = 21 ∨ k = 23 ∨ k = 25) ∨ (k = 50 ∨ k = 52 ∨ k = 54) ∨ (k = 61 ∨ k = 63 ∨ k = 65) ∨ (k = 72 ∨ k = 74 ∨ k = 76) := by decide +kernel
  have := key k hk h2
  unfold isLand_
  omega
theorem tvRow_ {z : Int} (h : tv_ SHS_ (40, z)) : isRow_ z := by
  obtain ⟨k, rfl, hk, h2⟩ := shs_at (t := 30) h
  have key : ∀ k, k < 106 → SHS_[k]? = some 30 → k = 78 ∨ k = 80 ∨ k = 82 ∨ k = 84 := by decide +kernel
  have := key k hk h2
  unfold isRow_
  omega
theorem mul_r {a b A B : Int} (h1 : 0 ≤ a) (h2 : a ≤ A) (h3 : 0 ≤ b) (h4 : b ≤ B) : 0 ≤ a * b ∧ a * b ≤ A * B := ⟨Int.mul_nonneg h1 h3, Int.mul_le_mul h2 h4 h3 (Int.le_trans h1 h2)⟩
theorem tdiv_r {x y : Int} (h1 : 0 ≤ x) (h2 : 0 < y) : 0 ≤ Int.tdiv x y ∧ Int.tdiv x y ≤ x := by
  rw [Int.tdiv_eq_ediv_of_nonneg h1]
  exact ⟨Int.ediv_nonneg h1 (by omega), Int.ediv_le_self y h1⟩
theorem tmod_r {x y : Int} (h1 : 0 ≤ x) (h2 : 0 < y) : 0 ≤ Int.tmod x y ∧ Int.tmod x y < y := by
  rw [Int.tmod_eq_emod_of_nonneg h1]
  exact ⟨Int.emod_nonneg x (by omega), Int.emod_lt_of_pos x h2⟩
theorem ups_r {σ σ' : Me_t} {o j z k i : Int} (e : σ' = ups_ σ o j z) (h : k ≠ o ∨ i ≠ j) : σ' k i = σ k i := by rw [e, ups_n h]
theorem ups_v {σ σ' : Me_t} {o j z : Int} (e : σ' = ups_ σ o j z) : σ' o j = z := by rw [e, ups_s]
theorem ac_r {σ σ' : Me_t} {o q sp dp n k i : Int} (e : σ' = (fun a b => if a = q ∧ dp ≤ b ∧ b < dp + n then σ o (b - dp + sp) else σ a b)) (h : k ≠ q ∨ i < dp ∨ dp + n ≤ i) : σ' k i = σ k i := by
  subst e
  show (if k = q ∧ dp ≤ i ∧ i < dp + n then _ else _) = _
  rw [if_neg (fun q => by omega)]
theorem ac_v {σ σ' : Me_t} {o q sp dp n i : Int} (e : σ' = (fun a b => if a = q ∧ dp ≤ b ∧ b < dp + n then σ o (b - dp + sp) else σ a b)) (h : dp ≤ i ∧ i < dp + n) : σ' q i = σ o (i - dp + sp) := by
  subst e
  show (if q = q ∧ dp ≤ i ∧ i < dp + n then _ else _) = _
  rw [if_pos ⟨rfl, h⟩]
/-- a slot's range, of any object -/
theorem rgf_ {shs : List Nat} {σ : Me_t} {t j : Nat} {o : Int} (hM : MT_ shs σ) (h : tv_ shs (t + 10, o)) (hj : j < sz_ t) : rgo_ (ty_ t j) (σ o (j : Int)) := rgo_of (mt_at hM h hj)
/-- numbers that are not below 0 -/
theorem n32_ {a : Int} (h0 : 0 ≤ a) (h1 : a ≤ 2147483647) : (Int32.ofInt a).toBitVec = BitVec.ofNat 32 a.toNat := by
  obtain ⟨n, rfl⟩ : ∃ n : Nat, a = n := ⟨a.toNat, by omega⟩
  show BitVec.ofInt 32 (n : Int) = _
  rw [BitVec.ofInt_natCast, Int.toNat_natCast]
theorem t32_ {v : Int32} {n : Nat} (h : v.toBitVec.toNat = n) (hn : n < 2147483648) : v.toInt = (n : Int) := by
  show v.toBitVec.toInt = _
  rw [BitVec.toInt_eq_toNat_of_lt (by omega), h]
theorem or3_n {a b : Int} (h0 : 0 ≤ a) (h1 : a ≤ 2147483647) (h2 : 0 ≤ b) (h3 : b ≤ 2147483647) : or3_ a b = ((a.toNat ||| b.toNat : Nat) : Int) := by
  have hl : a.toNat ||| b.toNat < 2 ^ 31 := Nat.or_lt_two_pow (by omega) (by omega)
  rw [or3_e]
  refine t32_ ?_ (by omega)
  show ((Int32.ofInt a).toBitVec ||| (Int32.ofInt b).toBitVec).toNat = _
  rw [n32_ h0 h1, n32_ h2 h3, BitVec.toNat_or, BitVec.toNat_ofNat, BitVec.toNat_ofNat, Nat.mod_eq_of_lt (by omega), Nat.mod_eq_of_lt (by omega)]
theorem and3_n {a b : Int} (h2 : 0 ≤ b) (h3 : b ≤ 2147483647) : ∃ n : Nat, and3_ a b = (((n &&& b.toNat : Nat)) : Int) ∧ (0 ≤ a → a ≤ 2147483647 → n = a.toNat) := by
  refine ⟨(Int32.ofInt a).toBitVec.toNat, ?_, fun g0 g1 => ?_⟩
  · have hb : b.toNat < 2147483648 := by omega
    rw [and3_e]
    refine t32_ ?_ (Nat.lt_of_le_of_lt Nat.and_le_right hb)
    show ((Int32.ofInt a).toBitVec &&& (Int32.ofInt b).toBitVec).toNat = _
    rw [n32_ h2 h3, BitVec.toNat_and, BitVec.toNat_ofNat, Nat.mod_eq_of_lt (by omega)]
  · rw [n32_ g0 g1, BitVec.toNat_ofNat, Nat.mod_eq_of_lt (by omega)]
theorem and3_r {x c : Int} (h2 : 0 ≤ c) (h3 : c ≤ 2147483647) : 0 ≤ and3_ x c ∧ and3_ x c ≤ c := by
  obtain ⟨n, e, -⟩ := and3_n (a := x) h2 h3
  rw [e]
  have := Nat.and_le_right (n := n) (m := c.toNat)
  omega
theorem and3_c (a b : Int) : and3_ a b = and3_ b a := by
  rw [and3_e, and3_e, Int32.and_comm]
theorem and3_l {x y : Int} (h2 : 0 ≤ x) (h3 : x ≤ 2147483647) : 0 ≤ and3_ x y ∧ and3_ x y ≤ x := by
  rw [and3_c]
  exact and3_r h2 h3
theorem and3_15 {x : Int} (h0 : 0 ≤ x) (h1 : x ≤ 2147483647) : and3_ x 15 = x % 16 := by
  obtain ⟨n, e, hn⟩ := and3_n (a := x) (b := 15) (by omega) (by omega)
  rw [e, hn h0 h1]
  have : x.toNat &&& (15 : Int).toNat = x.toNat % 2 ^ 4 := Nat.and_two_pow_sub_one_eq_mod x.toNat 4
  rw [this]
  omega
theorem and3_1 {x : Int} : and3_ x 1 = 0 ∨ and3_ x 1 = 1 := by
  have := and3_r (x := x) (c := 1) (by omega) (by omega)
  omega
theorem shl3_n {a : Int} (c : Nat) (hc : c < 32) (h0 : 0 ≤ a) (h1 : a * 2 ^ c ≤ 2147483647) : shl3_ a (c : Int) = a * 2 ^ c := by
  obtain ⟨n, rfl⟩ : ∃ n : Nat, a = n := ⟨a.toNat, by omega⟩
  have hp : (0 : Int) < 2 ^ c := Int.pow_pos (by omega)
  have e1 : ((n : Int) * 2 ^ c) = ((n * 2 ^ c : Nat) : Int) := by
    rw [Int.natCast_mul, Int.natCast_pow]
    rfl
  rw [e1] at h1 ⊢
  have hn : n ≤ n * 2 ^ c := Nat.le_mul_of_pos_right n (Nat.two_pow_pos c)
  rw [shl3_e]
  refine t32_ ?_ (by omega)
  have ec : (Int32.ofInt (c : Int) &&& 31).toBitVec = BitVec.ofNat 32 c := by
    show (Int32.ofInt (c : Int)).toBitVec &&& _ = _
    rw [n32_ (by omega) (by omega), Int.toNat_natCast]
    apply BitVec.eq_of_toNat_eq
    rw [BitVec.toNat_and, BitVec.toNat_ofNat, Nat.mod_eq_of_lt (by omega)]
    show c &&& 31 = c
    have : c &&& 31 = c % 2 ^ 5 := Nat.and_two_pow_sub_one_eq_mod c 5
    rw [this]
    omega
  show ((Int32.ofInt (n : Int)).toBitVec <<< ((Int32.ofInt (c : Int) &&& 31).toBitVec.smod 32)).toNat = _
  rw [ec]
  have es : (BitVec.ofNat 32 c).smod 32 = BitVec.ofNat 32 c := by
    have key : ∀ c : Nat, c < 32 → (BitVec.ofNat 32 c).smod 32 = BitVec.ofNat 32 c := by decide +kernel
    exact key c hc
  rw [es, n32_ (by omega) (by omega), Int.toNat_natCast]
  show (BitVec.ofNat 32 n <<< (BitVec.ofNat 32 c).toNat).toNat = _
  have hh : n * 2 ^ c ≤ 2147483647 := by omega
  rw [BitVec.toNat_shiftLeft, BitVec.toNat_ofNat, BitVec.toNat_ofNat, Nat.mod_eq_of_lt (a := n) (by omega), Nat.mod_eq_of_lt (a := c) (by omega), Nat.shiftLeft_eq, Nat.mod_eq_of_lt (by omega)]
theorem shl3_b {b : Int} (h0 : 0 ≤ b) (h1 : b ≤ 10) : 1 ≤ shl3_ 1 b ∧ shl3_ 1 b ≤ 1024 := by
  obtain ⟨n, rfl⟩ : ∃ n : Nat, b = n := ⟨b.toNat, by omega⟩
  have key : ∀ n : Nat, n < 11 → 1 ≤ (Int32.ofInt 1 <<< (Int32.ofInt (n : Int) &&& 31)).toInt ∧ (Int32.ofInt 1 <<< (Int32.ofInt (n : Int) &&& 31)).toInt ≤ 1024 := by decide +kernel
  rw [shl3_e]
  exact key n (by omega)
theorem shl3_1 {b : Int} (h0 : 0 ≤ b) (h1 : b ≤ 3) : (b = 0 → shl3_ 1 b = 1) ∧ (b = 1 → shl3_ 1 b = 2) ∧ (b = 2 → shl3_ 1 b = 4) ∧ (b = 3 → shl3_ 1 b = 8) := by
  refine ⟨?_, ?_, ?_, ?_⟩ <;> (rintro rfl; rw [shl3_e]; decide)
theorem shr3_n {a : Int} (c : Nat) (h0 : 0 ≤ a) (h1 : a ≤ 2147483647) (hc : c < 32 := by omega) : shr3_ a (c : Int) = a / 2 ^ c := by
  obtain ⟨n, rfl⟩ : ∃ n : Nat, a = n := ⟨a.toNat, by omega⟩
  have e1 : ((n : Int) / 2 ^ c) = ((n / 2 ^ c : Nat) : Int) := by
    rw [Int.natCast_ediv, Int.natCast_pow]
    rfl
  rw [e1]
  have hn : n / 2 ^ c ≤ n := Nat.div_le_self n _
  rw [shr3_e]
  refine t32_ ?_ (by omega)
  have ec : (Int32.ofInt (c : Int) &&& 31).toBitVec = BitVec.ofNat 32 c := by
    show (Int32.ofInt (c : Int)).toBitVec &&& _ = _
    rw [n32_ (by omega) (by omega), Int.toNat_natCast]
    apply BitVec.eq_of_toNat_eq
    rw [BitVec.toNat_and, BitVec.toNat_ofNat, Nat.mod_eq_of_lt (by omega)]
    show c &&& 31 = c
    have : c &&& 31 = c % 2 ^ 5 := Nat.and_two_pow_sub_one_eq_mod c 5
    rw [this]
    omega
  show ((Int32.ofInt (n : Int)).toBitVec.sshiftRight' ((Int32.ofInt (c : Int) &&& 31).toBitVec.smod 32)).toNat = _
  rw [ec]
  have es : (BitVec.ofNat 32 c).smod 32 = BitVec.ofNat 32 c := by
    have key : ∀ c : Nat, c < 32 → (BitVec.ofNat 32 c).smod 32 = BitVec.ofNat 32 c := by decide +kernel
    exact key c hc
  rw [es, n32_ (by omega) (by omega), Int.toNat_natCast]
  show ((BitVec.ofNat 32 n).sshiftRight (BitVec.ofNat 32 c).toNat).toNat = _
  have hm : (BitVec.ofNat 32 n).msb = false := by
    rw [BitVec.msb_eq_false_iff_two_mul_lt, BitVec.toNat_ofNat, Nat.mod_eq_of_lt (by omega)]
    omega
  rw [BitVec.sshiftRight_eq_of_msb_false hm, BitVec.toNat_ushiftRight, BitVec.toNat_ofNat, BitVec.toNat_ofNat, Nat.mod_eq_of_lt (by omega), Nat.mod_eq_of_lt (by omega), Nat.shiftRight_eq_div_pow]
theorem l2i_t {x : Int} : (-2147483648 ≤ x ∧ x ≤ 2147483647 → l2i_ x = x) ∧ -2147483648 ≤ l2i_ x ∧ l2i_ x ≤ 2147483647 := by
  rw [l2i_e]
  refine ⟨fun h => ?_, Int32.le_toInt _, by have := Int32.toInt_lt ((Int64.ofInt x).toInt32); show (Int64.ofInt x).toInt32.toInt ≤ _; omega⟩
  rw [Int64.toInt_toInt32, Int64.toInt_ofInt_of_le (by omega) (by omega)]
  exact Int.bmod_eq_of_le (by omega) (by omega)
/-- the packed date -/
theorem pack_r {y m d w : Int} (y0 : 0 ≤ y) (y1 : y ≤ 2000) (m0 : 0 ≤ m) (m1 : m ≤ 7) (d0 : 0 ≤ d) (d1 : d ≤ 2000) (w0 : 0 ≤ w) (w1 : w ≤ 15) : (0 ≤ or3_ (or3_ (or3_ (shl3_ y 14) (shl3_ m 11)) (shl3_ d 4)) w ∧ or3_ (or3_ (or3_ (shl3_ y 14) (shl3_ m 11)) (shl3_ d 4)) w ≤ 2147483647) ∧ or3_ (or3_ (or3_ (shl3_ y 14) (shl3_ m 11)) (shl3_ d 4)) w % 16 = w := by
  rw [show shl3_ y 14 = y * 16384 from shl3_n 14 (by omega) y0 (by omega), show shl3_ m 11 = m * 2048 from shl3_n 11 (by omega) m0 (by omega), show shl3_ d 4 = d * 16 from shl3_n 4 (by omega) d0 (by omega)]
  obtain ⟨p, hp⟩ : ∃ p : Nat, p = (y * 16384).toNat ||| (m * 2048).toNat := ⟨_, rfl⟩
  have l1 : (y * 16384).toNat ||| (m * 2048).toNat < 2 ^ 26 := Nat.or_lt_two_pow (by omega) (by omega)
  rw [or3_n (a := y * 16384) (by omega) (by omega) (by omega) (by omega), ← hp]
  rw [← hp] at l1
  have m1' : p % 2 ^ 4 = 0 := by
    rw [hp, Nat.or_mod_two_pow, show (y * 16384).toNat % 2 ^ 4 = 0 by omega, show (m * 2048).toNat % 2 ^ 4 = 0 by omega]
    rfl
  obtain ⟨q, hq⟩ : ∃ q : Nat, q = p ||| (d * 16).toNat := ⟨_, rfl⟩
  have l2 : p ||| (d * 16).toNat < 2 ^ 26 := Nat.or_lt_two_pow (by omega) (by omega)
  rw [or3_n (a := (p : Int)) (by omega) (by omega) (by omega) (by omega), Int.toNat_natCast, ← hq]
  rw [← hq] at l2
  have m2' : q % 2 ^ 4 = 0 := by
    rw [hq, Nat.or_mod_two_pow, m1', show (d * 16).toNat % 2 ^ 4 = 0 by omega]
    rfl
  have l3 : q ||| w.toNat < 2 ^ 26 := Nat.or_lt_two_pow (by omega) (by omega)
  rw [or3_n (a := (q : Int)) (by omega) (by omega) (by omega) (by omega), Int.toNat_natCast]
  have m3 : (q ||| w.toNat) % 2 ^ 4 = w.toNat := by
    rw [Nat.or_mod_two_pow, m2', Nat.zero_or]
    omega
  omega
/-- fewer locals -/
def wd_ : List Sv_t → List Sv_t → Prop
  | [], [] => True
  | v :: L, w :: L' => (w = (9, 0) ∨ v = w) ∧ wd_ L L'
  | _, _ => False
theorem wd_at : ∀ {L L' : List Sv_t}, wd_ L L' → L.length = L'.length ∧ ∀ (j : Nat) (v : Sv_t), L'[j]? = some v → v = (9, 0) ∨ L[j]? = some v
  | [], [], _ => ⟨rfl, fun j v h => by simp at h⟩
  | v :: L, w :: L', h => by
    obtain ⟨h1, h2⟩ := h
    obtain ⟨i1, i2⟩ := wd_at h2
    refine ⟨by simp [i1], fun j u hu => ?_⟩
    match j, hu with
    | 0, hu =>
      simp at hu
      subst hu
      rcases h1 with h1 | h1
      · exact Or.inl h1
      · exact Or.inr (by simp [h1])
    | j + 1, hu =>
      rw [List.getElem?_cons_succ] at hu ⊢
      exact i2 j u hu
  | [], _ :: _, h => h.elim
  | _ :: _, [], h => h.elim
theorem wdrop_ {X : Cx_t} {G : Gx_t} {Q : State → Prop} {cl sl pc : Nat} {ad shs : List Nat} {σ : Me_t} {L L' S : List Sv_t} (h : wd_ L L') (k : WP_ X G Q cl sl ad shs σ pc L' S) : WP_ X G Q cl sl ad shs σ pc L S := by
  obtain ⟨h1, h2⟩ := wd_at h
  intro hM hA H locs ls hP hD hS hlh vL vS
  refine k hM hA H locs ls hP hD hS ⟨hlh.1.trans h1, hlh.2.1, fun j v hj h9 => ?_⟩ (fun v hv => ?_) vS
  · rcases h2 j v hj with rfl | h
    · exact absurd rfl h9
    · exact hlh.2.2 j v h h9
  · obtain ⟨j, hj⟩ := List.getElem?_of_mem hv
    rcases h2 j v hj with rfl | h
    · trivial
    · exact vL v (List.mem_of_getElem? h)
/-- the reader's bytes -/
theorem retag_ {X : Cx_t} {G : Gx_t} {Q : State → Prop} {cl sl pc : Nat} {ad : List Nat} {σ : Me_t} {L S : List Sv_t} {v : Sv_t} {z : Int} (h : z = 2) (k : WP_ X G Q cl sl ad SHS_ σ pc L (v :: (12, 2) :: S)) : WP_ X G Q cl sl ad SHS_ σ pc L (v :: (2, z) :: S) := by
  subst h
  intro hM hA H locs ls hP hD hS hlh vL vS
  have := k hM hA H locs ls hP hD hS hlh vL (vc_ (vt_ vS).1 (vc_ ⟨by decide, rfl⟩ (vt_ (vt_ vS).2).2))
  exact this
/-- the dates' low bits -/
def DT (σ : Me_t) : Prop := ∀ j : Int, 0 ≤ j → j < 6000 → σ 31 j = -1 ∨ (0 ≤ σ 31 j ∧ σ 31 j % 16 ≤ 10)
theorem DT_fr {σ σ' : Me_t} (h : DT σ) (f : ∀ k j : Int, k = 31 → σ' k j = σ k j) : DT σ' := fun j h0 h1 => by rw [f 31 j rfl]; exact h j h0 h1
theorem DT_st {σ σ' : Me_t} {x z : Int} (h : DT σ) (e : σ' = ups_ σ 31 x z) (hz : z = -1 ∨ (0 ≤ z ∧ z % 16 ≤ 10)) : DT σ' := fun j h0 h1 => by
  by_cases hj : j = x
  · subst hj
    rw [ups_v e]
    exact hz
  · rw [ups_r e (Or.inr hj)]
    exact h j h0 h1
/-- a row that tells what was seen -/
def TD (σ : Me_t) (r : Int) : Prop := ∀ j : Int, 0 ≤ j → j + 3 ≤ σ r 3 → j % 3 = 0 → (0 ≤ σ (r + 1) j ∧ σ (r + 1) j ≤ 2) ∧ 0 ≤ σ (r + 1) (j + 1) ∧ σ (r + 1) (j + 1) ≤ 4
theorem TD_fr {σ σ' : Me_t} {r : Int} (h : TD σ r) (f : ∀ k j : Int, k = r ∨ k = r + 1 → σ' k j = σ k j) : TD σ' r := fun j h0 h1 h2 => by
  rw [f r 3 (Or.inl rfl)] at h1
  rw [f (r + 1) j (Or.inr rfl), f (r + 1) (j + 1) (Or.inr rfl)]
  exact h j h0 h1 h2
/-- the stack of what may be taken back: the i-th change's kind f, number g -/
def UN_ (f g : Int → Int) : Nat → Int → Int → Prop
  | 0, fc, tc => 0 ≤ fc ∧ fc ≤ 12 ∧ 0 ≤ tc ∧ tc ≤ 12
  | n + 1, fc, tc => (0 ≤ fc ∧ fc ≤ 12 ∧ 0 ≤ tc ∧ tc ≤ 12) ∧ ((f n = 1 ∧ g n = fc - 1 ∧ UN_ f g n (fc - 1) tc) ∨ (f n = 2 ∧ g n = tc - 1 ∧ UN_ f g n fc (tc - 1)) ∨ (f n ≠ 1 ∧ f n ≠ 2 ∧ 0 ≤ g n ∧ g n ≤ fc ∧ fc ≤ 11 ∧ UN_ f g n (fc + 1) tc))
theorem UN_bd {f g : Int → Int} : ∀ {n : Nat} {fc tc : Int}, UN_ f g n fc tc → 0 ≤ fc ∧ fc ≤ 12 ∧ 0 ≤ tc ∧ tc ≤ 12
  | 0, _, _, h => h
  | _ + 1, _, _, h => h.1
theorem UN_cg {f g f' g' : Int → Int} : ∀ {n : Nat} {fc tc : Int}, (∀ i : Nat, i < n → f' i = f i ∧ g' i = g i) → UN_ f g n fc tc → UN_ f' g' n fc tc
  | 0, _, _, _, h => h
  | n + 1, fc, tc, e, h => by
    obtain ⟨h1, h2⟩ := h
    have ei := e n (Nat.lt_succ_self n)
    have ih := fun (fc tc : Int) => UN_cg (n := n) (fc := fc) (tc := tc) (fun i hi => e i (Nat.lt_succ_of_lt hi))
    refine ⟨h1, ?_⟩
    rw [ei.1, ei.2]
    rcases h2 with ⟨a, b, c⟩ | ⟨a, b, c⟩ | ⟨a, b, c, d, e', x⟩
    · exact Or.inl ⟨a, b, ih _ _ c⟩
    · exact Or.inr (Or.inl ⟨a, b, ih _ _ c⟩)
    · exact Or.inr (Or.inr ⟨a, b, c, d, e', ih _ _ x⟩)
def UW (σ : Me_t) (w : Int) : Prop := UN_ (fun i => σ (w + 4) (i * 6)) (fun i => σ (w + 4) (i * 6 + 1)) (σ w 5).toNat (σ w 3) (σ w 4)
def LG (σ : Me_t) (w : Int) : Prop := ∀ i : Int, 0 ≤ i → i ≤ 2 → i < σ w 2 → 1 ≤ σ (w + 1 + 4 + 2 * i) 3 ∧ 2 ≤ σ (w + 1 + 4 + 2 * i) 1
theorem UW_fr {σ σ' : Me_t} {w : Int} (h : UW σ w) (f : ∀ k j : Int, (k = w ∧ (j = 3 ∨ j = 4 ∨ j = 5)) ∨ k = w + 4 → σ' k j = σ k j) : UW σ' w := by
  unfold UW
  rw [f w 5 (by omega), f w 3 (by omega), f w 4 (by omega)]
  exact UN_cg (fun i _ => ⟨f _ _ (Or.inr rfl), f _ _ (Or.inr rfl)⟩) h
theorem LG_fr {σ σ' : Me_t} {w : Int} (h : LG σ w) (f : ∀ k j : Int, (k = w ∧ j = 2) ∨ (w + 5 ≤ k ∧ k ≤ w + 10) → σ' k j = σ k j) : LG σ' w := by
  intro i h0 h2 h1
  rw [f w 2 (by omega)] at h1
  rw [f _ 3 (by omega), f _ 1 (by omega)]
  exact h i h0 h2 h1
/-- the stack grows, or is cut -/
theorem UW_n {σ σ' : Me_t} {w : Int} (h : UW σ w) (h0 : 0 ≤ σ w 5) (h5 : σ' w 5 = σ w 5 + 1) (hj : ∀ j : Int, j < σ w 5 * 6 → σ' (w + 4) j = σ (w + 4) j)
    (hb : 0 ≤ σ' w 3 ∧ σ' w 3 ≤ 12 ∧ 0 ≤ σ' w 4 ∧ σ' w 4 ≤ 12)
    (hc : (σ' (w + 4) (σ w 5 * 6) = 1 ∧ σ' (w + 4) (σ w 5 * 6 + 1) = σ' w 3 - 1 ∧ σ' w 3 = σ w 3 + 1 ∧ σ' w 4 = σ w 4) ∨ (σ' (w + 4) (σ w 5 * 6) = 2 ∧ σ' (w + 4) (σ w 5 * 6 + 1) = σ' w 4 - 1 ∧ σ' w 3 = σ w 3 ∧ σ' w 4 = σ w 4 + 1) ∨ (σ' (w + 4) (σ w 5 * 6) = 3 ∧ 0 ≤ σ' (w + 4) (σ w 5 * 6 + 1) ∧ σ' (w + 4) (σ w 5 * 6 + 1) ≤ σ' w 3 ∧ σ' w 3 = σ w 3 - 1 ∧ σ' w 4 = σ w 4)) : UW σ' w := by
  obtain ⟨n, hn⟩ : ∃ n : Nat, σ w 5 = n := ⟨(σ w 5).toNat, by omega⟩
  unfold UW at h ⊢
  rw [hn] at h hj hc h5
  rw [h5, show ((n : Int) + 1).toNat = n + 1 by omega]
  rw [Int.toNat_natCast] at h
  have h' := fun (fc tc : Int) => UN_cg (f := fun i => σ (w + 4) (i * 6)) (g := fun i => σ (w + 4) (i * 6 + 1)) (f' := fun i => σ' (w + 4) (i * 6)) (g' := fun i => σ' (w + 4) (i * 6 + 1)) (n := n) (fc := fc) (tc := tc) (fun i hi => ⟨hj _ (by omega), hj _ (by omega)⟩)
  have hbd := UN_bd h
  refine ⟨hb, ?_⟩
  rcases hc with ⟨a, b, c, d⟩ | ⟨a, b, c, d⟩ | ⟨a, b, c, d, e⟩
  · refine Or.inl ⟨a, b, ?_⟩
    rw [show σ' w 3 - 1 = σ w 3 by omega, d]
    exact h' _ _ h
  · refine Or.inr (Or.inl ⟨a, b, ?_⟩)
    rw [show σ' w 4 - 1 = σ w 4 by omega, c]
    exact h' _ _ h
  · refine Or.inr (Or.inr ⟨by show σ' (w + 4) ((n : Int) * 6) ≠ 1; omega, by show σ' (w + 4) ((n : Int) * 6) ≠ 2; omega, b, c, by omega, ?_⟩)
    rw [show σ' w 3 + 1 = σ w 3 by omega, e]
    exact h' _ _ h
theorem UW_t {σ : Me_t} {w : Int} (h : UW σ w) (h0 : 1 ≤ σ w 5) : (σ (w + 4) ((σ w 5 - 1) * 6) = 1 ∧ σ (w + 4) ((σ w 5 - 1) * 6 + 1) = σ w 3 - 1 ∧ 1 ≤ σ w 3) ∨ (σ (w + 4) ((σ w 5 - 1) * 6) = 2 ∧ σ (w + 4) ((σ w 5 - 1) * 6 + 1) = σ w 4 - 1 ∧ 1 ≤ σ w 4) ∨ (σ (w + 4) ((σ w 5 - 1) * 6) ≠ 1 ∧ σ (w + 4) ((σ w 5 - 1) * 6) ≠ 2 ∧ 0 ≤ σ (w + 4) ((σ w 5 - 1) * 6 + 1) ∧ σ (w + 4) ((σ w 5 - 1) * 6 + 1) ≤ σ w 3 ∧ σ w 3 ≤ 11) := by
  obtain ⟨n, hn⟩ : ∃ n : Nat, σ w 5 = (n : Int) + 1 := ⟨(σ w 5 - 1).toNat, by omega⟩
  unfold UW at h
  rw [hn, show ((n : Int) + 1).toNat = n + 1 by omega] at h
  rw [hn, show (n : Int) + 1 - 1 = n by omega]
  obtain ⟨h1, h2⟩ := h
  rcases h2 with ⟨a, b, c⟩ | ⟨a, b, c⟩ | ⟨a, b, c, d, e, x⟩
  · exact Or.inl ⟨a, b, by have := UN_bd c; omega⟩
  · exact Or.inr (Or.inl ⟨a, b, by have := UN_bd c; omega⟩)
  · exact Or.inr (Or.inr ⟨a, b, c, d, e⟩)
theorem UW_c {σ σ' : Me_t} {w : Int} (h : UW σ w) (h0 : 1 ≤ σ w 5) (h5 : σ' w 5 = σ w 5 - 1) (hj : ∀ j : Int, σ' (w + 4) j = σ (w + 4) j)
    (hc : (σ (w + 4) ((σ w 5 - 1) * 6) = 1 ∧ σ' w 3 = σ w 3 - 1 ∧ σ' w 4 = σ w 4) ∨ (σ (w + 4) ((σ w 5 - 1) * 6) ≠ 1 ∧ σ (w + 4) ((σ w 5 - 1) * 6) = 2 ∧ σ' w 3 = σ w 3 ∧ σ' w 4 = σ w 4 - 1) ∨ (σ (w + 4) ((σ w 5 - 1) * 6) ≠ 1 ∧ σ (w + 4) ((σ w 5 - 1) * 6) ≠ 2 ∧ σ' w 3 = σ w 3 + 1 ∧ σ' w 4 = σ w 4)) : UW σ' w := by
  obtain ⟨n, hn⟩ : ∃ n : Nat, σ w 5 = (n : Int) + 1 := ⟨(σ w 5 - 1).toNat, by omega⟩
  unfold UW at h ⊢
  rw [hn, show ((n : Int) + 1).toNat = n + 1 by omega] at h
  rw [hn, show (n : Int) + 1 - 1 = n by omega] at hc
  rw [h5, hn, show ((n : Int) + 1 - 1).toNat = n by omega]
  have h' := fun (fc tc : Int) => UN_cg (f := fun i => σ (w + 4) (i * 6)) (g := fun i => σ (w + 4) (i * 6 + 1)) (f' := fun i => σ' (w + 4) (i * 6)) (g' := fun i => σ' (w + 4) (i * 6 + 1)) (n := n) (fc := fc) (tc := tc) (fun i hi => ⟨hj _, hj _⟩)
  obtain ⟨h1, h2⟩ := h
  rcases h2 with ⟨a, b, c⟩ | ⟨a, b, c⟩ | ⟨a, b, c, d, e, x⟩
  · rcases hc with q | q | q
    · rw [q.2.1, q.2.2]; exact h' _ _ c
    · exact absurd a q.1
    · exact absurd a q.1
  · rcases hc with q | q | q
    · have := q.1.symm.trans a; omega
    · rw [q.2.2.1, q.2.2.2]; exact h' _ _ c
    · exact absurd a q.2.1
  · rcases hc with q | q | q
    · exact absurd q.1 a
    · exact absurd q.2.1 b
    · rw [q.2.2.1, q.2.2.2]; exact h' _ _ x
/-- the class between calls -/
def CI (σ : Me_t) : Prop := ((σ 0 2 = 5 ∧ σ 0 3 = 16) ∨ (σ 0 2 = 16 ∧ σ 0 3 = 5)) ∧ (LG σ (σ 0 2) ∧ UW σ (σ 0 2)) ∧ (∀ w : Int, w = 45 ∨ w = 56 ∨ w = 67 → LG σ w ∧ UW σ w) ∧ DT σ
theorem CI_fr {σ σ' : Me_t} (h : CI σ) (f : ∀ k j : Int, (k = 0 ∧ (j = 2 ∨ j = 3)) ∨ (5 ≤ k ∧ k ≤ 26) ∨ k = 31 ∨ (45 ≤ k ∧ k ≤ 77) → σ' k j = σ k j) : CI σ' := by
  obtain ⟨h1, ⟨h2, h3⟩, h4, h5⟩ := h
  have e2 := f 0 2 (by omega)
  have e3 := f 0 3 (by omega)
  refine ⟨by rw [e2, e3]; exact h1, ?_, fun w hw => ?_, DT_fr h5 (fun k j hk => f k j (by omega))⟩
  · rw [e2]
    exact ⟨LG_fr h2 (fun k j hk => f k j (by omega)), UW_fr h3 (fun k j hk => f k j (by omega))⟩
  · exact ⟨LG_fr (h4 w hw).1 (fun k j hk => f k j (by omega)), UW_fr (h4 w hw).2 (fun k j hk => f k j (by omega))⟩
theorem CI_told {σ σ' : Me_t} (h : CI σ) (hd : DT σ') (f : ∀ k j : Int, ¬ (30 ≤ k ∧ k ≤ 33) → σ' k j = σ k j) : CI σ' := by
  obtain ⟨h1, ⟨h2, h3⟩, h4, h5⟩ := h
  have e2 := f 0 2 (by omega)
  have e3 := f 0 3 (by omega)
  refine ⟨by rw [e2, e3]; exact h1, ?_, fun w hw => ?_, hd⟩
  · rw [e2]
    exact ⟨LG_fr h2 (fun k j hk => f k j (by omega)), UW_fr h3 (fun k j hk => f k j (by omega))⟩
  · exact ⟨LG_fr (h4 w hw).1 (fun k j hk => f k j (by omega)), UW_fr (h4 w hw).2 (fun k j hk => f k j (by omega))⟩
theorem LG_eq {σ σ' : Me_t} {w : Int} (h : LG σ w) (e : σ' w 2 = σ w 2) (f : ∀ k j : Int, w + 5 ≤ k ∧ k ≤ w + 10 → σ' k j = σ k j) : LG σ' w := by
  intro i h0 h2 h1
  rw [e] at h1
  rw [f _ 3 (by omega), f _ 1 (by omega)]
  exact h i h0 h2 h1
theorem CI_cur {σ σ' : Me_t} {w : Int} (h : CI σ) (hw : w = σ 0 2) (e2 : σ' 0 2 = σ 0 2) (e3 : σ' 0 3 = σ 0 3) (hl : LG σ' w) (hu : UW σ' w) (f : ∀ k j : Int, k = 31 ∨ (45 ≤ k ∧ k ≤ 77) → σ' k j = σ k j) : CI σ' := by
  obtain ⟨h1, -, h4, h5⟩ := h
  refine ⟨by rw [e2, e3]; exact h1, ?_, fun x hx => ?_, DT_fr h5 (fun k j hk => f k j (by omega))⟩
  · rw [e2, ← hw]
    exact ⟨hl, hu⟩
  · exact ⟨LG_fr (h4 x hx).1 (fun k j hk => f k j (by omega)), UW_fr (h4 x hx).2 (fun k j hk => f k j (by omega))⟩
theorem CI_img {σ σ' : Me_t} {x : Int} (h : CI σ) (hx : x = 45 ∨ x = 56 ∨ x = 67) (hl : LG σ' x) (hu : UW σ' x) (f : ∀ k j : Int, ¬ (x ≤ k ∧ k ≤ x + 10) → σ' k j = σ k j) : CI σ' := by
  obtain ⟨h1, ⟨h2, h3⟩, h4, h5⟩ := h
  have e2 := f 0 2 (by omega)
  have e3 := f 0 3 (by omega)
  have hc : σ 0 2 = 5 ∨ σ 0 2 = 16 := by omega
  refine ⟨by rw [e2, e3]; exact h1, ?_, fun w hw => ?_, DT_fr h5 (fun k j hk => f k j (by omega))⟩
  · rw [e2]
    exact ⟨LG_fr h2 (fun k j hk => f k j (by omega)), UW_fr h3 (fun k j hk => f k j (by omega))⟩
  · by_cases e : w = x
    · rw [e]
      exact ⟨hl, hu⟩
    · exact ⟨LG_fr (h4 w hw).1 (fun k j hk => f k j (by omega)), UW_fr (h4 w hw).2 (fun k j hk => f k j (by omega))⟩
theorem wmt_ {X : Cx_t} {G : Gx_t} {Q : State → Prop} {cl sl pc : Nat} {ad shs : List Nat} {σ : Me_t} {L S : List Sv_t} (k : MT_ shs σ → WP_ X G Q cl sl ad shs σ pc L S) : WP_ X G Q cl sl ad shs σ pc L S := fun hM => k hM hM
theorem UW_0 {σ : Me_t} {w : Int} (h : σ w 5 = 0) (h3 : rgo_ (ty_ 5 3) (σ w ((3 : Nat) : Int))) (h4 : rgo_ (ty_ 5 4) (σ w ((4 : Nat) : Int))) : UW σ w := by
  unfold UW
  rw [h]
  exact ⟨h3.1, h3.2, h4.1, h4.2⟩
/-- ranges with large bounds: by the kernel -/
theorem rng_ {lo hi z a b : Int} (h : a ≤ z ∧ z ≤ b) (e1 : decide (lo ≤ a) = true) (e2 : decide (b ≤ hi) = true) : lo ≤ z ∧ z ≤ hi := by
  have e1 := of_decide_eq_true e1
  have e2 := of_decide_eq_true e2
  omega
theorem rgl_ {t : Nat × Int × Int} {z a b : Int} (h : rgo_ t z) (e0 : decide (t.1 = 0) = true) (e1 : decide (a ≤ t.2.1) = true) (e2 : decide (t.2.2 ≤ b) = true) : a ≤ z ∧ z ≤ b := by
  have e0 := of_decide_eq_true e0
  have e1 := of_decide_eq_true e1
  have e2 := of_decide_eq_true e2
  unfold rgo_ at h
  rw [e0] at h
  have h : t.2.1 ≤ z ∧ z ≤ t.2.2 := h
  omega
set_option maxRecDepth 100000 in
theorem wnl_X9_71 : Cond.methodLinkNest RX9 71 yX10_isYear RX10 ∈ lw_tbl := List.mem_of_getElem? (i := 728) (by decide +kernel)
set_option maxRecDepth 100000 in
theorem wnl_X9_82 : Cond.methodLinkNest RX9 82 yX10_isDay RX10 ∈ lw_tbl := List.mem_of_getElem? (i := 731) (by decide +kernel)
