theorem st_n {σ σ' : Me_t} {o j z k i : Int} (e : σ' = ups_ σ o j z) (h : k ≠ o) : σ' k i = σ k i := by rw [e, ups_n (Or.inl h)]
theorem ac_n {σ σ' : Me_t} {o q sp dp n k i : Int} (e : σ' = (fun a b => if a = q ∧ dp ≤ b ∧ b < dp + n then σ o (b - dp + sp) else σ a b)) (h : k ≠ q) : σ' k i = σ k i := by
  subst e
  show (if k = q ∧ dp ≤ i ∧ i < dp + n then _ else _) = _
  rw [if_neg (fun q => h q.1)]
def flJ7 : List (Nat × Nat × Nat × Int) := []
def plJ7 : List (Nat × Nat × Nat × Int) := []
def knJ7 : List (Nat × Sv_t) := []
theorem flJ7_ok : FT_ RJ7 flJ7 := fun _ h => absurd h List.not_mem_nil
theorem plJ7_ok : PT_ RJ7 plJ7 := ⟨fun _ h => absurd h List.not_mem_nil, fun _ h => absurd h List.not_mem_nil⟩
theorem knJ7_ok : KN_ RJ7 knJ7 := fun _ h => absurd h List.not_mem_nil
def kJ7_fill_d0a16 : Ci_t := [(0, .iconst 0, 1), (1, .istore_n 3, 1), (2, .aload_n 0, 1), (3, .arraylength, 1), (4, .istore 4, 2), (6, .iload_n 3, 1), (7, .iload 4, 2), (9, .if_icmp .ge 13, 3), (12, .aload_n 0, 1), (13, .iload_n 3, 1), (14, .lload_n 1, 1), (15, .lastore, 1), (16, .iinc 3 1, 3), (19, .goto (-13), 3), (22, .return_, 1)]
set_option maxRecDepth 100000 in
theorem eJ7_fill_d0a16 : ∀ q ∈ kJ7_fill_d0a16, decode cJ7_fill_d0a16 q.1 = .ok q.2 := by decide +kernel
theorem oJ7_fill_d0a16 : ck_ knJ7 kJ7_fill_d0a16 = true := by decide +kernel
def kJ7_fill_53178 : Ci_t := [(0, .iconst 0, 1), (1, .istore_n 2, 1), (2, .aload_n 0, 1), (3, .arraylength, 1), (4, .istore_n 3, 1), (5, .iload_n 2, 1), (6, .iload_n 3, 1), (7, .if_icmp .ge 13, 3), (10, .aload_n 0, 1), (11, .iload_n 2, 1), (12, .iload_n 1, 1), (13, .iastore, 1), (14, .iinc 2 1, 3), (17, .goto (-12), 3), (20, .return_, 1)]
set_option maxRecDepth 100000 in
theorem eJ7_fill_53178 : ∀ q ∈ kJ7_fill_53178, decode cJ7_fill_53178 q.1 = .ok q.2 := by decide +kernel
theorem oJ7_fill_53178 : ck_ knJ7 kJ7_fill_53178 = true := by decide +kernel
def kJ7_fill_031fb : Ci_t := [(0, .iconst 0, 1), (1, .istore_n 2, 1), (2, .aload_n 0, 1), (3, .arraylength, 1), (4, .istore_n 3, 1), (5, .iload_n 2, 1), (6, .iload_n 3, 1), (7, .if_icmp .ge 13, 3), (10, .aload_n 0, 1), (11, .iload_n 2, 1), (12, .iload_n 1, 1), (13, .bastore, 1), (14, .iinc 2 1, 3), (17, .goto (-12), 3), (20, .return_, 1)]
set_option maxRecDepth 100000 in
theorem eJ7_fill_031fb : ∀ q ∈ kJ7_fill_031fb, decode cJ7_fill_031fb q.1 = .ok q.2 := by decide +kernel
theorem oJ7_fill_031fb : ck_ knJ7 kJ7_fill_031fb = true := by decide +kernel
