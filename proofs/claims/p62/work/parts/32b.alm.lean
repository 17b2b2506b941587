def as_G_X0_forgetReasons : Int → List Sv_t := fun a => [(25, 30), (0, a)]
def pre_G_X0_forgetReasons : Int → Me_t → Prop := fun a σ => True
def post_G_X0_forgetReasons : Int → Me_t → Int → Me_t → Prop := fun a σ z σ' => (∀ k j : Int, ¬ (k = 30) → σ' k j = σ k j)
set_option maxHeartbeats 8000000 in
set_option maxRecDepth 100000 in
theorem ct_G_X0_forgetReasons (l : Launch) : CT_ l yX0_forgetReasons cX0_forgetReasons 2 none 0 0 as_G_X0_forgetReasons (rmV_) pre_G_X0_forgetReasons post_G_X0_forgetReasons := by
  refine ct_of (by decide) (fun _ => Nat.le_of_ble_eq_true rfl) ?_
  intro X G Q ad σ a hl hR E hG R hM hv hp
  obtain ⟨a1, rfl⟩ : ∃ q : Int, q = a := ⟨_, rfl⟩
  have r_a1 : -2147483648 ≤ a1 ∧ a1 ≤ 2147483647 := hv (0, a1) (List.mem_of_getElem? (i := 1) rfl)
  have B := @bk_ X G Q 0 0 ad SHS_ RX0 cX0_forgetReasons 2 none flX0 plX0 knX0 [] _ _ none kX0_forgetReasons [] flX0_ok plX0_ok knX0_ok eX0_forgetReasons oX0_forgetReasons
    (fun _ h => absurd h List.not_mem_nil) R sok_no E
  show WP_ X G Q 0 0 ad SHS_ σ 0 [(25, 30), (0, a1)] []
  refine B rfl ?_
  intro z1 ez1 hz1
  have hz1 : ((-2147483648) : Int) ≤ z1 ∧ z1 ≤ (2147483647 : Int) := rgl_ hz1 (by decide +kernel) (by decide +kernel) (by decide +kernel)
  try have q2 := shl3_1 (b := a1) (by omega) (by omega)
  try have q3 := shl3_b (b := a1) (by omega) (by omega)
  intro σ4 e5
  refine Exists.intro 0 (And.intro rfl ?_)
  exact (fun k j hk => (ups_r e5 (by omega)))
