def as_G_X0_forgetAll : Unit → List Sv_t := fun a => [(25, 30)]
def pre_G_X0_forgetAll : Unit → Me_t → Prop := fun a σ => True
def post_G_X0_forgetAll : Unit → Me_t → Int → Me_t → Prop := fun a σ z σ' => (∀ k j : Int, ¬ (k = 30) → σ' k j = σ k j)
set_option maxHeartbeats 8000000 in
set_option maxRecDepth 100000 in
theorem ct_G_X0_forgetAll (l : Launch) : CT_ l yX0_forgetAll cX0_forgetAll 1 none 0 0 as_G_X0_forgetAll (rmV_) pre_G_X0_forgetAll post_G_X0_forgetAll := by
  refine ct_of (by decide) (fun _ => Nat.le_of_ble_eq_true rfl) ?_
  intro X G Q ad σ a hl hR E hG R hM hv hp
  have B := @bk_ X G Q 0 0 ad SHS_ RX0 cX0_forgetAll 1 none flX0 plX0 knX0 [] _ _ none kX0_forgetAll [] flX0_ok plX0_ok knX0_ok eX0_forgetAll oX0_forgetAll
    (fun _ h => absurd h List.not_mem_nil) R sok_no E
  show WP_ X G Q 0 0 ad SHS_ σ 0 [(25, 30)] []
  refine B rfl ?_
  refine And.intro (by omega) ?_
  intro σ1 e2
  refine Exists.intro 0 (And.intro rfl ?_)
  exact (fun k j hk => (ups_r e2 (by omega)))
