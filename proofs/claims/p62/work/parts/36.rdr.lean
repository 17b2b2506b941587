def as_G_X3_refuse : Int → List Sv_t := fun a => [(13, 3), (0, a)]
def pre_G_X3_refuse : Int → Me_t → Prop := fun a σ => (1 ≤ a) ∧ (a ≤ 3)
def post_G_X3_refuse : Int → Me_t → Int → Me_t → Prop := fun a σ z σ' => (σ' 3 0 = σ 3 0) ∧ (σ' 3 1 = σ 3 1) ∧ (σ' 3 2 = σ 3 2) ∧ (σ' 3 3 = σ 3 3) ∧ (σ' 3 4 = σ 3 4) ∧ ((σ 3 6 = 0 → σ' 3 6 = a) ∧ (σ 3 6 ≠ 0 → σ' 3 6 = σ 3 6)) ∧ (∀ k j : Int, ¬ (k = 3) → σ' k j = σ k j)
set_option maxHeartbeats 2000000 in
set_option maxRecDepth 100000 in
theorem ct_G_X3_refuse (l : Launch) : CT_ l yX3_refuse cX3_refuse 2 none 0 0 as_G_X3_refuse (rmV_) pre_G_X3_refuse post_G_X3_refuse := by
  refine ct_of (by decide) (fun _ => Nat.le_of_ble_eq_true rfl) ?_
  intro X G Q ad σ a hl hR E hG R hM hv hp
  obtain ⟨a1, rfl⟩ : ∃ q : Int, q = a := ⟨_, rfl⟩
  have r_a1 : -2147483648 ≤ a1 ∧ a1 ≤ 2147483647 := hv (0, a1) (List.mem_of_getElem? (i := 1) rfl)
  have hp0 : 1 ≤ a1 := hp.1
  have hp1 : a1 ≤ 3 := hp.2
  have B := @bk_ X G Q 0 0 ad SHS_ RX3 cX3_refuse 2 none flX3 plX3 knX3 [] _ _ none kX3_refuse [] flX3_ok plX3_ok knX3_ok eX3_refuse oX3_refuse
    (fun _ h => absurd h List.not_mem_nil) R sok_no E
  show WP_ X G Q 0 0 ad SHS_ σ 0 [(13, 3), (0, a1)] []
  refine B rfl ?_
  intro z1 ez1 hz1
  have hz1 : (0 : Int) ≤ z1 ∧ z1 ≤ (3 : Int) := hz1
  refine And.intro (fun h2 => ?_) (fun h2 => ?_)
  · skip
    refine B rfl ?_
    refine Exists.intro 0 (And.intro rfl ?_)
    exact (And.intro (by show σ 3 0 = σ 3 0; omega) (And.intro (by show σ 3 1 = σ 3 1; omega) (And.intro (by show σ 3 2 = σ 3 2; omega) (And.intro (by show σ 3 3 = σ 3 3; omega) (And.intro (by show σ 3 4 = σ 3 4; omega) (And.intro (by show (σ 3 6 = 0 → σ 3 6 = a1) ∧ (σ 3 6 ≠ 0 → σ 3 6 = σ 3 6); omega) (fun k j hk => rfl)))))))
  · skip
    refine And.intro (by omega) ?_
    intro σ3 e4
    intro z5 ez5 hz5
    have hz5 : (0 : Int) ≤ z5 ∧ z5 ≤ (1200 : Int) := hz5
    try have t6 : σ3 3 3 = σ 3 3 := (ups_r e4 (by omega))
    refine And.intro (by omega) ?_
    intro σ7 e8
    refine Exists.intro 0 (And.intro rfl ?_)
    try have t9 : σ7 3 0 = σ 3 0 := ((ups_r e8 (by omega)).trans (ups_r e4 (by omega)))
    try have t10 : σ7 3 1 = σ 3 1 := ((ups_r e8 (by omega)).trans (ups_r e4 (by omega)))
    try have t11 : σ7 3 2 = σ 3 2 := ((ups_r e8 (by omega)).trans (ups_r e4 (by omega)))
    try have t12 : σ7 3 3 = σ3 3 3 := (ups_r e8 (by omega))
    try have t13 : σ7 3 4 = σ 3 4 := ((ups_r e8 (by omega)).trans (ups_r e4 (by omega)))
    have t14 : σ7 3 6 = a1 := ((ups_r e8 (by omega))).trans (ups_v e4)
    exact (And.intro (by show σ7 3 0 = σ 3 0; omega) (And.intro (by show σ7 3 1 = σ 3 1; omega) (And.intro (by show σ7 3 2 = σ 3 2; omega) (And.intro (by show σ7 3 3 = σ 3 3; omega) (And.intro (by show σ7 3 4 = σ 3 4; omega) (And.intro (by show (σ 3 6 = 0 → σ7 3 6 = a1) ∧ (σ 3 6 ≠ 0 → σ7 3 6 = σ 3 6); omega) (fun k j hk => ((ups_r e8 (by omega)).trans (ups_r e4 (by omega))))))))))
def as_G_X3_step : Unit → List Sv_t := fun a => [(13, 3)]
def pre_G_X3_step : Unit → Me_t → Prop := fun a σ => (σ 3 0 = 2) ∧ (σ 3 4 ≤ σ 3 1)
def post_G_X3_step : Unit → Me_t → Int → Me_t → Prop := fun a σ z σ' => (σ' 3 0 = 2) ∧ (σ' 3 3 ≤ σ' 3 4) ∧ (σ' 3 4 ≤ σ' 3 1) ∧ (σ' 3 1 = σ 3 1) ∧ (σ' 3 6 = σ 3 6) ∧ (∀ k j : Int, ¬ (k = 3) → σ' k j = σ k j)
set_option maxHeartbeats 2000000 in
set_option maxRecDepth 100000 in
theorem ct_G_X3_step (l : Launch) : CT_ l yX3_step cX3_step 1 none 0 0 as_G_X3_step (rmV_) pre_G_X3_step post_G_X3_step := by
  refine ct_of (by decide) (fun _ => Nat.le_of_ble_eq_true rfl) ?_
  intro X G Q ad σ a hl hR E hG R hM hv hp
  have hp0 : σ 3 0 = 2 := hp.1
  have hp1 : σ 3 4 ≤ σ 3 1 := hp.2
  have B := @bk_ X G Q 0 0 ad SHS_ RX3 cX3_step 1 none flX3 plX3 knX3 [] _ _ none kX3_step [8, 19, 27, 33, 41, 47, 60, 73, 84, 92, 98, 106, 112, 125, 136, 142, 153, 161, 167, 175, 181, 190, 206, 227, 238, 257, 274, 280] flX3_ok plX3_ok knX3_ok eX3_step oX3_step
    (fun _ h => absurd h List.not_mem_nil) R sok_no E
  show WP_ X G Q 0 0 ad SHS_ σ 0 [(13, 3)] []
  refine B rfl ?_
  intro z1 ez1 hz1
  have hz1 : (0 : Int) ≤ z1 ∧ z1 ≤ (1200 : Int) := hz1
  refine And.intro (by omega) ?_
  intro σ2 e3
  have jn_60 : ∀ (τ60 : Me_t), (∀ k j : Int, ¬ (k = 3) → τ60 k j = σ k j) → (τ60 3 0 = 2) → (τ60 3 1 = σ 3 1) → (τ60 3 6 = σ 3 6) → (τ60 3 3 ≤ τ60 3 1) → WP_ X G Q 0 0 ad SHS_ τ60 60 [(13, 3)] [] := by
    intro τ60 hf60 hi60_0 hi60_1 hi60_2 hi60_3
    refine B rfl ?_
    intro z4 ez4 hz4
    have hz4 : (0 : Int) ≤ z4 ∧ z4 ≤ (1200 : Int) := hz4
    refine And.intro (by omega) ?_
    intro σ5 e6
    refine And.intro (by omega) ?_
    intro σ7 e8
    have jn_125 : ∀ (τ125 : Me_t), (∀ k j : Int, ¬ (k = 3) → τ125 k j = σ k j) → (τ125 3 0 = 2) → (τ125 3 1 = σ 3 1) → (τ125 3 6 = σ 3 6) → (τ125 3 3 ≤ τ125 3 4) → (τ125 3 4 ≤ τ125 3 1) → WP_ X G Q 0 0 ad SHS_ τ125 125 [(13, 3)] [] := by
      intro τ125 hf125 hi125_0 hi125_1 hi125_2 hi125_3 hi125_4
      refine B rfl ?_
      intro z9 ez9 hz9
      have hz9 : (0 : Int) ≤ z9 ∧ z9 ≤ (1200 : Int) := hz9
      intro z10 ez10 hz10
      have hz10 : (0 : Int) ≤ z10 ∧ z10 ≤ (1200 : Int) := hz10
      refine And.intro (fun h11 => ?_) (fun h11 => ?_)
      · skip
        have jn_227 : ∀ (τ227 : Me_t), (∀ k j : Int, ¬ (k = 3) → τ227 k j = σ k j) → (τ227 3 0 = 2) → (τ227 3 1 = σ 3 1) → (τ227 3 6 = σ 3 6) → (τ227 3 3 ≤ τ227 3 4) → (τ227 3 4 ≤ τ227 3 1) → WP_ X G Q 0 0 ad SHS_ τ227 227 [(13, 3)] [] := by
          intro τ227 hf227 hi227_0 hi227_1 hi227_2 hi227_3 hi227_4
          refine B rfl ?_
          intro z12 ez12 hz12
          have hz12 : (0 : Int) ≤ z12 ∧ z12 ≤ (1200 : Int) := hz12
          intro z13 ez13 hz13
          have hz13 : (0 : Int) ≤ z13 ∧ z13 ≤ (1200 : Int) := hz13
          refine And.intro (fun h14 => ?_) (fun h14 => ?_)
          · skip
            refine B rfl ?_
            intro z15 ez15 hz15
            have q16 : z13 = z15 := ez13.trans ez15.symm
            subst q16
            intro z17 ez17 hz17
            have hz17 : (0 : Int) ≤ z17 ∧ z17 ≤ (1200 : Int) := hz17
            refine And.intro (fun h18 => ?_) (fun h18 => ?_)
            · skip
              refine B rfl ?_
              intro z19 ez19 hz19
              intro z20 ez20 hz20
              have q21 : z13 = z20 := ez13.trans ez20.symm
              subst q21
              show WP_ X G Q 0 0 ad SHS_ τ227 274 [(13, 3)] [(0, z13), (2, z19), (13, 3)]
              refine retag_ (by omega) ?_
              refine B rfl ?_
              refine And.intro (by omega) ?_
              intro z22 ez22 hz22
              have hz22 : ((-128) : Int) ≤ z22 ∧ z22 ≤ (127 : Int) := hz22
              try have t23 : τ227 2 z13 = σ 2 z13 := (hf227 _ _ (by omega))
              refine And.intro (fun h24 => ?_) (fun h24 => ?_)
              · skip
                refine B rfl ?_
                refine And.intro (by omega) ?_
                intro σ25 e26
                intro z27 ez27 hz27
                have hz27 : (0 : Int) ≤ z27 ∧ z27 ≤ (1200 : Int) := hz27
                try have t28 : σ25 3 3 = τ227 3 3 := (ups_r e26 (by omega))
                refine And.intro (by omega) ?_
                refine And.intro (by omega) ?_
                intro σ29 e30
                refine Exists.intro 0 (And.intro rfl ?_)
                try have t31 : σ29 3 0 = τ227 3 0 := ((ups_r e30 (by omega)).trans (ups_r e26 (by omega)))
                try have t32 : σ29 3 3 = σ25 3 3 := (ups_r e30 (by omega))
                have t33 : σ29 3 4 = z27 + 1 := ups_v e30
                try have t34 : σ29 3 1 = τ227 3 1 := ((ups_r e30 (by omega)).trans (ups_r e26 (by omega)))
                try have t35 : σ29 3 6 = τ227 3 6 := ((ups_r e30 (by omega)).trans (ups_r e26 (by omega)))
                exact (And.intro (by show σ29 3 0 = 2; omega) (And.intro (by show σ29 3 3 ≤ σ29 3 4; omega) (And.intro (by show σ29 3 4 ≤ σ29 3 1; omega) (And.intro (by show σ29 3 1 = σ 3 1; omega) (And.intro (by show σ29 3 6 = σ 3 6; omega) (fun k j hk => ((ups_r e30 (by omega)).trans ((ups_r e26 (by omega)).trans (hf227 _ _ (by omega))))))))))
              · skip
                show WP_ X G Q 0 0 ad SHS_ τ227 280 [(13, 3)] [(13, 3)]
                refine B rfl ?_
                refine B rfl ?_
                refine And.intro (by omega) ?_
                intro σ36 e37
                intro z38 ez38 hz38
                have hz38 : (0 : Int) ≤ z38 ∧ z38 ≤ (1200 : Int) := hz38
                try have t39 : σ36 3 3 = τ227 3 3 := (ups_r e37 (by omega))
                refine And.intro (by omega) ?_
                refine And.intro (by omega) ?_
                intro σ40 e41
                refine Exists.intro 0 (And.intro rfl ?_)
                try have t42 : σ40 3 0 = τ227 3 0 := ((ups_r e41 (by omega)).trans (ups_r e37 (by omega)))
                try have t43 : σ40 3 3 = σ36 3 3 := (ups_r e41 (by omega))
                have t44 : σ40 3 4 = z38 + 1 := ups_v e41
                try have t45 : σ40 3 1 = τ227 3 1 := ((ups_r e41 (by omega)).trans (ups_r e37 (by omega)))
                try have t46 : σ40 3 6 = τ227 3 6 := ((ups_r e41 (by omega)).trans (ups_r e37 (by omega)))
                exact (And.intro (by show σ40 3 0 = 2; omega) (And.intro (by show σ40 3 3 ≤ σ40 3 4; omega) (And.intro (by show σ40 3 4 ≤ σ40 3 1; omega) (And.intro (by show σ40 3 1 = σ 3 1; omega) (And.intro (by show σ40 3 6 = σ 3 6; omega) (fun k j hk => ((ups_r e41 (by omega)).trans ((ups_r e37 (by omega)).trans (hf227 _ _ (by omega))))))))))
            · skip
              show WP_ X G Q 0 0 ad SHS_ τ227 257 [(13, 3)] []
              refine B rfl ?_
              refine And.intro (by omega) ?_
              intro σ47 e48
              refine B rfl ?_
              refine Exists.intro 0 (And.intro rfl ?_)
              try have t49 : σ47 3 0 = τ227 3 0 := (ups_r e48 (by omega))
              try have t50 : σ47 3 3 = τ227 3 3 := (ups_r e48 (by omega))
              try have t51 : σ47 3 4 = τ227 3 4 := (ups_r e48 (by omega))
              try have t52 : σ47 3 1 = τ227 3 1 := (ups_r e48 (by omega))
              try have t53 : σ47 3 6 = τ227 3 6 := (ups_r e48 (by omega))
              exact (And.intro (by show σ47 3 0 = 2; omega) (And.intro (by show σ47 3 3 ≤ σ47 3 4; omega) (And.intro (by show σ47 3 4 ≤ σ47 3 1; omega) (And.intro (by show σ47 3 1 = σ 3 1; omega) (And.intro (by show σ47 3 6 = σ 3 6; omega) (fun k j hk => ((ups_r e48 (by omega)).trans (hf227 _ _ (by omega)))))))))
          · skip
            show WP_ X G Q 0 0 ad SHS_ τ227 238 [(13, 3)] []
            refine B rfl ?_
            refine And.intro (by omega) ?_
            intro σ54 e55
            refine B rfl ?_
            refine Exists.intro 0 (And.intro rfl ?_)
            try have t56 : σ54 3 0 = τ227 3 0 := (ups_r e55 (by omega))
            try have t57 : σ54 3 3 = τ227 3 3 := (ups_r e55 (by omega))
            try have t58 : σ54 3 4 = τ227 3 4 := (ups_r e55 (by omega))
            try have t59 : σ54 3 1 = τ227 3 1 := (ups_r e55 (by omega))
            try have t60 : σ54 3 6 = τ227 3 6 := (ups_r e55 (by omega))
            exact (And.intro (by show σ54 3 0 = 2; omega) (And.intro (by show σ54 3 3 ≤ σ54 3 4; omega) (And.intro (by show σ54 3 4 ≤ σ54 3 1; omega) (And.intro (by show σ54 3 1 = σ 3 1; omega) (And.intro (by show σ54 3 6 = σ 3 6; omega) (fun k j hk => ((ups_r e55 (by omega)).trans (hf227 _ _ (by omega)))))))))
        have lp_142 : ∀ (nq_ : Nat)  (τ142 : Me_t), (∀ k j : Int, ¬ (k = 3) → τ142 k j = σ k j) → (τ142 3 0 = 2) → (τ142 3 1 = σ 3 1) → (τ142 3 6 = σ 3 6) → (τ142 3 3 ≤ τ142 3 4) → (τ142 3 4 ≤ τ142 3 1) → (τ142 3 1 - τ142 3 4 : Int).toNat < nq_ → WP_ X G Q 0 0 ad SHS_ τ142 142 [(13, 3)] [] := by
          intro nq_
          induction nq_ with
          | zero => intros; omega
          | succ nq_ ih_142 =>
            intro  τ142 hf142 hi142_0 hi142_1 hi142_2 hi142_3 hi142_4 hm142
            refine B rfl ?_
            intro z61 ez61 hz61
            have hz61 : (0 : Int) ≤ z61 ∧ z61 ≤ (1200 : Int) := hz61
            intro z62 ez62 hz62
            have hz62 : (0 : Int) ≤ z62 ∧ z62 ≤ (1200 : Int) := hz62
            refine And.intro (fun h63 => ?_) (fun h63 => ?_)
            · skip
              exact jn_227 τ142 (fun k j hk => (hf142 _ _ (by omega))) (by show τ142 3 0 = 2; omega) (by show τ142 3 1 = σ 3 1; omega) (by show τ142 3 6 = σ 3 6; omega) (by show τ142 3 3 ≤ τ142 3 4; omega) (by show τ142 3 4 ≤ τ142 3 1; omega)
            · skip
              show WP_ X G Q 0 0 ad SHS_ τ142 153 [(13, 3)] []
              refine B rfl ?_
              intro z64 ez64 hz64
              intro z65 ez65 hz65
              have q66 : z61 = z65 := ez61.trans ez65.symm
              subst q66
              show WP_ X G Q 0 0 ad SHS_ τ142 161 [(13, 3)] [(0, z61), (2, z64)]
              refine retag_ (by omega) ?_
              refine B rfl ?_
              refine And.intro (by omega) ?_
              intro z67 ez67 hz67
              have hz67 : ((-128) : Int) ≤ z67 ∧ z67 ≤ (127 : Int) := hz67
              try have t68 : τ142 2 z61 = σ 2 z61 := (hf142 _ _ (by omega))
              refine And.intro (fun h69 => ?_) (fun h69 => ?_)
              · skip
                exact jn_227 τ142 (fun k j hk => (hf142 _ _ (by omega))) (by show τ142 3 0 = 2; omega) (by show τ142 3 1 = σ 3 1; omega) (by show τ142 3 6 = σ 3 6; omega) (by show τ142 3 3 ≤ τ142 3 4; omega) (by show τ142 3 4 ≤ τ142 3 1; omega)
              · skip
                show WP_ X G Q 0 0 ad SHS_ τ142 167 [(13, 3)] []
                refine B rfl ?_
                intro z70 ez70 hz70
                have q71 : z64 = z70 := ez64.trans ez70.symm
                subst q71
                intro z72 ez72 hz72
                have q73 : z61 = z72 := ez61.trans ez72.symm
                subst q73
                show WP_ X G Q 0 0 ad SHS_ τ142 175 [(13, 3)] [(0, z61), (2, z64)]
                refine retag_ (by omega) ?_
                refine B rfl ?_
                refine And.intro (by omega) ?_
                intro z74 ez74 hz74
                have q75 : z67 = z74 := ez67.trans ez74.symm
                subst q75
                refine And.intro (fun h76 => ?_) (fun h76 => ?_)
                · skip
                  exact jn_227 τ142 (fun k j hk => (hf142 _ _ (by omega))) (by show τ142 3 0 = 2; omega) (by show τ142 3 1 = σ 3 1; omega) (by show τ142 3 6 = σ 3 6; omega) (by show τ142 3 3 ≤ τ142 3 4; omega) (by show τ142 3 4 ≤ τ142 3 1; omega)
                · skip
                  show WP_ X G Q 0 0 ad SHS_ τ142 181 [(13, 3)] []
                  refine B rfl ?_
                  intro z77 ez77 hz77
                  have hz77 : (0 : Int) ≤ z77 ∧ z77 ≤ (1000009 : Int) := rgl_ hz77 (by decide +kernel) (by decide +kernel) (by decide +kernel)
                  try have t78 : τ142 3 5 = σ 3 5 := (hf142 _ _ (by omega))
                  refine And.intro (fun h79 => ?_) (fun h79 => ?_)
                  · skip
                    refine B rfl ?_
                    intro z80 ez80 hz80
                    have q81 : z61 = z80 := ez61.trans ez80.symm
                    subst q81
                    refine And.intro (by omega) ?_
                    refine And.intro (by omega) ?_
                    intro σ82 e83
                    try have t84 : σ82 3 1 = τ142 3 1 := (ups_r e83 (by omega))
                    have t85 : σ82 3 4 = z61 + 1 := ups_v e83
                    try have t86 : σ82 3 0 = τ142 3 0 := (ups_r e83 (by omega))
                    try have t87 : σ82 3 6 = τ142 3 6 := (ups_r e83 (by omega))
                    try have t88 : σ82 3 3 = τ142 3 3 := (ups_r e83 (by omega))
                    exact ih_142  σ82 (fun k j hk => ((ups_r e83 (by omega)).trans (hf142 _ _ (by omega)))) (by show σ82 3 0 = 2; omega) (by show σ82 3 1 = σ 3 1; omega) (by show σ82 3 6 = σ 3 6; omega) (by show σ82 3 3 ≤ σ82 3 4; omega) (by show σ82 3 4 ≤ σ82 3 1; omega) (by omega)
                  · skip
                    show WP_ X G Q 0 0 ad SHS_ τ142 190 [(13, 3)] []
                    refine B rfl ?_
                    intro z89 ez89 hz89
                    have q90 : z77 = z89 := ez77.trans ez89.symm
                    subst q90
                    refine And.intro (by omega) ?_
                    intro z91 ez91 hz91
                    have q92 : z64 = z91 := ez64.trans ez91.symm
                    subst q92
                    intro z93 ez93 hz93
                    have q94 : z61 = z93 := ez61.trans ez93.symm
                    subst q94
                    show WP_ X G Q 0 0 ad SHS_ τ142 206 [(13, 3)] [(0, z61), (2, z64), (0, z77 * 10), (13, 3)]
                    refine retag_ (by omega) ?_
                    refine B rfl ?_
                    refine And.intro (by omega) ?_
                    intro z95 ez95 hz95
                    have q96 : z67 = z95 := ez67.trans ez95.symm
                    subst q96
                    refine And.intro (by omega) ?_
                    refine And.intro (by omega) ?_
                    refine And.intro (by omega) ?_
                    intro σ97 e98
                    intro z99 ez99 hz99
                    have hz99 : (0 : Int) ≤ z99 ∧ z99 ≤ (1200 : Int) := hz99
                    try have t100 : σ97 3 4 = τ142 3 4 := (ups_r e98 (by omega))
                    refine And.intro (by omega) ?_
                    refine And.intro (by omega) ?_
                    intro σ101 e102
                    try have t103 : σ101 3 1 = τ142 3 1 := ((ups_r e102 (by omega)).trans (ups_r e98 (by omega)))
                    have t104 : σ101 3 4 = z99 + 1 := ups_v e102
                    try have t105 : σ101 3 0 = τ142 3 0 := ((ups_r e102 (by omega)).trans (ups_r e98 (by omega)))
                    try have t106 : σ101 3 6 = τ142 3 6 := ((ups_r e102 (by omega)).trans (ups_r e98 (by omega)))
                    try have t107 : σ101 3 3 = τ142 3 3 := ((ups_r e102 (by omega)).trans (ups_r e98 (by omega)))
                    exact ih_142  σ101 (fun k j hk => ((ups_r e102 (by omega)).trans ((ups_r e98 (by omega)).trans (hf142 _ _ (by omega))))) (by show σ101 3 0 = 2; omega) (by show σ101 3 1 = σ 3 1; omega) (by show σ101 3 6 = σ 3 6; omega) (by show σ101 3 3 ≤ σ101 3 4; omega) (by show σ101 3 4 ≤ σ101 3 1; omega) (by omega)
        exact lp_142 ((τ125 3 1 - τ125 3 4 : Int).toNat + 1)  τ125 (fun k j hk => (hf125 _ _ (by omega))) (by show τ125 3 0 = 2; omega) (by show τ125 3 1 = σ 3 1; omega) (by show τ125 3 6 = σ 3 6; omega) (by show τ125 3 3 ≤ τ125 3 4; omega) (by show τ125 3 4 ≤ τ125 3 1; omega) (by omega)
      · skip
        show WP_ X G Q 0 0 ad SHS_ τ125 136 [(13, 3)] []
        refine B rfl ?_
        refine And.intro (by omega) ?_
        intro σ108 e109
        refine Exists.intro 0 (And.intro rfl ?_)
        try have t110 : σ108 3 0 = τ125 3 0 := (ups_r e109 (by omega))
        try have t111 : σ108 3 3 = τ125 3 3 := (ups_r e109 (by omega))
        try have t112 : σ108 3 4 = τ125 3 4 := (ups_r e109 (by omega))
        try have t113 : σ108 3 1 = τ125 3 1 := (ups_r e109 (by omega))
        try have t114 : σ108 3 6 = τ125 3 6 := (ups_r e109 (by omega))
        exact (And.intro (by show σ108 3 0 = 2; omega) (And.intro (by show σ108 3 3 ≤ σ108 3 4; omega) (And.intro (by show σ108 3 4 ≤ σ108 3 1; omega) (And.intro (by show σ108 3 1 = σ 3 1; omega) (And.intro (by show σ108 3 6 = σ 3 6; omega) (fun k j hk => ((ups_r e109 (by omega)).trans (hf125 _ _ (by omega)))))))))
    have lp_73 : ∀ (nq_ : Nat)  (τ73 : Me_t), (∀ k j : Int, ¬ (k = 3) → τ73 k j = σ k j) → (τ73 3 0 = 2) → (τ73 3 1 = σ 3 1) → (τ73 3 6 = σ 3 6) → (τ73 3 3 ≤ τ73 3 4) → (τ73 3 4 ≤ τ73 3 1) → (τ73 3 1 - τ73 3 4 : Int).toNat < nq_ → WP_ X G Q 0 0 ad SHS_ τ73 73 [(13, 3)] [] := by
      intro nq_
      induction nq_ with
      | zero => intros; omega
      | succ nq_ ih_73 =>
        intro  τ73 hf73 hi73_0 hi73_1 hi73_2 hi73_3 hi73_4 hm73
        refine B rfl ?_
        intro z115 ez115 hz115
        have hz115 : (0 : Int) ≤ z115 ∧ z115 ≤ (1200 : Int) := hz115
        intro z116 ez116 hz116
        have hz116 : (0 : Int) ≤ z116 ∧ z116 ≤ (1200 : Int) := hz116
        refine And.intro (fun h117 => ?_) (fun h117 => ?_)
        · skip
          exact jn_125 τ73 (fun k j hk => (hf73 _ _ (by omega))) (by show τ73 3 0 = 2; omega) (by show τ73 3 1 = σ 3 1; omega) (by show τ73 3 6 = σ 3 6; omega) (by show τ73 3 3 ≤ τ73 3 4; omega) (by show τ73 3 4 ≤ τ73 3 1; omega)
        · skip
          show WP_ X G Q 0 0 ad SHS_ τ73 84 [(13, 3)] []
          refine B rfl ?_
          intro z118 ez118 hz118
          intro z119 ez119 hz119
          have q120 : z115 = z119 := ez115.trans ez119.symm
          subst q120
          show WP_ X G Q 0 0 ad SHS_ τ73 92 [(13, 3)] [(0, z115), (2, z118)]
          refine retag_ (by omega) ?_
          refine B rfl ?_
          refine And.intro (by omega) ?_
          intro z121 ez121 hz121
          have hz121 : ((-128) : Int) ≤ z121 ∧ z121 ≤ (127 : Int) := hz121
          try have t122 : τ73 2 z115 = σ 2 z115 := (hf73 _ _ (by omega))
          refine And.intro (fun h123 => ?_) (fun h123 => ?_)
          · skip
            exact jn_125 τ73 (fun k j hk => (hf73 _ _ (by omega))) (by show τ73 3 0 = 2; omega) (by show τ73 3 1 = σ 3 1; omega) (by show τ73 3 6 = σ 3 6; omega) (by show τ73 3 3 ≤ τ73 3 4; omega) (by show τ73 3 4 ≤ τ73 3 1; omega)
          · skip
            show WP_ X G Q 0 0 ad SHS_ τ73 98 [(13, 3)] []
            refine B rfl ?_
            intro z124 ez124 hz124
            have q125 : z118 = z124 := ez118.trans ez124.symm
            subst q125
            intro z126 ez126 hz126
            have q127 : z115 = z126 := ez115.trans ez126.symm
            subst q127
            show WP_ X G Q 0 0 ad SHS_ τ73 106 [(13, 3)] [(0, z115), (2, z118)]
            refine retag_ (by omega) ?_
            refine B rfl ?_
            refine And.intro (by omega) ?_
            intro z128 ez128 hz128
            have q129 : z121 = z128 := ez121.trans ez128.symm
            subst q129
            refine And.intro (fun h130 => ?_) (fun h130 => ?_)
            · skip
              exact jn_125 τ73 (fun k j hk => (hf73 _ _ (by omega))) (by show τ73 3 0 = 2; omega) (by show τ73 3 1 = σ 3 1; omega) (by show τ73 3 6 = σ 3 6; omega) (by show τ73 3 3 ≤ τ73 3 4; omega) (by show τ73 3 4 ≤ τ73 3 1; omega)
            · skip
              show WP_ X G Q 0 0 ad SHS_ τ73 112 [(13, 3)] []
              refine B rfl ?_
              intro z131 ez131 hz131
              have q132 : z115 = z131 := ez115.trans ez131.symm
              subst q132
              refine And.intro (by omega) ?_
              refine And.intro (by omega) ?_
              intro σ133 e134
              try have t135 : σ133 3 1 = τ73 3 1 := (ups_r e134 (by omega))
              have t136 : σ133 3 4 = z115 + 1 := ups_v e134
              try have t137 : σ133 3 0 = τ73 3 0 := (ups_r e134 (by omega))
              try have t138 : σ133 3 6 = τ73 3 6 := (ups_r e134 (by omega))
              try have t139 : σ133 3 3 = τ73 3 3 := (ups_r e134 (by omega))
              exact ih_73  σ133 (fun k j hk => ((ups_r e134 (by omega)).trans (hf73 _ _ (by omega)))) (by show σ133 3 0 = 2; omega) (by show σ133 3 1 = σ 3 1; omega) (by show σ133 3 6 = σ 3 6; omega) (by show σ133 3 3 ≤ σ133 3 4; omega) (by show σ133 3 4 ≤ σ133 3 1; omega) (by omega)
    try have t140 : σ7 3 1 = τ60 3 1 := ((ups_r e8 (by omega)).trans (ups_r e6 (by omega)))
    have t141 : σ7 3 4 = z4 := ((ups_r e8 (by omega))).trans (ups_v e6)
    try have t142 : σ7 3 0 = τ60 3 0 := ((ups_r e8 (by omega)).trans (ups_r e6 (by omega)))
    try have t143 : σ7 3 6 = τ60 3 6 := ((ups_r e8 (by omega)).trans (ups_r e6 (by omega)))
    try have t144 : σ7 3 3 = τ60 3 3 := ((ups_r e8 (by omega)).trans (ups_r e6 (by omega)))
    exact lp_73 ((σ7 3 1 - σ7 3 4 : Int).toNat + 1)  σ7 (fun k j hk => ((ups_r e8 (by omega)).trans ((ups_r e6 (by omega)).trans (hf60 _ _ (by omega))))) (by show σ7 3 0 = 2; omega) (by show σ7 3 1 = σ 3 1; omega) (by show σ7 3 6 = σ 3 6; omega) (by show σ7 3 3 ≤ σ7 3 4; omega) (by show σ7 3 4 ≤ σ7 3 1; omega) (by omega)
  have lp_8 : ∀ (nq_ : Nat)  (τ8 : Me_t), (∀ k j : Int, ¬ (k = 3) → τ8 k j = σ k j) → (τ8 3 0 = 2) → (τ8 3 1 = σ 3 1) → (τ8 3 6 = σ 3 6) → (τ8 3 3 ≤ τ8 3 1) → (τ8 3 1 - τ8 3 3 : Int).toNat < nq_ → WP_ X G Q 0 0 ad SHS_ τ8 8 [(13, 3)] [] := by
    intro nq_
    induction nq_ with
    | zero => intros; omega
    | succ nq_ ih_8 =>
      intro  τ8 hf8 hi8_0 hi8_1 hi8_2 hi8_3 hm8
      refine B rfl ?_
      intro z145 ez145 hz145
      have hz145 : (0 : Int) ≤ z145 ∧ z145 ≤ (1200 : Int) := hz145
      intro z146 ez146 hz146
      have hz146 : (0 : Int) ≤ z146 ∧ z146 ≤ (1200 : Int) := hz146
      refine And.intro (fun h147 => ?_) (fun h147 => ?_)
      · skip
        exact jn_60 τ8 (fun k j hk => (hf8 _ _ (by omega))) (by show τ8 3 0 = 2; omega) (by show τ8 3 1 = σ 3 1; omega) (by show τ8 3 6 = σ 3 6; omega) (by show τ8 3 3 ≤ τ8 3 1; omega)
      · skip
        show WP_ X G Q 0 0 ad SHS_ τ8 19 [(13, 3)] []
        refine B rfl ?_
        intro z148 ez148 hz148
        intro z149 ez149 hz149
        have q150 : z145 = z149 := ez145.trans ez149.symm
        subst q150
        show WP_ X G Q 0 0 ad SHS_ τ8 27 [(13, 3)] [(0, z145), (2, z148)]
        refine retag_ (by omega) ?_
        refine B rfl ?_
        refine And.intro (by omega) ?_
        intro z151 ez151 hz151
        have hz151 : ((-128) : Int) ≤ z151 ∧ z151 ≤ (127 : Int) := hz151
        try have t152 : τ8 2 z145 = σ 2 z145 := (hf8 _ _ (by omega))
        refine And.intro (fun h153 => ?_) (fun h153 => ?_)
        · skip
          refine B rfl ?_
          intro z154 ez154 hz154
          have q155 : z145 = z154 := ez145.trans ez154.symm
          subst q155
          refine And.intro (by omega) ?_
          refine And.intro (by omega) ?_
          intro σ156 e157
          try have t158 : σ156 3 1 = τ8 3 1 := (ups_r e157 (by omega))
          have t159 : σ156 3 3 = z145 + 1 := ups_v e157
          try have t160 : σ156 3 0 = τ8 3 0 := (ups_r e157 (by omega))
          try have t161 : σ156 3 6 = τ8 3 6 := (ups_r e157 (by omega))
          exact ih_8  σ156 (fun k j hk => ((ups_r e157 (by omega)).trans (hf8 _ _ (by omega)))) (by show σ156 3 0 = 2; omega) (by show σ156 3 1 = σ 3 1; omega) (by show σ156 3 6 = σ 3 6; omega) (by show σ156 3 3 ≤ σ156 3 1; omega) (by omega)
        · skip
          show WP_ X G Q 0 0 ad SHS_ τ8 33 [(13, 3)] []
          refine B rfl ?_
          intro z162 ez162 hz162
          have q163 : z148 = z162 := ez148.trans ez162.symm
          subst q163
          intro z164 ez164 hz164
          have q165 : z145 = z164 := ez145.trans ez164.symm
          subst q165
          show WP_ X G Q 0 0 ad SHS_ τ8 41 [(13, 3)] [(0, z145), (2, z148)]
          refine retag_ (by omega) ?_
          refine B rfl ?_
          refine And.intro (by omega) ?_
          intro z166 ez166 hz166
          have q167 : z151 = z166 := ez151.trans ez166.symm
          subst q167
          refine And.intro (fun h168 => ?_) (fun h168 => ?_)
          · skip
            exact jn_60 τ8 (fun k j hk => (hf8 _ _ (by omega))) (by show τ8 3 0 = 2; omega) (by show τ8 3 1 = σ 3 1; omega) (by show τ8 3 6 = σ 3 6; omega) (by show τ8 3 3 ≤ τ8 3 1; omega)
          · skip
            show WP_ X G Q 0 0 ad SHS_ τ8 47 [(13, 3)] []
            refine B rfl ?_
            intro z169 ez169 hz169
            have q170 : z145 = z169 := ez145.trans ez169.symm
            subst q170
            refine And.intro (by omega) ?_
            refine And.intro (by omega) ?_
            intro σ171 e172
            try have t173 : σ171 3 1 = τ8 3 1 := (ups_r e172 (by omega))
            have t174 : σ171 3 3 = z145 + 1 := ups_v e172
            try have t175 : σ171 3 0 = τ8 3 0 := (ups_r e172 (by omega))
            try have t176 : σ171 3 6 = τ8 3 6 := (ups_r e172 (by omega))
            exact ih_8  σ171 (fun k j hk => ((ups_r e172 (by omega)).trans (hf8 _ _ (by omega)))) (by show σ171 3 0 = 2; omega) (by show σ171 3 1 = σ 3 1; omega) (by show σ171 3 6 = σ 3 6; omega) (by show σ171 3 3 ≤ σ171 3 1; omega) (by omega)
  try have t177 : σ2 3 1 = σ 3 1 := (ups_r e3 (by omega))
  have t178 : σ2 3 3 = z1 := ups_v e3
  try have t179 : σ2 3 0 = σ 3 0 := (ups_r e3 (by omega))
  try have t180 : σ2 3 6 = σ 3 6 := (ups_r e3 (by omega))
  exact lp_8 ((σ2 3 1 - σ2 3 3 : Int).toNat + 1)  σ2 (fun k j hk => (ups_r e3 (by omega))) (by show σ2 3 0 = 2; omega) (by show σ2 3 1 = σ 3 1; omega) (by show σ2 3 6 = σ 3 6; omega) (by show σ2 3 3 ≤ σ2 3 1; omega) (by omega)
def as_G_X3_isWord : Int → List Sv_t := fun a => [(13, 3), (4, a)]
def pre_G_X3_isWord : Int → Me_t → Prop := fun a σ => (σ 3 0 = 2) ∧ (σ 3 3 ≤ σ 3 4) ∧ (σ 3 4 ≤ σ 3 1) ∧ (1 ≤ a ∧ a ≤ 14)
def post_G_X3_isWord : Int → Me_t → Int → Me_t → Prop := fun a σ z σ' => (0 ≤ z ∧ z ≤ 1) ∧ (σ = σ')
set_option maxHeartbeats 2000000 in
set_option maxRecDepth 100000 in
theorem ct_G_X3_isWord (l : Launch) : CT_ l yX3_isWord cX3_isWord 3 (some .boolean) 5 106 as_G_X3_isWord (rmI_) pre_G_X3_isWord post_G_X3_isWord := by
  refine ct_of (by decide) (fun _ => Nat.le_of_ble_eq_true rfl) ?_
  intro X G Q ad σ a hl hR E hG R hM hv hp
  obtain ⟨a1, rfl⟩ : ∃ q : Int, q = a := ⟨_, rfl⟩
  have hp0 : σ 3 0 = 2 := hp.1
  have hp1 : σ 3 3 ≤ σ 3 4 := hp.2.1
  have hp2 : σ 3 4 ≤ σ 3 1 := hp.2.2.1
  have hp3 : 1 ≤ a1 ∧ a1 ≤ 14 := hp.2.2.2
  have B := @bk_ X G Q 0 0 ad SHS_ RX3 cX3_isWord 3 (some .boolean) flX3 plX3 knX3 [(338, 1, TLEN_), (350, 2, TCHR_)] _ _ none kX3_isWord [28, 46] flX3_ok plX3_ok knX3_ok eX3_isWord oX3_isWord
    (List.forall_mem_cons.mpr ⟨cok_len (idx := 169) E (by rw [hR]; decide) (Nat.zero_le _) (Nat.zero_le _) wl_X3_169, List.forall_mem_cons.mpr ⟨cok_chr (idx := 175) E (by rw [hR]; decide) (Nat.zero_le _) (Nat.zero_le _) wl_X3_175, fun _ h => absurd h List.not_mem_nil⟩⟩) R sok_no E
  show WP_ X G Q 0 0 ad SHS_ σ 0 [(13, 3), (4, a1), (9, 0)] []
  refine B rfl ?_
  intro z1 ez1 hz1
  have hz1 : (0 : Int) ≤ z1 ∧ z1 ≤ (4 : Int) := hz1
  refine And.intro (fun h2 => ?_) (fun h2 => ?_)
  · skip
    refine B rfl ?_
    refine And.intro (by omega) ?_
    refine Exists.intro _ (And.intro rfl ?_)
    exact (And.intro (by show 0 ≤ 0 ∧ 0 ≤ 1; omega) rfl)
  · skip
    intro z3 ez3 hz3
    have hz3 : (0 : Int) ≤ z3 ∧ z3 ≤ (1200 : Int) := hz3
    intro z4 ez4 hz4
    have hz4 : (0 : Int) ≤ z4 ∧ z4 ≤ (1200 : Int) := hz4
    refine And.intro (by omega) ?_
    refine Exists.intro a1 (And.intro rfl (And.intro (by omega) ?_))
    intro z5 ez5 hz5
    refine And.intro (fun h6 => ?_) (fun h6 => ?_)
    · skip
      refine B rfl ?_
      have lp_28 : ∀ (nq_ : Nat) (v2 : Int), (0 ≤ v2) → (v2 ≤ 5) → (5 - v2 : Int).toNat < nq_ → WP_ X G Q 0 0 ad SHS_ σ 28 [(13, 3), (4, a1), (0, v2)] [] := by
        intro nq_
        induction nq_ with
        | zero => intros; omega
        | succ nq_ ih_28 =>
          intro v2 hi28_0 hi28_1 hm28
          refine B rfl ?_
          refine Exists.intro a1 (And.intro rfl (And.intro (by omega) ?_))
          intro z7 ez7 hz7
          refine And.intro (fun h8 => ?_) (fun h8 => ?_)
          · skip
            refine B rfl ?_
            refine And.intro (by omega) ?_
            refine Exists.intro _ (And.intro rfl ?_)
            exact (And.intro (by show 0 ≤ 1 ∧ 1 ≤ 1; omega) rfl)
          · skip
            intro z9 ez9 hz9
            intro z10 ez10 hz10
            have q11 : z4 = z10 := ez4.trans ez10.symm
            subst q11
            refine And.intro (by omega) ?_
            show WP_ X G Q 0 0 ad SHS_ σ 46 [(13, 3), (4, a1), (0, v2)] [(0, z4 + v2), (2, z9)]
            refine retag_ (by omega) ?_
            refine B rfl ?_
            refine And.intro (by omega) ?_
            intro z12 ez12 hz12
            have hz12 : ((-128) : Int) ≤ z12 ∧ z12 ≤ (127 : Int) := hz12
            refine Exists.intro a1 (Exists.intro v2 (And.intro rfl (And.intro (by omega) (And.intro (by omega) ?_))))
            intro z13 ez13 hz13
            refine And.intro (fun h14 => ?_) (fun h14 => ?_)
            · skip
              refine B rfl ?_
              refine And.intro (by omega) ?_
              exact ih_28 (v2 + 1) (by show 0 ≤ (v2 + 1); omega) (by show (v2 + 1) ≤ 5; omega) (by omega)
            · skip
              refine And.intro (by omega) ?_
              refine Exists.intro _ (And.intro rfl ?_)
              exact (And.intro (by show 0 ≤ 0 ∧ 0 ≤ 1; omega) rfl)
      exact lp_28 ((5 - 0 : Int).toNat + 1) 0 (by show 0 ≤ 0; omega) (by show 0 ≤ 5; omega) (by omega)
    · skip
      refine And.intro (by omega) ?_
      refine Exists.intro _ (And.intro rfl ?_)
      exact (And.intro (by show 0 ≤ 0 ∧ 0 ≤ 1; omega) rfl)
def as_G_X3_needWord : Int → List Sv_t := fun a => [(13, 3), (4, a)]
def pre_G_X3_needWord : Int → Me_t → Prop := fun a σ => (σ 3 0 = 2) ∧ (σ 3 3 ≤ σ 3 4) ∧ (σ 3 4 ≤ σ 3 1) ∧ (1 ≤ a ∧ a ≤ 14)
def post_G_X3_needWord : Int → Me_t → Int → Me_t → Prop := fun a σ z σ' => (σ' 3 0 = 2) ∧ (σ' 3 3 ≤ σ' 3 4) ∧ (σ' 3 4 ≤ σ' 3 1) ∧ (σ 3 6 ≠ 0 → σ' 3 6 ≠ 0) ∧ (∀ k j : Int, ¬ (k = 3) → σ' k j = σ k j)
set_option maxHeartbeats 2000000 in
set_option maxRecDepth 100000 in
theorem ct_G_X3_needWord (l : Launch) : CT_ l yX3_needWord cX3_needWord 2 none 6 128 as_G_X3_needWord (rmV_) pre_G_X3_needWord post_G_X3_needWord := by
  refine ct_of (by decide) (fun _ => Nat.le_of_ble_eq_true rfl) ?_
  intro X G Q ad σ a hl hR E hG R hM hv hp
  obtain ⟨a1, rfl⟩ : ∃ q : Int, q = a := ⟨_, rfl⟩
  have hp0 : σ 3 0 = 2 := hp.1
  have hp1 : σ 3 3 ≤ σ 3 4 := hp.2.1
  have hp2 : σ 3 4 ≤ σ 3 1 := hp.2.2.1
  have hp3 : 1 ≤ a1 ∧ a1 ≤ 14 := hp.2.2.2
  have B := @bk_ X G Q 0 0 ad SHS_ RX3 cX3_needWord 2 none flX3 plX3 knX3 [(186, 2, TR_ as_G_X3_refuse (rmV_) pre_G_X3_refuse post_G_X3_refuse), (116, 2, TR_ as_G_X3_isWord (rmI_) pre_G_X3_isWord post_G_X3_isWord), (92, 1, TR_ as_G_X3_step (rmV_) pre_G_X3_step post_G_X3_step)] _ _ none kX3_needWord [] flX3_ok plX3_ok knX3_ok eX3_needWord oX3_needWord
    (List.forall_mem_cons.mpr ⟨cok_v (t := 3) (c := 3) (N := 8) (n := 1) (idx := 93) E (ct_G_X3_refuse X.2.1) (by rw [hR]; decide) (Nat.zero_le _) (Nat.zero_le _) hG rfl rfl ⟨rfl, by decide, by decide, by decide⟩ (fun _ => ⟨_, _, rfl, rfl⟩) wl_X3_93 wi_X3_refuse ws_X3_refuse wn_X3 wc_X3_refuse, List.forall_mem_cons.mpr ⟨cok_v (t := 3) (c := 3) (N := 8) (n := 1) (idx := 58) E (ct_G_X3_isWord X.2.1) (by rw [hR]; decide) (Nat.zero_le _) (Nat.zero_le _) hG rfl rfl ⟨rfl, by decide, by decide, by decide⟩ (fun _ => ⟨_, _, rfl, rfl⟩) wl_X3_58 wi_X3_isWord ws_X3_isWord wn_X3 wc_X3_isWord, List.forall_mem_cons.mpr ⟨cok_v (t := 3) (c := 3) (N := 8) (n := 0) (idx := 46) E (ct_G_X3_step X.2.1) (by rw [hR]; decide) (Nat.zero_le _) (Nat.zero_le _) hG rfl rfl ⟨rfl, by decide, by decide, by decide⟩ (fun _ => ⟨_, _, rfl, rfl⟩) wl_X3_46 wi_X3_step ws_X3_step wn_X3 wc_X3_step, fun _ h => absurd h List.not_mem_nil⟩⟩⟩) R sok_no E
  show WP_ X G Q 0 0 ad SHS_ σ 0 [(13, 3), (4, a1)] []
  refine B rfl ?_
  intro z1 ez1 hz1
  have hz1 : (0 : Int) ≤ z1 ∧ z1 ≤ (3 : Int) := hz1
  refine And.intro (fun h2 => ?_) (fun h2 => ?_)
  · skip
    refine B rfl ?_
    refine Exists.intro 1 (And.intro rfl (And.intro (And.intro (by show 1 ≤ 1; omega) (by show 1 ≤ 3; omega)) ?_))
    intro z3 σ5 h4
    have f6 : ∀ k j : Int, ¬ (k = 3) → σ5 k j = σ k j := h4.2.2.2.2.2.2
    have h7 : σ5 3 0 = σ 3 0 := h4.1
    have h8 : σ5 3 1 = σ 3 1 := h4.2.1
    have h9 : σ5 3 2 = σ 3 2 := h4.2.2.1
    have h10 : σ5 3 3 = σ 3 3 := h4.2.2.2.1
    have h11 : σ5 3 4 = σ 3 4 := h4.2.2.2.2.1
    have h12 : (σ 3 6 = 0 → σ5 3 6 = 1) ∧ (σ 3 6 ≠ 0 → σ5 3 6 = σ 3 6) := h4.2.2.2.2.2.1
    refine Exists.intro 0 (And.intro rfl ?_)
    exact (And.intro (by show σ5 3 0 = 2; omega) (And.intro (by show σ5 3 3 ≤ σ5 3 4; omega) (And.intro (by show σ5 3 4 ≤ σ5 3 1; omega) (And.intro (by show σ 3 6 ≠ 0 → σ5 3 6 ≠ 0; omega) (fun k j hk => (f6 _ _ (by omega)))))))
  · skip
    refine Exists.intro a1 (And.intro rfl (And.intro (And.intro (by show σ 3 0 = 2; omega) (And.intro (by show σ 3 3 ≤ σ 3 4; omega) (And.intro (by show σ 3 4 ≤ σ 3 1; omega) (by show 1 ≤ a1 ∧ a1 ≤ 14; omega)))) ?_))
    rintro z13 m_ h14
    obtain rfl : σ = m_ := h14.2
    have h15 : 0 ≤ z13 ∧ z13 ≤ 1 := h14.1
    refine And.intro (fun h16 => ?_) (fun h16 => ?_)
    · skip
      refine B rfl ?_
      refine Exists.intro 1 (And.intro rfl (And.intro (And.intro (by show 1 ≤ 1; omega) (by show 1 ≤ 3; omega)) ?_))
      intro z17 σ19 h18
      have f20 : ∀ k j : Int, ¬ (k = 3) → σ19 k j = σ k j := h18.2.2.2.2.2.2
      have h21 : σ19 3 0 = σ 3 0 := h18.1
      have h22 : σ19 3 1 = σ 3 1 := h18.2.1
      have h23 : σ19 3 2 = σ 3 2 := h18.2.2.1
      have h24 : σ19 3 3 = σ 3 3 := h18.2.2.2.1
      have h25 : σ19 3 4 = σ 3 4 := h18.2.2.2.2.1
      have h26 : (σ 3 6 = 0 → σ19 3 6 = 1) ∧ (σ 3 6 ≠ 0 → σ19 3 6 = σ 3 6) := h18.2.2.2.2.2.1
      refine Exists.intro 0 (And.intro rfl ?_)
      exact (And.intro (by show σ19 3 0 = 2; omega) (And.intro (by show σ19 3 3 ≤ σ19 3 4; omega) (And.intro (by show σ19 3 4 ≤ σ19 3 1; omega) (And.intro (by show σ 3 6 ≠ 0 → σ19 3 6 ≠ 0; omega) (fun k j hk => (f20 _ _ (by omega)))))))
    · skip
      refine Exists.intro () (And.intro rfl (And.intro (And.intro (by show σ 3 0 = 2; omega) (by show σ 3 4 ≤ σ 3 1; omega)) ?_))
      intro z27 σ29 h28
      have f30 : ∀ k j : Int, ¬ (k = 3) → σ29 k j = σ k j := h28.2.2.2.2.2
      have h31 : σ29 3 0 = 2 := h28.1
      have h32 : σ29 3 3 ≤ σ29 3 4 := h28.2.1
      have h33 : σ29 3 4 ≤ σ29 3 1 := h28.2.2.1
      have h34 : σ29 3 1 = σ 3 1 := h28.2.2.2.1
      have h35 : σ29 3 6 = σ 3 6 := h28.2.2.2.2.1
      refine B rfl ?_
      refine Exists.intro 0 (And.intro rfl ?_)
      exact (And.intro (by show σ29 3 0 = 2; omega) (And.intro (by show σ29 3 3 ≤ σ29 3 4; omega) (And.intro (by show σ29 3 4 ≤ σ29 3 1; omega) (And.intro (by show σ 3 6 ≠ 0 → σ29 3 6 ≠ 0; omega) (fun k j hk => (f30 _ _ (by omega)))))))
def as_G_X3_needNumber : Int × Int → List Sv_t := fun a => [(13, 3), (0, a.1), (0, a.2)]
def pre_G_X3_needNumber : Int × Int → Me_t → Prop := fun a σ => (σ 3 0 = 2) ∧ (σ 3 3 ≤ σ 3 4) ∧ (σ 3 4 ≤ σ 3 1)
def post_G_X3_needNumber : Int × Int → Me_t → Int → Me_t → Prop := fun a σ z σ' => (σ' 3 0 = 2) ∧ (σ' 3 3 ≤ σ' 3 4) ∧ (σ' 3 4 ≤ σ' 3 1) ∧ ((σ' 3 6 = 0 ∧ σ 3 6 = 0 ∧ a.1 ≤ z ∧ z ≤ a.2) ∨ (σ' 3 6 ≠ 0 ∧ z = 0)) ∧ (∀ k j : Int, ¬ (k = 3) → σ' k j = σ k j)
set_option maxHeartbeats 2000000 in
set_option maxRecDepth 100000 in
theorem ct_G_X3_needNumber (l : Launch) : CT_ l yX3_needNumber cX3_needNumber 4 (some .int) 1 21 as_G_X3_needNumber (rmI_) pre_G_X3_needNumber post_G_X3_needNumber := by
  refine ct_of (by decide) (fun _ => Nat.le_of_ble_eq_true rfl) ?_
  intro X G Q ad σ a hl hR E hG R hM hv hp
  obtain ⟨a1, a2⟩ := a
  have r_a1 : -2147483648 ≤ a1 ∧ a1 ≤ 2147483647 := hv (0, a1) (List.mem_of_getElem? (i := 1) rfl)
  have r_a2 : -2147483648 ≤ a2 ∧ a2 ≤ 2147483647 := hv (0, a2) (List.mem_of_getElem? (i := 2) rfl)
  have hp0 : σ 3 0 = 2 := hp.1
  have hp1 : σ 3 3 ≤ σ 3 4 := hp.2.1
  have hp2 : σ 3 4 ≤ σ 3 1 := hp.2.2
  have B := @bk_ X G Q 0 0 ad SHS_ RX3 cX3_needNumber 4 (some .int) flX3 plX3 knX3 [(186, 2, TR_ as_G_X3_refuse (rmV_) pre_G_X3_refuse post_G_X3_refuse), (92, 1, TR_ as_G_X3_step (rmV_) pre_G_X3_step post_G_X3_step)] _ _ none kX3_needNumber [] flX3_ok plX3_ok knX3_ok eX3_needNumber oX3_needNumber
    (List.forall_mem_cons.mpr ⟨cok_v (t := 3) (c := 3) (N := 8) (n := 1) (idx := 93) E (ct_G_X3_refuse X.2.1) (by rw [hR]; decide) (Nat.zero_le _) (Nat.zero_le _) hG rfl rfl ⟨rfl, by decide, by decide, by decide⟩ (fun _ => ⟨_, _, rfl, rfl⟩) wl_X3_93 wi_X3_refuse ws_X3_refuse wn_X3 wc_X3_refuse, List.forall_mem_cons.mpr ⟨cok_v (t := 3) (c := 3) (N := 8) (n := 0) (idx := 46) E (ct_G_X3_step X.2.1) (by rw [hR]; decide) (Nat.zero_le _) (Nat.zero_le _) hG rfl rfl ⟨rfl, by decide, by decide, by decide⟩ (fun _ => ⟨_, _, rfl, rfl⟩) wl_X3_46 wi_X3_step ws_X3_step wn_X3 wc_X3_step, fun _ h => absurd h List.not_mem_nil⟩⟩) R sok_no E
  show WP_ X G Q 0 0 ad SHS_ σ 0 [(13, 3), (0, a1), (0, a2), (9, 0)] []
  refine B rfl ?_
  intro z1 ez1 hz1
  have hz1 : (0 : Int) ≤ z1 ∧ z1 ≤ (3 : Int) := hz1
  refine And.intro (fun h2 => ?_) (fun h2 => ?_)
  · skip
    refine B rfl ?_
    intro z3 ez3 hz3
    have hz3 : (0 : Int) ≤ z3 ∧ z3 ≤ (4 : Int) := hz3
    refine And.intro (fun h4 => ?_) (fun h4 => ?_)
    · skip
      refine B rfl ?_
      intro z5 ez5 hz5
      have hz5 : (0 : Int) ≤ z5 ∧ z5 ≤ (1000009 : Int) := rgl_ hz5 (by decide +kernel) (by decide +kernel) (by decide +kernel)
      refine And.intro (fun h6 => ?_) (fun h6 => ?_)
      · skip
        refine B rfl ?_
        refine Exists.intro 2 (And.intro rfl (And.intro (And.intro (by show 1 ≤ 2; omega) (by show 2 ≤ 3; omega)) ?_))
        intro z7 σ9 h8
        have f10 : ∀ k j : Int, ¬ (k = 3) → σ9 k j = σ k j := h8.2.2.2.2.2.2
        have h11 : σ9 3 0 = σ 3 0 := h8.1
        have h12 : σ9 3 1 = σ 3 1 := h8.2.1
        have h13 : σ9 3 2 = σ 3 2 := h8.2.2.1
        have h14 : σ9 3 3 = σ 3 3 := h8.2.2.2.1
        have h15 : σ9 3 4 = σ 3 4 := h8.2.2.2.2.1
        have h16 : (σ 3 6 = 0 → σ9 3 6 = 2) ∧ (σ 3 6 ≠ 0 → σ9 3 6 = σ 3 6) := h8.2.2.2.2.2.1
        refine Exists.intro _ (And.intro rfl ?_)
        exact (And.intro (by show σ9 3 0 = 2; omega) (And.intro (by show σ9 3 3 ≤ σ9 3 4; omega) (And.intro (by show σ9 3 4 ≤ σ9 3 1; omega) (And.intro (by show (σ9 3 6 = 0 ∧ σ 3 6 = 0 ∧ a1 ≤ 0 ∧ 0 ≤ a2) ∨ (σ9 3 6 ≠ 0 ∧ 0 = 0); omega) (fun k j hk => (f10 _ _ (by omega)))))))
      · skip
        intro z17 ez17 hz17
        have q18 : z5 = z17 := ez5.trans ez17.symm
        subst q18
        refine And.intro (fun h19 => ?_) (fun h19 => ?_)
        · skip
          refine B rfl ?_
          intro z20 ez20 hz20
          have q21 : z5 = z20 := ez5.trans ez20.symm
          subst q21
          refine Exists.intro () (And.intro rfl (And.intro (And.intro (by show σ 3 0 = 2; omega) (by show σ 3 4 ≤ σ 3 1; omega)) ?_))
          intro z22 σ24 h23
          have f25 : ∀ k j : Int, ¬ (k = 3) → σ24 k j = σ k j := h23.2.2.2.2.2
          have h26 : σ24 3 0 = 2 := h23.1
          have h27 : σ24 3 3 ≤ σ24 3 4 := h23.2.1
          have h28 : σ24 3 4 ≤ σ24 3 1 := h23.2.2.1
          have h29 : σ24 3 1 = σ 3 1 := h23.2.2.2.1
          have h30 : σ24 3 6 = σ 3 6 := h23.2.2.2.2.1
          refine Exists.intro _ (And.intro rfl ?_)
          exact (And.intro (by show σ24 3 0 = 2; omega) (And.intro (by show σ24 3 3 ≤ σ24 3 4; omega) (And.intro (by show σ24 3 4 ≤ σ24 3 1; omega) (And.intro (by show (σ24 3 6 = 0 ∧ σ 3 6 = 0 ∧ a1 ≤ z5 ∧ z5 ≤ a2) ∨ (σ24 3 6 ≠ 0 ∧ z5 = 0); omega) (fun k j hk => (f25 _ _ (by omega)))))))
        · skip
          refine Exists.intro 2 (And.intro rfl (And.intro (And.intro (by show 1 ≤ 2; omega) (by show 2 ≤ 3; omega)) ?_))
          intro z31 σ33 h32
          have f34 : ∀ k j : Int, ¬ (k = 3) → σ33 k j = σ k j := h32.2.2.2.2.2.2
          have h35 : σ33 3 0 = σ 3 0 := h32.1
          have h36 : σ33 3 1 = σ 3 1 := h32.2.1
          have h37 : σ33 3 2 = σ 3 2 := h32.2.2.1
          have h38 : σ33 3 3 = σ 3 3 := h32.2.2.2.1
          have h39 : σ33 3 4 = σ 3 4 := h32.2.2.2.2.1
          have h40 : (σ 3 6 = 0 → σ33 3 6 = 2) ∧ (σ 3 6 ≠ 0 → σ33 3 6 = σ 3 6) := h32.2.2.2.2.2.1
          refine Exists.intro _ (And.intro rfl ?_)
          exact (And.intro (by show σ33 3 0 = 2; omega) (And.intro (by show σ33 3 3 ≤ σ33 3 4; omega) (And.intro (by show σ33 3 4 ≤ σ33 3 1; omega) (And.intro (by show (σ33 3 6 = 0 ∧ σ 3 6 = 0 ∧ a1 ≤ 0 ∧ 0 ≤ a2) ∨ (σ33 3 6 ≠ 0 ∧ 0 = 0); omega) (fun k j hk => (f34 _ _ (by omega)))))))
    · skip
      refine Exists.intro 1 (And.intro rfl (And.intro (And.intro (by show 1 ≤ 1; omega) (by show 1 ≤ 3; omega)) ?_))
      intro z41 σ43 h42
      have f44 : ∀ k j : Int, ¬ (k = 3) → σ43 k j = σ k j := h42.2.2.2.2.2.2
      have h45 : σ43 3 0 = σ 3 0 := h42.1
      have h46 : σ43 3 1 = σ 3 1 := h42.2.1
      have h47 : σ43 3 2 = σ 3 2 := h42.2.2.1
      have h48 : σ43 3 3 = σ 3 3 := h42.2.2.2.1
      have h49 : σ43 3 4 = σ 3 4 := h42.2.2.2.2.1
      have h50 : (σ 3 6 = 0 → σ43 3 6 = 1) ∧ (σ 3 6 ≠ 0 → σ43 3 6 = σ 3 6) := h42.2.2.2.2.2.1
      refine Exists.intro _ (And.intro rfl ?_)
      exact (And.intro (by show σ43 3 0 = 2; omega) (And.intro (by show σ43 3 3 ≤ σ43 3 4; omega) (And.intro (by show σ43 3 4 ≤ σ43 3 1; omega) (And.intro (by show (σ43 3 6 = 0 ∧ σ 3 6 = 0 ∧ a1 ≤ 0 ∧ 0 ≤ a2) ∨ (σ43 3 6 ≠ 0 ∧ 0 = 0); omega) (fun k j hk => (f44 _ _ (by omega)))))))
  · skip
    refine Exists.intro _ (And.intro rfl ?_)
    exact (And.intro (by show σ 3 0 = 2; omega) (And.intro (by show σ 3 3 ≤ σ 3 4; omega) (And.intro (by show σ 3 4 ≤ σ 3 1; omega) (And.intro (by show (σ 3 6 = 0 ∧ σ 3 6 = 0 ∧ a1 ≤ 0 ∧ 0 ≤ a2) ∨ (σ 3 6 ≠ 0 ∧ 0 = 0); omega) (fun k j hk => rfl)))))
def as_G_X3_startLine : Int → List Sv_t := fun a => [(13, 3), (0, a)]
def pre_G_X3_startLine : Int → Me_t → Prop := fun a σ => (σ 3 0 = 2) ∧ (σ 3 3 ≤ σ 3 4) ∧ (σ 3 4 ≤ σ 3 1)
def post_G_X3_startLine : Int → Me_t → Int → Me_t → Prop := fun a σ z σ' => (σ' 3 0 = 2) ∧ (σ' 3 3 ≤ σ' 3 4) ∧ (σ' 3 4 ≤ σ' 3 1) ∧ (a = 0 → σ' 3 6 ≠ 0) ∧ (σ 3 6 ≠ 0 → σ' 3 6 ≠ 0) ∧ (∀ k j : Int, ¬ (k = 3) → σ' k j = σ k j)
set_option maxHeartbeats 2000000 in
set_option maxRecDepth 100000 in
theorem ct_G_X3_startLine (l : Launch) : CT_ l yX3_startLine cX3_startLine 2 none 1 21 as_G_X3_startLine (rmV_) pre_G_X3_startLine post_G_X3_startLine := by
  refine ct_of (by decide) (fun _ => Nat.le_of_ble_eq_true rfl) ?_
  intro X G Q ad σ a hl hR E hG R hM hv hp
  obtain ⟨a1, rfl⟩ : ∃ q : Int, q = a := ⟨_, rfl⟩
  have r_a1 : -2147483648 ≤ a1 ∧ a1 ≤ 2147483647 := hv (0, a1) (List.mem_of_getElem? (i := 1) rfl)
  have hp0 : σ 3 0 = 2 := hp.1
  have hp1 : σ 3 3 ≤ σ 3 4 := hp.2.1
  have hp2 : σ 3 4 ≤ σ 3 1 := hp.2.2
  have B := @bk_ X G Q 0 0 ad SHS_ RX3 cX3_startLine 2 none flX3 plX3 knX3 [(186, 2, TR_ as_G_X3_refuse (rmV_) pre_G_X3_refuse post_G_X3_refuse), (92, 1, TR_ as_G_X3_step (rmV_) pre_G_X3_step post_G_X3_step)] _ _ none kX3_startLine [] flX3_ok plX3_ok knX3_ok eX3_startLine oX3_startLine
    (List.forall_mem_cons.mpr ⟨cok_v (t := 3) (c := 3) (N := 8) (n := 1) (idx := 93) E (ct_G_X3_refuse X.2.1) (by rw [hR]; decide) (Nat.zero_le _) (Nat.zero_le _) hG rfl rfl ⟨rfl, by decide, by decide, by decide⟩ (fun _ => ⟨_, _, rfl, rfl⟩) wl_X3_93 wi_X3_refuse ws_X3_refuse wn_X3 wc_X3_refuse, List.forall_mem_cons.mpr ⟨cok_v (t := 3) (c := 3) (N := 8) (n := 0) (idx := 46) E (ct_G_X3_step X.2.1) (by rw [hR]; decide) (Nat.zero_le _) (Nat.zero_le _) hG rfl rfl ⟨rfl, by decide, by decide, by decide⟩ (fun _ => ⟨_, _, rfl, rfl⟩) wl_X3_46 wi_X3_step ws_X3_step wn_X3 wc_X3_step, fun _ h => absurd h List.not_mem_nil⟩⟩) R sok_no E
  show WP_ X G Q 0 0 ad SHS_ σ 0 [(13, 3), (0, a1)] []
  refine B rfl ?_
  refine And.intro (fun h1 => ?_) (fun h1 => ?_)
  · skip
    refine B rfl ?_
    refine Exists.intro 3 (And.intro rfl (And.intro (And.intro (by show 1 ≤ 3; omega) (by show 3 ≤ 3; omega)) ?_))
    intro z2 σ4 h3
    have f5 : ∀ k j : Int, ¬ (k = 3) → σ4 k j = σ k j := h3.2.2.2.2.2.2
    have h6 : σ4 3 0 = σ 3 0 := h3.1
    have h7 : σ4 3 1 = σ 3 1 := h3.2.1
    have h8 : σ4 3 2 = σ 3 2 := h3.2.2.1
    have h9 : σ4 3 3 = σ 3 3 := h3.2.2.2.1
    have h10 : σ4 3 4 = σ 3 4 := h3.2.2.2.2.1
    have h11 : (σ 3 6 = 0 → σ4 3 6 = 3) ∧ (σ 3 6 ≠ 0 → σ4 3 6 = σ 3 6) := h3.2.2.2.2.2.1
    refine Exists.intro 0 (And.intro rfl ?_)
    exact (And.intro (by show σ4 3 0 = 2; omega) (And.intro (by show σ4 3 3 ≤ σ4 3 4; omega) (And.intro (by show σ4 3 4 ≤ σ4 3 1; omega) (And.intro (by show a1 = 0 → σ4 3 6 ≠ 0; omega) (And.intro (by show σ 3 6 ≠ 0 → σ4 3 6 ≠ 0; omega) (fun k j hk => (f5 _ _ (by omega))))))))
  · skip
    refine Exists.intro () (And.intro rfl (And.intro (And.intro (by show σ 3 0 = 2; omega) (by show σ 3 4 ≤ σ 3 1; omega)) ?_))
    intro z12 σ14 h13
    have f15 : ∀ k j : Int, ¬ (k = 3) → σ14 k j = σ k j := h13.2.2.2.2.2
    have h16 : σ14 3 0 = 2 := h13.1
    have h17 : σ14 3 3 ≤ σ14 3 4 := h13.2.1
    have h18 : σ14 3 4 ≤ σ14 3 1 := h13.2.2.1
    have h19 : σ14 3 1 = σ 3 1 := h13.2.2.2.1
    have h20 : σ14 3 6 = σ 3 6 := h13.2.2.2.2.1
    refine B rfl ?_
    refine Exists.intro 0 (And.intro rfl ?_)
    exact (And.intro (by show σ14 3 0 = 2; omega) (And.intro (by show σ14 3 3 ≤ σ14 3 4; omega) (And.intro (by show σ14 3 4 ≤ σ14 3 1; omega) (And.intro (by show a1 = 0 → σ14 3 6 ≠ 0; omega) (And.intro (by show σ 3 6 ≠ 0 → σ14 3 6 ≠ 0; omega) (fun k j hk => (f15 _ _ (by omega))))))))
def as_G_X3_readRain : Int → List Sv_t := fun a => [(13, 3), (15, a)]
def pre_G_X3_readRain : Int → Me_t → Prop := fun a σ => (σ 3 0 = 2) ∧ (σ 3 3 ≤ σ 3 4) ∧ (σ 3 4 ≤ σ 3 1)
def post_G_X3_readRain : Int → Me_t → Int → Me_t → Prop := fun a σ z σ' => (σ' 3 0 = 2) ∧ (σ' 3 3 ≤ σ' 3 4) ∧ (σ' 3 4 ≤ σ' 3 1) ∧ (σ 3 6 ≠ 0 → σ' 3 6 ≠ 0) ∧ (∀ j : Int, j ≠ 1 → σ' a j = σ a j) ∧ (∀ k j : Int, ¬ (k = 3 ∨ k = a) → σ' k j = σ k j)
set_option maxHeartbeats 2000000 in
set_option maxRecDepth 100000 in
theorem ct_G_X3_readRain (l : Launch) : CT_ l yX3_readRain cX3_readRain 2 none 7 149 as_G_X3_readRain (rmV_) pre_G_X3_readRain post_G_X3_readRain := by
  refine ct_of (by decide) (fun _ => Nat.le_of_ble_eq_true rfl) ?_
  intro X G Q ad σ a hl hR E hG R hM hv hp
  obtain ⟨a1, rfl⟩ : ∃ q : Int, q = a := ⟨_, rfl⟩
  have k_a1 : isWar_ a1 := tvWar_ (hv (15, a1) (List.mem_of_getElem? (i := 1) rfl))
  have r_a1 : 5 ≤ a1 ∧ a1 ≤ 67 := by unfold isWar_ at k_a1; omega
  have hp0 : σ 3 0 = 2 := hp.1
  have hp1 : σ 3 3 ≤ σ 3 4 := hp.2.1
  have hp2 : σ 3 4 ≤ σ 3 1 := hp.2.2
  have B := @bk_ X G Q 0 0 ad SHS_ RX3 cX3_readRain 2 none flX3 plX3 knX3 [(198, 2, TR_ as_G_X3_needWord (rmV_) pre_G_X3_needWord post_G_X3_needWord), (206, 3, TR_ as_G_X3_needNumber (rmI_) pre_G_X3_needNumber post_G_X3_needNumber)] _ _ none kX3_readRain [1] flX3_ok plX3_ok knX3_ok eX3_readRain oX3_readRain
    (List.forall_mem_cons.mpr ⟨cok_v (t := 3) (c := 3) (N := 8) (n := 1) (idx := 99) E (ct_G_X3_needWord X.2.1) (by rw [hR]; decide) (Nat.zero_le _) (Nat.zero_le _) hG rfl rfl ⟨rfl, by decide, by decide, by decide⟩ (fun _ => ⟨_, _, rfl, rfl⟩) wl_X3_99 wi_X3_needWord ws_X3_needWord wn_X3 wc_X3_needWord, List.forall_mem_cons.mpr ⟨cok_v (t := 3) (c := 3) (N := 8) (n := 2) (idx := 103) E (ct_G_X3_needNumber X.2.1) (by rw [hR]; decide) (Nat.zero_le _) (Nat.zero_le _) hG rfl rfl ⟨rfl, by decide, by decide, by decide⟩ (fun _ => ⟨_, _, rfl, rfl⟩) wl_X3_103 wi_X3_needNumber ws_X3_needNumber wn_X3 wc_X3_needNumber, fun _ h => absurd h List.not_mem_nil⟩⟩) R sok_no E
  show WP_ X G Q 0 0 ad SHS_ σ 0 [(13, 3), (15, a1)] []
  refine B rfl ?_
  show WP_ X G Q 0 0 ad SHS_ σ 1 [(13, 3), (15, a1)] [(13, 3)]
  refine so_ldcs (n := 97) (i := 1) (tx := "rain") E (eX3_readRain (1, .ldc 97, 2) (List.mem_of_getElem? (i := 1) rfl)) (by decide) ?_
  refine B rfl ?_
  refine Exists.intro 2 (And.intro rfl (And.intro (And.intro (by show σ 3 0 = 2; omega) (And.intro (by show σ 3 3 ≤ σ 3 4; omega) (And.intro (by show σ 3 4 ≤ σ 3 1; omega) (by show 1 ≤ 2 ∧ 2 ≤ 14; omega)))) ?_))
  intro z1 σ3 h2
  have f4 : ∀ k j : Int, ¬ (k = 3) → σ3 k j = σ k j := h2.2.2.2.2
  have h5 : σ3 3 0 = 2 := h2.1
  have h6 : σ3 3 3 ≤ σ3 3 4 := h2.2.1
  have h7 : σ3 3 4 ≤ σ3 3 1 := h2.2.2.1
  have h8 : σ 3 6 ≠ 0 → σ3 3 6 ≠ 0 := h2.2.2.2.1
  refine Exists.intro (0, 100) (And.intro rfl (And.intro (And.intro (by show σ3 3 0 = 2; omega) (And.intro (by show σ3 3 3 ≤ σ3 3 4; omega) (by show σ3 3 4 ≤ σ3 3 1; omega))) ?_))
  intro z9 σ11 h10
  have f12 : ∀ k j : Int, ¬ (k = 3) → σ11 k j = σ3 k j := h10.2.2.2.2
  have h13 : σ11 3 0 = 2 := h10.1
  have h14 : σ11 3 3 ≤ σ11 3 4 := h10.2.1
  have h15 : σ11 3 4 ≤ σ11 3 1 := h10.2.2.1
  have h16 : (σ11 3 6 = 0 ∧ σ3 3 6 = 0 ∧ 0 ≤ z9 ∧ z9 ≤ 100) ∨ (σ11 3 6 ≠ 0 ∧ z9 = 0) := h10.2.2.2.1
  refine And.intro (by omega) ?_
  intro σ17 e18
  refine Exists.intro 0 (And.intro rfl ?_)
  try have t19 : σ17 3 0 = σ11 3 0 := (ups_r e18 (by omega))
  try have t20 : σ17 3 3 = σ11 3 3 := (ups_r e18 (by omega))
  try have t21 : σ17 3 4 = σ11 3 4 := (ups_r e18 (by omega))
  try have t22 : σ17 3 1 = σ11 3 1 := (ups_r e18 (by omega))
  try have t23 : σ17 3 6 = σ11 3 6 := (ups_r e18 (by omega))
  exact (And.intro (by show σ17 3 0 = 2; omega) (And.intro (by show σ17 3 3 ≤ σ17 3 4; omega) (And.intro (by show σ17 3 4 ≤ σ17 3 1; omega) (And.intro (by show σ 3 6 ≠ 0 → σ17 3 6 ≠ 0; omega) (And.intro (by show ∀ j : Int, j ≠ 1 → σ17 a1 j = σ a1 j; intro j hj0; exact ((ups_r e18 (by omega)).trans ((f12 _ _ (by omega)).trans (f4 _ _ (by omega))))) (fun k j hk => ((ups_r e18 (by omega)).trans ((f12 _ _ (by omega)).trans (f4 _ _ (by omega))))))))))
def as_G_X3_readMonths : Int → List Sv_t := fun a => [(13, 3), (20, a)]
def pre_G_X3_readMonths : Int → Me_t → Prop := fun a σ => (σ 3 0 = 2) ∧ (σ 3 3 ≤ σ 3 4) ∧ (σ 3 4 ≤ σ 3 1) ∧ (σ a 3 = 0) ∧ (σ a 7 = 0)
def post_G_X3_readMonths : Int → Me_t → Int → Me_t → Prop := fun a σ z σ' => (σ' 3 0 = 2) ∧ (σ' 3 3 ≤ σ' 3 4) ∧ (σ' 3 4 ≤ σ' 3 1) ∧ (σ' 3 6 = 0 → 1 ≤ σ' a 3) ∧ (σ' a 1 = σ a 1) ∧ (σ 3 6 ≠ 0 → σ' 3 6 ≠ 0) ∧ (∀ k j : Int, ¬ (k = 3 ∨ k = a ∨ k = a + 1) → σ' k j = σ k j)
set_option maxHeartbeats 2000000 in
set_option maxRecDepth 100000 in
theorem ct_G_X3_readMonths (l : Launch) : CT_ l yX3_readMonths cX3_readMonths 4 none 2 44 as_G_X3_readMonths (rmV_) pre_G_X3_readMonths post_G_X3_readMonths := by
  refine ct_of (by decide) (fun _ => Nat.le_of_ble_eq_true rfl) ?_
  intro X G Q ad σ a hl hR E hG R hM hv hp
  obtain ⟨a1, rfl⟩ : ∃ q : Int, q = a := ⟨_, rfl⟩
  have k_a1 : isLand_ a1 := tvLand_ (hv (20, a1) (List.mem_of_getElem? (i := 1) rfl))
  have r_a1 : 10 ≤ a1 ∧ a1 ≤ 76 := by unfold isLand_ at k_a1; omega
  have hp0 : σ 3 0 = 2 := hp.1
  have hp1 : σ 3 3 ≤ σ 3 4 := hp.2.1
  have hp2 : σ 3 4 ≤ σ 3 1 := hp.2.2.1
  have hp3 : σ a1 3 = 0 := hp.2.2.2.1
  have hp4 : σ a1 7 = 0 := hp.2.2.2.2
  have B := @bk_ X G Q 0 0 ad SHS_ RX3 cX3_readMonths 4 none flX3 plX3 knX3 [(206, 3, TR_ as_G_X3_needNumber (rmI_) pre_G_X3_needNumber post_G_X3_needNumber), (300, 2, TR_ as_G_X1_appendMonth (rmV_) pre_G_X1_appendMonth post_G_X1_appendMonth), (186, 2, TR_ as_G_X3_refuse (rmV_) pre_G_X3_refuse post_G_X3_refuse)] _ _ none kX3_readMonths [10, 16, 23, 36, 45, 53, 62] flX3_ok plX3_ok knX3_ok eX3_readMonths oX3_readMonths
    (List.forall_mem_cons.mpr ⟨cok_v (t := 3) (c := 3) (N := 8) (n := 2) (idx := 103) E (ct_G_X3_needNumber X.2.1) (by rw [hR]; decide) (Nat.zero_le _) (Nat.zero_le _) hG rfl rfl ⟨rfl, by decide, by decide, by decide⟩ (fun _ => ⟨_, _, rfl, rfl⟩) wl_X3_103 wi_X3_needNumber ws_X3_needNumber wn_X3 wc_X3_needNumber, List.forall_mem_cons.mpr ⟨cok_v (t := 10) (c := 1) (N := 9) (n := 1) (idx := 150) E (ct_G_X1_appendMonth X.2.1) (by rw [hR]; decide) (Nat.zero_le _) (Nat.zero_le _) hG rfl rfl ⟨rfl, by decide, by decide, by decide⟩ (fun _ => ⟨_, _, rfl, rfl⟩) wl_X3_150 wi_X1_appendMonth ws_X1_appendMonth wn_X1 wc_X1_appendMonth, List.forall_mem_cons.mpr ⟨cok_v (t := 3) (c := 3) (N := 8) (n := 1) (idx := 93) E (ct_G_X3_refuse X.2.1) (by rw [hR]; decide) (Nat.zero_le _) (Nat.zero_le _) hG rfl rfl ⟨rfl, by decide, by decide, by decide⟩ (fun _ => ⟨_, _, rfl, rfl⟩) wl_X3_93 wi_X3_refuse ws_X3_refuse wn_X3 wc_X3_refuse, fun _ h => absurd h List.not_mem_nil⟩⟩⟩) R sok_no E
  show WP_ X G Q 0 0 ad SHS_ σ 0 [(13, 3), (20, a1), (9, 0), (9, 0)] []
  refine B rfl ?_
  refine Exists.intro (1, 60) (And.intro rfl (And.intro (And.intro (by show σ 3 0 = 2; omega) (And.intro (by show σ 3 3 ≤ σ 3 4; omega) (by show σ 3 4 ≤ σ 3 1; omega))) ?_))
  intro z1 σ3 h2
  have f4 : ∀ k j : Int, ¬ (k = 3) → σ3 k j = σ k j := h2.2.2.2.2
  have h5 : σ3 3 0 = 2 := h2.1
  have h6 : σ3 3 3 ≤ σ3 3 4 := h2.2.1
  have h7 : σ3 3 4 ≤ σ3 3 1 := h2.2.2.1
  have h8 : (σ3 3 6 = 0 ∧ σ 3 6 = 0 ∧ 1 ≤ z1 ∧ z1 ≤ 60) ∨ (σ3 3 6 ≠ 0 ∧ z1 = 0) := h2.2.2.2.1
  have lp_10 : ∀ (nq_ : Nat) (v2 : Int) (v3 : Int) (τ10 : Me_t), (∀ k j : Int, ¬ (k = 3 ∨ k = a1 ∨ k = a1 + 1) → τ10 k j = σ k j) → (0 ≤ v3) → (v3 ≤ 8) → (τ10 a1 3 = v3) → (τ10 a1 7 ≤ 60 * v3) → (0 ≤ τ10 a1 7) → (τ10 3 0 = 2) → (τ10 3 3 ≤ τ10 3 4) → (τ10 3 4 ≤ τ10 3 1) → (0 ≤ v2) → (v2 ≤ 60) → (σ 3 6 = 0 ∨ τ10 3 6 ≠ 0) → (τ10 a1 1 = σ a1 1) → (8 - v3 : Int).toNat < nq_ → WP_ X G Q 0 0 ad SHS_ τ10 10 [(13, 3), (20, a1), (0, v2), (0, v3)] [] := by
    intro nq_
    induction nq_ with
    | zero => intros; omega
    | succ nq_ ih_10 =>
      intro v2 v3 τ10 hf10 hi10_0 hi10_1 hi10_2 hi10_3 hi10_4 hi10_5 hi10_6 hi10_7 hi10_8 hi10_9 hi10_10 hi10_11 hm10
      refine B rfl ?_
      refine And.intro (fun h9 => ?_) (fun h9 => ?_)
      · skip
        refine B rfl ?_
        refine Exists.intro 0 (And.intro rfl ?_)
        exact (And.intro (by show τ10 3 0 = 2; omega) (And.intro (by show τ10 3 3 ≤ τ10 3 4; omega) (And.intro (by show τ10 3 4 ≤ τ10 3 1; omega) (And.intro (by show τ10 3 6 = 0 → 1 ≤ τ10 a1 3; omega) (And.intro (by show τ10 a1 1 = σ a1 1; omega) (And.intro (by show σ 3 6 ≠ 0 → τ10 3 6 ≠ 0; omega) (fun k j hk => (hf10 _ _ (by omega)))))))))
      · skip
        show WP_ X G Q 0 0 ad SHS_ τ10 16 [(13, 3), (20, a1), (0, v2), (0, v3)] []
        refine B rfl ?_
        intro z10 ez10 hz10
        have hz10 : (0 : Int) ≤ z10 ∧ z10 ≤ (3 : Int) := hz10
        refine And.intro (fun h11 => ?_) (fun h11 => ?_)
        · skip
          refine B rfl ?_
          refine Exists.intro 0 (And.intro rfl ?_)
          exact (And.intro (by show τ10 3 0 = 2; omega) (And.intro (by show τ10 3 3 ≤ τ10 3 4; omega) (And.intro (by show τ10 3 4 ≤ τ10 3 1; omega) (And.intro (by show τ10 3 6 = 0 → 1 ≤ τ10 a1 3; omega) (And.intro (by show τ10 a1 1 = σ a1 1; omega) (And.intro (by show σ 3 6 ≠ 0 → τ10 3 6 ≠ 0; omega) (fun k j hk => (hf10 _ _ (by omega)))))))))
        · skip
          show WP_ X G Q 0 0 ad SHS_ τ10 23 [(13, 3), (20, a1), (0, v2), (0, v3)] []
          refine B rfl ?_
          refine Exists.intro (a1, v2) (And.intro rfl (And.intro (And.intro (by show τ10 a1 3 ≤ 7; omega) (And.intro (by show 0 ≤ v2; omega) (And.intro (by show v2 ≤ 60; omega) (by show τ10 a1 7 + v2 ≤ 480; omega)))) ?_))
          intro z12 σ14 h13
          have f15 : ∀ k j : Int, ¬ (k = a1 ∨ k = a1 + 1) → σ14 k j = τ10 k j := h13.2.2.2
          have h16 : σ14 a1 3 = τ10 a1 3 + 1 := h13.1
          have h17 : σ14 a1 7 = τ10 a1 7 + v2 := h13.2.1
          have h18 : σ14 a1 1 = τ10 a1 1 := h13.2.2.1
          intro z19 ez19 hz19
          have hz19 : (0 : Int) ≤ z19 ∧ z19 ≤ (4 : Int) := hz19
          try have t20 : σ14 3 2 = σ 3 2 := ((f15 _ _ (by omega)).trans (hf10 _ _ (by omega)))
          refine And.intro (fun h21 => ?_) (fun h21 => ?_)
          · skip
            refine B rfl ?_
            refine And.intro (by omega) ?_
            refine And.intro (fun h22 => ?_) (fun h22 => ?_)
            · skip
              refine B rfl ?_
              try have t23 : σ14 3 0 = τ10 3 0 := (f15 _ _ (by omega))
              try have t24 : σ14 3 1 = τ10 3 1 := (f15 _ _ (by omega))
              try have t25 : σ14 3 3 = τ10 3 3 := (f15 _ _ (by omega))
              try have t26 : σ14 3 4 = τ10 3 4 := (f15 _ _ (by omega))
              try have t27 : σ14 3 6 = τ10 3 6 := (f15 _ _ (by omega))
              refine Exists.intro (1, 60) (And.intro rfl (And.intro (And.intro (by show σ14 3 0 = 2; omega) (And.intro (by show σ14 3 3 ≤ σ14 3 4; omega) (by show σ14 3 4 ≤ σ14 3 1; omega))) ?_))
              intro z28 σ30 h29
              have f31 : ∀ k j : Int, ¬ (k = 3) → σ30 k j = σ14 k j := h29.2.2.2.2
              have h32 : σ30 3 0 = 2 := h29.1
              have h33 : σ30 3 3 ≤ σ30 3 4 := h29.2.1
              have h34 : σ30 3 4 ≤ σ30 3 1 := h29.2.2.1
              have h35 : (σ30 3 6 = 0 ∧ σ14 3 6 = 0 ∧ 1 ≤ z28 ∧ z28 ≤ 60) ∨ (σ30 3 6 ≠ 0 ∧ z28 = 0) := h29.2.2.2.1
              refine And.intro (by omega) ?_
              try have t36 : σ30 a1 3 = σ14 a1 3 := (f31 _ _ (by omega))
              try have t37 : σ30 a1 7 = σ14 a1 7 := (f31 _ _ (by omega))
              try have t38 : σ30 a1 1 = σ14 a1 1 := (f31 _ _ (by omega))
              exact ih_10 z28 (v3 + 1) σ30 (fun k j hk => ((f31 _ _ (by omega)).trans ((f15 _ _ (by omega)).trans (hf10 _ _ (by omega))))) (by show 0 ≤ (v3 + 1); omega) (by show (v3 + 1) ≤ 8; omega) (by show σ30 a1 3 = (v3 + 1); omega) (by show σ30 a1 7 ≤ 60 * (v3 + 1); omega) (by show 0 ≤ σ30 a1 7; omega) (by show σ30 3 0 = 2; omega) (by show σ30 3 3 ≤ σ30 3 4; omega) (by show σ30 3 4 ≤ σ30 3 1; omega) (by show 0 ≤ z28; omega) (by show z28 ≤ 60; omega) (by show σ 3 6 = 0 ∨ σ30 3 6 ≠ 0; omega) (by show σ30 a1 1 = σ a1 1; omega) (by omega)
            · skip
              show WP_ X G Q 0 0 ad SHS_ σ14 45 [(13, 3), (20, a1), (0, v2), (0, v3)] []
              refine B rfl ?_
              intro z39 ez39 hz39
              have hz39 : (0 : Int) ≤ z39 ∧ z39 ≤ (1000009 : Int) := rgl_ hz39 (by decide +kernel) (by decide +kernel) (by decide +kernel)
              try have t40 : σ14 3 5 = σ 3 5 := ((f15 _ _ (by omega)).trans (hf10 _ _ (by omega)))
              refine And.intro (fun h41 => ?_) (fun h41 => ?_)
              · skip
                refine B rfl ?_
                try have t42 : σ14 3 0 = τ10 3 0 := (f15 _ _ (by omega))
                try have t43 : σ14 3 1 = τ10 3 1 := (f15 _ _ (by omega))
                try have t44 : σ14 3 3 = τ10 3 3 := (f15 _ _ (by omega))
                try have t45 : σ14 3 4 = τ10 3 4 := (f15 _ _ (by omega))
                try have t46 : σ14 3 6 = τ10 3 6 := (f15 _ _ (by omega))
                refine Exists.intro (1, 60) (And.intro rfl (And.intro (And.intro (by show σ14 3 0 = 2; omega) (And.intro (by show σ14 3 3 ≤ σ14 3 4; omega) (by show σ14 3 4 ≤ σ14 3 1; omega))) ?_))
                intro z47 σ49 h48
                have f50 : ∀ k j : Int, ¬ (k = 3) → σ49 k j = σ14 k j := h48.2.2.2.2
                have h51 : σ49 3 0 = 2 := h48.1
                have h52 : σ49 3 3 ≤ σ49 3 4 := h48.2.1
                have h53 : σ49 3 4 ≤ σ49 3 1 := h48.2.2.1
                have h54 : (σ49 3 6 = 0 ∧ σ14 3 6 = 0 ∧ 1 ≤ z47 ∧ z47 ≤ 60) ∨ (σ49 3 6 ≠ 0 ∧ z47 = 0) := h48.2.2.2.1
                refine And.intro (by omega) ?_
                try have t55 : σ49 a1 3 = σ14 a1 3 := (f50 _ _ (by omega))
                try have t56 : σ49 a1 7 = σ14 a1 7 := (f50 _ _ (by omega))
                try have t57 : σ49 a1 1 = σ14 a1 1 := (f50 _ _ (by omega))
                exact ih_10 z47 (v3 + 1) σ49 (fun k j hk => ((f50 _ _ (by omega)).trans ((f15 _ _ (by omega)).trans (hf10 _ _ (by omega))))) (by show 0 ≤ (v3 + 1); omega) (by show (v3 + 1) ≤ 8; omega) (by show σ49 a1 3 = (v3 + 1); omega) (by show σ49 a1 7 ≤ 60 * (v3 + 1); omega) (by show 0 ≤ σ49 a1 7; omega) (by show σ49 3 0 = 2; omega) (by show σ49 3 3 ≤ σ49 3 4; omega) (by show σ49 3 4 ≤ σ49 3 1; omega) (by show 0 ≤ z47; omega) (by show z47 ≤ 60; omega) (by show σ 3 6 = 0 ∨ σ49 3 6 ≠ 0; omega) (by show σ49 a1 1 = σ a1 1; omega) (by omega)
              · skip
                show WP_ X G Q 0 0 ad SHS_ σ14 53 [(13, 3), (20, a1), (0, v2), (0, v3)] []
                refine B rfl ?_
                intro z58 ez58 hz58
                have q59 : z39 = z58 := ez39.trans ez58.symm
                subst q59
                refine And.intro (fun h60 => ?_) (fun h60 => ?_)
                · skip
                  refine B rfl ?_
                  try have t61 : σ14 3 0 = τ10 3 0 := (f15 _ _ (by omega))
                  try have t62 : σ14 3 1 = τ10 3 1 := (f15 _ _ (by omega))
                  try have t63 : σ14 3 3 = τ10 3 3 := (f15 _ _ (by omega))
                  try have t64 : σ14 3 4 = τ10 3 4 := (f15 _ _ (by omega))
                  try have t65 : σ14 3 6 = τ10 3 6 := (f15 _ _ (by omega))
                  refine Exists.intro (1, 60) (And.intro rfl (And.intro (And.intro (by show σ14 3 0 = 2; omega) (And.intro (by show σ14 3 3 ≤ σ14 3 4; omega) (by show σ14 3 4 ≤ σ14 3 1; omega))) ?_))
                  intro z66 σ68 h67
                  have f69 : ∀ k j : Int, ¬ (k = 3) → σ68 k j = σ14 k j := h67.2.2.2.2
                  have h70 : σ68 3 0 = 2 := h67.1
                  have h71 : σ68 3 3 ≤ σ68 3 4 := h67.2.1
                  have h72 : σ68 3 4 ≤ σ68 3 1 := h67.2.2.1
                  have h73 : (σ68 3 6 = 0 ∧ σ14 3 6 = 0 ∧ 1 ≤ z66 ∧ z66 ≤ 60) ∨ (σ68 3 6 ≠ 0 ∧ z66 = 0) := h67.2.2.2.1
                  refine And.intro (by omega) ?_
                  try have t74 : σ68 a1 3 = σ14 a1 3 := (f69 _ _ (by omega))
                  try have t75 : σ68 a1 7 = σ14 a1 7 := (f69 _ _ (by omega))
                  try have t76 : σ68 a1 1 = σ14 a1 1 := (f69 _ _ (by omega))
                  exact ih_10 z66 (v3 + 1) σ68 (fun k j hk => ((f69 _ _ (by omega)).trans ((f15 _ _ (by omega)).trans (hf10 _ _ (by omega))))) (by show 0 ≤ (v3 + 1); omega) (by show (v3 + 1) ≤ 8; omega) (by show σ68 a1 3 = (v3 + 1); omega) (by show σ68 a1 7 ≤ 60 * (v3 + 1); omega) (by show 0 ≤ σ68 a1 7; omega) (by show σ68 3 0 = 2; omega) (by show σ68 3 3 ≤ σ68 3 4; omega) (by show σ68 3 4 ≤ σ68 3 1; omega) (by show 0 ≤ z66; omega) (by show z66 ≤ 60; omega) (by show σ 3 6 = 0 ∨ σ68 3 6 ≠ 0; omega) (by show σ68 a1 1 = σ a1 1; omega) (by omega)
                · skip
                  show WP_ X G Q 0 0 ad SHS_ σ14 62 [(13, 3), (20, a1), (0, v2), (0, v3)] []
                  refine B rfl ?_
                  try have t77 : σ14 3 0 = τ10 3 0 := (f15 _ _ (by omega))
                  try have t78 : σ14 3 1 = τ10 3 1 := (f15 _ _ (by omega))
                  try have t79 : σ14 3 3 = τ10 3 3 := (f15 _ _ (by omega))
                  try have t80 : σ14 3 4 = τ10 3 4 := (f15 _ _ (by omega))
                  try have t81 : σ14 3 6 = τ10 3 6 := (f15 _ _ (by omega))
                  refine Exists.intro 3 (And.intro rfl (And.intro (And.intro (by show 1 ≤ 3; omega) (by show 3 ≤ 3; omega)) ?_))
                  intro z82 σ84 h83
                  have f85 : ∀ k j : Int, ¬ (k = 3) → σ84 k j = σ14 k j := h83.2.2.2.2.2.2
                  have h86 : σ84 3 0 = σ14 3 0 := h83.1
                  have h87 : σ84 3 1 = σ14 3 1 := h83.2.1
                  have h88 : σ84 3 2 = σ14 3 2 := h83.2.2.1
                  have h89 : σ84 3 3 = σ14 3 3 := h83.2.2.2.1
                  have h90 : σ84 3 4 = σ14 3 4 := h83.2.2.2.2.1
                  have h91 : (σ14 3 6 = 0 → σ84 3 6 = 3) ∧ (σ14 3 6 ≠ 0 → σ84 3 6 = σ14 3 6) := h83.2.2.2.2.2.1
                  refine Exists.intro (1, 60) (And.intro rfl (And.intro (And.intro (by show σ84 3 0 = 2; omega) (And.intro (by show σ84 3 3 ≤ σ84 3 4; omega) (by show σ84 3 4 ≤ σ84 3 1; omega))) ?_))
                  intro z92 σ94 h93
                  have f95 : ∀ k j : Int, ¬ (k = 3) → σ94 k j = σ84 k j := h93.2.2.2.2
                  have h96 : σ94 3 0 = 2 := h93.1
                  have h97 : σ94 3 3 ≤ σ94 3 4 := h93.2.1
                  have h98 : σ94 3 4 ≤ σ94 3 1 := h93.2.2.1
                  have h99 : (σ94 3 6 = 0 ∧ σ84 3 6 = 0 ∧ 1 ≤ z92 ∧ z92 ≤ 60) ∨ (σ94 3 6 ≠ 0 ∧ z92 = 0) := h93.2.2.2.1
                  refine And.intro (by omega) ?_
                  try have t100 : σ94 a1 3 = σ14 a1 3 := ((f95 _ _ (by omega)).trans (f85 _ _ (by omega)))
                  try have t101 : σ94 a1 7 = σ14 a1 7 := ((f95 _ _ (by omega)).trans (f85 _ _ (by omega)))
                  try have t102 : σ94 a1 1 = σ14 a1 1 := ((f95 _ _ (by omega)).trans (f85 _ _ (by omega)))
                  exact ih_10 z92 (v3 + 1) σ94 (fun k j hk => ((f95 _ _ (by omega)).trans ((f85 _ _ (by omega)).trans ((f15 _ _ (by omega)).trans (hf10 _ _ (by omega)))))) (by show 0 ≤ (v3 + 1); omega) (by show (v3 + 1) ≤ 8; omega) (by show σ94 a1 3 = (v3 + 1); omega) (by show σ94 a1 7 ≤ 60 * (v3 + 1); omega) (by show 0 ≤ σ94 a1 7; omega) (by show σ94 3 0 = 2; omega) (by show σ94 3 3 ≤ σ94 3 4; omega) (by show σ94 3 4 ≤ σ94 3 1; omega) (by show 0 ≤ z92; omega) (by show z92 ≤ 60; omega) (by show σ 3 6 = 0 ∨ σ94 3 6 ≠ 0; omega) (by show σ94 a1 1 = σ a1 1; omega) (by omega)
          · skip
            show WP_ X G Q 0 0 ad SHS_ σ14 36 [(13, 3), (20, a1), (0, v2), (0, v3)] []
            refine B rfl ?_
            refine Exists.intro 0 (And.intro rfl ?_)
            try have t103 : σ14 3 0 = τ10 3 0 := (f15 _ _ (by omega))
            try have t104 : σ14 3 3 = τ10 3 3 := (f15 _ _ (by omega))
            try have t105 : σ14 3 4 = τ10 3 4 := (f15 _ _ (by omega))
            try have t106 : σ14 3 1 = τ10 3 1 := (f15 _ _ (by omega))
            try have t107 : σ14 3 6 = τ10 3 6 := (f15 _ _ (by omega))
            exact (And.intro (by show σ14 3 0 = 2; omega) (And.intro (by show σ14 3 3 ≤ σ14 3 4; omega) (And.intro (by show σ14 3 4 ≤ σ14 3 1; omega) (And.intro (by show σ14 3 6 = 0 → 1 ≤ σ14 a1 3; omega) (And.intro (by show σ14 a1 1 = σ a1 1; omega) (And.intro (by show σ 3 6 ≠ 0 → σ14 3 6 ≠ 0; omega) (fun k j hk => ((f15 _ _ (by omega)).trans (hf10 _ _ (by omega))))))))))
  try have t108 : σ3 a1 3 = σ a1 3 := (f4 _ _ (by omega))
  try have t109 : σ3 a1 7 = σ a1 7 := (f4 _ _ (by omega))
  try have t110 : σ3 a1 1 = σ a1 1 := (f4 _ _ (by omega))
  exact lp_10 ((8 - 0 : Int).toNat + 1) z1 0 σ3 (fun k j hk => (f4 _ _ (by omega))) (by show 0 ≤ 0; omega) (by show 0 ≤ 8; omega) (by show σ3 a1 3 = 0; omega) (by show σ3 a1 7 ≤ 60 * 0; omega) (by show 0 ≤ σ3 a1 7; omega) (by show σ3 3 0 = 2; omega) (by show σ3 3 3 ≤ σ3 3 4; omega) (by show σ3 3 4 ≤ σ3 3 1; omega) (by show 0 ≤ z1; omega) (by show z1 ≤ 60; omega) (by show σ 3 6 = 0 ∨ σ3 3 6 ≠ 0; omega) (by show σ3 a1 1 = σ a1 1; omega) (by omega)
def as_G_X3_readLand : Int → List Sv_t := fun a => [(13, 3), (15, a)]
def pre_G_X3_readLand : Int → Me_t → Prop := fun a σ => (σ 3 0 = 2) ∧ (σ 3 3 ≤ σ 3 4) ∧ (σ 3 4 ≤ σ 3 1) ∧ (LG σ a)
def post_G_X3_readLand : Int → Me_t → Int → Me_t → Prop := fun a σ z σ' => (σ' 3 0 = 2) ∧ (σ' 3 3 ≤ σ' 3 4) ∧ (σ' 3 4 ≤ σ' 3 1) ∧ (LG σ' a) ∧ (σ 3 6 ≠ 0 → σ' 3 6 ≠ 0) ∧ (∀ j : Int, j ≠ 2 → σ' a j = σ a j) ∧ (∀ k j : Int, ¬ (k = 3 ∨ k = a ∨ (a + 5 ≤ k ∧ k ≤ a + 10)) → σ' k j = σ k j)
set_option maxHeartbeats 2000000 in
set_option maxRecDepth 100000 in
theorem ct_G_X3_readLand (l : Launch) : CT_ l yX3_readLand cX3_readLand 3 none 7 149 as_G_X3_readLand (rmV_) pre_G_X3_readLand post_G_X3_readLand := by
  refine ct_of (by decide) (fun _ => Nat.le_of_ble_eq_true rfl) ?_
  intro X G Q ad σ a hl hR E hG R hM hv hp
  obtain ⟨a1, rfl⟩ : ∃ q : Int, q = a := ⟨_, rfl⟩
  have k_a1 : isWar_ a1 := tvWar_ (hv (15, a1) (List.mem_of_getElem? (i := 1) rfl))
  have r_a1 : 5 ≤ a1 ∧ a1 ≤ 67 := by unfold isWar_ at k_a1; omega
  have hp0 : σ 3 0 = 2 := hp.1
  have hp1 : σ 3 3 ≤ σ 3 4 := hp.2.1
  have hp2 : σ 3 4 ≤ σ 3 1 := hp.2.2.1
  have hp3 : LG σ a1 := hp.2.2.2
  have B := @bk_ X G Q 0 0 ad SHS_ RX3 cX3_readLand 3 none flX3 plX3 knX3 [(226, 1, TR_ as_G_X1_clear (rmV_) pre_G_X1_clear post_G_X1_clear), (198, 2, TR_ as_G_X3_needWord (rmV_) pre_G_X3_needWord post_G_X3_needWord), (206, 3, TR_ as_G_X3_needNumber (rmI_) pre_G_X3_needNumber post_G_X3_needNumber), (260, 2, TR_ as_G_X3_readMonths (rmV_) pre_G_X3_readMonths post_G_X3_readMonths), (116, 2, TR_ as_G_X3_isWord (rmI_) pre_G_X3_isWord post_G_X3_isWord), (92, 1, TR_ as_G_X3_step (rmV_) pre_G_X3_step post_G_X3_step)] _ _ none kX3_readLand [7, 15, 31, 49, 66, 89, 106, 107, 115, 131, 152, 175] flX3_ok plX3_ok knX3_ok eX3_readLand oX3_readLand
    (List.forall_mem_cons.mpr ⟨cok_v (t := 10) (c := 1) (N := 9) (n := 0) (idx := 113) E (ct_G_X1_clear X.2.1) (by rw [hR]; decide) (Nat.zero_le _) (Nat.zero_le _) hG rfl rfl ⟨rfl, by decide, by decide, by decide⟩ (fun _ => ⟨_, _, rfl, rfl⟩) wl_X3_113 wi_X1_clear ws_X1_clear wn_X1 wc_X1_clear, List.forall_mem_cons.mpr ⟨cok_v (t := 3) (c := 3) (N := 8) (n := 1) (idx := 99) E (ct_G_X3_needWord X.2.1) (by rw [hR]; decide) (Nat.zero_le _) (Nat.zero_le _) hG rfl rfl ⟨rfl, by decide, by decide, by decide⟩ (fun _ => ⟨_, _, rfl, rfl⟩) wl_X3_99 wi_X3_needWord ws_X3_needWord wn_X3 wc_X3_needWord, List.forall_mem_cons.mpr ⟨cok_v (t := 3) (c := 3) (N := 8) (n := 2) (idx := 103) E (ct_G_X3_needNumber X.2.1) (by rw [hR]; decide) (Nat.zero_le _) (Nat.zero_le _) hG rfl rfl ⟨rfl, by decide, by decide, by decide⟩ (fun _ => ⟨_, _, rfl, rfl⟩) wl_X3_103 wi_X3_needNumber ws_X3_needNumber wn_X3 wc_X3_needNumber, List.forall_mem_cons.mpr ⟨cok_v (t := 3) (c := 3) (N := 8) (n := 1) (idx := 130) E (ct_G_X3_readMonths X.2.1) (by rw [hR]; decide) (Nat.zero_le _) (Nat.zero_le _) hG rfl rfl ⟨rfl, by decide, by decide, by decide⟩ (fun _ => ⟨_, _, rfl, rfl⟩) wl_X3_130 wi_X3_readMonths ws_X3_readMonths wn_X3 wc_X3_readMonths, List.forall_mem_cons.mpr ⟨cok_v (t := 3) (c := 3) (N := 8) (n := 1) (idx := 58) E (ct_G_X3_isWord X.2.1) (by rw [hR]; decide) (Nat.zero_le _) (Nat.zero_le _) hG rfl rfl ⟨rfl, by decide, by decide, by decide⟩ (fun _ => ⟨_, _, rfl, rfl⟩) wl_X3_58 wi_X3_isWord ws_X3_isWord wn_X3 wc_X3_isWord, List.forall_mem_cons.mpr ⟨cok_v (t := 3) (c := 3) (N := 8) (n := 0) (idx := 46) E (ct_G_X3_step X.2.1) (by rw [hR]; decide) (Nat.zero_le _) (Nat.zero_le _) hG rfl rfl ⟨rfl, by decide, by decide, by decide⟩ (fun _ => ⟨_, _, rfl, rfl⟩) wl_X3_46 wi_X3_step ws_X3_step wn_X3 wc_X3_step, fun _ h => absurd h List.not_mem_nil⟩⟩⟩⟩⟩⟩) R sok_no E
  show WP_ X G Q 0 0 ad SHS_ σ 0 [(13, 3), (15, a1), (9, 0)] []
  refine B rfl ?_
  intro z1 ez1 hz1
  have hz1 : (0 : Int) ≤ z1 ∧ z1 ≤ (3 : Int) := hz1
  refine And.intro (fun h2 => ?_) (fun h2 => ?_)
  · skip
    refine B rfl ?_
    refine Exists.intro 0 (And.intro rfl ?_)
    exact (And.intro (by show σ 3 0 = 2; omega) (And.intro (by show σ 3 3 ≤ σ 3 4; omega) (And.intro (by show σ 3 4 ≤ σ 3 1; omega) (And.intro (by show LG σ a1; exact hp3) (And.intro (by show σ 3 6 ≠ 0 → σ 3 6 ≠ 0; omega) (And.intro (by show ∀ j : Int, j ≠ 2 → σ a1 j = σ a1 j; intro j hj0; exact rfl) (fun k j hk => rfl)))))))
  · skip
    show WP_ X G Q 0 0 ad SHS_ σ 7 [(13, 3), (15, a1), (9, 0)] []
    refine B rfl ?_
    intro z3 ez3 hz3
    have hz3 : (0 : Int) ≤ z3 ∧ z3 ≤ (3 : Int) := hz3
    refine And.intro (fun h4 => ?_) (fun h4 => ?_)
    · skip
      refine B rfl ?_
      intro z5 ez5 hz5
      have q6 : z3 = z5 := ez3.trans ez5.symm
      subst q6
      refine And.intro (by omega) ?_
      refine Exists.intro ((a1 + 1) + 4 + 2 * z3) (And.intro rfl (And.intro True.intro ?_))
      intro z7 σ9 h8
      have f10 : ∀ k j : Int, ¬ (k = ((a1 + 1) + 4 + 2 * z3)) → σ9 k j = σ k j := h8.2.2.2.2.2
      have h11 : σ9 ((a1 + 1) + 4 + 2 * z3) 3 = 0 := h8.1
      have h12 : σ9 ((a1 + 1) + 4 + 2 * z3) 4 = 0 := h8.2.1
      have h13 : σ9 ((a1 + 1) + 4 + 2 * z3) 5 = -1 := h8.2.2.1
      have h14 : σ9 ((a1 + 1) + 4 + 2 * z3) 6 = 0 := h8.2.2.2.1
      have h15 : σ9 ((a1 + 1) + 4 + 2 * z3) 7 = 0 := h8.2.2.2.2.1
      show WP_ X G Q 0 0 ad SHS_ σ9 31 [(13, 3), (15, a1), (20, (a1 + 1) + 4 + 2 * z3)] [(13, 3)]
      refine so_ldcs (n := 116) (i := 3) (tx := "from") E (eX3_readLand (31, .ldc 116, 2) (List.mem_of_getElem? (i := 17) rfl)) (by decide) ?_
      refine B rfl ?_
      try have t16 : σ9 3 6 = σ 3 6 := (f10 _ _ (by omega))
      try have t17 : σ9 3 0 = σ 3 0 := (f10 _ _ (by omega))
      try have t18 : σ9 3 3 = σ 3 3 := (f10 _ _ (by omega))
      try have t19 : σ9 3 4 = σ 3 4 := (f10 _ _ (by omega))
      try have t20 : σ9 3 1 = σ 3 1 := (f10 _ _ (by omega))
      refine Exists.intro 4 (And.intro rfl (And.intro (And.intro (by show σ9 3 0 = 2; omega) (And.intro (by show σ9 3 3 ≤ σ9 3 4; omega) (And.intro (by show σ9 3 4 ≤ σ9 3 1; omega) (by show 1 ≤ 4 ∧ 4 ≤ 14; omega)))) ?_))
      intro z21 σ23 h22
      have f24 : ∀ k j : Int, ¬ (k = 3) → σ23 k j = σ9 k j := h22.2.2.2.2
      have h25 : σ23 3 0 = 2 := h22.1
      have h26 : σ23 3 3 ≤ σ23 3 4 := h22.2.1
      have h27 : σ23 3 4 ≤ σ23 3 1 := h22.2.2.1
      have h28 : σ9 3 6 ≠ 0 → σ23 3 6 ≠ 0 := h22.2.2.2.1
      refine Exists.intro (0, 999) (And.intro rfl (And.intro (And.intro (by show σ23 3 0 = 2; omega) (And.intro (by show σ23 3 3 ≤ σ23 3 4; omega) (by show σ23 3 4 ≤ σ23 3 1; omega))) ?_))
      intro z29 σ31 h30
      have f32 : ∀ k j : Int, ¬ (k = 3) → σ31 k j = σ23 k j := h30.2.2.2.2
      have h33 : σ31 3 0 = 2 := h30.1
      have h34 : σ31 3 3 ≤ σ31 3 4 := h30.2.1
      have h35 : σ31 3 4 ≤ σ31 3 1 := h30.2.2.1
      have h36 : (σ31 3 6 = 0 ∧ σ23 3 6 = 0 ∧ 0 ≤ z29 ∧ z29 ≤ 999) ∨ (σ31 3 6 ≠ 0 ∧ z29 = 0) := h30.2.2.2.1
      refine And.intro (by omega) ?_
      intro σ37 e38
      show WP_ X G Q 0 0 ad SHS_ σ37 49 [(13, 3), (15, a1), (20, (a1 + 1) + 4 + 2 * z3)] [(13, 3)]
      refine so_ldcs (n := 120) (i := 4) (tx := "week") E (eX3_readLand (49, .ldc 120, 2) (List.mem_of_getElem? (i := 26) rfl)) (by decide) ?_
      refine B rfl ?_
      try have t39 : σ37 3 6 = σ31 3 6 := (ups_r e38 (by omega))
      try have t40 : σ37 3 0 = σ31 3 0 := (ups_r e38 (by omega))
      try have t41 : σ37 3 3 = σ31 3 3 := (ups_r e38 (by omega))
      try have t42 : σ37 3 4 = σ31 3 4 := (ups_r e38 (by omega))
      try have t43 : σ37 3 1 = σ31 3 1 := (ups_r e38 (by omega))
      refine Exists.intro 5 (And.intro rfl (And.intro (And.intro (by show σ37 3 0 = 2; omega) (And.intro (by show σ37 3 3 ≤ σ37 3 4; omega) (And.intro (by show σ37 3 4 ≤ σ37 3 1; omega) (by show 1 ≤ 5 ∧ 5 ≤ 14; omega)))) ?_))
      intro z44 σ46 h45
      have f47 : ∀ k j : Int, ¬ (k = 3) → σ46 k j = σ37 k j := h45.2.2.2.2
      have h48 : σ46 3 0 = 2 := h45.1
      have h49 : σ46 3 3 ≤ σ46 3 4 := h45.2.1
      have h50 : σ46 3 4 ≤ σ46 3 1 := h45.2.2.1
      have h51 : σ37 3 6 ≠ 0 → σ46 3 6 ≠ 0 := h45.2.2.2.1
      refine Exists.intro (2, 10) (And.intro rfl (And.intro (And.intro (by show σ46 3 0 = 2; omega) (And.intro (by show σ46 3 3 ≤ σ46 3 4; omega) (by show σ46 3 4 ≤ σ46 3 1; omega))) ?_))
      intro z52 σ54 h53
      have f55 : ∀ k j : Int, ¬ (k = 3) → σ54 k j = σ46 k j := h53.2.2.2.2
      have h56 : σ54 3 0 = 2 := h53.1
      have h57 : σ54 3 3 ≤ σ54 3 4 := h53.2.1
      have h58 : σ54 3 4 ≤ σ54 3 1 := h53.2.2.1
      have h59 : (σ54 3 6 = 0 ∧ σ46 3 6 = 0 ∧ 2 ≤ z52 ∧ z52 ≤ 10) ∨ (σ54 3 6 ≠ 0 ∧ z52 = 0) := h53.2.2.2.1
      refine And.intro (by omega) ?_
      intro σ60 e61
      show WP_ X G Q 0 0 ad SHS_ σ60 66 [(13, 3), (15, a1), (20, (a1 + 1) + 4 + 2 * z3)] [(13, 3)]
      refine so_ldcs (n := 124) (i := 5) (tx := "rests") E (eX3_readLand (66, .ldc 124, 2) (List.mem_of_getElem? (i := 35) rfl)) (by decide) ?_
      refine B rfl ?_
      try have t62 : σ60 3 6 = σ54 3 6 := (ups_r e61 (by omega))
      try have t63 : σ60 3 0 = σ54 3 0 := (ups_r e61 (by omega))
      try have t64 : σ60 3 3 = σ54 3 3 := (ups_r e61 (by omega))
      try have t65 : σ60 3 4 = σ54 3 4 := (ups_r e61 (by omega))
      try have t66 : σ60 3 1 = σ54 3 1 := (ups_r e61 (by omega))
      refine Exists.intro 6 (And.intro rfl (And.intro (And.intro (by show σ60 3 0 = 2; omega) (And.intro (by show σ60 3 3 ≤ σ60 3 4; omega) (And.intro (by show σ60 3 4 ≤ σ60 3 1; omega) (by show 1 ≤ 6 ∧ 6 ≤ 14; omega)))) ?_))
      intro z67 σ69 h68
      have f70 : ∀ k j : Int, ¬ (k = 3) → σ69 k j = σ60 k j := h68.2.2.2.2
      have h71 : σ69 3 0 = 2 := h68.1
      have h72 : σ69 3 3 ≤ σ69 3 4 := h68.2.1
      have h73 : σ69 3 4 ≤ σ69 3 1 := h68.2.2.1
      have h74 : σ60 3 6 ≠ 0 → σ69 3 6 ≠ 0 := h68.2.2.2.1
      intro z75 ez75 hz75
      have hz75 : (0 : Int) ≤ z75 ∧ z75 ≤ (10 : Int) := hz75
      have t76 : σ69 ((a1 + 1) + 4 + 2 * z3) 1 = z52 := ((f70 _ _ (by omega))).trans (ups_v e61)
      try have q77 := shl3_1 (b := z75) (by omega) (by omega)
      try have q78 := shl3_b (b := z75) (by omega) (by omega)
      refine And.intro (by omega) ?_
      refine Exists.intro (0, (shl3_ 1 z75) - 2) (And.intro rfl (And.intro (And.intro (by show σ69 3 0 = 2; omega) (And.intro (by show σ69 3 3 ≤ σ69 3 4; omega) (by show σ69 3 4 ≤ σ69 3 1; omega))) ?_))
      intro z79 σ81 h80
      have f82 : ∀ k j : Int, ¬ (k = 3) → σ81 k j = σ69 k j := h80.2.2.2.2
      have h83 : σ81 3 0 = 2 := h80.1
      have h84 : σ81 3 3 ≤ σ81 3 4 := h80.2.1
      have h85 : σ81 3 4 ≤ σ81 3 1 := h80.2.2.1
      have h86 : (σ81 3 6 = 0 ∧ σ69 3 6 = 0 ∧ 0 ≤ z79 ∧ z79 ≤ ((shl3_ 1 z75) - 2)) ∨ (σ81 3 6 ≠ 0 ∧ z79 = 0) := h80.2.2.2.1
      refine And.intro (by omega) ?_
      intro σ87 e88
      show WP_ X G Q 0 0 ad SHS_ σ87 89 [(13, 3), (15, a1), (20, (a1 + 1) + 4 + 2 * z3)] [(13, 3)]
      refine so_ldcs (n := 128) (i := 6) (tx := "year") E (eX3_readLand (89, .ldc 128, 2) (List.mem_of_getElem? (i := 49) rfl)) (by decide) ?_
      refine B rfl ?_
      try have t89 : σ87 3 6 = σ81 3 6 := (ups_r e88 (by omega))
      try have t90 : σ87 3 0 = σ81 3 0 := (ups_r e88 (by omega))
      try have t91 : σ87 3 3 = σ81 3 3 := (ups_r e88 (by omega))
      try have t92 : σ87 3 4 = σ81 3 4 := (ups_r e88 (by omega))
      try have t93 : σ87 3 1 = σ81 3 1 := (ups_r e88 (by omega))
      refine Exists.intro 7 (And.intro rfl (And.intro (And.intro (by show σ87 3 0 = 2; omega) (And.intro (by show σ87 3 3 ≤ σ87 3 4; omega) (And.intro (by show σ87 3 4 ≤ σ87 3 1; omega) (by show 1 ≤ 7 ∧ 7 ≤ 14; omega)))) ?_))
      intro z94 σ96 h95
      have f97 : ∀ k j : Int, ¬ (k = 3) → σ96 k j = σ87 k j := h95.2.2.2.2
      have h98 : σ96 3 0 = 2 := h95.1
      have h99 : σ96 3 3 ≤ σ96 3 4 := h95.2.1
      have h100 : σ96 3 4 ≤ σ96 3 1 := h95.2.2.1
      have h101 : σ87 3 6 ≠ 0 → σ96 3 6 ≠ 0 := h95.2.2.2.1
      try have t102 : σ96 ((a1 + 1) + 4 + 2 * z3) 1 = σ69 ((a1 + 1) + 4 + 2 * z3) 1 := ((f97 _ _ (by omega)).trans ((ups_r e88 (by omega)).trans (f82 _ _ (by omega))))
      try have t103 : σ96 ((a1 + 1) + 4 + 2 * z3) 3 = σ9 ((a1 + 1) + 4 + 2 * z3) 3 := ((f97 _ _ (by omega)).trans ((ups_r e88 (by omega)).trans ((f82 _ _ (by omega)).trans ((f70 _ _ (by omega)).trans ((ups_r e61 (by omega)).trans ((f55 _ _ (by omega)).trans ((f47 _ _ (by omega)).trans ((ups_r e38 (by omega)).trans ((f32 _ _ (by omega)).trans (f24 _ _ (by omega)))))))))))
      try have t104 : σ96 ((a1 + 1) + 4 + 2 * z3) 7 = σ9 ((a1 + 1) + 4 + 2 * z3) 7 := ((f97 _ _ (by omega)).trans ((ups_r e88 (by omega)).trans ((f82 _ _ (by omega)).trans ((f70 _ _ (by omega)).trans ((ups_r e61 (by omega)).trans ((f55 _ _ (by omega)).trans ((f47 _ _ (by omega)).trans ((ups_r e38 (by omega)).trans ((f32 _ _ (by omega)).trans (f24 _ _ (by omega)))))))))))
      refine Exists.intro ((a1 + 1) + 4 + 2 * z3) (And.intro rfl (And.intro (And.intro (by show σ96 3 0 = 2; omega) (And.intro (by show σ96 3 3 ≤ σ96 3 4; omega) (And.intro (by show σ96 3 4 ≤ σ96 3 1; omega) (And.intro (by show σ96 ((a1 + 1) + 4 + 2 * z3) 3 = 0; omega) (by show σ96 ((a1 + 1) + 4 + 2 * z3) 7 = 0; omega))))) ?_))
      intro z105 σ107 h106
      have f108 : ∀ k j : Int, ¬ (k = 3 ∨ k = ((a1 + 1) + 4 + 2 * z3) ∨ k = ((a1 + 1) + 4 + 2 * z3) + 1) → σ107 k j = σ96 k j := h106.2.2.2.2.2.2
      have h109 : σ107 3 0 = 2 := h106.1
      have h110 : σ107 3 3 ≤ σ107 3 4 := h106.2.1
      have h111 : σ107 3 4 ≤ σ107 3 1 := h106.2.2.1
      have h112 : σ107 3 6 = 0 → 1 ≤ σ107 ((a1 + 1) + 4 + 2 * z3) 3 := h106.2.2.2.1
      have h113 : σ107 ((a1 + 1) + 4 + 2 * z3) 1 = σ96 ((a1 + 1) + 4 + 2 * z3) 1 := h106.2.2.2.2.1
      have h114 : σ96 3 6 ≠ 0 → σ107 3 6 ≠ 0 := h106.2.2.2.2.2.1
      intro z115 ez115 hz115
      have hz115 : (0 : Int) ≤ z115 ∧ z115 ≤ (3 : Int) := hz115
      refine And.intro (fun h116 => ?_) (fun h116 => ?_)
      · skip
        refine B rfl ?_
        intro z117 ez117 hz117
        have q118 : z115 = z117 := ez115.trans ez117.symm
        subst q118
        refine And.intro (fun h119 => ?_) (fun h119 => ?_)
        · skip
          refine B rfl ?_
          refine Exists.intro 0 (And.intro rfl ?_)
          try have t120 : σ107 a1 2 = σ a1 2 := ((f108 _ _ (by omega)).trans ((f97 _ _ (by omega)).trans ((ups_r e88 (by omega)).trans ((f82 _ _ (by omega)).trans ((f70 _ _ (by omega)).trans ((ups_r e61 (by omega)).trans ((f55 _ _ (by omega)).trans ((f47 _ _ (by omega)).trans ((ups_r e38 (by omega)).trans ((f32 _ _ (by omega)).trans ((f24 _ _ (by omega)).trans (f10 _ _ (by omega)))))))))))))
          exact (And.intro (by show σ107 3 0 = 2; omega) (And.intro (by show σ107 3 3 ≤ σ107 3 4; omega) (And.intro (by show σ107 3 4 ≤ σ107 3 1; omega) (And.intro (by show LG σ107 a1; intro i h0 h2 h1; by_cases hi : i = z3; subst hi; omega; rw [show σ107 (a1 + 1 + 4 + 2 * i) 3 = σ (a1 + 1 + 4 + 2 * i) 3 from ((f108 _ _ (by omega)).trans ((f97 _ _ (by omega)).trans ((ups_r e88 (by omega)).trans ((f82 _ _ (by omega)).trans ((f70 _ _ (by omega)).trans ((ups_r e61 (by omega)).trans ((f55 _ _ (by omega)).trans ((f47 _ _ (by omega)).trans ((ups_r e38 (by omega)).trans ((f32 _ _ (by omega)).trans ((f24 _ _ (by omega)).trans (f10 _ _ (by omega))))))))))))), show σ107 (a1 + 1 + 4 + 2 * i) 1 = σ (a1 + 1 + 4 + 2 * i) 1 from ((f108 _ _ (by omega)).trans ((f97 _ _ (by omega)).trans ((ups_r e88 (by omega)).trans ((f82 _ _ (by omega)).trans ((f70 _ _ (by omega)).trans ((ups_r e61 (by omega)).trans ((f55 _ _ (by omega)).trans ((f47 _ _ (by omega)).trans ((ups_r e38 (by omega)).trans ((f32 _ _ (by omega)).trans ((f24 _ _ (by omega)).trans (f10 _ _ (by omega)))))))))))))]; exact hp3 i h0 h2 (by omega)) (And.intro (by show σ 3 6 ≠ 0 → σ107 3 6 ≠ 0; omega) (And.intro (by show ∀ j : Int, j ≠ 2 → σ107 a1 j = σ a1 j; intro j hj0; exact ((f108 _ _ (by omega)).trans ((f97 _ _ (by omega)).trans ((ups_r e88 (by omega)).trans ((f82 _ _ (by omega)).trans ((f70 _ _ (by omega)).trans ((ups_r e61 (by omega)).trans ((f55 _ _ (by omega)).trans ((f47 _ _ (by omega)).trans ((ups_r e38 (by omega)).trans ((f32 _ _ (by omega)).trans ((f24 _ _ (by omega)).trans (f10 _ _ (by omega)))))))))))))) (fun k j hk => ((f108 _ _ (by omega)).trans ((f97 _ _ (by omega)).trans ((ups_r e88 (by omega)).trans ((f82 _ _ (by omega)).trans ((f70 _ _ (by omega)).trans ((ups_r e61 (by omega)).trans ((f55 _ _ (by omega)).trans ((f47 _ _ (by omega)).trans ((ups_r e38 (by omega)).trans ((f32 _ _ (by omega)).trans ((f24 _ _ (by omega)).trans (f10 _ _ (by omega))))))))))))))))))))
        · skip
          show WP_ X G Q 0 0 ad SHS_ σ107 175 [(13, 3), (15, a1), (20, (a1 + 1) + 4 + 2 * z3)] []
          refine B rfl ?_
          intro z121 ez121 hz121
          have hz121 : (0 : Int) ≤ z121 ∧ z121 ≤ (3 : Int) := hz121
          try have t122 : σ107 a1 2 = σ a1 2 := ((f108 _ _ (by omega)).trans ((f97 _ _ (by omega)).trans ((ups_r e88 (by omega)).trans ((f82 _ _ (by omega)).trans ((f70 _ _ (by omega)).trans ((ups_r e61 (by omega)).trans ((f55 _ _ (by omega)).trans ((f47 _ _ (by omega)).trans ((ups_r e38 (by omega)).trans ((f32 _ _ (by omega)).trans ((f24 _ _ (by omega)).trans (f10 _ _ (by omega)))))))))))))
          refine And.intro (by omega) ?_
          refine And.intro (by omega) ?_
          intro σ123 e124
          refine Exists.intro 0 (And.intro rfl ?_)
          try have t125 : σ123 3 0 = σ107 3 0 := (ups_r e124 (by omega))
          try have t126 : σ123 3 3 = σ107 3 3 := (ups_r e124 (by omega))
          try have t127 : σ123 3 4 = σ107 3 4 := (ups_r e124 (by omega))
          try have t128 : σ123 3 1 = σ107 3 1 := (ups_r e124 (by omega))
          have t129 : σ123 a1 2 = z121 + 1 := ups_v e124
          try have t130 : σ123 ((a1 + 1) + 4 + 2 * z3) 3 = σ107 ((a1 + 1) + 4 + 2 * z3) 3 := (ups_r e124 (by omega))
          try have t131 : σ123 ((a1 + 1) + 4 + 2 * z3) 1 = σ107 ((a1 + 1) + 4 + 2 * z3) 1 := (ups_r e124 (by omega))
          try have t132 : σ123 3 6 = σ107 3 6 := (ups_r e124 (by omega))
          exact (And.intro (by show σ123 3 0 = 2; omega) (And.intro (by show σ123 3 3 ≤ σ123 3 4; omega) (And.intro (by show σ123 3 4 ≤ σ123 3 1; omega) (And.intro (by show LG σ123 a1; intro i h0 h2 h1; by_cases hi : i = z3; subst hi; omega; rw [show σ123 (a1 + 1 + 4 + 2 * i) 3 = σ (a1 + 1 + 4 + 2 * i) 3 from ((ups_r e124 (by omega)).trans ((f108 _ _ (by omega)).trans ((f97 _ _ (by omega)).trans ((ups_r e88 (by omega)).trans ((f82 _ _ (by omega)).trans ((f70 _ _ (by omega)).trans ((ups_r e61 (by omega)).trans ((f55 _ _ (by omega)).trans ((f47 _ _ (by omega)).trans ((ups_r e38 (by omega)).trans ((f32 _ _ (by omega)).trans ((f24 _ _ (by omega)).trans (f10 _ _ (by omega)))))))))))))), show σ123 (a1 + 1 + 4 + 2 * i) 1 = σ (a1 + 1 + 4 + 2 * i) 1 from ((ups_r e124 (by omega)).trans ((f108 _ _ (by omega)).trans ((f97 _ _ (by omega)).trans ((ups_r e88 (by omega)).trans ((f82 _ _ (by omega)).trans ((f70 _ _ (by omega)).trans ((ups_r e61 (by omega)).trans ((f55 _ _ (by omega)).trans ((f47 _ _ (by omega)).trans ((ups_r e38 (by omega)).trans ((f32 _ _ (by omega)).trans ((f24 _ _ (by omega)).trans (f10 _ _ (by omega))))))))))))))]; exact hp3 i h0 h2 (by omega)) (And.intro (by show σ 3 6 ≠ 0 → σ123 3 6 ≠ 0; omega) (And.intro (by show ∀ j : Int, j ≠ 2 → σ123 a1 j = σ a1 j; intro j hj0; exact ((ups_r e124 (by omega)).trans ((f108 _ _ (by omega)).trans ((f97 _ _ (by omega)).trans ((ups_r e88 (by omega)).trans ((f82 _ _ (by omega)).trans ((f70 _ _ (by omega)).trans ((ups_r e61 (by omega)).trans ((f55 _ _ (by omega)).trans ((f47 _ _ (by omega)).trans ((ups_r e38 (by omega)).trans ((f32 _ _ (by omega)).trans ((f24 _ _ (by omega)).trans (f10 _ _ (by omega))))))))))))))) (fun k j hk => ((ups_r e124 (by omega)).trans ((f108 _ _ (by omega)).trans ((f97 _ _ (by omega)).trans ((ups_r e88 (by omega)).trans ((f82 _ _ (by omega)).trans ((f70 _ _ (by omega)).trans ((ups_r e61 (by omega)).trans ((f55 _ _ (by omega)).trans ((f47 _ _ (by omega)).trans ((ups_r e38 (by omega)).trans ((f32 _ _ (by omega)).trans ((f24 _ _ (by omega)).trans (f10 _ _ (by omega)))))))))))))))))))))
      · skip
        show WP_ X G Q 0 0 ad SHS_ σ107 106 [(13, 3), (15, a1), (20, (a1 + 1) + 4 + 2 * z3)] []
        refine B rfl ?_
        show WP_ X G Q 0 0 ad SHS_ σ107 107 [(13, 3), (15, a1), (20, (a1 + 1) + 4 + 2 * z3)] [(13, 3)]
        refine so_ldcs (n := 134) (i := 7) (tx := "leap") E (eX3_readLand (107, .ldc 134, 2) (List.mem_of_getElem? (i := 58) rfl)) (by decide) ?_
        refine B rfl ?_
        refine Exists.intro 8 (And.intro rfl (And.intro (And.intro (by show σ107 3 0 = 2; omega) (And.intro (by show σ107 3 3 ≤ σ107 3 4; omega) (And.intro (by show σ107 3 4 ≤ σ107 3 1; omega) (by show 1 ≤ 8 ∧ 8 ≤ 14; omega)))) ?_))
        rintro z133 m_ h134
        obtain rfl : σ107 = m_ := h134.2
        have h135 : 0 ≤ z133 ∧ z133 ≤ 1 := h134.1
        refine And.intro (fun h136 => ?_) (fun h136 => ?_)
        · skip
          refine B rfl ?_
          intro z137 ez137 hz137
          have q138 : z115 = z137 := ez115.trans ez137.symm
          subst q138
          refine And.intro (fun h139 => ?_) (fun h139 => ?_)
          · skip
            refine B rfl ?_
            refine Exists.intro 0 (And.intro rfl ?_)
            try have t140 : σ107 a1 2 = σ a1 2 := ((f108 _ _ (by omega)).trans ((f97 _ _ (by omega)).trans ((ups_r e88 (by omega)).trans ((f82 _ _ (by omega)).trans ((f70 _ _ (by omega)).trans ((ups_r e61 (by omega)).trans ((f55 _ _ (by omega)).trans ((f47 _ _ (by omega)).trans ((ups_r e38 (by omega)).trans ((f32 _ _ (by omega)).trans ((f24 _ _ (by omega)).trans (f10 _ _ (by omega)))))))))))))
            exact (And.intro (by show σ107 3 0 = 2; omega) (And.intro (by show σ107 3 3 ≤ σ107 3 4; omega) (And.intro (by show σ107 3 4 ≤ σ107 3 1; omega) (And.intro (by show LG σ107 a1; intro i h0 h2 h1; by_cases hi : i = z3; subst hi; omega; rw [show σ107 (a1 + 1 + 4 + 2 * i) 3 = σ (a1 + 1 + 4 + 2 * i) 3 from ((f108 _ _ (by omega)).trans ((f97 _ _ (by omega)).trans ((ups_r e88 (by omega)).trans ((f82 _ _ (by omega)).trans ((f70 _ _ (by omega)).trans ((ups_r e61 (by omega)).trans ((f55 _ _ (by omega)).trans ((f47 _ _ (by omega)).trans ((ups_r e38 (by omega)).trans ((f32 _ _ (by omega)).trans ((f24 _ _ (by omega)).trans (f10 _ _ (by omega))))))))))))), show σ107 (a1 + 1 + 4 + 2 * i) 1 = σ (a1 + 1 + 4 + 2 * i) 1 from ((f108 _ _ (by omega)).trans ((f97 _ _ (by omega)).trans ((ups_r e88 (by omega)).trans ((f82 _ _ (by omega)).trans ((f70 _ _ (by omega)).trans ((ups_r e61 (by omega)).trans ((f55 _ _ (by omega)).trans ((f47 _ _ (by omega)).trans ((ups_r e38 (by omega)).trans ((f32 _ _ (by omega)).trans ((f24 _ _ (by omega)).trans (f10 _ _ (by omega)))))))))))))]; exact hp3 i h0 h2 (by omega)) (And.intro (by show σ 3 6 ≠ 0 → σ107 3 6 ≠ 0; omega) (And.intro (by show ∀ j : Int, j ≠ 2 → σ107 a1 j = σ a1 j; intro j hj0; exact ((f108 _ _ (by omega)).trans ((f97 _ _ (by omega)).trans ((ups_r e88 (by omega)).trans ((f82 _ _ (by omega)).trans ((f70 _ _ (by omega)).trans ((ups_r e61 (by omega)).trans ((f55 _ _ (by omega)).trans ((f47 _ _ (by omega)).trans ((ups_r e38 (by omega)).trans ((f32 _ _ (by omega)).trans ((f24 _ _ (by omega)).trans (f10 _ _ (by omega)))))))))))))) (fun k j hk => ((f108 _ _ (by omega)).trans ((f97 _ _ (by omega)).trans ((ups_r e88 (by omega)).trans ((f82 _ _ (by omega)).trans ((f70 _ _ (by omega)).trans ((ups_r e61 (by omega)).trans ((f55 _ _ (by omega)).trans ((f47 _ _ (by omega)).trans ((ups_r e38 (by omega)).trans ((f32 _ _ (by omega)).trans ((f24 _ _ (by omega)).trans (f10 _ _ (by omega))))))))))))))))))))
          · skip
            show WP_ X G Q 0 0 ad SHS_ σ107 175 [(13, 3), (15, a1), (20, (a1 + 1) + 4 + 2 * z3)] []
            refine B rfl ?_
            intro z141 ez141 hz141
            have hz141 : (0 : Int) ≤ z141 ∧ z141 ≤ (3 : Int) := hz141
            try have t142 : σ107 a1 2 = σ a1 2 := ((f108 _ _ (by omega)).trans ((f97 _ _ (by omega)).trans ((ups_r e88 (by omega)).trans ((f82 _ _ (by omega)).trans ((f70 _ _ (by omega)).trans ((ups_r e61 (by omega)).trans ((f55 _ _ (by omega)).trans ((f47 _ _ (by omega)).trans ((ups_r e38 (by omega)).trans ((f32 _ _ (by omega)).trans ((f24 _ _ (by omega)).trans (f10 _ _ (by omega)))))))))))))
            refine And.intro (by omega) ?_
            refine And.intro (by omega) ?_
            intro σ143 e144
            refine Exists.intro 0 (And.intro rfl ?_)
            try have t145 : σ143 3 0 = σ107 3 0 := (ups_r e144 (by omega))
            try have t146 : σ143 3 3 = σ107 3 3 := (ups_r e144 (by omega))
            try have t147 : σ143 3 4 = σ107 3 4 := (ups_r e144 (by omega))
            try have t148 : σ143 3 1 = σ107 3 1 := (ups_r e144 (by omega))
            have t149 : σ143 a1 2 = z141 + 1 := ups_v e144
            try have t150 : σ143 ((a1 + 1) + 4 + 2 * z3) 3 = σ107 ((a1 + 1) + 4 + 2 * z3) 3 := (ups_r e144 (by omega))
            try have t151 : σ143 ((a1 + 1) + 4 + 2 * z3) 1 = σ107 ((a1 + 1) + 4 + 2 * z3) 1 := (ups_r e144 (by omega))
            try have t152 : σ143 3 6 = σ107 3 6 := (ups_r e144 (by omega))
            exact (And.intro (by show σ143 3 0 = 2; omega) (And.intro (by show σ143 3 3 ≤ σ143 3 4; omega) (And.intro (by show σ143 3 4 ≤ σ143 3 1; omega) (And.intro (by show LG σ143 a1; intro i h0 h2 h1; by_cases hi : i = z3; subst hi; omega; rw [show σ143 (a1 + 1 + 4 + 2 * i) 3 = σ (a1 + 1 + 4 + 2 * i) 3 from ((ups_r e144 (by omega)).trans ((f108 _ _ (by omega)).trans ((f97 _ _ (by omega)).trans ((ups_r e88 (by omega)).trans ((f82 _ _ (by omega)).trans ((f70 _ _ (by omega)).trans ((ups_r e61 (by omega)).trans ((f55 _ _ (by omega)).trans ((f47 _ _ (by omega)).trans ((ups_r e38 (by omega)).trans ((f32 _ _ (by omega)).trans ((f24 _ _ (by omega)).trans (f10 _ _ (by omega)))))))))))))), show σ143 (a1 + 1 + 4 + 2 * i) 1 = σ (a1 + 1 + 4 + 2 * i) 1 from ((ups_r e144 (by omega)).trans ((f108 _ _ (by omega)).trans ((f97 _ _ (by omega)).trans ((ups_r e88 (by omega)).trans ((f82 _ _ (by omega)).trans ((f70 _ _ (by omega)).trans ((ups_r e61 (by omega)).trans ((f55 _ _ (by omega)).trans ((f47 _ _ (by omega)).trans ((ups_r e38 (by omega)).trans ((f32 _ _ (by omega)).trans ((f24 _ _ (by omega)).trans (f10 _ _ (by omega))))))))))))))]; exact hp3 i h0 h2 (by omega)) (And.intro (by show σ 3 6 ≠ 0 → σ143 3 6 ≠ 0; omega) (And.intro (by show ∀ j : Int, j ≠ 2 → σ143 a1 j = σ a1 j; intro j hj0; exact ((ups_r e144 (by omega)).trans ((f108 _ _ (by omega)).trans ((f97 _ _ (by omega)).trans ((ups_r e88 (by omega)).trans ((f82 _ _ (by omega)).trans ((f70 _ _ (by omega)).trans ((ups_r e61 (by omega)).trans ((f55 _ _ (by omega)).trans ((f47 _ _ (by omega)).trans ((ups_r e38 (by omega)).trans ((f32 _ _ (by omega)).trans ((f24 _ _ (by omega)).trans (f10 _ _ (by omega))))))))))))))) (fun k j hk => ((ups_r e144 (by omega)).trans ((f108 _ _ (by omega)).trans ((f97 _ _ (by omega)).trans ((ups_r e88 (by omega)).trans ((f82 _ _ (by omega)).trans ((f70 _ _ (by omega)).trans ((ups_r e61 (by omega)).trans ((f55 _ _ (by omega)).trans ((f47 _ _ (by omega)).trans ((ups_r e38 (by omega)).trans ((f32 _ _ (by omega)).trans ((f24 _ _ (by omega)).trans (f10 _ _ (by omega)))))))))))))))))))))
        · skip
          show WP_ X G Q 0 0 ad SHS_ σ107 115 [(13, 3), (15, a1), (20, (a1 + 1) + 4 + 2 * z3)] []
          refine B rfl ?_
          refine Exists.intro () (And.intro rfl (And.intro (And.intro (by show σ107 3 0 = 2; omega) (by show σ107 3 4 ≤ σ107 3 1; omega)) ?_))
          intro z153 σ155 h154
          have f156 : ∀ k j : Int, ¬ (k = 3) → σ155 k j = σ107 k j := h154.2.2.2.2.2
          have h157 : σ155 3 0 = 2 := h154.1
          have h158 : σ155 3 3 ≤ σ155 3 4 := h154.2.1
          have h159 : σ155 3 4 ≤ σ155 3 1 := h154.2.2.1
          have h160 : σ155 3 1 = σ107 3 1 := h154.2.2.2.1
          have h161 : σ155 3 6 = σ107 3 6 := h154.2.2.2.2.1
          refine Exists.intro (2, 9) (And.intro rfl (And.intro (And.intro (by show σ155 3 0 = 2; omega) (And.intro (by show σ155 3 3 ≤ σ155 3 4; omega) (by show σ155 3 4 ≤ σ155 3 1; omega))) ?_))
          intro z162 σ164 h163
          have f165 : ∀ k j : Int, ¬ (k = 3) → σ164 k j = σ155 k j := h163.2.2.2.2
          have h166 : σ164 3 0 = 2 := h163.1
          have h167 : σ164 3 3 ≤ σ164 3 4 := h163.2.1
          have h168 : σ164 3 4 ≤ σ164 3 1 := h163.2.2.1
          have h169 : (σ164 3 6 = 0 ∧ σ155 3 6 = 0 ∧ 2 ≤ z162 ∧ z162 ≤ 9) ∨ (σ164 3 6 ≠ 0 ∧ z162 = 0) := h163.2.2.2.1
          refine And.intro (by omega) ?_
          intro σ170 e171
          show WP_ X G Q 0 0 ad SHS_ σ170 131 [(13, 3), (15, a1), (20, (a1 + 1) + 4 + 2 * z3)] [(13, 3)]
          refine so_ldcs (n := 138) (i := 8) (tx := "in") E (eX3_readLand (131, .ldc 138, 2) (List.mem_of_getElem? (i := 70) rfl)) (by decide) ?_
          refine B rfl ?_
          try have t172 : σ170 3 6 = σ164 3 6 := (ups_r e171 (by omega))
          try have t173 : σ170 3 0 = σ164 3 0 := (ups_r e171 (by omega))
          try have t174 : σ170 3 3 = σ164 3 3 := (ups_r e171 (by omega))
          try have t175 : σ170 3 4 = σ164 3 4 := (ups_r e171 (by omega))
          try have t176 : σ170 3 1 = σ164 3 1 := (ups_r e171 (by omega))
          refine Exists.intro 9 (And.intro rfl (And.intro (And.intro (by show σ170 3 0 = 2; omega) (And.intro (by show σ170 3 3 ≤ σ170 3 4; omega) (And.intro (by show σ170 3 4 ≤ σ170 3 1; omega) (by show 1 ≤ 9 ∧ 9 ≤ 14; omega)))) ?_))
          intro z177 σ179 h178
          have f180 : ∀ k j : Int, ¬ (k = 3) → σ179 k j = σ170 k j := h178.2.2.2.2
          have h181 : σ179 3 0 = 2 := h178.1
          have h182 : σ179 3 3 ≤ σ179 3 4 := h178.2.1
          have h183 : σ179 3 4 ≤ σ179 3 1 := h178.2.2.1
          have h184 : σ170 3 6 ≠ 0 → σ179 3 6 ≠ 0 := h178.2.2.2.1
          intro z185 ez185 hz185
          have hz185 : (0 : Int) ≤ z185 ∧ z185 ≤ (8 : Int) := hz185
          try have t186 : σ179 ((a1 + 1) + 4 + 2 * z3) 3 = σ107 ((a1 + 1) + 4 + 2 * z3) 3 := ((f180 _ _ (by omega)).trans ((ups_r e171 (by omega)).trans ((f165 _ _ (by omega)).trans (f156 _ _ (by omega)))))
          refine And.intro (by omega) ?_
          refine Exists.intro (0, z185 - 1) (And.intro rfl (And.intro (And.intro (by show σ179 3 0 = 2; omega) (And.intro (by show σ179 3 3 ≤ σ179 3 4; omega) (by show σ179 3 4 ≤ σ179 3 1; omega))) ?_))
          intro z187 σ189 h188
          have f190 : ∀ k j : Int, ¬ (k = 3) → σ189 k j = σ179 k j := h188.2.2.2.2
          have h191 : σ189 3 0 = 2 := h188.1
          have h192 : σ189 3 3 ≤ σ189 3 4 := h188.2.1
          have h193 : σ189 3 4 ≤ σ189 3 1 := h188.2.2.1
          have h194 : (σ189 3 6 = 0 ∧ σ179 3 6 = 0 ∧ 0 ≤ z187 ∧ z187 ≤ (z185 - 1)) ∨ (σ189 3 6 ≠ 0 ∧ z187 = 0) := h188.2.2.2.1
          refine And.intro (by omega) ?_
          intro σ195 e196
          show WP_ X G Q 0 0 ad SHS_ σ195 152 [(13, 3), (15, a1), (20, (a1 + 1) + 4 + 2 * z3)] [(13, 3)]
          refine so_ldcs (n := 146) (i := 9) (tx := "adds") E (eX3_readLand (152, .ldc 146, 2) (List.mem_of_getElem? (i := 82) rfl)) (by decide) ?_
          refine B rfl ?_
          try have t197 : σ195 3 6 = σ189 3 6 := (ups_r e196 (by omega))
          try have t198 : σ195 3 0 = σ189 3 0 := (ups_r e196 (by omega))
          try have t199 : σ195 3 3 = σ189 3 3 := (ups_r e196 (by omega))
          try have t200 : σ195 3 4 = σ189 3 4 := (ups_r e196 (by omega))
          try have t201 : σ195 3 1 = σ189 3 1 := (ups_r e196 (by omega))
          refine Exists.intro 10 (And.intro rfl (And.intro (And.intro (by show σ195 3 0 = 2; omega) (And.intro (by show σ195 3 3 ≤ σ195 3 4; omega) (And.intro (by show σ195 3 4 ≤ σ195 3 1; omega) (by show 1 ≤ 10 ∧ 10 ≤ 14; omega)))) ?_))
          intro z202 σ204 h203
          have f205 : ∀ k j : Int, ¬ (k = 3) → σ204 k j = σ195 k j := h203.2.2.2.2
          have h206 : σ204 3 0 = 2 := h203.1
          have h207 : σ204 3 3 ≤ σ204 3 4 := h203.2.1
          have h208 : σ204 3 4 ≤ σ204 3 1 := h203.2.2.1
          have h209 : σ195 3 6 ≠ 0 → σ204 3 6 ≠ 0 := h203.2.2.2.1
          refine Exists.intro (1, 9) (And.intro rfl (And.intro (And.intro (by show σ204 3 0 = 2; omega) (And.intro (by show σ204 3 3 ≤ σ204 3 4; omega) (by show σ204 3 4 ≤ σ204 3 1; omega))) ?_))
          intro z210 σ212 h211
          have f213 : ∀ k j : Int, ¬ (k = 3) → σ212 k j = σ204 k j := h211.2.2.2.2
          have h214 : σ212 3 0 = 2 := h211.1
          have h215 : σ212 3 3 ≤ σ212 3 4 := h211.2.1
          have h216 : σ212 3 4 ≤ σ212 3 1 := h211.2.2.1
          have h217 : (σ212 3 6 = 0 ∧ σ204 3 6 = 0 ∧ 1 ≤ z210 ∧ z210 ≤ 9) ∨ (σ212 3 6 ≠ 0 ∧ z210 = 0) := h211.2.2.2.1
          refine And.intro (by omega) ?_
          intro σ218 e219
          intro z220 ez220 hz220
          have hz220 : (0 : Int) ≤ z220 ∧ z220 ≤ (3 : Int) := hz220
          try have t221 : σ218 3 6 = σ212 3 6 := (ups_r e219 (by omega))
          refine And.intro (fun h222 => ?_) (fun h222 => ?_)
          · skip
            refine B rfl ?_
            refine Exists.intro 0 (And.intro rfl ?_)
            try have t223 : σ218 3 0 = σ212 3 0 := (ups_r e219 (by omega))
            try have t224 : σ218 3 3 = σ212 3 3 := (ups_r e219 (by omega))
            try have t225 : σ218 3 4 = σ212 3 4 := (ups_r e219 (by omega))
            try have t226 : σ218 3 1 = σ212 3 1 := (ups_r e219 (by omega))
            try have t227 : σ218 a1 2 = σ a1 2 := ((ups_r e219 (by omega)).trans ((f213 _ _ (by omega)).trans ((f205 _ _ (by omega)).trans ((ups_r e196 (by omega)).trans ((f190 _ _ (by omega)).trans ((f180 _ _ (by omega)).trans ((ups_r e171 (by omega)).trans ((f165 _ _ (by omega)).trans ((f156 _ _ (by omega)).trans ((f108 _ _ (by omega)).trans ((f97 _ _ (by omega)).trans ((ups_r e88 (by omega)).trans ((f82 _ _ (by omega)).trans ((f70 _ _ (by omega)).trans ((ups_r e61 (by omega)).trans ((f55 _ _ (by omega)).trans ((f47 _ _ (by omega)).trans ((ups_r e38 (by omega)).trans ((f32 _ _ (by omega)).trans ((f24 _ _ (by omega)).trans (f10 _ _ (by omega))))))))))))))))))))))
            try have t228 : σ218 ((a1 + 1) + 4 + 2 * z3) 3 = σ179 ((a1 + 1) + 4 + 2 * z3) 3 := ((ups_r e219 (by omega)).trans ((f213 _ _ (by omega)).trans ((f205 _ _ (by omega)).trans ((ups_r e196 (by omega)).trans (f190 _ _ (by omega))))))
            try have t229 : σ218 ((a1 + 1) + 4 + 2 * z3) 1 = σ107 ((a1 + 1) + 4 + 2 * z3) 1 := ((ups_r e219 (by omega)).trans ((f213 _ _ (by omega)).trans ((f205 _ _ (by omega)).trans ((ups_r e196 (by omega)).trans ((f190 _ _ (by omega)).trans ((f180 _ _ (by omega)).trans ((ups_r e171 (by omega)).trans ((f165 _ _ (by omega)).trans (f156 _ _ (by omega))))))))))
            exact (And.intro (by show σ218 3 0 = 2; omega) (And.intro (by show σ218 3 3 ≤ σ218 3 4; omega) (And.intro (by show σ218 3 4 ≤ σ218 3 1; omega) (And.intro (by show LG σ218 a1; intro i h0 h2 h1; by_cases hi : i = z3; subst hi; omega; rw [show σ218 (a1 + 1 + 4 + 2 * i) 3 = σ (a1 + 1 + 4 + 2 * i) 3 from ((ups_r e219 (by omega)).trans ((f213 _ _ (by omega)).trans ((f205 _ _ (by omega)).trans ((ups_r e196 (by omega)).trans ((f190 _ _ (by omega)).trans ((f180 _ _ (by omega)).trans ((ups_r e171 (by omega)).trans ((f165 _ _ (by omega)).trans ((f156 _ _ (by omega)).trans ((f108 _ _ (by omega)).trans ((f97 _ _ (by omega)).trans ((ups_r e88 (by omega)).trans ((f82 _ _ (by omega)).trans ((f70 _ _ (by omega)).trans ((ups_r e61 (by omega)).trans ((f55 _ _ (by omega)).trans ((f47 _ _ (by omega)).trans ((ups_r e38 (by omega)).trans ((f32 _ _ (by omega)).trans ((f24 _ _ (by omega)).trans (f10 _ _ (by omega)))))))))))))))))))))), show σ218 (a1 + 1 + 4 + 2 * i) 1 = σ (a1 + 1 + 4 + 2 * i) 1 from ((ups_r e219 (by omega)).trans ((f213 _ _ (by omega)).trans ((f205 _ _ (by omega)).trans ((ups_r e196 (by omega)).trans ((f190 _ _ (by omega)).trans ((f180 _ _ (by omega)).trans ((ups_r e171 (by omega)).trans ((f165 _ _ (by omega)).trans ((f156 _ _ (by omega)).trans ((f108 _ _ (by omega)).trans ((f97 _ _ (by omega)).trans ((ups_r e88 (by omega)).trans ((f82 _ _ (by omega)).trans ((f70 _ _ (by omega)).trans ((ups_r e61 (by omega)).trans ((f55 _ _ (by omega)).trans ((f47 _ _ (by omega)).trans ((ups_r e38 (by omega)).trans ((f32 _ _ (by omega)).trans ((f24 _ _ (by omega)).trans (f10 _ _ (by omega))))))))))))))))))))))]; exact hp3 i h0 h2 (by omega)) (And.intro (by show σ 3 6 ≠ 0 → σ218 3 6 ≠ 0; omega) (And.intro (by show ∀ j : Int, j ≠ 2 → σ218 a1 j = σ a1 j; intro j hj0; exact ((ups_r e219 (by omega)).trans ((f213 _ _ (by omega)).trans ((f205 _ _ (by omega)).trans ((ups_r e196 (by omega)).trans ((f190 _ _ (by omega)).trans ((f180 _ _ (by omega)).trans ((ups_r e171 (by omega)).trans ((f165 _ _ (by omega)).trans ((f156 _ _ (by omega)).trans ((f108 _ _ (by omega)).trans ((f97 _ _ (by omega)).trans ((ups_r e88 (by omega)).trans ((f82 _ _ (by omega)).trans ((f70 _ _ (by omega)).trans ((ups_r e61 (by omega)).trans ((f55 _ _ (by omega)).trans ((f47 _ _ (by omega)).trans ((ups_r e38 (by omega)).trans ((f32 _ _ (by omega)).trans ((f24 _ _ (by omega)).trans (f10 _ _ (by omega))))))))))))))))))))))) (fun k j hk => ((ups_r e219 (by omega)).trans ((f213 _ _ (by omega)).trans ((f205 _ _ (by omega)).trans ((ups_r e196 (by omega)).trans ((f190 _ _ (by omega)).trans ((f180 _ _ (by omega)).trans ((ups_r e171 (by omega)).trans ((f165 _ _ (by omega)).trans ((f156 _ _ (by omega)).trans ((f108 _ _ (by omega)).trans ((f97 _ _ (by omega)).trans ((ups_r e88 (by omega)).trans ((f82 _ _ (by omega)).trans ((f70 _ _ (by omega)).trans ((ups_r e61 (by omega)).trans ((f55 _ _ (by omega)).trans ((f47 _ _ (by omega)).trans ((ups_r e38 (by omega)).trans ((f32 _ _ (by omega)).trans ((f24 _ _ (by omega)).trans (f10 _ _ (by omega)))))))))))))))))))))))))))))
          · skip
            show WP_ X G Q 0 0 ad SHS_ σ218 175 [(13, 3), (15, a1), (20, (a1 + 1) + 4 + 2 * z3)] []
            refine B rfl ?_
            intro z230 ez230 hz230
            have hz230 : (0 : Int) ≤ z230 ∧ z230 ≤ (3 : Int) := hz230
            try have t231 : σ218 a1 2 = σ a1 2 := ((ups_r e219 (by omega)).trans ((f213 _ _ (by omega)).trans ((f205 _ _ (by omega)).trans ((ups_r e196 (by omega)).trans ((f190 _ _ (by omega)).trans ((f180 _ _ (by omega)).trans ((ups_r e171 (by omega)).trans ((f165 _ _ (by omega)).trans ((f156 _ _ (by omega)).trans ((f108 _ _ (by omega)).trans ((f97 _ _ (by omega)).trans ((ups_r e88 (by omega)).trans ((f82 _ _ (by omega)).trans ((f70 _ _ (by omega)).trans ((ups_r e61 (by omega)).trans ((f55 _ _ (by omega)).trans ((f47 _ _ (by omega)).trans ((ups_r e38 (by omega)).trans ((f32 _ _ (by omega)).trans ((f24 _ _ (by omega)).trans (f10 _ _ (by omega))))))))))))))))))))))
            refine And.intro (by omega) ?_
            refine And.intro (by omega) ?_
            intro σ232 e233
            refine Exists.intro 0 (And.intro rfl ?_)
            try have t234 : σ232 3 0 = σ212 3 0 := ((ups_r e233 (by omega)).trans (ups_r e219 (by omega)))
            try have t235 : σ232 3 3 = σ212 3 3 := ((ups_r e233 (by omega)).trans (ups_r e219 (by omega)))
            try have t236 : σ232 3 4 = σ212 3 4 := ((ups_r e233 (by omega)).trans (ups_r e219 (by omega)))
            try have t237 : σ232 3 1 = σ212 3 1 := ((ups_r e233 (by omega)).trans (ups_r e219 (by omega)))
            have t238 : σ232 a1 2 = z230 + 1 := ups_v e233
            try have t239 : σ232 ((a1 + 1) + 4 + 2 * z3) 3 = σ179 ((a1 + 1) + 4 + 2 * z3) 3 := ((ups_r e233 (by omega)).trans ((ups_r e219 (by omega)).trans ((f213 _ _ (by omega)).trans ((f205 _ _ (by omega)).trans ((ups_r e196 (by omega)).trans (f190 _ _ (by omega)))))))
            try have t240 : σ232 ((a1 + 1) + 4 + 2 * z3) 1 = σ107 ((a1 + 1) + 4 + 2 * z3) 1 := ((ups_r e233 (by omega)).trans ((ups_r e219 (by omega)).trans ((f213 _ _ (by omega)).trans ((f205 _ _ (by omega)).trans ((ups_r e196 (by omega)).trans ((f190 _ _ (by omega)).trans ((f180 _ _ (by omega)).trans ((ups_r e171 (by omega)).trans ((f165 _ _ (by omega)).trans (f156 _ _ (by omega)))))))))))
            try have t241 : σ232 3 6 = σ218 3 6 := (ups_r e233 (by omega))
            exact (And.intro (by show σ232 3 0 = 2; omega) (And.intro (by show σ232 3 3 ≤ σ232 3 4; omega) (And.intro (by show σ232 3 4 ≤ σ232 3 1; omega) (And.intro (by show LG σ232 a1; intro i h0 h2 h1; by_cases hi : i = z3; subst hi; omega; rw [show σ232 (a1 + 1 + 4 + 2 * i) 3 = σ (a1 + 1 + 4 + 2 * i) 3 from ((ups_r e233 (by omega)).trans ((ups_r e219 (by omega)).trans ((f213 _ _ (by omega)).trans ((f205 _ _ (by omega)).trans ((ups_r e196 (by omega)).trans ((f190 _ _ (by omega)).trans ((f180 _ _ (by omega)).trans ((ups_r e171 (by omega)).trans ((f165 _ _ (by omega)).trans ((f156 _ _ (by omega)).trans ((f108 _ _ (by omega)).trans ((f97 _ _ (by omega)).trans ((ups_r e88 (by omega)).trans ((f82 _ _ (by omega)).trans ((f70 _ _ (by omega)).trans ((ups_r e61 (by omega)).trans ((f55 _ _ (by omega)).trans ((f47 _ _ (by omega)).trans ((ups_r e38 (by omega)).trans ((f32 _ _ (by omega)).trans ((f24 _ _ (by omega)).trans (f10 _ _ (by omega))))))))))))))))))))))), show σ232 (a1 + 1 + 4 + 2 * i) 1 = σ (a1 + 1 + 4 + 2 * i) 1 from ((ups_r e233 (by omega)).trans ((ups_r e219 (by omega)).trans ((f213 _ _ (by omega)).trans ((f205 _ _ (by omega)).trans ((ups_r e196 (by omega)).trans ((f190 _ _ (by omega)).trans ((f180 _ _ (by omega)).trans ((ups_r e171 (by omega)).trans ((f165 _ _ (by omega)).trans ((f156 _ _ (by omega)).trans ((f108 _ _ (by omega)).trans ((f97 _ _ (by omega)).trans ((ups_r e88 (by omega)).trans ((f82 _ _ (by omega)).trans ((f70 _ _ (by omega)).trans ((ups_r e61 (by omega)).trans ((f55 _ _ (by omega)).trans ((f47 _ _ (by omega)).trans ((ups_r e38 (by omega)).trans ((f32 _ _ (by omega)).trans ((f24 _ _ (by omega)).trans (f10 _ _ (by omega)))))))))))))))))))))))]; exact hp3 i h0 h2 (by omega)) (And.intro (by show σ 3 6 ≠ 0 → σ232 3 6 ≠ 0; omega) (And.intro (by show ∀ j : Int, j ≠ 2 → σ232 a1 j = σ a1 j; intro j hj0; exact ((ups_r e233 (by omega)).trans ((ups_r e219 (by omega)).trans ((f213 _ _ (by omega)).trans ((f205 _ _ (by omega)).trans ((ups_r e196 (by omega)).trans ((f190 _ _ (by omega)).trans ((f180 _ _ (by omega)).trans ((ups_r e171 (by omega)).trans ((f165 _ _ (by omega)).trans ((f156 _ _ (by omega)).trans ((f108 _ _ (by omega)).trans ((f97 _ _ (by omega)).trans ((ups_r e88 (by omega)).trans ((f82 _ _ (by omega)).trans ((f70 _ _ (by omega)).trans ((ups_r e61 (by omega)).trans ((f55 _ _ (by omega)).trans ((f47 _ _ (by omega)).trans ((ups_r e38 (by omega)).trans ((f32 _ _ (by omega)).trans ((f24 _ _ (by omega)).trans (f10 _ _ (by omega)))))))))))))))))))))))) (fun k j hk => ((ups_r e233 (by omega)).trans ((ups_r e219 (by omega)).trans ((f213 _ _ (by omega)).trans ((f205 _ _ (by omega)).trans ((ups_r e196 (by omega)).trans ((f190 _ _ (by omega)).trans ((f180 _ _ (by omega)).trans ((ups_r e171 (by omega)).trans ((f165 _ _ (by omega)).trans ((f156 _ _ (by omega)).trans ((f108 _ _ (by omega)).trans ((f97 _ _ (by omega)).trans ((ups_r e88 (by omega)).trans ((f82 _ _ (by omega)).trans ((f70 _ _ (by omega)).trans ((ups_r e61 (by omega)).trans ((f55 _ _ (by omega)).trans ((f47 _ _ (by omega)).trans ((ups_r e38 (by omega)).trans ((f32 _ _ (by omega)).trans ((f24 _ _ (by omega)).trans (f10 _ _ (by omega))))))))))))))))))))))))))))))
    · skip
      show WP_ X G Q 0 0 ad SHS_ σ 15 [(13, 3), (15, a1), (9, 0)] []
      refine B rfl ?_
      refine Exists.intro 0 (And.intro rfl ?_)
      exact (And.intro (by show σ 3 0 = 2; omega) (And.intro (by show σ 3 3 ≤ σ 3 4; omega) (And.intro (by show σ 3 4 ≤ σ 3 1; omega) (And.intro (by show LG σ a1; exact hp3) (And.intro (by show σ 3 6 ≠ 0 → σ 3 6 ≠ 0; omega) (And.intro (by show ∀ j : Int, j ≠ 2 → σ a1 j = σ a1 j; intro j hj0; exact rfl) (fun k j hk => rfl)))))))
def as_G_X3_readFeast : Int → List Sv_t := fun a => [(13, 3), (15, a)]
def pre_G_X3_readFeast : Int → Me_t → Prop := fun a σ => (σ 3 0 = 2) ∧ (σ 3 3 ≤ σ 3 4) ∧ (σ 3 4 ≤ σ 3 1) ∧ (σ a 3 ≤ 11 ∨ σ 3 6 ≠ 0)
def post_G_X3_readFeast : Int → Me_t → Int → Me_t → Prop := fun a σ z σ' => (σ' 3 0 = 2) ∧ (σ' 3 3 ≤ σ' 3 4) ∧ (σ' 3 4 ≤ σ' 3 1) ∧ (σ 3 6 ≠ 0 → σ' 3 6 ≠ 0) ∧ (∀ j : Int, j ≠ 3 → σ' a j = σ a j) ∧ (∀ k j : Int, ¬ (k = 3 ∨ k = a ∨ k = a + 2) → σ' k j = σ k j)
set_option maxHeartbeats 2000000 in
set_option maxRecDepth 100000 in
theorem ct_G_X3_readFeast (l : Launch) : CT_ l yX3_readFeast cX3_readFeast 6 none 7 149 as_G_X3_readFeast (rmV_) pre_G_X3_readFeast post_G_X3_readFeast := by
  refine ct_of (by decide) (fun _ => Nat.le_of_ble_eq_true rfl) ?_
  intro X G Q ad σ a hl hR E hG R hM hv hp
  obtain ⟨a1, rfl⟩ : ∃ q : Int, q = a := ⟨_, rfl⟩
  have k_a1 : isWar_ a1 := tvWar_ (hv (15, a1) (List.mem_of_getElem? (i := 1) rfl))
  have r_a1 : 5 ≤ a1 ∧ a1 ≤ 67 := by unfold isWar_ at k_a1; omega
  have hp0 : σ 3 0 = 2 := hp.1
  have hp1 : σ 3 3 ≤ σ 3 4 := hp.2.1
  have hp2 : σ 3 4 ≤ σ 3 1 := hp.2.2.1
  have hp3 : σ a1 3 ≤ 11 ∨ σ 3 6 ≠ 0 := hp.2.2.2
  have B := @bk_ X G Q 0 0 ad SHS_ RX3 cX3_readFeast 6 none flX3 plX3 knX3 [(206, 3, TR_ as_G_X3_needNumber (rmI_) pre_G_X3_needNumber post_G_X3_needNumber), (198, 2, TR_ as_G_X3_needWord (rmV_) pre_G_X3_needWord post_G_X3_needWord), (318, 6, TR_ as_G_X9_insertFeast (rmV_) pre_G_X9_insertFeast post_G_X9_insertFeast)] _ _ none kX3_readFeast [7, 58, 79] flX3_ok plX3_ok knX3_ok eX3_readFeast oX3_readFeast
    (List.forall_mem_cons.mpr ⟨cok_v (t := 3) (c := 3) (N := 8) (n := 2) (idx := 103) E (ct_G_X3_needNumber X.2.1) (by rw [hR]; decide) (Nat.zero_le _) (Nat.zero_le _) hG rfl rfl ⟨rfl, by decide, by decide, by decide⟩ (fun _ => ⟨_, _, rfl, rfl⟩) wl_X3_103 wi_X3_needNumber ws_X3_needNumber wn_X3 wc_X3_needNumber, List.forall_mem_cons.mpr ⟨cok_v (t := 3) (c := 3) (N := 8) (n := 1) (idx := 99) E (ct_G_X3_needWord X.2.1) (by rw [hR]; decide) (Nat.zero_le _) (Nat.zero_le _) hG rfl rfl ⟨rfl, by decide, by decide, by decide⟩ (fun _ => ⟨_, _, rfl, rfl⟩) wl_X3_99 wi_X3_needWord ws_X3_needWord wn_X3 wc_X3_needWord, List.forall_mem_cons.mpr ⟨cok_v (t := 5) (c := 9) (N := 10) (n := 5) (idx := 159) E (ct_G_X9_insertFeast X.2.1) (by rw [hR]; decide) (Nat.zero_le _) (Nat.zero_le _) hG rfl rfl ⟨rfl, by decide, by decide, by decide⟩ (fun _ => ⟨_, _, rfl, rfl⟩) wl_X3_159 wi_X9_insertFeast ws_X9_insertFeast wn_X9 wc_X9_insertFeast, fun _ h => absurd h List.not_mem_nil⟩⟩⟩) R sok_no E
  show WP_ X G Q 0 0 ad SHS_ σ 0 [(13, 3), (15, a1), (9, 0), (9, 0), (9, 0), (9, 0)] []
  refine B rfl ?_
  intro z1 ez1 hz1
  have hz1 : (0 : Int) ≤ z1 ∧ z1 ≤ (3 : Int) := hz1
  refine And.intro (fun h2 => ?_) (fun h2 => ?_)
  · skip
    refine B rfl ?_
    intro z3 ez3 hz3
    have hz3 : (0 : Int) ≤ z3 ∧ z3 ≤ (3 : Int) := hz3
    refine And.intro (by omega) ?_
    refine Exists.intro (0, z3 - 1) (And.intro rfl (And.intro (And.intro (by show σ 3 0 = 2; omega) (And.intro (by show σ 3 3 ≤ σ 3 4; omega) (by show σ 3 4 ≤ σ 3 1; omega))) ?_))
    intro z4 σ6 h5
    have f7 : ∀ k j : Int, ¬ (k = 3) → σ6 k j = σ k j := h5.2.2.2.2
    have h8 : σ6 3 0 = 2 := h5.1
    have h9 : σ6 3 3 ≤ σ6 3 4 := h5.2.1
    have h10 : σ6 3 4 ≤ σ6 3 1 := h5.2.2.1
    have h11 : (σ6 3 6 = 0 ∧ σ 3 6 = 0 ∧ 0 ≤ z4 ∧ z4 ≤ (z3 - 1)) ∨ (σ6 3 6 ≠ 0 ∧ z4 = 0) := h5.2.2.2.1
    refine And.intro (by omega) ?_
    intro z12 ez12 hz12
    have hz12 : (0 : Int) ≤ z12 ∧ z12 ≤ (8 : Int) := hz12
    try have t13 : σ6 ((a1 + 1) + 4 + 2 * z4) 3 = σ ((a1 + 1) + 4 + 2 * z4) 3 := (f7 _ _ (by omega))
    refine And.intro (by omega) ?_
    refine Exists.intro (0, z12 - 1) (And.intro rfl (And.intro (And.intro (by show σ6 3 0 = 2; omega) (And.intro (by show σ6 3 3 ≤ σ6 3 4; omega) (by show σ6 3 4 ≤ σ6 3 1; omega))) ?_))
    intro z14 σ16 h15
    have f17 : ∀ k j : Int, ¬ (k = 3) → σ16 k j = σ6 k j := h15.2.2.2.2
    have h18 : σ16 3 0 = 2 := h15.1
    have h19 : σ16 3 3 ≤ σ16 3 4 := h15.2.1
    have h20 : σ16 3 4 ≤ σ16 3 1 := h15.2.2.1
    have h21 : (σ16 3 6 = 0 ∧ σ6 3 6 = 0 ∧ 0 ≤ z14 ∧ z14 ≤ (z12 - 1)) ∨ (σ16 3 6 ≠ 0 ∧ z14 = 0) := h15.2.2.2.1
    refine And.intro (by omega) ?_
    refine And.intro (by omega) ?_
    intro z22 ez22 hz22
    have hz22 : (0 : Int) ≤ z22 ∧ z22 ≤ (60 : Int) := hz22
    try have t23 : σ16 (((a1 + 1) + 4 + 2 * z4) + 1) z14 = σ (((a1 + 1) + 4 + 2 * z4) + 1) z14 := ((f17 _ _ (by omega)).trans (f7 _ _ (by omega)))
    refine And.intro (by omega) ?_
    refine Exists.intro (0, z22 - 1) (And.intro rfl (And.intro (And.intro (by show σ16 3 0 = 2; omega) (And.intro (by show σ16 3 3 ≤ σ16 3 4; omega) (by show σ16 3 4 ≤ σ16 3 1; omega))) ?_))
    intro z24 σ26 h25
    have f27 : ∀ k j : Int, ¬ (k = 3) → σ26 k j = σ16 k j := h25.2.2.2.2
    have h28 : σ26 3 0 = 2 := h25.1
    have h29 : σ26 3 3 ≤ σ26 3 4 := h25.2.1
    have h30 : σ26 3 4 ≤ σ26 3 1 := h25.2.2.1
    have h31 : (σ26 3 6 = 0 ∧ σ16 3 6 = 0 ∧ 0 ≤ z24 ∧ z24 ≤ (z22 - 1)) ∨ (σ26 3 6 ≠ 0 ∧ z24 = 0) := h25.2.2.2.1
    show WP_ X G Q 0 0 ad SHS_ σ26 58 [(13, 3), (15, a1), (0, z4), (0, z14), (0, z24), (9, 0)] [(13, 3)]
    refine so_ldcs (n := 157) (i := 11) (tx := "for") E (eX3_readFeast (58, .ldc 157, 2) (List.mem_of_getElem? (i := 37) rfl)) (by decide) ?_
    refine B rfl ?_
    refine Exists.intro 12 (And.intro rfl (And.intro (And.intro (by show σ26 3 0 = 2; omega) (And.intro (by show σ26 3 3 ≤ σ26 3 4; omega) (And.intro (by show σ26 3 4 ≤ σ26 3 1; omega) (by show 1 ≤ 12 ∧ 12 ≤ 14; omega)))) ?_))
    intro z32 σ34 h33
    have f35 : ∀ k j : Int, ¬ (k = 3) → σ34 k j = σ26 k j := h33.2.2.2.2
    have h36 : σ34 3 0 = 2 := h33.1
    have h37 : σ34 3 3 ≤ σ34 3 4 := h33.2.1
    have h38 : σ34 3 4 ≤ σ34 3 1 := h33.2.2.1
    have h39 : σ26 3 6 ≠ 0 → σ34 3 6 ≠ 0 := h33.2.2.2.1
    refine Exists.intro (1, 9) (And.intro rfl (And.intro (And.intro (by show σ34 3 0 = 2; omega) (And.intro (by show σ34 3 3 ≤ σ34 3 4; omega) (by show σ34 3 4 ≤ σ34 3 1; omega))) ?_))
    intro z40 σ42 h41
    have f43 : ∀ k j : Int, ¬ (k = 3) → σ42 k j = σ34 k j := h41.2.2.2.2
    have h44 : σ42 3 0 = 2 := h41.1
    have h45 : σ42 3 3 ≤ σ42 3 4 := h41.2.1
    have h46 : σ42 3 4 ≤ σ42 3 1 := h41.2.2.1
    have h47 : (σ42 3 6 = 0 ∧ σ34 3 6 = 0 ∧ 1 ≤ z40 ∧ z40 ≤ 9) ∨ (σ42 3 6 ≠ 0 ∧ z40 = 0) := h41.2.2.2.1
    intro z48 ez48 hz48
    have hz48 : (0 : Int) ≤ z48 ∧ z48 ≤ (3 : Int) := hz48
    refine And.intro (fun h49 => ?_) (fun h49 => ?_)
    · skip
      refine B rfl ?_
      refine Exists.intro 0 (And.intro rfl ?_)
      exact (And.intro (by show σ42 3 0 = 2; omega) (And.intro (by show σ42 3 3 ≤ σ42 3 4; omega) (And.intro (by show σ42 3 4 ≤ σ42 3 1; omega) (And.intro (by show σ 3 6 ≠ 0 → σ42 3 6 ≠ 0; omega) (And.intro (by show ∀ j : Int, j ≠ 3 → σ42 a1 j = σ a1 j; intro j hj0; exact ((f43 _ _ (by omega)).trans ((f35 _ _ (by omega)).trans ((f27 _ _ (by omega)).trans ((f17 _ _ (by omega)).trans (f7 _ _ (by omega))))))) (fun k j hk => ((f43 _ _ (by omega)).trans ((f35 _ _ (by omega)).trans ((f27 _ _ (by omega)).trans ((f17 _ _ (by omega)).trans (f7 _ _ (by omega))))))))))))
    · skip
      show WP_ X G Q 0 0 ad SHS_ σ42 79 [(13, 3), (15, a1), (0, z4), (0, z14), (0, z24), (0, z40)] []
      refine B rfl ?_
      intro z50 ez50 hz50
      have hz50 : (0 : Int) ≤ z50 ∧ z50 ≤ (12 : Int) := hz50
      try have t51 : σ42 a1 3 = σ a1 3 := ((f43 _ _ (by omega)).trans ((f35 _ _ (by omega)).trans ((f27 _ _ (by omega)).trans ((f17 _ _ (by omega)).trans (f7 _ _ (by omega))))))
      refine Exists.intro (a1, z50, z4, z14, z24, z40) (And.intro rfl (And.intro (And.intro (by show 0 ≤ z50; omega) (And.intro (by show z50 ≤ σ42 a1 3; omega) (And.intro (by show σ42 a1 3 ≤ 11; omega) (And.intro (by show 0 ≤ z4; omega) (And.intro (by show z4 ≤ 59; omega) (And.intro (by show 0 ≤ z14; omega) (And.intro (by show z14 ≤ 59; omega) (And.intro (by show 0 ≤ z24; omega) (And.intro (by show z24 ≤ 59; omega) (And.intro (by show 0 ≤ z40; omega) (by show z40 ≤ 59; omega))))))))))) ?_))
      intro z52 σ54 h53
      have f55 : ∀ k j : Int, ¬ (k = a1 ∨ k = a1 + 2) → σ54 k j = σ42 k j := h53.2.2
      have h56 : σ54 a1 3 = σ42 a1 3 + 1 := h53.1
      have h57 : ∀ j : Int, j ≠ 3 → σ54 a1 j = σ42 a1 j := h53.2.1
      refine Exists.intro 0 (And.intro rfl ?_)
      try have t58 : σ54 3 0 = σ42 3 0 := (show σ54 3 0 = σ42 3 0 from by first | exact f55 _ _ (by omega) | exact h57 _ (by omega))
      try have t59 : σ54 3 3 = σ42 3 3 := (show σ54 3 3 = σ42 3 3 from by first | exact f55 _ _ (by omega) | exact h57 _ (by omega))
      try have t60 : σ54 3 4 = σ42 3 4 := (show σ54 3 4 = σ42 3 4 from by first | exact f55 _ _ (by omega) | exact h57 _ (by omega))
      try have t61 : σ54 3 1 = σ42 3 1 := (show σ54 3 1 = σ42 3 1 from by first | exact f55 _ _ (by omega) | exact h57 _ (by omega))
      try have t62 : σ54 3 6 = σ42 3 6 := (show σ54 3 6 = σ42 3 6 from by first | exact f55 _ _ (by omega) | exact h57 _ (by omega))
      exact (And.intro (by show σ54 3 0 = 2; omega) (And.intro (by show σ54 3 3 ≤ σ54 3 4; omega) (And.intro (by show σ54 3 4 ≤ σ54 3 1; omega) (And.intro (by show σ 3 6 ≠ 0 → σ54 3 6 ≠ 0; omega) (And.intro (by show ∀ j : Int, j ≠ 3 → σ54 a1 j = σ a1 j; intro j hj0; exact ((show σ54 a1 j = σ42 a1 j from by first | exact f55 _ _ (by omega) | exact h57 _ (by omega)).trans ((f43 _ _ (by omega)).trans ((f35 _ _ (by omega)).trans ((f27 _ _ (by omega)).trans ((f17 _ _ (by omega)).trans (f7 _ _ (by omega)))))))) (fun k j hk => ((show σ54 k j = σ42 k j from by first | exact f55 _ _ (by omega) | exact h57 _ (by omega) | (by_cases hka : k = a1; (rw [hka]; exact h57 _ (by omega)); exact f55 _ _ (by omega))).trans ((f43 _ _ (by omega)).trans ((f35 _ _ (by omega)).trans ((f27 _ _ (by omega)).trans ((f17 _ _ (by omega)).trans (f7 _ _ (by omega)))))))))))))
  · skip
    show WP_ X G Q 0 0 ad SHS_ σ 7 [(13, 3), (15, a1), (9, 0), (9, 0), (9, 0), (9, 0)] []
    refine B rfl ?_
    refine Exists.intro 0 (And.intro rfl ?_)
    exact (And.intro (by show σ 3 0 = 2; omega) (And.intro (by show σ 3 3 ≤ σ 3 4; omega) (And.intro (by show σ 3 4 ≤ σ 3 1; omega) (And.intro (by show σ 3 6 ≠ 0 → σ 3 6 ≠ 0; omega) (And.intro (by show ∀ j : Int, j ≠ 3 → σ a1 j = σ a1 j; intro j hj0; exact rfl) (fun k j hk => rfl))))))
def as_G_X3_readTruce : Int → List Sv_t := fun a => [(13, 3), (15, a)]
def pre_G_X3_readTruce : Int → Me_t → Prop := fun a σ => (σ 3 0 = 2) ∧ (σ 3 3 ≤ σ 3 4) ∧ (σ 3 4 ≤ σ 3 1) ∧ (σ a 4 ≤ 11 ∨ σ 3 6 ≠ 0)
def post_G_X3_readTruce : Int → Me_t → Int → Me_t → Prop := fun a σ z σ' => (σ' 3 0 = 2) ∧ (σ' 3 3 ≤ σ' 3 4) ∧ (σ' 3 4 ≤ σ' 3 1) ∧ (σ 3 6 ≠ 0 → σ' 3 6 ≠ 0) ∧ (∀ j : Int, j ≠ 4 → σ' a j = σ a j) ∧ (∀ k j : Int, ¬ (k = 3 ∨ k = a ∨ k = a + 3) → σ' k j = σ k j)
set_option maxHeartbeats 2000000 in
set_option maxRecDepth 100000 in
theorem ct_G_X3_readTruce (l : Launch) : CT_ l yX3_readTruce cX3_readTruce 5 none 7 149 as_G_X3_readTruce (rmV_) pre_G_X3_readTruce post_G_X3_readTruce := by
  refine ct_of (by decide) (fun _ => Nat.le_of_ble_eq_true rfl) ?_
  intro X G Q ad σ a hl hR E hG R hM hv hp
  obtain ⟨a1, rfl⟩ : ∃ q : Int, q = a := ⟨_, rfl⟩
  have k_a1 : isWar_ a1 := tvWar_ (hv (15, a1) (List.mem_of_getElem? (i := 1) rfl))
  have r_a1 : 5 ≤ a1 ∧ a1 ≤ 67 := by unfold isWar_ at k_a1; omega
  have hp0 : σ 3 0 = 2 := hp.1
  have hp1 : σ 3 3 ≤ σ 3 4 := hp.2.1
  have hp2 : σ 3 4 ≤ σ 3 1 := hp.2.2.1
  have hp3 : σ a1 4 ≤ 11 ∨ σ 3 6 ≠ 0 := hp.2.2.2
  have B := @bk_ X G Q 0 0 ad SHS_ RX3 cX3_readTruce 5 none flX3 plX3 knX3 [(206, 3, TR_ as_G_X3_needNumber (rmI_) pre_G_X3_needNumber post_G_X3_needNumber), (198, 2, TR_ as_G_X3_needWord (rmV_) pre_G_X3_needWord post_G_X3_needWord), (330, 4, TR_ as_G_X9_appendTruce (rmV_) pre_G_X9_appendTruce post_G_X9_appendTruce)] _ _ none kX3_readTruce [21, 36] flX3_ok plX3_ok knX3_ok eX3_readTruce oX3_readTruce
    (List.forall_mem_cons.mpr ⟨cok_v (t := 3) (c := 3) (N := 8) (n := 2) (idx := 103) E (ct_G_X3_needNumber X.2.1) (by rw [hR]; decide) (Nat.zero_le _) (Nat.zero_le _) hG rfl rfl ⟨rfl, by decide, by decide, by decide⟩ (fun _ => ⟨_, _, rfl, rfl⟩) wl_X3_103 wi_X3_needNumber ws_X3_needNumber wn_X3 wc_X3_needNumber, List.forall_mem_cons.mpr ⟨cok_v (t := 3) (c := 3) (N := 8) (n := 1) (idx := 99) E (ct_G_X3_needWord X.2.1) (by rw [hR]; decide) (Nat.zero_le _) (Nat.zero_le _) hG rfl rfl ⟨rfl, by decide, by decide, by decide⟩ (fun _ => ⟨_, _, rfl, rfl⟩) wl_X3_99 wi_X3_needWord ws_X3_needWord wn_X3 wc_X3_needWord, List.forall_mem_cons.mpr ⟨cok_v (t := 5) (c := 9) (N := 10) (n := 3) (idx := 165) E (ct_G_X9_appendTruce X.2.1) (by rw [hR]; decide) (Nat.zero_le _) (Nat.zero_le _) hG rfl rfl ⟨rfl, by decide, by decide, by decide⟩ (fun _ => ⟨_, _, rfl, rfl⟩) wl_X3_165 wi_X9_appendTruce ws_X9_appendTruce wn_X9 wc_X9_appendTruce, fun _ h => absurd h List.not_mem_nil⟩⟩⟩) R sok_no E
  show WP_ X G Q 0 0 ad SHS_ σ 0 [(13, 3), (15, a1), (9, 0), (9, 0), (9, 0)] []
  refine B rfl ?_
  intro z1 ez1 hz1
  have hz1 : (0 : Int) ≤ z1 ∧ z1 ≤ (3 : Int) := hz1
  refine And.intro (fun h2 => ?_) (fun h2 => ?_)
  · skip
    refine B rfl ?_
    intro z3 ez3 hz3
    have hz3 : (0 : Int) ≤ z3 ∧ z3 ≤ (3 : Int) := hz3
    refine And.intro (by omega) ?_
    refine Exists.intro (0, z3 - 1) (And.intro rfl (And.intro (And.intro (by show σ 3 0 = 2; omega) (And.intro (by show σ 3 3 ≤ σ 3 4; omega) (by show σ 3 4 ≤ σ 3 1; omega))) ?_))
    intro z4 σ6 h5
    have f7 : ∀ k j : Int, ¬ (k = 3) → σ6 k j = σ k j := h5.2.2.2.2
    have h8 : σ6 3 0 = 2 := h5.1
    have h9 : σ6 3 3 ≤ σ6 3 4 := h5.2.1
    have h10 : σ6 3 4 ≤ σ6 3 1 := h5.2.2.1
    have h11 : (σ6 3 6 = 0 ∧ σ 3 6 = 0 ∧ 0 ≤ z4 ∧ z4 ≤ (z3 - 1)) ∨ (σ6 3 6 ≠ 0 ∧ z4 = 0) := h5.2.2.2.1
    show WP_ X G Q 0 0 ad SHS_ σ6 21 [(13, 3), (15, a1), (0, z4), (9, 0), (9, 0)] [(13, 3)]
    refine so_ldcs (n := 116) (i := 3) (tx := "from") E (eX3_readTruce (21, .ldc 116, 2) (List.mem_of_getElem? (i := 13) rfl)) (by decide) ?_
    refine B rfl ?_
    refine Exists.intro 4 (And.intro rfl (And.intro (And.intro (by show σ6 3 0 = 2; omega) (And.intro (by show σ6 3 3 ≤ σ6 3 4; omega) (And.intro (by show σ6 3 4 ≤ σ6 3 1; omega) (by show 1 ≤ 4 ∧ 4 ≤ 14; omega)))) ?_))
    intro z12 σ14 h13
    have f15 : ∀ k j : Int, ¬ (k = 3) → σ14 k j = σ6 k j := h13.2.2.2.2
    have h16 : σ14 3 0 = 2 := h13.1
    have h17 : σ14 3 3 ≤ σ14 3 4 := h13.2.1
    have h18 : σ14 3 4 ≤ σ14 3 1 := h13.2.2.1
    have h19 : σ6 3 6 ≠ 0 → σ14 3 6 ≠ 0 := h13.2.2.2.1
    refine Exists.intro (0, 1999) (And.intro rfl (And.intro (And.intro (by show σ14 3 0 = 2; omega) (And.intro (by show σ14 3 3 ≤ σ14 3 4; omega) (by show σ14 3 4 ≤ σ14 3 1; omega))) ?_))
    intro z20 σ22 h21
    have f23 : ∀ k j : Int, ¬ (k = 3) → σ22 k j = σ14 k j := h21.2.2.2.2
    have h24 : σ22 3 0 = 2 := h21.1
    have h25 : σ22 3 3 ≤ σ22 3 4 := h21.2.1
    have h26 : σ22 3 4 ≤ σ22 3 1 := h21.2.2.1
    have h27 : (σ22 3 6 = 0 ∧ σ14 3 6 = 0 ∧ 0 ≤ z20 ∧ z20 ≤ 1999) ∨ (σ22 3 6 ≠ 0 ∧ z20 = 0) := h21.2.2.2.1
    show WP_ X G Q 0 0 ad SHS_ σ22 36 [(13, 3), (15, a1), (0, z4), (0, z20), (9, 0)] [(13, 3)]
    refine so_ldcs (n := 163) (i := 13) (tx := "to") E (eX3_readTruce (36, .ldc 163, 2) (List.mem_of_getElem? (i := 21) rfl)) (by decide) ?_
    refine B rfl ?_
    refine Exists.intro 14 (And.intro rfl (And.intro (And.intro (by show σ22 3 0 = 2; omega) (And.intro (by show σ22 3 3 ≤ σ22 3 4; omega) (And.intro (by show σ22 3 4 ≤ σ22 3 1; omega) (by show 1 ≤ 14 ∧ 14 ≤ 14; omega)))) ?_))
    intro z28 σ30 h29
    have f31 : ∀ k j : Int, ¬ (k = 3) → σ30 k j = σ22 k j := h29.2.2.2.2
    have h32 : σ30 3 0 = 2 := h29.1
    have h33 : σ30 3 3 ≤ σ30 3 4 := h29.2.1
    have h34 : σ30 3 4 ≤ σ30 3 1 := h29.2.2.1
    have h35 : σ22 3 6 ≠ 0 → σ30 3 6 ≠ 0 := h29.2.2.2.1
    refine Exists.intro (z20, 1999) (And.intro rfl (And.intro (And.intro (by show σ30 3 0 = 2; omega) (And.intro (by show σ30 3 3 ≤ σ30 3 4; omega) (by show σ30 3 4 ≤ σ30 3 1; omega))) ?_))
    intro z36 σ38 h37
    have f39 : ∀ k j : Int, ¬ (k = 3) → σ38 k j = σ30 k j := h37.2.2.2.2
    have h40 : σ38 3 0 = 2 := h37.1
    have h41 : σ38 3 3 ≤ σ38 3 4 := h37.2.1
    have h42 : σ38 3 4 ≤ σ38 3 1 := h37.2.2.1
    have h43 : (σ38 3 6 = 0 ∧ σ30 3 6 = 0 ∧ z20 ≤ z36 ∧ z36 ≤ 1999) ∨ (σ38 3 6 ≠ 0 ∧ z36 = 0) := h37.2.2.2.1
    intro z44 ez44 hz44
    have hz44 : (0 : Int) ≤ z44 ∧ z44 ≤ (3 : Int) := hz44
    refine And.intro (fun h45 => ?_) (fun h45 => ?_)
    · skip
      refine B rfl ?_
      refine Exists.intro 0 (And.intro rfl ?_)
      exact (And.intro (by show σ38 3 0 = 2; omega) (And.intro (by show σ38 3 3 ≤ σ38 3 4; omega) (And.intro (by show σ38 3 4 ≤ σ38 3 1; omega) (And.intro (by show σ 3 6 ≠ 0 → σ38 3 6 ≠ 0; omega) (And.intro (by show ∀ j : Int, j ≠ 4 → σ38 a1 j = σ a1 j; intro j hj0; exact ((f39 _ _ (by omega)).trans ((f31 _ _ (by omega)).trans ((f23 _ _ (by omega)).trans ((f15 _ _ (by omega)).trans (f7 _ _ (by omega))))))) (fun k j hk => ((f39 _ _ (by omega)).trans ((f31 _ _ (by omega)).trans ((f23 _ _ (by omega)).trans ((f15 _ _ (by omega)).trans (f7 _ _ (by omega))))))))))))
    · skip
      try have t46 : σ38 a1 4 = σ a1 4 := ((f39 _ _ (by omega)).trans ((f31 _ _ (by omega)).trans ((f23 _ _ (by omega)).trans ((f15 _ _ (by omega)).trans (f7 _ _ (by omega))))))
      refine Exists.intro (a1, z4, z20, z36) (And.intro rfl (And.intro (And.intro (by show σ38 a1 4 ≤ 11; omega) (And.intro (by show 0 ≤ z4; omega) (And.intro (by show z4 ≤ 1999; omega) (And.intro (by show 0 ≤ z20; omega) (And.intro (by show z20 ≤ 1999; omega) (And.intro (by show 0 ≤ z36; omega) (by show z36 ≤ 1999; omega))))))) ?_))
      intro z47 σ49 h48
      have f50 : ∀ k j : Int, ¬ (k = a1 ∨ k = a1 + 3) → σ49 k j = σ38 k j := h48.2.2
      have h51 : σ49 a1 4 = σ38 a1 4 + 1 := h48.1
      have h52 : ∀ j : Int, j ≠ 4 → σ49 a1 j = σ38 a1 j := h48.2.1
      refine Exists.intro 0 (And.intro rfl ?_)
      try have t53 : σ49 3 0 = σ38 3 0 := (show σ49 3 0 = σ38 3 0 from by first | exact f50 _ _ (by omega) | exact h52 _ (by omega))
      try have t54 : σ49 3 3 = σ38 3 3 := (show σ49 3 3 = σ38 3 3 from by first | exact f50 _ _ (by omega) | exact h52 _ (by omega))
      try have t55 : σ49 3 4 = σ38 3 4 := (show σ49 3 4 = σ38 3 4 from by first | exact f50 _ _ (by omega) | exact h52 _ (by omega))
      try have t56 : σ49 3 1 = σ38 3 1 := (show σ49 3 1 = σ38 3 1 from by first | exact f50 _ _ (by omega) | exact h52 _ (by omega))
      try have t57 : σ49 3 6 = σ38 3 6 := (show σ49 3 6 = σ38 3 6 from by first | exact f50 _ _ (by omega) | exact h52 _ (by omega))
      exact (And.intro (by show σ49 3 0 = 2; omega) (And.intro (by show σ49 3 3 ≤ σ49 3 4; omega) (And.intro (by show σ49 3 4 ≤ σ49 3 1; omega) (And.intro (by show σ 3 6 ≠ 0 → σ49 3 6 ≠ 0; omega) (And.intro (by show ∀ j : Int, j ≠ 4 → σ49 a1 j = σ a1 j; intro j hj0; exact ((show σ49 a1 j = σ38 a1 j from by first | exact f50 _ _ (by omega) | exact h52 _ (by omega)).trans ((f39 _ _ (by omega)).trans ((f31 _ _ (by omega)).trans ((f23 _ _ (by omega)).trans ((f15 _ _ (by omega)).trans (f7 _ _ (by omega)))))))) (fun k j hk => ((show σ49 k j = σ38 k j from by first | exact f50 _ _ (by omega) | exact h52 _ (by omega) | (by_cases hka : k = a1; (rw [hka]; exact h52 _ (by omega)); exact f50 _ _ (by omega))).trans ((f39 _ _ (by omega)).trans ((f31 _ _ (by omega)).trans ((f23 _ _ (by omega)).trans ((f15 _ _ (by omega)).trans (f7 _ _ (by omega)))))))))))))
  · skip
    refine Exists.intro 0 (And.intro rfl ?_)
    exact (And.intro (by show σ 3 0 = 2; omega) (And.intro (by show σ 3 3 ≤ σ 3 4; omega) (And.intro (by show σ 3 4 ≤ σ 3 1; omega) (And.intro (by show σ 3 6 ≠ 0 → σ 3 6 ≠ 0; omega) (And.intro (by show ∀ j : Int, j ≠ 4 → σ a1 j = σ a1 j; intro j hj0; exact rfl) (fun k j hk => rfl))))))
def as_G_X3_readLine : Int → List Sv_t := fun a => [(13, 3), (15, a)]
def pre_G_X3_readLine : Int → Me_t → Prop := fun a σ => (σ 3 0 = 2) ∧ (σ 3 3 ≤ σ 3 4) ∧ (σ 3 4 ≤ σ 3 1) ∧ (LG σ a) ∧ (σ a 0 ≤ 1200) ∧ (σ a 5 = 0)
def post_G_X3_readLine : Int → Me_t → Int → Me_t → Prop := fun a σ z σ' => (σ' 3 0 = 2) ∧ (σ' 3 3 ≤ σ' 3 4) ∧ (σ' 3 4 ≤ σ' 3 1) ∧ (LG σ' a) ∧ (σ' a 5 = 0) ∧ (σ' a 0 ≤ σ a 0 + 1) ∧ (∀ k j : Int, ¬ (k = 3 ∨ (a ≤ k ∧ k ≤ a + 10)) → σ' k j = σ k j)
set_option maxHeartbeats 2000000 in
set_option maxRecDepth 100000 in
theorem ct_G_X3_readLine (l : Launch) : CT_ l yX3_readLine cX3_readLine 3 none 8 174 as_G_X3_readLine (rmV_) pre_G_X3_readLine post_G_X3_readLine := by
  refine ct_of (by decide) (fun _ => Nat.le_of_ble_eq_true rfl) ?_
  intro X G Q ad σ a hl hR E hG R hM hv hp
  obtain ⟨a1, rfl⟩ : ∃ q : Int, q = a := ⟨_, rfl⟩
  have k_a1 : isWar_ a1 := tvWar_ (hv (15, a1) (List.mem_of_getElem? (i := 1) rfl))
  have r_a1 : 5 ≤ a1 ∧ a1 ≤ 67 := by unfold isWar_ at k_a1; omega
  have hp0 : σ 3 0 = 2 := hp.1
  have hp1 : σ 3 3 ≤ σ 3 4 := hp.2.1
  have hp2 : σ 3 4 ≤ σ 3 1 := hp.2.2.1
  have hp3 : LG σ a1 := hp.2.2.2.1
  have hp4 : σ a1 0 ≤ 1200 := hp.2.2.2.2.1
  have hp5 : σ a1 5 = 0 := hp.2.2.2.2.2
  have B := @bk_ X G Q 0 0 ad SHS_ RX3 cX3_readLine 3 none flX3 plX3 knX3 [(92, 1, TR_ as_G_X3_step (rmV_) pre_G_X3_step post_G_X3_step), (186, 2, TR_ as_G_X3_refuse (rmV_) pre_G_X3_refuse post_G_X3_refuse), (116, 2, TR_ as_G_X3_isWord (rmI_) pre_G_X3_isWord post_G_X3_isWord), (140, 2, TR_ as_G_X3_startLine (rmV_) pre_G_X3_startLine post_G_X3_startLine), (180, 2, TR_ as_G_X3_readTruce (rmV_) pre_G_X3_readTruce post_G_X3_readTruce), (164, 2, TR_ as_G_X3_readFeast (rmV_) pre_G_X3_readFeast post_G_X3_readFeast), (148, 2, TR_ as_G_X3_readLand (rmV_) pre_G_X3_readLand post_G_X3_readLand), (124, 2, TR_ as_G_X3_readRain (rmV_) pre_G_X3_readRain post_G_X3_readRain)] _ _ none kX3_readLine [7, 17, 18, 26, 42, 43, 51, 60, 80, 81, 89, 99, 119, 120, 128, 138, 159, 166, 174, 186] flX3_ok plX3_ok knX3_ok eX3_readLine oX3_readLine
    (List.forall_mem_cons.mpr ⟨cok_v (t := 3) (c := 3) (N := 8) (n := 0) (idx := 46) E (ct_G_X3_step X.2.1) (by rw [hR]; decide) (Nat.zero_le _) (Nat.zero_le _) hG rfl rfl ⟨rfl, by decide, by decide, by decide⟩ (fun _ => ⟨_, _, rfl, rfl⟩) wl_X3_46 wi_X3_step ws_X3_step wn_X3 wc_X3_step, List.forall_mem_cons.mpr ⟨cok_v (t := 3) (c := 3) (N := 8) (n := 1) (idx := 93) E (ct_G_X3_refuse X.2.1) (by rw [hR]; decide) (Nat.zero_le _) (Nat.zero_le _) hG rfl rfl ⟨rfl, by decide, by decide, by decide⟩ (fun _ => ⟨_, _, rfl, rfl⟩) wl_X3_93 wi_X3_refuse ws_X3_refuse wn_X3 wc_X3_refuse, List.forall_mem_cons.mpr ⟨cok_v (t := 3) (c := 3) (N := 8) (n := 1) (idx := 58) E (ct_G_X3_isWord X.2.1) (by rw [hR]; decide) (Nat.zero_le _) (Nat.zero_le _) hG rfl rfl ⟨rfl, by decide, by decide, by decide⟩ (fun _ => ⟨_, _, rfl, rfl⟩) wl_X3_58 wi_X3_isWord ws_X3_isWord wn_X3 wc_X3_isWord, List.forall_mem_cons.mpr ⟨cok_v (t := 3) (c := 3) (N := 8) (n := 1) (idx := 70) E (ct_G_X3_startLine X.2.1) (by rw [hR]; decide) (Nat.zero_le _) (Nat.zero_le _) hG rfl rfl ⟨rfl, by decide, by decide, by decide⟩ (fun _ => ⟨_, _, rfl, rfl⟩) wl_X3_70 wi_X3_startLine ws_X3_startLine wn_X3 wc_X3_startLine, List.forall_mem_cons.mpr ⟨cok_v (t := 3) (c := 3) (N := 8) (n := 1) (idx := 90) E (ct_G_X3_readTruce X.2.1) (by rw [hR]; decide) (Nat.zero_le _) (Nat.zero_le _) hG rfl rfl ⟨rfl, by decide, by decide, by decide⟩ (fun _ => ⟨_, _, rfl, rfl⟩) wl_X3_90 wi_X3_readTruce ws_X3_readTruce wn_X3 wc_X3_readTruce, List.forall_mem_cons.mpr ⟨cok_v (t := 3) (c := 3) (N := 8) (n := 1) (idx := 82) E (ct_G_X3_readFeast X.2.1) (by rw [hR]; decide) (Nat.zero_le _) (Nat.zero_le _) hG rfl rfl ⟨rfl, by decide, by decide, by decide⟩ (fun _ => ⟨_, _, rfl, rfl⟩) wl_X3_82 wi_X3_readFeast ws_X3_readFeast wn_X3 wc_X3_readFeast, List.forall_mem_cons.mpr ⟨cok_v (t := 3) (c := 3) (N := 8) (n := 1) (idx := 74) E (ct_G_X3_readLand X.2.1) (by rw [hR]; decide) (Nat.zero_le _) (Nat.zero_le _) hG rfl rfl ⟨rfl, by decide, by decide, by decide⟩ (fun _ => ⟨_, _, rfl, rfl⟩) wl_X3_74 wi_X3_readLand ws_X3_readLand wn_X3 wc_X3_readLand, List.forall_mem_cons.mpr ⟨cok_v (t := 3) (c := 3) (N := 8) (n := 1) (idx := 62) E (ct_G_X3_readRain X.2.1) (by rw [hR]; decide) (Nat.zero_le _) (Nat.zero_le _) hG rfl rfl ⟨rfl, by decide, by decide, by decide⟩ (fun _ => ⟨_, _, rfl, rfl⟩) wl_X3_62 wi_X3_readRain ws_X3_readRain wn_X3 wc_X3_readRain, fun _ h => absurd h List.not_mem_nil⟩⟩⟩⟩⟩⟩⟩⟩) R sok_no E
  show WP_ X G Q 0 0 ad SHS_ σ 0 [(13, 3), (15, a1), (9, 0)] []
  refine B rfl ?_
  intro z1 ez1 hz1
  have hz1 : (0 : Int) ≤ z1 ∧ z1 ≤ (1201 : Int) := hz1
  refine And.intro (fun h2 => ?_) (fun h2 => ?_)
  · skip
    refine B rfl ?_
    have jn_159 : ∀ (τ159 : Me_t), (∀ k j : Int, ¬ (k = 3 ∨ (a1 ≤ k ∧ k ≤ a1 + 10)) → τ159 k j = σ k j) → (τ159 3 0 = 2) → (τ159 3 3 ≤ τ159 3 4) → (τ159 3 4 ≤ τ159 3 1) → (LG τ159 a1) → (τ159 a1 0 = σ a1 0) → (τ159 a1 5 = 0) → WP_ X G Q 0 0 ad SHS_ τ159 159 [(13, 3), (15, a1), (9, 0)] [] := by
      intro τ159 hf159 hi159_0 hi159_1 hi159_2 hi159_3 hi159_4 hi159_5
      refine B rfl ?_
      intro z3 ez3 hz3
      have hz3 : (0 : Int) ≤ z3 ∧ z3 ≤ (3 : Int) := hz3
      try have t4 : τ159 3 6 = σ 3 6 := (hf159 _ _ (by omega))
      refine And.intro (fun h5 => ?_) (fun h5 => ?_)
      · skip
        refine B rfl ?_
        intro z6 ez6 hz6
        have q7 : z3 = z6 := ez3.trans ez6.symm
        subst q7
        refine And.intro (fun h8 => ?_) (fun h8 => ?_)
        · skip
          refine B rfl ?_
          refine Exists.intro 0 (And.intro rfl ?_)
          exact (And.intro (by show τ159 3 0 = 2; omega) (And.intro (by show τ159 3 3 ≤ τ159 3 4; omega) (And.intro (by show τ159 3 4 ≤ τ159 3 1; omega) (And.intro hi159_3 (And.intro (by show τ159 a1 5 = 0; omega) (And.intro (by show τ159 a1 0 ≤ σ a1 0 + 1; omega) (fun k j hk => (hf159 _ _ (by omega)))))))))
        · skip
          show WP_ X G Q 0 0 ad SHS_ τ159 186 [(13, 3), (15, a1), (9, 0)] []
          refine B rfl ?_
          intro z9 ez9 hz9
          have hz9 : (0 : Int) ≤ z9 ∧ z9 ≤ (1201 : Int) := hz9
          refine And.intro (by omega) ?_
          refine And.intro (by omega) ?_
          intro σ10 e11
          try have t12 : σ10 3 0 = τ159 3 0 := (ups_r e11 (by omega))
          try have t13 : σ10 3 4 = τ159 3 4 := (ups_r e11 (by omega))
          try have t14 : σ10 3 1 = τ159 3 1 := (ups_r e11 (by omega))
          refine Exists.intro () (And.intro rfl (And.intro (And.intro (by show σ10 3 0 = 2; omega) (by show σ10 3 4 ≤ σ10 3 1; omega)) ?_))
          intro z15 σ17 h16
          have f18 : ∀ k j : Int, ¬ (k = 3) → σ17 k j = σ10 k j := h16.2.2.2.2.2
          have h19 : σ17 3 0 = 2 := h16.1
          have h20 : σ17 3 3 ≤ σ17 3 4 := h16.2.1
          have h21 : σ17 3 4 ≤ σ17 3 1 := h16.2.2.1
          have h22 : σ17 3 1 = σ10 3 1 := h16.2.2.2.1
          have h23 : σ17 3 6 = σ10 3 6 := h16.2.2.2.2.1
          refine Exists.intro 0 (And.intro rfl ?_)
          have p24 : LG σ17 a1 := LG_fr hi159_3 (fun k j hk => ((f18 _ _ (by omega)).trans (ups_r e11 (by omega))))
          try have t25 : σ17 a1 5 = τ159 a1 5 := ((f18 _ _ (by omega)).trans (ups_r e11 (by omega)))
          have t26 : σ17 a1 0 = z9 + 1 := ((f18 _ _ (by omega))).trans (ups_v e11)
          exact (And.intro (by show σ17 3 0 = 2; omega) (And.intro (by show σ17 3 3 ≤ σ17 3 4; omega) (And.intro (by show σ17 3 4 ≤ σ17 3 1; omega) (And.intro p24 (And.intro (by show σ17 a1 5 = 0; omega) (And.intro (by show σ17 a1 0 ≤ σ a1 0 + 1; omega) (fun k j hk => ((f18 _ _ (by omega)).trans ((ups_r e11 (by omega)).trans (hf159 _ _ (by omega)))))))))))
      · skip
        show WP_ X G Q 0 0 ad SHS_ τ159 166 [(13, 3), (15, a1), (9, 0)] []
        refine B rfl ?_
        intro z27 ez27 hz27
        have hz27 : (0 : Int) ≤ z27 ∧ z27 ≤ (4 : Int) := hz27
        try have t28 : τ159 3 2 = σ 3 2 := (hf159 _ _ (by omega))
        refine And.intro (fun h29 => ?_) (fun h29 => ?_)
        · skip
          refine B rfl ?_
          intro z30 ez30 hz30
          have q31 : z3 = z30 := ez3.trans ez30.symm
          subst q31
          refine And.intro (fun h32 => ?_) (fun h32 => ?_)
          · skip
            refine B rfl ?_
            refine Exists.intro 0 (And.intro rfl ?_)
            exact (And.intro (by show τ159 3 0 = 2; omega) (And.intro (by show τ159 3 3 ≤ τ159 3 4; omega) (And.intro (by show τ159 3 4 ≤ τ159 3 1; omega) (And.intro hi159_3 (And.intro (by show τ159 a1 5 = 0; omega) (And.intro (by show τ159 a1 0 ≤ σ a1 0 + 1; omega) (fun k j hk => (hf159 _ _ (by omega)))))))))
          · skip
            show WP_ X G Q 0 0 ad SHS_ τ159 186 [(13, 3), (15, a1), (9, 0)] []
            refine B rfl ?_
            intro z33 ez33 hz33
            have hz33 : (0 : Int) ≤ z33 ∧ z33 ≤ (1201 : Int) := hz33
            refine And.intro (by omega) ?_
            refine And.intro (by omega) ?_
            intro σ34 e35
            try have t36 : σ34 3 0 = τ159 3 0 := (ups_r e35 (by omega))
            try have t37 : σ34 3 4 = τ159 3 4 := (ups_r e35 (by omega))
            try have t38 : σ34 3 1 = τ159 3 1 := (ups_r e35 (by omega))
            refine Exists.intro () (And.intro rfl (And.intro (And.intro (by show σ34 3 0 = 2; omega) (by show σ34 3 4 ≤ σ34 3 1; omega)) ?_))
            intro z39 σ41 h40
            have f42 : ∀ k j : Int, ¬ (k = 3) → σ41 k j = σ34 k j := h40.2.2.2.2.2
            have h43 : σ41 3 0 = 2 := h40.1
            have h44 : σ41 3 3 ≤ σ41 3 4 := h40.2.1
            have h45 : σ41 3 4 ≤ σ41 3 1 := h40.2.2.1
            have h46 : σ41 3 1 = σ34 3 1 := h40.2.2.2.1
            have h47 : σ41 3 6 = σ34 3 6 := h40.2.2.2.2.1
            refine Exists.intro 0 (And.intro rfl ?_)
            have p48 : LG σ41 a1 := LG_fr hi159_3 (fun k j hk => ((f42 _ _ (by omega)).trans (ups_r e35 (by omega))))
            try have t49 : σ41 a1 5 = τ159 a1 5 := ((f42 _ _ (by omega)).trans (ups_r e35 (by omega)))
            have t50 : σ41 a1 0 = z33 + 1 := ((f42 _ _ (by omega))).trans (ups_v e35)
            exact (And.intro (by show σ41 3 0 = 2; omega) (And.intro (by show σ41 3 3 ≤ σ41 3 4; omega) (And.intro (by show σ41 3 4 ≤ σ41 3 1; omega) (And.intro p48 (And.intro (by show σ41 a1 5 = 0; omega) (And.intro (by show σ41 a1 0 ≤ σ a1 0 + 1; omega) (fun k j hk => ((f42 _ _ (by omega)).trans ((ups_r e35 (by omega)).trans (hf159 _ _ (by omega)))))))))))
        · skip
          show WP_ X G Q 0 0 ad SHS_ τ159 174 [(13, 3), (15, a1), (9, 0)] []
          refine B rfl ?_
          refine Exists.intro 1 (And.intro rfl (And.intro (And.intro (by show 1 ≤ 1; omega) (by show 1 ≤ 3; omega)) ?_))
          intro z51 σ53 h52
          have f54 : ∀ k j : Int, ¬ (k = 3) → σ53 k j = τ159 k j := h52.2.2.2.2.2.2
          have h55 : σ53 3 0 = τ159 3 0 := h52.1
          have h56 : σ53 3 1 = τ159 3 1 := h52.2.1
          have h57 : σ53 3 2 = τ159 3 2 := h52.2.2.1
          have h58 : σ53 3 3 = τ159 3 3 := h52.2.2.2.1
          have h59 : σ53 3 4 = τ159 3 4 := h52.2.2.2.2.1
          have h60 : (τ159 3 6 = 0 → σ53 3 6 = 1) ∧ (τ159 3 6 ≠ 0 → σ53 3 6 = τ159 3 6) := h52.2.2.2.2.2.1
          intro z61 ez61 hz61
          have hz61 : (0 : Int) ≤ z61 ∧ z61 ≤ (3 : Int) := hz61
          refine And.intro (fun h62 => ?_) (fun h62 => ?_)
          · skip
            refine B rfl ?_
            refine Exists.intro 0 (And.intro rfl ?_)
            have p63 : LG σ53 a1 := LG_fr hi159_3 (fun k j hk => (f54 _ _ (by omega)))
            try have t64 : σ53 a1 5 = τ159 a1 5 := (f54 _ _ (by omega))
            try have t65 : σ53 a1 0 = τ159 a1 0 := (f54 _ _ (by omega))
            exact (And.intro (by show σ53 3 0 = 2; omega) (And.intro (by show σ53 3 3 ≤ σ53 3 4; omega) (And.intro (by show σ53 3 4 ≤ σ53 3 1; omega) (And.intro p63 (And.intro (by show σ53 a1 5 = 0; omega) (And.intro (by show σ53 a1 0 ≤ σ a1 0 + 1; omega) (fun k j hk => ((f54 _ _ (by omega)).trans (hf159 _ _ (by omega))))))))))
          · skip
            show WP_ X G Q 0 0 ad SHS_ σ53 186 [(13, 3), (15, a1), (9, 0)] []
            refine B rfl ?_
            intro z66 ez66 hz66
            have hz66 : (0 : Int) ≤ z66 ∧ z66 ≤ (1201 : Int) := hz66
            try have t67 : σ53 a1 0 = τ159 a1 0 := (f54 _ _ (by omega))
            refine And.intro (by omega) ?_
            refine And.intro (by omega) ?_
            intro σ68 e69
            try have t70 : σ68 3 0 = σ53 3 0 := (ups_r e69 (by omega))
            try have t71 : σ68 3 4 = σ53 3 4 := (ups_r e69 (by omega))
            try have t72 : σ68 3 1 = σ53 3 1 := (ups_r e69 (by omega))
            refine Exists.intro () (And.intro rfl (And.intro (And.intro (by show σ68 3 0 = 2; omega) (by show σ68 3 4 ≤ σ68 3 1; omega)) ?_))
            intro z73 σ75 h74
            have f76 : ∀ k j : Int, ¬ (k = 3) → σ75 k j = σ68 k j := h74.2.2.2.2.2
            have h77 : σ75 3 0 = 2 := h74.1
            have h78 : σ75 3 3 ≤ σ75 3 4 := h74.2.1
            have h79 : σ75 3 4 ≤ σ75 3 1 := h74.2.2.1
            have h80 : σ75 3 1 = σ68 3 1 := h74.2.2.2.1
            have h81 : σ75 3 6 = σ68 3 6 := h74.2.2.2.2.1
            refine Exists.intro 0 (And.intro rfl ?_)
            have p82 : LG σ75 a1 := LG_fr hi159_3 (fun k j hk => ((f76 _ _ (by omega)).trans ((ups_r e69 (by omega)).trans (f54 _ _ (by omega)))))
            try have t83 : σ75 a1 5 = τ159 a1 5 := ((f76 _ _ (by omega)).trans ((ups_r e69 (by omega)).trans (f54 _ _ (by omega))))
            have t84 : σ75 a1 0 = z66 + 1 := ((f76 _ _ (by omega))).trans (ups_v e69)
            exact (And.intro (by show σ75 3 0 = 2; omega) (And.intro (by show σ75 3 3 ≤ σ75 3 4; omega) (And.intro (by show σ75 3 4 ≤ σ75 3 1; omega) (And.intro p82 (And.intro (by show σ75 a1 5 = 0; omega) (And.intro (by show σ75 a1 0 ≤ σ a1 0 + 1; omega) (fun k j hk => ((f76 _ _ (by omega)).trans ((ups_r e69 (by omega)).trans ((f54 _ _ (by omega)).trans (hf159 _ _ (by omega))))))))))))
    refine And.intro (fun h85 => ?_) (fun h85 => (by exfalso; omega))
    refine B rfl ?_
    refine And.intro (fun h86 => (by exfalso; omega)) (fun h86 => ?_)
    show WP_ X G Q 0 0 ad SHS_ σ 42 [(13, 3), (15, a1), (0, 0)] []
    refine B rfl ?_
    show WP_ X G Q 0 0 ad SHS_ σ 43 [(13, 3), (15, a1), (0, 0)] [(13, 3)]
    refine so_ldcs (n := 65) (i := 2) (tx := "land") E (eX3_readLine (43, .ldc 65, 2) (List.mem_of_getElem? (i := 22) rfl)) (by decide) ?_
    refine B rfl ?_
    refine Exists.intro 3 (And.intro rfl (And.intro (And.intro (by show σ 3 0 = 2; omega) (And.intro (by show σ 3 3 ≤ σ 3 4; omega) (And.intro (by show σ 3 4 ≤ σ 3 1; omega) (by show 1 ≤ 3 ∧ 3 ≤ 14; omega)))) ?_))
    rintro z87 m_ h88
    obtain rfl : σ = m_ := h88.2
    have h89 : 0 ≤ z87 ∧ z87 ≤ 1 := h88.1
    refine And.intro (fun h90 => ?_) (fun h90 => ?_)
    · skip
      refine B rfl ?_
      refine And.intro (fun h91 => (by exfalso; omega)) (fun h91 => ?_)
      show WP_ X G Q 0 0 ad SHS_ σ 80 [(13, 3), (15, a1), (0, 0)] []
      refine B rfl ?_
      show WP_ X G Q 0 0 ad SHS_ σ 81 [(13, 3), (15, a1), (0, 0)] [(13, 3)]
      refine so_ldcs (n := 77) (i := 10) (tx := "feast") E (eX3_readLine (81, .ldc 77, 2) (List.mem_of_getElem? (i := 41) rfl)) (by decide) ?_
      refine B rfl ?_
      refine Exists.intro 11 (And.intro rfl (And.intro (And.intro (by show σ 3 0 = 2; omega) (And.intro (by show σ 3 3 ≤ σ 3 4; omega) (And.intro (by show σ 3 4 ≤ σ 3 1; omega) (by show 1 ≤ 11 ∧ 11 ≤ 14; omega)))) ?_))
      rintro z92 m_ h93
      obtain rfl : σ = m_ := h93.2
      have h94 : 0 ≤ z92 ∧ z92 ≤ 1 := h93.1
      refine And.intro (fun h95 => ?_) (fun h95 => ?_)
      · skip
        refine B rfl ?_
        refine And.intro (fun h96 => (by exfalso; omega)) (fun h96 => ?_)
        show WP_ X G Q 0 0 ad SHS_ σ 119 [(13, 3), (15, a1), (0, 0)] []
        refine B rfl ?_
        show WP_ X G Q 0 0 ad SHS_ σ 120 [(13, 3), (15, a1), (0, 0)] [(13, 3)]
        refine so_ldcs (n := 85) (i := 12) (tx := "truce") E (eX3_readLine (120, .ldc 85, 2) (List.mem_of_getElem? (i := 60) rfl)) (by decide) ?_
        refine B rfl ?_
        refine Exists.intro 13 (And.intro rfl (And.intro (And.intro (by show σ 3 0 = 2; omega) (And.intro (by show σ 3 3 ≤ σ 3 4; omega) (And.intro (by show σ 3 4 ≤ σ 3 1; omega) (by show 1 ≤ 13 ∧ 13 ≤ 14; omega)))) ?_))
        rintro z97 m_ h98
        obtain rfl : σ = m_ := h98.2
        have h99 : 0 ≤ z97 ∧ z97 ≤ 1 := h98.1
        refine And.intro (fun h100 => ?_) (fun h100 => ?_)
        · skip
          refine B rfl ?_
          refine Exists.intro 1 (And.intro rfl (And.intro (And.intro (by show 1 ≤ 1; omega) (by show 1 ≤ 3; omega)) ?_))
          intro z101 σ103 h102
          have f104 : ∀ k j : Int, ¬ (k = 3) → σ103 k j = σ k j := h102.2.2.2.2.2.2
          have h105 : σ103 3 0 = σ 3 0 := h102.1
          have h106 : σ103 3 1 = σ 3 1 := h102.2.1
          have h107 : σ103 3 2 = σ 3 2 := h102.2.2.1
          have h108 : σ103 3 3 = σ 3 3 := h102.2.2.2.1
          have h109 : σ103 3 4 = σ 3 4 := h102.2.2.2.2.1
          have h110 : (σ 3 6 = 0 → σ103 3 6 = 1) ∧ (σ 3 6 ≠ 0 → σ103 3 6 = σ 3 6) := h102.2.2.2.2.2.1
          show WP_ X G Q 0 0 ad SHS_ σ103 159 [(13, 3), (15, a1), (0, 0)] []
          refine wdrop_ (L' := [(13, 3), (15, a1), (9, 0)]) ⟨Or.inr rfl, ⟨Or.inr rfl, ⟨Or.inl rfl, trivial⟩⟩⟩ ?_
          have p111 : LG σ103 a1 := LG_fr hp3 (fun k j hk => (f104 _ _ (by omega)))
          try have t112 : σ103 a1 0 = σ a1 0 := (f104 _ _ (by omega))
          try have t113 : σ103 a1 5 = σ a1 5 := (f104 _ _ (by omega))
          exact jn_159 σ103 (fun k j hk => (f104 _ _ (by omega))) (by show σ103 3 0 = 2; omega) (by show σ103 3 3 ≤ σ103 3 4; omega) (by show σ103 3 4 ≤ σ103 3 1; omega) p111 (by show σ103 a1 0 = σ a1 0; omega) (by show σ103 a1 5 = 0; omega)
        · skip
          show WP_ X G Q 0 0 ad SHS_ σ 128 [(13, 3), (15, a1), (0, 0)] []
          refine B rfl ?_
          intro z114 ez114 hz114
          have hz114 : (0 : Int) ≤ z114 ∧ z114 ≤ (12 : Int) := hz114
          refine And.intro (fun h115 => ?_) (fun h115 => ?_)
          · skip
            refine B rfl ?_
            refine Exists.intro 0 (And.intro rfl (And.intro (And.intro (by show σ 3 0 = 2; omega) (And.intro (by show σ 3 3 ≤ σ 3 4; omega) (by show σ 3 4 ≤ σ 3 1; omega))) ?_))
            intro z116 σ118 h117
            have f119 : ∀ k j : Int, ¬ (k = 3) → σ118 k j = σ k j := h117.2.2.2.2.2
            have h120 : σ118 3 0 = 2 := h117.1
            have h121 : σ118 3 3 ≤ σ118 3 4 := h117.2.1
            have h122 : σ118 3 4 ≤ σ118 3 1 := h117.2.2.1
            have h123 : (0 : Int) = 0 → σ118 3 6 ≠ 0 := h117.2.2.2.1
            have h124 : σ 3 6 ≠ 0 → σ118 3 6 ≠ 0 := h117.2.2.2.2.1
            try have t125 : σ118 a1 4 = σ a1 4 := (f119 _ _ (by omega))
            refine Exists.intro a1 (And.intro rfl (And.intro (And.intro (by show σ118 3 0 = 2; omega) (And.intro (by show σ118 3 3 ≤ σ118 3 4; omega) (And.intro (by show σ118 3 4 ≤ σ118 3 1; omega) (by show σ118 a1 4 ≤ 11 ∨ σ118 3 6 ≠ 0; omega)))) ?_))
            intro z126 σ128 h127
            have f129 : ∀ k j : Int, ¬ (k = 3 ∨ k = a1 ∨ k = a1 + 3) → σ128 k j = σ118 k j := h127.2.2.2.2.2
            have h130 : σ128 3 0 = 2 := h127.1
            have h131 : σ128 3 3 ≤ σ128 3 4 := h127.2.1
            have h132 : σ128 3 4 ≤ σ128 3 1 := h127.2.2.1
            have h133 : σ118 3 6 ≠ 0 → σ128 3 6 ≠ 0 := h127.2.2.2.1
            have h134 : ∀ j : Int, j ≠ 4 → σ128 a1 j = σ118 a1 j := h127.2.2.2.2.1
            show WP_ X G Q 0 0 ad SHS_ σ128 159 [(13, 3), (15, a1), (0, 0)] []
            refine wdrop_ (L' := [(13, 3), (15, a1), (9, 0)]) ⟨Or.inr rfl, ⟨Or.inr rfl, ⟨Or.inl rfl, trivial⟩⟩⟩ ?_
            have p135 : LG σ128 a1 := LG_fr hp3 (fun k j hk => ((show σ128 k j = σ118 k j from by first | exact f129 _ _ (by omega) | exact h134 _ (by omega) | (by_cases hka : k = a1; (rw [hka]; exact h134 _ (by omega)); exact f129 _ _ (by omega))).trans (f119 _ _ (by omega))))
            try have t136 : σ128 a1 0 = σ a1 0 := ((show σ128 a1 0 = σ118 a1 0 from by first | exact f129 _ _ (by omega) | exact h134 _ (by omega)).trans (f119 _ _ (by omega)))
            try have t137 : σ128 a1 5 = σ a1 5 := ((show σ128 a1 5 = σ118 a1 5 from by first | exact f129 _ _ (by omega) | exact h134 _ (by omega)).trans (f119 _ _ (by omega)))
            exact jn_159 σ128 (fun k j hk => ((show σ128 k j = σ118 k j from by first | exact f129 _ _ (by omega) | exact h134 _ (by omega) | (by_cases hka : k = a1; (rw [hka]; exact h134 _ (by omega)); exact f129 _ _ (by omega))).trans (f119 _ _ (by omega)))) (by show σ128 3 0 = 2; omega) (by show σ128 3 3 ≤ σ128 3 4; omega) (by show σ128 3 4 ≤ σ128 3 1; omega) p135 (by show σ128 a1 0 = σ a1 0; omega) (by show σ128 a1 5 = 0; omega)
          · skip
            show WP_ X G Q 0 0 ad SHS_ σ 138 [(13, 3), (15, a1), (0, 0)] [(13, 3)]
            refine B rfl ?_
            refine B rfl ?_
            refine Exists.intro 1 (And.intro rfl (And.intro (And.intro (by show σ 3 0 = 2; omega) (And.intro (by show σ 3 3 ≤ σ 3 4; omega) (by show σ 3 4 ≤ σ 3 1; omega))) ?_))
            intro z138 σ140 h139
            have f141 : ∀ k j : Int, ¬ (k = 3) → σ140 k j = σ k j := h139.2.2.2.2.2
            have h142 : σ140 3 0 = 2 := h139.1
            have h143 : σ140 3 3 ≤ σ140 3 4 := h139.2.1
            have h144 : σ140 3 4 ≤ σ140 3 1 := h139.2.2.1
            have h145 : (1 : Int) = 0 → σ140 3 6 ≠ 0 := h139.2.2.2.1
            have h146 : σ 3 6 ≠ 0 → σ140 3 6 ≠ 0 := h139.2.2.2.2.1
            try have t147 : σ140 a1 4 = σ a1 4 := (f141 _ _ (by omega))
            refine Exists.intro a1 (And.intro rfl (And.intro (And.intro (by show σ140 3 0 = 2; omega) (And.intro (by show σ140 3 3 ≤ σ140 3 4; omega) (And.intro (by show σ140 3 4 ≤ σ140 3 1; omega) (by show σ140 a1 4 ≤ 11 ∨ σ140 3 6 ≠ 0; omega)))) ?_))
            intro z148 σ150 h149
            have f151 : ∀ k j : Int, ¬ (k = 3 ∨ k = a1 ∨ k = a1 + 3) → σ150 k j = σ140 k j := h149.2.2.2.2.2
            have h152 : σ150 3 0 = 2 := h149.1
            have h153 : σ150 3 3 ≤ σ150 3 4 := h149.2.1
            have h154 : σ150 3 4 ≤ σ150 3 1 := h149.2.2.1
            have h155 : σ140 3 6 ≠ 0 → σ150 3 6 ≠ 0 := h149.2.2.2.1
            have h156 : ∀ j : Int, j ≠ 4 → σ150 a1 j = σ140 a1 j := h149.2.2.2.2.1
            show WP_ X G Q 0 0 ad SHS_ σ150 159 [(13, 3), (15, a1), (0, 0)] []
            refine wdrop_ (L' := [(13, 3), (15, a1), (9, 0)]) ⟨Or.inr rfl, ⟨Or.inr rfl, ⟨Or.inl rfl, trivial⟩⟩⟩ ?_
            have p157 : LG σ150 a1 := LG_fr hp3 (fun k j hk => ((show σ150 k j = σ140 k j from by first | exact f151 _ _ (by omega) | exact h156 _ (by omega) | (by_cases hka : k = a1; (rw [hka]; exact h156 _ (by omega)); exact f151 _ _ (by omega))).trans (f141 _ _ (by omega))))
            try have t158 : σ150 a1 0 = σ a1 0 := ((show σ150 a1 0 = σ140 a1 0 from by first | exact f151 _ _ (by omega) | exact h156 _ (by omega)).trans (f141 _ _ (by omega)))
            try have t159 : σ150 a1 5 = σ a1 5 := ((show σ150 a1 5 = σ140 a1 5 from by first | exact f151 _ _ (by omega) | exact h156 _ (by omega)).trans (f141 _ _ (by omega)))
            exact jn_159 σ150 (fun k j hk => ((show σ150 k j = σ140 k j from by first | exact f151 _ _ (by omega) | exact h156 _ (by omega) | (by_cases hka : k = a1; (rw [hka]; exact h156 _ (by omega)); exact f151 _ _ (by omega))).trans (f141 _ _ (by omega)))) (by show σ150 3 0 = 2; omega) (by show σ150 3 3 ≤ σ150 3 4; omega) (by show σ150 3 4 ≤ σ150 3 1; omega) p157 (by show σ150 a1 0 = σ a1 0; omega) (by show σ150 a1 5 = 0; omega)
      · skip
        show WP_ X G Q 0 0 ad SHS_ σ 89 [(13, 3), (15, a1), (0, 0)] []
        refine B rfl ?_
        intro z160 ez160 hz160
        have hz160 : (0 : Int) ≤ z160 ∧ z160 ≤ (12 : Int) := hz160
        refine And.intro (fun h161 => ?_) (fun h161 => ?_)
        · skip
          refine B rfl ?_
          refine Exists.intro 0 (And.intro rfl (And.intro (And.intro (by show σ 3 0 = 2; omega) (And.intro (by show σ 3 3 ≤ σ 3 4; omega) (by show σ 3 4 ≤ σ 3 1; omega))) ?_))
          intro z162 σ164 h163
          have f165 : ∀ k j : Int, ¬ (k = 3) → σ164 k j = σ k j := h163.2.2.2.2.2
          have h166 : σ164 3 0 = 2 := h163.1
          have h167 : σ164 3 3 ≤ σ164 3 4 := h163.2.1
          have h168 : σ164 3 4 ≤ σ164 3 1 := h163.2.2.1
          have h169 : (0 : Int) = 0 → σ164 3 6 ≠ 0 := h163.2.2.2.1
          have h170 : σ 3 6 ≠ 0 → σ164 3 6 ≠ 0 := h163.2.2.2.2.1
          try have t171 : σ164 a1 3 = σ a1 3 := (f165 _ _ (by omega))
          refine Exists.intro a1 (And.intro rfl (And.intro (And.intro (by show σ164 3 0 = 2; omega) (And.intro (by show σ164 3 3 ≤ σ164 3 4; omega) (And.intro (by show σ164 3 4 ≤ σ164 3 1; omega) (by show σ164 a1 3 ≤ 11 ∨ σ164 3 6 ≠ 0; omega)))) ?_))
          intro z172 σ174 h173
          have f175 : ∀ k j : Int, ¬ (k = 3 ∨ k = a1 ∨ k = a1 + 2) → σ174 k j = σ164 k j := h173.2.2.2.2.2
          have h176 : σ174 3 0 = 2 := h173.1
          have h177 : σ174 3 3 ≤ σ174 3 4 := h173.2.1
          have h178 : σ174 3 4 ≤ σ174 3 1 := h173.2.2.1
          have h179 : σ164 3 6 ≠ 0 → σ174 3 6 ≠ 0 := h173.2.2.2.1
          have h180 : ∀ j : Int, j ≠ 3 → σ174 a1 j = σ164 a1 j := h173.2.2.2.2.1
          show WP_ X G Q 0 0 ad SHS_ σ174 159 [(13, 3), (15, a1), (0, 0)] []
          refine wdrop_ (L' := [(13, 3), (15, a1), (9, 0)]) ⟨Or.inr rfl, ⟨Or.inr rfl, ⟨Or.inl rfl, trivial⟩⟩⟩ ?_
          have p181 : LG σ174 a1 := LG_fr hp3 (fun k j hk => ((show σ174 k j = σ164 k j from by first | exact f175 _ _ (by omega) | exact h180 _ (by omega) | (by_cases hka : k = a1; (rw [hka]; exact h180 _ (by omega)); exact f175 _ _ (by omega))).trans (f165 _ _ (by omega))))
          try have t182 : σ174 a1 0 = σ a1 0 := ((show σ174 a1 0 = σ164 a1 0 from by first | exact f175 _ _ (by omega) | exact h180 _ (by omega)).trans (f165 _ _ (by omega)))
          try have t183 : σ174 a1 5 = σ a1 5 := ((show σ174 a1 5 = σ164 a1 5 from by first | exact f175 _ _ (by omega) | exact h180 _ (by omega)).trans (f165 _ _ (by omega)))
          exact jn_159 σ174 (fun k j hk => ((show σ174 k j = σ164 k j from by first | exact f175 _ _ (by omega) | exact h180 _ (by omega) | (by_cases hka : k = a1; (rw [hka]; exact h180 _ (by omega)); exact f175 _ _ (by omega))).trans (f165 _ _ (by omega)))) (by show σ174 3 0 = 2; omega) (by show σ174 3 3 ≤ σ174 3 4; omega) (by show σ174 3 4 ≤ σ174 3 1; omega) p181 (by show σ174 a1 0 = σ a1 0; omega) (by show σ174 a1 5 = 0; omega)
        · skip
          show WP_ X G Q 0 0 ad SHS_ σ 99 [(13, 3), (15, a1), (0, 0)] [(13, 3)]
          refine B rfl ?_
          refine B rfl ?_
          refine Exists.intro 1 (And.intro rfl (And.intro (And.intro (by show σ 3 0 = 2; omega) (And.intro (by show σ 3 3 ≤ σ 3 4; omega) (by show σ 3 4 ≤ σ 3 1; omega))) ?_))
          intro z184 σ186 h185
          have f187 : ∀ k j : Int, ¬ (k = 3) → σ186 k j = σ k j := h185.2.2.2.2.2
          have h188 : σ186 3 0 = 2 := h185.1
          have h189 : σ186 3 3 ≤ σ186 3 4 := h185.2.1
          have h190 : σ186 3 4 ≤ σ186 3 1 := h185.2.2.1
          have h191 : (1 : Int) = 0 → σ186 3 6 ≠ 0 := h185.2.2.2.1
          have h192 : σ 3 6 ≠ 0 → σ186 3 6 ≠ 0 := h185.2.2.2.2.1
          try have t193 : σ186 a1 3 = σ a1 3 := (f187 _ _ (by omega))
          refine Exists.intro a1 (And.intro rfl (And.intro (And.intro (by show σ186 3 0 = 2; omega) (And.intro (by show σ186 3 3 ≤ σ186 3 4; omega) (And.intro (by show σ186 3 4 ≤ σ186 3 1; omega) (by show σ186 a1 3 ≤ 11 ∨ σ186 3 6 ≠ 0; omega)))) ?_))
          intro z194 σ196 h195
          have f197 : ∀ k j : Int, ¬ (k = 3 ∨ k = a1 ∨ k = a1 + 2) → σ196 k j = σ186 k j := h195.2.2.2.2.2
          have h198 : σ196 3 0 = 2 := h195.1
          have h199 : σ196 3 3 ≤ σ196 3 4 := h195.2.1
          have h200 : σ196 3 4 ≤ σ196 3 1 := h195.2.2.1
          have h201 : σ186 3 6 ≠ 0 → σ196 3 6 ≠ 0 := h195.2.2.2.1
          have h202 : ∀ j : Int, j ≠ 3 → σ196 a1 j = σ186 a1 j := h195.2.2.2.2.1
          show WP_ X G Q 0 0 ad SHS_ σ196 159 [(13, 3), (15, a1), (0, 0)] []
          refine wdrop_ (L' := [(13, 3), (15, a1), (9, 0)]) ⟨Or.inr rfl, ⟨Or.inr rfl, ⟨Or.inl rfl, trivial⟩⟩⟩ ?_
          have p203 : LG σ196 a1 := LG_fr hp3 (fun k j hk => ((show σ196 k j = σ186 k j from by first | exact f197 _ _ (by omega) | exact h202 _ (by omega) | (by_cases hka : k = a1; (rw [hka]; exact h202 _ (by omega)); exact f197 _ _ (by omega))).trans (f187 _ _ (by omega))))
          try have t204 : σ196 a1 0 = σ a1 0 := ((show σ196 a1 0 = σ186 a1 0 from by first | exact f197 _ _ (by omega) | exact h202 _ (by omega)).trans (f187 _ _ (by omega)))
          try have t205 : σ196 a1 5 = σ a1 5 := ((show σ196 a1 5 = σ186 a1 5 from by first | exact f197 _ _ (by omega) | exact h202 _ (by omega)).trans (f187 _ _ (by omega)))
          exact jn_159 σ196 (fun k j hk => ((show σ196 k j = σ186 k j from by first | exact f197 _ _ (by omega) | exact h202 _ (by omega) | (by_cases hka : k = a1; (rw [hka]; exact h202 _ (by omega)); exact f197 _ _ (by omega))).trans (f187 _ _ (by omega)))) (by show σ196 3 0 = 2; omega) (by show σ196 3 3 ≤ σ196 3 4; omega) (by show σ196 3 4 ≤ σ196 3 1; omega) p203 (by show σ196 a1 0 = σ a1 0; omega) (by show σ196 a1 5 = 0; omega)
    · skip
      show WP_ X G Q 0 0 ad SHS_ σ 51 [(13, 3), (15, a1), (0, 0)] []
      refine B rfl ?_
      intro z206 ez206 hz206
      have hz206 : (0 : Int) ≤ z206 ∧ z206 ≤ (3 : Int) := hz206
      refine And.intro (fun h207 => ?_) (fun h207 => ?_)
      · skip
        refine B rfl ?_
        refine Exists.intro 0 (And.intro rfl (And.intro (And.intro (by show σ 3 0 = 2; omega) (And.intro (by show σ 3 3 ≤ σ 3 4; omega) (by show σ 3 4 ≤ σ 3 1; omega))) ?_))
        intro z208 σ210 h209
        have f211 : ∀ k j : Int, ¬ (k = 3) → σ210 k j = σ k j := h209.2.2.2.2.2
        have h212 : σ210 3 0 = 2 := h209.1
        have h213 : σ210 3 3 ≤ σ210 3 4 := h209.2.1
        have h214 : σ210 3 4 ≤ σ210 3 1 := h209.2.2.1
        have h215 : (0 : Int) = 0 → σ210 3 6 ≠ 0 := h209.2.2.2.1
        have h216 : σ 3 6 ≠ 0 → σ210 3 6 ≠ 0 := h209.2.2.2.2.1
        have p217 : LG σ210 a1 := LG_fr hp3 (fun k j hk => (f211 _ _ (by omega)))
        refine Exists.intro a1 (And.intro rfl (And.intro (And.intro (by show σ210 3 0 = 2; omega) (And.intro (by show σ210 3 3 ≤ σ210 3 4; omega) (And.intro (by show σ210 3 4 ≤ σ210 3 1; omega) p217))) ?_))
        intro z218 σ220 h219
        have f221 : ∀ k j : Int, ¬ (k = 3 ∨ k = a1 ∨ (a1 + 5 ≤ k ∧ k ≤ a1 + 10)) → σ220 k j = σ210 k j := h219.2.2.2.2.2.2
        have h222 : σ220 3 0 = 2 := h219.1
        have h223 : σ220 3 3 ≤ σ220 3 4 := h219.2.1
        have h224 : σ220 3 4 ≤ σ220 3 1 := h219.2.2.1
        have h225 : LG σ220 a1 := h219.2.2.2.1
        have h226 : σ210 3 6 ≠ 0 → σ220 3 6 ≠ 0 := h219.2.2.2.2.1
        have h227 : ∀ j : Int, j ≠ 2 → σ220 a1 j = σ210 a1 j := h219.2.2.2.2.2.1
        show WP_ X G Q 0 0 ad SHS_ σ220 159 [(13, 3), (15, a1), (0, 0)] []
        refine wdrop_ (L' := [(13, 3), (15, a1), (9, 0)]) ⟨Or.inr rfl, ⟨Or.inr rfl, ⟨Or.inl rfl, trivial⟩⟩⟩ ?_
        try have t228 : σ220 a1 0 = σ a1 0 := ((show σ220 a1 0 = σ210 a1 0 from by first | exact f221 _ _ (by omega) | exact h227 _ (by omega)).trans (f211 _ _ (by omega)))
        try have t229 : σ220 a1 5 = σ a1 5 := ((show σ220 a1 5 = σ210 a1 5 from by first | exact f221 _ _ (by omega) | exact h227 _ (by omega)).trans (f211 _ _ (by omega)))
        exact jn_159 σ220 (fun k j hk => ((show σ220 k j = σ210 k j from by first | exact f221 _ _ (by omega) | exact h227 _ (by omega) | (by_cases hka : k = a1; (rw [hka]; exact h227 _ (by omega)); exact f221 _ _ (by omega))).trans (f211 _ _ (by omega)))) (by show σ220 3 0 = 2; omega) (by show σ220 3 3 ≤ σ220 3 4; omega) (by show σ220 3 4 ≤ σ220 3 1; omega) h225 (by show σ220 a1 0 = σ a1 0; omega) (by show σ220 a1 5 = 0; omega)
      · skip
        show WP_ X G Q 0 0 ad SHS_ σ 60 [(13, 3), (15, a1), (0, 0)] [(13, 3)]
        refine B rfl ?_
        refine B rfl ?_
        refine Exists.intro 1 (And.intro rfl (And.intro (And.intro (by show σ 3 0 = 2; omega) (And.intro (by show σ 3 3 ≤ σ 3 4; omega) (by show σ 3 4 ≤ σ 3 1; omega))) ?_))
        intro z230 σ232 h231
        have f233 : ∀ k j : Int, ¬ (k = 3) → σ232 k j = σ k j := h231.2.2.2.2.2
        have h234 : σ232 3 0 = 2 := h231.1
        have h235 : σ232 3 3 ≤ σ232 3 4 := h231.2.1
        have h236 : σ232 3 4 ≤ σ232 3 1 := h231.2.2.1
        have h237 : (1 : Int) = 0 → σ232 3 6 ≠ 0 := h231.2.2.2.1
        have h238 : σ 3 6 ≠ 0 → σ232 3 6 ≠ 0 := h231.2.2.2.2.1
        have p239 : LG σ232 a1 := LG_fr hp3 (fun k j hk => (f233 _ _ (by omega)))
        refine Exists.intro a1 (And.intro rfl (And.intro (And.intro (by show σ232 3 0 = 2; omega) (And.intro (by show σ232 3 3 ≤ σ232 3 4; omega) (And.intro (by show σ232 3 4 ≤ σ232 3 1; omega) p239))) ?_))
        intro z240 σ242 h241
        have f243 : ∀ k j : Int, ¬ (k = 3 ∨ k = a1 ∨ (a1 + 5 ≤ k ∧ k ≤ a1 + 10)) → σ242 k j = σ232 k j := h241.2.2.2.2.2.2
        have h244 : σ242 3 0 = 2 := h241.1
        have h245 : σ242 3 3 ≤ σ242 3 4 := h241.2.1
        have h246 : σ242 3 4 ≤ σ242 3 1 := h241.2.2.1
        have h247 : LG σ242 a1 := h241.2.2.2.1
        have h248 : σ232 3 6 ≠ 0 → σ242 3 6 ≠ 0 := h241.2.2.2.2.1
        have h249 : ∀ j : Int, j ≠ 2 → σ242 a1 j = σ232 a1 j := h241.2.2.2.2.2.1
        show WP_ X G Q 0 0 ad SHS_ σ242 159 [(13, 3), (15, a1), (0, 0)] []
        refine wdrop_ (L' := [(13, 3), (15, a1), (9, 0)]) ⟨Or.inr rfl, ⟨Or.inr rfl, ⟨Or.inl rfl, trivial⟩⟩⟩ ?_
        try have t250 : σ242 a1 0 = σ a1 0 := ((show σ242 a1 0 = σ232 a1 0 from by first | exact f243 _ _ (by omega) | exact h249 _ (by omega)).trans (f233 _ _ (by omega)))
        try have t251 : σ242 a1 5 = σ a1 5 := ((show σ242 a1 5 = σ232 a1 5 from by first | exact f243 _ _ (by omega) | exact h249 _ (by omega)).trans (f233 _ _ (by omega)))
        exact jn_159 σ242 (fun k j hk => ((show σ242 k j = σ232 k j from by first | exact f243 _ _ (by omega) | exact h249 _ (by omega) | (by_cases hka : k = a1; (rw [hka]; exact h249 _ (by omega)); exact f243 _ _ (by omega))).trans (f233 _ _ (by omega)))) (by show σ242 3 0 = 2; omega) (by show σ242 3 3 ≤ σ242 3 4; omega) (by show σ242 3 4 ≤ σ242 3 1; omega) h247 (by show σ242 a1 0 = σ a1 0; omega) (by show σ242 a1 5 = 0; omega)
  · skip
    show WP_ X G Q 0 0 ad SHS_ σ 7 [(13, 3), (15, a1), (9, 0)] []
    refine B rfl ?_
    refine B rfl ?_
    have jn_159 : ∀ (τ159 : Me_t), (∀ k j : Int, ¬ (k = 3 ∨ (a1 ≤ k ∧ k ≤ a1 + 10)) → τ159 k j = σ k j) → (τ159 3 0 = 2) → (τ159 3 3 ≤ τ159 3 4) → (τ159 3 4 ≤ τ159 3 1) → (LG τ159 a1) → (τ159 a1 0 = σ a1 0) → (τ159 a1 5 = 0) → WP_ X G Q 0 0 ad SHS_ τ159 159 [(13, 3), (15, a1), (9, 0)] [] := by
      intro τ159 hf159 hi159_0 hi159_1 hi159_2 hi159_3 hi159_4 hi159_5
      refine B rfl ?_
      intro z252 ez252 hz252
      have hz252 : (0 : Int) ≤ z252 ∧ z252 ≤ (3 : Int) := hz252
      try have t253 : τ159 3 6 = σ 3 6 := (hf159 _ _ (by omega))
      refine And.intro (fun h254 => ?_) (fun h254 => ?_)
      · skip
        refine B rfl ?_
        intro z255 ez255 hz255
        have q256 : z252 = z255 := ez252.trans ez255.symm
        subst q256
        refine And.intro (fun h257 => ?_) (fun h257 => ?_)
        · skip
          refine B rfl ?_
          refine Exists.intro 0 (And.intro rfl ?_)
          exact (And.intro (by show τ159 3 0 = 2; omega) (And.intro (by show τ159 3 3 ≤ τ159 3 4; omega) (And.intro (by show τ159 3 4 ≤ τ159 3 1; omega) (And.intro hi159_3 (And.intro (by show τ159 a1 5 = 0; omega) (And.intro (by show τ159 a1 0 ≤ σ a1 0 + 1; omega) (fun k j hk => (hf159 _ _ (by omega)))))))))
        · skip
          show WP_ X G Q 0 0 ad SHS_ τ159 186 [(13, 3), (15, a1), (9, 0)] []
          refine B rfl ?_
          intro z258 ez258 hz258
          have hz258 : (0 : Int) ≤ z258 ∧ z258 ≤ (1201 : Int) := hz258
          refine And.intro (by omega) ?_
          refine And.intro (by omega) ?_
          intro σ259 e260
          try have t261 : σ259 3 0 = τ159 3 0 := (ups_r e260 (by omega))
          try have t262 : σ259 3 4 = τ159 3 4 := (ups_r e260 (by omega))
          try have t263 : σ259 3 1 = τ159 3 1 := (ups_r e260 (by omega))
          refine Exists.intro () (And.intro rfl (And.intro (And.intro (by show σ259 3 0 = 2; omega) (by show σ259 3 4 ≤ σ259 3 1; omega)) ?_))
          intro z264 σ266 h265
          have f267 : ∀ k j : Int, ¬ (k = 3) → σ266 k j = σ259 k j := h265.2.2.2.2.2
          have h268 : σ266 3 0 = 2 := h265.1
          have h269 : σ266 3 3 ≤ σ266 3 4 := h265.2.1
          have h270 : σ266 3 4 ≤ σ266 3 1 := h265.2.2.1
          have h271 : σ266 3 1 = σ259 3 1 := h265.2.2.2.1
          have h272 : σ266 3 6 = σ259 3 6 := h265.2.2.2.2.1
          refine Exists.intro 0 (And.intro rfl ?_)
          have p273 : LG σ266 a1 := LG_fr hi159_3 (fun k j hk => ((f267 _ _ (by omega)).trans (ups_r e260 (by omega))))
          try have t274 : σ266 a1 5 = τ159 a1 5 := ((f267 _ _ (by omega)).trans (ups_r e260 (by omega)))
          have t275 : σ266 a1 0 = z258 + 1 := ((f267 _ _ (by omega))).trans (ups_v e260)
          exact (And.intro (by show σ266 3 0 = 2; omega) (And.intro (by show σ266 3 3 ≤ σ266 3 4; omega) (And.intro (by show σ266 3 4 ≤ σ266 3 1; omega) (And.intro p273 (And.intro (by show σ266 a1 5 = 0; omega) (And.intro (by show σ266 a1 0 ≤ σ a1 0 + 1; omega) (fun k j hk => ((f267 _ _ (by omega)).trans ((ups_r e260 (by omega)).trans (hf159 _ _ (by omega)))))))))))
      · skip
        show WP_ X G Q 0 0 ad SHS_ τ159 166 [(13, 3), (15, a1), (9, 0)] []
        refine B rfl ?_
        intro z276 ez276 hz276
        have hz276 : (0 : Int) ≤ z276 ∧ z276 ≤ (4 : Int) := hz276
        try have t277 : τ159 3 2 = σ 3 2 := (hf159 _ _ (by omega))
        refine And.intro (fun h278 => ?_) (fun h278 => ?_)
        · skip
          refine B rfl ?_
          intro z279 ez279 hz279
          have q280 : z252 = z279 := ez252.trans ez279.symm
          subst q280
          refine And.intro (fun h281 => ?_) (fun h281 => ?_)
          · skip
            refine B rfl ?_
            refine Exists.intro 0 (And.intro rfl ?_)
            exact (And.intro (by show τ159 3 0 = 2; omega) (And.intro (by show τ159 3 3 ≤ τ159 3 4; omega) (And.intro (by show τ159 3 4 ≤ τ159 3 1; omega) (And.intro hi159_3 (And.intro (by show τ159 a1 5 = 0; omega) (And.intro (by show τ159 a1 0 ≤ σ a1 0 + 1; omega) (fun k j hk => (hf159 _ _ (by omega)))))))))
          · skip
            show WP_ X G Q 0 0 ad SHS_ τ159 186 [(13, 3), (15, a1), (9, 0)] []
            refine B rfl ?_
            intro z282 ez282 hz282
            have hz282 : (0 : Int) ≤ z282 ∧ z282 ≤ (1201 : Int) := hz282
            refine And.intro (by omega) ?_
            refine And.intro (by omega) ?_
            intro σ283 e284
            try have t285 : σ283 3 0 = τ159 3 0 := (ups_r e284 (by omega))
            try have t286 : σ283 3 4 = τ159 3 4 := (ups_r e284 (by omega))
            try have t287 : σ283 3 1 = τ159 3 1 := (ups_r e284 (by omega))
            refine Exists.intro () (And.intro rfl (And.intro (And.intro (by show σ283 3 0 = 2; omega) (by show σ283 3 4 ≤ σ283 3 1; omega)) ?_))
            intro z288 σ290 h289
            have f291 : ∀ k j : Int, ¬ (k = 3) → σ290 k j = σ283 k j := h289.2.2.2.2.2
            have h292 : σ290 3 0 = 2 := h289.1
            have h293 : σ290 3 3 ≤ σ290 3 4 := h289.2.1
            have h294 : σ290 3 4 ≤ σ290 3 1 := h289.2.2.1
            have h295 : σ290 3 1 = σ283 3 1 := h289.2.2.2.1
            have h296 : σ290 3 6 = σ283 3 6 := h289.2.2.2.2.1
            refine Exists.intro 0 (And.intro rfl ?_)
            have p297 : LG σ290 a1 := LG_fr hi159_3 (fun k j hk => ((f291 _ _ (by omega)).trans (ups_r e284 (by omega))))
            try have t298 : σ290 a1 5 = τ159 a1 5 := ((f291 _ _ (by omega)).trans (ups_r e284 (by omega)))
            have t299 : σ290 a1 0 = z282 + 1 := ((f291 _ _ (by omega))).trans (ups_v e284)
            exact (And.intro (by show σ290 3 0 = 2; omega) (And.intro (by show σ290 3 3 ≤ σ290 3 4; omega) (And.intro (by show σ290 3 4 ≤ σ290 3 1; omega) (And.intro p297 (And.intro (by show σ290 a1 5 = 0; omega) (And.intro (by show σ290 a1 0 ≤ σ a1 0 + 1; omega) (fun k j hk => ((f291 _ _ (by omega)).trans ((ups_r e284 (by omega)).trans (hf159 _ _ (by omega)))))))))))
        · skip
          show WP_ X G Q 0 0 ad SHS_ τ159 174 [(13, 3), (15, a1), (9, 0)] []
          refine B rfl ?_
          refine Exists.intro 1 (And.intro rfl (And.intro (And.intro (by show 1 ≤ 1; omega) (by show 1 ≤ 3; omega)) ?_))
          intro z300 σ302 h301
          have f303 : ∀ k j : Int, ¬ (k = 3) → σ302 k j = τ159 k j := h301.2.2.2.2.2.2
          have h304 : σ302 3 0 = τ159 3 0 := h301.1
          have h305 : σ302 3 1 = τ159 3 1 := h301.2.1
          have h306 : σ302 3 2 = τ159 3 2 := h301.2.2.1
          have h307 : σ302 3 3 = τ159 3 3 := h301.2.2.2.1
          have h308 : σ302 3 4 = τ159 3 4 := h301.2.2.2.2.1
          have h309 : (τ159 3 6 = 0 → σ302 3 6 = 1) ∧ (τ159 3 6 ≠ 0 → σ302 3 6 = τ159 3 6) := h301.2.2.2.2.2.1
          intro z310 ez310 hz310
          have hz310 : (0 : Int) ≤ z310 ∧ z310 ≤ (3 : Int) := hz310
          refine And.intro (fun h311 => ?_) (fun h311 => ?_)
          · skip
            refine B rfl ?_
            refine Exists.intro 0 (And.intro rfl ?_)
            have p312 : LG σ302 a1 := LG_fr hi159_3 (fun k j hk => (f303 _ _ (by omega)))
            try have t313 : σ302 a1 5 = τ159 a1 5 := (f303 _ _ (by omega))
            try have t314 : σ302 a1 0 = τ159 a1 0 := (f303 _ _ (by omega))
            exact (And.intro (by show σ302 3 0 = 2; omega) (And.intro (by show σ302 3 3 ≤ σ302 3 4; omega) (And.intro (by show σ302 3 4 ≤ σ302 3 1; omega) (And.intro p312 (And.intro (by show σ302 a1 5 = 0; omega) (And.intro (by show σ302 a1 0 ≤ σ a1 0 + 1; omega) (fun k j hk => ((f303 _ _ (by omega)).trans (hf159 _ _ (by omega))))))))))
          · skip
            show WP_ X G Q 0 0 ad SHS_ σ302 186 [(13, 3), (15, a1), (9, 0)] []
            refine B rfl ?_
            intro z315 ez315 hz315
            have hz315 : (0 : Int) ≤ z315 ∧ z315 ≤ (1201 : Int) := hz315
            try have t316 : σ302 a1 0 = τ159 a1 0 := (f303 _ _ (by omega))
            refine And.intro (by omega) ?_
            refine And.intro (by omega) ?_
            intro σ317 e318
            try have t319 : σ317 3 0 = σ302 3 0 := (ups_r e318 (by omega))
            try have t320 : σ317 3 4 = σ302 3 4 := (ups_r e318 (by omega))
            try have t321 : σ317 3 1 = σ302 3 1 := (ups_r e318 (by omega))
            refine Exists.intro () (And.intro rfl (And.intro (And.intro (by show σ317 3 0 = 2; omega) (by show σ317 3 4 ≤ σ317 3 1; omega)) ?_))
            intro z322 σ324 h323
            have f325 : ∀ k j : Int, ¬ (k = 3) → σ324 k j = σ317 k j := h323.2.2.2.2.2
            have h326 : σ324 3 0 = 2 := h323.1
            have h327 : σ324 3 3 ≤ σ324 3 4 := h323.2.1
            have h328 : σ324 3 4 ≤ σ324 3 1 := h323.2.2.1
            have h329 : σ324 3 1 = σ317 3 1 := h323.2.2.2.1
            have h330 : σ324 3 6 = σ317 3 6 := h323.2.2.2.2.1
            refine Exists.intro 0 (And.intro rfl ?_)
            have p331 : LG σ324 a1 := LG_fr hi159_3 (fun k j hk => ((f325 _ _ (by omega)).trans ((ups_r e318 (by omega)).trans (f303 _ _ (by omega)))))
            try have t332 : σ324 a1 5 = τ159 a1 5 := ((f325 _ _ (by omega)).trans ((ups_r e318 (by omega)).trans (f303 _ _ (by omega))))
            have t333 : σ324 a1 0 = z315 + 1 := ((f325 _ _ (by omega))).trans (ups_v e318)
            exact (And.intro (by show σ324 3 0 = 2; omega) (And.intro (by show σ324 3 3 ≤ σ324 3 4; omega) (And.intro (by show σ324 3 4 ≤ σ324 3 1; omega) (And.intro p331 (And.intro (by show σ324 a1 5 = 0; omega) (And.intro (by show σ324 a1 0 ≤ σ a1 0 + 1; omega) (fun k j hk => ((f325 _ _ (by omega)).trans ((ups_r e318 (by omega)).trans ((f303 _ _ (by omega)).trans (hf159 _ _ (by omega))))))))))))
    refine And.intro (fun h334 => (by exfalso; omega)) (fun h334 => ?_)
    show WP_ X G Q 0 0 ad SHS_ σ 17 [(13, 3), (15, a1), (0, 1)] []
    refine B rfl ?_
    show WP_ X G Q 0 0 ad SHS_ σ 18 [(13, 3), (15, a1), (0, 1)] [(13, 3)]
    refine so_ldcs (n := 56) (i := 0) (tx := "war") E (eX3_readLine (18, .ldc 56, 2) (List.mem_of_getElem? (i := 10) rfl)) (by decide) ?_
    refine B rfl ?_
    refine Exists.intro 1 (And.intro rfl (And.intro (And.intro (by show σ 3 0 = 2; omega) (And.intro (by show σ 3 3 ≤ σ 3 4; omega) (And.intro (by show σ 3 4 ≤ σ 3 1; omega) (by show 1 ≤ 1 ∧ 1 ≤ 14; omega)))) ?_))
    rintro z335 m_ h336
    obtain rfl : σ = m_ := h336.2
    have h337 : 0 ≤ z335 ∧ z335 ≤ 1 := h336.1
    refine And.intro (fun h338 => ?_) (fun h338 => ?_)
    · skip
      refine B rfl ?_
      refine And.intro (fun h339 => ?_) (fun h339 => (by exfalso; omega))
      refine B rfl ?_
      refine And.intro (fun h340 => ?_) (fun h340 => (by exfalso; omega))
      refine B rfl ?_
      refine And.intro (fun h341 => ?_) (fun h341 => (by exfalso; omega))
      refine B rfl ?_
      refine Exists.intro 1 (And.intro rfl (And.intro (And.intro (by show 1 ≤ 1; omega) (by show 1 ≤ 3; omega)) ?_))
      intro z342 σ344 h343
      have f345 : ∀ k j : Int, ¬ (k = 3) → σ344 k j = σ k j := h343.2.2.2.2.2.2
      have h346 : σ344 3 0 = σ 3 0 := h343.1
      have h347 : σ344 3 1 = σ 3 1 := h343.2.1
      have h348 : σ344 3 2 = σ 3 2 := h343.2.2.1
      have h349 : σ344 3 3 = σ 3 3 := h343.2.2.2.1
      have h350 : σ344 3 4 = σ 3 4 := h343.2.2.2.2.1
      have h351 : (σ 3 6 = 0 → σ344 3 6 = 1) ∧ (σ 3 6 ≠ 0 → σ344 3 6 = σ 3 6) := h343.2.2.2.2.2.1
      show WP_ X G Q 0 0 ad SHS_ σ344 159 [(13, 3), (15, a1), (0, 1)] []
      refine wdrop_ (L' := [(13, 3), (15, a1), (9, 0)]) ⟨Or.inr rfl, ⟨Or.inr rfl, ⟨Or.inl rfl, trivial⟩⟩⟩ ?_
      have p352 : LG σ344 a1 := LG_fr hp3 (fun k j hk => (f345 _ _ (by omega)))
      try have t353 : σ344 a1 0 = σ a1 0 := (f345 _ _ (by omega))
      try have t354 : σ344 a1 5 = σ a1 5 := (f345 _ _ (by omega))
      exact jn_159 σ344 (fun k j hk => (f345 _ _ (by omega))) (by show σ344 3 0 = 2; omega) (by show σ344 3 3 ≤ σ344 3 4; omega) (by show σ344 3 4 ≤ σ344 3 1; omega) p352 (by show σ344 a1 0 = σ a1 0; omega) (by show σ344 a1 5 = 0; omega)
    · skip
      show WP_ X G Q 0 0 ad SHS_ σ 26 [(13, 3), (15, a1), (0, 1)] []
      refine B rfl ?_
      refine Exists.intro () (And.intro rfl (And.intro (And.intro (by show σ 3 0 = 2; omega) (by show σ 3 4 ≤ σ 3 1; omega)) ?_))
      intro z355 σ357 h356
      have f358 : ∀ k j : Int, ¬ (k = 3) → σ357 k j = σ k j := h356.2.2.2.2.2
      have h359 : σ357 3 0 = 2 := h356.1
      have h360 : σ357 3 3 ≤ σ357 3 4 := h356.2.1
      have h361 : σ357 3 4 ≤ σ357 3 1 := h356.2.2.1
      have h362 : σ357 3 1 = σ 3 1 := h356.2.2.2.1
      have h363 : σ357 3 6 = σ 3 6 := h356.2.2.2.2.1
      refine Exists.intro a1 (And.intro rfl (And.intro (And.intro (by show σ357 3 0 = 2; omega) (And.intro (by show σ357 3 3 ≤ σ357 3 4; omega) (by show σ357 3 4 ≤ σ357 3 1; omega))) ?_))
      intro z364 σ366 h365
      have f367 : ∀ k j : Int, ¬ (k = 3 ∨ k = a1) → σ366 k j = σ357 k j := h365.2.2.2.2.2
      have h368 : σ366 3 0 = 2 := h365.1
      have h369 : σ366 3 3 ≤ σ366 3 4 := h365.2.1
      have h370 : σ366 3 4 ≤ σ366 3 1 := h365.2.2.1
      have h371 : σ357 3 6 ≠ 0 → σ366 3 6 ≠ 0 := h365.2.2.2.1
      have h372 : ∀ j : Int, j ≠ 1 → σ366 a1 j = σ357 a1 j := h365.2.2.2.2.1
      show WP_ X G Q 0 0 ad SHS_ σ366 159 [(13, 3), (15, a1), (0, 1)] []
      refine wdrop_ (L' := [(13, 3), (15, a1), (9, 0)]) ⟨Or.inr rfl, ⟨Or.inr rfl, ⟨Or.inl rfl, trivial⟩⟩⟩ ?_
      have p373 : LG σ366 a1 := LG_fr hp3 (fun k j hk => ((show σ366 k j = σ357 k j from by first | exact f367 _ _ (by omega) | exact h372 _ (by omega) | (by_cases hka : k = a1; (rw [hka]; exact h372 _ (by omega)); exact f367 _ _ (by omega))).trans (f358 _ _ (by omega))))
      try have t374 : σ366 a1 0 = σ a1 0 := ((show σ366 a1 0 = σ357 a1 0 from by first | exact f367 _ _ (by omega) | exact h372 _ (by omega)).trans (f358 _ _ (by omega)))
      try have t375 : σ366 a1 5 = σ a1 5 := ((show σ366 a1 5 = σ357 a1 5 from by first | exact f367 _ _ (by omega) | exact h372 _ (by omega)).trans (f358 _ _ (by omega)))
      exact jn_159 σ366 (fun k j hk => ((show σ366 k j = σ357 k j from by first | exact f367 _ _ (by omega) | exact h372 _ (by omega) | (by_cases hka : k = a1; (rw [hka]; exact h372 _ (by omega)); exact f367 _ _ (by omega))).trans (f358 _ _ (by omega)))) (by show σ366 3 0 = 2; omega) (by show σ366 3 3 ≤ σ366 3 4; omega) (by show σ366 3 4 ≤ σ366 3 1; omega) p373 (by show σ366 a1 0 = σ a1 0; omega) (by show σ366 a1 5 = 0; omega)
def as_G_X3_read : Int → List Sv_t := fun a => [(13, 3), (11, 1), (15, a)]
def pre_G_X3_read : Int → Me_t → Prop := fun a σ => True
def post_G_X3_read : Int → Me_t → Int → Me_t → Prop := fun a σ z σ' => (LG σ' a) ∧ (UW σ' a) ∧ (∀ k j : Int, ¬ (k = 3 ∨ (a ≤ k ∧ k ≤ a + 10)) → σ' k j = σ k j)
set_option maxHeartbeats 2000000 in
set_option maxRecDepth 100000 in
theorem ct_G_X3_read (l : Launch) : CT_ l yX3_read cX3_read 4 none 9 196 as_G_X3_read (rmV_) pre_G_X3_read post_G_X3_read := by
  refine ct_of (by decide) (fun _ => Nat.le_of_ble_eq_true rfl) ?_
  intro X G Q ad σ a hl hR E hG R hM hv hp
  obtain ⟨a2, rfl⟩ : ∃ q : Int, q = a := ⟨_, rfl⟩
  have k_a2 : isWar_ a2 := tvWar_ (hv (15, a2) (List.mem_of_getElem? (i := 2) rfl))
  have r_a2 : 5 ≤ a2 ∧ a2 ≤ 67 := by unfold isWar_ at k_a2; omega
  have B := @bk_ X G Q 0 0 ad SHS_ RX3 cX3_read 4 none flX3 plX3 knX3 [(82, 1, TR_ as_G_X9_clear (rmV_) pre_G_X9_clear post_G_X9_clear), (92, 1, TR_ as_G_X3_step (rmV_) pre_G_X3_step post_G_X3_step), (98, 2, TR_ as_G_X3_readLine (rmV_) pre_G_X3_readLine post_G_X3_readLine)] _ _ none kX3_read [41] flX3_ok plX3_ok knX3_ok eX3_read oX3_read
    (List.forall_mem_cons.mpr ⟨cok_v (t := 5) (c := 9) (N := 10) (n := 0) (idx := 41) E (ct_G_X9_clear X.2.1) (by rw [hR]; decide) (Nat.zero_le _) (Nat.zero_le _) hG rfl rfl ⟨rfl, by decide, by decide, by decide⟩ (fun _ => ⟨_, _, rfl, rfl⟩) wl_X3_41 wi_X9_clear ws_X9_clear wn_X9 wc_X9_clear, List.forall_mem_cons.mpr ⟨cok_v (t := 3) (c := 3) (N := 8) (n := 0) (idx := 46) E (ct_G_X3_step X.2.1) (by rw [hR]; decide) (Nat.zero_le _) (Nat.zero_le _) hG rfl rfl ⟨rfl, by decide, by decide, by decide⟩ (fun _ => ⟨_, _, rfl, rfl⟩) wl_X3_46 wi_X3_step ws_X3_step wn_X3 wc_X3_step, List.forall_mem_cons.mpr ⟨cok_v (t := 3) (c := 3) (N := 8) (n := 1) (idx := 49) E (ct_G_X3_readLine X.2.1) (by rw [hR]; decide) (Nat.zero_le _) (Nat.zero_le _) hG rfl rfl ⟨rfl, by decide, by decide, by decide⟩ (fun _ => ⟨_, _, rfl, rfl⟩) wl_X3_49 wi_X3_readLine ws_X3_readLine wn_X3 wc_X3_readLine, fun _ h => absurd h List.not_mem_nil⟩⟩⟩) R sok_no E
  show WP_ X G Q 0 0 ad SHS_ σ 0 [(13, 3), (11, 1), (15, a2), (9, 0)] []
  refine B rfl ?_
  intro σ1 e2
  intro z3 ez3 hz3
  have hz3 : (0 : Int) ≤ z3 ∧ z3 ≤ (1200 : Int) := hz3
  try have t4 : σ1 1 1 = σ 1 1 := (ups_r e2 (by omega))
  refine And.intro (by omega) ?_
  intro σ5 e6
  refine And.intro (by omega) ?_
  intro σ7 e8
  refine And.intro (by omega) ?_
  intro σ9 e10
  refine And.intro (by omega) ?_
  intro σ11 e12
  refine Exists.intro a2 (And.intro rfl (And.intro True.intro ?_))
  intro z13 σ15 h14
  have f16 : ∀ k j : Int, ¬ (k = a2) → σ15 k j = σ11 k j := h14.2.2.2.2.2
  have h17 : σ15 a2 0 = 0 := h14.1
  have h18 : σ15 a2 2 = 0 := h14.2.1
  have h19 : σ15 a2 3 = 0 := h14.2.2.1
  have h20 : σ15 a2 4 = 0 := h14.2.2.2.1
  have h21 : σ15 a2 5 = 0 := h14.2.2.2.2.1
  have lgc : LG σ15 a2 := fun i h0 h2 h1 => by omega
  have t22 : σ15 3 0 = 2 := (((f16 _ _ (by omega)).trans ((ups_r e12 (by omega)).trans ((ups_r e10 (by omega)).trans ((ups_r e8 (by omega)).trans (ups_r e6 (by omega))))))).trans (ups_v e2)
  have t23 : σ15 3 4 = 0 := ((f16 _ _ (by omega))).trans (ups_v e12)
  have t24 : σ15 3 1 = z3 := (((f16 _ _ (by omega)).trans ((ups_r e12 (by omega)).trans ((ups_r e10 (by omega)).trans (ups_r e8 (by omega)))))).trans (ups_v e6)
  refine Exists.intro () (And.intro rfl (And.intro (And.intro (by show σ15 3 0 = 2; omega) (by show σ15 3 4 ≤ σ15 3 1; omega)) ?_))
  intro z25 σ27 h26
  have f28 : ∀ k j : Int, ¬ (k = 3) → σ27 k j = σ15 k j := h26.2.2.2.2.2
  have h29 : σ27 3 0 = 2 := h26.1
  have h30 : σ27 3 3 ≤ σ27 3 4 := h26.2.1
  have h31 : σ27 3 4 ≤ σ27 3 1 := h26.2.2.1
  have h32 : σ27 3 1 = σ15 3 1 := h26.2.2.2.1
  have h33 : σ27 3 6 = σ15 3 6 := h26.2.2.2.2.1
  show WP_ X G Q 0 0 ad SHS_ σ27 41 [(13, 3), (11, 1), (15, a2), (0, 0)] []
  refine wdrop_ (L' := [(13, 3), (9, 0), (15, a2), (0, 0)]) ⟨Or.inr rfl, ⟨Or.inl rfl, ⟨Or.inr rfl, ⟨Or.inr rfl, trivial⟩⟩⟩⟩ ?_
  have lp_41 : ∀ (nq_ : Nat) (v3 : Int) (τ41 : Me_t), (∀ k j : Int, ¬ (k = 3 ∨ (a2 ≤ k ∧ k ≤ a2 + 10)) → τ41 k j = σ k j) → (0 ≤ v3) → (v3 ≤ 1201) → (τ41 3 0 = 2) → (τ41 3 3 ≤ τ41 3 4) → (τ41 3 4 ≤ τ41 3 1) → (LG τ41 a2) → (τ41 a2 5 = 0) → (τ41 a2 0 ≤ v3) → (1201 - v3 : Int).toNat < nq_ → WP_ X G Q 0 0 ad SHS_ τ41 41 [(13, 3), (9, 0), (15, a2), (0, v3)] [] := by
    intro nq_
    induction nq_ with
    | zero => intros; omega
    | succ nq_ ih_41 =>
      intro v3 τ41 hf41 hi41_0 hi41_1 hi41_2 hi41_3 hi41_4 hi41_5 hi41_6 hi41_7 hm41
      refine B rfl ?_
      refine And.intro (fun h34 => ?_) (fun h34 => ?_)
      · skip
        refine wmt_ (fun hm => ?_)
        have rg3 := rgf_ (t := 5) (j := 3) hm (hv (15, a2) (List.mem_of_getElem? (i := 2) rfl)) (by decide)
        have rg4 := rgf_ (t := 5) (j := 4) hm (hv (15, a2) (List.mem_of_getElem? (i := 2) rfl)) (by decide)
        refine B rfl ?_
        refine Exists.intro 0 (And.intro rfl ?_)
        exact (And.intro hi41_5 (And.intro (by show UW τ41 a2; exact UW_0 (by omega) rg3 rg4) (fun k j hk => (hf41 _ _ (by omega)))))
      · skip
        intro z35 ez35 hz35
        have hz35 : (0 : Int) ≤ z35 ∧ z35 ≤ (3 : Int) := hz35
        try have t36 : τ41 3 6 = σ 3 6 := (hf41 _ _ (by omega))
        refine And.intro (fun h37 => ?_) (fun h37 => ?_)
        · skip
          refine wmt_ (fun hm => ?_)
          have rg3 := rgf_ (t := 5) (j := 3) hm (hv (15, a2) (List.mem_of_getElem? (i := 2) rfl)) (by decide)
          have rg4 := rgf_ (t := 5) (j := 4) hm (hv (15, a2) (List.mem_of_getElem? (i := 2) rfl)) (by decide)
          refine B rfl ?_
          refine Exists.intro 0 (And.intro rfl ?_)
          exact (And.intro hi41_5 (And.intro (by show UW τ41 a2; exact UW_0 (by omega) rg3 rg4) (fun k j hk => (hf41 _ _ (by omega)))))
        · skip
          intro z38 ez38 hz38
          have hz38 : (0 : Int) ≤ z38 ∧ z38 ≤ (4 : Int) := hz38
          try have t39 : τ41 3 2 = σ 3 2 := (hf41 _ _ (by omega))
          refine And.intro (fun h40 => ?_) (fun h40 => ?_)
          · skip
            refine wmt_ (fun hm => ?_)
            have rg3 := rgf_ (t := 5) (j := 3) hm (hv (15, a2) (List.mem_of_getElem? (i := 2) rfl)) (by decide)
            have rg4 := rgf_ (t := 5) (j := 4) hm (hv (15, a2) (List.mem_of_getElem? (i := 2) rfl)) (by decide)
            refine B rfl ?_
            refine Exists.intro 0 (And.intro rfl ?_)
            exact (And.intro hi41_5 (And.intro (by show UW τ41 a2; exact UW_0 (by omega) rg3 rg4) (fun k j hk => (hf41 _ _ (by omega)))))
          · skip
            refine Exists.intro a2 (And.intro rfl (And.intro (And.intro (by show τ41 3 0 = 2; omega) (And.intro (by show τ41 3 3 ≤ τ41 3 4; omega) (And.intro (by show τ41 3 4 ≤ τ41 3 1; omega) (And.intro hi41_5 (And.intro (by show τ41 a2 0 ≤ 1200; omega) (by show τ41 a2 5 = 0; omega)))))) ?_))
            intro z41 σ43 h42
            have f44 : ∀ k j : Int, ¬ (k = 3 ∨ (a2 ≤ k ∧ k ≤ a2 + 10)) → σ43 k j = τ41 k j := h42.2.2.2.2.2.2
            have h45 : σ43 3 0 = 2 := h42.1
            have h46 : σ43 3 3 ≤ σ43 3 4 := h42.2.1
            have h47 : σ43 3 4 ≤ σ43 3 1 := h42.2.2.1
            have h48 : LG σ43 a2 := h42.2.2.2.1
            have h49 : σ43 a2 5 = 0 := h42.2.2.2.2.1
            have h50 : σ43 a2 0 ≤ τ41 a2 0 + 1 := h42.2.2.2.2.2.1
            refine And.intro (by omega) ?_
            exact ih_41 (v3 + 1) σ43 (fun k j hk => ((f44 _ _ (by omega)).trans (hf41 _ _ (by omega)))) (by show 0 ≤ (v3 + 1); omega) (by show (v3 + 1) ≤ 1201; omega) (by show σ43 3 0 = 2; omega) (by show σ43 3 3 ≤ σ43 3 4; omega) (by show σ43 3 4 ≤ σ43 3 1; omega) h48 (by show σ43 a2 5 = 0; omega) (by show σ43 a2 0 ≤ (v3 + 1); omega) (by omega)
  have p51 : LG σ27 a2 := LG_fr lgc (fun k j hk => (f28 _ _ (by omega)))
  try have t52 : σ27 a2 5 = σ15 a2 5 := (f28 _ _ (by omega))
  try have t53 : σ27 a2 0 = σ15 a2 0 := (f28 _ _ (by omega))
  exact lp_41 ((1201 - 0 : Int).toNat + 1) 0 σ27 (fun k j hk => ((f28 _ _ (by omega)).trans ((f16 _ _ (by omega)).trans ((ups_r e12 (by omega)).trans ((ups_r e10 (by omega)).trans ((ups_r e8 (by omega)).trans ((ups_r e6 (by omega)).trans (ups_r e2 (by omega))))))))) (by show 0 ≤ 0; omega) (by show 0 ≤ 1201; omega) (by show σ27 3 0 = 2; omega) (by show σ27 3 3 ≤ σ27 3 4; omega) (by show σ27 3 4 ≤ σ27 3 1; omega) p51 (by show σ27 a2 5 = 0; omega) (by show σ27 a2 0 ≤ 0; omega) (by omega)
