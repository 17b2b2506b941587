/-! the reference's reader: what it sees -/
noncomputable def seeF_ (σ : Me_t) (k : Int) : Int := if k < σ 86 7 then and3_ (σ 90 k) 255 else -1
theorem seeF_fr {σ σ' : Me_t} {k : Int} (h1 : σ' 86 7 = σ 86 7) (h2 : ∀ j : Int, σ' 90 j = σ 90 j) : seeF_ σ' k = seeF_ σ k := by
  unfold seeF_
  rw [h1, h2 k]
abbrev isB_ (σ : Me_t) (w : Int) : Prop := σ 86 12 = 0 ∧ σ 86 10 = 1 ∧ σ 86 8 - σ 86 9 = slen_ w
def isQ_ (σ : Me_t) (w n : Int) : Prop := isB_ σ w ∧ ∀ k : Int, 0 ≤ k → k < n → σ 90 (σ 86 9 + k) = schr_ w k
def isP_ (σ : Me_t) (w : Int) : Prop := isQ_ σ w (slen_ w)
noncomputable def isF_ (σ : Me_t) (w : Int) : Int := @ite Int (isP_ σ w) (Classical.propDecidable _) 1 0
theorem isF_1 {σ : Me_t} {w : Int} (h : isP_ σ w) : isF_ σ w = 1 := by
  unfold isF_
  rw [if_pos h]
theorem isF_0 {σ : Me_t} {w : Int} (h : ¬ isP_ σ w) : isF_ σ w = 0 := by
  unfold isF_
  rw [if_neg h]
theorem isQ_0 {σ : Me_t} {w : Int} (h1 : σ 86 12 = 0) (h2 : σ 86 10 = 1) (h3 : σ 86 8 - σ 86 9 = slen_ w) : isQ_ σ w 0 := ⟨⟨h1, h2, h3⟩, fun k a b => by omega⟩
theorem isQ_s {σ : Me_t} {w n : Int} (h0 : 0 ≤ n) (h : isQ_ σ w n) (e : σ 90 (σ 86 9 + n) = schr_ w n) : isQ_ σ w (n + 1) := ⟨h.1, fun k a b => by
  by_cases hk : k = n
  · subst hk; exact e
  · exact h.2 k a (by omega)⟩
theorem isQ_x {σ : Me_t} {w n : Int} (h0 : 0 ≤ n) (h1 : n < slen_ w) (e : ¬ σ 90 (σ 86 9 + n) = schr_ w n) : ¬ isP_ σ w := fun h => e (h.2 n h0 h1)
theorem isQ_e {σ : Me_t} {w n : Int} (h : isQ_ σ w n) (e : n = slen_ w) : isP_ σ w := by
  subst e
  exact h
theorem isF_fr {σ σ' : Me_t} {w : Int} (h1 : σ' 86 12 = σ 86 12) (h2 : σ' 86 10 = σ 86 10) (h3 : σ' 86 8 = σ 86 8) (h4 : σ' 86 9 = σ 86 9) (h5 : ∀ j : Int, σ' 90 j = σ 90 j) : isF_ σ' w = isF_ σ w := by
  have e : isP_ σ' w = isP_ σ w := by
    unfold isP_ isQ_ isB_
    rw [h1, h2, h3, h4]
    exact congrArg _ (propext ⟨fun h k a b => (h5 _).symm.trans (h k a b), fun h k a b => (h5 _).trans (h k a b)⟩)
  by_cases hp : isP_ σ w
  · rw [isF_1 hp, isF_1 (e ▸ hp)]
  · rw [isF_0 hp, isF_0 (fun q => hp (e ▸ q))]
theorem slen_r {c : Int} (h : 1 ≤ c ∧ c ≤ 14) : 1 ≤ slen_ c ∧ slen_ c ≤ 5 := by
  have := lenS_ok (c - 1).toNat (by omega)
  unfold slen_
  omega
theorem BW_0 {f : Int → Int} (h : ∀ j : Int, 0 ≤ j → j < 495 → f j = 0) : BWf f := fun i h0 h1 => by
  rw [h i h0 h1]
  unfold wlo_ whi_ ldlo_ hdhi_ ldhi_ fthi_ tchi_ cghi_
  constructor
  · repeat' split
    all_goals omega
  · repeat' split
    all_goals omega
theorem UM_0 {f : Int → Int} (h : f 5 = 0) (h2 : 0 ≤ f 2 ∧ f 2 ≤ hdhi_ 2) (h3 : 0 ≤ f 3 ∧ f 3 ≤ hdhi_ 3) : UMf f := by
  unfold UMf
  rw [h]
  exact ⟨h2.1, h2.2, h3.1, h3.2⟩
def as_G_X11_see : Int → List Sv_t := fun a => [(42, 86), (0, a)]
def pre_G_X11_see : Int → Me_t → Prop := fun a σ => (0 ≤ a)
def post_G_X11_see : Int → Me_t → Int → Me_t → Prop := fun a σ z σ' => (z = seeF_ σ a) ∧ ((a < σ 86 7 ∧ 0 ≤ z ∧ z ≤ 255) ∨ (σ 86 7 ≤ a ∧ z = -1)) ∧ (σ = σ')
set_option maxHeartbeats 3000000 in
set_option maxRecDepth 100000 in
theorem ct_G_X11_see (l : Launch) : CT_ l yX11_see cX11_see 2 (some .int) 0 0 as_G_X11_see (rmI_) pre_G_X11_see post_G_X11_see := by
  refine ct_of (by decide) (fun _ => Nat.le_of_ble_eq_true rfl) ?_
  intro X G Q ad σ a hl hR E hG R hM hv hp
  obtain ⟨a1, rfl⟩ : ∃ q : Int, q = a := ⟨_, rfl⟩
  have r_a1 : -2147483648 ≤ a1 ∧ a1 ≤ 2147483647 := hv (0, a1) (List.mem_of_getElem? (i := 1) rfl)
  have hp0 : 0 ≤ a1 := hp
  have B := @bk_ X G Q 0 0 ad SHS_ RX11 cX11_see 2 (some .int) flX11 plX11 knX11 [] _ _ none kX11_see [] flX11_ok plX11_ok knX11_ok eX11_see oX11_see
    (fun _ h => absurd h List.not_mem_nil) R sok_no E
  show WP_ X G Q 0 0 ad SHS_ σ 0 [(42, 86), (0, a1)] []
  refine B rfl ?_
  intro z1 ez1 hz1
  have hz1 : (0 : Int) ≤ z1 ∧ z1 ≤ (1200 : Int) := hz1
  refine And.intro (fun h2 => ?_) (fun h2 => ?_)
  · skip
    refine B rfl ?_
    refine Exists.intro _ (And.intro rfl ?_)
    exact (And.intro (by show (-1) = seeF_ σ a1; subst_vars; unfold seeF_; split <;> omega) (And.intro (by show (a1 < σ 86 7 ∧ 0 ≤ (-1) ∧ (-1) ≤ 255) ∨ (σ 86 7 ≤ a1 ∧ (-1) = -1); omega) rfl))
  · skip
    refine And.intro (by omega) ?_
    intro z3 ez3 hz3
    have hz3 : ((-128) : Int) ≤ z3 ∧ z3 ≤ (127 : Int) := hz3
    have q4 := and3_r (x := z3) (c := 255) (by omega) (by omega)
    refine B rfl ?_
    refine Exists.intro _ (And.intro rfl ?_)
    exact (And.intro (by show (and3_ z3 255) = seeF_ σ a1; subst_vars; unfold seeF_; split <;> omega) (And.intro (by show (a1 < σ 86 7 ∧ 0 ≤ (and3_ z3 255) ∧ (and3_ z3 255) ≤ 255) ∨ (σ 86 7 ≤ a1 ∧ (and3_ z3 255) = -1); omega) rfl))
def as_G_X11_advance : Unit → List Sv_t := fun a => [(42, 86)]
def pre_G_X11_advance : Unit → Me_t → Prop := fun a σ => (σ 86 8 ≤ σ 86 7)
def post_G_X11_advance : Unit → Me_t → Int → Me_t → Prop := fun a σ z σ' => (σ' 86 9 ≤ σ' 86 8) ∧ (σ' 86 8 ≤ σ' 86 7) ∧ (σ' 86 7 = σ 86 7) ∧ (σ 86 8 ≤ σ' 86 8 ∧ (σ 86 8 < σ' 86 8 ∨ σ' 86 10 ≤ σ 86 10)) ∧ (σ' 86 12 = σ 86 12) ∧ ((σ 86 8 < σ' 86 8 ∨ σ' 86 10 ≤ 0)) ∧ (∀ k j : Int, ¬ (k = 86) → σ' k j = σ k j)
set_option maxHeartbeats 3000000 in
set_option maxRecDepth 100000 in
theorem ct_G_X11_advance (l : Launch) : CT_ l yX11_advance cX11_advance 2 none 1 25 as_G_X11_advance (rmV_) pre_G_X11_advance post_G_X11_advance := by
  refine ct_of (by decide) (fun _ => Nat.le_of_ble_eq_true rfl) ?_
  intro X G Q ad σ a hl hR E hG R hM hv hp
  have hp0 : σ 86 8 ≤ σ 86 7 := hp
  have B := @bk_ X G Q 0 0 ad SHS_ RX11 cX11_advance 2 none flX11 plX11 knX11 [(234, 2, TR_ as_G_X11_see (rmI_) pre_G_X11_see post_G_X11_see), (159, 3, TR_ as_G_X11_in (rmI_) pre_G_X11_in post_G_X11_in), (279, 2, TMIN_)] _ _ none kX11_advance [0, 13, 26, 61, 83, 104, 139, 144, 165, 221] flX11_ok plX11_ok knX11_ok eX11_advance oX11_advance
    (List.forall_mem_cons.mpr ⟨cok_v (t := 32) (c := 11) (N := 39) (n := 1) (idx := 117) E (ct_G_X11_see X.2.1) (by rw [hR]; decide) (Nat.zero_le _) (Nat.zero_le _) hG rfl rfl ⟨rfl, by decide, by decide, by decide⟩ (fun _ => ⟨_, _, rfl, rfl⟩) wl_X11_117 wi_X11_see ws_X11_see wn_X11 wc_X11_see, List.forall_mem_cons.mpr ⟨cok_s (n := 3) (idx := 79) E (ct_G_X11_in X.2.1) (by rw [hR]; decide) (Nat.zero_le _) (Nat.zero_le _) hG ⟨by decide, by decide, by decide⟩ (fun _ => rfl) wl_X11_79 wt_X11_in wn_X11 wc_X11_in, List.forall_mem_cons.mpr ⟨cok_min (idx := 139) E (by rw [hR]; decide) (Nat.zero_le _) (Nat.zero_le _) wl_X11_139, fun _ h => absurd h List.not_mem_nil⟩⟩⟩) R sok_no E
  show WP_ X G Q 0 0 ad SHS_ σ 0 [(42, 86), (9, 0)] []
  have rZ := rgf_ (t := 32) (j := 7) hM (hv (42, 86) (List.mem_of_getElem? (i := 0) rfl)) (by decide)
  have rZ : (0 : Int) ≤ σ 86 7 ∧ σ 86 7 ≤ (1200 : Int) := rZ
  have rK := rgf_ (t := 32) (j := 10) hM (hv (42, 86) (List.mem_of_getElem? (i := 0) rfl)) (by decide)
  have rK : (0 : Int) ≤ σ 86 10 ∧ σ 86 10 ≤ (4 : Int) := rK
  have lp_0 : ∀ (nq_ : Nat)  (τ0 : Me_t), (∀ k j : Int, ¬ (k = 86) → τ0 k j = σ k j) → (τ0 86 8 ≤ τ0 86 7) → (τ0 86 7 = σ 86 7) → (τ0 86 12 = σ 86 12) → (σ 86 8 ≤ τ0 86 8) → (τ0 86 7 - τ0 86 8 : Int).toNat < nq_ → WP_ X G Q 0 0 ad SHS_ τ0 0 [(42, 86), (9, 0)] [] := by
    intro nq_
    induction nq_ with
    | zero => intros; omega
    | succ nq_ ih_0 =>
      intro  τ0 hf0 hi0_0 hi0_1 hi0_2 hi0_3 hm0
      refine B rfl ?_
      intro z1 ez1 hz1
      have hz1 : (0 : Int) ≤ z1 ∧ z1 ≤ (1200 : Int) := hz1
      refine Exists.intro z1 (And.intro rfl (And.intro (by show 0 ≤ z1; omega) ?_))
      rintro z2 m_ h3
      obtain rfl : τ0 = m_ := h3.2.2
      have h4 : z2 = seeF_ τ0 z1 := h3.1
      have h5 : (z1 < τ0 86 7 ∧ 0 ≤ z2 ∧ z2 ≤ 255) ∨ (τ0 86 7 ≤ z1 ∧ z2 = -1) := h3.2.1
      refine And.intro (fun h6 => ?_) (fun h6 => ?_)
      · skip
        refine B rfl ?_
        intro z7 ez7 hz7
        have q8 : z1 = z7 := ez1.trans ez7.symm
        subst q8
        refine And.intro (by omega) ?_
        refine And.intro (by omega) ?_
        intro σ9 e10
        try have t11 : σ9 86 7 = τ0 86 7 := (ups_r e10 (by omega))
        have t12 : σ9 86 8 = z1 + 1 := ups_v e10
        try have t13 : σ9 86 12 = τ0 86 12 := (ups_r e10 (by omega))
        exact ih_0  σ9 (fun k j hk => ((ups_r e10 (by omega)).trans (hf0 _ _ (by omega)))) (by show σ9 86 8 ≤ σ9 86 7; omega) (by show σ9 86 7 = σ 86 7; omega) (by show σ9 86 12 = σ 86 12; omega) (by show σ 86 8 ≤ σ9 86 8; omega) (by omega)
      · skip
        show WP_ X G Q 0 0 ad SHS_ τ0 13 [(42, 86), (9, 0)] []
        refine B rfl ?_
        intro z14 ez14 hz14
        have q15 : z1 = z14 := ez1.trans ez14.symm
        subst q15
        refine Exists.intro z1 (And.intro rfl (And.intro (by show 0 ≤ z1; omega) ?_))
        rintro z16 m_ h17
        obtain rfl : τ0 = m_ := h17.2.2
        have h18 : z16 = seeF_ τ0 z1 := h17.1
        have h19 : (z1 < τ0 86 7 ∧ 0 ≤ z16 ∧ z16 ≤ 255) ∨ (τ0 86 7 ≤ z1 ∧ z16 = -1) := h17.2.1
        refine And.intro (fun h20 => ?_) (fun h20 => ?_)
        · skip
          refine B rfl ?_
          intro z21 ez21 hz21
          have q22 : z1 = z21 := ez1.trans ez21.symm
          subst q22
          refine And.intro (by omega) ?_
          intro σ23 e24
          intro z25 ez25 hz25
          have hz25 : (0 : Int) ≤ z25 ∧ z25 ≤ (1200 : Int) := hz25
          try have t26 : σ23 86 8 = τ0 86 8 := (ups_r e24 (by omega))
          refine Exists.intro z25 (And.intro rfl (And.intro (by show 0 ≤ z25; omega) ?_))
          rintro z27 m_ h28
          obtain rfl : σ23 = m_ := h28.2.2
          have h29 : z27 = seeF_ σ23 z25 := h28.1
          have h30 : (z25 < σ23 86 7 ∧ 0 ≤ z27 ∧ z27 ≤ 255) ∨ (σ23 86 7 ≤ z25 ∧ z27 = -1) := h28.2.1
          try have t31 : σ23 86 7 = τ0 86 7 := (ups_r e24 (by omega))
          have t32 : σ23 86 9 = z1 := ups_v e24
          have hc1 : z27 = seeF_ σ (σ23 86 9) := (h28.1).trans ((congrArg (seeF_ σ23) (show z25 = σ23 86 9 by omega)).trans (seeF_fr (by omega) (fun j => ((ups_r e24 (by omega)).trans (hf0 _ _ (by omega))))))
          refine And.intro (fun h33 => ?_) (fun h33 => ?_)
          · skip
            refine B rfl ?_
            refine Exists.intro (z27, 97, 122) (And.intro rfl (And.intro True.intro ?_))
            rintro z34 m_ h35
            obtain rfl : σ23 = m_ := h35.2
            have h36 : (z34 = 1 ∧ 97 ≤ z27 ∧ z27 ≤ 122) ∨ (z34 = 0 ∧ ¬ (97 ≤ z27 ∧ z27 ≤ 122)) := h35.1
            refine And.intro (fun h37 => ?_) (fun h37 => ?_)
            · skip
              refine B rfl ?_
              refine Exists.intro (z27, 48, 57) (And.intro rfl (And.intro True.intro ?_))
              rintro z38 m_ h39
              obtain rfl : σ23 = m_ := h39.2
              have h40 : (z38 = 1 ∧ 48 ≤ z27 ∧ z27 ≤ 57) ∨ (z38 = 0 ∧ ¬ (48 ≤ z27 ∧ z27 ≤ 57)) := h39.1
              refine And.intro (fun h41 => ?_) (fun h41 => ?_)
              · skip
                refine B rfl ?_
                refine And.intro (fun h42 => ?_) (fun h42 => ?_)
                · skip
                  refine B rfl ?_
                  refine And.intro (by omega) ?_
                  intro σ43 e44
                  intro z45 ez45 hz45
                  have hz45 : (0 : Int) ≤ z45 ∧ z45 ≤ (1200 : Int) := hz45
                  try have t46 : σ43 86 8 = σ23 86 8 := (ups_r e44 (by omega))
                  refine And.intro (by omega) ?_
                  refine And.intro (by omega) ?_
                  intro σ47 e48
                  refine Exists.intro 0 (And.intro rfl ?_)
                  try have t49 : σ47 86 9 = σ23 86 9 := ((ups_r e48 (by omega)).trans (ups_r e44 (by omega)))
                  have t50 : σ47 86 8 = z45 + 1 := ups_v e48
                  try have t51 : σ47 86 7 = σ23 86 7 := ((ups_r e48 (by omega)).trans (ups_r e44 (by omega)))
                  have t52 : σ47 86 10 = 4 := ((ups_r e48 (by omega))).trans (ups_v e44)
                  try have t53 : σ47 86 12 = τ0 86 12 := ((ups_r e48 (by omega)).trans ((ups_r e44 (by omega)).trans (ups_r e24 (by omega))))
                  exact (And.intro (by show σ47 86 9 ≤ σ47 86 8; omega) (And.intro (by show σ47 86 8 ≤ σ47 86 7; omega) (And.intro (by show σ47 86 7 = σ 86 7; omega) (And.intro (by show σ 86 8 ≤ σ47 86 8 ∧ (σ 86 8 < σ47 86 8 ∨ σ47 86 10 ≤ σ 86 10); omega) (And.intro (by show σ47 86 12 = σ 86 12; omega) (And.intro (by show (σ 86 8 < σ47 86 8 ∨ σ47 86 10 ≤ 0); omega) (fun k j hk => ((ups_r e48 (by omega)).trans ((ups_r e44 (by omega)).trans ((ups_r e24 (by omega)).trans (hf0 _ _ (by omega))))))))))))
                · skip
                  show WP_ X G Q 0 0 ad SHS_ σ23 221 [(42, 86), (0, z27)] [(42, 86)]
                  refine B rfl ?_
                  refine B rfl ?_
                  refine And.intro (by omega) ?_
                  intro σ54 e55
                  intro z56 ez56 hz56
                  have hz56 : (0 : Int) ≤ z56 ∧ z56 ≤ (1200 : Int) := hz56
                  try have t57 : σ54 86 8 = σ23 86 8 := (ups_r e55 (by omega))
                  refine And.intro (by omega) ?_
                  refine And.intro (by omega) ?_
                  intro σ58 e59
                  refine Exists.intro 0 (And.intro rfl ?_)
                  try have t60 : σ58 86 9 = σ23 86 9 := ((ups_r e59 (by omega)).trans (ups_r e55 (by omega)))
                  have t61 : σ58 86 8 = z56 + 1 := ups_v e59
                  try have t62 : σ58 86 7 = σ23 86 7 := ((ups_r e59 (by omega)).trans (ups_r e55 (by omega)))
                  have t63 : σ58 86 10 = 3 := ((ups_r e59 (by omega))).trans (ups_v e55)
                  try have t64 : σ58 86 12 = τ0 86 12 := ((ups_r e59 (by omega)).trans ((ups_r e55 (by omega)).trans (ups_r e24 (by omega))))
                  exact (And.intro (by show σ58 86 9 ≤ σ58 86 8; omega) (And.intro (by show σ58 86 8 ≤ σ58 86 7; omega) (And.intro (by show σ58 86 7 = σ 86 7; omega) (And.intro (by show σ 86 8 ≤ σ58 86 8 ∧ (σ 86 8 < σ58 86 8 ∨ σ58 86 10 ≤ σ 86 10); omega) (And.intro (by show σ58 86 12 = σ 86 12; omega) (And.intro (by show (σ 86 8 < σ58 86 8 ∨ σ58 86 10 ≤ 0); omega) (fun k j hk => ((ups_r e59 (by omega)).trans ((ups_r e55 (by omega)).trans ((ups_r e24 (by omega)).trans (hf0 _ _ (by omega))))))))))))
              · skip
                show WP_ X G Q 0 0 ad SHS_ σ23 139 [(42, 86), (0, z27)] []
                refine B rfl ?_
                refine And.intro (by omega) ?_
                intro σ65 e66
                show WP_ X G Q 0 0 ad SHS_ σ65 144 [(42, 86), (0, z27)] []
                refine wdrop_ (L' := [(42, 86), (9, 0)]) ⟨Or.inr rfl, ⟨Or.inl rfl, trivial⟩⟩ ?_
                have lp_144 : ∀ (nq_ : Nat)  (τ144 : Me_t), (∀ k j : Int, ¬ (k = 86) → τ144 k j = σ k j) → (τ144 86 8 ≤ τ144 86 7) → (τ144 86 7 = σ 86 7) → (τ144 86 12 = σ 86 12) → (τ144 86 9 ≤ τ144 86 8) → (σ 86 8 ≤ τ144 86 9) → (z27 = seeF_ σ (τ144 86 9)) → (48 ≤ z27 ∧ z27 ≤ 57) → (τ144 86 7 - τ144 86 8 : Int).toNat < nq_ → WP_ X G Q 0 0 ad SHS_ τ144 144 [(42, 86), (9, 0)] [] := by
                  intro nq_
                  induction nq_ with
                  | zero => intros; omega
                  | succ nq_ ih_144 =>
                    intro  τ144 hf144 hi144_0 hi144_1 hi144_2 hi144_3 hi144_4 hi144_5 hi144_6 hm144
                    refine B rfl ?_
                    intro z67 ez67 hz67
                    have hz67 : (0 : Int) ≤ z67 ∧ z67 ≤ (1200 : Int) := hz67
                    refine Exists.intro z67 (And.intro rfl (And.intro (by show 0 ≤ z67; omega) ?_))
                    rintro z68 m_ h69
                    obtain rfl : τ144 = m_ := h69.2.2
                    have h70 : z68 = seeF_ τ144 z67 := h69.1
                    have h71 : (z67 < τ144 86 7 ∧ 0 ≤ z68 ∧ z68 ≤ 255) ∨ (τ144 86 7 ≤ z67 ∧ z68 = -1) := h69.2.1
                    have hsf144 : z67 = τ144 86 9 → z68 = z27 := fun hq => (h69.1).trans ((congrArg (seeF_ τ144) hq).trans ((seeF_fr (by omega) (fun j => (hf144 _ _ (by omega)))).trans hi144_5.symm))
                    refine Exists.intro (z68, 48, 57) (And.intro rfl (And.intro True.intro ?_))
                    rintro z72 m_ h73
                    obtain rfl : τ144 = m_ := h73.2
                    have h74 : (z72 = 1 ∧ 48 ≤ z68 ∧ z68 ≤ 57) ∨ (z72 = 0 ∧ ¬ (48 ≤ z68 ∧ z68 ≤ 57)) := h73.1
                    refine And.intro (fun h75 => ?_) (fun h75 => ?_)
                    · skip
                      refine B rfl ?_
                      refine And.intro (by omega) ?_
                      intro σ76 e77
                      refine B rfl ?_
                      refine Exists.intro 0 (And.intro rfl ?_)
                      try have t78 : σ76 86 9 = τ144 86 9 := (ups_r e77 (by omega))
                      try have t79 : σ76 86 8 = τ144 86 8 := (ups_r e77 (by omega))
                      try have t80 : σ76 86 7 = τ144 86 7 := (ups_r e77 (by omega))
                      have t81 : σ76 86 10 = 2 := ups_v e77
                      try have t82 : σ76 86 12 = τ144 86 12 := (ups_r e77 (by omega))
                      exact (And.intro (by show σ76 86 9 ≤ σ76 86 8; omega) (And.intro (by show σ76 86 8 ≤ σ76 86 7; omega) (And.intro (by show σ76 86 7 = σ 86 7; omega) (And.intro (by show σ 86 8 ≤ σ76 86 8 ∧ (σ 86 8 < σ76 86 8 ∨ σ76 86 10 ≤ σ 86 10); omega) (And.intro (by show σ76 86 12 = σ 86 12; omega) (And.intro (by show (σ 86 8 < σ76 86 8 ∨ σ76 86 10 ≤ 0); omega) (fun k j hk => ((ups_r e77 (by omega)).trans (hf144 _ _ (by omega))))))))))
                    · skip
                      show WP_ X G Q 0 0 ad SHS_ τ144 165 [(42, 86), (9, 0)] []
                      refine B rfl ?_
                      intro z83 ez83 hz83
                      have hz83 : (0 : Int) ≤ z83 ∧ z83 ≤ (99999 : Int) := rgl_ hz83 (by decide +kernel) (by decide +kernel) (by decide +kernel)
                      try have t84 : τ144 86 11 = σ 86 11 := (hf144 _ _ (by omega))
                      refine And.intro (by omega) ?_
                      intro z85 ez85 hz85
                      have q86 : z67 = z85 := ez67.trans ez85.symm
                      subst q86
                      refine Exists.intro z67 (And.intro rfl (And.intro (by show 0 ≤ z67; omega) ?_))
                      rintro z87 m_ h88
                      obtain rfl : τ144 = m_ := h88.2.2
                      have h89 : z87 = seeF_ τ144 z67 := h88.1
                      have h90 : (z67 < τ144 86 7 ∧ 0 ≤ z87 ∧ z87 ≤ 255) ∨ (τ144 86 7 ≤ z67 ∧ z87 = -1) := h88.2.1
                      have hzz : z87 = z68 := (h88.1).trans (h69.1).symm
                      refine And.intro (by omega) ?_
                      refine And.intro (by omega) ?_
                      refine Exists.intro 99999 (Exists.intro (((10 * z83) + z87) - 48) (And.intro rfl ?_))
                      intro z91 hz91
                      refine And.intro (by omega) ?_
                      intro σ92 e93
                      intro z94 ez94 hz94
                      have hz94 : (0 : Int) ≤ z94 ∧ z94 ≤ (1200 : Int) := hz94
                      try have t95 : σ92 86 8 = τ144 86 8 := (ups_r e93 (by omega))
                      refine And.intro (by omega) ?_
                      refine And.intro (by omega) ?_
                      intro σ96 e97
                      try have t98 : σ96 86 7 = τ144 86 7 := ((ups_r e97 (by omega)).trans (ups_r e93 (by omega)))
                      have t99 : σ96 86 8 = z94 + 1 := ups_v e97
                      try have t100 : σ96 86 12 = τ144 86 12 := ((ups_r e97 (by omega)).trans (ups_r e93 (by omega)))
                      try have t101 : σ96 86 9 = τ144 86 9 := ((ups_r e97 (by omega)).trans (ups_r e93 (by omega)))
                      exact ih_144  σ96 (fun k j hk => ((ups_r e97 (by omega)).trans ((ups_r e93 (by omega)).trans (hf144 _ _ (by omega))))) (by show σ96 86 8 ≤ σ96 86 7; omega) (by show σ96 86 7 = σ 86 7; omega) (by show σ96 86 12 = σ 86 12; omega) (by show σ96 86 9 ≤ σ96 86 8; omega) (by show σ 86 8 ≤ σ96 86 9; omega) (by show z27 = seeF_ σ (σ96 86 9); rw [show σ96 86 9 = τ144 86 9 from ((ups_r e97 (by omega)).trans (ups_r e93 (by omega)))]; exact hi144_5) (by show 48 ≤ z27 ∧ z27 ≤ 57; omega) (by omega)
                try have t102 : σ65 86 7 = σ23 86 7 := (ups_r e66 (by omega))
                try have t103 : σ65 86 8 = σ23 86 8 := (ups_r e66 (by omega))
                try have t104 : σ65 86 12 = τ0 86 12 := ((ups_r e66 (by omega)).trans (ups_r e24 (by omega)))
                try have t105 : σ65 86 9 = σ23 86 9 := (ups_r e66 (by omega))
                exact lp_144 ((σ65 86 7 - σ65 86 8 : Int).toNat + 1)  σ65 (fun k j hk => ((ups_r e66 (by omega)).trans ((ups_r e24 (by omega)).trans (hf0 _ _ (by omega))))) (by show σ65 86 8 ≤ σ65 86 7; omega) (by show σ65 86 7 = σ 86 7; omega) (by show σ65 86 12 = σ 86 12; omega) (by show σ65 86 9 ≤ σ65 86 8; omega) (by show σ 86 8 ≤ σ65 86 9; omega) (by show z27 = seeF_ σ (σ65 86 9); first | exact hc1 | (rw [show σ65 86 9 = σ23 86 9 from (ups_r e66 (by omega))]; exact hc1)) (by show 48 ≤ z27 ∧ z27 ≤ 57; omega) (by omega)
            · skip
              show WP_ X G Q 0 0 ad SHS_ σ23 83 [(42, 86), (0, z27)] []
              refine wdrop_ (L' := [(42, 86), (9, 0)]) ⟨Or.inr rfl, ⟨Or.inl rfl, trivial⟩⟩ ?_
              have lp_83 : ∀ (nq_ : Nat)  (τ83 : Me_t), (∀ k j : Int, ¬ (k = 86) → τ83 k j = σ k j) → (τ83 86 8 ≤ τ83 86 7) → (τ83 86 7 = σ 86 7) → (τ83 86 12 = σ 86 12) → (τ83 86 9 ≤ τ83 86 8) → (σ 86 8 ≤ τ83 86 9) → (z27 = seeF_ σ (τ83 86 9)) → (97 ≤ z27 ∧ z27 ≤ 122) → (τ83 86 7 - τ83 86 8 : Int).toNat < nq_ → WP_ X G Q 0 0 ad SHS_ τ83 83 [(42, 86), (9, 0)] [] := by
                intro nq_
                induction nq_ with
                | zero => intros; omega
                | succ nq_ ih_83 =>
                  intro  τ83 hf83 hi83_0 hi83_1 hi83_2 hi83_3 hi83_4 hi83_5 hi83_6 hm83
                  refine B rfl ?_
                  intro z106 ez106 hz106
                  have hz106 : (0 : Int) ≤ z106 ∧ z106 ≤ (1200 : Int) := hz106
                  refine Exists.intro z106 (And.intro rfl (And.intro (by show 0 ≤ z106; omega) ?_))
                  rintro z107 m_ h108
                  obtain rfl : τ83 = m_ := h108.2.2
                  have h109 : z107 = seeF_ τ83 z106 := h108.1
                  have h110 : (z106 < τ83 86 7 ∧ 0 ≤ z107 ∧ z107 ≤ 255) ∨ (τ83 86 7 ≤ z106 ∧ z107 = -1) := h108.2.1
                  have hsf83 : z106 = τ83 86 9 → z107 = z27 := fun hq => (h108.1).trans ((congrArg (seeF_ τ83) hq).trans ((seeF_fr (by omega) (fun j => (hf83 _ _ (by omega)))).trans hi83_5.symm))
                  refine Exists.intro (z107, 97, 122) (And.intro rfl (And.intro True.intro ?_))
                  rintro z111 m_ h112
                  obtain rfl : τ83 = m_ := h112.2
                  have h113 : (z111 = 1 ∧ 97 ≤ z107 ∧ z107 ≤ 122) ∨ (z111 = 0 ∧ ¬ (97 ≤ z107 ∧ z107 ≤ 122)) := h112.1
                  refine And.intro (fun h114 => ?_) (fun h114 => ?_)
                  · skip
                    refine B rfl ?_
                    refine And.intro (by omega) ?_
                    intro σ115 e116
                    refine B rfl ?_
                    refine Exists.intro 0 (And.intro rfl ?_)
                    try have t117 : σ115 86 9 = τ83 86 9 := (ups_r e116 (by omega))
                    try have t118 : σ115 86 8 = τ83 86 8 := (ups_r e116 (by omega))
                    try have t119 : σ115 86 7 = τ83 86 7 := (ups_r e116 (by omega))
                    have t120 : σ115 86 10 = 1 := ups_v e116
                    try have t121 : σ115 86 12 = τ83 86 12 := (ups_r e116 (by omega))
                    exact (And.intro (by show σ115 86 9 ≤ σ115 86 8; omega) (And.intro (by show σ115 86 8 ≤ σ115 86 7; omega) (And.intro (by show σ115 86 7 = σ 86 7; omega) (And.intro (by show σ 86 8 ≤ σ115 86 8 ∧ (σ 86 8 < σ115 86 8 ∨ σ115 86 10 ≤ σ 86 10); omega) (And.intro (by show σ115 86 12 = σ 86 12; omega) (And.intro (by show (σ 86 8 < σ115 86 8 ∨ σ115 86 10 ≤ 0); omega) (fun k j hk => ((ups_r e116 (by omega)).trans (hf83 _ _ (by omega))))))))))
                  · skip
                    show WP_ X G Q 0 0 ad SHS_ τ83 104 [(42, 86), (9, 0)] []
                    refine B rfl ?_
                    intro z122 ez122 hz122
                    have q123 : z106 = z122 := ez106.trans ez122.symm
                    subst q123
                    refine And.intro (by omega) ?_
                    refine And.intro (by omega) ?_
                    intro σ124 e125
                    try have t126 : σ124 86 7 = τ83 86 7 := (ups_r e125 (by omega))
                    have t127 : σ124 86 8 = z106 + 1 := ups_v e125
                    try have t128 : σ124 86 12 = τ83 86 12 := (ups_r e125 (by omega))
                    try have t129 : σ124 86 9 = τ83 86 9 := (ups_r e125 (by omega))
                    exact ih_83  σ124 (fun k j hk => ((ups_r e125 (by omega)).trans (hf83 _ _ (by omega)))) (by show σ124 86 8 ≤ σ124 86 7; omega) (by show σ124 86 7 = σ 86 7; omega) (by show σ124 86 12 = σ 86 12; omega) (by show σ124 86 9 ≤ σ124 86 8; omega) (by show σ 86 8 ≤ σ124 86 9; omega) (by show z27 = seeF_ σ (σ124 86 9); rw [show σ124 86 9 = τ83 86 9 from (ups_r e125 (by omega))]; exact hi83_5) (by show 97 ≤ z27 ∧ z27 ≤ 122; omega) (by omega)
              try have t130 : σ23 86 12 = τ0 86 12 := (ups_r e24 (by omega))
              exact lp_83 ((σ23 86 7 - σ23 86 8 : Int).toNat + 1)  σ23 (fun k j hk => ((ups_r e24 (by omega)).trans (hf0 _ _ (by omega)))) (by show σ23 86 8 ≤ σ23 86 7; omega) (by show σ23 86 7 = σ 86 7; omega) (by show σ23 86 12 = σ 86 12; omega) (by show σ23 86 9 ≤ σ23 86 8; omega) (by show σ 86 8 ≤ σ23 86 9; omega) (by show z27 = seeF_ σ (σ23 86 9); first | exact hc1 | (rw [show σ23 86 9 = σ23 86 9 from rfl]; exact hc1)) (by show 97 ≤ z27 ∧ z27 ≤ 122; omega) (by omega)
          · skip
            show WP_ X G Q 0 0 ad SHS_ σ23 61 [(42, 86), (0, z27)] []
            refine B rfl ?_
            refine And.intro (by omega) ?_
            intro σ131 e132
            refine B rfl ?_
            refine Exists.intro 0 (And.intro rfl ?_)
            try have t133 : σ131 86 9 = σ23 86 9 := (ups_r e132 (by omega))
            try have t134 : σ131 86 8 = σ23 86 8 := (ups_r e132 (by omega))
            try have t135 : σ131 86 7 = σ23 86 7 := (ups_r e132 (by omega))
            have t136 : σ131 86 10 = 0 := ups_v e132
            try have t137 : σ131 86 12 = τ0 86 12 := ((ups_r e132 (by omega)).trans (ups_r e24 (by omega)))
            exact (And.intro (by show σ131 86 9 ≤ σ131 86 8; omega) (And.intro (by show σ131 86 8 ≤ σ131 86 7; omega) (And.intro (by show σ131 86 7 = σ 86 7; omega) (And.intro (by show σ 86 8 ≤ σ131 86 8 ∧ (σ 86 8 < σ131 86 8 ∨ σ131 86 10 ≤ σ 86 10); omega) (And.intro (by show σ131 86 12 = σ 86 12; omega) (And.intro (by show (σ 86 8 < σ131 86 8 ∨ σ131 86 10 ≤ 0); omega) (fun k j hk => ((ups_r e132 (by omega)).trans ((ups_r e24 (by omega)).trans (hf0 _ _ (by omega)))))))))))
        · skip
          show WP_ X G Q 0 0 ad SHS_ τ0 26 [(42, 86), (9, 0)] []
          refine B rfl ?_
          intro z138 ez138 hz138
          have q139 : z1 = z138 := ez1.trans ez138.symm
          subst q139
          refine And.intro (by omega) ?_
          refine And.intro (by omega) ?_
          intro σ140 e141
          try have t142 : σ140 86 7 = τ0 86 7 := (ups_r e141 (by omega))
          have t143 : σ140 86 8 = z1 + 1 := ups_v e141
          try have t144 : σ140 86 12 = τ0 86 12 := (ups_r e141 (by omega))
          exact ih_0  σ140 (fun k j hk => ((ups_r e141 (by omega)).trans (hf0 _ _ (by omega)))) (by show σ140 86 8 ≤ σ140 86 7; omega) (by show σ140 86 7 = σ 86 7; omega) (by show σ140 86 12 = σ 86 12; omega) (by show σ 86 8 ≤ σ140 86 8; omega) (by omega)
  exact lp_0 ((σ 86 7 - σ 86 8 : Int).toNat + 1)  σ (fun k j hk => rfl) (by show σ 86 8 ≤ σ 86 7; omega) (by show σ 86 7 = σ 86 7; omega) (by show σ 86 12 = σ 86 12; omega) (by show σ 86 8 ≤ σ 86 8; omega) (by omega)
def as_G_X11_good : Unit → List Sv_t := fun a => [(42, 86)]
def pre_G_X11_good : Unit → Me_t → Prop := fun a σ => True
def post_G_X11_good : Unit → Me_t → Int → Me_t → Prop := fun a σ z σ' => ((z = 1 ∧ σ 86 12 = 0) ∨ (z = 0 ∧ σ 86 12 ≠ 0)) ∧ (σ = σ')
set_option maxHeartbeats 3000000 in
set_option maxRecDepth 100000 in
theorem ct_G_X11_good (l : Launch) : CT_ l yX11_good cX11_good 1 (some .boolean) 0 0 as_G_X11_good (rmI_) pre_G_X11_good post_G_X11_good := by
  refine ct_of (by decide) (fun _ => Nat.le_of_ble_eq_true rfl) ?_
  intro X G Q ad σ a hl hR E hG R hM hv hp
  have B := @bk_ X G Q 0 0 ad SHS_ RX11 cX11_good 1 (some .boolean) flX11 plX11 knX11 [] _ _ none kX11_good [] flX11_ok plX11_ok knX11_ok eX11_good oX11_good
    (fun _ h => absurd h List.not_mem_nil) R sok_no E
  show WP_ X G Q 0 0 ad SHS_ σ 0 [(42, 86)] []
  refine B rfl ?_
  intro z1 ez1 hz1
  have hz1 : (0 : Int) ≤ z1 ∧ z1 ≤ (3 : Int) := hz1
  refine And.intro (fun h2 => ?_) (fun h2 => ?_)
  · skip
    refine B rfl ?_
    refine And.intro (by omega) ?_
    refine Exists.intro _ (And.intro rfl ?_)
    exact (And.intro (by show (0 = 1 ∧ σ 86 12 = 0) ∨ (0 = 0 ∧ σ 86 12 ≠ 0); omega) rfl)
  · skip
    refine B rfl ?_
    refine And.intro (by omega) ?_
    refine Exists.intro _ (And.intro rfl ?_)
    exact (And.intro (by show (1 = 1 ∧ σ 86 12 = 0) ∨ (1 = 0 ∧ σ 86 12 ≠ 0); omega) rfl)
def as_G_X11_errs : Int → List Sv_t := fun a => [(42, 86), (0, a)]
def pre_G_X11_errs : Int → Me_t → Prop := fun a σ => (1 ≤ a) ∧ (a ≤ 3)
def post_G_X11_errs : Int → Me_t → Int → Me_t → Prop := fun a σ z σ' => (σ' 86 8 = σ 86 8) ∧ (σ' 86 9 = σ 86 9) ∧ (σ' 86 7 = σ 86 7) ∧ (σ' 86 10 = σ 86 10) ∧ (σ' 86 11 = σ 86 11) ∧ ((σ 86 12 = 0 → σ' 86 12 = a) ∧ (σ 86 12 ≠ 0 → σ' 86 12 = σ 86 12)) ∧ (∀ k j : Int, ¬ (k = 86) → σ' k j = σ k j)
set_option maxHeartbeats 3000000 in
set_option maxRecDepth 100000 in
theorem ct_G_X11_errs (l : Launch) : CT_ l yX11_errs cX11_errs 2 none 1 20 as_G_X11_errs (rmV_) pre_G_X11_errs post_G_X11_errs := by
  refine ct_of (by decide) (fun _ => Nat.le_of_ble_eq_true rfl) ?_
  intro X G Q ad σ a hl hR E hG R hM hv hp
  obtain ⟨a1, rfl⟩ : ∃ q : Int, q = a := ⟨_, rfl⟩
  have r_a1 : -2147483648 ≤ a1 ∧ a1 ≤ 2147483647 := hv (0, a1) (List.mem_of_getElem? (i := 1) rfl)
  have hp0 : 1 ≤ a1 := hp.1
  have hp1 : a1 ≤ 3 := hp.2
  have B := @bk_ X G Q 0 0 ad SHS_ RX11 cX11_errs 2 none flX11 plX11 knX11 [(294, 1, TR_ as_G_X11_good (rmI_) pre_G_X11_good post_G_X11_good)] _ _ none kX11_errs [] flX11_ok plX11_ok knX11_ok eX11_errs oX11_errs
    (List.forall_mem_cons.mpr ⟨cok_v (t := 32) (c := 11) (N := 39) (n := 0) (idx := 147) E (ct_G_X11_good X.2.1) (by rw [hR]; decide) (Nat.zero_le _) (Nat.zero_le _) hG rfl rfl ⟨rfl, by decide, by decide, by decide⟩ (fun _ => ⟨_, _, rfl, rfl⟩) wl_X11_147 wi_X11_good ws_X11_good wn_X11 wc_X11_good, fun _ h => absurd h List.not_mem_nil⟩) R sok_no E
  show WP_ X G Q 0 0 ad SHS_ σ 0 [(42, 86), (0, a1)] []
  refine B rfl ?_
  refine Exists.intro () (And.intro rfl (And.intro True.intro ?_))
  rintro z1 m_ h2
  obtain rfl : σ = m_ := h2.2
  have h3 : (z1 = 1 ∧ σ 86 12 = 0) ∨ (z1 = 0 ∧ σ 86 12 ≠ 0) := h2.1
  refine And.intro (fun h4 => ?_) (fun h4 => ?_)
  · skip
    refine B rfl ?_
    refine And.intro (by omega) ?_
    intro σ5 e6
    intro z7 ez7 hz7
    have hz7 : (0 : Int) ≤ z7 ∧ z7 ≤ (1200 : Int) := hz7
    try have t8 : σ5 86 9 = σ 86 9 := (ups_r e6 (by omega))
    refine And.intro (by omega) ?_
    intro σ9 e10
    refine Exists.intro 0 (And.intro rfl ?_)
    try have t11 : σ9 86 8 = σ 86 8 := ((ups_r e10 (by omega)).trans (ups_r e6 (by omega)))
    try have t12 : σ9 86 9 = σ5 86 9 := (ups_r e10 (by omega))
    try have t13 : σ9 86 7 = σ 86 7 := ((ups_r e10 (by omega)).trans (ups_r e6 (by omega)))
    try have t14 : σ9 86 10 = σ 86 10 := ((ups_r e10 (by omega)).trans (ups_r e6 (by omega)))
    try have t15 : σ9 86 11 = σ 86 11 := ((ups_r e10 (by omega)).trans (ups_r e6 (by omega)))
    have t16 : σ9 86 12 = a1 := ((ups_r e10 (by omega))).trans (ups_v e6)
    exact (And.intro (by show σ9 86 8 = σ 86 8; omega) (And.intro (by show σ9 86 9 = σ 86 9; omega) (And.intro (by show σ9 86 7 = σ 86 7; omega) (And.intro (by show σ9 86 10 = σ 86 10; omega) (And.intro (by show σ9 86 11 = σ 86 11; omega) (And.intro (by show (σ 86 12 = 0 → σ9 86 12 = a1) ∧ (σ 86 12 ≠ 0 → σ9 86 12 = σ 86 12); omega) (fun k j hk => ((ups_r e10 (by omega)).trans (ups_r e6 (by omega))))))))))
  · skip
    refine Exists.intro 0 (And.intro rfl ?_)
    exact (And.intro (by show σ 86 8 = σ 86 8; omega) (And.intro (by show σ 86 9 = σ 86 9; omega) (And.intro (by show σ 86 7 = σ 86 7; omega) (And.intro (by show σ 86 10 = σ 86 10; omega) (And.intro (by show σ 86 11 = σ 86 11; omega) (And.intro (by show (σ 86 12 = 0 → σ 86 12 = a1) ∧ (σ 86 12 ≠ 0 → σ 86 12 = σ 86 12); omega) (fun k j hk => rfl)))))))
def as_G_X11_is : Int → List Sv_t := fun a => [(42, 86), (4, a)]
def pre_G_X11_is : Int → Me_t → Prop := fun a σ => (σ 86 9 ≤ σ 86 8) ∧ (σ 86 8 ≤ σ 86 7) ∧ (1 ≤ a ∧ a ≤ 14)
def post_G_X11_is : Int → Me_t → Int → Me_t → Prop := fun a σ z σ' => (0 ≤ z ∧ z ≤ 1) ∧ (z = isF_ σ a) ∧ (z = 1 → σ 86 12 = 0 ∧ σ 86 10 = 1) ∧ (σ = σ')
set_option maxHeartbeats 3000000 in
set_option maxRecDepth 100000 in
theorem ct_G_X11_is (l : Launch) : CT_ l yX11_is cX11_is 4 (some .boolean) 5 106 as_G_X11_is (rmI_) pre_G_X11_is post_G_X11_is := by
  refine ct_of (by decide) (fun _ => Nat.le_of_ble_eq_true rfl) ?_
  intro X G Q ad σ a hl hR E hG R hM hv hp
  obtain ⟨a1, rfl⟩ : ∃ q : Int, q = a := ⟨_, rfl⟩
  have hp0 : σ 86 9 ≤ σ 86 8 := hp.1
  have hp1 : σ 86 8 ≤ σ 86 7 := hp.2.1
  have hp2 : 1 ≤ a1 ∧ a1 ≤ 14 := hp.2.2
  have B := @bk_ X G Q 0 0 ad SHS_ RX11 cX11_is 4 (some .boolean) flX11 plX11 knX11 [(294, 1, TR_ as_G_X11_good (rmI_) pre_G_X11_good post_G_X11_good), (300, 1, TLEN_), (310, 2, TCHR_)] _ _ none kX11_is [7, 15, 31, 39, 47, 51, 70] flX11_ok plX11_ok knX11_ok eX11_is oX11_is
    (List.forall_mem_cons.mpr ⟨cok_v (t := 32) (c := 11) (N := 39) (n := 0) (idx := 147) E (ct_G_X11_good X.2.1) (by rw [hR]; decide) (Nat.zero_le _) (Nat.zero_le _) hG rfl rfl ⟨rfl, by decide, by decide, by decide⟩ (fun _ => ⟨_, _, rfl, rfl⟩) wl_X11_147 wi_X11_good ws_X11_good wn_X11 wc_X11_good, List.forall_mem_cons.mpr ⟨cok_len (idx := 150) E (by rw [hR]; decide) (Nat.zero_le _) (Nat.zero_le _) wl_X11_150, List.forall_mem_cons.mpr ⟨cok_chr (idx := 155) E (by rw [hR]; decide) (Nat.zero_le _) (Nat.zero_le _) wl_X11_155, fun _ h => absurd h List.not_mem_nil⟩⟩⟩) R sok_no E
  show WP_ X G Q 0 0 ad SHS_ σ 0 [(42, 86), (4, a1), (9, 0), (9, 0)] []
  have hsl := slen_r (c := a1) hp2
  have rZ := rgf_ (t := 32) (j := 7) hM (hv (42, 86) (List.mem_of_getElem? (i := 0) rfl)) (by decide)
  have rZ : (0 : Int) ≤ σ 86 7 ∧ σ 86 7 ≤ (1200 : Int) := rZ
  refine B rfl ?_
  refine Exists.intro () (And.intro rfl (And.intro True.intro ?_))
  rintro z1 m_ h2
  obtain rfl : σ = m_ := h2.2
  have h3 : (z1 = 1 ∧ σ 86 12 = 0) ∨ (z1 = 0 ∧ σ 86 12 ≠ 0) := h2.1
  refine And.intro (fun h4 => ?_) (fun h4 => ?_)
  · skip
    refine B rfl ?_
    have lp_39 : ∀ (nq_ : Nat) (v2 : Int) (v3 : Int), (0 ≤ v3) → (v3 ≤ slen_ a1) → ((v2 = 1 ∧ isQ_ σ a1 v3) ∨ (v2 = 0 ∧ ¬ isP_ σ a1)) → (slen_ a1 - v3 : Int).toNat < nq_ → WP_ X G Q 0 0 ad SHS_ σ 39 [(42, 86), (4, a1), (0, v2), (0, v3)] [] := by
      intro nq_
      induction nq_ with
      | zero => intros; omega
      | succ nq_ ih_39 =>
        intro v2 v3 hi39_0 hi39_1 hi39_2 hm39
        refine B rfl ?_
        refine Exists.intro a1 (And.intro rfl (And.intro (by omega) ?_))
        intro z5 ez5 hz5
        refine And.intro (fun h6 => ?_) (fun h6 => ?_)
        · skip
          refine B rfl ?_
          refine And.intro (by omega) ?_
          refine Exists.intro _ (And.intro rfl ?_)
          exact (And.intro (by show 0 ≤ v2 ∧ v2 ≤ 1; omega) (And.intro (by show v2 = isF_ σ a1; rcases hi39_2 with hq | hq; (rw [isF_1 (isQ_e hq.2 (by omega))]; omega); (rw [isF_0 hq.2]; omega)) (And.intro (by show v2 = 1 → σ 86 12 = 0 ∧ σ 86 10 = 1; intro hz1; rcases hi39_2 with hq | hq; (have hq1 := hq.2.1; omega); omega) rfl)))
        · skip
          show WP_ X G Q 0 0 ad SHS_ σ 47 [(42, 86), (4, a1), (0, v2), (0, v3)] []
          refine B rfl ?_
          refine And.intro (fun h7 => ?_) (fun h7 => ?_)
          · skip
            refine B rfl ?_
            refine And.intro (by omega) ?_
            refine Exists.intro _ (And.intro rfl ?_)
            exact (And.intro (by show 0 ≤ v2 ∧ v2 ≤ 1; omega) (And.intro (by show v2 = isF_ σ a1; rcases hi39_2 with hq | hq; (rw [isF_1 (isQ_e hq.2 (by omega))]; omega); (rw [isF_0 hq.2]; omega)) (And.intro (by show v2 = 1 → σ 86 12 = 0 ∧ σ 86 10 = 1; intro hz1; rcases hi39_2 with hq | hq; (have hq1 := hq.2.1; omega); omega) rfl)))
          · skip
            show WP_ X G Q 0 0 ad SHS_ σ 51 [(42, 86), (4, a1), (0, v2), (0, v3)] []
            refine B rfl ?_
            have hqb : σ 86 8 - σ 86 9 = slen_ a1 := by
              rcases hi39_2 with hq | hq
              · exact hq.2.1.2.2
              · omega
            intro z8 ez8 hz8
            have hz8 : (0 : Int) ≤ z8 ∧ z8 ≤ (1200 : Int) := hz8
            refine And.intro (by omega) ?_
            refine And.intro (by omega) ?_
            intro z9 ez9 hz9
            have hz9 : ((-128) : Int) ≤ z9 ∧ z9 ≤ (127 : Int) := hz9
            refine Exists.intro a1 (Exists.intro v3 (And.intro rfl (And.intro (by omega) (And.intro (by omega) ?_))))
            intro z10 ez10 hz10
            refine And.intro (fun h11 => ?_) (fun h11 => ?_)
            · skip
              refine B rfl ?_
              refine And.intro (by omega) ?_
              exact ih_39 0 (v3 + 1) (by show 0 ≤ (v3 + 1); omega) (by show (v3 + 1) ≤ slen_ a1; omega) (by show (0 = 1 ∧ isQ_ σ a1 (v3 + 1)) ∨ (0 = 0 ∧ ¬ isP_ σ a1); rcases hi39_2 with hq | hq; exact Or.inr ⟨rfl, isQ_x (by omega) (by omega) (by subst_vars; omega)⟩; omega) (by omega)
            · skip
              show WP_ X G Q 0 0 ad SHS_ σ 70 [(42, 86), (4, a1), (0, v2), (0, v3)] []
              refine B rfl ?_
              refine B rfl ?_
              refine And.intro (by omega) ?_
              exact ih_39 1 (v3 + 1) (by show 0 ≤ (v3 + 1); omega) (by show (v3 + 1) ≤ slen_ a1; omega) (by show (1 = 1 ∧ isQ_ σ a1 (v3 + 1)) ∨ (1 = 0 ∧ ¬ isP_ σ a1); rcases hi39_2 with hq | hq; exact Or.inl ⟨rfl, isQ_s (by omega) hq.2 (by subst_vars; omega)⟩; omega) (by omega)
    exact lp_39 ((slen_ a1 - 0 : Int).toNat + 1) 0 0 (by show 0 ≤ 0; omega) (by show 0 ≤ slen_ a1; omega) (by show (0 = 1 ∧ isQ_ σ a1 0) ∨ (0 = 0 ∧ ¬ isP_ σ a1); exact Or.inr ⟨rfl, fun hP => by have hP1 := hP.1; omega⟩) (by omega)
  · skip
    show WP_ X G Q 0 0 ad SHS_ σ 7 [(42, 86), (4, a1), (9, 0), (9, 0)] []
    refine B rfl ?_
    intro z12 ez12 hz12
    have hz12 : (0 : Int) ≤ z12 ∧ z12 ≤ (4 : Int) := hz12
    refine And.intro (fun h13 => ?_) (fun h13 => ?_)
    · skip
      refine B rfl ?_
      have lp_39 : ∀ (nq_ : Nat) (v2_1 : Int) (v3_1 : Int), (0 ≤ v3_1) → (v3_1 ≤ slen_ a1) → ((v2_1 = 1 ∧ isQ_ σ a1 v3_1) ∨ (v2_1 = 0 ∧ ¬ isP_ σ a1)) → (slen_ a1 - v3_1 : Int).toNat < nq_ → WP_ X G Q 0 0 ad SHS_ σ 39 [(42, 86), (4, a1), (0, v2_1), (0, v3_1)] [] := by
        intro nq_
        induction nq_ with
        | zero => intros; omega
        | succ nq_ ih_39 =>
          intro v2_1 v3_1 hi39_0 hi39_1 hi39_2 hm39
          refine B rfl ?_
          refine Exists.intro a1 (And.intro rfl (And.intro (by omega) ?_))
          intro z14 ez14 hz14
          refine And.intro (fun h15 => ?_) (fun h15 => ?_)
          · skip
            refine B rfl ?_
            refine And.intro (by omega) ?_
            refine Exists.intro _ (And.intro rfl ?_)
            exact (And.intro (by show 0 ≤ v2_1 ∧ v2_1 ≤ 1; omega) (And.intro (by show v2_1 = isF_ σ a1; rcases hi39_2 with hq | hq; (rw [isF_1 (isQ_e hq.2 (by omega))]; omega); (rw [isF_0 hq.2]; omega)) (And.intro (by show v2_1 = 1 → σ 86 12 = 0 ∧ σ 86 10 = 1; intro hz1; rcases hi39_2 with hq | hq; (have hq1 := hq.2.1; omega); omega) rfl)))
          · skip
            show WP_ X G Q 0 0 ad SHS_ σ 47 [(42, 86), (4, a1), (0, v2_1), (0, v3_1)] []
            refine B rfl ?_
            refine And.intro (fun h16 => ?_) (fun h16 => ?_)
            · skip
              refine B rfl ?_
              refine And.intro (by omega) ?_
              refine Exists.intro _ (And.intro rfl ?_)
              exact (And.intro (by show 0 ≤ v2_1 ∧ v2_1 ≤ 1; omega) (And.intro (by show v2_1 = isF_ σ a1; rcases hi39_2 with hq | hq; (rw [isF_1 (isQ_e hq.2 (by omega))]; omega); (rw [isF_0 hq.2]; omega)) (And.intro (by show v2_1 = 1 → σ 86 12 = 0 ∧ σ 86 10 = 1; intro hz1; rcases hi39_2 with hq | hq; (have hq1 := hq.2.1; omega); omega) rfl)))
            · skip
              show WP_ X G Q 0 0 ad SHS_ σ 51 [(42, 86), (4, a1), (0, v2_1), (0, v3_1)] []
              refine B rfl ?_
              have hqb : σ 86 8 - σ 86 9 = slen_ a1 := by
                rcases hi39_2 with hq | hq
                · exact hq.2.1.2.2
                · omega
              intro z17 ez17 hz17
              have hz17 : (0 : Int) ≤ z17 ∧ z17 ≤ (1200 : Int) := hz17
              refine And.intro (by omega) ?_
              refine And.intro (by omega) ?_
              intro z18 ez18 hz18
              have hz18 : ((-128) : Int) ≤ z18 ∧ z18 ≤ (127 : Int) := hz18
              refine Exists.intro a1 (Exists.intro v3_1 (And.intro rfl (And.intro (by omega) (And.intro (by omega) ?_))))
              intro z19 ez19 hz19
              refine And.intro (fun h20 => ?_) (fun h20 => ?_)
              · skip
                refine B rfl ?_
                refine And.intro (by omega) ?_
                exact ih_39 0 (v3_1 + 1) (by show 0 ≤ (v3_1 + 1); omega) (by show (v3_1 + 1) ≤ slen_ a1; omega) (by show (0 = 1 ∧ isQ_ σ a1 (v3_1 + 1)) ∨ (0 = 0 ∧ ¬ isP_ σ a1); rcases hi39_2 with hq | hq; exact Or.inr ⟨rfl, isQ_x (by omega) (by omega) (by subst_vars; omega)⟩; omega) (by omega)
              · skip
                show WP_ X G Q 0 0 ad SHS_ σ 70 [(42, 86), (4, a1), (0, v2_1), (0, v3_1)] []
                refine B rfl ?_
                refine B rfl ?_
                refine And.intro (by omega) ?_
                exact ih_39 1 (v3_1 + 1) (by show 0 ≤ (v3_1 + 1); omega) (by show (v3_1 + 1) ≤ slen_ a1; omega) (by show (1 = 1 ∧ isQ_ σ a1 (v3_1 + 1)) ∨ (1 = 0 ∧ ¬ isP_ σ a1); rcases hi39_2 with hq | hq; exact Or.inl ⟨rfl, isQ_s (by omega) hq.2 (by subst_vars; omega)⟩; omega) (by omega)
      exact lp_39 ((slen_ a1 - 0 : Int).toNat + 1) 0 0 (by show 0 ≤ 0; omega) (by show 0 ≤ slen_ a1; omega) (by show (0 = 1 ∧ isQ_ σ a1 0) ∨ (0 = 0 ∧ ¬ isP_ σ a1); exact Or.inr ⟨rfl, fun hP => by have hP1 := hP.1; omega⟩) (by omega)
    · skip
      show WP_ X G Q 0 0 ad SHS_ σ 15 [(42, 86), (4, a1), (9, 0), (9, 0)] []
      refine B rfl ?_
      intro z21 ez21 hz21
      have hz21 : (0 : Int) ≤ z21 ∧ z21 ≤ (1200 : Int) := hz21
      intro z22 ez22 hz22
      have hz22 : (0 : Int) ≤ z22 ∧ z22 ≤ (1200 : Int) := hz22
      refine And.intro (by omega) ?_
      refine Exists.intro a1 (And.intro rfl (And.intro (by omega) ?_))
      intro z23 ez23 hz23
      refine And.intro (fun h24 => ?_) (fun h24 => ?_)
      · skip
        refine B rfl ?_
        have lp_39 : ∀ (nq_ : Nat) (v2_2 : Int) (v3_2 : Int), (0 ≤ v3_2) → (v3_2 ≤ slen_ a1) → ((v2_2 = 1 ∧ isQ_ σ a1 v3_2) ∨ (v2_2 = 0 ∧ ¬ isP_ σ a1)) → (slen_ a1 - v3_2 : Int).toNat < nq_ → WP_ X G Q 0 0 ad SHS_ σ 39 [(42, 86), (4, a1), (0, v2_2), (0, v3_2)] [] := by
          intro nq_
          induction nq_ with
          | zero => intros; omega
          | succ nq_ ih_39 =>
            intro v2_2 v3_2 hi39_0 hi39_1 hi39_2 hm39
            refine B rfl ?_
            refine Exists.intro a1 (And.intro rfl (And.intro (by omega) ?_))
            intro z25 ez25 hz25
            refine And.intro (fun h26 => ?_) (fun h26 => ?_)
            · skip
              refine B rfl ?_
              refine And.intro (by omega) ?_
              refine Exists.intro _ (And.intro rfl ?_)
              exact (And.intro (by show 0 ≤ v2_2 ∧ v2_2 ≤ 1; omega) (And.intro (by show v2_2 = isF_ σ a1; rcases hi39_2 with hq | hq; (rw [isF_1 (isQ_e hq.2 (by omega))]; omega); (rw [isF_0 hq.2]; omega)) (And.intro (by show v2_2 = 1 → σ 86 12 = 0 ∧ σ 86 10 = 1; intro hz1; rcases hi39_2 with hq | hq; (have hq1 := hq.2.1; omega); omega) rfl)))
            · skip
              show WP_ X G Q 0 0 ad SHS_ σ 47 [(42, 86), (4, a1), (0, v2_2), (0, v3_2)] []
              refine B rfl ?_
              refine And.intro (fun h27 => ?_) (fun h27 => ?_)
              · skip
                refine B rfl ?_
                refine And.intro (by omega) ?_
                refine Exists.intro _ (And.intro rfl ?_)
                exact (And.intro (by show 0 ≤ v2_2 ∧ v2_2 ≤ 1; omega) (And.intro (by show v2_2 = isF_ σ a1; rcases hi39_2 with hq | hq; (rw [isF_1 (isQ_e hq.2 (by omega))]; omega); (rw [isF_0 hq.2]; omega)) (And.intro (by show v2_2 = 1 → σ 86 12 = 0 ∧ σ 86 10 = 1; intro hz1; rcases hi39_2 with hq | hq; (have hq1 := hq.2.1; omega); omega) rfl)))
              · skip
                show WP_ X G Q 0 0 ad SHS_ σ 51 [(42, 86), (4, a1), (0, v2_2), (0, v3_2)] []
                refine B rfl ?_
                have hqb : σ 86 8 - σ 86 9 = slen_ a1 := by
                  rcases hi39_2 with hq | hq
                  · exact hq.2.1.2.2
                  · omega
                intro z28 ez28 hz28
                have q29 : z22 = z28 := ez22.trans ez28.symm
                subst q29
                refine And.intro (by omega) ?_
                refine And.intro (by omega) ?_
                intro z30 ez30 hz30
                have hz30 : ((-128) : Int) ≤ z30 ∧ z30 ≤ (127 : Int) := hz30
                refine Exists.intro a1 (Exists.intro v3_2 (And.intro rfl (And.intro (by omega) (And.intro (by omega) ?_))))
                intro z31 ez31 hz31
                refine And.intro (fun h32 => ?_) (fun h32 => ?_)
                · skip
                  refine B rfl ?_
                  refine And.intro (by omega) ?_
                  exact ih_39 0 (v3_2 + 1) (by show 0 ≤ (v3_2 + 1); omega) (by show (v3_2 + 1) ≤ slen_ a1; omega) (by show (0 = 1 ∧ isQ_ σ a1 (v3_2 + 1)) ∨ (0 = 0 ∧ ¬ isP_ σ a1); rcases hi39_2 with hq | hq; exact Or.inr ⟨rfl, isQ_x (by omega) (by omega) (by subst_vars; omega)⟩; omega) (by omega)
                · skip
                  show WP_ X G Q 0 0 ad SHS_ σ 70 [(42, 86), (4, a1), (0, v2_2), (0, v3_2)] []
                  refine B rfl ?_
                  refine B rfl ?_
                  refine And.intro (by omega) ?_
                  exact ih_39 1 (v3_2 + 1) (by show 0 ≤ (v3_2 + 1); omega) (by show (v3_2 + 1) ≤ slen_ a1; omega) (by show (1 = 1 ∧ isQ_ σ a1 (v3_2 + 1)) ∨ (1 = 0 ∧ ¬ isP_ σ a1); rcases hi39_2 with hq | hq; exact Or.inl ⟨rfl, isQ_s (by omega) hq.2 (by subst_vars; omega)⟩; omega) (by omega)
        exact lp_39 ((slen_ a1 - 0 : Int).toNat + 1) 0 0 (by show 0 ≤ 0; omega) (by show 0 ≤ slen_ a1; omega) (by show (0 = 1 ∧ isQ_ σ a1 0) ∨ (0 = 0 ∧ ¬ isP_ σ a1); exact Or.inr ⟨rfl, fun hP => by have hP1 := hP.1; omega⟩) (by omega)
      · skip
        show WP_ X G Q 0 0 ad SHS_ σ 31 [(42, 86), (4, a1), (9, 0), (9, 0)] []
        refine B rfl ?_
        refine B rfl ?_
        have lp_39 : ∀ (nq_ : Nat) (v2_3 : Int) (v3_3 : Int), (0 ≤ v3_3) → (v3_3 ≤ slen_ a1) → ((v2_3 = 1 ∧ isQ_ σ a1 v3_3) ∨ (v2_3 = 0 ∧ ¬ isP_ σ a1)) → (slen_ a1 - v3_3 : Int).toNat < nq_ → WP_ X G Q 0 0 ad SHS_ σ 39 [(42, 86), (4, a1), (0, v2_3), (0, v3_3)] [] := by
          intro nq_
          induction nq_ with
          | zero => intros; omega
          | succ nq_ ih_39 =>
            intro v2_3 v3_3 hi39_0 hi39_1 hi39_2 hm39
            refine B rfl ?_
            refine Exists.intro a1 (And.intro rfl (And.intro (by omega) ?_))
            intro z33 ez33 hz33
            refine And.intro (fun h34 => ?_) (fun h34 => ?_)
            · skip
              refine B rfl ?_
              refine And.intro (by omega) ?_
              refine Exists.intro _ (And.intro rfl ?_)
              exact (And.intro (by show 0 ≤ v2_3 ∧ v2_3 ≤ 1; omega) (And.intro (by show v2_3 = isF_ σ a1; rcases hi39_2 with hq | hq; (rw [isF_1 (isQ_e hq.2 (by omega))]; omega); (rw [isF_0 hq.2]; omega)) (And.intro (by show v2_3 = 1 → σ 86 12 = 0 ∧ σ 86 10 = 1; intro hz1; rcases hi39_2 with hq | hq; (have hq1 := hq.2.1; omega); omega) rfl)))
            · skip
              show WP_ X G Q 0 0 ad SHS_ σ 47 [(42, 86), (4, a1), (0, v2_3), (0, v3_3)] []
              refine B rfl ?_
              refine And.intro (fun h35 => ?_) (fun h35 => ?_)
              · skip
                refine B rfl ?_
                refine And.intro (by omega) ?_
                refine Exists.intro _ (And.intro rfl ?_)
                exact (And.intro (by show 0 ≤ v2_3 ∧ v2_3 ≤ 1; omega) (And.intro (by show v2_3 = isF_ σ a1; rcases hi39_2 with hq | hq; (rw [isF_1 (isQ_e hq.2 (by omega))]; omega); (rw [isF_0 hq.2]; omega)) (And.intro (by show v2_3 = 1 → σ 86 12 = 0 ∧ σ 86 10 = 1; intro hz1; rcases hi39_2 with hq | hq; (have hq1 := hq.2.1; omega); omega) rfl)))
              · skip
                show WP_ X G Q 0 0 ad SHS_ σ 51 [(42, 86), (4, a1), (0, v2_3), (0, v3_3)] []
                refine B rfl ?_
                have hqb : σ 86 8 - σ 86 9 = slen_ a1 := by
                  rcases hi39_2 with hq | hq
                  · exact hq.2.1.2.2
                  · omega
                intro z36 ez36 hz36
                have q37 : z22 = z36 := ez22.trans ez36.symm
                subst q37
                refine And.intro (by omega) ?_
                refine And.intro (by omega) ?_
                intro z38 ez38 hz38
                have hz38 : ((-128) : Int) ≤ z38 ∧ z38 ≤ (127 : Int) := hz38
                refine Exists.intro a1 (Exists.intro v3_3 (And.intro rfl (And.intro (by omega) (And.intro (by omega) ?_))))
                intro z39 ez39 hz39
                refine And.intro (fun h40 => ?_) (fun h40 => ?_)
                · skip
                  refine B rfl ?_
                  refine And.intro (by omega) ?_
                  exact ih_39 0 (v3_3 + 1) (by show 0 ≤ (v3_3 + 1); omega) (by show (v3_3 + 1) ≤ slen_ a1; omega) (by show (0 = 1 ∧ isQ_ σ a1 (v3_3 + 1)) ∨ (0 = 0 ∧ ¬ isP_ σ a1); rcases hi39_2 with hq | hq; exact Or.inr ⟨rfl, isQ_x (by omega) (by omega) (by subst_vars; omega)⟩; omega) (by omega)
                · skip
                  show WP_ X G Q 0 0 ad SHS_ σ 70 [(42, 86), (4, a1), (0, v2_3), (0, v3_3)] []
                  refine B rfl ?_
                  refine B rfl ?_
                  refine And.intro (by omega) ?_
                  exact ih_39 1 (v3_3 + 1) (by show 0 ≤ (v3_3 + 1); omega) (by show (v3_3 + 1) ≤ slen_ a1; omega) (by show (1 = 1 ∧ isQ_ σ a1 (v3_3 + 1)) ∨ (1 = 0 ∧ ¬ isP_ σ a1); rcases hi39_2 with hq | hq; exact Or.inl ⟨rfl, isQ_s (by omega) hq.2 (by subst_vars; omega)⟩; omega) (by omega)
        exact lp_39 ((slen_ a1 - 0 : Int).toNat + 1) 1 0 (by show 0 ≤ 0; omega) (by show 0 ≤ slen_ a1; omega) (by show (1 = 1 ∧ isQ_ σ a1 0) ∨ (1 = 0 ∧ ¬ isP_ σ a1); exact Or.inl ⟨rfl, isQ_0 (by omega) (by omega) (by omega)⟩) (by omega)
def as_G_X11_takes : Int → List Sv_t := fun a => [(42, 86), (4, a)]
def pre_G_X11_takes : Int → Me_t → Prop := fun a σ => (σ 86 9 ≤ σ 86 8) ∧ (σ 86 8 ≤ σ 86 7) ∧ (1 ≤ a ∧ a ≤ 14)
def post_G_X11_takes : Int → Me_t → Int → Me_t → Prop := fun a σ z σ' => (σ' 86 9 ≤ σ' 86 8) ∧ (σ' 86 8 ≤ σ' 86 7) ∧ (σ' 86 7 = σ 86 7) ∧ (σ 86 8 ≤ σ' 86 8 ∧ (σ 86 8 < σ' 86 8 ∨ σ' 86 10 ≤ σ 86 10)) ∧ (σ' 86 12 = σ 86 12) ∧ (0 ≤ z ∧ z ≤ 1) ∧ (z = isF_ σ a) ∧ (z = 1 → σ 86 12 = 0 ∧ σ 86 10 = 1 ∧ (σ 86 8 < σ' 86 8 ∨ σ' 86 10 ≤ 0)) ∧ (z = 0 → σ' 86 8 = σ 86 8 ∧ σ' 86 9 = σ 86 9 ∧ σ' 86 10 = σ 86 10 ∧ σ' 86 11 = σ 86 11) ∧ (∀ k j : Int, ¬ (k = 86) → σ' k j = σ k j)
set_option maxHeartbeats 3000000 in
set_option maxRecDepth 100000 in
theorem ct_G_X11_takes (l : Launch) : CT_ l yX11_takes cX11_takes 3 (some .boolean) 6 129 as_G_X11_takes (rmI_) pre_G_X11_takes post_G_X11_takes := by
  refine ct_of (by decide) (fun _ => Nat.le_of_ble_eq_true rfl) ?_
  intro X G Q ad σ a hl hR E hG R hM hv hp
  obtain ⟨a1, rfl⟩ : ∃ q : Int, q = a := ⟨_, rfl⟩
  have hp0 : σ 86 9 ≤ σ 86 8 := hp.1
  have hp1 : σ 86 8 ≤ σ 86 7 := hp.2.1
  have hp2 : 1 ≤ a1 ∧ a1 ≤ 14 := hp.2.2
  have B := @bk_ X G Q 0 0 ad SHS_ RX11 cX11_takes 3 (some .boolean) flX11 plX11 knX11 [(318, 2, TR_ as_G_X11_is (rmI_) pre_G_X11_is post_G_X11_is), (326, 1, TR_ as_G_X11_advance (rmV_) pre_G_X11_advance post_G_X11_advance)] _ _ none kX11_takes [] flX11_ok plX11_ok knX11_ok eX11_takes oX11_takes
    (List.forall_mem_cons.mpr ⟨cok_v (t := 32) (c := 11) (N := 39) (n := 1) (idx := 159) E (ct_G_X11_is X.2.1) (by rw [hR]; decide) (Nat.zero_le _) (Nat.zero_le _) hG rfl rfl ⟨rfl, by decide, by decide, by decide⟩ (fun _ => ⟨_, _, rfl, rfl⟩) wl_X11_159 wi_X11_is ws_X11_is wn_X11 wc_X11_is, List.forall_mem_cons.mpr ⟨cok_v (t := 32) (c := 11) (N := 39) (n := 0) (idx := 163) E (ct_G_X11_advance X.2.1) (by rw [hR]; decide) (Nat.zero_le _) (Nat.zero_le _) hG rfl rfl ⟨rfl, by decide, by decide, by decide⟩ (fun _ => ⟨_, _, rfl, rfl⟩) wl_X11_163 wi_X11_advance ws_X11_advance wn_X11 wc_X11_advance, fun _ h => absurd h List.not_mem_nil⟩⟩) R sok_no E
  show WP_ X G Q 0 0 ad SHS_ σ 0 [(42, 86), (4, a1), (9, 0)] []
  refine B rfl ?_
  refine Exists.intro a1 (And.intro rfl (And.intro (And.intro (by show σ 86 9 ≤ σ 86 8; omega) (And.intro (by show σ 86 8 ≤ σ 86 7; omega) (by show 1 ≤ a1 ∧ a1 ≤ 14; omega))) ?_))
  rintro z1 m_ h2
  obtain rfl : σ = m_ := h2.2.2.2
  have h3 : 0 ≤ z1 ∧ z1 ≤ 1 := h2.1
  have h4 : z1 = isF_ σ a1 := h2.2.1
  have h5 : z1 = 1 → σ 86 12 = 0 ∧ σ 86 10 = 1 := h2.2.2.1
  refine And.intro (fun h6 => ?_) (fun h6 => ?_)
  · skip
    refine B rfl ?_
    refine And.intro (by omega) ?_
    refine Exists.intro _ (And.intro rfl ?_)
    exact (And.intro (by show σ 86 9 ≤ σ 86 8; omega) (And.intro (by show σ 86 8 ≤ σ 86 7; omega) (And.intro (by show σ 86 7 = σ 86 7; omega) (And.intro (by show σ 86 8 ≤ σ 86 8 ∧ (σ 86 8 < σ 86 8 ∨ σ 86 10 ≤ σ 86 10); omega) (And.intro (by show σ 86 12 = σ 86 12; omega) (And.intro (by show 0 ≤ z1 ∧ z1 ≤ 1; omega) (And.intro (by show z1 = isF_ σ a1; omega) (And.intro (by show z1 = 1 → σ 86 12 = 0 ∧ σ 86 10 = 1 ∧ (σ 86 8 < σ 86 8 ∨ σ 86 10 ≤ 0); omega) (And.intro (by show z1 = 0 → σ 86 8 = σ 86 8 ∧ σ 86 9 = σ 86 9 ∧ σ 86 10 = σ 86 10 ∧ σ 86 11 = σ 86 11; omega) (fun k j hk => rfl))))))))))
  · skip
    refine Exists.intro () (And.intro rfl (And.intro (by show σ 86 8 ≤ σ 86 7; omega) ?_))
    intro z7 σ9 h8
    have f10 : ∀ k j : Int, ¬ (k = 86) → σ9 k j = σ k j := h8.2.2.2.2.2.2
    have h11 : σ9 86 9 ≤ σ9 86 8 := h8.1
    have h12 : σ9 86 8 ≤ σ9 86 7 := h8.2.1
    have h13 : σ9 86 7 = σ 86 7 := h8.2.2.1
    have h14 : σ 86 8 ≤ σ9 86 8 ∧ (σ 86 8 < σ9 86 8 ∨ σ9 86 10 ≤ σ 86 10) := h8.2.2.2.1
    have h15 : σ9 86 12 = σ 86 12 := h8.2.2.2.2.1
    have h16 : (σ 86 8 < σ9 86 8 ∨ σ9 86 10 ≤ 0) := h8.2.2.2.2.2.1
    refine And.intro (by omega) ?_
    refine Exists.intro _ (And.intro rfl ?_)
    try have t17 : σ9 86 11 = σ 86 11 := (f10 _ _ (by omega))
    exact (And.intro (by show σ9 86 9 ≤ σ9 86 8; omega) (And.intro (by show σ9 86 8 ≤ σ9 86 7; omega) (And.intro (by show σ9 86 7 = σ 86 7; omega) (And.intro (by show σ 86 8 ≤ σ9 86 8 ∧ (σ 86 8 < σ9 86 8 ∨ σ9 86 10 ≤ σ 86 10); omega) (And.intro (by show σ9 86 12 = σ 86 12; omega) (And.intro (by show 0 ≤ z1 ∧ z1 ≤ 1; omega) (And.intro (by show z1 = isF_ σ a1; omega) (And.intro (by show z1 = 1 → σ 86 12 = 0 ∧ σ 86 10 = 1 ∧ (σ 86 8 < σ9 86 8 ∨ σ9 86 10 ≤ 0); omega) (And.intro (by show z1 = 0 → σ9 86 8 = σ 86 8 ∧ σ9 86 9 = σ 86 9 ∧ σ9 86 10 = σ 86 10 ∧ σ9 86 11 = σ 86 11; omega) (fun k j hk => (f10 _ _ (by omega))))))))))))
def as_G_X11_needs : Int → List Sv_t := fun a => [(42, 86), (4, a)]
def pre_G_X11_needs : Int → Me_t → Prop := fun a σ => (σ 86 9 ≤ σ 86 8) ∧ (σ 86 8 ≤ σ 86 7) ∧ (1 ≤ a ∧ a ≤ 14)
def post_G_X11_needs : Int → Me_t → Int → Me_t → Prop := fun a σ z σ' => (σ' 86 9 ≤ σ' 86 8) ∧ (σ' 86 8 ≤ σ' 86 7) ∧ (σ' 86 7 = σ 86 7) ∧ (σ 86 8 ≤ σ' 86 8 ∧ (σ 86 8 < σ' 86 8 ∨ σ' 86 10 ≤ σ 86 10)) ∧ (σ' 86 12 = 0 → σ 86 12 = 0 ∧ (σ 86 8 < σ' 86 8 ∨ σ' 86 10 ≤ 0)) ∧ (∀ k j : Int, ¬ (k = 86) → σ' k j = σ k j)
set_option maxHeartbeats 3000000 in
set_option maxRecDepth 100000 in
theorem ct_G_X11_needs (l : Launch) : CT_ l yX11_needs cX11_needs 2 none 7 151 as_G_X11_needs (rmV_) pre_G_X11_needs post_G_X11_needs := by
  refine ct_of (by decide) (fun _ => Nat.le_of_ble_eq_true rfl) ?_
  intro X G Q ad σ a hl hR E hG R hM hv hp
  obtain ⟨a1, rfl⟩ : ∃ q : Int, q = a := ⟨_, rfl⟩
  have hp0 : σ 86 9 ≤ σ 86 8 := hp.1
  have hp1 : σ 86 8 ≤ σ 86 7 := hp.2.1
  have hp2 : 1 ≤ a1 ∧ a1 ≤ 14 := hp.2.2
  have B := @bk_ X G Q 0 0 ad SHS_ RX11 cX11_needs 2 none flX11 plX11 knX11 [(332, 2, TR_ as_G_X11_takes (rmI_) pre_G_X11_takes post_G_X11_takes), (338, 2, TR_ as_G_X11_errs (rmV_) pre_G_X11_errs post_G_X11_errs)] _ _ none kX11_needs [] flX11_ok plX11_ok knX11_ok eX11_needs oX11_needs
    (List.forall_mem_cons.mpr ⟨cok_v (t := 32) (c := 11) (N := 39) (n := 1) (idx := 166) E (ct_G_X11_takes X.2.1) (by rw [hR]; decide) (Nat.zero_le _) (Nat.zero_le _) hG rfl rfl ⟨rfl, by decide, by decide, by decide⟩ (fun _ => ⟨_, _, rfl, rfl⟩) wl_X11_166 wi_X11_takes ws_X11_takes wn_X11 wc_X11_takes, List.forall_mem_cons.mpr ⟨cok_v (t := 32) (c := 11) (N := 39) (n := 1) (idx := 169) E (ct_G_X11_errs X.2.1) (by rw [hR]; decide) (Nat.zero_le _) (Nat.zero_le _) hG rfl rfl ⟨rfl, by decide, by decide, by decide⟩ (fun _ => ⟨_, _, rfl, rfl⟩) wl_X11_169 wi_X11_errs ws_X11_errs wn_X11 wc_X11_errs, fun _ h => absurd h List.not_mem_nil⟩⟩) R sok_no E
  show WP_ X G Q 0 0 ad SHS_ σ 0 [(42, 86), (4, a1)] []
  refine B rfl ?_
  refine Exists.intro a1 (And.intro rfl (And.intro (And.intro (by show σ 86 9 ≤ σ 86 8; omega) (And.intro (by show σ 86 8 ≤ σ 86 7; omega) (by show 1 ≤ a1 ∧ a1 ≤ 14; omega))) ?_))
  intro z1 σ3 h2
  have f4 : ∀ k j : Int, ¬ (k = 86) → σ3 k j = σ k j := h2.2.2.2.2.2.2.2.2.2
  have h5 : σ3 86 9 ≤ σ3 86 8 := h2.1
  have h6 : σ3 86 8 ≤ σ3 86 7 := h2.2.1
  have h7 : σ3 86 7 = σ 86 7 := h2.2.2.1
  have h8 : σ 86 8 ≤ σ3 86 8 ∧ (σ 86 8 < σ3 86 8 ∨ σ3 86 10 ≤ σ 86 10) := h2.2.2.2.1
  have h9 : σ3 86 12 = σ 86 12 := h2.2.2.2.2.1
  have h10 : 0 ≤ z1 ∧ z1 ≤ 1 := h2.2.2.2.2.2.1
  have h11 : z1 = isF_ σ a1 := h2.2.2.2.2.2.2.1
  have h12 : z1 = 1 → σ 86 12 = 0 ∧ σ 86 10 = 1 ∧ (σ 86 8 < σ3 86 8 ∨ σ3 86 10 ≤ 0) := h2.2.2.2.2.2.2.2.1
  have h13 : z1 = 0 → σ3 86 8 = σ 86 8 ∧ σ3 86 9 = σ 86 9 ∧ σ3 86 10 = σ 86 10 ∧ σ3 86 11 = σ 86 11 := h2.2.2.2.2.2.2.2.2.1
  refine And.intro (fun h14 => ?_) (fun h14 => ?_)
  · skip
    refine B rfl ?_
    refine Exists.intro 0 (And.intro rfl ?_)
    exact (And.intro (by show σ3 86 9 ≤ σ3 86 8; omega) (And.intro (by show σ3 86 8 ≤ σ3 86 7; omega) (And.intro (by show σ3 86 7 = σ 86 7; omega) (And.intro (by show σ 86 8 ≤ σ3 86 8 ∧ (σ 86 8 < σ3 86 8 ∨ σ3 86 10 ≤ σ 86 10); omega) (And.intro (by show σ3 86 12 = 0 → σ 86 12 = 0 ∧ (σ 86 8 < σ3 86 8 ∨ σ3 86 10 ≤ 0); omega) (fun k j hk => (f4 _ _ (by omega))))))))
  · skip
    refine Exists.intro 1 (And.intro rfl (And.intro (And.intro (by show 1 ≤ 1; omega) (by show 1 ≤ 3; omega)) ?_))
    intro z15 σ17 h16
    have f18 : ∀ k j : Int, ¬ (k = 86) → σ17 k j = σ3 k j := h16.2.2.2.2.2.2
    have h19 : σ17 86 8 = σ3 86 8 := h16.1
    have h20 : σ17 86 9 = σ3 86 9 := h16.2.1
    have h21 : σ17 86 7 = σ3 86 7 := h16.2.2.1
    have h22 : σ17 86 10 = σ3 86 10 := h16.2.2.2.1
    have h23 : σ17 86 11 = σ3 86 11 := h16.2.2.2.2.1
    have h24 : (σ3 86 12 = 0 → σ17 86 12 = 1) ∧ (σ3 86 12 ≠ 0 → σ17 86 12 = σ3 86 12) := h16.2.2.2.2.2.1
    refine Exists.intro 0 (And.intro rfl ?_)
    exact (And.intro (by show σ17 86 9 ≤ σ17 86 8; omega) (And.intro (by show σ17 86 8 ≤ σ17 86 7; omega) (And.intro (by show σ17 86 7 = σ 86 7; omega) (And.intro (by show σ 86 8 ≤ σ17 86 8 ∧ (σ 86 8 < σ17 86 8 ∨ σ17 86 10 ≤ σ 86 10); omega) (And.intro (by show σ17 86 12 = 0 → σ 86 12 = 0 ∧ (σ 86 8 < σ17 86 8 ∨ σ17 86 10 ≤ 0); omega) (fun k j hk => ((f18 _ _ (by omega)).trans (f4 _ _ (by omega)))))))))
def as_G_X11_number : Int × Int → List Sv_t := fun a => [(42, 86), (0, a.1), (0, a.2)]
def pre_G_X11_number : Int × Int → Me_t → Prop := fun a σ => (σ 86 9 ≤ σ 86 8) ∧ (σ 86 8 ≤ σ 86 7)
def post_G_X11_number : Int × Int → Me_t → Int → Me_t → Prop := fun a σ z σ' => (σ' 86 9 ≤ σ' 86 8) ∧ (σ' 86 8 ≤ σ' 86 7) ∧ (σ' 86 7 = σ 86 7) ∧ (σ 86 8 ≤ σ' 86 8 ∧ (σ 86 8 < σ' 86 8 ∨ σ' 86 10 ≤ σ 86 10)) ∧ ((σ' 86 12 = 0 ∧ σ 86 12 = 0 ∧ a.1 ≤ z ∧ z ≤ a.2 ∧ σ 86 10 = 2 ∧ z = σ 86 11 ∧ (σ 86 8 < σ' 86 8 ∨ σ' 86 10 ≤ 0)) ∨ (σ' 86 12 ≠ 0 ∧ z = 0)) ∧ (∀ k j : Int, ¬ (k = 86) → σ' k j = σ k j)
set_option maxHeartbeats 3000000 in
set_option maxRecDepth 100000 in
theorem ct_G_X11_number (l : Launch) : CT_ l yX11_number cX11_number 4 (some .int) 2 46 as_G_X11_number (rmI_) pre_G_X11_number post_G_X11_number := by
  refine ct_of (by decide) (fun _ => Nat.le_of_ble_eq_true rfl) ?_
  intro X G Q ad σ a hl hR E hG R hM hv hp
  obtain ⟨a1, a2⟩ := a
  have r_a1 : -2147483648 ≤ a1 ∧ a1 ≤ 2147483647 := hv (0, a1) (List.mem_of_getElem? (i := 1) rfl)
  have r_a2 : -2147483648 ≤ a2 ∧ a2 ≤ 2147483647 := hv (0, a2) (List.mem_of_getElem? (i := 2) rfl)
  have hp0 : σ 86 9 ≤ σ 86 8 := hp.1
  have hp1 : σ 86 8 ≤ σ 86 7 := hp.2
  have B := @bk_ X G Q 0 0 ad SHS_ RX11 cX11_number 4 (some .int) flX11 plX11 knX11 [(294, 1, TR_ as_G_X11_good (rmI_) pre_G_X11_good post_G_X11_good), (326, 1, TR_ as_G_X11_advance (rmV_) pre_G_X11_advance post_G_X11_advance), (159, 3, TR_ as_G_X11_in (rmI_) pre_G_X11_in post_G_X11_in), (338, 2, TR_ as_G_X11_errs (rmV_) pre_G_X11_errs post_G_X11_errs)] _ _ none kX11_number [] flX11_ok plX11_ok knX11_ok eX11_number oX11_number
    (List.forall_mem_cons.mpr ⟨cok_v (t := 32) (c := 11) (N := 39) (n := 0) (idx := 147) E (ct_G_X11_good X.2.1) (by rw [hR]; decide) (Nat.zero_le _) (Nat.zero_le _) hG rfl rfl ⟨rfl, by decide, by decide, by decide⟩ (fun _ => ⟨_, _, rfl, rfl⟩) wl_X11_147 wi_X11_good ws_X11_good wn_X11 wc_X11_good, List.forall_mem_cons.mpr ⟨cok_v (t := 32) (c := 11) (N := 39) (n := 0) (idx := 163) E (ct_G_X11_advance X.2.1) (by rw [hR]; decide) (Nat.zero_le _) (Nat.zero_le _) hG rfl rfl ⟨rfl, by decide, by decide, by decide⟩ (fun _ => ⟨_, _, rfl, rfl⟩) wl_X11_163 wi_X11_advance ws_X11_advance wn_X11 wc_X11_advance, List.forall_mem_cons.mpr ⟨cok_s (n := 3) (idx := 79) E (ct_G_X11_in X.2.1) (by rw [hR]; decide) (Nat.zero_le _) (Nat.zero_le _) hG ⟨by decide, by decide, by decide⟩ (fun _ => rfl) wl_X11_79 wt_X11_in wn_X11 wc_X11_in, List.forall_mem_cons.mpr ⟨cok_v (t := 32) (c := 11) (N := 39) (n := 1) (idx := 169) E (ct_G_X11_errs X.2.1) (by rw [hR]; decide) (Nat.zero_le _) (Nat.zero_le _) hG rfl rfl ⟨rfl, by decide, by decide, by decide⟩ (fun _ => ⟨_, _, rfl, rfl⟩) wl_X11_169 wi_X11_errs ws_X11_errs wn_X11 wc_X11_errs, fun _ h => absurd h List.not_mem_nil⟩⟩⟩⟩) R sok_no E
  show WP_ X G Q 0 0 ad SHS_ σ 0 [(42, 86), (0, a1), (0, a2), (9, 0)] []
  refine B rfl ?_
  refine Exists.intro () (And.intro rfl (And.intro True.intro ?_))
  rintro z1 m_ h2
  obtain rfl : σ = m_ := h2.2
  have h3 : (z1 = 1 ∧ σ 86 12 = 0) ∨ (z1 = 0 ∧ σ 86 12 ≠ 0) := h2.1
  refine And.intro (fun h4 => ?_) (fun h4 => ?_)
  · skip
    refine B rfl ?_
    refine Exists.intro () (And.intro rfl (And.intro True.intro ?_))
    rintro z5 m_ h6
    obtain rfl : σ = m_ := h6.2
    have h7 : (z5 = 1 ∧ σ 86 12 = 0) ∨ (z5 = 0 ∧ σ 86 12 ≠ 0) := h6.1
    refine And.intro (fun h8 => ?_) (fun h8 => ?_)
    · skip
      refine B rfl ?_
      refine Exists.intro () (And.intro rfl (And.intro True.intro ?_))
      rintro z9 m_ h10
      obtain rfl : σ = m_ := h10.2
      have h11 : (z9 = 1 ∧ σ 86 12 = 0) ∨ (z9 = 0 ∧ σ 86 12 ≠ 0) := h10.1
      refine And.intro (fun h12 => ?_) (fun h12 => ?_)
      · skip
        refine B rfl ?_
        intro z13 ez13 hz13
        have hz13 : (0 : Int) ≤ z13 ∧ z13 ≤ (99999 : Int) := rgl_ hz13 (by decide +kernel) (by decide +kernel) (by decide +kernel)
        refine Exists.intro () (And.intro rfl (And.intro (by show σ 86 8 ≤ σ 86 7; omega) ?_))
        intro z14 σ16 h15
        have f17 : ∀ k j : Int, ¬ (k = 86) → σ16 k j = σ k j := h15.2.2.2.2.2.2
        have h18 : σ16 86 9 ≤ σ16 86 8 := h15.1
        have h19 : σ16 86 8 ≤ σ16 86 7 := h15.2.1
        have h20 : σ16 86 7 = σ 86 7 := h15.2.2.1
        have h21 : σ 86 8 ≤ σ16 86 8 ∧ (σ 86 8 < σ16 86 8 ∨ σ16 86 10 ≤ σ 86 10) := h15.2.2.2.1
        have h22 : σ16 86 12 = σ 86 12 := h15.2.2.2.2.1
        have h23 : (σ 86 8 < σ16 86 8 ∨ σ16 86 10 ≤ 0) := h15.2.2.2.2.2.1
        refine Exists.intro _ (And.intro rfl ?_)
        exact (And.intro (by show σ16 86 9 ≤ σ16 86 8; omega) (And.intro (by show σ16 86 8 ≤ σ16 86 7; omega) (And.intro (by show σ16 86 7 = σ 86 7; omega) (And.intro (by show σ 86 8 ≤ σ16 86 8 ∧ (σ 86 8 < σ16 86 8 ∨ σ16 86 10 ≤ σ 86 10); omega) (And.intro (by show (σ16 86 12 = 0 ∧ σ 86 12 = 0 ∧ a1 ≤ z13 ∧ z13 ≤ a2 ∧ σ 86 10 = 2 ∧ z13 = σ 86 11 ∧ (σ 86 8 < σ16 86 8 ∨ σ16 86 10 ≤ 0)) ∨ (σ16 86 12 ≠ 0 ∧ z13 = 0); omega) (fun k j hk => (f17 _ _ (by omega))))))))
      · skip
        refine Exists.intro _ (And.intro rfl ?_)
        exact (And.intro (by show σ 86 9 ≤ σ 86 8; omega) (And.intro (by show σ 86 8 ≤ σ 86 7; omega) (And.intro (by show σ 86 7 = σ 86 7; omega) (And.intro (by show σ 86 8 ≤ σ 86 8 ∧ (σ 86 8 < σ 86 8 ∨ σ 86 10 ≤ σ 86 10); omega) (And.intro (by show (σ 86 12 = 0 ∧ σ 86 12 = 0 ∧ a1 ≤ 0 ∧ 0 ≤ a2 ∧ σ 86 10 = 2 ∧ 0 = σ 86 11 ∧ (σ 86 8 < σ 86 8 ∨ σ 86 10 ≤ 0)) ∨ (σ 86 12 ≠ 0 ∧ 0 = 0); omega) (fun k j hk => rfl))))))
    · skip
      intro z24 ez24 hz24
      have hz24 : (0 : Int) ≤ z24 ∧ z24 ≤ (99999 : Int) := rgl_ hz24 (by decide +kernel) (by decide +kernel) (by decide +kernel)
      refine Exists.intro (z24, a1, a2) (And.intro rfl (And.intro True.intro ?_))
      rintro z25 m_ h26
      obtain rfl : σ = m_ := h26.2
      have h27 : (z25 = 1 ∧ a1 ≤ z24 ∧ z24 ≤ a2) ∨ (z25 = 0 ∧ ¬ (a1 ≤ z24 ∧ z24 ≤ a2)) := h26.1
      refine And.intro (fun h28 => ?_) (fun h28 => ?_)
      · skip
        refine B rfl ?_
        refine Exists.intro () (And.intro rfl (And.intro True.intro ?_))
        rintro z29 m_ h30
        obtain rfl : σ = m_ := h30.2
        have h31 : (z29 = 1 ∧ σ 86 12 = 0) ∨ (z29 = 0 ∧ σ 86 12 ≠ 0) := h30.1
        refine And.intro (fun h32 => ?_) (fun h32 => ?_)
        · skip
          refine B rfl ?_
          intro z33 ez33 hz33
          have q34 : z24 = z33 := ez24.trans ez33.symm
          subst q34
          refine Exists.intro () (And.intro rfl (And.intro (by show σ 86 8 ≤ σ 86 7; omega) ?_))
          intro z35 σ37 h36
          have f38 : ∀ k j : Int, ¬ (k = 86) → σ37 k j = σ k j := h36.2.2.2.2.2.2
          have h39 : σ37 86 9 ≤ σ37 86 8 := h36.1
          have h40 : σ37 86 8 ≤ σ37 86 7 := h36.2.1
          have h41 : σ37 86 7 = σ 86 7 := h36.2.2.1
          have h42 : σ 86 8 ≤ σ37 86 8 ∧ (σ 86 8 < σ37 86 8 ∨ σ37 86 10 ≤ σ 86 10) := h36.2.2.2.1
          have h43 : σ37 86 12 = σ 86 12 := h36.2.2.2.2.1
          have h44 : (σ 86 8 < σ37 86 8 ∨ σ37 86 10 ≤ 0) := h36.2.2.2.2.2.1
          refine Exists.intro _ (And.intro rfl ?_)
          exact (And.intro (by show σ37 86 9 ≤ σ37 86 8; omega) (And.intro (by show σ37 86 8 ≤ σ37 86 7; omega) (And.intro (by show σ37 86 7 = σ 86 7; omega) (And.intro (by show σ 86 8 ≤ σ37 86 8 ∧ (σ 86 8 < σ37 86 8 ∨ σ37 86 10 ≤ σ 86 10); omega) (And.intro (by show (σ37 86 12 = 0 ∧ σ 86 12 = 0 ∧ a1 ≤ z24 ∧ z24 ≤ a2 ∧ σ 86 10 = 2 ∧ z24 = σ 86 11 ∧ (σ 86 8 < σ37 86 8 ∨ σ37 86 10 ≤ 0)) ∨ (σ37 86 12 ≠ 0 ∧ z24 = 0); omega) (fun k j hk => (f38 _ _ (by omega))))))))
        · skip
          refine Exists.intro _ (And.intro rfl ?_)
          exact (And.intro (by show σ 86 9 ≤ σ 86 8; omega) (And.intro (by show σ 86 8 ≤ σ 86 7; omega) (And.intro (by show σ 86 7 = σ 86 7; omega) (And.intro (by show σ 86 8 ≤ σ 86 8 ∧ (σ 86 8 < σ 86 8 ∨ σ 86 10 ≤ σ 86 10); omega) (And.intro (by show (σ 86 12 = 0 ∧ σ 86 12 = 0 ∧ a1 ≤ 0 ∧ 0 ≤ a2 ∧ σ 86 10 = 2 ∧ 0 = σ 86 11 ∧ (σ 86 8 < σ 86 8 ∨ σ 86 10 ≤ 0)) ∨ (σ 86 12 ≠ 0 ∧ 0 = 0); omega) (fun k j hk => rfl))))))
      · skip
        refine Exists.intro 2 (And.intro rfl (And.intro (And.intro (by show 1 ≤ 2; omega) (by show 2 ≤ 3; omega)) ?_))
        intro z45 σ47 h46
        have f48 : ∀ k j : Int, ¬ (k = 86) → σ47 k j = σ k j := h46.2.2.2.2.2.2
        have h49 : σ47 86 8 = σ 86 8 := h46.1
        have h50 : σ47 86 9 = σ 86 9 := h46.2.1
        have h51 : σ47 86 7 = σ 86 7 := h46.2.2.1
        have h52 : σ47 86 10 = σ 86 10 := h46.2.2.2.1
        have h53 : σ47 86 11 = σ 86 11 := h46.2.2.2.2.1
        have h54 : (σ 86 12 = 0 → σ47 86 12 = 2) ∧ (σ 86 12 ≠ 0 → σ47 86 12 = σ 86 12) := h46.2.2.2.2.2.1
        refine Exists.intro () (And.intro rfl (And.intro True.intro ?_))
        rintro z55 m_ h56
        obtain rfl : σ47 = m_ := h56.2
        have h57 : (z55 = 1 ∧ σ47 86 12 = 0) ∨ (z55 = 0 ∧ σ47 86 12 ≠ 0) := h56.1
        refine And.intro (fun h58 => ?_) (fun h58 => ?_)
        · skip
          refine B rfl ?_
          intro z59 ez59 hz59
          have hz59 : (0 : Int) ≤ z59 ∧ z59 ≤ (99999 : Int) := rgl_ hz59 (by decide +kernel) (by decide +kernel) (by decide +kernel)
          refine Exists.intro () (And.intro rfl (And.intro (by show σ47 86 8 ≤ σ47 86 7; omega) ?_))
          intro z60 σ62 h61
          have f63 : ∀ k j : Int, ¬ (k = 86) → σ62 k j = σ47 k j := h61.2.2.2.2.2.2
          have h64 : σ62 86 9 ≤ σ62 86 8 := h61.1
          have h65 : σ62 86 8 ≤ σ62 86 7 := h61.2.1
          have h66 : σ62 86 7 = σ47 86 7 := h61.2.2.1
          have h67 : σ47 86 8 ≤ σ62 86 8 ∧ (σ47 86 8 < σ62 86 8 ∨ σ62 86 10 ≤ σ47 86 10) := h61.2.2.2.1
          have h68 : σ62 86 12 = σ47 86 12 := h61.2.2.2.2.1
          have h69 : (σ47 86 8 < σ62 86 8 ∨ σ62 86 10 ≤ 0) := h61.2.2.2.2.2.1
          refine Exists.intro _ (And.intro rfl ?_)
          exact (And.intro (by show σ62 86 9 ≤ σ62 86 8; omega) (And.intro (by show σ62 86 8 ≤ σ62 86 7; omega) (And.intro (by show σ62 86 7 = σ 86 7; omega) (And.intro (by show σ 86 8 ≤ σ62 86 8 ∧ (σ 86 8 < σ62 86 8 ∨ σ62 86 10 ≤ σ 86 10); omega) (And.intro (by show (σ62 86 12 = 0 ∧ σ 86 12 = 0 ∧ a1 ≤ z59 ∧ z59 ≤ a2 ∧ σ 86 10 = 2 ∧ z59 = σ 86 11 ∧ (σ 86 8 < σ62 86 8 ∨ σ62 86 10 ≤ 0)) ∨ (σ62 86 12 ≠ 0 ∧ z59 = 0); omega) (fun k j hk => ((f63 _ _ (by omega)).trans (f48 _ _ (by omega)))))))))
        · skip
          refine Exists.intro _ (And.intro rfl ?_)
          exact (And.intro (by show σ47 86 9 ≤ σ47 86 8; omega) (And.intro (by show σ47 86 8 ≤ σ47 86 7; omega) (And.intro (by show σ47 86 7 = σ 86 7; omega) (And.intro (by show σ 86 8 ≤ σ47 86 8 ∧ (σ 86 8 < σ47 86 8 ∨ σ47 86 10 ≤ σ 86 10); omega) (And.intro (by show (σ47 86 12 = 0 ∧ σ 86 12 = 0 ∧ a1 ≤ 0 ∧ 0 ≤ a2 ∧ σ 86 10 = 2 ∧ 0 = σ 86 11 ∧ (σ 86 8 < σ47 86 8 ∨ σ47 86 10 ≤ 0)) ∨ (σ47 86 12 ≠ 0 ∧ 0 = 0); omega) (fun k j hk => (f48 _ _ (by omega))))))))
  · skip
    intro z70 ez70 hz70
    have hz70 : (0 : Int) ≤ z70 ∧ z70 ≤ (4 : Int) := hz70
    refine And.intro (fun h71 => ?_) (fun h71 => ?_)
    · skip
      refine B rfl ?_
      refine Exists.intro () (And.intro rfl (And.intro True.intro ?_))
      rintro z72 m_ h73
      obtain rfl : σ = m_ := h73.2
      have h74 : (z72 = 1 ∧ σ 86 12 = 0) ∨ (z72 = 0 ∧ σ 86 12 ≠ 0) := h73.1
      refine And.intro (fun h75 => ?_) (fun h75 => ?_)
      · skip
        refine B rfl ?_
        refine Exists.intro () (And.intro rfl (And.intro True.intro ?_))
        rintro z76 m_ h77
        obtain rfl : σ = m_ := h77.2
        have h78 : (z76 = 1 ∧ σ 86 12 = 0) ∨ (z76 = 0 ∧ σ 86 12 ≠ 0) := h77.1
        refine And.intro (fun h79 => ?_) (fun h79 => ?_)
        · skip
          refine B rfl ?_
          intro z80 ez80 hz80
          have hz80 : (0 : Int) ≤ z80 ∧ z80 ≤ (99999 : Int) := rgl_ hz80 (by decide +kernel) (by decide +kernel) (by decide +kernel)
          refine Exists.intro () (And.intro rfl (And.intro (by show σ 86 8 ≤ σ 86 7; omega) ?_))
          intro z81 σ83 h82
          have f84 : ∀ k j : Int, ¬ (k = 86) → σ83 k j = σ k j := h82.2.2.2.2.2.2
          have h85 : σ83 86 9 ≤ σ83 86 8 := h82.1
          have h86 : σ83 86 8 ≤ σ83 86 7 := h82.2.1
          have h87 : σ83 86 7 = σ 86 7 := h82.2.2.1
          have h88 : σ 86 8 ≤ σ83 86 8 ∧ (σ 86 8 < σ83 86 8 ∨ σ83 86 10 ≤ σ 86 10) := h82.2.2.2.1
          have h89 : σ83 86 12 = σ 86 12 := h82.2.2.2.2.1
          have h90 : (σ 86 8 < σ83 86 8 ∨ σ83 86 10 ≤ 0) := h82.2.2.2.2.2.1
          refine Exists.intro _ (And.intro rfl ?_)
          exact (And.intro (by show σ83 86 9 ≤ σ83 86 8; omega) (And.intro (by show σ83 86 8 ≤ σ83 86 7; omega) (And.intro (by show σ83 86 7 = σ 86 7; omega) (And.intro (by show σ 86 8 ≤ σ83 86 8 ∧ (σ 86 8 < σ83 86 8 ∨ σ83 86 10 ≤ σ 86 10); omega) (And.intro (by show (σ83 86 12 = 0 ∧ σ 86 12 = 0 ∧ a1 ≤ z80 ∧ z80 ≤ a2 ∧ σ 86 10 = 2 ∧ z80 = σ 86 11 ∧ (σ 86 8 < σ83 86 8 ∨ σ83 86 10 ≤ 0)) ∨ (σ83 86 12 ≠ 0 ∧ z80 = 0); omega) (fun k j hk => (f84 _ _ (by omega))))))))
        · skip
          refine Exists.intro _ (And.intro rfl ?_)
          exact (And.intro (by show σ 86 9 ≤ σ 86 8; omega) (And.intro (by show σ 86 8 ≤ σ 86 7; omega) (And.intro (by show σ 86 7 = σ 86 7; omega) (And.intro (by show σ 86 8 ≤ σ 86 8 ∧ (σ 86 8 < σ 86 8 ∨ σ 86 10 ≤ σ 86 10); omega) (And.intro (by show (σ 86 12 = 0 ∧ σ 86 12 = 0 ∧ a1 ≤ 0 ∧ 0 ≤ a2 ∧ σ 86 10 = 2 ∧ 0 = σ 86 11 ∧ (σ 86 8 < σ 86 8 ∨ σ 86 10 ≤ 0)) ∨ (σ 86 12 ≠ 0 ∧ 0 = 0); omega) (fun k j hk => rfl))))))
      · skip
        intro z91 ez91 hz91
        have hz91 : (0 : Int) ≤ z91 ∧ z91 ≤ (99999 : Int) := rgl_ hz91 (by decide +kernel) (by decide +kernel) (by decide +kernel)
        refine Exists.intro (z91, a1, a2) (And.intro rfl (And.intro True.intro ?_))
        rintro z92 m_ h93
        obtain rfl : σ = m_ := h93.2
        have h94 : (z92 = 1 ∧ a1 ≤ z91 ∧ z91 ≤ a2) ∨ (z92 = 0 ∧ ¬ (a1 ≤ z91 ∧ z91 ≤ a2)) := h93.1
        refine And.intro (fun h95 => ?_) (fun h95 => ?_)
        · skip
          refine B rfl ?_
          refine Exists.intro () (And.intro rfl (And.intro True.intro ?_))
          rintro z96 m_ h97
          obtain rfl : σ = m_ := h97.2
          have h98 : (z96 = 1 ∧ σ 86 12 = 0) ∨ (z96 = 0 ∧ σ 86 12 ≠ 0) := h97.1
          refine And.intro (fun h99 => ?_) (fun h99 => ?_)
          · skip
            refine B rfl ?_
            intro z100 ez100 hz100
            have q101 : z91 = z100 := ez91.trans ez100.symm
            subst q101
            refine Exists.intro () (And.intro rfl (And.intro (by show σ 86 8 ≤ σ 86 7; omega) ?_))
            intro z102 σ104 h103
            have f105 : ∀ k j : Int, ¬ (k = 86) → σ104 k j = σ k j := h103.2.2.2.2.2.2
            have h106 : σ104 86 9 ≤ σ104 86 8 := h103.1
            have h107 : σ104 86 8 ≤ σ104 86 7 := h103.2.1
            have h108 : σ104 86 7 = σ 86 7 := h103.2.2.1
            have h109 : σ 86 8 ≤ σ104 86 8 ∧ (σ 86 8 < σ104 86 8 ∨ σ104 86 10 ≤ σ 86 10) := h103.2.2.2.1
            have h110 : σ104 86 12 = σ 86 12 := h103.2.2.2.2.1
            have h111 : (σ 86 8 < σ104 86 8 ∨ σ104 86 10 ≤ 0) := h103.2.2.2.2.2.1
            refine Exists.intro _ (And.intro rfl ?_)
            exact (And.intro (by show σ104 86 9 ≤ σ104 86 8; omega) (And.intro (by show σ104 86 8 ≤ σ104 86 7; omega) (And.intro (by show σ104 86 7 = σ 86 7; omega) (And.intro (by show σ 86 8 ≤ σ104 86 8 ∧ (σ 86 8 < σ104 86 8 ∨ σ104 86 10 ≤ σ 86 10); omega) (And.intro (by show (σ104 86 12 = 0 ∧ σ 86 12 = 0 ∧ a1 ≤ z91 ∧ z91 ≤ a2 ∧ σ 86 10 = 2 ∧ z91 = σ 86 11 ∧ (σ 86 8 < σ104 86 8 ∨ σ104 86 10 ≤ 0)) ∨ (σ104 86 12 ≠ 0 ∧ z91 = 0); omega) (fun k j hk => (f105 _ _ (by omega))))))))
          · skip
            refine Exists.intro _ (And.intro rfl ?_)
            exact (And.intro (by show σ 86 9 ≤ σ 86 8; omega) (And.intro (by show σ 86 8 ≤ σ 86 7; omega) (And.intro (by show σ 86 7 = σ 86 7; omega) (And.intro (by show σ 86 8 ≤ σ 86 8 ∧ (σ 86 8 < σ 86 8 ∨ σ 86 10 ≤ σ 86 10); omega) (And.intro (by show (σ 86 12 = 0 ∧ σ 86 12 = 0 ∧ a1 ≤ 0 ∧ 0 ≤ a2 ∧ σ 86 10 = 2 ∧ 0 = σ 86 11 ∧ (σ 86 8 < σ 86 8 ∨ σ 86 10 ≤ 0)) ∨ (σ 86 12 ≠ 0 ∧ 0 = 0); omega) (fun k j hk => rfl))))))
        · skip
          refine Exists.intro 2 (And.intro rfl (And.intro (And.intro (by show 1 ≤ 2; omega) (by show 2 ≤ 3; omega)) ?_))
          intro z112 σ114 h113
          have f115 : ∀ k j : Int, ¬ (k = 86) → σ114 k j = σ k j := h113.2.2.2.2.2.2
          have h116 : σ114 86 8 = σ 86 8 := h113.1
          have h117 : σ114 86 9 = σ 86 9 := h113.2.1
          have h118 : σ114 86 7 = σ 86 7 := h113.2.2.1
          have h119 : σ114 86 10 = σ 86 10 := h113.2.2.2.1
          have h120 : σ114 86 11 = σ 86 11 := h113.2.2.2.2.1
          have h121 : (σ 86 12 = 0 → σ114 86 12 = 2) ∧ (σ 86 12 ≠ 0 → σ114 86 12 = σ 86 12) := h113.2.2.2.2.2.1
          refine Exists.intro () (And.intro rfl (And.intro True.intro ?_))
          rintro z122 m_ h123
          obtain rfl : σ114 = m_ := h123.2
          have h124 : (z122 = 1 ∧ σ114 86 12 = 0) ∨ (z122 = 0 ∧ σ114 86 12 ≠ 0) := h123.1
          refine And.intro (fun h125 => ?_) (fun h125 => ?_)
          · skip
            refine B rfl ?_
            intro z126 ez126 hz126
            have hz126 : (0 : Int) ≤ z126 ∧ z126 ≤ (99999 : Int) := rgl_ hz126 (by decide +kernel) (by decide +kernel) (by decide +kernel)
            refine Exists.intro () (And.intro rfl (And.intro (by show σ114 86 8 ≤ σ114 86 7; omega) ?_))
            intro z127 σ129 h128
            have f130 : ∀ k j : Int, ¬ (k = 86) → σ129 k j = σ114 k j := h128.2.2.2.2.2.2
            have h131 : σ129 86 9 ≤ σ129 86 8 := h128.1
            have h132 : σ129 86 8 ≤ σ129 86 7 := h128.2.1
            have h133 : σ129 86 7 = σ114 86 7 := h128.2.2.1
            have h134 : σ114 86 8 ≤ σ129 86 8 ∧ (σ114 86 8 < σ129 86 8 ∨ σ129 86 10 ≤ σ114 86 10) := h128.2.2.2.1
            have h135 : σ129 86 12 = σ114 86 12 := h128.2.2.2.2.1
            have h136 : (σ114 86 8 < σ129 86 8 ∨ σ129 86 10 ≤ 0) := h128.2.2.2.2.2.1
            refine Exists.intro _ (And.intro rfl ?_)
            exact (And.intro (by show σ129 86 9 ≤ σ129 86 8; omega) (And.intro (by show σ129 86 8 ≤ σ129 86 7; omega) (And.intro (by show σ129 86 7 = σ 86 7; omega) (And.intro (by show σ 86 8 ≤ σ129 86 8 ∧ (σ 86 8 < σ129 86 8 ∨ σ129 86 10 ≤ σ 86 10); omega) (And.intro (by show (σ129 86 12 = 0 ∧ σ 86 12 = 0 ∧ a1 ≤ z126 ∧ z126 ≤ a2 ∧ σ 86 10 = 2 ∧ z126 = σ 86 11 ∧ (σ 86 8 < σ129 86 8 ∨ σ129 86 10 ≤ 0)) ∨ (σ129 86 12 ≠ 0 ∧ z126 = 0); omega) (fun k j hk => ((f130 _ _ (by omega)).trans (f115 _ _ (by omega)))))))))
          · skip
            refine Exists.intro _ (And.intro rfl ?_)
            exact (And.intro (by show σ114 86 9 ≤ σ114 86 8; omega) (And.intro (by show σ114 86 8 ≤ σ114 86 7; omega) (And.intro (by show σ114 86 7 = σ 86 7; omega) (And.intro (by show σ 86 8 ≤ σ114 86 8 ∧ (σ 86 8 < σ114 86 8 ∨ σ114 86 10 ≤ σ 86 10); omega) (And.intro (by show (σ114 86 12 = 0 ∧ σ 86 12 = 0 ∧ a1 ≤ 0 ∧ 0 ≤ a2 ∧ σ 86 10 = 2 ∧ 0 = σ 86 11 ∧ (σ 86 8 < σ114 86 8 ∨ σ114 86 10 ≤ 0)) ∨ (σ114 86 12 ≠ 0 ∧ 0 = 0); omega) (fun k j hk => (f115 _ _ (by omega))))))))
    · skip
      refine Exists.intro 1 (And.intro rfl (And.intro (And.intro (by show 1 ≤ 1; omega) (by show 1 ≤ 3; omega)) ?_))
      intro z137 σ139 h138
      have f140 : ∀ k j : Int, ¬ (k = 86) → σ139 k j = σ k j := h138.2.2.2.2.2.2
      have h141 : σ139 86 8 = σ 86 8 := h138.1
      have h142 : σ139 86 9 = σ 86 9 := h138.2.1
      have h143 : σ139 86 7 = σ 86 7 := h138.2.2.1
      have h144 : σ139 86 10 = σ 86 10 := h138.2.2.2.1
      have h145 : σ139 86 11 = σ 86 11 := h138.2.2.2.2.1
      have h146 : (σ 86 12 = 0 → σ139 86 12 = 1) ∧ (σ 86 12 ≠ 0 → σ139 86 12 = σ 86 12) := h138.2.2.2.2.2.1
      refine Exists.intro () (And.intro rfl (And.intro True.intro ?_))
      rintro z147 m_ h148
      obtain rfl : σ139 = m_ := h148.2
      have h149 : (z147 = 1 ∧ σ139 86 12 = 0) ∨ (z147 = 0 ∧ σ139 86 12 ≠ 0) := h148.1
      refine And.intro (fun h150 => ?_) (fun h150 => ?_)
      · skip
        refine B rfl ?_
        refine Exists.intro () (And.intro rfl (And.intro True.intro ?_))
        rintro z151 m_ h152
        obtain rfl : σ139 = m_ := h152.2
        have h153 : (z151 = 1 ∧ σ139 86 12 = 0) ∨ (z151 = 0 ∧ σ139 86 12 ≠ 0) := h152.1
        refine And.intro (fun h154 => ?_) (fun h154 => ?_)
        · skip
          refine B rfl ?_
          intro z155 ez155 hz155
          have hz155 : (0 : Int) ≤ z155 ∧ z155 ≤ (99999 : Int) := rgl_ hz155 (by decide +kernel) (by decide +kernel) (by decide +kernel)
          refine Exists.intro () (And.intro rfl (And.intro (by show σ139 86 8 ≤ σ139 86 7; omega) ?_))
          intro z156 σ158 h157
          have f159 : ∀ k j : Int, ¬ (k = 86) → σ158 k j = σ139 k j := h157.2.2.2.2.2.2
          have h160 : σ158 86 9 ≤ σ158 86 8 := h157.1
          have h161 : σ158 86 8 ≤ σ158 86 7 := h157.2.1
          have h162 : σ158 86 7 = σ139 86 7 := h157.2.2.1
          have h163 : σ139 86 8 ≤ σ158 86 8 ∧ (σ139 86 8 < σ158 86 8 ∨ σ158 86 10 ≤ σ139 86 10) := h157.2.2.2.1
          have h164 : σ158 86 12 = σ139 86 12 := h157.2.2.2.2.1
          have h165 : (σ139 86 8 < σ158 86 8 ∨ σ158 86 10 ≤ 0) := h157.2.2.2.2.2.1
          refine Exists.intro _ (And.intro rfl ?_)
          exact (And.intro (by show σ158 86 9 ≤ σ158 86 8; omega) (And.intro (by show σ158 86 8 ≤ σ158 86 7; omega) (And.intro (by show σ158 86 7 = σ 86 7; omega) (And.intro (by show σ 86 8 ≤ σ158 86 8 ∧ (σ 86 8 < σ158 86 8 ∨ σ158 86 10 ≤ σ 86 10); omega) (And.intro (by show (σ158 86 12 = 0 ∧ σ 86 12 = 0 ∧ a1 ≤ z155 ∧ z155 ≤ a2 ∧ σ 86 10 = 2 ∧ z155 = σ 86 11 ∧ (σ 86 8 < σ158 86 8 ∨ σ158 86 10 ≤ 0)) ∨ (σ158 86 12 ≠ 0 ∧ z155 = 0); omega) (fun k j hk => ((f159 _ _ (by omega)).trans (f140 _ _ (by omega)))))))))
        · skip
          refine Exists.intro _ (And.intro rfl ?_)
          exact (And.intro (by show σ139 86 9 ≤ σ139 86 8; omega) (And.intro (by show σ139 86 8 ≤ σ139 86 7; omega) (And.intro (by show σ139 86 7 = σ 86 7; omega) (And.intro (by show σ 86 8 ≤ σ139 86 8 ∧ (σ 86 8 < σ139 86 8 ∨ σ139 86 10 ≤ σ 86 10); omega) (And.intro (by show (σ139 86 12 = 0 ∧ σ 86 12 = 0 ∧ a1 ≤ 0 ∧ 0 ≤ a2 ∧ σ 86 10 = 2 ∧ 0 = σ 86 11 ∧ (σ 86 8 < σ139 86 8 ∨ σ139 86 10 ≤ 0)) ∨ (σ139 86 12 ≠ 0 ∧ 0 = 0); omega) (fun k j hk => (f140 _ _ (by omega))))))))
      · skip
        intro z166 ez166 hz166
        have hz166 : (0 : Int) ≤ z166 ∧ z166 ≤ (99999 : Int) := rgl_ hz166 (by decide +kernel) (by decide +kernel) (by decide +kernel)
        refine Exists.intro (z166, a1, a2) (And.intro rfl (And.intro True.intro ?_))
        rintro z167 m_ h168
        obtain rfl : σ139 = m_ := h168.2
        have h169 : (z167 = 1 ∧ a1 ≤ z166 ∧ z166 ≤ a2) ∨ (z167 = 0 ∧ ¬ (a1 ≤ z166 ∧ z166 ≤ a2)) := h168.1
        refine And.intro (fun h170 => ?_) (fun h170 => ?_)
        · skip
          refine B rfl ?_
          refine Exists.intro () (And.intro rfl (And.intro True.intro ?_))
          rintro z171 m_ h172
          obtain rfl : σ139 = m_ := h172.2
          have h173 : (z171 = 1 ∧ σ139 86 12 = 0) ∨ (z171 = 0 ∧ σ139 86 12 ≠ 0) := h172.1
          refine And.intro (fun h174 => ?_) (fun h174 => ?_)
          · skip
            refine B rfl ?_
            intro z175 ez175 hz175
            have q176 : z166 = z175 := ez166.trans ez175.symm
            subst q176
            refine Exists.intro () (And.intro rfl (And.intro (by show σ139 86 8 ≤ σ139 86 7; omega) ?_))
            intro z177 σ179 h178
            have f180 : ∀ k j : Int, ¬ (k = 86) → σ179 k j = σ139 k j := h178.2.2.2.2.2.2
            have h181 : σ179 86 9 ≤ σ179 86 8 := h178.1
            have h182 : σ179 86 8 ≤ σ179 86 7 := h178.2.1
            have h183 : σ179 86 7 = σ139 86 7 := h178.2.2.1
            have h184 : σ139 86 8 ≤ σ179 86 8 ∧ (σ139 86 8 < σ179 86 8 ∨ σ179 86 10 ≤ σ139 86 10) := h178.2.2.2.1
            have h185 : σ179 86 12 = σ139 86 12 := h178.2.2.2.2.1
            have h186 : (σ139 86 8 < σ179 86 8 ∨ σ179 86 10 ≤ 0) := h178.2.2.2.2.2.1
            refine Exists.intro _ (And.intro rfl ?_)
            exact (And.intro (by show σ179 86 9 ≤ σ179 86 8; omega) (And.intro (by show σ179 86 8 ≤ σ179 86 7; omega) (And.intro (by show σ179 86 7 = σ 86 7; omega) (And.intro (by show σ 86 8 ≤ σ179 86 8 ∧ (σ 86 8 < σ179 86 8 ∨ σ179 86 10 ≤ σ 86 10); omega) (And.intro (by show (σ179 86 12 = 0 ∧ σ 86 12 = 0 ∧ a1 ≤ z166 ∧ z166 ≤ a2 ∧ σ 86 10 = 2 ∧ z166 = σ 86 11 ∧ (σ 86 8 < σ179 86 8 ∨ σ179 86 10 ≤ 0)) ∨ (σ179 86 12 ≠ 0 ∧ z166 = 0); omega) (fun k j hk => ((f180 _ _ (by omega)).trans (f140 _ _ (by omega)))))))))
          · skip
            refine Exists.intro _ (And.intro rfl ?_)
            exact (And.intro (by show σ139 86 9 ≤ σ139 86 8; omega) (And.intro (by show σ139 86 8 ≤ σ139 86 7; omega) (And.intro (by show σ139 86 7 = σ 86 7; omega) (And.intro (by show σ 86 8 ≤ σ139 86 8 ∧ (σ 86 8 < σ139 86 8 ∨ σ139 86 10 ≤ σ 86 10); omega) (And.intro (by show (σ139 86 12 = 0 ∧ σ 86 12 = 0 ∧ a1 ≤ 0 ∧ 0 ≤ a2 ∧ σ 86 10 = 2 ∧ 0 = σ 86 11 ∧ (σ 86 8 < σ139 86 8 ∨ σ139 86 10 ≤ 0)) ∨ (σ139 86 12 ≠ 0 ∧ 0 = 0); omega) (fun k j hk => (f140 _ _ (by omega))))))))
        · skip
          refine Exists.intro 2 (And.intro rfl (And.intro (And.intro (by show 1 ≤ 2; omega) (by show 2 ≤ 3; omega)) ?_))
          intro z187 σ189 h188
          have f190 : ∀ k j : Int, ¬ (k = 86) → σ189 k j = σ139 k j := h188.2.2.2.2.2.2
          have h191 : σ189 86 8 = σ139 86 8 := h188.1
          have h192 : σ189 86 9 = σ139 86 9 := h188.2.1
          have h193 : σ189 86 7 = σ139 86 7 := h188.2.2.1
          have h194 : σ189 86 10 = σ139 86 10 := h188.2.2.2.1
          have h195 : σ189 86 11 = σ139 86 11 := h188.2.2.2.2.1
          have h196 : (σ139 86 12 = 0 → σ189 86 12 = 2) ∧ (σ139 86 12 ≠ 0 → σ189 86 12 = σ139 86 12) := h188.2.2.2.2.2.1
          refine Exists.intro () (And.intro rfl (And.intro True.intro ?_))
          rintro z197 m_ h198
          obtain rfl : σ189 = m_ := h198.2
          have h199 : (z197 = 1 ∧ σ189 86 12 = 0) ∨ (z197 = 0 ∧ σ189 86 12 ≠ 0) := h198.1
          refine And.intro (fun h200 => ?_) (fun h200 => ?_)
          · skip
            refine B rfl ?_
            intro z201 ez201 hz201
            have hz201 : (0 : Int) ≤ z201 ∧ z201 ≤ (99999 : Int) := rgl_ hz201 (by decide +kernel) (by decide +kernel) (by decide +kernel)
            refine Exists.intro () (And.intro rfl (And.intro (by show σ189 86 8 ≤ σ189 86 7; omega) ?_))
            intro z202 σ204 h203
            have f205 : ∀ k j : Int, ¬ (k = 86) → σ204 k j = σ189 k j := h203.2.2.2.2.2.2
            have h206 : σ204 86 9 ≤ σ204 86 8 := h203.1
            have h207 : σ204 86 8 ≤ σ204 86 7 := h203.2.1
            have h208 : σ204 86 7 = σ189 86 7 := h203.2.2.1
            have h209 : σ189 86 8 ≤ σ204 86 8 ∧ (σ189 86 8 < σ204 86 8 ∨ σ204 86 10 ≤ σ189 86 10) := h203.2.2.2.1
            have h210 : σ204 86 12 = σ189 86 12 := h203.2.2.2.2.1
            have h211 : (σ189 86 8 < σ204 86 8 ∨ σ204 86 10 ≤ 0) := h203.2.2.2.2.2.1
            refine Exists.intro _ (And.intro rfl ?_)
            exact (And.intro (by show σ204 86 9 ≤ σ204 86 8; omega) (And.intro (by show σ204 86 8 ≤ σ204 86 7; omega) (And.intro (by show σ204 86 7 = σ 86 7; omega) (And.intro (by show σ 86 8 ≤ σ204 86 8 ∧ (σ 86 8 < σ204 86 8 ∨ σ204 86 10 ≤ σ 86 10); omega) (And.intro (by show (σ204 86 12 = 0 ∧ σ 86 12 = 0 ∧ a1 ≤ z201 ∧ z201 ≤ a2 ∧ σ 86 10 = 2 ∧ z201 = σ 86 11 ∧ (σ 86 8 < σ204 86 8 ∨ σ204 86 10 ≤ 0)) ∨ (σ204 86 12 ≠ 0 ∧ z201 = 0); omega) (fun k j hk => ((f205 _ _ (by omega)).trans ((f190 _ _ (by omega)).trans (f140 _ _ (by omega))))))))))
          · skip
            refine Exists.intro _ (And.intro rfl ?_)
            exact (And.intro (by show σ189 86 9 ≤ σ189 86 8; omega) (And.intro (by show σ189 86 8 ≤ σ189 86 7; omega) (And.intro (by show σ189 86 7 = σ 86 7; omega) (And.intro (by show σ 86 8 ≤ σ189 86 8 ∧ (σ 86 8 < σ189 86 8 ∨ σ189 86 10 ≤ σ 86 10); omega) (And.intro (by show (σ189 86 12 = 0 ∧ σ 86 12 = 0 ∧ a1 ≤ 0 ∧ 0 ≤ a2 ∧ σ 86 10 = 2 ∧ 0 = σ 86 11 ∧ (σ 86 8 < σ189 86 8 ∨ σ189 86 10 ≤ 0)) ∨ (σ189 86 12 ≠ 0 ∧ 0 = 0); omega) (fun k j hk => ((f190 _ _ (by omega)).trans (f140 _ _ (by omega)))))))))
def as_G_X11_told : Int × Int × Int → List Sv_t := fun a => [(42, 86), (4, a.1), (0, a.2.1), (0, a.2.2)]
def pre_G_X11_told : Int × Int × Int → Me_t → Prop := fun a σ => (σ 86 9 ≤ σ 86 8) ∧ (σ 86 8 ≤ σ 86 7) ∧ (1 ≤ a.1 ∧ a.1 ≤ 14)
def post_G_X11_told : Int × Int × Int → Me_t → Int → Me_t → Prop := fun a σ z σ' => (σ' 86 9 ≤ σ' 86 8) ∧ (σ' 86 8 ≤ σ' 86 7) ∧ (σ' 86 7 = σ 86 7) ∧ (σ 86 8 ≤ σ' 86 8 ∧ (σ 86 8 < σ' 86 8 ∨ σ' 86 10 ≤ σ 86 10)) ∧ ((σ' 86 12 = 0 ∧ σ 86 12 = 0 ∧ a.2.1 ≤ z ∧ z ≤ a.2.2 ∧ (σ 86 8 < σ' 86 8 ∨ σ' 86 10 ≤ 0)) ∨ (σ' 86 12 ≠ 0 ∧ z = 0)) ∧ (∀ k j : Int, ¬ (k = 86) → σ' k j = σ k j)
set_option maxHeartbeats 3000000 in
set_option maxRecDepth 100000 in
theorem ct_G_X11_told (l : Launch) : CT_ l yX11_told cX11_told 4 (some .int) 8 172 as_G_X11_told (rmI_) pre_G_X11_told post_G_X11_told := by
  refine ct_of (by decide) (fun _ => Nat.le_of_ble_eq_true rfl) ?_
  intro X G Q ad σ a hl hR E hG R hM hv hp
  obtain ⟨a1, a2, a3⟩ := a
  have r_a2 : -2147483648 ≤ a2 ∧ a2 ≤ 2147483647 := hv (0, a2) (List.mem_of_getElem? (i := 2) rfl)
  have r_a3 : -2147483648 ≤ a3 ∧ a3 ≤ 2147483647 := hv (0, a3) (List.mem_of_getElem? (i := 3) rfl)
  have hp0 : σ 86 9 ≤ σ 86 8 := hp.1
  have hp1 : σ 86 8 ≤ σ 86 7 := hp.2.1
  have hp2 : 1 ≤ a1 ∧ a1 ≤ 14 := hp.2.2
  have B := @bk_ X G Q 0 0 ad SHS_ RX11 cX11_told 4 (some .int) flX11 plX11 knX11 [(346, 2, TR_ as_G_X11_needs (rmV_) pre_G_X11_needs post_G_X11_needs), (354, 3, TR_ as_G_X11_number (rmI_) pre_G_X11_number post_G_X11_number)] _ _ none kX11_told [] flX11_ok plX11_ok knX11_ok eX11_told oX11_told
    (List.forall_mem_cons.mpr ⟨cok_v (t := 32) (c := 11) (N := 39) (n := 1) (idx := 173) E (ct_G_X11_needs X.2.1) (by rw [hR]; decide) (Nat.zero_le _) (Nat.zero_le _) hG rfl rfl ⟨rfl, by decide, by decide, by decide⟩ (fun _ => ⟨_, _, rfl, rfl⟩) wl_X11_173 wi_X11_needs ws_X11_needs wn_X11 wc_X11_needs, List.forall_mem_cons.mpr ⟨cok_v (t := 32) (c := 11) (N := 39) (n := 2) (idx := 177) E (ct_G_X11_number X.2.1) (by rw [hR]; decide) (Nat.zero_le _) (Nat.zero_le _) hG rfl rfl ⟨rfl, by decide, by decide, by decide⟩ (fun _ => ⟨_, _, rfl, rfl⟩) wl_X11_177 wi_X11_number ws_X11_number wn_X11 wc_X11_number, fun _ h => absurd h List.not_mem_nil⟩⟩) R sok_no E
  show WP_ X G Q 0 0 ad SHS_ σ 0 [(42, 86), (4, a1), (0, a2), (0, a3)] []
  refine B rfl ?_
  refine Exists.intro a1 (And.intro rfl (And.intro (And.intro (by show σ 86 9 ≤ σ 86 8; omega) (And.intro (by show σ 86 8 ≤ σ 86 7; omega) (by show 1 ≤ a1 ∧ a1 ≤ 14; omega))) ?_))
  intro z1 σ3 h2
  have f4 : ∀ k j : Int, ¬ (k = 86) → σ3 k j = σ k j := h2.2.2.2.2.2
  have h5 : σ3 86 9 ≤ σ3 86 8 := h2.1
  have h6 : σ3 86 8 ≤ σ3 86 7 := h2.2.1
  have h7 : σ3 86 7 = σ 86 7 := h2.2.2.1
  have h8 : σ 86 8 ≤ σ3 86 8 ∧ (σ 86 8 < σ3 86 8 ∨ σ3 86 10 ≤ σ 86 10) := h2.2.2.2.1
  have h9 : σ3 86 12 = 0 → σ 86 12 = 0 ∧ (σ 86 8 < σ3 86 8 ∨ σ3 86 10 ≤ 0) := h2.2.2.2.2.1
  refine Exists.intro (a2, a3) (And.intro rfl (And.intro (And.intro (by show σ3 86 9 ≤ σ3 86 8; omega) (by show σ3 86 8 ≤ σ3 86 7; omega)) ?_))
  intro z10 σ12 h11
  have f13 : ∀ k j : Int, ¬ (k = 86) → σ12 k j = σ3 k j := h11.2.2.2.2.2
  have h14 : σ12 86 9 ≤ σ12 86 8 := h11.1
  have h15 : σ12 86 8 ≤ σ12 86 7 := h11.2.1
  have h16 : σ12 86 7 = σ3 86 7 := h11.2.2.1
  have h17 : σ3 86 8 ≤ σ12 86 8 ∧ (σ3 86 8 < σ12 86 8 ∨ σ12 86 10 ≤ σ3 86 10) := h11.2.2.2.1
  have h18 : (σ12 86 12 = 0 ∧ σ3 86 12 = 0 ∧ a2 ≤ z10 ∧ z10 ≤ a3 ∧ σ3 86 10 = 2 ∧ z10 = σ3 86 11 ∧ (σ3 86 8 < σ12 86 8 ∨ σ12 86 10 ≤ 0)) ∨ (σ12 86 12 ≠ 0 ∧ z10 = 0) := h11.2.2.2.2.1
  refine Exists.intro _ (And.intro rfl ?_)
  exact (And.intro (by show σ12 86 9 ≤ σ12 86 8; omega) (And.intro (by show σ12 86 8 ≤ σ12 86 7; omega) (And.intro (by show σ12 86 7 = σ 86 7; omega) (And.intro (by show σ 86 8 ≤ σ12 86 8 ∧ (σ 86 8 < σ12 86 8 ∨ σ12 86 10 ≤ σ 86 10); omega) (And.intro (by show (σ12 86 12 = 0 ∧ σ 86 12 = 0 ∧ a2 ≤ z10 ∧ z10 ≤ a3 ∧ (σ 86 8 < σ12 86 8 ∨ σ12 86 10 ≤ 0)) ∨ (σ12 86 12 ≠ 0 ∧ z10 = 0); omega) (fun k j hk => ((f13 _ _ (by omega)).trans (f4 _ _ (by omega)))))))))
def as_G_X11_freshLand : Unit → List Sv_t := fun a => [(42, 86)]
def pre_G_X11_freshLand : Unit → Me_t → Prop := fun a σ => (σ 86 9 ≤ σ 86 8) ∧ (σ 86 8 ≤ σ 86 7) ∧ (BW σ 92)
def post_G_X11_freshLand : Unit → Me_t → Int → Me_t → Prop := fun a σ z σ' => (σ' 86 9 ≤ σ' 86 8) ∧ (σ' 86 8 ≤ σ' 86 7) ∧ (σ' 86 7 = σ 86 7) ∧ (σ 86 8 ≤ σ' 86 8 ∧ (σ 86 8 < σ' 86 8 ∨ σ' 86 10 ≤ σ 86 10)) ∧ ((σ' 86 12 = 0 ∧ σ 86 12 = 0 ∧ 0 ≤ z ∧ z ≤ σ 92 1 - 1 ∧ (σ 86 8 < σ' 86 8 ∨ σ' 86 10 ≤ 0)) ∨ (σ' 86 12 ≠ 0 ∧ z = 0)) ∧ (∀ k j : Int, ¬ (k = 86) → σ' k j = σ k j)
set_option maxHeartbeats 3000000 in
set_option maxRecDepth 100000 in
theorem ct_G_X11_freshLand (l : Launch) : CT_ l yX11_freshLand cX11_freshLand 1 (some .int) 3 69 as_G_X11_freshLand (rmI_) pre_G_X11_freshLand post_G_X11_freshLand := by
  refine ct_of (by decide) (fun _ => Nat.le_of_ble_eq_true rfl) ?_
  intro X G Q ad σ a hl hR E hG R hM hv hp
  have hp0 : σ 86 9 ≤ σ 86 8 := hp.1
  have hp1 : σ 86 8 ≤ σ 86 7 := hp.2.1
  have hp2 : BW σ 92 := hp.2.2
  have B := @bk_ X G Q 0 0 ad SHS_ RX11 cX11_freshLand 1 (some .int) flX11 plX11 knX11 [(354, 3, TR_ as_G_X11_number (rmI_) pre_G_X11_number post_G_X11_number)] _ _ none kX11_freshLand [] flX11_ok plX11_ok knX11_ok eX11_freshLand oX11_freshLand
    (List.forall_mem_cons.mpr ⟨cok_v (t := 32) (c := 11) (N := 39) (n := 2) (idx := 177) E (ct_G_X11_number X.2.1) (by rw [hR]; decide) (Nat.zero_le _) (Nat.zero_le _) hG rfl rfl ⟨rfl, by decide, by decide, by decide⟩ (fun _ => ⟨_, _, rfl, rfl⟩) wl_X11_177 wi_X11_number ws_X11_number wn_X11 wc_X11_number, fun _ h => absurd h List.not_mem_nil⟩) R sok_no E
  show WP_ X G Q 0 0 ad SHS_ σ 0 [(42, 86)] []
  refine B rfl ?_
  refine And.intro (by omega) ?_
  intro z1 ez1 hz1
  have hz1 : ((-1) : Int) ≤ z1 ∧ z1 ≤ (1999 : Int) := hz1
  have b2 := wrh_ hp2 (i := 1) (by omega)
  have b2 : (0 : Int) ≤ σ 92 1 ∧ σ 92 1 ≤ (3 : Int) := b2
  refine And.intro (by omega) ?_
  refine Exists.intro (0, z1 - 1) (And.intro rfl (And.intro (And.intro (by show σ 86 9 ≤ σ 86 8; omega) (by show σ 86 8 ≤ σ 86 7; omega)) ?_))
  intro z3 σ5 h4
  have f6 : ∀ k j : Int, ¬ (k = 86) → σ5 k j = σ k j := h4.2.2.2.2.2
  have h7 : σ5 86 9 ≤ σ5 86 8 := h4.1
  have h8 : σ5 86 8 ≤ σ5 86 7 := h4.2.1
  have h9 : σ5 86 7 = σ 86 7 := h4.2.2.1
  have h10 : σ 86 8 ≤ σ5 86 8 ∧ (σ 86 8 < σ5 86 8 ∨ σ5 86 10 ≤ σ 86 10) := h4.2.2.2.1
  have h11 : (σ5 86 12 = 0 ∧ σ 86 12 = 0 ∧ 0 ≤ z3 ∧ z3 ≤ (z1 - 1) ∧ σ 86 10 = 2 ∧ z3 = σ 86 11 ∧ (σ 86 8 < σ5 86 8 ∨ σ5 86 10 ≤ 0)) ∨ (σ5 86 12 ≠ 0 ∧ z3 = 0) := h4.2.2.2.2.1
  refine Exists.intro _ (And.intro rfl ?_)
  exact (And.intro (by show σ5 86 9 ≤ σ5 86 8; omega) (And.intro (by show σ5 86 8 ≤ σ5 86 7; omega) (And.intro (by show σ5 86 7 = σ 86 7; omega) (And.intro (by show σ 86 8 ≤ σ5 86 8 ∧ (σ 86 8 < σ5 86 8 ∨ σ5 86 10 ≤ σ 86 10); omega) (And.intro (by show (σ5 86 12 = 0 ∧ σ 86 12 = 0 ∧ 0 ≤ z3 ∧ z3 ≤ σ 92 1 - 1 ∧ (σ 86 8 < σ5 86 8 ∨ σ5 86 10 ≤ 0)) ∨ (σ5 86 12 ≠ 0 ∧ z3 = 0); omega) (fun k j hk => (f6 _ _ (by omega))))))))
def as_G_X11_readMonths : Int → List Sv_t := fun a => [(42, 86), (0, a)]
def pre_G_X11_readMonths : Int → Me_t → Prop := fun a σ => (σ 86 9 ≤ σ 86 8) ∧ (σ 86 8 ≤ σ 86 7) ∧ (BW σ 92) ∧ (a = 6 + 15 * σ 92 1) ∧ (0 ≤ σ 92 1) ∧ (σ 92 1 ≤ 2)
def post_G_X11_readMonths : Int → Me_t → Int → Me_t → Prop := fun a σ z σ' => (σ' 86 9 ≤ σ' 86 8) ∧ (σ' 86 8 ≤ σ' 86 7) ∧ (σ' 86 7 = σ 86 7) ∧ (σ 86 8 ≤ σ' 86 8 ∧ (σ 86 8 < σ' 86 8 ∨ σ' 86 10 ≤ σ 86 10)) ∧ (BW σ' 92) ∧ (σ' 86 12 = 0 → σ 86 12 = 0 ∧ 1 ≤ σ' 92 (a + 3)) ∧ (∀ j : Int, j < a + 3 → σ' 92 j = σ 92 j) ∧ (∀ k j : Int, ¬ (k = 86 ∨ k = 92) → σ' k j = σ k j)
set_option maxHeartbeats 3000000 in
set_option maxRecDepth 100000 in
theorem ct_G_X11_readMonths (l : Launch) : CT_ l yX11_readMonths cX11_readMonths 4 none 6 129 as_G_X11_readMonths (rmV_) pre_G_X11_readMonths post_G_X11_readMonths := by
  refine ct_of (by decide) (fun _ => Nat.le_of_ble_eq_true rfl) ?_
  intro X G Q ad σ a hl hR E hG R hM hv hp
  obtain ⟨a1, rfl⟩ : ∃ q : Int, q = a := ⟨_, rfl⟩
  have r_a1 : -2147483648 ≤ a1 ∧ a1 ≤ 2147483647 := hv (0, a1) (List.mem_of_getElem? (i := 1) rfl)
  have hp0 : σ 86 9 ≤ σ 86 8 := hp.1
  have hp1 : σ 86 8 ≤ σ 86 7 := hp.2.1
  have hp2 : BW σ 92 := hp.2.2.1
  have hp3 : a1 = 6 + 15 * σ 92 1 := hp.2.2.2.1
  have hp4 : 0 ≤ σ 92 1 := hp.2.2.2.2.1
  have hp5 : σ 92 1 ≤ 2 := hp.2.2.2.2.2
  have B := @bk_ X G Q 0 0 ad SHS_ RX11 cX11_readMonths 4 none flX11 plX11 knX11 [(354, 3, TR_ as_G_X11_number (rmI_) pre_G_X11_number post_G_X11_number), (294, 1, TR_ as_G_X11_good (rmI_) pre_G_X11_good post_G_X11_good), (318, 2, TR_ as_G_X11_is (rmI_) pre_G_X11_is post_G_X11_is), (159, 3, TR_ as_G_X11_in (rmI_) pre_G_X11_in post_G_X11_in), (338, 2, TR_ as_G_X11_errs (rmV_) pre_G_X11_errs post_G_X11_errs)] _ _ none kX11_readMonths [2, 8, 15, 23, 38, 43, 58, 82, 83, 91] flX11_ok plX11_ok knX11_ok eX11_readMonths oX11_readMonths
    (List.forall_mem_cons.mpr ⟨cok_v (t := 32) (c := 11) (N := 39) (n := 2) (idx := 177) E (ct_G_X11_number X.2.1) (by rw [hR]; decide) (Nat.zero_le _) (Nat.zero_le _) hG rfl rfl ⟨rfl, by decide, by decide, by decide⟩ (fun _ => ⟨_, _, rfl, rfl⟩) wl_X11_177 wi_X11_number ws_X11_number wn_X11 wc_X11_number, List.forall_mem_cons.mpr ⟨cok_v (t := 32) (c := 11) (N := 39) (n := 0) (idx := 147) E (ct_G_X11_good X.2.1) (by rw [hR]; decide) (Nat.zero_le _) (Nat.zero_le _) hG rfl rfl ⟨rfl, by decide, by decide, by decide⟩ (fun _ => ⟨_, _, rfl, rfl⟩) wl_X11_147 wi_X11_good ws_X11_good wn_X11 wc_X11_good, List.forall_mem_cons.mpr ⟨cok_v (t := 32) (c := 11) (N := 39) (n := 1) (idx := 159) E (ct_G_X11_is X.2.1) (by rw [hR]; decide) (Nat.zero_le _) (Nat.zero_le _) hG rfl rfl ⟨rfl, by decide, by decide, by decide⟩ (fun _ => ⟨_, _, rfl, rfl⟩) wl_X11_159 wi_X11_is ws_X11_is wn_X11 wc_X11_is, List.forall_mem_cons.mpr ⟨cok_s (n := 3) (idx := 79) E (ct_G_X11_in X.2.1) (by rw [hR]; decide) (Nat.zero_le _) (Nat.zero_le _) hG ⟨by decide, by decide, by decide⟩ (fun _ => rfl) wl_X11_79 wt_X11_in wn_X11 wc_X11_in, List.forall_mem_cons.mpr ⟨cok_v (t := 32) (c := 11) (N := 39) (n := 1) (idx := 169) E (ct_G_X11_errs X.2.1) (by rw [hR]; decide) (Nat.zero_le _) (Nat.zero_le _) hG rfl rfl ⟨rfl, by decide, by decide, by decide⟩ (fun _ => ⟨_, _, rfl, rfl⟩) wl_X11_169 wi_X11_errs ws_X11_errs wn_X11 wc_X11_errs, fun _ h => absurd h List.not_mem_nil⟩⟩⟩⟩⟩) R sok_no E
  show WP_ X G Q 0 0 ad SHS_ σ 0 [(42, 86), (0, a1), (9, 0), (9, 0)] []
  refine B rfl ?_
  have lp_2 : ∀ (nq_ : Nat) (v2 : Int) (τ2 : Me_t), (∀ k j : Int, ¬ (k = 86 ∨ k = 92) → τ2 k j = σ k j) → (0 ≤ v2) → (v2 ≤ 8) → (τ2 86 9 ≤ τ2 86 8) → (τ2 86 8 ≤ τ2 86 7) → (τ2 86 7 = σ 86 7) → (σ 86 8 ≤ τ2 86 8 ∧ (σ 86 8 < τ2 86 8 ∨ τ2 86 10 ≤ σ 86 10)) → (τ2 86 12 = 0 → σ 86 12 = 0) → (BW τ2 92) → (∀ j : Int, j < a1 + 3 → τ2 92 j = σ 92 j) → (9 - v2 : Int).toNat < nq_ → WP_ X G Q 0 0 ad SHS_ τ2 2 [(42, 86), (0, a1), (0, v2), (9, 0)] [] := by
    intro nq_
    induction nq_ with
    | zero => intros; omega
    | succ nq_ ih_2 =>
      intro v2 τ2 hf2 hi2_0 hi2_1 hi2_2 hi2_3 hi2_4 hi2_5 hi2_6 hi2_7 hi2_8 hm2
      refine B rfl ?_
      have jn_43 : ∀ (τ43 : Me_t), (∀ k j : Int, ¬ (k = 86 ∨ k = 92) → τ43 k j = σ k j) → (τ43 86 9 ≤ τ43 86 8) → (τ43 86 8 ≤ τ43 86 7) → (τ43 86 7 = σ 86 7) → (σ 86 8 ≤ τ43 86 8 ∧ (σ 86 8 < τ43 86 8 ∨ τ43 86 10 ≤ σ 86 10)) → (τ43 86 12 = 0 → σ 86 12 = 0) → (v2 ≤ 7 ∨ τ43 86 12 ≠ 0 ∨ τ43 86 10 ≠ 2 ∨ ¬ (1 ≤ τ43 86 11 ∧ τ43 86 11 ≤ 60)) → (BW τ43 92) → (∀ j : Int, j < a1 + 3 → τ43 92 j = σ 92 j) → WP_ X G Q 0 0 ad SHS_ τ43 43 [(42, 86), (0, a1), (0, v2), (9, 0)] [] := by
        intro τ43 hf43 hi43_0 hi43_1 hi43_2 hi43_3 hi43_4 hi43_5 hi43_6 hi43_7
        refine B rfl ?_
        refine Exists.intro (1, 60) (And.intro rfl (And.intro (And.intro (by show τ43 86 9 ≤ τ43 86 8; omega) (by show τ43 86 8 ≤ τ43 86 7; omega)) ?_))
        intro z1 σ3 h2
        have f4 : ∀ k j : Int, ¬ (k = 86) → σ3 k j = τ43 k j := h2.2.2.2.2.2
        have h5 : σ3 86 9 ≤ σ3 86 8 := h2.1
        have h6 : σ3 86 8 ≤ σ3 86 7 := h2.2.1
        have h7 : σ3 86 7 = τ43 86 7 := h2.2.2.1
        have h8 : τ43 86 8 ≤ σ3 86 8 ∧ (τ43 86 8 < σ3 86 8 ∨ σ3 86 10 ≤ τ43 86 10) := h2.2.2.2.1
        have h9 : (σ3 86 12 = 0 ∧ τ43 86 12 = 0 ∧ 1 ≤ z1 ∧ z1 ≤ 60 ∧ τ43 86 10 = 2 ∧ z1 = τ43 86 11 ∧ (τ43 86 8 < σ3 86 8 ∨ σ3 86 10 ≤ 0)) ∨ (σ3 86 12 ≠ 0 ∧ z1 = 0) := h2.2.2.2.2.1
        try have t10 : σ3 86 11 = τ43 86 11 := (f4 _ _ (by omega))
        refine Exists.intro () (And.intro rfl (And.intro True.intro ?_))
        rintro z11 m_ h12
        obtain rfl : σ3 = m_ := h12.2
        have h13 : (z11 = 1 ∧ σ3 86 12 = 0) ∨ (z11 = 0 ∧ σ3 86 12 ≠ 0) := h12.1
        refine And.intro (fun h14 => ?_) (fun h14 => ?_)
        · skip
          refine B rfl ?_
          refine And.intro (by omega) ?_
          refine And.intro (by omega) ?_
          refine And.intro (by omega) ?_
          refine And.intro (by show ((-1) : Int) ≤ _ ∧ _ ≤ (1999 : Int); omega) ?_
          intro σ15 e16
          have p18 : BW σ3 92 := BW_fr hi43_6 (fun k j hk => (f4 _ _ (by omega)))
          have p17 : BW σ15 92 := wstl_ (l := σ 92 1) (w := 7 + v2) p18 e16 (by omega) (by omega) (by omega) (by have e5 := ld_len (w := 7 + v2) (by omega); omega)
          refine And.intro (by omega) ?_
          intro z19 ez19 hz19
          have hz19 : (0 : Int) ≤ z19 ∧ z19 ≤ (4 : Int) := hz19
          try have t20 : σ15 86 10 = σ3 86 10 := (ups_r e16 (by omega))
          refine And.intro (fun h21 => ?_) (fun h21 => ?_)
          · skip
            refine B rfl ?_
            refine And.intro (by omega) ?_
            refine And.intro (by omega) ?_
            refine And.intro (by show ((-1) : Int) ≤ _ ∧ _ ≤ (1999 : Int); omega) ?_
            intro σ22 e23
            have p24 : BW σ22 92 := wstl_ (l := σ 92 1) (w := 3) p17 e23 (by omega) (by omega) (by omega) (by have e5 : ldhi_ 3 = 8 := rfl; have e6 : ldlo_ 3 = 0 := rfl; omega)
            refine Exists.intro 0 (And.intro rfl ?_)
            try have t25 : σ22 86 9 = σ3 86 9 := ((ups_r e23 (by omega)).trans (ups_r e16 (by omega)))
            try have t26 : σ22 86 8 = σ3 86 8 := ((ups_r e23 (by omega)).trans (ups_r e16 (by omega)))
            try have t27 : σ22 86 7 = σ3 86 7 := ((ups_r e23 (by omega)).trans (ups_r e16 (by omega)))
            try have t28 : σ22 86 10 = σ15 86 10 := (ups_r e23 (by omega))
            try have t29 : σ22 86 12 = σ3 86 12 := ((ups_r e23 (by omega)).trans (ups_r e16 (by omega)))
            have t30 : σ22 92 (a1 + 3) = v2 + 1 := ups_v e23
            exact (And.intro (by show σ22 86 9 ≤ σ22 86 8; omega) (And.intro (by show σ22 86 8 ≤ σ22 86 7; omega) (And.intro (by show σ22 86 7 = σ 86 7; omega) (And.intro (by show σ 86 8 ≤ σ22 86 8 ∧ (σ 86 8 < σ22 86 8 ∨ σ22 86 10 ≤ σ 86 10); omega) (And.intro p24 (And.intro (by show σ22 86 12 = 0 → σ 86 12 = 0 ∧ 1 ≤ σ22 92 (a1 + 3); omega) (And.intro (by show ∀ j : Int, j < a1 + 3 → σ22 92 j = σ 92 j; intro j hj; exact (((ups_r e23 (by omega)).trans ((ups_r e16 (by omega)).trans (f4 _ _ (by omega))))).trans (hi43_7 j hj)) (fun k j hk => ((ups_r e23 (by omega)).trans ((ups_r e16 (by omega)).trans ((f4 _ _ (by omega)).trans (hf43 _ _ (by omega)))))))))))))
          · skip
            show WP_ X G Q 0 0 ad SHS_ σ15 82 [(42, 86), (0, a1), (0, v2 + 1), (0, z1)] []
            refine B rfl ?_
            show WP_ X G Q 0 0 ad SHS_ σ15 83 [(42, 86), (0, a1), (0, v2 + 1), (0, z1)] [(42, 86)]
            refine so_ldcs (n := 182) (i := 7) (tx := "leap") E (eX11_readMonths (83, .ldc 182, 2) (List.mem_of_getElem? (i := 46) rfl)) (by decide) ?_
            refine B rfl ?_
            try have t31 : σ15 86 12 = σ3 86 12 := (ups_r e16 (by omega))
            try have t32 : σ15 86 8 = σ3 86 8 := (ups_r e16 (by omega))
            try have t33 : σ15 86 11 = σ3 86 11 := (ups_r e16 (by omega))
            try have t34 : σ15 86 9 = σ3 86 9 := (ups_r e16 (by omega))
            try have t35 : σ15 86 7 = σ3 86 7 := (ups_r e16 (by omega))
            refine Exists.intro 8 (And.intro rfl (And.intro (And.intro (by show σ15 86 9 ≤ σ15 86 8; omega) (And.intro (by show σ15 86 8 ≤ σ15 86 7; omega) (by show 1 ≤ 8 ∧ 8 ≤ 14; omega))) ?_))
            rintro z36 m_ h37
            obtain rfl : σ15 = m_ := h37.2.2.2
            have h38 : 0 ≤ z36 ∧ z36 ≤ 1 := h37.1
            have h39 : z36 = isF_ σ15 8 := h37.2.1
            have h40 : z36 = 1 → σ15 86 12 = 0 ∧ σ15 86 10 = 1 := h37.2.2.1
            refine And.intro (fun h41 => ?_) (fun h41 => ?_)
            · skip
              show WP_ X G Q 0 0 ad SHS_ σ15 2 [(42, 86), (0, a1), (0, v2 + 1), (0, z1)] []
              refine wdrop_ (L' := [(42, 86), (0, a1), (0, v2 + 1), (9, 0)]) ⟨Or.inr rfl, ⟨Or.inr rfl, ⟨Or.inr rfl, ⟨Or.inl rfl, trivial⟩⟩⟩⟩ ?_
              exact ih_2 (v2 + 1) σ15 (fun k j hk => ((ups_r e16 (by omega)).trans ((f4 _ _ (by omega)).trans (hf43 _ _ (by omega))))) (by show 0 ≤ (v2 + 1); omega) (by show (v2 + 1) ≤ 8; omega) (by show σ15 86 9 ≤ σ15 86 8; omega) (by show σ15 86 8 ≤ σ15 86 7; omega) (by show σ15 86 7 = σ 86 7; omega) (by show σ 86 8 ≤ σ15 86 8 ∧ (σ 86 8 < σ15 86 8 ∨ σ15 86 10 ≤ σ 86 10); omega) (by show σ15 86 12 = 0 → σ 86 12 = 0; omega) p17 (by show ∀ j : Int, j < a1 + 3 → σ15 92 j = σ 92 j; intro j hj; exact (((ups_r e16 (by omega)).trans (f4 _ _ (by omega)))).trans (hi43_7 j hj)) (by omega)
            · skip
              show WP_ X G Q 0 0 ad SHS_ σ15 91 [(42, 86), (0, a1), (0, v2 + 1), (0, z1)] []
              refine B rfl ?_
              refine And.intro (by omega) ?_
              refine And.intro (by omega) ?_
              refine And.intro (by show ((-1) : Int) ≤ _ ∧ _ ≤ (1999 : Int); omega) ?_
              intro σ42 e43
              have p44 : BW σ42 92 := wstl_ (l := σ 92 1) (w := 3) p17 e43 (by omega) (by omega) (by omega) (by have e5 : ldhi_ 3 = 8 := rfl; have e6 : ldlo_ 3 = 0 := rfl; omega)
              refine Exists.intro 0 (And.intro rfl ?_)
              try have t45 : σ42 86 9 = σ15 86 9 := (ups_r e43 (by omega))
              try have t46 : σ42 86 8 = σ15 86 8 := (ups_r e43 (by omega))
              try have t47 : σ42 86 7 = σ15 86 7 := (ups_r e43 (by omega))
              try have t48 : σ42 86 10 = σ15 86 10 := (ups_r e43 (by omega))
              try have t49 : σ42 86 12 = σ15 86 12 := (ups_r e43 (by omega))
              have t50 : σ42 92 (a1 + 3) = v2 + 1 := ups_v e43
              exact (And.intro (by show σ42 86 9 ≤ σ42 86 8; omega) (And.intro (by show σ42 86 8 ≤ σ42 86 7; omega) (And.intro (by show σ42 86 7 = σ 86 7; omega) (And.intro (by show σ 86 8 ≤ σ42 86 8 ∧ (σ 86 8 < σ42 86 8 ∨ σ42 86 10 ≤ σ 86 10); omega) (And.intro p44 (And.intro (by show σ42 86 12 = 0 → σ 86 12 = 0 ∧ 1 ≤ σ42 92 (a1 + 3); omega) (And.intro (by show ∀ j : Int, j < a1 + 3 → σ42 92 j = σ 92 j; intro j hj; exact (((ups_r e43 (by omega)).trans ((ups_r e16 (by omega)).trans (f4 _ _ (by omega))))).trans (hi43_7 j hj)) (fun k j hk => ((ups_r e43 (by omega)).trans ((ups_r e16 (by omega)).trans ((f4 _ _ (by omega)).trans (hf43 _ _ (by omega)))))))))))))
        · skip
          show WP_ X G Q 0 0 ad SHS_ σ3 58 [(42, 86), (0, a1), (0, v2), (0, z1)] []
          refine B rfl ?_
          refine Exists.intro 0 (And.intro rfl ?_)
          have p51 : BW σ3 92 := BW_fr hi43_6 (fun k j hk => (f4 _ _ (by omega)))
          try have t52 : σ3 92 (a1 + 3) = σ 92 (a1 + 3) := ((f4 _ _ (by omega)).trans (hf43 _ _ (by omega)))
          exact (And.intro (by show σ3 86 9 ≤ σ3 86 8; omega) (And.intro (by show σ3 86 8 ≤ σ3 86 7; omega) (And.intro (by show σ3 86 7 = σ 86 7; omega) (And.intro (by show σ 86 8 ≤ σ3 86 8 ∧ (σ 86 8 < σ3 86 8 ∨ σ3 86 10 ≤ σ 86 10); omega) (And.intro p51 (And.intro (by show σ3 86 12 = 0 → σ 86 12 = 0 ∧ 1 ≤ σ3 92 (a1 + 3); omega) (And.intro (by show ∀ j : Int, j < a1 + 3 → σ3 92 j = σ 92 j; intro j hj; exact ((f4 _ _ (by omega))).trans (hi43_7 j hj)) (fun k j hk => ((f4 _ _ (by omega)).trans (hf43 _ _ (by omega)))))))))))
      refine And.intro (fun h53 => ?_) (fun h53 => ?_)
      · skip
        try have t54 : τ2 86 11 = σ 86 11 := (hf2 _ _ (by omega))
        exact jn_43 τ2 (fun k j hk => (hf2 _ _ (by omega))) (by show τ2 86 9 ≤ τ2 86 8; omega) (by show τ2 86 8 ≤ τ2 86 7; omega) (by show τ2 86 7 = σ 86 7; omega) (by show σ 86 8 ≤ τ2 86 8 ∧ (σ 86 8 < τ2 86 8 ∨ τ2 86 10 ≤ σ 86 10); omega) (by show τ2 86 12 = 0 → σ 86 12 = 0; omega) (by show v2 ≤ 7 ∨ τ2 86 12 ≠ 0 ∨ τ2 86 10 ≠ 2 ∨ ¬ (1 ≤ τ2 86 11 ∧ τ2 86 11 ≤ 60); omega) hi2_7 (by show ∀ j : Int, j < a1 + 3 → τ2 92 j = σ 92 j; intro j hj; exact (rfl).trans (hi2_8 j hj))
      · skip
        show WP_ X G Q 0 0 ad SHS_ τ2 8 [(42, 86), (0, a1), (0, v2), (9, 0)] []
        refine B rfl ?_
        try have t55 : τ2 86 11 = σ 86 11 := (hf2 _ _ (by omega))
        refine Exists.intro () (And.intro rfl (And.intro True.intro ?_))
        rintro z56 m_ h57
        obtain rfl : τ2 = m_ := h57.2
        have h58 : (z56 = 1 ∧ τ2 86 12 = 0) ∨ (z56 = 0 ∧ τ2 86 12 ≠ 0) := h57.1
        refine And.intro (fun h59 => ?_) (fun h59 => ?_)
        · skip
          exact jn_43 τ2 (fun k j hk => (hf2 _ _ (by omega))) (by show τ2 86 9 ≤ τ2 86 8; omega) (by show τ2 86 8 ≤ τ2 86 7; omega) (by show τ2 86 7 = σ 86 7; omega) (by show σ 86 8 ≤ τ2 86 8 ∧ (σ 86 8 < τ2 86 8 ∨ τ2 86 10 ≤ σ 86 10); omega) (by show τ2 86 12 = 0 → σ 86 12 = 0; omega) (by show v2 ≤ 7 ∨ τ2 86 12 ≠ 0 ∨ τ2 86 10 ≠ 2 ∨ ¬ (1 ≤ τ2 86 11 ∧ τ2 86 11 ≤ 60); omega) hi2_7 (by show ∀ j : Int, j < a1 + 3 → τ2 92 j = σ 92 j; intro j hj; exact (rfl).trans (hi2_8 j hj))
        · skip
          show WP_ X G Q 0 0 ad SHS_ τ2 15 [(42, 86), (0, a1), (0, v2), (9, 0)] []
          refine B rfl ?_
          intro z60 ez60 hz60
          have hz60 : (0 : Int) ≤ z60 ∧ z60 ≤ (4 : Int) := hz60
          refine And.intro (fun h61 => ?_) (fun h61 => ?_)
          · skip
            exact jn_43 τ2 (fun k j hk => (hf2 _ _ (by omega))) (by show τ2 86 9 ≤ τ2 86 8; omega) (by show τ2 86 8 ≤ τ2 86 7; omega) (by show τ2 86 7 = σ 86 7; omega) (by show σ 86 8 ≤ τ2 86 8 ∧ (σ 86 8 < τ2 86 8 ∨ τ2 86 10 ≤ σ 86 10); omega) (by show τ2 86 12 = 0 → σ 86 12 = 0; omega) (by show v2 ≤ 7 ∨ τ2 86 12 ≠ 0 ∨ τ2 86 10 ≠ 2 ∨ ¬ (1 ≤ τ2 86 11 ∧ τ2 86 11 ≤ 60); omega) hi2_7 (by show ∀ j : Int, j < a1 + 3 → τ2 92 j = σ 92 j; intro j hj; exact (rfl).trans (hi2_8 j hj))
          · skip
            show WP_ X G Q 0 0 ad SHS_ τ2 23 [(42, 86), (0, a1), (0, v2), (9, 0)] []
            refine B rfl ?_
            intro z62 ez62 hz62
            have hz62 : (0 : Int) ≤ z62 ∧ z62 ≤ (99999 : Int) := rgl_ hz62 (by decide +kernel) (by decide +kernel) (by decide +kernel)
            refine Exists.intro (z62, 1, 60) (And.intro rfl (And.intro True.intro ?_))
            rintro z63 m_ h64
            obtain rfl : τ2 = m_ := h64.2
            have h65 : (z63 = 1 ∧ 1 ≤ z62 ∧ z62 ≤ 60) ∨ (z63 = 0 ∧ ¬ (1 ≤ z62 ∧ z62 ≤ 60)) := h64.1
            refine And.intro (fun h66 => ?_) (fun h66 => ?_)
            · skip
              exact jn_43 τ2 (fun k j hk => (hf2 _ _ (by omega))) (by show τ2 86 9 ≤ τ2 86 8; omega) (by show τ2 86 8 ≤ τ2 86 7; omega) (by show τ2 86 7 = σ 86 7; omega) (by show σ 86 8 ≤ τ2 86 8 ∧ (σ 86 8 < τ2 86 8 ∨ τ2 86 10 ≤ σ 86 10); omega) (by show τ2 86 12 = 0 → σ 86 12 = 0; omega) (by show v2 ≤ 7 ∨ τ2 86 12 ≠ 0 ∨ τ2 86 10 ≠ 2 ∨ ¬ (1 ≤ τ2 86 11 ∧ τ2 86 11 ≤ 60); omega) hi2_7 (by show ∀ j : Int, j < a1 + 3 → τ2 92 j = σ 92 j; intro j hj; exact (rfl).trans (hi2_8 j hj))
            · skip
              show WP_ X G Q 0 0 ad SHS_ τ2 38 [(42, 86), (0, a1), (0, v2), (9, 0)] []
              refine B rfl ?_
              refine Exists.intro 3 (And.intro rfl (And.intro (And.intro (by show 1 ≤ 3; omega) (by show 3 ≤ 3; omega)) ?_))
              intro z67 σ69 h68
              have f70 : ∀ k j : Int, ¬ (k = 86) → σ69 k j = τ2 k j := h68.2.2.2.2.2.2
              have h71 : σ69 86 8 = τ2 86 8 := h68.1
              have h72 : σ69 86 9 = τ2 86 9 := h68.2.1
              have h73 : σ69 86 7 = τ2 86 7 := h68.2.2.1
              have h74 : σ69 86 10 = τ2 86 10 := h68.2.2.2.1
              have h75 : σ69 86 11 = τ2 86 11 := h68.2.2.2.2.1
              have h76 : (τ2 86 12 = 0 → σ69 86 12 = 3) ∧ (τ2 86 12 ≠ 0 → σ69 86 12 = τ2 86 12) := h68.2.2.2.2.2.1
              have p77 : BW σ69 92 := BW_fr hi2_7 (fun k j hk => (f70 _ _ (by omega)))
              exact jn_43 σ69 (fun k j hk => ((f70 _ _ (by omega)).trans (hf2 _ _ (by omega)))) (by show σ69 86 9 ≤ σ69 86 8; omega) (by show σ69 86 8 ≤ σ69 86 7; omega) (by show σ69 86 7 = σ 86 7; omega) (by show σ 86 8 ≤ σ69 86 8 ∧ (σ 86 8 < σ69 86 8 ∨ σ69 86 10 ≤ σ 86 10); omega) (by show σ69 86 12 = 0 → σ 86 12 = 0; omega) (by show v2 ≤ 7 ∨ σ69 86 12 ≠ 0 ∨ σ69 86 10 ≠ 2 ∨ ¬ (1 ≤ σ69 86 11 ∧ σ69 86 11 ≤ 60); omega) p77 (by show ∀ j : Int, j < a1 + 3 → σ69 92 j = σ 92 j; intro j hj; exact ((f70 _ _ (by omega))).trans (hi2_8 j hj))
  exact lp_2 ((9 - 0 : Int).toNat + 1) 0 σ (fun k j hk => rfl) (by show 0 ≤ 0; omega) (by show 0 ≤ 8; omega) (by show σ 86 9 ≤ σ 86 8; omega) (by show σ 86 8 ≤ σ 86 7; omega) (by show σ 86 7 = σ 86 7; omega) (by show σ 86 8 ≤ σ 86 8 ∧ (σ 86 8 < σ 86 8 ∨ σ 86 10 ≤ σ 86 10); omega) (by show σ 86 12 = 0 → σ 86 12 = 0; omega) hp2 (by show ∀ j : Int, j < a1 + 3 → σ 92 j = σ 92 j; intro j hj; exact rfl) (by omega)
