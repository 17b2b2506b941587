/-! the class and the reference beside each other: images that are there, rows that are there -/
def REL (σ : Me_t) : Prop := (∀ k : Int, 0 ≤ k → k < 3 → σ 28 k = σ 89 k) ∧ ∀ k : Int, 0 ≤ k → k < 4 → (σ (78 + 2 * k) 1 = 0 ∧ σ 102 k = -1) ∨ (σ (78 + 2 * k) 1 ≠ 0 ∧ 0 ≤ σ 102 k ∧ σ 102 k = σ (78 + 2 * k) 3 ∧ σ 103 k = σ (78 + 2 * k) 2)
theorem REL_fr {σ σ' : Me_t} (h : REL σ) (f : ∀ k j : Int, k = 28 ∨ k = 89 ∨ k = 102 ∨ k = 103 ∨ k = 78 ∨ k = 80 ∨ k = 82 ∨ k = 84 → σ' k j = σ k j) : REL σ' := by
  refine ⟨fun k h0 h1 => ?_, fun k h0 h1 => ?_⟩
  · rw [f 28 k (by omega), f 89 k (by omega)]
    exact h.1 k h0 h1
  · rw [f (78 + 2 * k) 1 (by omega), f (78 + 2 * k) 2 (by omega), f (78 + 2 * k) 3 (by omega), f 102 k (by omega), f 103 k (by omega)]
    exact h.2 k h0 h1
theorem REL_img {σ σ1 σ2 : Me_t} {a : Int} (h : REL σ) (h1 : 0 ≤ a ∧ a ≤ 2 → σ1 28 a = 1) (h2 : ∀ j : Int, j ≠ a → σ1 28 j = σ 28 j) (h3 : 0 ≤ a ∧ a ≤ 2 → σ2 89 a = 1) (h4 : ∀ j : Int, j ≠ a → σ2 89 j = σ1 89 j) (f1 : ∀ k j : Int, ¬ (k ≤ 77) → σ1 k j = σ k j) (f2 : ∀ k j : Int, ¬ (k = 88 ∨ k = 89) → σ2 k j = σ1 k j) : REL σ2 := by
  refine ⟨fun k h0 q1 => ?_, fun k h0 q1 => ?_⟩
  · by_cases hk : k = a
    · subst hk
      rw [h3 (by omega), f2 28 k (by omega), h1 (by omega)]
    · rw [h4 k hk, f2 28 k (by omega), h2 k hk, f1 89 k (by omega)]
      exact h.1 k h0 q1
  · rw [f2 (78 + 2 * k) 1 (by omega), f2 (78 + 2 * k) 2 (by omega), f2 (78 + 2 * k) 3 (by omega), f2 102 k (by omega), f2 103 k (by omega), f1 (78 + 2 * k) 1 (by omega), f1 (78 + 2 * k) 2 (by omega), f1 (78 + 2 * k) 3 (by omega), f1 102 k (by omega), f1 103 k (by omega)]
    exact h.2 k h0 q1
theorem REL_row {σ σ1 σ2 : Me_t} {a w n z1 z2 : Int} (h : REL σ)
    (c1 : (¬ ((0 ≤ a ∧ a ≤ 3) ∧ (0 ≤ w ∧ w ≤ 3) ∧ n ≤ 60) → z1 = -2) ∧ ((0 ≤ a ∧ a ≤ 3) ∧ (0 ≤ w ∧ w ≤ 3) ∧ n ≤ 60 ∧ n < 0 → z1 = -3) ∧ ((0 ≤ a ∧ a ≤ 3) ∧ (0 ≤ w ∧ w ≤ 3) ∧ n ≤ 60 ∧ 0 ≤ n → z1 = 0))
    (c2 : z1 = 0 → σ1 (78 + 2 * a) 1 = 1 ∧ σ1 (78 + 2 * a) 2 = w ∧ σ1 (78 + 2 * a) 3 = n) (c3 : z1 = 0 ∨ ∀ k j : Int, σ1 k j = σ k j) (f1 : ∀ k j : Int, ¬ (k = 78 + 2 * a ∨ k = 79 + 2 * a) → σ1 k j = σ k j)
    (d1 : (¬ ((0 ≤ a ∧ a ≤ 3) ∧ (0 ≤ w ∧ w ≤ 3) ∧ n ≤ 60) → z2 = -2) ∧ ((0 ≤ a ∧ a ≤ 3) ∧ (0 ≤ w ∧ w ≤ 3) ∧ n ≤ 60 ∧ n < 0 → z2 = -3) ∧ ((0 ≤ a ∧ a ≤ 3) ∧ (0 ≤ w ∧ w ≤ 3) ∧ n ≤ 60 ∧ 0 ≤ n → z2 = 0))
    (d2 : z2 = 0 → σ2 102 a = n ∧ σ2 103 a = w) (k2 : ∀ j : Int, j ≠ a → σ2 102 j = σ1 102 j) (k3 : ∀ j : Int, j ≠ a → σ2 103 j = σ1 103 j) (d3 : z2 = 0 ∨ ∀ k j : Int, σ2 k j = σ1 k j) (f2 : ∀ k j : Int, ¬ (k = 102 ∨ k = 103 ∨ k = 104) → σ2 k j = σ1 k j) : REL σ2 := by
  by_cases hz : z1 = 0
  · have hP : (0 ≤ a ∧ a ≤ 3) ∧ (0 ≤ w ∧ w ≤ 3) ∧ n ≤ 60 ∧ 0 ≤ n := by omega
    have hz2 : z2 = 0 := d1.2.2 hP
    have e1 := c2 hz
    have e2 := d2 hz2
    refine ⟨fun k h0 q1 => ?_, fun k h0 q1 => ?_⟩
    · rw [f2 28 k (by omega), f2 89 k (by omega), f1 28 k (by omega), f1 89 k (by omega)]
      exact h.1 k h0 q1
    · rw [f2 (78 + 2 * k) 1 (by omega), f2 (78 + 2 * k) 2 (by omega), f2 (78 + 2 * k) 3 (by omega)]
      by_cases hk : k = a
      · subst hk
        exact Or.inr ⟨by omega, by omega, by omega, by omega⟩
      · rw [k2 k hk, k3 k hk, f1 102 k (by omega), f1 103 k (by omega), f1 (78 + 2 * k) 1 (by omega), f1 (78 + 2 * k) 2 (by omega), f1 (78 + 2 * k) 3 (by omega)]
        exact h.2 k h0 q1
  · have hz2 : ¬ z2 = 0 := by omega
    have e1 := c3.resolve_left hz
    have e2 := d3.resolve_left hz2
    exact REL_fr h (fun k j _ => (e2 k j).trans (e1 k j))
theorem REL_write {σ σ1 : Me_t} {a x z1 z2 : Int} (h : REL σ) (f2 : σ1 102 a = σ 102 a)
    (c : (¬ (0 ≤ a ∧ a ≤ 3) → z1 = -2) ∧ ((0 ≤ a ∧ a ≤ 3) ∧ σ (78 + 2 * a) 1 = 0 → z1 = -6) ∧ ((0 ≤ a ∧ a ≤ 3) ∧ σ (78 + 2 * a) 1 ≠ 0 ∧ ¬ (0 ≤ x ∧ x < σ (78 + 2 * a) 3) → z1 = -7) ∧ ((0 ≤ a ∧ a ≤ 3) ∧ σ (78 + 2 * a) 1 ≠ 0 ∧ (0 ≤ x ∧ x < σ (78 + 2 * a) 3) → z1 = 0))
    (d : (¬ (0 ≤ a ∧ a ≤ 3) → z2 = -2) ∧ ((0 ≤ a ∧ a ≤ 3) ∧ σ1 102 a = -1 → z2 = -6) ∧ ((0 ≤ a ∧ a ≤ 3) ∧ σ1 102 a ≠ -1 ∧ ¬ (0 ≤ x ∧ x < σ1 102 a) → z2 = -7) ∧ ((0 ≤ a ∧ a ≤ 3) ∧ σ1 102 a ≠ -1 ∧ (0 ≤ x ∧ x < σ1 102 a) → z2 = 0)) : z1 = z2 := by
  rw [f2] at d
  by_cases ha : 0 ≤ a ∧ a ≤ 3
  · rcases h.2 a ha.1 (by omega) with q | q
    · rw [c.2.1 ⟨ha, q.1⟩, d.2.1 ⟨ha, q.2⟩]
    · by_cases hx : 0 ≤ x ∧ x < σ (78 + 2 * a) 3
      · rw [c.2.2.2 ⟨ha, q.1, hx⟩, d.2.2.2 ⟨ha, by omega, by omega⟩]
      · rw [c.2.2.1 ⟨ha, q.1, hx⟩, d.2.2.1 ⟨ha, by omega, by omega⟩]
  · rw [c.1 ha, d.1 ha]
theorem REL_paste {σ σ1 : Me_t} {a1 a2 a3 a4 a5 z1 z2 : Int} (h : REL σ) (f1 : σ1 102 a1 = σ 102 a1) (f3 : σ1 102 a3 = σ 102 a3) (g1 : σ1 103 a1 = σ 103 a1) (g3 : σ1 103 a3 = σ 103 a3)
    (c1 : ¬ ((0 ≤ a1 ∧ a1 ≤ 3) ∧ (0 ≤ a3 ∧ a3 ≤ 3)) → z1 = -2)
    (c2 : ((0 ≤ a1 ∧ a1 ≤ 3) ∧ (0 ≤ a3 ∧ a3 ≤ 3)) ∧ ¬ (σ (78 + 2 * a1) 1 ≠ 0 ∧ σ (78 + 2 * a3) 1 ≠ 0) → z1 = -6)
    (c3 : ((0 ≤ a1 ∧ a1 ≤ 3) ∧ (0 ≤ a3 ∧ a3 ≤ 3)) ∧ (σ (78 + 2 * a1) 1 ≠ 0 ∧ σ (78 + 2 * a3) 1 ≠ 0) ∧ ¬ (σ (78 + 2 * a1) 2 = σ (78 + 2 * a3) 2) → z1 = -8)
    (c4 : ((0 ≤ a1 ∧ a1 ≤ 3) ∧ (0 ≤ a3 ∧ a3 ≤ 3)) ∧ (σ (78 + 2 * a1) 1 ≠ 0 ∧ σ (78 + 2 * a3) 1 ≠ 0) ∧ (σ (78 + 2 * a1) 2 = σ (78 + 2 * a3) 2) ∧ ¬ ((0 ≤ a2 ∧ 0 ≤ a5 ∧ a2 + a5 ≤ σ (78 + 2 * a1) 3) ∧ (0 ≤ a4 ∧ 0 ≤ a5 ∧ a4 + a5 ≤ σ (78 + 2 * a3) 3)) → z1 = -7)
    (c5 : ((0 ≤ a1 ∧ a1 ≤ 3) ∧ (0 ≤ a3 ∧ a3 ≤ 3)) ∧ (σ (78 + 2 * a1) 1 ≠ 0 ∧ σ (78 + 2 * a3) 1 ≠ 0) ∧ (σ (78 + 2 * a1) 2 = σ (78 + 2 * a3) 2) ∧ ((0 ≤ a2 ∧ 0 ≤ a5 ∧ a2 + a5 ≤ σ (78 + 2 * a1) 3) ∧ (0 ≤ a4 ∧ 0 ≤ a5 ∧ a4 + a5 ≤ σ (78 + 2 * a3) 3)) → z1 = 0)
    (d1 : ¬ ((0 ≤ a1 ∧ a1 ≤ 3) ∧ (0 ≤ a3 ∧ a3 ≤ 3)) → z2 = -2)
    (d2 : ((0 ≤ a1 ∧ a1 ≤ 3) ∧ (0 ≤ a3 ∧ a3 ≤ 3)) ∧ ¬ (σ1 102 a1 ≠ -1 ∧ σ1 102 a3 ≠ -1) → z2 = -6)
    (d3 : ((0 ≤ a1 ∧ a1 ≤ 3) ∧ (0 ≤ a3 ∧ a3 ≤ 3)) ∧ (σ1 102 a1 ≠ -1 ∧ σ1 102 a3 ≠ -1) ∧ ¬ (σ1 103 a1 = σ1 103 a3) → z2 = -8)
    (d4 : ((0 ≤ a1 ∧ a1 ≤ 3) ∧ (0 ≤ a3 ∧ a3 ≤ 3)) ∧ (σ1 102 a1 ≠ -1 ∧ σ1 102 a3 ≠ -1) ∧ σ1 103 a1 = σ1 103 a3 ∧ ¬ ((0 ≤ a2 ∧ 0 ≤ a5 ∧ a2 + a5 ≤ σ1 102 a1) ∧ (0 ≤ a4 ∧ 0 ≤ a5 ∧ a4 + a5 ≤ σ1 102 a3)) → z2 = -7)
    (d5 : ((0 ≤ a1 ∧ a1 ≤ 3) ∧ (0 ≤ a3 ∧ a3 ≤ 3)) ∧ (σ1 102 a1 ≠ -1 ∧ σ1 102 a3 ≠ -1) ∧ σ1 103 a1 = σ1 103 a3 ∧ ((0 ≤ a2 ∧ 0 ≤ a5 ∧ a2 + a5 ≤ σ1 102 a1) ∧ (0 ≤ a4 ∧ 0 ≤ a5 ∧ a4 + a5 ≤ σ1 102 a3)) → z2 = 0) : z1 = z2 := by
  rw [f1, f3] at d2 d3 d4 d5
  rw [g1, g3] at d3 d4 d5
  by_cases ha : (0 ≤ a1 ∧ a1 ≤ 3) ∧ (0 ≤ a3 ∧ a3 ≤ 3)
  · by_cases hm : σ (78 + 2 * a1) 1 ≠ 0 ∧ σ (78 + 2 * a3) 1 ≠ 0
    · rcases h.2 a1 ha.1.1 (by omega) with q | q
      · exact absurd q.1 hm.1
      · rcases h.2 a3 ha.2.1 (by omega) with p | p
        · exact absurd p.1 hm.2
        · have n1 : σ 102 a1 ≠ -1 := by omega
          have n3 : σ 102 a3 ≠ -1 := by omega
          rw [q.2.2.2, p.2.2.2] at d3 d4 d5
          rw [q.2.2.1] at n1
          rw [p.2.2.1] at n3
          rw [q.2.2.1, p.2.2.1] at d3 d4 d5
          by_cases hw : σ (78 + 2 * a1) 2 = σ (78 + 2 * a3) 2
          · by_cases hf : (0 ≤ a2 ∧ 0 ≤ a5 ∧ a2 + a5 ≤ σ (78 + 2 * a1) 3) ∧ (0 ≤ a4 ∧ 0 ≤ a5 ∧ a4 + a5 ≤ σ (78 + 2 * a3) 3)
            · rw [c5 ⟨ha, hm, hw, hf⟩, d5 ⟨ha, ⟨n1, n3⟩, hw, hf⟩]
            · rw [c4 ⟨ha, hm, hw, hf⟩, d4 ⟨ha, ⟨n1, n3⟩, hw, hf⟩]
          · rw [c3 ⟨ha, hm, hw⟩, d3 ⟨ha, ⟨n1, n3⟩, hw⟩]
    · have n : ¬ (σ 102 a1 ≠ -1 ∧ σ 102 a3 ≠ -1) := by
        intro n
        apply hm
        rcases h.2 a1 ha.1.1 (by omega) with q | q
        · exact absurd q.2 n.1
        · rcases h.2 a3 ha.2.1 (by omega) with p | p
          · exact absurd p.2 n.2
          · exact ⟨q.1, p.1⟩
      rw [c2 ⟨ha, hm⟩, d2 ⟨ha, n⟩]
  · rw [c1 ha, d1 ha]
theorem REL_back {σ σ1 : Me_t} {a z1 z2 : Int} (h : REL σ) (f : σ1 89 a = σ 89 a)
    (c : (¬ (0 ≤ a ∧ a ≤ 2) → z1 = -2) ∧ (0 ≤ a ∧ a ≤ 2 ∧ σ 28 a = 0 → z1 = -6) ∧ (0 ≤ a ∧ a ≤ 2 ∧ σ 28 a ≠ 0 → z1 = 0))
    (d : (¬ (0 ≤ a ∧ a ≤ 2) → z2 = -2) ∧ (0 ≤ a ∧ a ≤ 2 ∧ σ1 89 a = 0 → z2 = -6) ∧ (0 ≤ a ∧ a ≤ 2 ∧ σ1 89 a ≠ 0 → z2 = 0)) : z1 = z2 := by
  rw [f] at d
  by_cases ha : 0 ≤ a ∧ a ≤ 2
  · rw [← h.1 a ha.1 (by omega)] at d
    by_cases hz : σ 28 a = 0
    · rw [c.2.1 ⟨ha.1, ha.2, hz⟩, d.2.1 ⟨ha.1, ha.2, hz⟩]
    · rw [c.2.2 ⟨ha.1, ha.2, hz⟩, d.2.2 ⟨ha.1, ha.2, hz⟩]
  · rw [c.1 ha, d.1 ha]
theorem REL_rowz {a w n z1 z2 : Int} (c : (¬ ((0 ≤ a ∧ a ≤ 3) ∧ (0 ≤ w ∧ w ≤ 3) ∧ n ≤ 60) → z1 = -2) ∧ ((0 ≤ a ∧ a ≤ 3) ∧ (0 ≤ w ∧ w ≤ 3) ∧ n ≤ 60 ∧ n < 0 → z1 = -3) ∧ ((0 ≤ a ∧ a ≤ 3) ∧ (0 ≤ w ∧ w ≤ 3) ∧ n ≤ 60 ∧ 0 ≤ n → z1 = 0))
    (d : (¬ ((0 ≤ a ∧ a ≤ 3) ∧ (0 ≤ w ∧ w ≤ 3) ∧ n ≤ 60) → z2 = -2) ∧ ((0 ≤ a ∧ a ≤ 3) ∧ (0 ≤ w ∧ w ≤ 3) ∧ n ≤ 60 ∧ n < 0 → z2 = -3) ∧ ((0 ≤ a ∧ a ≤ 3) ∧ (0 ≤ w ∧ w ≤ 3) ∧ n ≤ 60 ∧ 0 ≤ n → z2 = 0)) : z1 = z2 := by
  by_cases hP : (0 ≤ a ∧ a ≤ 3) ∧ (0 ≤ w ∧ w ≤ 3) ∧ n ≤ 60
  · by_cases hn : n < 0
    · rw [c.2.1 ⟨hP.1, hP.2.1, hP.2.2, hn⟩, d.2.1 ⟨hP.1, hP.2.1, hP.2.2, hn⟩]
    · rw [c.2.2 ⟨hP.1, hP.2.1, hP.2.2, by omega⟩, d.2.2 ⟨hP.1, hP.2.1, hP.2.2, by omega⟩]
  · rw [c.1 hP, d.1 hP]
set_option maxHeartbeats 4000000 in
set_option maxRecDepth 100000 in
theorem lc_0 {X : Cx_t} {G : Gx_t} {Q : State → Prop} {cl sl : Nat} {ad : List Nat} {σ : Me_t} {n : Nat} {xs : Int → Int} {i : Int} (E : EN_ X G RL cL_law 4 (some .boolean)) (hR : X.2.2.2.1 = room_1) (hcl : cl ≤ X.2.2.2.1.cells) (hsl : sl ≤ X.2.2.2.1.slots) (hG : ∀ q, q ∈ ad → G.2.2.2 q) (SC : SOK_ X G Q cl sl ad SHS_ cL_law (some (n, xs))) (hn : n ≤ 3072) (hi : 0 ≤ i) (hin : i + 6 ≤ (n : Int)) (hC : CI σ) (hM : MI σ) (hL : REL σ) (K : ∀ τ : Me_t, CI τ → MI τ → REL τ → WP_ X G Q cl sl ad SHS_ τ 2805 [(4, 0), (10, 0), (42, 86), (0, i)] []) : WP_ X G Q cl sl ad SHS_ σ 292 [(4, 0), (10, 0), (42, 86), (0, i)] [] := by
  have B := @bk_ X G Q cl sl ad SHS_ RL cL_law 4 (some .boolean) flL plL knL [(26, 6, TR_ as_G_X10_feed (rmI_) pre_G_X10_feed post_G_X10_feed), (34, 6, TR_ as_G_X11_feed (rmI_) pre_G_X11_feed post_G_X11_feed)] 9 (fun _ _ => False) (some (n, xs)) kL_1 [] flL_ok plL_ok knL_ok eL_1 oL_1
    (List.forall_mem_cons.mpr ⟨cok_v (t := 0) (c := 10) (N := 14) (n := 5) (idx := 13) E (ct_G_X10_feed X.2.1) (by rw [hR]; decide) hcl hsl hG rfl rfl ⟨rfl, by decide, by decide, by decide⟩ (fun _ => ⟨_, _, rfl, rfl⟩) wl_L_13 wi_X10_feed ws_X10_feed wn_X10 wc_X10_feed, List.forall_mem_cons.mpr ⟨cok_v (t := 32) (c := 11) (N := 39) (n := 5) (idx := 17) E (ct_G_X11_feed X.2.1) (by rw [hR]; decide) hcl hsl hG rfl rfl ⟨rfl, by decide, by decide, by decide⟩ (fun _ => ⟨_, _, rfl, rfl⟩) wl_L_17 wi_X11_feed ws_X11_feed wn_X11 wc_X11_feed, fun _ h => absurd h List.not_mem_nil⟩⟩) (fun _ _ _ _ _ h => h.elim) SC E
  refine B rfl ?_
  refine And.intro (by omega) ?_
  refine And.intro (by omega) ?_
  refine And.intro (by omega) ?_
  refine And.intro (by omega) ?_
  refine And.intro (by omega) ?_
  refine And.intro (by omega) ?_
  refine And.intro (by omega) ?_
  refine And.intro (by omega) ?_
  refine And.intro (by omega) ?_
  refine And.intro (by omega) ?_
  refine Exists.intro (xs (i + 1), xs (i + 2), xs (i + 3), xs (i + 4), xs (i + 5)) (And.intro rfl (And.intro hC ?_))
  intro z1 σ3 h2
  have f4 : ∀ k j : Int, ¬ (k ≤ 27 ∨ (29 ≤ k ∧ k ≤ 77)) → σ3 k j = σ k j := h2.2
  have h5 : CI σ3 := h2.1
  refine And.intro (by omega) ?_
  refine And.intro (by omega) ?_
  refine And.intro (by omega) ?_
  refine And.intro (by omega) ?_
  refine And.intro (by omega) ?_
  refine And.intro (by omega) ?_
  refine And.intro (by omega) ?_
  refine And.intro (by omega) ?_
  refine And.intro (by omega) ?_
  refine And.intro (by omega) ?_
  refine Exists.intro (xs (i + 1), xs (i + 2), xs (i + 3), xs (i + 4), xs (i + 5)) (And.intro rfl (And.intro True.intro ?_))
  intro z6 σ8 h7
  have f9 : ∀ k j : Int, ¬ (k = 86 ∨ k = 90 ∨ k = 91) → σ8 k j = σ3 k j := h7
  have p10 : CI σ8 := CI_fr h5 (fun k j hk => (f9 _ _ (by omega)))
  have p11 : MI σ8 := MI_fr hM (fun k j hk => ((f9 _ _ (by omega)).trans (f4 _ _ (by omega))))
  have p12 : REL σ8 := REL_fr hL (fun k j hk => ((f9 _ _ (by omega)).trans (f4 _ _ (by omega))))
  exact K _ p10 p11 p12
set_option maxHeartbeats 4000000 in
set_option maxRecDepth 100000 in
theorem lc_1 {X : Cx_t} {G : Gx_t} {Q : State → Prop} {cl sl : Nat} {ad : List Nat} {σ : Me_t} {n : Nat} {xs : Int → Int} {i : Int} (E : EN_ X G RL cL_law 4 (some .boolean)) (hR : X.2.2.2.1 = room_1) (hcl : cl ≤ X.2.2.2.1.cells) (hsl : sl ≤ X.2.2.2.1.slots) (hG : ∀ q, q ∈ ad → G.2.2.2 q) (SC : SOK_ X G Q cl sl ad SHS_ cL_law (some (n, xs))) (hn : n ≤ 3072) (hi : 0 ≤ i) (hin : i + 6 ≤ (n : Int)) (hC : CI σ) (hM : MI σ) (hL : REL σ) (K : ∀ τ : Me_t, CI τ → MI τ → REL τ → WP_ X G Q cl sl ad SHS_ τ 2805 [(4, 0), (10, 0), (42, 86), (0, i)] []) : WP_ X G Q cl sl ad SHS_ σ 355 [(4, 0), (10, 0), (42, 86), (0, i)] [] := by
  have B := @bk_ X G Q cl sl ad SHS_ RL cL_law 4 (some .boolean) flL plL knL [(36, 2, TR_ as_G_X10_end (rmI_) pre_G_X10_end post_G_X10_end), (44, 2, TR_ as_G_X11_end (rmI_) pre_G_X11_end post_G_X11_end)] 9 (fun _ _ => False) (some (n, xs)) kL_2 [] flL_ok plL_ok knL_ok eL_2 oL_2
    (List.forall_mem_cons.mpr ⟨cok_v (t := 0) (c := 10) (N := 14) (n := 1) (idx := 18) E (ct_G_X10_end X.2.1) (by rw [hR]; decide) hcl hsl hG rfl rfl ⟨rfl, by decide, by decide, by decide⟩ (fun _ => ⟨_, _, rfl, rfl⟩) wl_L_18 wi_X10_end ws_X10_end wn_X10 wc_X10_end, List.forall_mem_cons.mpr ⟨cok_v (t := 32) (c := 11) (N := 39) (n := 1) (idx := 22) E (ct_G_X11_end X.2.1) (by rw [hR]; decide) hcl hsl hG rfl rfl ⟨rfl, by decide, by decide, by decide⟩ (fun _ => ⟨_, _, rfl, rfl⟩) wl_L_22 wi_X11_end ws_X11_end wn_X11 wc_X11_end, fun _ h => absurd h List.not_mem_nil⟩⟩) (fun _ _ _ _ _ h => h.elim) SC E
  refine B rfl ?_
  refine And.intro (by omega) ?_
  refine And.intro (by omega) ?_
  refine Exists.intro (xs (i + 1)) (And.intro rfl (And.intro hC ?_))
  intro z1 σ3 h2
  have f4 : ∀ k j : Int, ¬ (k ≤ 27 ∨ (29 ≤ k ∧ k ≤ 77)) → σ3 k j = σ k j := h2.2
  have h5 : CI σ3 := h2.1
  refine And.intro (by omega) ?_
  refine And.intro (by omega) ?_
  refine Exists.intro (xs (i + 1)) (And.intro rfl (And.intro True.intro ?_))
  intro z6 σ8 h7
  have f9 : ∀ k j : Int, ¬ (k = 86) → σ8 k j = σ3 k j := h7
  have p10 : CI σ8 := CI_fr h5 (fun k j hk => (f9 _ _ (by omega)))
  have p11 : MI σ8 := MI_fr hM (fun k j hk => ((f9 _ _ (by omega)).trans (f4 _ _ (by omega))))
  have p12 : REL σ8 := REL_fr hL (fun k j hk => ((f9 _ _ (by omega)).trans (f4 _ _ (by omega))))
  exact K _ p10 p11 p12
set_option maxHeartbeats 4000000 in
set_option maxRecDepth 100000 in
theorem lc_2 {X : Cx_t} {G : Gx_t} {Q : State → Prop} {cl sl : Nat} {ad : List Nat} {σ : Me_t} {n : Nat} {xs : Int → Int} {i : Int} (E : EN_ X G RL cL_law 4 (some .boolean)) (hR : X.2.2.2.1 = room_1) (hcl : cl ≤ X.2.2.2.1.cells) (hsl : sl ≤ X.2.2.2.1.slots) (hG : ∀ q, q ∈ ad → G.2.2.2 q) (SC : SOK_ X G Q cl sl ad SHS_ cL_law (some (n, xs))) (hn : n ≤ 3072) (hi : 0 ≤ i) (hin : i + 6 ≤ (n : Int)) (hC : CI σ) (hM : MI σ) (hL : REL σ) (K : ∀ τ : Me_t, CI τ → MI τ → REL τ → WP_ X G Q cl sl ad SHS_ τ 2805 [(4, 0), (10, 0), (42, 86), (0, i)] []) : WP_ X G Q cl sl ad SHS_ σ 378 [(4, 0), (10, 0), (42, 86), (0, i)] [] := by
  have B := @bk_ X G Q cl sl ad SHS_ RL cL_law 4 (some .boolean) flL plL knL [(46, 1, TR_ as_G_X10_war (rmI_) pre_G_X10_war post_G_X10_war), (54, 1, TR_ as_G_X11_war (rmI_) pre_G_X11_war post_G_X11_war)] 9 (fun _ _ => False) (some (n, xs)) kL_3 [] flL_ok plL_ok knL_ok eL_3 oL_3
    (List.forall_mem_cons.mpr ⟨cok_v (t := 0) (c := 10) (N := 14) (n := 0) (idx := 23) E (ct_G_X10_war X.2.1) (by rw [hR]; decide) hcl hsl hG rfl rfl ⟨rfl, by decide, by decide, by decide⟩ (fun _ => ⟨_, _, rfl, rfl⟩) wl_L_23 wi_X10_war ws_X10_war wn_X10 wc_X10_war, List.forall_mem_cons.mpr ⟨cok_v (t := 32) (c := 11) (N := 39) (n := 0) (idx := 27) E (ct_G_X11_war X.2.1) (by rw [hR]; decide) hcl hsl hG rfl rfl ⟨rfl, by decide, by decide, by decide⟩ (fun _ => ⟨_, _, rfl, rfl⟩) wl_L_27 wi_X11_war ws_X11_war wn_X11 wc_X11_war, fun _ h => absurd h List.not_mem_nil⟩⟩) (fun _ _ _ _ _ h => h.elim) SC E
  refine B rfl ?_
  refine Exists.intro () (And.intro rfl (And.intro hC ?_))
  intro z1 σ3 h2
  have f4 : ∀ k j : Int, ¬ (k ≤ 27 ∨ (29 ≤ k ∧ k ≤ 77)) → σ3 k j = σ k j := h2.2
  have h5 : CI σ3 := h2.1
  have p6 : MI σ3 := MI_fr hM (fun k j hk => (f4 _ _ (by omega)))
  refine Exists.intro () (And.intro rfl (And.intro p6 ?_))
  intro z7 σ9 h8
  have f10 : ∀ k j : Int, ¬ (k = 86 ∨ k = 87 ∨ k = 92) → σ9 k j = σ3 k j := h8.2
  have h11 : MI σ9 := h8.1
  have p12 : CI σ9 := CI_fr h5 (fun k j hk => (f10 _ _ (by omega)))
  have p13 : REL σ9 := REL_fr hL (fun k j hk => ((f10 _ _ (by omega)).trans (f4 _ _ (by omega))))
  exact K _ p12 h11 p13
set_option maxHeartbeats 4000000 in
set_option maxRecDepth 100000 in
theorem lc_3 {X : Cx_t} {G : Gx_t} {Q : State → Prop} {cl sl : Nat} {ad : List Nat} {σ : Me_t} {n : Nat} {xs : Int → Int} {i : Int} (E : EN_ X G RL cL_law 4 (some .boolean)) (hR : X.2.2.2.1 = room_1) (hcl : cl ≤ X.2.2.2.1.cells) (hsl : sl ≤ X.2.2.2.1.slots) (hG : ∀ q, q ∈ ad → G.2.2.2 q) (SC : SOK_ X G Q cl sl ad SHS_ cL_law (some (n, xs))) (hn : n ≤ 3072) (hi : 0 ≤ i) (hin : i + 6 ≤ (n : Int)) (hC : CI σ) (hM : MI σ) (hL : REL σ) (K : ∀ τ : Me_t, CI τ → MI τ → REL τ → WP_ X G Q cl sl ad SHS_ τ 2805 [(4, 0), (10, 0), (42, 86), (0, i)] []) : WP_ X G Q cl sl ad SHS_ σ 391 [(4, 0), (10, 0), (42, 86), (0, i)] [] := by
  have B := @bk_ X G Q cl sl ad SHS_ RL cL_law 4 (some .boolean) flL plL knL [(56, 2, TR_ as_G_X10_fault (rmI_) pre_G_X10_fault post_G_X10_fault), (62, 2, TR_ as_G_X11_fault (rmI_) pre_G_X11_fault post_G_X11_fault)] 9 (fun _ _ => False) (some (n, xs)) kL_4 [] flL_ok plL_ok knL_ok eL_4 oL_4
    (List.forall_mem_cons.mpr ⟨cok_v (t := 0) (c := 10) (N := 14) (n := 1) (idx := 28) E (ct_G_X10_fault X.2.1) (by rw [hR]; decide) hcl hsl hG rfl rfl ⟨rfl, by decide, by decide, by decide⟩ (fun _ => ⟨_, _, rfl, rfl⟩) wl_L_28 wi_X10_fault ws_X10_fault wn_X10 wc_X10_fault, List.forall_mem_cons.mpr ⟨cok_v (t := 32) (c := 11) (N := 39) (n := 1) (idx := 31) E (ct_G_X11_fault X.2.1) (by rw [hR]; decide) hcl hsl hG rfl rfl ⟨rfl, by decide, by decide, by decide⟩ (fun _ => ⟨_, _, rfl, rfl⟩) wl_L_31 wi_X11_fault ws_X11_fault wn_X11 wc_X11_fault, fun _ h => absurd h List.not_mem_nil⟩⟩) (fun _ _ _ _ _ h => h.elim) SC E
  refine B rfl ?_
  refine And.intro (by omega) ?_
  refine And.intro (by omega) ?_
  refine Exists.intro (xs (i + 1)) (And.intro rfl (And.intro hC ?_))
  intro z1 σ3 h2
  have f4 : ∀ k j : Int, ¬ (k ≤ 27 ∨ (29 ≤ k ∧ k ≤ 77)) → σ3 k j = σ k j := h2.2
  have h5 : CI σ3 := h2.1
  refine And.intro (by omega) ?_
  refine And.intro (by omega) ?_
  refine Exists.intro (xs (i + 1)) (And.intro rfl (And.intro True.intro ?_))
  rintro z6 m_ h7
  obtain rfl : σ3 = m_ := h7
  have p8 : MI σ3 := MI_fr hM (fun k j hk => (f4 _ _ (by omega)))
  have p9 : REL σ3 := REL_fr hL (fun k j hk => (f4 _ _ (by omega)))
  exact K _ h5 p8 p9
set_option maxHeartbeats 4000000 in
set_option maxRecDepth 100000 in
theorem lc_4 {X : Cx_t} {G : Gx_t} {Q : State → Prop} {cl sl : Nat} {ad : List Nat} {σ : Me_t} {n : Nat} {xs : Int → Int} {i : Int} (E : EN_ X G RL cL_law 4 (some .boolean)) (hR : X.2.2.2.1 = room_1) (hcl : cl ≤ X.2.2.2.1.cells) (hsl : sl ≤ X.2.2.2.1.slots) (hG : ∀ q, q ∈ ad → G.2.2.2 q) (SC : SOK_ X G Q cl sl ad SHS_ cL_law (some (n, xs))) (hn : n ≤ 3072) (hi : 0 ≤ i) (hin : i + 6 ≤ (n : Int)) (hC : CI σ) (hM : MI σ) (hL : REL σ) (K : ∀ τ : Me_t, CI τ → MI τ → REL τ → WP_ X G Q cl sl ad SHS_ τ 2805 [(4, 0), (10, 0), (42, 86), (0, i)] []) : WP_ X G Q cl sl ad SHS_ σ 414 [(4, 0), (10, 0), (42, 86), (0, i)] [] := by
  have B := @bk_ X G Q cl sl ad SHS_ RL cL_law 4 (some .boolean) flL plL knL [(64, 3, TR_ as_G_X10_land (rmI_) pre_G_X10_land post_G_X10_land), (72, 3, TR_ as_G_X11_land (rmI_) pre_G_X11_land post_G_X11_land)] 9 (fun _ _ => False) (some (n, xs)) kL_5 [] flL_ok plL_ok knL_ok eL_5 oL_5
    (List.forall_mem_cons.mpr ⟨cok_v (t := 0) (c := 10) (N := 14) (n := 2) (idx := 32) E (ct_G_X10_land X.2.1) (by rw [hR]; decide) hcl hsl hG rfl rfl ⟨rfl, by decide, by decide, by decide⟩ (fun _ => ⟨_, _, rfl, rfl⟩) wl_L_32 wi_X10_land ws_X10_land wn_X10 wc_X10_land, List.forall_mem_cons.mpr ⟨cok_v (t := 32) (c := 11) (N := 39) (n := 2) (idx := 36) E (ct_G_X11_land X.2.1) (by rw [hR]; decide) hcl hsl hG rfl rfl ⟨rfl, by decide, by decide, by decide⟩ (fun _ => ⟨_, _, rfl, rfl⟩) wl_L_36 wi_X11_land ws_X11_land wn_X11 wc_X11_land, fun _ h => absurd h List.not_mem_nil⟩⟩) (fun _ _ _ _ _ h => h.elim) SC E
  refine B rfl ?_
  refine And.intro (by omega) ?_
  refine And.intro (by omega) ?_
  refine And.intro (by omega) ?_
  refine And.intro (by omega) ?_
  refine Exists.intro (xs (i + 1), xs (i + 2)) (And.intro rfl (And.intro hC ?_))
  intro z1 σ3 h2
  have f4 : ∀ k j : Int, ¬ (k ≤ 27 ∨ (29 ≤ k ∧ k ≤ 77)) → σ3 k j = σ k j := h2.2
  have h5 : CI σ3 := h2.1
  refine And.intro (by omega) ?_
  refine And.intro (by omega) ?_
  refine And.intro (by omega) ?_
  refine And.intro (by omega) ?_
  have p6 : MI σ3 := MI_fr hM (fun k j hk => (f4 _ _ (by omega)))
  refine Exists.intro (xs (i + 1), xs (i + 2)) (And.intro rfl (And.intro p6 ?_))
  rintro z7 m_ h8
  obtain rfl : σ3 = m_ := h8
  have p9 : REL σ3 := REL_fr hL (fun k j hk => (f4 _ _ (by omega)))
  exact K _ h5 p6 p9
set_option maxHeartbeats 4000000 in
set_option maxRecDepth 100000 in
theorem lc_5 {X : Cx_t} {G : Gx_t} {Q : State → Prop} {cl sl : Nat} {ad : List Nat} {σ : Me_t} {n : Nat} {xs : Int → Int} {i : Int} (E : EN_ X G RL cL_law 4 (some .boolean)) (hR : X.2.2.2.1 = room_1) (hcl : cl ≤ X.2.2.2.1.cells) (hsl : sl ≤ X.2.2.2.1.slots) (hG : ∀ q, q ∈ ad → G.2.2.2 q) (SC : SOK_ X G Q cl sl ad SHS_ cL_law (some (n, xs))) (hn : n ≤ 3072) (hi : 0 ≤ i) (hin : i + 6 ≤ (n : Int)) (hC : CI σ) (hM : MI σ) (hL : REL σ) (K : ∀ τ : Me_t, CI τ → MI τ → REL τ → WP_ X G Q cl sl ad SHS_ τ 2805 [(4, 0), (10, 0), (42, 86), (0, i)] []) : WP_ X G Q cl sl ad SHS_ σ 447 [(4, 0), (10, 0), (42, 86), (0, i)] [] := by
  have B := @bk_ X G Q cl sl ad SHS_ RL cL_law 4 (some .boolean) flL plL knL [(74, 4, TR_ as_G_X10_month (rmI_) pre_G_X10_month post_G_X10_month), (82, 4, TR_ as_G_X11_month (rmI_) pre_G_X11_month post_G_X11_month)] 9 (fun _ _ => False) (some (n, xs)) kL_6 [] flL_ok plL_ok knL_ok eL_6 oL_6
    (List.forall_mem_cons.mpr ⟨cok_v (t := 0) (c := 10) (N := 14) (n := 3) (idx := 37) E (ct_G_X10_month X.2.1) (by rw [hR]; decide) hcl hsl hG rfl rfl ⟨rfl, by decide, by decide, by decide⟩ (fun _ => ⟨_, _, rfl, rfl⟩) wl_L_37 wi_X10_month ws_X10_month wn_X10 wc_X10_month, List.forall_mem_cons.mpr ⟨cok_v (t := 32) (c := 11) (N := 39) (n := 3) (idx := 41) E (ct_G_X11_month X.2.1) (by rw [hR]; decide) hcl hsl hG rfl rfl ⟨rfl, by decide, by decide, by decide⟩ (fun _ => ⟨_, _, rfl, rfl⟩) wl_L_41 wi_X11_month ws_X11_month wn_X11 wc_X11_month, fun _ h => absurd h List.not_mem_nil⟩⟩) (fun _ _ _ _ _ h => h.elim) SC E
  refine B rfl ?_
  refine And.intro (by omega) ?_
  refine And.intro (by omega) ?_
  refine And.intro (by omega) ?_
  refine And.intro (by omega) ?_
  refine And.intro (by omega) ?_
  refine And.intro (by omega) ?_
  refine Exists.intro (xs (i + 1), xs (i + 2), xs (i + 3)) (And.intro rfl (And.intro hC ?_))
  intro z1 σ3 h2
  have f4 : ∀ k j : Int, ¬ (k ≤ 27 ∨ (29 ≤ k ∧ k ≤ 77)) → σ3 k j = σ k j := h2.2
  have h5 : CI σ3 := h2.1
  refine And.intro (by omega) ?_
  refine And.intro (by omega) ?_
  refine And.intro (by omega) ?_
  refine And.intro (by omega) ?_
  refine And.intro (by omega) ?_
  refine And.intro (by omega) ?_
  have p6 : MI σ3 := MI_fr hM (fun k j hk => (f4 _ _ (by omega)))
  refine Exists.intro (xs (i + 1), xs (i + 2), xs (i + 3)) (And.intro rfl (And.intro p6 ?_))
  rintro z7 m_ h8
  obtain rfl : σ3 = m_ := h8
  have p9 : REL σ3 := REL_fr hL (fun k j hk => (f4 _ _ (by omega)))
  exact K _ h5 p6 p9
set_option maxHeartbeats 4000000 in
set_option maxRecDepth 100000 in
theorem lc_6 {X : Cx_t} {G : Gx_t} {Q : State → Prop} {cl sl : Nat} {ad : List Nat} {σ : Me_t} {n : Nat} {xs : Int → Int} {i : Int} (E : EN_ X G RL cL_law 4 (some .boolean)) (hR : X.2.2.2.1 = room_1) (hcl : cl ≤ X.2.2.2.1.cells) (hsl : sl ≤ X.2.2.2.1.slots) (hG : ∀ q, q ∈ ad → G.2.2.2 q) (SC : SOK_ X G Q cl sl ad SHS_ cL_law (some (n, xs))) (hn : n ≤ 3072) (hi : 0 ≤ i) (hin : i + 6 ≤ (n : Int)) (hC : CI σ) (hM : MI σ) (hL : REL σ) (K : ∀ τ : Me_t, CI τ → MI τ → REL τ → WP_ X G Q cl sl ad SHS_ τ 2805 [(4, 0), (10, 0), (42, 86), (0, i)] []) : WP_ X G Q cl sl ad SHS_ σ 490 [(4, 0), (10, 0), (42, 86), (0, i)] [] := by
  have B := @bk_ X G Q cl sl ad SHS_ RL cL_law 4 (some .boolean) flL plL knL [(84, 3, TR_ as_G_X10_feast (rmI_) pre_G_X10_feast post_G_X10_feast), (90, 3, TR_ as_G_X11_feast (rmI_) pre_G_X11_feast post_G_X11_feast)] 9 (fun _ _ => False) (some (n, xs)) kL_7 [] flL_ok plL_ok knL_ok eL_7 oL_7
    (List.forall_mem_cons.mpr ⟨cok_v (t := 0) (c := 10) (N := 14) (n := 2) (idx := 42) E (ct_G_X10_feast X.2.1) (by rw [hR]; decide) hcl hsl hG rfl rfl ⟨rfl, by decide, by decide, by decide⟩ (fun _ => ⟨_, _, rfl, rfl⟩) wl_L_42 wi_X10_feast ws_X10_feast wn_X10 wc_X10_feast, List.forall_mem_cons.mpr ⟨cok_v (t := 32) (c := 11) (N := 39) (n := 2) (idx := 45) E (ct_G_X11_feast X.2.1) (by rw [hR]; decide) hcl hsl hG rfl rfl ⟨rfl, by decide, by decide, by decide⟩ (fun _ => ⟨_, _, rfl, rfl⟩) wl_L_45 wi_X11_feast ws_X11_feast wn_X11 wc_X11_feast, fun _ h => absurd h List.not_mem_nil⟩⟩) (fun _ _ _ _ _ h => h.elim) SC E
  refine B rfl ?_
  refine And.intro (by omega) ?_
  refine And.intro (by omega) ?_
  refine And.intro (by omega) ?_
  refine And.intro (by omega) ?_
  refine Exists.intro (xs (i + 1), xs (i + 2)) (And.intro rfl (And.intro hC ?_))
  intro z1 σ3 h2
  have f4 : ∀ k j : Int, ¬ (k ≤ 27 ∨ (29 ≤ k ∧ k ≤ 77)) → σ3 k j = σ k j := h2.2
  have h5 : CI σ3 := h2.1
  refine And.intro (by omega) ?_
  refine And.intro (by omega) ?_
  refine And.intro (by omega) ?_
  refine And.intro (by omega) ?_
  have p6 : MI σ3 := MI_fr hM (fun k j hk => (f4 _ _ (by omega)))
  refine Exists.intro (xs (i + 1), xs (i + 2)) (And.intro rfl (And.intro p6 ?_))
  rintro z7 m_ h8
  obtain rfl : σ3 = m_ := h8
  have p9 : REL σ3 := REL_fr hL (fun k j hk => (f4 _ _ (by omega)))
  exact K _ h5 p6 p9
set_option maxHeartbeats 4000000 in
set_option maxRecDepth 100000 in
theorem lc_7 {X : Cx_t} {G : Gx_t} {Q : State → Prop} {cl sl : Nat} {ad : List Nat} {σ : Me_t} {n : Nat} {xs : Int → Int} {i : Int} (E : EN_ X G RL cL_law 4 (some .boolean)) (hR : X.2.2.2.1 = room_1) (hcl : cl ≤ X.2.2.2.1.cells) (hsl : sl ≤ X.2.2.2.1.slots) (hG : ∀ q, q ∈ ad → G.2.2.2 q) (SC : SOK_ X G Q cl sl ad SHS_ cL_law (some (n, xs))) (hn : n ≤ 3072) (hi : 0 ≤ i) (hin : i + 6 ≤ (n : Int)) (hC : CI σ) (hM : MI σ) (hL : REL σ) (K : ∀ τ : Me_t, CI τ → MI τ → REL τ → WP_ X G Q cl sl ad SHS_ τ 2805 [(4, 0), (10, 0), (42, 86), (0, i)] []) : WP_ X G Q cl sl ad SHS_ σ 523 [(4, 0), (10, 0), (42, 86), (0, i)] [] := by
  have B := @bk_ X G Q cl sl ad SHS_ RL cL_law 4 (some .boolean) flL plL knL [(92, 3, TR_ as_G_X10_truce (rmI_) pre_G_X10_truce post_G_X10_truce), (98, 3, TR_ as_G_X11_truce (rmI_) pre_G_X11_truce post_G_X11_truce)] 9 (fun _ _ => False) (some (n, xs)) kL_8 [] flL_ok plL_ok knL_ok eL_8 oL_8
    (List.forall_mem_cons.mpr ⟨cok_v (t := 0) (c := 10) (N := 14) (n := 2) (idx := 46) E (ct_G_X10_truce X.2.1) (by rw [hR]; decide) hcl hsl hG rfl rfl ⟨rfl, by decide, by decide, by decide⟩ (fun _ => ⟨_, _, rfl, rfl⟩) wl_L_46 wi_X10_truce ws_X10_truce wn_X10 wc_X10_truce, List.forall_mem_cons.mpr ⟨cok_v (t := 32) (c := 11) (N := 39) (n := 2) (idx := 49) E (ct_G_X11_truce X.2.1) (by rw [hR]; decide) hcl hsl hG rfl rfl ⟨rfl, by decide, by decide, by decide⟩ (fun _ => ⟨_, _, rfl, rfl⟩) wl_L_49 wi_X11_truce ws_X11_truce wn_X11 wc_X11_truce, fun _ h => absurd h List.not_mem_nil⟩⟩) (fun _ _ _ _ _ h => h.elim) SC E
  refine B rfl ?_
  refine And.intro (by omega) ?_
  refine And.intro (by omega) ?_
  refine And.intro (by omega) ?_
  refine And.intro (by omega) ?_
  refine Exists.intro (xs (i + 1), xs (i + 2)) (And.intro rfl (And.intro hC ?_))
  intro z1 σ3 h2
  have f4 : ∀ k j : Int, ¬ (k ≤ 27 ∨ (29 ≤ k ∧ k ≤ 77)) → σ3 k j = σ k j := h2.2
  have h5 : CI σ3 := h2.1
  refine And.intro (by omega) ?_
  refine And.intro (by omega) ?_
  refine And.intro (by omega) ?_
  refine And.intro (by omega) ?_
  have p6 : MI σ3 := MI_fr hM (fun k j hk => (f4 _ _ (by omega)))
  refine Exists.intro (xs (i + 1), xs (i + 2)) (And.intro rfl (And.intro p6 ?_))
  rintro z7 m_ h8
  obtain rfl : σ3 = m_ := h8
  have p9 : REL σ3 := REL_fr hL (fun k j hk => (f4 _ _ (by omega)))
  exact K _ h5 p6 p9
set_option maxHeartbeats 4000000 in
set_option maxRecDepth 100000 in
theorem lc_8 {X : Cx_t} {G : Gx_t} {Q : State → Prop} {cl sl : Nat} {ad : List Nat} {σ : Me_t} {n : Nat} {xs : Int → Int} {i : Int} (E : EN_ X G RL cL_law 4 (some .boolean)) (hR : X.2.2.2.1 = room_1) (hcl : cl ≤ X.2.2.2.1.cells) (hsl : sl ≤ X.2.2.2.1.slots) (hG : ∀ q, q ∈ ad → G.2.2.2 q) (SC : SOK_ X G Q cl sl ad SHS_ cL_law (some (n, xs))) (hn : n ≤ 3072) (hi : 0 ≤ i) (hin : i + 6 ≤ (n : Int)) (hC : CI σ) (hM : MI σ) (hL : REL σ) (K : ∀ τ : Me_t, CI τ → MI τ → REL τ → WP_ X G Q cl sl ad SHS_ τ 2805 [(4, 0), (10, 0), (42, 86), (0, i)] []) : WP_ X G Q cl sl ad SHS_ σ 556 [(4, 0), (10, 0), (42, 86), (0, i)] [] := by
  have B := @bk_ X G Q cl sl ad SHS_ RL cL_law 4 (some .boolean) flL plL knL [(100, 4, TR_ as_G_X10_date (rmI_) pre_G_X10_date post_G_X10_date), (106, 4, TR_ as_G_X11_date (rmI_) pre_G_X11_date post_G_X11_date)] 9 (fun _ _ => False) (some (n, xs)) kL_9 [] flL_ok plL_ok knL_ok eL_9 oL_9
    (List.forall_mem_cons.mpr ⟨cok_v (t := 0) (c := 10) (N := 14) (n := 3) (idx := 50) E (ct_G_X10_date X.2.1) (by rw [hR]; decide) hcl hsl hG rfl rfl ⟨rfl, by decide, by decide, by decide⟩ (fun _ => ⟨_, _, rfl, rfl⟩) wl_L_50 wi_X10_date ws_X10_date wn_X10 wc_X10_date, List.forall_mem_cons.mpr ⟨cok_v (t := 32) (c := 11) (N := 39) (n := 3) (idx := 53) E (ct_G_X11_date X.2.1) (by rw [hR]; decide) hcl hsl hG rfl rfl ⟨rfl, by decide, by decide, by decide⟩ (fun _ => ⟨_, _, rfl, rfl⟩) wl_L_53 wi_X11_date ws_X11_date wn_X11 wc_X11_date, fun _ h => absurd h List.not_mem_nil⟩⟩) (fun _ _ _ _ _ h => h.elim) SC E
  refine B rfl ?_
  refine And.intro (by omega) ?_
  refine And.intro (by omega) ?_
  refine And.intro (by omega) ?_
  refine And.intro (by omega) ?_
  refine And.intro (by omega) ?_
  refine And.intro (by omega) ?_
  refine Exists.intro (xs (i + 1), xs (i + 2), xs (i + 3)) (And.intro rfl (And.intro hC ?_))
  intro z1 σ3 h2
  have f4 : ∀ k j : Int, ¬ (k ≤ 27 ∨ (29 ≤ k ∧ k ≤ 77)) → σ3 k j = σ k j := h2.2
  have h5 : CI σ3 := h2.1
  refine And.intro (by omega) ?_
  refine And.intro (by omega) ?_
  refine And.intro (by omega) ?_
  refine And.intro (by omega) ?_
  refine And.intro (by omega) ?_
  refine And.intro (by omega) ?_
  have p6 : MI σ3 := MI_fr hM (fun k j hk => (f4 _ _ (by omega)))
  refine Exists.intro (xs (i + 1), xs (i + 2), xs (i + 3)) (And.intro rfl (And.intro p6 ?_))
  intro z7 σ9 h8
  have f10 : ∀ k j : Int, ¬ (93 ≤ k ∧ k ≤ 96) → σ9 k j = σ3 k j := h8
  have p11 : CI σ9 := CI_fr h5 (fun k j hk => (f10 _ _ (by omega)))
  have p12 : MI σ9 := MI_fr p6 (fun k j hk => (f10 _ _ (by omega)))
  have p13 : REL σ9 := REL_fr hL (fun k j hk => ((f10 _ _ (by omega)).trans (f4 _ _ (by omega))))
  exact K _ p11 p12 p13
set_option maxHeartbeats 4000000 in
set_option maxRecDepth 100000 in
theorem lc_9 {X : Cx_t} {G : Gx_t} {Q : State → Prop} {cl sl : Nat} {ad : List Nat} {σ : Me_t} {n : Nat} {xs : Int → Int} {i : Int} (E : EN_ X G RL cL_law 4 (some .boolean)) (hR : X.2.2.2.1 = room_1) (hcl : cl ≤ X.2.2.2.1.cells) (hsl : sl ≤ X.2.2.2.1.slots) (hG : ∀ q, q ∈ ad → G.2.2.2 q) (SC : SOK_ X G Q cl sl ad SHS_ cL_law (some (n, xs))) (hn : n ≤ 3072) (hi : 0 ≤ i) (hin : i + 6 ≤ (n : Int)) (hC : CI σ) (hM : MI σ) (hL : REL σ) (K : ∀ τ : Me_t, CI τ → MI τ → REL τ → WP_ X G Q cl sl ad SHS_ τ 2805 [(4, 0), (10, 0), (42, 86), (0, i)] []) : WP_ X G Q cl sl ad SHS_ σ 599 [(4, 0), (10, 0), (42, 86), (0, i)] [] := by
  have B := @bk_ X G Q cl sl ad SHS_ RL cL_law 4 (some .boolean) flL plL knL [(108, 5, TR_ as_G_X10_day (rmI_) pre_G_X10_day post_G_X10_day), (116, 5, TR_ as_G_X11_day (rmI_) pre_G_X11_day post_G_X11_day)] 9 (fun _ _ => False) (some (n, xs)) kL_10 [] flL_ok plL_ok knL_ok eL_10 oL_10
    (List.forall_mem_cons.mpr ⟨cok_v (t := 0) (c := 10) (N := 14) (n := 4) (idx := 54) E (ct_G_X10_day X.2.1) (by rw [hR]; decide) hcl hsl hG rfl rfl ⟨rfl, by decide, by decide, by decide⟩ (fun _ => ⟨_, _, rfl, rfl⟩) wl_L_54 wi_X10_day ws_X10_day wn_X10 wc_X10_day, List.forall_mem_cons.mpr ⟨cok_v (t := 32) (c := 11) (N := 39) (n := 4) (idx := 58) E (ct_G_X11_day X.2.1) (by rw [hR]; decide) hcl hsl hG rfl rfl ⟨rfl, by decide, by decide, by decide⟩ (fun _ => ⟨_, _, rfl, rfl⟩) wl_L_58 wi_X11_day ws_X11_day wn_X11 wc_X11_day, fun _ h => absurd h List.not_mem_nil⟩⟩) (fun _ _ _ _ _ h => h.elim) SC E
  refine B rfl ?_
  refine And.intro (by omega) ?_
  refine And.intro (by omega) ?_
  refine And.intro (by omega) ?_
  refine And.intro (by omega) ?_
  refine And.intro (by omega) ?_
  refine And.intro (by omega) ?_
  refine And.intro (by omega) ?_
  refine And.intro (by omega) ?_
  refine Exists.intro (xs (i + 1), xs (i + 2), xs (i + 3), xs (i + 4)) (And.intro rfl (And.intro hC ?_))
  intro z1 σ3 h2
  have f4 : ∀ k j : Int, ¬ (k ≤ 27 ∨ (29 ≤ k ∧ k ≤ 77)) → σ3 k j = σ k j := h2.2
  have h5 : CI σ3 := h2.1
  refine And.intro (by omega) ?_
  refine And.intro (by omega) ?_
  refine And.intro (by omega) ?_
  refine And.intro (by omega) ?_
  refine And.intro (by omega) ?_
  refine And.intro (by omega) ?_
  refine And.intro (by omega) ?_
  refine And.intro (by omega) ?_
  have p6 : MI σ3 := MI_fr hM (fun k j hk => (f4 _ _ (by omega)))
  refine Exists.intro (xs (i + 1), xs (i + 2), xs (i + 3), xs (i + 4)) (And.intro rfl (And.intro p6 ?_))
  rintro z7 m_ h8
  obtain rfl : σ3 = m_ := h8
  have p9 : REL σ3 := REL_fr hL (fun k j hk => (f4 _ _ (by omega)))
  exact K _ h5 p6 p9
set_option maxHeartbeats 4000000 in
set_option maxRecDepth 100000 in
theorem lc_10 {X : Cx_t} {G : Gx_t} {Q : State → Prop} {cl sl : Nat} {ad : List Nat} {σ : Me_t} {n : Nat} {xs : Int → Int} {i : Int} (E : EN_ X G RL cL_law 4 (some .boolean)) (hR : X.2.2.2.1 = room_1) (hcl : cl ≤ X.2.2.2.1.cells) (hsl : sl ≤ X.2.2.2.1.slots) (hG : ∀ q, q ∈ ad → G.2.2.2 q) (SC : SOK_ X G Q cl sl ad SHS_ cL_law (some (n, xs))) (hn : n ≤ 3072) (hi : 0 ≤ i) (hin : i + 6 ≤ (n : Int)) (hC : CI σ) (hM : MI σ) (hL : REL σ) (K : ∀ τ : Me_t, CI τ → MI τ → REL τ → WP_ X G Q cl sl ad SHS_ τ 2805 [(4, 0), (10, 0), (42, 86), (0, i)] []) : WP_ X G Q cl sl ad SHS_ σ 652 [(4, 0), (10, 0), (42, 86), (0, i)] [] := by
  have B := @bk_ X G Q cl sl ad SHS_ RL cL_law 4 (some .boolean) flL plL knL [(118, 3, TR_ as_G_X10_may (rmI_) pre_G_X10_may post_G_X10_may), (124, 3, TR_ as_G_X11_may (rmI_) pre_G_X11_may post_G_X11_may)] 9 (fun _ _ => False) (some (n, xs)) kL_11 [] flL_ok plL_ok knL_ok eL_11 oL_11
    (List.forall_mem_cons.mpr ⟨cok_v (t := 0) (c := 10) (N := 14) (n := 2) (idx := 59) E (ct_G_X10_may X.2.1) (by rw [hR]; decide) hcl hsl hG rfl rfl ⟨rfl, by decide, by decide, by decide⟩ (fun _ => ⟨_, _, rfl, rfl⟩) wl_L_59 wi_X10_may ws_X10_may wn_X10 wc_X10_may, List.forall_mem_cons.mpr ⟨cok_v (t := 32) (c := 11) (N := 39) (n := 2) (idx := 62) E (ct_G_X11_may X.2.1) (by rw [hR]; decide) hcl hsl hG rfl rfl ⟨rfl, by decide, by decide, by decide⟩ (fun _ => ⟨_, _, rfl, rfl⟩) wl_L_62 wi_X11_may ws_X11_may wn_X11 wc_X11_may, fun _ h => absurd h List.not_mem_nil⟩⟩) (fun _ _ _ _ _ h => h.elim) SC E
  refine B rfl ?_
  refine And.intro (by omega) ?_
  refine And.intro (by omega) ?_
  refine And.intro (by omega) ?_
  refine And.intro (by omega) ?_
  refine Exists.intro (xs (i + 1), xs (i + 2)) (And.intro rfl (And.intro hC ?_))
  intro z1 σ3 h2
  have f4 : ∀ k j : Int, ¬ (k ≤ 27 ∨ (29 ≤ k ∧ k ≤ 77)) → σ3 k j = σ k j := h2.2
  have h5 : CI σ3 := h2.1
  refine And.intro (by omega) ?_
  refine And.intro (by omega) ?_
  refine And.intro (by omega) ?_
  refine And.intro (by omega) ?_
  have p6 : MI σ3 := MI_fr hM (fun k j hk => (f4 _ _ (by omega)))
  refine Exists.intro (xs (i + 1), xs (i + 2)) (And.intro rfl (And.intro p6 ?_))
  intro z7 σ9 h8
  have f10 : ∀ k j : Int, ¬ (93 ≤ k ∧ k ≤ 96) → σ9 k j = σ3 k j := h8
  have p11 : CI σ9 := CI_fr h5 (fun k j hk => (f10 _ _ (by omega)))
  have p12 : MI σ9 := MI_fr p6 (fun k j hk => (f10 _ _ (by omega)))
  have p13 : REL σ9 := REL_fr hL (fun k j hk => ((f10 _ _ (by omega)).trans (f4 _ _ (by omega))))
  exact K _ p11 p12 p13
set_option maxHeartbeats 4000000 in
set_option maxRecDepth 100000 in
theorem lc_11 {X : Cx_t} {G : Gx_t} {Q : State → Prop} {cl sl : Nat} {ad : List Nat} {σ : Me_t} {n : Nat} {xs : Int → Int} {i : Int} (E : EN_ X G RL cL_law 4 (some .boolean)) (hR : X.2.2.2.1 = room_1) (hcl : cl ≤ X.2.2.2.1.cells) (hsl : sl ≤ X.2.2.2.1.slots) (hG : ∀ q, q ∈ ad → G.2.2.2 q) (SC : SOK_ X G Q cl sl ad SHS_ cL_law (some (n, xs))) (hn : n ≤ 3072) (hi : 0 ≤ i) (hin : i + 6 ≤ (n : Int)) (hC : CI σ) (hM : MI σ) (hL : REL σ) (K : ∀ τ : Me_t, CI τ → MI τ → REL τ → WP_ X G Q cl sl ad SHS_ τ 2805 [(4, 0), (10, 0), (42, 86), (0, i)] []) : WP_ X G Q cl sl ad SHS_ σ 685 [(4, 0), (10, 0), (42, 86), (0, i)] [] := by
  have B := @bk_ X G Q cl sl ad SHS_ RL cL_law 4 (some .boolean) flL plL knL [(126, 3, TR_ as_G_X10_why (rmI_) pre_G_X10_why post_G_X10_why), (132, 3, TR_ as_G_X11_why (rmI_) pre_G_X11_why post_G_X11_why)] 9 (fun _ _ => False) (some (n, xs)) kL_12 [] flL_ok plL_ok knL_ok eL_12 oL_12
    (List.forall_mem_cons.mpr ⟨cok_v (t := 0) (c := 10) (N := 14) (n := 2) (idx := 63) E (ct_G_X10_why X.2.1) (by rw [hR]; decide) hcl hsl hG rfl rfl ⟨rfl, by decide, by decide, by decide⟩ (fun _ => ⟨_, _, rfl, rfl⟩) wl_L_63 wi_X10_why ws_X10_why wn_X10 wc_X10_why, List.forall_mem_cons.mpr ⟨cok_v (t := 32) (c := 11) (N := 39) (n := 2) (idx := 66) E (ct_G_X11_why X.2.1) (by rw [hR]; decide) hcl hsl hG rfl rfl ⟨rfl, by decide, by decide, by decide⟩ (fun _ => ⟨_, _, rfl, rfl⟩) wl_L_66 wi_X11_why ws_X11_why wn_X11 wc_X11_why, fun _ h => absurd h List.not_mem_nil⟩⟩) (fun _ _ _ _ _ h => h.elim) SC E
  refine B rfl ?_
  refine And.intro (by omega) ?_
  refine And.intro (by omega) ?_
  refine And.intro (by omega) ?_
  refine And.intro (by omega) ?_
  refine Exists.intro (xs (i + 1), xs (i + 2)) (And.intro rfl (And.intro hC ?_))
  intro z1 σ3 h2
  have f4 : ∀ k j : Int, ¬ (k ≤ 27 ∨ (29 ≤ k ∧ k ≤ 77)) → σ3 k j = σ k j := h2.2
  have h5 : CI σ3 := h2.1
  refine And.intro (by omega) ?_
  refine And.intro (by omega) ?_
  refine And.intro (by omega) ?_
  refine And.intro (by omega) ?_
  have p6 : MI σ3 := MI_fr hM (fun k j hk => (f4 _ _ (by omega)))
  refine Exists.intro (xs (i + 1), xs (i + 2)) (And.intro rfl (And.intro p6 ?_))
  intro z7 σ9 h8
  have f10 : ∀ k j : Int, ¬ (93 ≤ k ∧ k ≤ 96) → σ9 k j = σ3 k j := h8
  have p11 : CI σ9 := CI_fr h5 (fun k j hk => (f10 _ _ (by omega)))
  have p12 : MI σ9 := MI_fr p6 (fun k j hk => (f10 _ _ (by omega)))
  have p13 : REL σ9 := REL_fr hL (fun k j hk => ((f10 _ _ (by omega)).trans (f4 _ _ (by omega))))
  exact K _ p11 p12 p13
set_option maxHeartbeats 4000000 in
set_option maxRecDepth 100000 in
theorem lc_12 {X : Cx_t} {G : Gx_t} {Q : State → Prop} {cl sl : Nat} {ad : List Nat} {σ : Me_t} {n : Nat} {xs : Int → Int} {i : Int} (E : EN_ X G RL cL_law 4 (some .boolean)) (hR : X.2.2.2.1 = room_1) (hcl : cl ≤ X.2.2.2.1.cells) (hsl : sl ≤ X.2.2.2.1.slots) (hG : ∀ q, q ∈ ad → G.2.2.2 q) (SC : SOK_ X G Q cl sl ad SHS_ cL_law (some (n, xs))) (hn : n ≤ 3072) (hi : 0 ≤ i) (hin : i + 6 ≤ (n : Int)) (hC : CI σ) (hM : MI σ) (hL : REL σ) (K : ∀ τ : Me_t, CI τ → MI τ → REL τ → WP_ X G Q cl sl ad SHS_ τ 2805 [(4, 0), (10, 0), (42, 86), (0, i)] []) : WP_ X G Q cl sl ad SHS_ σ 718 [(4, 0), (10, 0), (42, 86), (0, i)] [] := by
  have B := @bk_ X G Q cl sl ad SHS_ RL cL_law 4 (some .boolean) flL plL knL [(134, 2, TR_ as_G_X10_who (rmI_) pre_G_X10_who post_G_X10_who), (140, 2, TR_ as_G_X11_who (rmI_) pre_G_X11_who post_G_X11_who)] 9 (fun _ _ => False) (some (n, xs)) kL_13 [] flL_ok plL_ok knL_ok eL_13 oL_13
    (List.forall_mem_cons.mpr ⟨cok_v (t := 0) (c := 10) (N := 14) (n := 1) (idx := 67) E (ct_G_X10_who X.2.1) (by rw [hR]; decide) hcl hsl hG rfl rfl ⟨rfl, by decide, by decide, by decide⟩ (fun _ => ⟨_, _, rfl, rfl⟩) wl_L_67 wi_X10_who ws_X10_who wn_X10 wc_X10_who, List.forall_mem_cons.mpr ⟨cok_v (t := 32) (c := 11) (N := 39) (n := 1) (idx := 70) E (ct_G_X11_who X.2.1) (by rw [hR]; decide) hcl hsl hG rfl rfl ⟨rfl, by decide, by decide, by decide⟩ (fun _ => ⟨_, _, rfl, rfl⟩) wl_L_70 wi_X11_who ws_X11_who wn_X11 wc_X11_who, fun _ h => absurd h List.not_mem_nil⟩⟩) (fun _ _ _ _ _ h => h.elim) SC E
  refine B rfl ?_
  refine And.intro (by omega) ?_
  refine And.intro (by omega) ?_
  refine Exists.intro (xs (i + 1)) (And.intro rfl (And.intro hC ?_))
  intro z1 σ3 h2
  have f4 : ∀ k j : Int, ¬ (k ≤ 27 ∨ (29 ≤ k ∧ k ≤ 77)) → σ3 k j = σ k j := h2.2
  have h5 : CI σ3 := h2.1
  refine And.intro (by omega) ?_
  refine And.intro (by omega) ?_
  have p6 : MI σ3 := MI_fr hM (fun k j hk => (f4 _ _ (by omega)))
  refine Exists.intro (xs (i + 1)) (And.intro rfl (And.intro p6 ?_))
  intro z7 σ9 h8
  have f10 : ∀ k j : Int, ¬ (93 ≤ k ∧ k ≤ 96) → σ9 k j = σ3 k j := h8
  have p11 : CI σ9 := CI_fr h5 (fun k j hk => (f10 _ _ (by omega)))
  have p12 : MI σ9 := MI_fr p6 (fun k j hk => (f10 _ _ (by omega)))
  have p13 : REL σ9 := REL_fr hL (fun k j hk => ((f10 _ _ (by omega)).trans (f4 _ _ (by omega))))
  exact K _ p11 p12 p13
set_option maxHeartbeats 4000000 in
set_option maxRecDepth 100000 in
theorem lc_13 {X : Cx_t} {G : Gx_t} {Q : State → Prop} {cl sl : Nat} {ad : List Nat} {σ : Me_t} {n : Nat} {xs : Int → Int} {i : Int} (E : EN_ X G RL cL_law 4 (some .boolean)) (hR : X.2.2.2.1 = room_1) (hcl : cl ≤ X.2.2.2.1.cells) (hsl : sl ≤ X.2.2.2.1.slots) (hG : ∀ q, q ∈ ad → G.2.2.2 q) (SC : SOK_ X G Q cl sl ad SHS_ cL_law (some (n, xs))) (hn : n ≤ 3072) (hi : 0 ≤ i) (hin : i + 6 ≤ (n : Int)) (hC : CI σ) (hM : MI σ) (hL : REL σ) (K : ∀ τ : Me_t, CI τ → MI τ → REL τ → WP_ X G Q cl sl ad SHS_ τ 2805 [(4, 0), (10, 0), (42, 86), (0, i)] []) : WP_ X G Q cl sl ad SHS_ σ 741 [(4, 0), (10, 0), (42, 86), (0, i)] [] := by
  have B := @bk_ X G Q cl sl ad SHS_ RL cL_law 4 (some .boolean) flL plL knL [(142, 3, TR_ as_G_X10_next (rmI_) pre_G_X10_next post_G_X10_next), (148, 3, TR_ as_G_X11_next (rmI_) pre_G_X11_next post_G_X11_next)] 9 (fun _ _ => False) (some (n, xs)) kL_14 [] flL_ok plL_ok knL_ok eL_14 oL_14
    (List.forall_mem_cons.mpr ⟨cok_v (t := 0) (c := 10) (N := 14) (n := 2) (idx := 71) E (ct_G_X10_next X.2.1) (by rw [hR]; decide) hcl hsl hG rfl rfl ⟨rfl, by decide, by decide, by decide⟩ (fun _ => ⟨_, _, rfl, rfl⟩) wl_L_71 wi_X10_next ws_X10_next wn_X10 wc_X10_next, List.forall_mem_cons.mpr ⟨cok_v (t := 32) (c := 11) (N := 39) (n := 2) (idx := 74) E (ct_G_X11_next X.2.1) (by rw [hR]; decide) hcl hsl hG rfl rfl ⟨rfl, by decide, by decide, by decide⟩ (fun _ => ⟨_, _, rfl, rfl⟩) wl_L_74 wi_X11_next ws_X11_next wn_X11 wc_X11_next, fun _ h => absurd h List.not_mem_nil⟩⟩) (fun _ _ _ _ _ h => h.elim) SC E
  refine B rfl ?_
  refine And.intro (by omega) ?_
  refine And.intro (by omega) ?_
  refine And.intro (by omega) ?_
  refine And.intro (by omega) ?_
  refine Exists.intro (xs (i + 1), xs (i + 2)) (And.intro rfl (And.intro hC ?_))
  intro z1 σ3 h2
  have f4 : ∀ k j : Int, ¬ (k ≤ 27 ∨ (29 ≤ k ∧ k ≤ 77)) → σ3 k j = σ k j := h2.2
  have h5 : CI σ3 := h2.1
  refine And.intro (by omega) ?_
  refine And.intro (by omega) ?_
  refine And.intro (by omega) ?_
  refine And.intro (by omega) ?_
  have p6 : MI σ3 := MI_fr hM (fun k j hk => (f4 _ _ (by omega)))
  refine Exists.intro (xs (i + 1), xs (i + 2)) (And.intro rfl (And.intro p6 ?_))
  intro z7 σ9 h8
  have f10 : ∀ k j : Int, ¬ (93 ≤ k ∧ k ≤ 96) → σ9 k j = σ3 k j := h8
  have p11 : CI σ9 := CI_fr h5 (fun k j hk => (f10 _ _ (by omega)))
  have p12 : MI σ9 := MI_fr p6 (fun k j hk => (f10 _ _ (by omega)))
  have p13 : REL σ9 := REL_fr hL (fun k j hk => ((f10 _ _ (by omega)).trans (f4 _ _ (by omega))))
  exact K _ p11 p12 p13
set_option maxHeartbeats 4000000 in
set_option maxRecDepth 100000 in
theorem lc_14 {X : Cx_t} {G : Gx_t} {Q : State → Prop} {cl sl : Nat} {ad : List Nat} {σ : Me_t} {n : Nat} {xs : Int → Int} {i : Int} (E : EN_ X G RL cL_law 4 (some .boolean)) (hR : X.2.2.2.1 = room_1) (hcl : cl ≤ X.2.2.2.1.cells) (hsl : sl ≤ X.2.2.2.1.slots) (hG : ∀ q, q ∈ ad → G.2.2.2 q) (SC : SOK_ X G Q cl sl ad SHS_ cL_law (some (n, xs))) (hn : n ≤ 3072) (hi : 0 ≤ i) (hin : i + 6 ≤ (n : Int)) (hC : CI σ) (hM : MI σ) (hL : REL σ) (K : ∀ τ : Me_t, CI τ → MI τ → REL τ → WP_ X G Q cl sl ad SHS_ τ 2805 [(4, 0), (10, 0), (42, 86), (0, i)] []) : WP_ X G Q cl sl ad SHS_ σ 774 [(4, 0), (10, 0), (42, 86), (0, i)] [] := by
  have B := @bk_ X G Q cl sl ad SHS_ RL cL_law 4 (some .boolean) flL plL knL [(150, 4, TR_ as_G_X10_many (rmI_) pre_G_X10_many post_G_X10_many), (156, 4, TR_ as_G_X11_many (rmI_) pre_G_X11_many post_G_X11_many)] 9 (fun _ _ => False) (some (n, xs)) kL_15 [] flL_ok plL_ok knL_ok eL_15 oL_15
    (List.forall_mem_cons.mpr ⟨cok_v (t := 0) (c := 10) (N := 14) (n := 3) (idx := 75) E (ct_G_X10_many X.2.1) (by rw [hR]; decide) hcl hsl hG rfl rfl ⟨rfl, by decide, by decide, by decide⟩ (fun _ => ⟨_, _, rfl, rfl⟩) wl_L_75 wi_X10_many ws_X10_many wn_X10 wc_X10_many, List.forall_mem_cons.mpr ⟨cok_v (t := 32) (c := 11) (N := 39) (n := 3) (idx := 78) E (ct_G_X11_many X.2.1) (by rw [hR]; decide) hcl hsl hG rfl rfl ⟨rfl, by decide, by decide, by decide⟩ (fun _ => ⟨_, _, rfl, rfl⟩) wl_L_78 wi_X11_many ws_X11_many wn_X11 wc_X11_many, fun _ h => absurd h List.not_mem_nil⟩⟩) (fun _ _ _ _ _ h => h.elim) SC E
  refine B rfl ?_
  refine And.intro (by omega) ?_
  refine And.intro (by omega) ?_
  refine And.intro (by omega) ?_
  refine And.intro (by omega) ?_
  refine And.intro (by omega) ?_
  refine And.intro (by omega) ?_
  refine Exists.intro (xs (i + 1), xs (i + 2), xs (i + 3)) (And.intro rfl (And.intro hC ?_))
  intro z1 σ3 h2
  have f4 : ∀ k j : Int, ¬ (k ≤ 27 ∨ (29 ≤ k ∧ k ≤ 77)) → σ3 k j = σ k j := h2.2
  have h5 : CI σ3 := h2.1
  refine And.intro (by omega) ?_
  refine And.intro (by omega) ?_
  refine And.intro (by omega) ?_
  refine And.intro (by omega) ?_
  refine And.intro (by omega) ?_
  refine And.intro (by omega) ?_
  have p6 : MI σ3 := MI_fr hM (fun k j hk => (f4 _ _ (by omega)))
  refine Exists.intro (xs (i + 1), xs (i + 2), xs (i + 3)) (And.intro rfl (And.intro p6 ?_))
  intro z7 σ9 h8
  have f10 : ∀ k j : Int, ¬ (93 ≤ k ∧ k ≤ 96) → σ9 k j = σ3 k j := h8
  have p11 : CI σ9 := CI_fr h5 (fun k j hk => (f10 _ _ (by omega)))
  have p12 : MI σ9 := MI_fr p6 (fun k j hk => (f10 _ _ (by omega)))
  have p13 : REL σ9 := REL_fr hL (fun k j hk => ((f10 _ _ (by omega)).trans (f4 _ _ (by omega))))
  exact K _ p11 p12 p13
set_option maxHeartbeats 4000000 in
set_option maxRecDepth 100000 in
theorem lc_15 {X : Cx_t} {G : Gx_t} {Q : State → Prop} {cl sl : Nat} {ad : List Nat} {σ : Me_t} {n : Nat} {xs : Int → Int} {i : Int} (E : EN_ X G RL cL_law 4 (some .boolean)) (hR : X.2.2.2.1 = room_1) (hcl : cl ≤ X.2.2.2.1.cells) (hsl : sl ≤ X.2.2.2.1.slots) (hG : ∀ q, q ∈ ad → G.2.2.2 q) (SC : SOK_ X G Q cl sl ad SHS_ cL_law (some (n, xs))) (hn : n ≤ 3072) (hi : 0 ≤ i) (hin : i + 6 ≤ (n : Int)) (hC : CI σ) (hM : MI σ) (hL : REL σ) (K : ∀ τ : Me_t, CI τ → MI τ → REL τ → WP_ X G Q cl sl ad SHS_ τ 2805 [(4, 0), (10, 0), (42, 86), (0, i)] []) : WP_ X G Q cl sl ad SHS_ σ 817 [(4, 0), (10, 0), (42, 86), (0, i)] [] := by
  have B := @bk_ X G Q cl sl ad SHS_ RL cL_law 4 (some .boolean) flL plL knL [(158, 4, TR_ as_G_X10_waits (rmI_) pre_G_X10_waits post_G_X10_waits), (164, 4, TR_ as_G_X11_waits (rmI_) pre_G_X11_waits post_G_X11_waits)] 9 (fun _ _ => False) (some (n, xs)) kL_16 [] flL_ok plL_ok knL_ok eL_16 oL_16
    (List.forall_mem_cons.mpr ⟨cok_v (t := 0) (c := 10) (N := 14) (n := 3) (idx := 79) E (ct_G_X10_waits X.2.1) (by rw [hR]; decide) hcl hsl hG rfl rfl ⟨rfl, by decide, by decide, by decide⟩ (fun _ => ⟨_, _, rfl, rfl⟩) wl_L_79 wi_X10_waits ws_X10_waits wn_X10 wc_X10_waits, List.forall_mem_cons.mpr ⟨cok_v (t := 32) (c := 11) (N := 39) (n := 3) (idx := 82) E (ct_G_X11_waits X.2.1) (by rw [hR]; decide) hcl hsl hG rfl rfl ⟨rfl, by decide, by decide, by decide⟩ (fun _ => ⟨_, _, rfl, rfl⟩) wl_L_82 wi_X11_waits ws_X11_waits wn_X11 wc_X11_waits, fun _ h => absurd h List.not_mem_nil⟩⟩) (fun _ _ _ _ _ h => h.elim) SC E
  refine B rfl ?_
  refine And.intro (by omega) ?_
  refine And.intro (by omega) ?_
  refine And.intro (by omega) ?_
  refine And.intro (by omega) ?_
  refine And.intro (by omega) ?_
  refine And.intro (by omega) ?_
  refine Exists.intro (xs (i + 1), xs (i + 2), xs (i + 3)) (And.intro rfl (And.intro hC ?_))
  intro z1 σ3 h2
  have f4 : ∀ k j : Int, ¬ (k ≤ 27 ∨ (29 ≤ k ∧ k ≤ 77)) → σ3 k j = σ k j := h2.2
  have h5 : CI σ3 := h2.1
  refine And.intro (by omega) ?_
  refine And.intro (by omega) ?_
  refine And.intro (by omega) ?_
  refine And.intro (by omega) ?_
  refine And.intro (by omega) ?_
  refine And.intro (by omega) ?_
  have p6 : MI σ3 := MI_fr hM (fun k j hk => (f4 _ _ (by omega)))
  refine Exists.intro (xs (i + 1), xs (i + 2), xs (i + 3)) (And.intro rfl (And.intro p6 ?_))
  intro z7 σ9 h8
  have f10 : ∀ k j : Int, ¬ (k = 86 ∨ (93 ≤ k ∧ k ≤ 96)) → σ9 k j = σ3 k j := h8
  have p11 : CI σ9 := CI_fr h5 (fun k j hk => (f10 _ _ (by omega)))
  have p12 : MI σ9 := MI_fr p6 (fun k j hk => (f10 _ _ (by omega)))
  have p13 : REL σ9 := REL_fr hL (fun k j hk => ((f10 _ _ (by omega)).trans (f4 _ _ (by omega))))
  exact K _ p11 p12 p13
set_option maxHeartbeats 4000000 in
set_option maxRecDepth 100000 in
theorem lc_16 {X : Cx_t} {G : Gx_t} {Q : State → Prop} {cl sl : Nat} {ad : List Nat} {σ : Me_t} {n : Nat} {xs : Int → Int} {i : Int} (E : EN_ X G RL cL_law 4 (some .boolean)) (hR : X.2.2.2.1 = room_1) (hcl : cl ≤ X.2.2.2.1.cells) (hsl : sl ≤ X.2.2.2.1.slots) (hG : ∀ q, q ∈ ad → G.2.2.2 q) (SC : SOK_ X G Q cl sl ad SHS_ cL_law (some (n, xs))) (hn : n ≤ 3072) (hi : 0 ≤ i) (hin : i + 6 ≤ (n : Int)) (hC : CI σ) (hM : MI σ) (hL : REL σ) (K : ∀ τ : Me_t, CI τ → MI τ → REL τ → WP_ X G Q cl sl ad SHS_ τ 2805 [(4, 0), (10, 0), (42, 86), (0, i)] []) : WP_ X G Q cl sl ad SHS_ σ 860 [(4, 0), (10, 0), (42, 86), (0, i)] [] := by
  have B := @bk_ X G Q cl sl ad SHS_ RL cL_law 4 (some .boolean) flL plL knL [(166, 4, TR_ as_G_X10_waiting (rmI_) pre_G_X10_waiting post_G_X10_waiting), (172, 4, TR_ as_G_X11_waiting (rmI_) pre_G_X11_waiting post_G_X11_waiting)] 9 (fun _ _ => False) (some (n, xs)) kL_17 [] flL_ok plL_ok knL_ok eL_17 oL_17
    (List.forall_mem_cons.mpr ⟨cok_v (t := 0) (c := 10) (N := 14) (n := 3) (idx := 83) E (ct_G_X10_waiting X.2.1) (by rw [hR]; decide) hcl hsl hG rfl rfl ⟨rfl, by decide, by decide, by decide⟩ (fun _ => ⟨_, _, rfl, rfl⟩) wl_L_83 wi_X10_waiting ws_X10_waiting wn_X10 wc_X10_waiting, List.forall_mem_cons.mpr ⟨cok_v (t := 32) (c := 11) (N := 39) (n := 3) (idx := 86) E (ct_G_X11_waiting X.2.1) (by rw [hR]; decide) hcl hsl hG rfl rfl ⟨rfl, by decide, by decide, by decide⟩ (fun _ => ⟨_, _, rfl, rfl⟩) wl_L_86 wi_X11_waiting ws_X11_waiting wn_X11 wc_X11_waiting, fun _ h => absurd h List.not_mem_nil⟩⟩) (fun _ _ _ _ _ h => h.elim) SC E
  refine B rfl ?_
  refine And.intro (by omega) ?_
  refine And.intro (by omega) ?_
  refine And.intro (by omega) ?_
  refine And.intro (by omega) ?_
  refine And.intro (by omega) ?_
  refine And.intro (by omega) ?_
  refine Exists.intro (xs (i + 1), xs (i + 2), xs (i + 3)) (And.intro rfl (And.intro hC ?_))
  intro z1 σ3 h2
  have f4 : ∀ k j : Int, ¬ (k ≤ 27 ∨ (29 ≤ k ∧ k ≤ 77)) → σ3 k j = σ k j := h2.2
  have h5 : CI σ3 := h2.1
  refine And.intro (by omega) ?_
  refine And.intro (by omega) ?_
  refine And.intro (by omega) ?_
  refine And.intro (by omega) ?_
  refine And.intro (by omega) ?_
  refine And.intro (by omega) ?_
  have p6 : MI σ3 := MI_fr hM (fun k j hk => (f4 _ _ (by omega)))
  refine Exists.intro (xs (i + 1), xs (i + 2), xs (i + 3)) (And.intro rfl (And.intro p6 ?_))
  intro z7 σ9 h8
  have f10 : ∀ k j : Int, ¬ (k = 86 ∨ (93 ≤ k ∧ k ≤ 96)) → σ9 k j = σ3 k j := h8
  have p11 : CI σ9 := CI_fr h5 (fun k j hk => (f10 _ _ (by omega)))
  have p12 : MI σ9 := MI_fr p6 (fun k j hk => (f10 _ _ (by omega)))
  have p13 : REL σ9 := REL_fr hL (fun k j hk => ((f10 _ _ (by omega)).trans (f4 _ _ (by omega))))
  exact K _ p11 p12 p13
set_option maxHeartbeats 4000000 in
set_option maxRecDepth 100000 in
theorem lc_17 {X : Cx_t} {G : Gx_t} {Q : State → Prop} {cl sl : Nat} {ad : List Nat} {σ : Me_t} {n : Nat} {xs : Int → Int} {i : Int} (E : EN_ X G RL cL_law 4 (some .boolean)) (hR : X.2.2.2.1 = room_1) (hcl : cl ≤ X.2.2.2.1.cells) (hsl : sl ≤ X.2.2.2.1.slots) (hG : ∀ q, q ∈ ad → G.2.2.2 q) (SC : SOK_ X G Q cl sl ad SHS_ cL_law (some (n, xs))) (hn : n ≤ 3072) (hi : 0 ≤ i) (hin : i + 6 ≤ (n : Int)) (hC : CI σ) (hM : MI σ) (hL : REL σ) (K : ∀ τ : Me_t, CI τ → MI τ → REL τ → WP_ X G Q cl sl ad SHS_ τ 2805 [(4, 0), (10, 0), (42, 86), (0, i)] []) : WP_ X G Q cl sl ad SHS_ σ 903 [(4, 0), (10, 0), (42, 86), (0, i)] [] := by
  have B := @bk_ X G Q cl sl ad SHS_ RL cL_law 4 (some .boolean) flL plL knL [(174, 5, TR_ as_G_X10_share (rmI_) pre_G_X10_share post_G_X10_share), (180, 5, TR_ as_G_X11_share (rmI_) pre_G_X11_share post_G_X11_share)] 9 (fun _ _ => False) (some (n, xs)) kL_18 [] flL_ok plL_ok knL_ok eL_18 oL_18
    (List.forall_mem_cons.mpr ⟨cok_v (t := 0) (c := 10) (N := 14) (n := 4) (idx := 87) E (ct_G_X10_share X.2.1) (by rw [hR]; decide) hcl hsl hG rfl rfl ⟨rfl, by decide, by decide, by decide⟩ (fun _ => ⟨_, _, rfl, rfl⟩) wl_L_87 wi_X10_share ws_X10_share wn_X10 wc_X10_share, List.forall_mem_cons.mpr ⟨cok_v (t := 32) (c := 11) (N := 39) (n := 4) (idx := 90) E (ct_G_X11_share X.2.1) (by rw [hR]; decide) hcl hsl hG rfl rfl ⟨rfl, by decide, by decide, by decide⟩ (fun _ => ⟨_, _, rfl, rfl⟩) wl_L_90 wi_X11_share ws_X11_share wn_X11 wc_X11_share, fun _ h => absurd h List.not_mem_nil⟩⟩) (fun _ _ _ _ _ h => h.elim) SC E
  refine B rfl ?_
  refine And.intro (by omega) ?_
  refine And.intro (by omega) ?_
  refine And.intro (by omega) ?_
  refine And.intro (by omega) ?_
  refine And.intro (by omega) ?_
  refine And.intro (by omega) ?_
  refine And.intro (by omega) ?_
  refine And.intro (by omega) ?_
  refine Exists.intro (xs (i + 1), xs (i + 2), xs (i + 3), xs (i + 4)) (And.intro rfl (And.intro hC ?_))
  intro z1 σ3 h2
  have f4 : ∀ k j : Int, ¬ (k ≤ 27 ∨ (29 ≤ k ∧ k ≤ 77)) → σ3 k j = σ k j := h2.2
  have h5 : CI σ3 := h2.1
  refine And.intro (by omega) ?_
  refine And.intro (by omega) ?_
  refine And.intro (by omega) ?_
  refine And.intro (by omega) ?_
  refine And.intro (by omega) ?_
  refine And.intro (by omega) ?_
  refine And.intro (by omega) ?_
  refine And.intro (by omega) ?_
  have p6 : MI σ3 := MI_fr hM (fun k j hk => (f4 _ _ (by omega)))
  refine Exists.intro (xs (i + 1), xs (i + 2), xs (i + 3), xs (i + 4)) (And.intro rfl (And.intro p6 ?_))
  intro z7 σ9 h8
  have f10 : ∀ k j : Int, ¬ (93 ≤ k ∧ k ≤ 96) → σ9 k j = σ3 k j := h8
  have p11 : CI σ9 := CI_fr h5 (fun k j hk => (f10 _ _ (by omega)))
  have p12 : MI σ9 := MI_fr p6 (fun k j hk => (f10 _ _ (by omega)))
  have p13 : REL σ9 := REL_fr hL (fun k j hk => ((f10 _ _ (by omega)).trans (f4 _ _ (by omega))))
  exact K _ p11 p12 p13
set_option maxHeartbeats 4000000 in
set_option maxRecDepth 100000 in
theorem lc_18 {X : Cx_t} {G : Gx_t} {Q : State → Prop} {cl sl : Nat} {ad : List Nat} {σ : Me_t} {n : Nat} {xs : Int → Int} {i : Int} (E : EN_ X G RL cL_law 4 (some .boolean)) (hR : X.2.2.2.1 = room_1) (hcl : cl ≤ X.2.2.2.1.cells) (hsl : sl ≤ X.2.2.2.1.slots) (hG : ∀ q, q ∈ ad → G.2.2.2 q) (SC : SOK_ X G Q cl sl ad SHS_ cL_law (some (n, xs))) (hn : n ≤ 3072) (hi : 0 ≤ i) (hin : i + 6 ≤ (n : Int)) (hC : CI σ) (hM : MI σ) (hL : REL σ) (K : ∀ τ : Me_t, CI τ → MI τ → REL τ → WP_ X G Q cl sl ad SHS_ τ 2805 [(4, 0), (10, 0), (42, 86), (0, i)] []) : WP_ X G Q cl sl ad SHS_ σ 956 [(4, 0), (10, 0), (42, 86), (0, i)] [] := by
  have B := @bk_ X G Q cl sl ad SHS_ RL cL_law 4 (some .boolean) flL plL knL [(182, 6, TR_ as_G_X10_meets (rmI_) pre_G_X10_meets post_G_X10_meets), (188, 6, TR_ as_G_X11_meets (rmI_) pre_G_X11_meets post_G_X11_meets)] 9 (fun _ _ => False) (some (n, xs)) kL_19 [] flL_ok plL_ok knL_ok eL_19 oL_19
    (List.forall_mem_cons.mpr ⟨cok_v (t := 0) (c := 10) (N := 14) (n := 5) (idx := 91) E (ct_G_X10_meets X.2.1) (by rw [hR]; decide) hcl hsl hG rfl rfl ⟨rfl, by decide, by decide, by decide⟩ (fun _ => ⟨_, _, rfl, rfl⟩) wl_L_91 wi_X10_meets ws_X10_meets wn_X10 wc_X10_meets, List.forall_mem_cons.mpr ⟨cok_v (t := 32) (c := 11) (N := 39) (n := 5) (idx := 94) E (ct_G_X11_meets X.2.1) (by rw [hR]; decide) hcl hsl hG rfl rfl ⟨rfl, by decide, by decide, by decide⟩ (fun _ => ⟨_, _, rfl, rfl⟩) wl_L_94 wi_X11_meets ws_X11_meets wn_X11 wc_X11_meets, fun _ h => absurd h List.not_mem_nil⟩⟩) (fun _ _ _ _ _ h => h.elim) SC E
  refine B rfl ?_
  refine And.intro (by omega) ?_
  refine And.intro (by omega) ?_
  refine And.intro (by omega) ?_
  refine And.intro (by omega) ?_
  refine And.intro (by omega) ?_
  refine And.intro (by omega) ?_
  refine And.intro (by omega) ?_
  refine And.intro (by omega) ?_
  refine And.intro (by omega) ?_
  refine And.intro (by omega) ?_
  refine Exists.intro (xs (i + 1), xs (i + 2), xs (i + 3), xs (i + 4), xs (i + 5)) (And.intro rfl (And.intro hC ?_))
  intro z1 σ3 h2
  have f4 : ∀ k j : Int, ¬ (k ≤ 27 ∨ (29 ≤ k ∧ k ≤ 77)) → σ3 k j = σ k j := h2.2
  have h5 : CI σ3 := h2.1
  refine And.intro (by omega) ?_
  refine And.intro (by omega) ?_
  refine And.intro (by omega) ?_
  refine And.intro (by omega) ?_
  refine And.intro (by omega) ?_
  refine And.intro (by omega) ?_
  refine And.intro (by omega) ?_
  refine And.intro (by omega) ?_
  refine And.intro (by omega) ?_
  refine And.intro (by omega) ?_
  have p6 : MI σ3 := MI_fr hM (fun k j hk => (f4 _ _ (by omega)))
  refine Exists.intro (xs (i + 1), xs (i + 2), xs (i + 3), xs (i + 4), xs (i + 5)) (And.intro rfl (And.intro p6 ?_))
  rintro z7 m_ h8
  obtain rfl : σ3 = m_ := h8
  have p9 : REL σ3 := REL_fr hL (fun k j hk => (f4 _ _ (by omega)))
  exact K _ h5 p6 p9
set_option maxHeartbeats 4000000 in
set_option maxRecDepth 100000 in
theorem lc_19 {X : Cx_t} {G : Gx_t} {Q : State → Prop} {cl sl : Nat} {ad : List Nat} {σ : Me_t} {n : Nat} {xs : Int → Int} {i : Int} (E : EN_ X G RL cL_law 4 (some .boolean)) (hR : X.2.2.2.1 = room_1) (hcl : cl ≤ X.2.2.2.1.cells) (hsl : sl ≤ X.2.2.2.1.slots) (hG : ∀ q, q ∈ ad → G.2.2.2 q) (SC : SOK_ X G Q cl sl ad SHS_ cL_law (some (n, xs))) (hn : n ≤ 3072) (hi : 0 ≤ i) (hin : i + 6 ≤ (n : Int)) (hC : CI σ) (hM : MI σ) (hL : REL σ) (K : ∀ τ : Me_t, CI τ → MI τ → REL τ → WP_ X G Q cl sl ad SHS_ τ 2805 [(4, 0), (10, 0), (42, 86), (0, i)] []) : WP_ X G Q cl sl ad SHS_ σ 1019 [(4, 0), (10, 0), (42, 86), (0, i)] [] := by
  have B := @bk_ X G Q cl sl ad SHS_ RL cL_law 4 (some .boolean) flL plL knL [(190, 2, TR_ as_G_X10_period (rmI_) pre_G_X10_period post_G_X10_period), (196, 2, TR_ as_G_X11_period (rmI_) pre_G_X11_period post_G_X11_period)] 9 (fun _ _ => False) (some (n, xs)) kL_20 [] flL_ok plL_ok knL_ok eL_20 oL_20
    (List.forall_mem_cons.mpr ⟨cok_v (t := 0) (c := 10) (N := 14) (n := 1) (idx := 95) E (ct_G_X10_period X.2.1) (by rw [hR]; decide) hcl hsl hG rfl rfl ⟨rfl, by decide, by decide, by decide⟩ (fun _ => ⟨_, _, rfl, rfl⟩) wl_L_95 wi_X10_period ws_X10_period wn_X10 wc_X10_period, List.forall_mem_cons.mpr ⟨cok_v (t := 32) (c := 11) (N := 39) (n := 1) (idx := 98) E (ct_G_X11_period X.2.1) (by rw [hR]; decide) hcl hsl hG rfl rfl ⟨rfl, by decide, by decide, by decide⟩ (fun _ => ⟨_, _, rfl, rfl⟩) wl_L_98 wi_X11_period ws_X11_period wn_X11 wc_X11_period, fun _ h => absurd h List.not_mem_nil⟩⟩) (fun _ _ _ _ _ h => h.elim) SC E
  refine B rfl ?_
  refine And.intro (by omega) ?_
  refine And.intro (by omega) ?_
  refine Exists.intro (xs (i + 1)) (And.intro rfl (And.intro hC ?_))
  intro z1 σ3 h2
  have f4 : ∀ k j : Int, ¬ (k ≤ 27 ∨ (29 ≤ k ∧ k ≤ 77)) → σ3 k j = σ k j := h2.2
  have h5 : CI σ3 := h2.1
  refine And.intro (by omega) ?_
  refine And.intro (by omega) ?_
  have p6 : MI σ3 := MI_fr hM (fun k j hk => (f4 _ _ (by omega)))
  refine Exists.intro (xs (i + 1)) (And.intro rfl (And.intro p6 ?_))
  rintro z7 m_ h8
  obtain rfl : σ3 = m_ := h8
  have p9 : REL σ3 := REL_fr hL (fun k j hk => (f4 _ _ (by omega)))
  exact K _ h5 p6 p9
set_option maxHeartbeats 4000000 in
set_option maxRecDepth 100000 in
theorem lc_20 {X : Cx_t} {G : Gx_t} {Q : State → Prop} {cl sl : Nat} {ad : List Nat} {σ : Me_t} {n : Nat} {xs : Int → Int} {i : Int} (E : EN_ X G RL cL_law 4 (some .boolean)) (hR : X.2.2.2.1 = room_1) (hcl : cl ≤ X.2.2.2.1.cells) (hsl : sl ≤ X.2.2.2.1.slots) (hG : ∀ q, q ∈ ad → G.2.2.2 q) (SC : SOK_ X G Q cl sl ad SHS_ cL_law (some (n, xs))) (hn : n ≤ 3072) (hi : 0 ≤ i) (hin : i + 6 ≤ (n : Int)) (hC : CI σ) (hM : MI σ) (hL : REL σ) (K : ∀ τ : Me_t, CI τ → MI τ → REL τ → WP_ X G Q cl sl ad SHS_ τ 2805 [(4, 0), (10, 0), (42, 86), (0, i)] []) : WP_ X G Q cl sl ad SHS_ σ 1042 [(4, 0), (10, 0), (42, 86), (0, i)] [] := by
  have B := @bk_ X G Q cl sl ad SHS_ RL cL_law 4 (some .boolean) flL plL knL [(198, 4, TR_ as_G_X10_alike (rmI_) pre_G_X10_alike post_G_X10_alike), (204, 4, TR_ as_G_X11_alike (rmI_) pre_G_X11_alike post_G_X11_alike)] 9 (fun _ _ => False) (some (n, xs)) kL_21 [] flL_ok plL_ok knL_ok eL_21 oL_21
    (List.forall_mem_cons.mpr ⟨cok_v (t := 0) (c := 10) (N := 14) (n := 3) (idx := 99) E (ct_G_X10_alike X.2.1) (by rw [hR]; decide) hcl hsl hG rfl rfl ⟨rfl, by decide, by decide, by decide⟩ (fun _ => ⟨_, _, rfl, rfl⟩) wl_L_99 wi_X10_alike ws_X10_alike wn_X10 wc_X10_alike, List.forall_mem_cons.mpr ⟨cok_v (t := 32) (c := 11) (N := 39) (n := 3) (idx := 102) E (ct_G_X11_alike X.2.1) (by rw [hR]; decide) hcl hsl hG rfl rfl ⟨rfl, by decide, by decide, by decide⟩ (fun _ => ⟨_, _, rfl, rfl⟩) wl_L_102 wi_X11_alike ws_X11_alike wn_X11 wc_X11_alike, fun _ h => absurd h List.not_mem_nil⟩⟩) (fun _ _ _ _ _ h => h.elim) SC E
  refine B rfl ?_
  refine And.intro (by omega) ?_
  refine And.intro (by omega) ?_
  refine And.intro (by omega) ?_
  refine And.intro (by omega) ?_
  refine And.intro (by omega) ?_
  refine And.intro (by omega) ?_
  refine Exists.intro (xs (i + 1), xs (i + 2), xs (i + 3)) (And.intro rfl (And.intro hC ?_))
  intro z1 σ3 h2
  have f4 : ∀ k j : Int, ¬ (k ≤ 27 ∨ (29 ≤ k ∧ k ≤ 77)) → σ3 k j = σ k j := h2.2
  have h5 : CI σ3 := h2.1
  refine And.intro (by omega) ?_
  refine And.intro (by omega) ?_
  refine And.intro (by omega) ?_
  refine And.intro (by omega) ?_
  refine And.intro (by omega) ?_
  refine And.intro (by omega) ?_
  have p6 : MI σ3 := MI_fr hM (fun k j hk => (f4 _ _ (by omega)))
  refine Exists.intro (xs (i + 1), xs (i + 2), xs (i + 3)) (And.intro rfl (And.intro p6 ?_))
  intro z7 σ9 h8
  have f10 : ∀ k j : Int, ¬ (93 ≤ k ∧ k ≤ 96) → σ9 k j = σ3 k j := h8
  have p11 : CI σ9 := CI_fr h5 (fun k j hk => (f10 _ _ (by omega)))
  have p12 : MI σ9 := MI_fr p6 (fun k j hk => (f10 _ _ (by omega)))
  have p13 : REL σ9 := REL_fr hL (fun k j hk => ((f10 _ _ (by omega)).trans (f4 _ _ (by omega))))
  exact K _ p11 p12 p13
set_option maxHeartbeats 4000000 in
set_option maxRecDepth 100000 in
theorem lc_21 {X : Cx_t} {G : Gx_t} {Q : State → Prop} {cl sl : Nat} {ad : List Nat} {σ : Me_t} {n : Nat} {xs : Int → Int} {i : Int} (E : EN_ X G RL cL_law 4 (some .boolean)) (hR : X.2.2.2.1 = room_1) (hcl : cl ≤ X.2.2.2.1.cells) (hsl : sl ≤ X.2.2.2.1.slots) (hG : ∀ q, q ∈ ad → G.2.2.2 q) (SC : SOK_ X G Q cl sl ad SHS_ cL_law (some (n, xs))) (hn : n ≤ 3072) (hi : 0 ≤ i) (hin : i + 6 ≤ (n : Int)) (hC : CI σ) (hM : MI σ) (hL : REL σ) (K : ∀ τ : Me_t, CI τ → MI τ → REL τ → WP_ X G Q cl sl ad SHS_ τ 2805 [(4, 0), (10, 0), (42, 86), (0, i)] []) : WP_ X G Q cl sl ad SHS_ σ 1085 [(4, 0), (10, 0), (42, 86), (0, i)] [] := by
  have B := @bk_ X G Q cl sl ad SHS_ RL cL_law 4 (some .boolean) flL plL knL [(206, 2, TR_ as_G_X10_years (rmI_) pre_G_X10_years post_G_X10_years), (212, 2, TR_ as_G_X11_years (rmI_) pre_G_X11_years post_G_X11_years)] 9 (fun _ _ => False) (some (n, xs)) kL_22 [] flL_ok plL_ok knL_ok eL_22 oL_22
    (List.forall_mem_cons.mpr ⟨cok_v (t := 0) (c := 10) (N := 14) (n := 1) (idx := 103) E (ct_G_X10_years X.2.1) (by rw [hR]; decide) hcl hsl hG rfl rfl ⟨rfl, by decide, by decide, by decide⟩ (fun _ => ⟨_, _, rfl, rfl⟩) wl_L_103 wi_X10_years ws_X10_years wn_X10 wc_X10_years, List.forall_mem_cons.mpr ⟨cok_v (t := 32) (c := 11) (N := 39) (n := 1) (idx := 106) E (ct_G_X11_years X.2.1) (by rw [hR]; decide) hcl hsl hG rfl rfl ⟨rfl, by decide, by decide, by decide⟩ (fun _ => ⟨_, _, rfl, rfl⟩) wl_L_106 wi_X11_years ws_X11_years wn_X11 wc_X11_years, fun _ h => absurd h List.not_mem_nil⟩⟩) (fun _ _ _ _ _ h => h.elim) SC E
  refine B rfl ?_
  refine And.intro (by omega) ?_
  refine And.intro (by omega) ?_
  refine Exists.intro (xs (i + 1)) (And.intro rfl (And.intro hC ?_))
  intro z1 σ3 h2
  have f4 : ∀ k j : Int, ¬ (k ≤ 27 ∨ (29 ≤ k ∧ k ≤ 77)) → σ3 k j = σ k j := h2.2
  have h5 : CI σ3 := h2.1
  refine And.intro (by omega) ?_
  refine And.intro (by omega) ?_
  have p6 : MI σ3 := MI_fr hM (fun k j hk => (f4 _ _ (by omega)))
  refine Exists.intro (xs (i + 1)) (And.intro rfl (And.intro p6 ?_))
  intro z7 σ9 h8
  have f10 : ∀ k j : Int, ¬ (93 ≤ k ∧ k ≤ 96) → σ9 k j = σ3 k j := h8
  have p11 : CI σ9 := CI_fr h5 (fun k j hk => (f10 _ _ (by omega)))
  have p12 : MI σ9 := MI_fr p6 (fun k j hk => (f10 _ _ (by omega)))
  have p13 : REL σ9 := REL_fr hL (fun k j hk => ((f10 _ _ (by omega)).trans (f4 _ _ (by omega))))
  exact K _ p11 p12 p13
set_option maxHeartbeats 4000000 in
set_option maxRecDepth 100000 in
theorem lc_22 {X : Cx_t} {G : Gx_t} {Q : State → Prop} {cl sl : Nat} {ad : List Nat} {σ : Me_t} {n : Nat} {xs : Int → Int} {i : Int} (E : EN_ X G RL cL_law 4 (some .boolean)) (hR : X.2.2.2.1 = room_1) (hcl : cl ≤ X.2.2.2.1.cells) (hsl : sl ≤ X.2.2.2.1.slots) (hG : ∀ q, q ∈ ad → G.2.2.2 q) (SC : SOK_ X G Q cl sl ad SHS_ cL_law (some (n, xs))) (hn : n ≤ 3072) (hi : 0 ≤ i) (hin : i + 6 ≤ (n : Int)) (hC : CI σ) (hM : MI σ) (hL : REL σ) (K : ∀ τ : Me_t, CI τ → MI τ → REL τ → WP_ X G Q cl sl ad SHS_ τ 2805 [(4, 0), (10, 0), (42, 86), (0, i)] []) : WP_ X G Q cl sl ad SHS_ σ 1108 [(4, 0), (10, 0), (42, 86), (0, i)] [] := by
  have B := @bk_ X G Q cl sl ad SHS_ RL cL_law 4 (some .boolean) flL plL knL [(214, 3, TR_ as_G_X10_comes (rmI_) pre_G_X10_comes post_G_X10_comes), (220, 3, TR_ as_G_X11_comes (rmI_) pre_G_X11_comes post_G_X11_comes)] 9 (fun _ _ => False) (some (n, xs)) kL_23 [] flL_ok plL_ok knL_ok eL_23 oL_23
    (List.forall_mem_cons.mpr ⟨cok_v (t := 0) (c := 10) (N := 14) (n := 2) (idx := 107) E (ct_G_X10_comes X.2.1) (by rw [hR]; decide) hcl hsl hG rfl rfl ⟨rfl, by decide, by decide, by decide⟩ (fun _ => ⟨_, _, rfl, rfl⟩) wl_L_107 wi_X10_comes ws_X10_comes wn_X10 wc_X10_comes, List.forall_mem_cons.mpr ⟨cok_v (t := 32) (c := 11) (N := 39) (n := 2) (idx := 110) E (ct_G_X11_comes X.2.1) (by rw [hR]; decide) hcl hsl hG rfl rfl ⟨rfl, by decide, by decide, by decide⟩ (fun _ => ⟨_, _, rfl, rfl⟩) wl_L_110 wi_X11_comes ws_X11_comes wn_X11 wc_X11_comes, fun _ h => absurd h List.not_mem_nil⟩⟩) (fun _ _ _ _ _ h => h.elim) SC E
  refine B rfl ?_
  refine And.intro (by omega) ?_
  refine And.intro (by omega) ?_
  refine And.intro (by omega) ?_
  refine And.intro (by omega) ?_
  refine Exists.intro (xs (i + 1), xs (i + 2)) (And.intro rfl (And.intro hC ?_))
  intro z1 σ3 h2
  have f4 : ∀ k j : Int, ¬ (k ≤ 27 ∨ (29 ≤ k ∧ k ≤ 77)) → σ3 k j = σ k j := h2.2
  have h5 : CI σ3 := h2.1
  refine And.intro (by omega) ?_
  refine And.intro (by omega) ?_
  refine And.intro (by omega) ?_
  refine And.intro (by omega) ?_
  have p6 : MI σ3 := MI_fr hM (fun k j hk => (f4 _ _ (by omega)))
  refine Exists.intro (xs (i + 1), xs (i + 2)) (And.intro rfl (And.intro p6 ?_))
  intro z7 σ9 h8
  have f10 : ∀ k j : Int, ¬ (93 ≤ k ∧ k ≤ 96) → σ9 k j = σ3 k j := h8
  have p11 : CI σ9 := CI_fr h5 (fun k j hk => (f10 _ _ (by omega)))
  have p12 : MI σ9 := MI_fr p6 (fun k j hk => (f10 _ _ (by omega)))
  have p13 : REL σ9 := REL_fr hL (fun k j hk => ((f10 _ _ (by omega)).trans (f4 _ _ (by omega))))
  exact K _ p11 p12 p13
set_option maxHeartbeats 4000000 in
set_option maxRecDepth 100000 in
theorem lc_23 {X : Cx_t} {G : Gx_t} {Q : State → Prop} {cl sl : Nat} {ad : List Nat} {σ : Me_t} {n : Nat} {xs : Int → Int} {i : Int} (E : EN_ X G RL cL_law 4 (some .boolean)) (hR : X.2.2.2.1 = room_1) (hcl : cl ≤ X.2.2.2.1.cells) (hsl : sl ≤ X.2.2.2.1.slots) (hG : ∀ q, q ∈ ad → G.2.2.2 q) (SC : SOK_ X G Q cl sl ad SHS_ cL_law (some (n, xs))) (hn : n ≤ 3072) (hi : 0 ≤ i) (hin : i + 6 ≤ (n : Int)) (hC : CI σ) (hM : MI σ) (hL : REL σ) (K : ∀ τ : Me_t, CI τ → MI τ → REL τ → WP_ X G Q cl sl ad SHS_ τ 2805 [(4, 0), (10, 0), (42, 86), (0, i)] []) : WP_ X G Q cl sl ad SHS_ σ 1141 [(4, 0), (10, 0), (42, 86), (0, i)] [] := by
  have B := @bk_ X G Q cl sl ad SHS_ RL cL_law 4 (some .boolean) flL plL knL [(222, 6, TR_ as_G_X10_saints (rmI_) pre_G_X10_saints post_G_X10_saints), (228, 6, TR_ as_G_X11_saints (rmI_) pre_G_X11_saints post_G_X11_saints)] 9 (fun _ _ => False) (some (n, xs)) kL_24 [] flL_ok plL_ok knL_ok eL_24 oL_24
    (List.forall_mem_cons.mpr ⟨cok_v (t := 0) (c := 10) (N := 14) (n := 5) (idx := 111) E (ct_G_X10_saints X.2.1) (by rw [hR]; decide) hcl hsl hG rfl rfl ⟨rfl, by decide, by decide, by decide⟩ (fun _ => ⟨_, _, rfl, rfl⟩) wl_L_111 wi_X10_saints ws_X10_saints wn_X10 wc_X10_saints, List.forall_mem_cons.mpr ⟨cok_v (t := 32) (c := 11) (N := 39) (n := 5) (idx := 114) E (ct_G_X11_saints X.2.1) (by rw [hR]; decide) hcl hsl hG rfl rfl ⟨rfl, by decide, by decide, by decide⟩ (fun _ => ⟨_, _, rfl, rfl⟩) wl_L_114 wi_X11_saints ws_X11_saints wn_X11 wc_X11_saints, fun _ h => absurd h List.not_mem_nil⟩⟩) (fun _ _ _ _ _ h => h.elim) SC E
  refine B rfl ?_
  refine And.intro (by omega) ?_
  refine And.intro (by omega) ?_
  refine And.intro (by omega) ?_
  refine And.intro (by omega) ?_
  refine And.intro (by omega) ?_
  refine And.intro (by omega) ?_
  refine And.intro (by omega) ?_
  refine And.intro (by omega) ?_
  refine And.intro (by omega) ?_
  refine And.intro (by omega) ?_
  refine Exists.intro (xs (i + 1), xs (i + 2), xs (i + 3), xs (i + 4), xs (i + 5)) (And.intro rfl (And.intro hC ?_))
  intro z1 σ3 h2
  have f4 : ∀ k j : Int, ¬ (k ≤ 27 ∨ (29 ≤ k ∧ k ≤ 77)) → σ3 k j = σ k j := h2.2
  have h5 : CI σ3 := h2.1
  refine And.intro (by omega) ?_
  refine And.intro (by omega) ?_
  refine And.intro (by omega) ?_
  refine And.intro (by omega) ?_
  refine And.intro (by omega) ?_
  refine And.intro (by omega) ?_
  refine And.intro (by omega) ?_
  refine And.intro (by omega) ?_
  refine And.intro (by omega) ?_
  refine And.intro (by omega) ?_
  have p6 : MI σ3 := MI_fr hM (fun k j hk => (f4 _ _ (by omega)))
  refine Exists.intro (xs (i + 1), xs (i + 2), xs (i + 3), xs (i + 4), xs (i + 5)) (And.intro rfl (And.intro p6 ?_))
  intro z7 σ9 h8
  have f10 : ∀ k j : Int, ¬ (k = 86 ∨ (93 ≤ k ∧ k ≤ 97)) → σ9 k j = σ3 k j := h8
  have p11 : CI σ9 := CI_fr h5 (fun k j hk => (f10 _ _ (by omega)))
  have p12 : MI σ9 := MI_fr p6 (fun k j hk => (f10 _ _ (by omega)))
  have p13 : REL σ9 := REL_fr hL (fun k j hk => ((f10 _ _ (by omega)).trans (f4 _ _ (by omega))))
  exact K _ p11 p12 p13
set_option maxHeartbeats 4000000 in
set_option maxRecDepth 100000 in
theorem lc_24 {X : Cx_t} {G : Gx_t} {Q : State → Prop} {cl sl : Nat} {ad : List Nat} {σ : Me_t} {n : Nat} {xs : Int → Int} {i : Int} (E : EN_ X G RL cL_law 4 (some .boolean)) (hR : X.2.2.2.1 = room_1) (hcl : cl ≤ X.2.2.2.1.cells) (hsl : sl ≤ X.2.2.2.1.slots) (hG : ∀ q, q ∈ ad → G.2.2.2 q) (SC : SOK_ X G Q cl sl ad SHS_ cL_law (some (n, xs))) (hn : n ≤ 3072) (hi : 0 ≤ i) (hin : i + 6 ≤ (n : Int)) (hC : CI σ) (hM : MI σ) (hL : REL σ) (K : ∀ τ : Me_t, CI τ → MI τ → REL τ → WP_ X G Q cl sl ad SHS_ τ 2805 [(4, 0), (10, 0), (42, 86), (0, i)] []) : WP_ X G Q cl sl ad SHS_ σ 1204 [(4, 0), (10, 0), (42, 86), (0, i)] [] := by
  have B := @bk_ X G Q cl sl ad SHS_ RL cL_law 4 (some .boolean) flL plL knL [(230, 6, TR_ as_G_X10_founded (rmL_) pre_G_X10_founded post_G_X10_founded), (238, 6, TR_ as_G_X11_founded (rmL_) pre_G_X11_founded post_G_X11_founded)] 9 (fun _ _ => False) (some (n, xs)) kL_25 [] flL_ok plL_ok knL_ok eL_25 oL_25
    (List.forall_mem_cons.mpr ⟨cok_v (t := 0) (c := 10) (N := 14) (n := 5) (idx := 115) E (ct_G_X10_founded X.2.1) (by rw [hR]; decide) hcl hsl hG rfl rfl ⟨rfl, by decide, by decide, by decide⟩ (fun _ => ⟨_, _, rfl, rfl⟩) wl_L_115 wi_X10_founded ws_X10_founded wn_X10 wc_X10_founded, List.forall_mem_cons.mpr ⟨cok_v (t := 32) (c := 11) (N := 39) (n := 5) (idx := 119) E (ct_G_X11_founded X.2.1) (by rw [hR]; decide) hcl hsl hG rfl rfl ⟨rfl, by decide, by decide, by decide⟩ (fun _ => ⟨_, _, rfl, rfl⟩) wl_L_119 wi_X11_founded ws_X11_founded wn_X11 wc_X11_founded, fun _ h => absurd h List.not_mem_nil⟩⟩) (fun _ _ _ _ _ h => h.elim) SC E
  refine B rfl ?_
  refine And.intro (by omega) ?_
  refine And.intro (by omega) ?_
  refine And.intro (by omega) ?_
  refine And.intro (by omega) ?_
  refine And.intro (by omega) ?_
  refine And.intro (by omega) ?_
  refine And.intro (by omega) ?_
  refine And.intro (by omega) ?_
  refine And.intro (by omega) ?_
  refine And.intro (by omega) ?_
  refine Exists.intro (xs (i + 1), xs (i + 2), xs (i + 3), xs (i + 4), xs (i + 5)) (And.intro rfl (And.intro hC ?_))
  intro z1 σ3 h2
  have f4 : ∀ k j : Int, ¬ (k ≤ 27 ∨ (29 ≤ k ∧ k ≤ 77)) → σ3 k j = σ k j := h2.2
  have h5 : CI σ3 := h2.1
  refine And.intro (by omega) ?_
  refine And.intro (by omega) ?_
  refine And.intro (by omega) ?_
  refine And.intro (by omega) ?_
  refine And.intro (by omega) ?_
  refine And.intro (by omega) ?_
  refine And.intro (by omega) ?_
  refine And.intro (by omega) ?_
  refine And.intro (by omega) ?_
  refine And.intro (by omega) ?_
  have p6 : MI σ3 := MI_fr hM (fun k j hk => (f4 _ _ (by omega)))
  refine Exists.intro (xs (i + 1), xs (i + 2), xs (i + 3), xs (i + 4), xs (i + 5)) (And.intro rfl (And.intro p6 ?_))
  intro z7 σ9 h8
  have f10 : ∀ k j : Int, ¬ (k = 86 ∨ (93 ≤ k ∧ k ≤ 97)) → σ9 k j = σ3 k j := h8
  have p11 : CI σ9 := CI_fr h5 (fun k j hk => (f10 _ _ (by omega)))
  have p12 : MI σ9 := MI_fr p6 (fun k j hk => (f10 _ _ (by omega)))
  have p13 : REL σ9 := REL_fr hL (fun k j hk => ((f10 _ _ (by omega)).trans (f4 _ _ (by omega))))
  exact K _ p11 p12 p13
set_option maxHeartbeats 4000000 in
set_option maxRecDepth 100000 in
theorem lc_25 {X : Cx_t} {G : Gx_t} {Q : State → Prop} {cl sl : Nat} {ad : List Nat} {σ : Me_t} {n : Nat} {xs : Int → Int} {i : Int} (E : EN_ X G RL cL_law 4 (some .boolean)) (hR : X.2.2.2.1 = room_1) (hcl : cl ≤ X.2.2.2.1.cells) (hsl : sl ≤ X.2.2.2.1.slots) (hG : ∀ q, q ∈ ad → G.2.2.2 q) (SC : SOK_ X G Q cl sl ad SHS_ cL_law (some (n, xs))) (hn : n ≤ 3072) (hi : 0 ≤ i) (hin : i + 6 ≤ (n : Int)) (hC : CI σ) (hM : MI σ) (hL : REL σ) (K : ∀ τ : Me_t, CI τ → MI τ → REL τ → WP_ X G Q cl sl ad SHS_ τ 2805 [(4, 0), (10, 0), (42, 86), (0, i)] []) : WP_ X G Q cl sl ad SHS_ σ 1267 [(4, 0), (10, 0), (42, 86), (0, i)] [] := by
  have B := @bk_ X G Q cl sl ad SHS_ RL cL_law 4 (some .boolean) flL plL knL [(240, 5, TR_ as_G_X10_bridge (rmI_) pre_G_X10_bridge post_G_X10_bridge), (246, 5, TR_ as_G_X11_bridge (rmI_) pre_G_X11_bridge post_G_X11_bridge)] 9 (fun _ _ => False) (some (n, xs)) kL_26 [] flL_ok plL_ok knL_ok eL_26 oL_26
    (List.forall_mem_cons.mpr ⟨cok_v (t := 0) (c := 10) (N := 14) (n := 4) (idx := 120) E (ct_G_X10_bridge X.2.1) (by rw [hR]; decide) hcl hsl hG rfl rfl ⟨rfl, by decide, by decide, by decide⟩ (fun _ => ⟨_, _, rfl, rfl⟩) wl_L_120 wi_X10_bridge ws_X10_bridge wn_X10 wc_X10_bridge, List.forall_mem_cons.mpr ⟨cok_v (t := 32) (c := 11) (N := 39) (n := 4) (idx := 123) E (ct_G_X11_bridge X.2.1) (by rw [hR]; decide) hcl hsl hG rfl rfl ⟨rfl, by decide, by decide, by decide⟩ (fun _ => ⟨_, _, rfl, rfl⟩) wl_L_123 wi_X11_bridge ws_X11_bridge wn_X11 wc_X11_bridge, fun _ h => absurd h List.not_mem_nil⟩⟩) (fun _ _ _ _ _ h => h.elim) SC E
  refine B rfl ?_
  refine And.intro (by omega) ?_
  refine And.intro (by omega) ?_
  refine And.intro (by omega) ?_
  refine And.intro (by omega) ?_
  refine And.intro (by omega) ?_
  refine And.intro (by omega) ?_
  refine And.intro (by omega) ?_
  refine And.intro (by omega) ?_
  refine Exists.intro (xs (i + 1), xs (i + 2), xs (i + 3), xs (i + 4)) (And.intro rfl (And.intro hC ?_))
  intro z1 σ3 h2
  have f4 : ∀ k j : Int, ¬ (k ≤ 27 ∨ (29 ≤ k ∧ k ≤ 77)) → σ3 k j = σ k j := h2.2
  have h5 : CI σ3 := h2.1
  refine And.intro (by omega) ?_
  refine And.intro (by omega) ?_
  refine And.intro (by omega) ?_
  refine And.intro (by omega) ?_
  refine And.intro (by omega) ?_
  refine And.intro (by omega) ?_
  refine And.intro (by omega) ?_
  refine And.intro (by omega) ?_
  have p6 : MI σ3 := MI_fr hM (fun k j hk => (f4 _ _ (by omega)))
  refine Exists.intro (xs (i + 1), xs (i + 2), xs (i + 3), xs (i + 4)) (And.intro rfl (And.intro p6 ?_))
  intro z7 σ9 h8
  have f10 : ∀ k j : Int, ¬ (k = 86 ∨ (93 ≤ k ∧ k ≤ 96)) → σ9 k j = σ3 k j := h8
  have p11 : CI σ9 := CI_fr h5 (fun k j hk => (f10 _ _ (by omega)))
  have p12 : MI σ9 := MI_fr p6 (fun k j hk => (f10 _ _ (by omega)))
  have p13 : REL σ9 := REL_fr hL (fun k j hk => ((f10 _ _ (by omega)).trans (f4 _ _ (by omega))))
  exact K _ p11 p12 p13
set_option maxHeartbeats 4000000 in
set_option maxRecDepth 100000 in
theorem lc_26 {X : Cx_t} {G : Gx_t} {Q : State → Prop} {cl sl : Nat} {ad : List Nat} {σ : Me_t} {n : Nat} {xs : Int → Int} {i : Int} (E : EN_ X G RL cL_law 4 (some .boolean)) (hR : X.2.2.2.1 = room_1) (hcl : cl ≤ X.2.2.2.1.cells) (hsl : sl ≤ X.2.2.2.1.slots) (hG : ∀ q, q ∈ ad → G.2.2.2 q) (SC : SOK_ X G Q cl sl ad SHS_ cL_law (some (n, xs))) (hn : n ≤ 3072) (hi : 0 ≤ i) (hin : i + 6 ≤ (n : Int)) (hC : CI σ) (hM : MI σ) (hL : REL σ) (K : ∀ τ : Me_t, CI τ → MI τ → REL τ → WP_ X G Q cl sl ad SHS_ τ 2805 [(4, 0), (10, 0), (42, 86), (0, i)] []) : WP_ X G Q cl sl ad SHS_ σ 1320 [(4, 0), (10, 0), (42, 86), (0, i)] [] := by
  have B := @bk_ X G Q cl sl ad SHS_ RL cL_law 4 (some .boolean) flL plL knL [(248, 5, TR_ as_G_X10_bridged (rmI_) pre_G_X10_bridged post_G_X10_bridged), (254, 5, TR_ as_G_X11_bridged (rmI_) pre_G_X11_bridged post_G_X11_bridged)] 9 (fun _ _ => False) (some (n, xs)) kL_27 [] flL_ok plL_ok knL_ok eL_27 oL_27
    (List.forall_mem_cons.mpr ⟨cok_v (t := 0) (c := 10) (N := 14) (n := 4) (idx := 124) E (ct_G_X10_bridged X.2.1) (by rw [hR]; decide) hcl hsl hG rfl rfl ⟨rfl, by decide, by decide, by decide⟩ (fun _ => ⟨_, _, rfl, rfl⟩) wl_L_124 wi_X10_bridged ws_X10_bridged wn_X10 wc_X10_bridged, List.forall_mem_cons.mpr ⟨cok_v (t := 32) (c := 11) (N := 39) (n := 4) (idx := 127) E (ct_G_X11_bridged X.2.1) (by rw [hR]; decide) hcl hsl hG rfl rfl ⟨rfl, by decide, by decide, by decide⟩ (fun _ => ⟨_, _, rfl, rfl⟩) wl_L_127 wi_X11_bridged ws_X11_bridged wn_X11 wc_X11_bridged, fun _ h => absurd h List.not_mem_nil⟩⟩) (fun _ _ _ _ _ h => h.elim) SC E
  refine B rfl ?_
  refine And.intro (by omega) ?_
  refine And.intro (by omega) ?_
  refine And.intro (by omega) ?_
  refine And.intro (by omega) ?_
  refine And.intro (by omega) ?_
  refine And.intro (by omega) ?_
  refine And.intro (by omega) ?_
  refine And.intro (by omega) ?_
  refine Exists.intro (xs (i + 1), xs (i + 2), xs (i + 3), xs (i + 4)) (And.intro rfl (And.intro hC ?_))
  intro z1 σ3 h2
  have f4 : ∀ k j : Int, ¬ (k ≤ 27 ∨ (29 ≤ k ∧ k ≤ 77)) → σ3 k j = σ k j := h2.2
  have h5 : CI σ3 := h2.1
  refine And.intro (by omega) ?_
  refine And.intro (by omega) ?_
  refine And.intro (by omega) ?_
  refine And.intro (by omega) ?_
  refine And.intro (by omega) ?_
  refine And.intro (by omega) ?_
  refine And.intro (by omega) ?_
  refine And.intro (by omega) ?_
  have p6 : MI σ3 := MI_fr hM (fun k j hk => (f4 _ _ (by omega)))
  refine Exists.intro (xs (i + 1), xs (i + 2), xs (i + 3), xs (i + 4)) (And.intro rfl (And.intro p6 ?_))
  intro z7 σ9 h8
  have f10 : ∀ k j : Int, ¬ (k = 86 ∨ (93 ≤ k ∧ k ≤ 96)) → σ9 k j = σ3 k j := h8
  have p11 : CI σ9 := CI_fr h5 (fun k j hk => (f10 _ _ (by omega)))
  have p12 : MI σ9 := MI_fr p6 (fun k j hk => (f10 _ _ (by omega)))
  have p13 : REL σ9 := REL_fr hL (fun k j hk => ((f10 _ _ (by omega)).trans (f4 _ _ (by omega))))
  exact K _ p11 p12 p13
set_option maxHeartbeats 4000000 in
set_option maxRecDepth 100000 in
theorem lc_27 {X : Cx_t} {G : Gx_t} {Q : State → Prop} {cl sl : Nat} {ad : List Nat} {σ : Me_t} {n : Nat} {xs : Int → Int} {i : Int} (E : EN_ X G RL cL_law 4 (some .boolean)) (hR : X.2.2.2.1 = room_1) (hcl : cl ≤ X.2.2.2.1.cells) (hsl : sl ≤ X.2.2.2.1.slots) (hG : ∀ q, q ∈ ad → G.2.2.2 q) (SC : SOK_ X G Q cl sl ad SHS_ cL_law (some (n, xs))) (hn : n ≤ 3072) (hi : 0 ≤ i) (hin : i + 6 ≤ (n : Int)) (hC : CI σ) (hM : MI σ) (hL : REL σ) (K : ∀ τ : Me_t, CI τ → MI τ → REL τ → WP_ X G Q cl sl ad SHS_ τ 2805 [(4, 0), (10, 0), (42, 86), (0, i)] []) : WP_ X G Q cl sl ad SHS_ σ 1373 [(4, 0), (10, 0), (42, 86), (0, i)] [] := by
  have B := @bk_ X G Q cl sl ad SHS_ RL cL_law 4 (some .boolean) flL plL knL [(256, 2, TR_ as_G_X10_oldest (rmI_) pre_G_X10_oldest post_G_X10_oldest), (262, 2, TR_ as_G_X11_oldest (rmI_) pre_G_X11_oldest post_G_X11_oldest)] 9 (fun _ _ => False) (some (n, xs)) kL_28 [] flL_ok plL_ok knL_ok eL_28 oL_28
    (List.forall_mem_cons.mpr ⟨cok_v (t := 0) (c := 10) (N := 14) (n := 1) (idx := 128) E (ct_G_X10_oldest X.2.1) (by rw [hR]; decide) hcl hsl hG rfl rfl ⟨rfl, by decide, by decide, by decide⟩ (fun _ => ⟨_, _, rfl, rfl⟩) wl_L_128 wi_X10_oldest ws_X10_oldest wn_X10 wc_X10_oldest, List.forall_mem_cons.mpr ⟨cok_v (t := 32) (c := 11) (N := 39) (n := 1) (idx := 131) E (ct_G_X11_oldest X.2.1) (by rw [hR]; decide) hcl hsl hG rfl rfl ⟨rfl, by decide, by decide, by decide⟩ (fun _ => ⟨_, _, rfl, rfl⟩) wl_L_131 wi_X11_oldest ws_X11_oldest wn_X11 wc_X11_oldest, fun _ h => absurd h List.not_mem_nil⟩⟩) (fun _ _ _ _ _ h => h.elim) SC E
  refine B rfl ?_
  refine And.intro (by omega) ?_
  refine And.intro (by omega) ?_
  refine Exists.intro (xs (i + 1)) (And.intro rfl (And.intro hC ?_))
  intro z1 σ3 h2
  have f4 : ∀ k j : Int, ¬ (k ≤ 27 ∨ (29 ≤ k ∧ k ≤ 77)) → σ3 k j = σ k j := h2.2
  have h5 : CI σ3 := h2.1
  refine And.intro (by omega) ?_
  refine And.intro (by omega) ?_
  have p6 : MI σ3 := MI_fr hM (fun k j hk => (f4 _ _ (by omega)))
  refine Exists.intro (xs (i + 1)) (And.intro rfl (And.intro p6 ?_))
  rintro z7 m_ h8
  obtain rfl : σ3 = m_ := h8
  have p9 : REL σ3 := REL_fr hL (fun k j hk => (f4 _ _ (by omega)))
  exact K _ h5 p6 p9
set_option maxHeartbeats 4000000 in
set_option maxRecDepth 100000 in
theorem lc_28 {X : Cx_t} {G : Gx_t} {Q : State → Prop} {cl sl : Nat} {ad : List Nat} {σ : Me_t} {n : Nat} {xs : Int → Int} {i : Int} (E : EN_ X G RL cL_law 4 (some .boolean)) (hR : X.2.2.2.1 = room_1) (hcl : cl ≤ X.2.2.2.1.cells) (hsl : sl ≤ X.2.2.2.1.slots) (hG : ∀ q, q ∈ ad → G.2.2.2 q) (SC : SOK_ X G Q cl sl ad SHS_ cL_law (some (n, xs))) (hn : n ≤ 3072) (hi : 0 ≤ i) (hin : i + 6 ≤ (n : Int)) (hC : CI σ) (hM : MI σ) (hL : REL σ) (K : ∀ τ : Me_t, CI τ → MI τ → REL τ → WP_ X G Q cl sl ad SHS_ τ 2805 [(4, 0), (10, 0), (42, 86), (0, i)] []) : WP_ X G Q cl sl ad SHS_ σ 1396 [(4, 0), (10, 0), (42, 86), (0, i)] [] := by
  have B := @bk_ X G Q cl sl ad SHS_ RL cL_law 4 (some .boolean) flL plL knL [(264, 3, TR_ as_G_X10_older (rmI_) pre_G_X10_older post_G_X10_older), (270, 3, TR_ as_G_X11_older (rmI_) pre_G_X11_older post_G_X11_older)] 9 (fun _ _ => False) (some (n, xs)) kL_29 [] flL_ok plL_ok knL_ok eL_29 oL_29
    (List.forall_mem_cons.mpr ⟨cok_v (t := 0) (c := 10) (N := 14) (n := 2) (idx := 132) E (ct_G_X10_older X.2.1) (by rw [hR]; decide) hcl hsl hG rfl rfl ⟨rfl, by decide, by decide, by decide⟩ (fun _ => ⟨_, _, rfl, rfl⟩) wl_L_132 wi_X10_older ws_X10_older wn_X10 wc_X10_older, List.forall_mem_cons.mpr ⟨cok_v (t := 32) (c := 11) (N := 39) (n := 2) (idx := 135) E (ct_G_X11_older X.2.1) (by rw [hR]; decide) hcl hsl hG rfl rfl ⟨rfl, by decide, by decide, by decide⟩ (fun _ => ⟨_, _, rfl, rfl⟩) wl_L_135 wi_X11_older ws_X11_older wn_X11 wc_X11_older, fun _ h => absurd h List.not_mem_nil⟩⟩) (fun _ _ _ _ _ h => h.elim) SC E
  refine B rfl ?_
  refine And.intro (by omega) ?_
  refine And.intro (by omega) ?_
  refine And.intro (by omega) ?_
  refine And.intro (by omega) ?_
  refine Exists.intro (xs (i + 1), xs (i + 2)) (And.intro rfl (And.intro hC ?_))
  intro z1 σ3 h2
  have f4 : ∀ k j : Int, ¬ (k ≤ 27 ∨ (29 ≤ k ∧ k ≤ 77)) → σ3 k j = σ k j := h2.2
  have h5 : CI σ3 := h2.1
  refine And.intro (by omega) ?_
  refine And.intro (by omega) ?_
  refine And.intro (by omega) ?_
  refine And.intro (by omega) ?_
  have p6 : MI σ3 := MI_fr hM (fun k j hk => (f4 _ _ (by omega)))
  refine Exists.intro (xs (i + 1), xs (i + 2)) (And.intro rfl (And.intro p6 ?_))
  rintro z7 m_ h8
  obtain rfl : σ3 = m_ := h8
  have p9 : REL σ3 := REL_fr hL (fun k j hk => (f4 _ _ (by omega)))
  exact K _ h5 p6 p9
set_option maxHeartbeats 4000000 in
set_option maxRecDepth 100000 in
theorem lc_29 {X : Cx_t} {G : Gx_t} {Q : State → Prop} {cl sl : Nat} {ad : List Nat} {σ : Me_t} {n : Nat} {xs : Int → Int} {i : Int} (E : EN_ X G RL cL_law 4 (some .boolean)) (hR : X.2.2.2.1 = room_1) (hcl : cl ≤ X.2.2.2.1.cells) (hsl : sl ≤ X.2.2.2.1.slots) (hG : ∀ q, q ∈ ad → G.2.2.2 q) (SC : SOK_ X G Q cl sl ad SHS_ cL_law (some (n, xs))) (hn : n ≤ 3072) (hi : 0 ≤ i) (hin : i + 6 ≤ (n : Int)) (hC : CI σ) (hM : MI σ) (hL : REL σ) (K : ∀ τ : Me_t, CI τ → MI τ → REL τ → WP_ X G Q cl sl ad SHS_ τ 2805 [(4, 0), (10, 0), (42, 86), (0, i)] []) : WP_ X G Q cl sl ad SHS_ σ 1429 [(4, 0), (10, 0), (42, 86), (0, i)] [] := by
  have B := @bk_ X G Q cl sl ad SHS_ RL cL_law 4 (some .boolean) flL plL knL [(272, 2, TR_ as_G_X10_apart (rmI_) pre_G_X10_apart post_G_X10_apart), (278, 2, TR_ as_G_X11_apart (rmI_) pre_G_X11_apart post_G_X11_apart)] 9 (fun _ _ => False) (some (n, xs)) kL_30 [] flL_ok plL_ok knL_ok eL_30 oL_30
    (List.forall_mem_cons.mpr ⟨cok_v (t := 0) (c := 10) (N := 14) (n := 1) (idx := 136) E (ct_G_X10_apart X.2.1) (by rw [hR]; decide) hcl hsl hG rfl rfl ⟨rfl, by decide, by decide, by decide⟩ (fun _ => ⟨_, _, rfl, rfl⟩) wl_L_136 wi_X10_apart ws_X10_apart wn_X10 wc_X10_apart, List.forall_mem_cons.mpr ⟨cok_v (t := 32) (c := 11) (N := 39) (n := 1) (idx := 139) E (ct_G_X11_apart X.2.1) (by rw [hR]; decide) hcl hsl hG rfl rfl ⟨rfl, by decide, by decide, by decide⟩ (fun _ => ⟨_, _, rfl, rfl⟩) wl_L_139 wi_X11_apart ws_X11_apart wn_X11 wc_X11_apart, fun _ h => absurd h List.not_mem_nil⟩⟩) (fun _ _ _ _ _ h => h.elim) SC E
  refine B rfl ?_
  refine And.intro (by omega) ?_
  refine And.intro (by omega) ?_
  refine Exists.intro (xs (i + 1)) (And.intro rfl (And.intro hC ?_))
  intro z1 σ3 h2
  have f4 : ∀ k j : Int, ¬ (k ≤ 27 ∨ (29 ≤ k ∧ k ≤ 77)) → σ3 k j = σ k j := h2.2
  have h5 : CI σ3 := h2.1
  refine And.intro (by omega) ?_
  refine And.intro (by omega) ?_
  have p6 : MI σ3 := MI_fr hM (fun k j hk => (f4 _ _ (by omega)))
  refine Exists.intro (xs (i + 1)) (And.intro rfl (And.intro p6 ?_))
  rintro z7 m_ h8
  obtain rfl : σ3 = m_ := h8
  have p9 : REL σ3 := REL_fr hL (fun k j hk => (f4 _ _ (by omega)))
  exact K _ h5 p6 p9
set_option maxHeartbeats 4000000 in
set_option maxRecDepth 100000 in
theorem lc_30 {X : Cx_t} {G : Gx_t} {Q : State → Prop} {cl sl : Nat} {ad : List Nat} {σ : Me_t} {n : Nat} {xs : Int → Int} {i : Int} (E : EN_ X G RL cL_law 4 (some .boolean)) (hR : X.2.2.2.1 = room_1) (hcl : cl ≤ X.2.2.2.1.cells) (hsl : sl ≤ X.2.2.2.1.slots) (hG : ∀ q, q ∈ ad → G.2.2.2 q) (SC : SOK_ X G Q cl sl ad SHS_ cL_law (some (n, xs))) (hn : n ≤ 3072) (hi : 0 ≤ i) (hin : i + 6 ≤ (n : Int)) (hC : CI σ) (hM : MI σ) (hL : REL σ) (K : ∀ τ : Me_t, CI τ → MI τ → REL τ → WP_ X G Q cl sl ad SHS_ τ 2805 [(4, 0), (10, 0), (42, 86), (0, i)] []) : WP_ X G Q cl sl ad SHS_ σ 1452 [(4, 0), (10, 0), (42, 86), (0, i)] [] := by
  have B := @bk_ X G Q cl sl ad SHS_ RL cL_law 4 (some .boolean) flL plL knL [(280, 2, TR_ as_G_X10_idle (rmI_) pre_G_X10_idle post_G_X10_idle), (286, 2, TR_ as_G_X11_idle (rmI_) pre_G_X11_idle post_G_X11_idle)] 9 (fun _ _ => False) (some (n, xs)) kL_31 [] flL_ok plL_ok knL_ok eL_31 oL_31
    (List.forall_mem_cons.mpr ⟨cok_v (t := 0) (c := 10) (N := 14) (n := 1) (idx := 140) E (ct_G_X10_idle X.2.1) (by rw [hR]; decide) hcl hsl hG rfl rfl ⟨rfl, by decide, by decide, by decide⟩ (fun _ => ⟨_, _, rfl, rfl⟩) wl_L_140 wi_X10_idle ws_X10_idle wn_X10 wc_X10_idle, List.forall_mem_cons.mpr ⟨cok_v (t := 32) (c := 11) (N := 39) (n := 1) (idx := 143) E (ct_G_X11_idle X.2.1) (by rw [hR]; decide) hcl hsl hG rfl rfl ⟨rfl, by decide, by decide, by decide⟩ (fun _ => ⟨_, _, rfl, rfl⟩) wl_L_143 wi_X11_idle ws_X11_idle wn_X11 wc_X11_idle, fun _ h => absurd h List.not_mem_nil⟩⟩) (fun _ _ _ _ _ h => h.elim) SC E
  refine B rfl ?_
  refine And.intro (by omega) ?_
  refine And.intro (by omega) ?_
  refine Exists.intro (xs (i + 1)) (And.intro rfl (And.intro hC ?_))
  intro z1 σ3 h2
  have f4 : ∀ k j : Int, ¬ (k ≤ 27 ∨ (29 ≤ k ∧ k ≤ 77)) → σ3 k j = σ k j := h2.2
  have h5 : CI σ3 := h2.1
  refine And.intro (by omega) ?_
  refine And.intro (by omega) ?_
  have p6 : MI σ3 := MI_fr hM (fun k j hk => (f4 _ _ (by omega)))
  refine Exists.intro (xs (i + 1)) (And.intro rfl (And.intro p6 ?_))
  intro z7 σ9 h8
  have f10 : ∀ k j : Int, ¬ (93 ≤ k ∧ k ≤ 96) → σ9 k j = σ3 k j := h8
  have p11 : CI σ9 := CI_fr h5 (fun k j hk => (f10 _ _ (by omega)))
  have p12 : MI σ9 := MI_fr p6 (fun k j hk => (f10 _ _ (by omega)))
  have p13 : REL σ9 := REL_fr hL (fun k j hk => ((f10 _ _ (by omega)).trans (f4 _ _ (by omega))))
  exact K _ p11 p12 p13
set_option maxHeartbeats 4000000 in
set_option maxRecDepth 100000 in
theorem lc_31 {X : Cx_t} {G : Gx_t} {Q : State → Prop} {cl sl : Nat} {ad : List Nat} {σ : Me_t} {n : Nat} {xs : Int → Int} {i : Int} (E : EN_ X G RL cL_law 4 (some .boolean)) (hR : X.2.2.2.1 = room_1) (hcl : cl ≤ X.2.2.2.1.cells) (hsl : sl ≤ X.2.2.2.1.slots) (hG : ∀ q, q ∈ ad → G.2.2.2 q) (SC : SOK_ X G Q cl sl ad SHS_ cL_law (some (n, xs))) (hn : n ≤ 3072) (hi : 0 ≤ i) (hin : i + 6 ≤ (n : Int)) (hC : CI σ) (hM : MI σ) (hL : REL σ) (K : ∀ τ : Me_t, CI τ → MI τ → REL τ → WP_ X G Q cl sl ad SHS_ τ 2805 [(4, 0), (10, 0), (42, 86), (0, i)] []) : WP_ X G Q cl sl ad SHS_ σ 1475 [(4, 0), (10, 0), (42, 86), (0, i)] [] := by
  have B := @bk_ X G Q cl sl ad SHS_ RL cL_law 4 (some .boolean) flL plL knL [(288, 4, TR_ as_G_X10_fits (rmI_) pre_G_X10_fits post_G_X10_fits), (294, 4, TR_ as_G_X11_fits (rmI_) pre_G_X11_fits post_G_X11_fits)] 9 (fun _ _ => False) (some (n, xs)) kL_32 [] flL_ok plL_ok knL_ok eL_32 oL_32
    (List.forall_mem_cons.mpr ⟨cok_v (t := 0) (c := 10) (N := 14) (n := 3) (idx := 144) E (ct_G_X10_fits X.2.1) (by rw [hR]; decide) hcl hsl hG rfl rfl ⟨rfl, by decide, by decide, by decide⟩ (fun _ => ⟨_, _, rfl, rfl⟩) wl_L_144 wi_X10_fits ws_X10_fits wn_X10 wc_X10_fits, List.forall_mem_cons.mpr ⟨cok_v (t := 32) (c := 11) (N := 39) (n := 3) (idx := 147) E (ct_G_X11_fits X.2.1) (by rw [hR]; decide) hcl hsl hG rfl rfl ⟨rfl, by decide, by decide, by decide⟩ (fun _ => ⟨_, _, rfl, rfl⟩) wl_L_147 wi_X11_fits ws_X11_fits wn_X11 wc_X11_fits, fun _ h => absurd h List.not_mem_nil⟩⟩) (fun _ _ _ _ _ h => h.elim) SC E
  refine B rfl ?_
  refine And.intro (by omega) ?_
  refine And.intro (by omega) ?_
  refine And.intro (by omega) ?_
  refine And.intro (by omega) ?_
  refine And.intro (by omega) ?_
  refine And.intro (by omega) ?_
  refine Exists.intro (xs (i + 1), xs (i + 2), xs (i + 3)) (And.intro rfl (And.intro hC ?_))
  intro z1 σ3 h2
  have f4 : ∀ k j : Int, ¬ (k ≤ 27 ∨ (29 ≤ k ∧ k ≤ 77)) → σ3 k j = σ k j := h2.2
  have h5 : CI σ3 := h2.1
  refine And.intro (by omega) ?_
  refine And.intro (by omega) ?_
  refine And.intro (by omega) ?_
  refine And.intro (by omega) ?_
  refine And.intro (by omega) ?_
  refine And.intro (by omega) ?_
  have p6 : MI σ3 := MI_fr hM (fun k j hk => (f4 _ _ (by omega)))
  refine Exists.intro (xs (i + 1), xs (i + 2), xs (i + 3)) (And.intro rfl (And.intro p6 ?_))
  intro z7 σ9 h8
  have f10 : ∀ k j : Int, ¬ (93 ≤ k ∧ k ≤ 96) → σ9 k j = σ3 k j := h8
  have p11 : CI σ9 := CI_fr h5 (fun k j hk => (f10 _ _ (by omega)))
  have p12 : MI σ9 := MI_fr p6 (fun k j hk => (f10 _ _ (by omega)))
  have p13 : REL σ9 := REL_fr hL (fun k j hk => ((f10 _ _ (by omega)).trans (f4 _ _ (by omega))))
  exact K _ p11 p12 p13
set_option maxHeartbeats 4000000 in
set_option maxRecDepth 100000 in
theorem lc_32 {X : Cx_t} {G : Gx_t} {Q : State → Prop} {cl sl : Nat} {ad : List Nat} {σ : Me_t} {n : Nat} {xs : Int → Int} {i : Int} (E : EN_ X G RL cL_law 4 (some .boolean)) (hR : X.2.2.2.1 = room_1) (hcl : cl ≤ X.2.2.2.1.cells) (hsl : sl ≤ X.2.2.2.1.slots) (hG : ∀ q, q ∈ ad → G.2.2.2 q) (SC : SOK_ X G Q cl sl ad SHS_ cL_law (some (n, xs))) (hn : n ≤ 3072) (hi : 0 ≤ i) (hin : i + 6 ≤ (n : Int)) (hC : CI σ) (hM : MI σ) (hL : REL σ) (K : ∀ τ : Me_t, CI τ → MI τ → REL τ → WP_ X G Q cl sl ad SHS_ τ 2805 [(4, 0), (10, 0), (42, 86), (0, i)] []) : WP_ X G Q cl sl ad SHS_ σ 1518 [(4, 0), (10, 0), (42, 86), (0, i)] [] := by
  have B := @bk_ X G Q cl sl ad SHS_ RL cL_law 4 (some .boolean) flL plL knL [(296, 5, TR_ as_G_X10_fit (rmI_) pre_G_X10_fit post_G_X10_fit), (302, 5, TR_ as_G_X11_fit (rmI_) pre_G_X11_fit post_G_X11_fit)] 9 (fun _ _ => False) (some (n, xs)) kL_33 [] flL_ok plL_ok knL_ok eL_33 oL_33
    (List.forall_mem_cons.mpr ⟨cok_v (t := 0) (c := 10) (N := 14) (n := 4) (idx := 148) E (ct_G_X10_fit X.2.1) (by rw [hR]; decide) hcl hsl hG rfl rfl ⟨rfl, by decide, by decide, by decide⟩ (fun _ => ⟨_, _, rfl, rfl⟩) wl_L_148 wi_X10_fit ws_X10_fit wn_X10 wc_X10_fit, List.forall_mem_cons.mpr ⟨cok_v (t := 32) (c := 11) (N := 39) (n := 4) (idx := 151) E (ct_G_X11_fit X.2.1) (by rw [hR]; decide) hcl hsl hG rfl rfl ⟨rfl, by decide, by decide, by decide⟩ (fun _ => ⟨_, _, rfl, rfl⟩) wl_L_151 wi_X11_fit ws_X11_fit wn_X11 wc_X11_fit, fun _ h => absurd h List.not_mem_nil⟩⟩) (fun _ _ _ _ _ h => h.elim) SC E
  refine B rfl ?_
  refine And.intro (by omega) ?_
  refine And.intro (by omega) ?_
  refine And.intro (by omega) ?_
  refine And.intro (by omega) ?_
  refine And.intro (by omega) ?_
  refine And.intro (by omega) ?_
  refine And.intro (by omega) ?_
  refine And.intro (by omega) ?_
  refine Exists.intro (xs (i + 1), xs (i + 2), xs (i + 3), xs (i + 4)) (And.intro rfl (And.intro hC ?_))
  intro z1 σ3 h2
  have f4 : ∀ k j : Int, ¬ (k ≤ 27 ∨ (29 ≤ k ∧ k ≤ 77)) → σ3 k j = σ k j := h2.2
  have h5 : CI σ3 := h2.1
  refine And.intro (by omega) ?_
  refine And.intro (by omega) ?_
  refine And.intro (by omega) ?_
  refine And.intro (by omega) ?_
  refine And.intro (by omega) ?_
  refine And.intro (by omega) ?_
  refine And.intro (by omega) ?_
  refine And.intro (by omega) ?_
  have p6 : MI σ3 := MI_fr hM (fun k j hk => (f4 _ _ (by omega)))
  refine Exists.intro (xs (i + 1), xs (i + 2), xs (i + 3), xs (i + 4)) (And.intro rfl (And.intro p6 ?_))
  intro z7 σ9 h8
  have f10 : ∀ k j : Int, ¬ (93 ≤ k ∧ k ≤ 96) → σ9 k j = σ3 k j := h8
  have p11 : CI σ9 := CI_fr h5 (fun k j hk => (f10 _ _ (by omega)))
  have p12 : MI σ9 := MI_fr p6 (fun k j hk => (f10 _ _ (by omega)))
  have p13 : REL σ9 := REL_fr hL (fun k j hk => ((f10 _ _ (by omega)).trans (f4 _ _ (by omega))))
  exact K _ p11 p12 p13
set_option maxHeartbeats 4000000 in
set_option maxRecDepth 100000 in
theorem lc_33 {X : Cx_t} {G : Gx_t} {Q : State → Prop} {cl sl : Nat} {ad : List Nat} {σ : Me_t} {n : Nat} {xs : Int → Int} {i : Int} (E : EN_ X G RL cL_law 4 (some .boolean)) (hR : X.2.2.2.1 = room_1) (hcl : cl ≤ X.2.2.2.1.cells) (hsl : sl ≤ X.2.2.2.1.slots) (hG : ∀ q, q ∈ ad → G.2.2.2 q) (SC : SOK_ X G Q cl sl ad SHS_ cL_law (some (n, xs))) (hn : n ≤ 3072) (hi : 0 ≤ i) (hin : i + 6 ≤ (n : Int)) (hC : CI σ) (hM : MI σ) (hL : REL σ) (K : ∀ τ : Me_t, CI τ → MI τ → REL τ → WP_ X G Q cl sl ad SHS_ τ 2805 [(4, 0), (10, 0), (42, 86), (0, i)] []) : WP_ X G Q cl sl ad SHS_ σ 1571 [(4, 0), (10, 0), (42, 86), (0, i)] [] := by
  have B := @bk_ X G Q cl sl ad SHS_ RL cL_law 4 (some .boolean) flL plL knL [(304, 5, TR_ as_G_X10_sure (rmI_) pre_G_X10_sure post_G_X10_sure), (310, 5, TR_ as_G_X11_sure (rmI_) pre_G_X11_sure post_G_X11_sure)] 9 (fun _ _ => False) (some (n, xs)) kL_34 [] flL_ok plL_ok knL_ok eL_34 oL_34
    (List.forall_mem_cons.mpr ⟨cok_v (t := 0) (c := 10) (N := 14) (n := 4) (idx := 152) E (ct_G_X10_sure X.2.1) (by rw [hR]; decide) hcl hsl hG rfl rfl ⟨rfl, by decide, by decide, by decide⟩ (fun _ => ⟨_, _, rfl, rfl⟩) wl_L_152 wi_X10_sure ws_X10_sure wn_X10 wc_X10_sure, List.forall_mem_cons.mpr ⟨cok_v (t := 32) (c := 11) (N := 39) (n := 4) (idx := 155) E (ct_G_X11_sure X.2.1) (by rw [hR]; decide) hcl hsl hG rfl rfl ⟨rfl, by decide, by decide, by decide⟩ (fun _ => ⟨_, _, rfl, rfl⟩) wl_L_155 wi_X11_sure ws_X11_sure wn_X11 wc_X11_sure, fun _ h => absurd h List.not_mem_nil⟩⟩) (fun _ _ _ _ _ h => h.elim) SC E
  refine B rfl ?_
  refine And.intro (by omega) ?_
  refine And.intro (by omega) ?_
  refine And.intro (by omega) ?_
  refine And.intro (by omega) ?_
  refine And.intro (by omega) ?_
  refine And.intro (by omega) ?_
  refine And.intro (by omega) ?_
  refine And.intro (by omega) ?_
  refine Exists.intro (xs (i + 1), xs (i + 2), xs (i + 3), xs (i + 4)) (And.intro rfl (And.intro hC ?_))
  intro z1 σ3 h2
  have f4 : ∀ k j : Int, ¬ (k ≤ 27 ∨ (29 ≤ k ∧ k ≤ 77)) → σ3 k j = σ k j := h2.2
  have h5 : CI σ3 := h2.1
  refine And.intro (by omega) ?_
  refine And.intro (by omega) ?_
  refine And.intro (by omega) ?_
  refine And.intro (by omega) ?_
  refine And.intro (by omega) ?_
  refine And.intro (by omega) ?_
  refine And.intro (by omega) ?_
  refine And.intro (by omega) ?_
  have p6 : MI σ3 := MI_fr hM (fun k j hk => (f4 _ _ (by omega)))
  refine Exists.intro (xs (i + 1), xs (i + 2), xs (i + 3), xs (i + 4)) (And.intro rfl (And.intro p6 ?_))
  intro z7 σ9 h8
  have f10 : ∀ k j : Int, ¬ (93 ≤ k ∧ k ≤ 96) → σ9 k j = σ3 k j := h8
  have p11 : CI σ9 := CI_fr h5 (fun k j hk => (f10 _ _ (by omega)))
  have p12 : MI σ9 := MI_fr p6 (fun k j hk => (f10 _ _ (by omega)))
  have p13 : REL σ9 := REL_fr hL (fun k j hk => ((f10 _ _ (by omega)).trans (f4 _ _ (by omega))))
  exact K _ p11 p12 p13
set_option maxHeartbeats 4000000 in
set_option maxRecDepth 100000 in
theorem lc_34 {X : Cx_t} {G : Gx_t} {Q : State → Prop} {cl sl : Nat} {ad : List Nat} {σ : Me_t} {n : Nat} {xs : Int → Int} {i : Int} (E : EN_ X G RL cL_law 4 (some .boolean)) (hR : X.2.2.2.1 = room_1) (hcl : cl ≤ X.2.2.2.1.cells) (hsl : sl ≤ X.2.2.2.1.slots) (hG : ∀ q, q ∈ ad → G.2.2.2 q) (SC : SOK_ X G Q cl sl ad SHS_ cL_law (some (n, xs))) (hn : n ≤ 3072) (hi : 0 ≤ i) (hin : i + 6 ≤ (n : Int)) (hC : CI σ) (hM : MI σ) (hL : REL σ) (K : ∀ τ : Me_t, CI τ → MI τ → REL τ → WP_ X G Q cl sl ad SHS_ τ 2805 [(4, 0), (10, 0), (42, 86), (0, i)] []) : WP_ X G Q cl sl ad SHS_ σ 1624 [(4, 0), (10, 0), (42, 86), (0, i)] [] := by
  have B := @bk_ X G Q cl sl ad SHS_ RL cL_law 4 (some .boolean) flL plL knL [(312, 4, TR_ as_G_X10_ask (rmI_) pre_G_X10_ask post_G_X10_ask), (318, 4, TR_ as_G_X11_ask (rmI_) pre_G_X11_ask post_G_X11_ask)] 9 (fun _ _ => False) (some (n, xs)) kL_35 [] flL_ok plL_ok knL_ok eL_35 oL_35
    (List.forall_mem_cons.mpr ⟨cok_v (t := 0) (c := 10) (N := 14) (n := 3) (idx := 156) E (ct_G_X10_ask X.2.1) (by rw [hR]; decide) hcl hsl hG rfl rfl ⟨rfl, by decide, by decide, by decide⟩ (fun _ => ⟨_, _, rfl, rfl⟩) wl_L_156 wi_X10_ask ws_X10_ask wn_X10 wc_X10_ask, List.forall_mem_cons.mpr ⟨cok_v (t := 32) (c := 11) (N := 39) (n := 3) (idx := 159) E (ct_G_X11_ask X.2.1) (by rw [hR]; decide) hcl hsl hG rfl rfl ⟨rfl, by decide, by decide, by decide⟩ (fun _ => ⟨_, _, rfl, rfl⟩) wl_L_159 wi_X11_ask ws_X11_ask wn_X11 wc_X11_ask, fun _ h => absurd h List.not_mem_nil⟩⟩) (fun _ _ _ _ _ h => h.elim) SC E
  refine B rfl ?_
  refine And.intro (by omega) ?_
  refine And.intro (by omega) ?_
  refine And.intro (by omega) ?_
  refine And.intro (by omega) ?_
  refine And.intro (by omega) ?_
  refine And.intro (by omega) ?_
  refine Exists.intro (xs (i + 1), xs (i + 2), xs (i + 3)) (And.intro rfl (And.intro hC ?_))
  intro z1 σ3 h2
  have f4 : ∀ k j : Int, ¬ (k ≤ 27 ∨ (29 ≤ k ∧ k ≤ 77)) → σ3 k j = σ k j := h2.2
  have h5 : CI σ3 := h2.1
  refine And.intro (by omega) ?_
  refine And.intro (by omega) ?_
  refine And.intro (by omega) ?_
  refine And.intro (by omega) ?_
  refine And.intro (by omega) ?_
  refine And.intro (by omega) ?_
  have p6 : MI σ3 := MI_fr hM (fun k j hk => (f4 _ _ (by omega)))
  refine Exists.intro (xs (i + 1), xs (i + 2), xs (i + 3)) (And.intro rfl (And.intro p6 ?_))
  intro z7 σ9 h8
  have f10 : ∀ k j : Int, ¬ (k = 86 ∨ k = 98 ∨ (93 ≤ k ∧ k ≤ 96)) → σ9 k j = σ3 k j := h8
  have p11 : CI σ9 := CI_fr h5 (fun k j hk => (f10 _ _ (by omega)))
  have p12 : MI σ9 := MI_fr p6 (fun k j hk => (f10 _ _ (by omega)))
  have p13 : REL σ9 := REL_fr hL (fun k j hk => ((f10 _ _ (by omega)).trans (f4 _ _ (by omega))))
  exact K _ p11 p12 p13
set_option maxHeartbeats 4000000 in
set_option maxRecDepth 100000 in
theorem lc_35 {X : Cx_t} {G : Gx_t} {Q : State → Prop} {cl sl : Nat} {ad : List Nat} {σ : Me_t} {n : Nat} {xs : Int → Int} {i : Int} (E : EN_ X G RL cL_law 4 (some .boolean)) (hR : X.2.2.2.1 = room_1) (hcl : cl ≤ X.2.2.2.1.cells) (hsl : sl ≤ X.2.2.2.1.slots) (hG : ∀ q, q ∈ ad → G.2.2.2 q) (SC : SOK_ X G Q cl sl ad SHS_ cL_law (some (n, xs))) (hn : n ≤ 3072) (hi : 0 ≤ i) (hin : i + 6 ≤ (n : Int)) (hC : CI σ) (hM : MI σ) (hL : REL σ) (K : ∀ τ : Me_t, CI τ → MI τ → REL τ → WP_ X G Q cl sl ad SHS_ τ 2805 [(4, 0), (10, 0), (42, 86), (0, i)] []) : WP_ X G Q cl sl ad SHS_ σ 1667 [(4, 0), (10, 0), (42, 86), (0, i)] [] := by
  have B := @bk_ X G Q cl sl ad SHS_ RL cL_law 4 (some .boolean) flL plL knL [(320, 4, TR_ as_G_X10_leaves (rmI_) pre_G_X10_leaves post_G_X10_leaves), (326, 4, TR_ as_G_X11_leaves (rmI_) pre_G_X11_leaves post_G_X11_leaves)] 9 (fun _ _ => False) (some (n, xs)) kL_36 [] flL_ok plL_ok knL_ok eL_36 oL_36
    (List.forall_mem_cons.mpr ⟨cok_v (t := 0) (c := 10) (N := 14) (n := 3) (idx := 160) E (ct_G_X10_leaves X.2.1) (by rw [hR]; decide) hcl hsl hG rfl rfl ⟨rfl, by decide, by decide, by decide⟩ (fun _ => ⟨_, _, rfl, rfl⟩) wl_L_160 wi_X10_leaves ws_X10_leaves wn_X10 wc_X10_leaves, List.forall_mem_cons.mpr ⟨cok_v (t := 32) (c := 11) (N := 39) (n := 3) (idx := 163) E (ct_G_X11_leaves X.2.1) (by rw [hR]; decide) hcl hsl hG rfl rfl ⟨rfl, by decide, by decide, by decide⟩ (fun _ => ⟨_, _, rfl, rfl⟩) wl_L_163 wi_X11_leaves ws_X11_leaves wn_X11 wc_X11_leaves, fun _ h => absurd h List.not_mem_nil⟩⟩) (fun _ _ _ _ _ h => h.elim) SC E
  refine B rfl ?_
  refine And.intro (by omega) ?_
  refine And.intro (by omega) ?_
  refine And.intro (by omega) ?_
  refine And.intro (by omega) ?_
  refine And.intro (by omega) ?_
  refine And.intro (by omega) ?_
  refine Exists.intro (xs (i + 1), xs (i + 2), xs (i + 3)) (And.intro rfl (And.intro hC ?_))
  intro z1 σ3 h2
  have f4 : ∀ k j : Int, ¬ (k ≤ 27 ∨ (29 ≤ k ∧ k ≤ 77)) → σ3 k j = σ k j := h2.2
  have h5 : CI σ3 := h2.1
  refine And.intro (by omega) ?_
  refine And.intro (by omega) ?_
  refine And.intro (by omega) ?_
  refine And.intro (by omega) ?_
  refine And.intro (by omega) ?_
  refine And.intro (by omega) ?_
  have p6 : MI σ3 := MI_fr hM (fun k j hk => (f4 _ _ (by omega)))
  refine Exists.intro (xs (i + 1), xs (i + 2), xs (i + 3)) (And.intro rfl (And.intro p6 ?_))
  intro z7 σ9 h8
  have f10 : ∀ k j : Int, ¬ (k = 86 ∨ k = 98 ∨ (93 ≤ k ∧ k ≤ 96)) → σ9 k j = σ3 k j := h8
  have p11 : CI σ9 := CI_fr h5 (fun k j hk => (f10 _ _ (by omega)))
  have p12 : MI σ9 := MI_fr p6 (fun k j hk => (f10 _ _ (by omega)))
  have p13 : REL σ9 := REL_fr hL (fun k j hk => ((f10 _ _ (by omega)).trans (f4 _ _ (by omega))))
  exact K _ p11 p12 p13
set_option maxHeartbeats 4000000 in
set_option maxRecDepth 100000 in
theorem lc_36 {X : Cx_t} {G : Gx_t} {Q : State → Prop} {cl sl : Nat} {ad : List Nat} {σ : Me_t} {n : Nat} {xs : Int → Int} {i : Int} (E : EN_ X G RL cL_law 4 (some .boolean)) (hR : X.2.2.2.1 = room_1) (hcl : cl ≤ X.2.2.2.1.cells) (hsl : sl ≤ X.2.2.2.1.slots) (hG : ∀ q, q ∈ ad → G.2.2.2 q) (SC : SOK_ X G Q cl sl ad SHS_ cL_law (some (n, xs))) (hn : n ≤ 3072) (hi : 0 ≤ i) (hin : i + 6 ≤ (n : Int)) (hC : CI σ) (hM : MI σ) (hL : REL σ) (K : ∀ τ : Me_t, CI τ → MI τ → REL τ → WP_ X G Q cl sl ad SHS_ τ 2805 [(4, 0), (10, 0), (42, 86), (0, i)] []) : WP_ X G Q cl sl ad SHS_ σ 1710 [(4, 0), (10, 0), (42, 86), (0, i)] [] := by
  have B := @bk_ X G Q cl sl ad SHS_ RL cL_law 4 (some .boolean) flL plL knL [(328, 2, TR_ as_G_X10_holds (rmI_) pre_G_X10_holds post_G_X10_holds), (334, 2, TR_ as_G_X11_holds (rmI_) pre_G_X11_holds post_G_X11_holds)] 9 (fun _ _ => False) (some (n, xs)) kL_37 [] flL_ok plL_ok knL_ok eL_37 oL_37
    (List.forall_mem_cons.mpr ⟨cok_v (t := 0) (c := 10) (N := 14) (n := 1) (idx := 164) E (ct_G_X10_holds X.2.1) (by rw [hR]; decide) hcl hsl hG rfl rfl ⟨rfl, by decide, by decide, by decide⟩ (fun _ => ⟨_, _, rfl, rfl⟩) wl_L_164 wi_X10_holds ws_X10_holds wn_X10 wc_X10_holds, List.forall_mem_cons.mpr ⟨cok_v (t := 32) (c := 11) (N := 39) (n := 1) (idx := 167) E (ct_G_X11_holds X.2.1) (by rw [hR]; decide) hcl hsl hG rfl rfl ⟨rfl, by decide, by decide, by decide⟩ (fun _ => ⟨_, _, rfl, rfl⟩) wl_L_167 wi_X11_holds ws_X11_holds wn_X11 wc_X11_holds, fun _ h => absurd h List.not_mem_nil⟩⟩) (fun _ _ _ _ _ h => h.elim) SC E
  refine B rfl ?_
  refine And.intro (by omega) ?_
  refine And.intro (by omega) ?_
  refine Exists.intro (xs (i + 1)) (And.intro rfl (And.intro hC ?_))
  intro z1 σ3 h2
  have f4 : ∀ k j : Int, ¬ (k ≤ 27 ∨ (29 ≤ k ∧ k ≤ 77)) → σ3 k j = σ k j := h2.2
  have h5 : CI σ3 := h2.1
  refine And.intro (by omega) ?_
  refine And.intro (by omega) ?_
  have p6 : MI σ3 := MI_fr hM (fun k j hk => (f4 _ _ (by omega)))
  refine Exists.intro (xs (i + 1)) (And.intro rfl (And.intro p6 ?_))
  rintro z7 m_ h8
  obtain rfl : σ3 = m_ := h8
  have p9 : REL σ3 := REL_fr hL (fun k j hk => (f4 _ _ (by omega)))
  exact K _ h5 p6 p9
set_option maxHeartbeats 4000000 in
set_option maxRecDepth 100000 in
theorem lc_37 {X : Cx_t} {G : Gx_t} {Q : State → Prop} {cl sl : Nat} {ad : List Nat} {σ : Me_t} {n : Nat} {xs : Int → Int} {i : Int} (E : EN_ X G RL cL_law 4 (some .boolean)) (hR : X.2.2.2.1 = room_1) (hcl : cl ≤ X.2.2.2.1.cells) (hsl : sl ≤ X.2.2.2.1.slots) (hG : ∀ q, q ∈ ad → G.2.2.2 q) (SC : SOK_ X G Q cl sl ad SHS_ cL_law (some (n, xs))) (hn : n ≤ 3072) (hi : 0 ≤ i) (hin : i + 6 ≤ (n : Int)) (hC : CI σ) (hM : MI σ) (hL : REL σ) (K : ∀ τ : Me_t, CI τ → MI τ → REL τ → WP_ X G Q cl sl ad SHS_ τ 2805 [(4, 0), (10, 0), (42, 86), (0, i)] []) : WP_ X G Q cl sl ad SHS_ σ 1733 [(4, 0), (10, 0), (42, 86), (0, i)] [] := by
  have B := @bk_ X G Q cl sl ad SHS_ RL cL_law 4 (some .boolean) flL plL knL [(336, 3, TR_ as_G_X10_overlap (rmI_) pre_G_X10_overlap post_G_X10_overlap), (342, 3, TR_ as_G_X11_overlap (rmI_) pre_G_X11_overlap post_G_X11_overlap)] 9 (fun _ _ => False) (some (n, xs)) kL_38 [] flL_ok plL_ok knL_ok eL_38 oL_38
    (List.forall_mem_cons.mpr ⟨cok_v (t := 0) (c := 10) (N := 14) (n := 2) (idx := 168) E (ct_G_X10_overlap X.2.1) (by rw [hR]; decide) hcl hsl hG rfl rfl ⟨rfl, by decide, by decide, by decide⟩ (fun _ => ⟨_, _, rfl, rfl⟩) wl_L_168 wi_X10_overlap ws_X10_overlap wn_X10 wc_X10_overlap, List.forall_mem_cons.mpr ⟨cok_v (t := 32) (c := 11) (N := 39) (n := 2) (idx := 171) E (ct_G_X11_overlap X.2.1) (by rw [hR]; decide) hcl hsl hG rfl rfl ⟨rfl, by decide, by decide, by decide⟩ (fun _ => ⟨_, _, rfl, rfl⟩) wl_L_171 wi_X11_overlap ws_X11_overlap wn_X11 wc_X11_overlap, fun _ h => absurd h List.not_mem_nil⟩⟩) (fun _ _ _ _ _ h => h.elim) SC E
  refine B rfl ?_
  refine And.intro (by omega) ?_
  refine And.intro (by omega) ?_
  refine And.intro (by omega) ?_
  refine And.intro (by omega) ?_
  refine Exists.intro (xs (i + 1), xs (i + 2)) (And.intro rfl (And.intro hC ?_))
  intro z1 σ3 h2
  have f4 : ∀ k j : Int, ¬ (k ≤ 27 ∨ (29 ≤ k ∧ k ≤ 77)) → σ3 k j = σ k j := h2.2
  have h5 : CI σ3 := h2.1
  refine And.intro (by omega) ?_
  refine And.intro (by omega) ?_
  refine And.intro (by omega) ?_
  refine And.intro (by omega) ?_
  have p6 : MI σ3 := MI_fr hM (fun k j hk => (f4 _ _ (by omega)))
  refine Exists.intro (xs (i + 1), xs (i + 2)) (And.intro rfl (And.intro p6 ?_))
  rintro z7 m_ h8
  obtain rfl : σ3 = m_ := h8
  have p9 : REL σ3 := REL_fr hL (fun k j hk => (f4 _ _ (by omega)))
  exact K _ h5 p6 p9
set_option maxHeartbeats 4000000 in
set_option maxRecDepth 100000 in
theorem lc_38 {X : Cx_t} {G : Gx_t} {Q : State → Prop} {cl sl : Nat} {ad : List Nat} {σ : Me_t} {n : Nat} {xs : Int → Int} {i : Int} (E : EN_ X G RL cL_law 4 (some .boolean)) (hR : X.2.2.2.1 = room_1) (hcl : cl ≤ X.2.2.2.1.cells) (hsl : sl ≤ X.2.2.2.1.slots) (hG : ∀ q, q ∈ ad → G.2.2.2 q) (SC : SOK_ X G Q cl sl ad SHS_ cL_law (some (n, xs))) (hn : n ≤ 3072) (hi : 0 ≤ i) (hin : i + 6 ≤ (n : Int)) (hC : CI σ) (hM : MI σ) (hL : REL σ) (K : ∀ τ : Me_t, CI τ → MI τ → REL τ → WP_ X G Q cl sl ad SHS_ τ 2805 [(4, 0), (10, 0), (42, 86), (0, i)] []) : WP_ X G Q cl sl ad SHS_ σ 1766 [(4, 0), (10, 0), (42, 86), (0, i)] [] := by
  have B := @bk_ X G Q cl sl ad SHS_ RL cL_law 4 (some .boolean) flL plL knL [(344, 1, TR_ as_G_X10_most (rmI_) pre_G_X10_most post_G_X10_most), (350, 1, TR_ as_G_X11_most (rmI_) pre_G_X11_most post_G_X11_most)] 9 (fun _ _ => False) (some (n, xs)) kL_39 [] flL_ok plL_ok knL_ok eL_39 oL_39
    (List.forall_mem_cons.mpr ⟨cok_v (t := 0) (c := 10) (N := 14) (n := 0) (idx := 172) E (ct_G_X10_most X.2.1) (by rw [hR]; decide) hcl hsl hG rfl rfl ⟨rfl, by decide, by decide, by decide⟩ (fun _ => ⟨_, _, rfl, rfl⟩) wl_L_172 wi_X10_most ws_X10_most wn_X10 wc_X10_most, List.forall_mem_cons.mpr ⟨cok_v (t := 32) (c := 11) (N := 39) (n := 0) (idx := 175) E (ct_G_X11_most X.2.1) (by rw [hR]; decide) hcl hsl hG rfl rfl ⟨rfl, by decide, by decide, by decide⟩ (fun _ => ⟨_, _, rfl, rfl⟩) wl_L_175 wi_X11_most ws_X11_most wn_X11 wc_X11_most, fun _ h => absurd h List.not_mem_nil⟩⟩) (fun _ _ _ _ _ h => h.elim) SC E
  refine B rfl ?_
  refine Exists.intro () (And.intro rfl (And.intro hC ?_))
  intro z1 σ3 h2
  have f4 : ∀ k j : Int, ¬ (k ≤ 27 ∨ (29 ≤ k ∧ k ≤ 77)) → σ3 k j = σ k j := h2.2
  have h5 : CI σ3 := h2.1
  have p6 : MI σ3 := MI_fr hM (fun k j hk => (f4 _ _ (by omega)))
  refine Exists.intro () (And.intro rfl (And.intro p6 ?_))
  rintro z7 m_ h8
  obtain rfl : σ3 = m_ := h8
  have p9 : REL σ3 := REL_fr hL (fun k j hk => (f4 _ _ (by omega)))
  exact K _ h5 p6 p9
set_option maxHeartbeats 4000000 in
set_option maxRecDepth 100000 in
theorem lc_39 {X : Cx_t} {G : Gx_t} {Q : State → Prop} {cl sl : Nat} {ad : List Nat} {σ : Me_t} {n : Nat} {xs : Int → Int} {i : Int} (E : EN_ X G RL cL_law 4 (some .boolean)) (hR : X.2.2.2.1 = room_1) (hcl : cl ≤ X.2.2.2.1.cells) (hsl : sl ≤ X.2.2.2.1.slots) (hG : ∀ q, q ∈ ad → G.2.2.2 q) (SC : SOK_ X G Q cl sl ad SHS_ cL_law (some (n, xs))) (hn : n ≤ 3072) (hi : 0 ≤ i) (hin : i + 6 ≤ (n : Int)) (hC : CI σ) (hM : MI σ) (hL : REL σ) (K : ∀ τ : Me_t, CI τ → MI τ → REL τ → WP_ X G Q cl sl ad SHS_ τ 2805 [(4, 0), (10, 0), (42, 86), (0, i)] []) : WP_ X G Q cl sl ad SHS_ σ 1779 [(4, 0), (10, 0), (42, 86), (0, i)] [] := by
  have B := @bk_ X G Q cl sl ad SHS_ RL cL_law 4 (some .boolean) flL plL knL [(352, 4, TR_ as_G_X10_age (rmI_) pre_G_X10_age post_G_X10_age), (358, 4, TR_ as_G_X11_age (rmI_) pre_G_X11_age post_G_X11_age)] 9 (fun _ _ => False) (some (n, xs)) kL_40 [] flL_ok plL_ok knL_ok eL_40 oL_40
    (List.forall_mem_cons.mpr ⟨cok_v (t := 0) (c := 10) (N := 14) (n := 3) (idx := 176) E (ct_G_X10_age X.2.1) (by rw [hR]; decide) hcl hsl hG rfl rfl ⟨rfl, by decide, by decide, by decide⟩ (fun _ => ⟨_, _, rfl, rfl⟩) wl_L_176 wi_X10_age ws_X10_age wn_X10 wc_X10_age, List.forall_mem_cons.mpr ⟨cok_v (t := 32) (c := 11) (N := 39) (n := 3) (idx := 179) E (ct_G_X11_age X.2.1) (by rw [hR]; decide) hcl hsl hG rfl rfl ⟨rfl, by decide, by decide, by decide⟩ (fun _ => ⟨_, _, rfl, rfl⟩) wl_L_179 wi_X11_age ws_X11_age wn_X11 wc_X11_age, fun _ h => absurd h List.not_mem_nil⟩⟩) (fun _ _ _ _ _ h => h.elim) SC E
  refine B rfl ?_
  refine And.intro (by omega) ?_
  refine And.intro (by omega) ?_
  refine And.intro (by omega) ?_
  refine And.intro (by omega) ?_
  refine And.intro (by omega) ?_
  refine And.intro (by omega) ?_
  refine Exists.intro (xs (i + 1), xs (i + 2), xs (i + 3)) (And.intro rfl (And.intro hC ?_))
  intro z1 σ3 h2
  have f4 : ∀ k j : Int, ¬ (k ≤ 27 ∨ (29 ≤ k ∧ k ≤ 77)) → σ3 k j = σ k j := h2.2
  have h5 : CI σ3 := h2.1
  refine And.intro (by omega) ?_
  refine And.intro (by omega) ?_
  refine And.intro (by omega) ?_
  refine And.intro (by omega) ?_
  refine And.intro (by omega) ?_
  refine And.intro (by omega) ?_
  have p6 : MI σ3 := MI_fr hM (fun k j hk => (f4 _ _ (by omega)))
  refine Exists.intro (xs (i + 1), xs (i + 2), xs (i + 3)) (And.intro rfl (And.intro p6 ?_))
  intro z7 σ9 h8
  have f10 : ∀ k j : Int, ¬ (93 ≤ k ∧ k ≤ 96) → σ9 k j = σ3 k j := h8
  have p11 : CI σ9 := CI_fr h5 (fun k j hk => (f10 _ _ (by omega)))
  have p12 : MI σ9 := MI_fr p6 (fun k j hk => (f10 _ _ (by omega)))
  have p13 : REL σ9 := REL_fr hL (fun k j hk => ((f10 _ _ (by omega)).trans (f4 _ _ (by omega))))
  exact K _ p11 p12 p13
set_option maxHeartbeats 4000000 in
set_option maxRecDepth 100000 in
theorem lc_40 {X : Cx_t} {G : Gx_t} {Q : State → Prop} {cl sl : Nat} {ad : List Nat} {σ : Me_t} {n : Nat} {xs : Int → Int} {i : Int} (E : EN_ X G RL cL_law 4 (some .boolean)) (hR : X.2.2.2.1 = room_1) (hcl : cl ≤ X.2.2.2.1.cells) (hsl : sl ≤ X.2.2.2.1.slots) (hG : ∀ q, q ∈ ad → G.2.2.2 q) (SC : SOK_ X G Q cl sl ad SHS_ cL_law (some (n, xs))) (hn : n ≤ 3072) (hi : 0 ≤ i) (hin : i + 6 ≤ (n : Int)) (hC : CI σ) (hM : MI σ) (hL : REL σ) (K : ∀ τ : Me_t, CI τ → MI τ → REL τ → WP_ X G Q cl sl ad SHS_ τ 2805 [(4, 0), (10, 0), (42, 86), (0, i)] []) : WP_ X G Q cl sl ad SHS_ σ 1822 [(4, 0), (10, 0), (42, 86), (0, i)] [] := by
  have B := @bk_ X G Q cl sl ad SHS_ RL cL_law 4 (some .boolean) flL plL knL [(360, 5, TR_ as_G_X10_gains (rmI_) pre_G_X10_gains post_G_X10_gains), (366, 5, TR_ as_G_X11_gains (rmI_) pre_G_X11_gains post_G_X11_gains)] 9 (fun _ _ => False) (some (n, xs)) kL_41 [] flL_ok plL_ok knL_ok eL_41 oL_41
    (List.forall_mem_cons.mpr ⟨cok_v (t := 0) (c := 10) (N := 14) (n := 4) (idx := 180) E (ct_G_X10_gains X.2.1) (by rw [hR]; decide) hcl hsl hG rfl rfl ⟨rfl, by decide, by decide, by decide⟩ (fun _ => ⟨_, _, rfl, rfl⟩) wl_L_180 wi_X10_gains ws_X10_gains wn_X10 wc_X10_gains, List.forall_mem_cons.mpr ⟨cok_v (t := 32) (c := 11) (N := 39) (n := 4) (idx := 183) E (ct_G_X11_gains X.2.1) (by rw [hR]; decide) hcl hsl hG rfl rfl ⟨rfl, by decide, by decide, by decide⟩ (fun _ => ⟨_, _, rfl, rfl⟩) wl_L_183 wi_X11_gains ws_X11_gains wn_X11 wc_X11_gains, fun _ h => absurd h List.not_mem_nil⟩⟩) (fun _ _ _ _ _ h => h.elim) SC E
  refine B rfl ?_
  refine And.intro (by omega) ?_
  refine And.intro (by omega) ?_
  refine And.intro (by omega) ?_
  refine And.intro (by omega) ?_
  refine And.intro (by omega) ?_
  refine And.intro (by omega) ?_
  refine And.intro (by omega) ?_
  refine And.intro (by omega) ?_
  refine Exists.intro (xs (i + 1), xs (i + 2), xs (i + 3), xs (i + 4)) (And.intro rfl (And.intro hC ?_))
  intro z1 σ3 h2
  have f4 : ∀ k j : Int, ¬ (k ≤ 27 ∨ (29 ≤ k ∧ k ≤ 77)) → σ3 k j = σ k j := h2.2
  have h5 : CI σ3 := h2.1
  refine And.intro (by omega) ?_
  refine And.intro (by omega) ?_
  refine And.intro (by omega) ?_
  refine And.intro (by omega) ?_
  refine And.intro (by omega) ?_
  refine And.intro (by omega) ?_
  refine And.intro (by omega) ?_
  refine And.intro (by omega) ?_
  have p6 : MI σ3 := MI_fr hM (fun k j hk => (f4 _ _ (by omega)))
  refine Exists.intro (xs (i + 1), xs (i + 2), xs (i + 3), xs (i + 4)) (And.intro rfl (And.intro p6 ?_))
  intro z7 σ9 h8
  have f10 : ∀ k j : Int, ¬ (93 ≤ k ∧ k ≤ 96) → σ9 k j = σ3 k j := h8
  have p11 : CI σ9 := CI_fr h5 (fun k j hk => (f10 _ _ (by omega)))
  have p12 : MI σ9 := MI_fr p6 (fun k j hk => (f10 _ _ (by omega)))
  have p13 : REL σ9 := REL_fr hL (fun k j hk => ((f10 _ _ (by omega)).trans (f4 _ _ (by omega))))
  exact K _ p11 p12 p13
set_option maxHeartbeats 4000000 in
set_option maxRecDepth 100000 in
theorem lc_41 {X : Cx_t} {G : Gx_t} {Q : State → Prop} {cl sl : Nat} {ad : List Nat} {σ : Me_t} {n : Nat} {xs : Int → Int} {i : Int} (E : EN_ X G RL cL_law 4 (some .boolean)) (hR : X.2.2.2.1 = room_1) (hcl : cl ≤ X.2.2.2.1.cells) (hsl : sl ≤ X.2.2.2.1.slots) (hG : ∀ q, q ∈ ad → G.2.2.2 q) (SC : SOK_ X G Q cl sl ad SHS_ cL_law (some (n, xs))) (hn : n ≤ 3072) (hi : 0 ≤ i) (hin : i + 6 ≤ (n : Int)) (hC : CI σ) (hM : MI σ) (hL : REL σ) (K : ∀ τ : Me_t, CI τ → MI τ → REL τ → WP_ X G Q cl sl ad SHS_ τ 2805 [(4, 0), (10, 0), (42, 86), (0, i)] []) : WP_ X G Q cl sl ad SHS_ σ 1875 [(4, 0), (10, 0), (42, 86), (0, i)] [] := by
  have B := @bk_ X G Q cl sl ad SHS_ RL cL_law 4 (some .boolean) flL plL knL [(368, 4, TR_ as_G_X10_march (rmI_) pre_G_X10_march post_G_X10_march), (374, 4, TR_ as_G_X11_march (rmI_) pre_G_X11_march post_G_X11_march)] 9 (fun _ _ => False) (some (n, xs)) kL_42 [] flL_ok plL_ok knL_ok eL_42 oL_42
    (List.forall_mem_cons.mpr ⟨cok_v (t := 0) (c := 10) (N := 14) (n := 3) (idx := 184) E (ct_G_X10_march X.2.1) (by rw [hR]; decide) hcl hsl hG rfl rfl ⟨rfl, by decide, by decide, by decide⟩ (fun _ => ⟨_, _, rfl, rfl⟩) wl_L_184 wi_X10_march ws_X10_march wn_X10 wc_X10_march, List.forall_mem_cons.mpr ⟨cok_v (t := 32) (c := 11) (N := 39) (n := 3) (idx := 187) E (ct_G_X11_march X.2.1) (by rw [hR]; decide) hcl hsl hG rfl rfl ⟨rfl, by decide, by decide, by decide⟩ (fun _ => ⟨_, _, rfl, rfl⟩) wl_L_187 wi_X11_march ws_X11_march wn_X11 wc_X11_march, fun _ h => absurd h List.not_mem_nil⟩⟩) (fun _ _ _ _ _ h => h.elim) SC E
  refine B rfl ?_
  refine And.intro (by omega) ?_
  refine And.intro (by omega) ?_
  refine And.intro (by omega) ?_
  refine And.intro (by omega) ?_
  refine And.intro (by omega) ?_
  refine And.intro (by omega) ?_
  refine Exists.intro (xs (i + 1), xs (i + 2), xs (i + 3)) (And.intro rfl (And.intro hC ?_))
  intro z1 σ3 h2
  have f4 : ∀ k j : Int, ¬ (k ≤ 27 ∨ (29 ≤ k ∧ k ≤ 77)) → σ3 k j = σ k j := h2.2
  have h5 : CI σ3 := h2.1
  refine And.intro (by omega) ?_
  refine And.intro (by omega) ?_
  refine And.intro (by omega) ?_
  refine And.intro (by omega) ?_
  refine And.intro (by omega) ?_
  refine And.intro (by omega) ?_
  have p6 : MI σ3 := MI_fr hM (fun k j hk => (f4 _ _ (by omega)))
  refine Exists.intro (xs (i + 1), xs (i + 2), xs (i + 3)) (And.intro rfl (And.intro p6 ?_))
  intro z7 σ9 h8
  have f10 : ∀ k j : Int, ¬ (93 ≤ k ∧ k ≤ 96) → σ9 k j = σ3 k j := h8
  have p11 : CI σ9 := CI_fr h5 (fun k j hk => (f10 _ _ (by omega)))
  have p12 : MI σ9 := MI_fr p6 (fun k j hk => (f10 _ _ (by omega)))
  have p13 : REL σ9 := REL_fr hL (fun k j hk => ((f10 _ _ (by omega)).trans (f4 _ _ (by omega))))
  exact K _ p11 p12 p13
set_option maxHeartbeats 4000000 in
set_option maxRecDepth 100000 in
theorem lc_42 {X : Cx_t} {G : Gx_t} {Q : State → Prop} {cl sl : Nat} {ad : List Nat} {σ : Me_t} {n : Nat} {xs : Int → Int} {i : Int} (E : EN_ X G RL cL_law 4 (some .boolean)) (hR : X.2.2.2.1 = room_1) (hcl : cl ≤ X.2.2.2.1.cells) (hsl : sl ≤ X.2.2.2.1.slots) (hG : ∀ q, q ∈ ad → G.2.2.2 q) (SC : SOK_ X G Q cl sl ad SHS_ cL_law (some (n, xs))) (hn : n ≤ 3072) (hi : 0 ≤ i) (hin : i + 6 ≤ (n : Int)) (hC : CI σ) (hM : MI σ) (hL : REL σ) (K : ∀ τ : Me_t, CI τ → MI τ → REL τ → WP_ X G Q cl sl ad SHS_ τ 2805 [(4, 0), (10, 0), (42, 86), (0, i)] []) : WP_ X G Q cl sl ad SHS_ σ 1918 [(4, 0), (10, 0), (42, 86), (0, i)] [] := by
  have B := @bk_ X G Q cl sl ad SHS_ RL cL_law 4 (some .boolean) flL plL knL [(376, 5, TR_ as_G_X10_clash (rmI_) pre_G_X10_clash post_G_X10_clash), (382, 5, TR_ as_G_X11_clash (rmI_) pre_G_X11_clash post_G_X11_clash)] 9 (fun _ _ => False) (some (n, xs)) kL_43 [] flL_ok plL_ok knL_ok eL_43 oL_43
    (List.forall_mem_cons.mpr ⟨cok_v (t := 0) (c := 10) (N := 14) (n := 4) (idx := 188) E (ct_G_X10_clash X.2.1) (by rw [hR]; decide) hcl hsl hG rfl rfl ⟨rfl, by decide, by decide, by decide⟩ (fun _ => ⟨_, _, rfl, rfl⟩) wl_L_188 wi_X10_clash ws_X10_clash wn_X10 wc_X10_clash, List.forall_mem_cons.mpr ⟨cok_v (t := 32) (c := 11) (N := 39) (n := 4) (idx := 191) E (ct_G_X11_clash X.2.1) (by rw [hR]; decide) hcl hsl hG rfl rfl ⟨rfl, by decide, by decide, by decide⟩ (fun _ => ⟨_, _, rfl, rfl⟩) wl_L_191 wi_X11_clash ws_X11_clash wn_X11 wc_X11_clash, fun _ h => absurd h List.not_mem_nil⟩⟩) (fun _ _ _ _ _ h => h.elim) SC E
  refine B rfl ?_
  refine And.intro (by omega) ?_
  refine And.intro (by omega) ?_
  refine And.intro (by omega) ?_
  refine And.intro (by omega) ?_
  refine And.intro (by omega) ?_
  refine And.intro (by omega) ?_
  refine And.intro (by omega) ?_
  refine And.intro (by omega) ?_
  refine Exists.intro (xs (i + 1), xs (i + 2), xs (i + 3), xs (i + 4)) (And.intro rfl (And.intro hC ?_))
  intro z1 σ3 h2
  have f4 : ∀ k j : Int, ¬ (k ≤ 27 ∨ (29 ≤ k ∧ k ≤ 77)) → σ3 k j = σ k j := h2.2
  have h5 : CI σ3 := h2.1
  refine And.intro (by omega) ?_
  refine And.intro (by omega) ?_
  refine And.intro (by omega) ?_
  refine And.intro (by omega) ?_
  refine And.intro (by omega) ?_
  refine And.intro (by omega) ?_
  refine And.intro (by omega) ?_
  refine And.intro (by omega) ?_
  have p6 : MI σ3 := MI_fr hM (fun k j hk => (f4 _ _ (by omega)))
  refine Exists.intro (xs (i + 1), xs (i + 2), xs (i + 3), xs (i + 4)) (And.intro rfl (And.intro p6 ?_))
  intro z7 σ9 h8
  have f10 : ∀ k j : Int, ¬ (k = 86 ∨ (93 ≤ k ∧ k ≤ 96)) → σ9 k j = σ3 k j := h8
  have p11 : CI σ9 := CI_fr h5 (fun k j hk => (f10 _ _ (by omega)))
  have p12 : MI σ9 := MI_fr p6 (fun k j hk => (f10 _ _ (by omega)))
  have p13 : REL σ9 := REL_fr hL (fun k j hk => ((f10 _ _ (by omega)).trans (f4 _ _ (by omega))))
  exact K _ p11 p12 p13
set_option maxHeartbeats 4000000 in
set_option maxRecDepth 100000 in
theorem lc_43 {X : Cx_t} {G : Gx_t} {Q : State → Prop} {cl sl : Nat} {ad : List Nat} {σ : Me_t} {n : Nat} {xs : Int → Int} {i : Int} (E : EN_ X G RL cL_law 4 (some .boolean)) (hR : X.2.2.2.1 = room_1) (hcl : cl ≤ X.2.2.2.1.cells) (hsl : sl ≤ X.2.2.2.1.slots) (hG : ∀ q, q ∈ ad → G.2.2.2 q) (SC : SOK_ X G Q cl sl ad SHS_ cL_law (some (n, xs))) (hn : n ≤ 3072) (hi : 0 ≤ i) (hin : i + 6 ≤ (n : Int)) (hC : CI σ) (hM : MI σ) (hL : REL σ) (K : ∀ τ : Me_t, CI τ → MI τ → REL τ → WP_ X G Q cl sl ad SHS_ τ 2805 [(4, 0), (10, 0), (42, 86), (0, i)] []) : WP_ X G Q cl sl ad SHS_ σ 1971 [(4, 0), (10, 0), (42, 86), (0, i)] [] := by
  have B := @bk_ X G Q cl sl ad SHS_ RL cL_law 4 (some .boolean) flL plL knL [(384, 5, TR_ as_G_X10_place (rmI_) pre_G_X10_place post_G_X10_place), (390, 5, TR_ as_G_X11_place (rmI_) pre_G_X11_place post_G_X11_place)] 9 (fun _ _ => False) (some (n, xs)) kL_44 [] flL_ok plL_ok knL_ok eL_44 oL_44
    (List.forall_mem_cons.mpr ⟨cok_v (t := 0) (c := 10) (N := 14) (n := 4) (idx := 192) E (ct_G_X10_place X.2.1) (by rw [hR]; decide) hcl hsl hG rfl rfl ⟨rfl, by decide, by decide, by decide⟩ (fun _ => ⟨_, _, rfl, rfl⟩) wl_L_192 wi_X10_place ws_X10_place wn_X10 wc_X10_place, List.forall_mem_cons.mpr ⟨cok_v (t := 32) (c := 11) (N := 39) (n := 4) (idx := 195) E (ct_G_X11_place X.2.1) (by rw [hR]; decide) hcl hsl hG rfl rfl ⟨rfl, by decide, by decide, by decide⟩ (fun _ => ⟨_, _, rfl, rfl⟩) wl_L_195 wi_X11_place ws_X11_place wn_X11 wc_X11_place, fun _ h => absurd h List.not_mem_nil⟩⟩) (fun _ _ _ _ _ h => h.elim) SC E
  refine B rfl ?_
  refine And.intro (by omega) ?_
  refine And.intro (by omega) ?_
  refine And.intro (by omega) ?_
  refine And.intro (by omega) ?_
  refine And.intro (by omega) ?_
  refine And.intro (by omega) ?_
  refine And.intro (by omega) ?_
  refine And.intro (by omega) ?_
  refine Exists.intro (xs (i + 1), xs (i + 2), xs (i + 3), xs (i + 4)) (And.intro rfl (And.intro hC ?_))
  intro z1 σ3 h2
  have f4 : ∀ k j : Int, ¬ (k ≤ 27 ∨ (29 ≤ k ∧ k ≤ 77)) → σ3 k j = σ k j := h2.2
  have h5 : CI σ3 := h2.1
  refine And.intro (by omega) ?_
  refine And.intro (by omega) ?_
  refine And.intro (by omega) ?_
  refine And.intro (by omega) ?_
  refine And.intro (by omega) ?_
  refine And.intro (by omega) ?_
  refine And.intro (by omega) ?_
  refine And.intro (by omega) ?_
  have p6 : MI σ3 := MI_fr hM (fun k j hk => (f4 _ _ (by omega)))
  refine Exists.intro (xs (i + 1), xs (i + 2), xs (i + 3), xs (i + 4)) (And.intro rfl (And.intro p6 ?_))
  intro z7 σ9 h8
  have f10 : ∀ k j : Int, ¬ (k = 86 ∨ (93 ≤ k ∧ k ≤ 96)) → σ9 k j = σ3 k j := h8
  have p11 : CI σ9 := CI_fr h5 (fun k j hk => (f10 _ _ (by omega)))
  have p12 : MI σ9 := MI_fr p6 (fun k j hk => (f10 _ _ (by omega)))
  have p13 : REL σ9 := REL_fr hL (fun k j hk => ((f10 _ _ (by omega)).trans (f4 _ _ (by omega))))
  exact K _ p11 p12 p13
set_option maxHeartbeats 4000000 in
set_option maxRecDepth 100000 in
theorem lc_44 {X : Cx_t} {G : Gx_t} {Q : State → Prop} {cl sl : Nat} {ad : List Nat} {σ : Me_t} {n : Nat} {xs : Int → Int} {i : Int} (E : EN_ X G RL cL_law 4 (some .boolean)) (hR : X.2.2.2.1 = room_1) (hcl : cl ≤ X.2.2.2.1.cells) (hsl : sl ≤ X.2.2.2.1.slots) (hG : ∀ q, q ∈ ad → G.2.2.2 q) (SC : SOK_ X G Q cl sl ad SHS_ cL_law (some (n, xs))) (hn : n ≤ 3072) (hi : 0 ≤ i) (hin : i + 6 ≤ (n : Int)) (hC : CI σ) (hM : MI σ) (hL : REL σ) (K : ∀ τ : Me_t, CI τ → MI τ → REL τ → WP_ X G Q cl sl ad SHS_ τ 2805 [(4, 0), (10, 0), (42, 86), (0, i)] []) : WP_ X G Q cl sl ad SHS_ σ 2024 [(4, 0), (10, 0), (42, 86), (0, i)] [] := by
  have B := @bk_ X G Q cl sl ad SHS_ RL cL_law 4 (some .boolean) flL plL knL [(392, 5, TR_ as_G_X10_alone (rmI_) pre_G_X10_alone post_G_X10_alone), (398, 5, TR_ as_G_X11_alone (rmI_) pre_G_X11_alone post_G_X11_alone)] 9 (fun _ _ => False) (some (n, xs)) kL_45 [] flL_ok plL_ok knL_ok eL_45 oL_45
    (List.forall_mem_cons.mpr ⟨cok_v (t := 0) (c := 10) (N := 14) (n := 4) (idx := 196) E (ct_G_X10_alone X.2.1) (by rw [hR]; decide) hcl hsl hG rfl rfl ⟨rfl, by decide, by decide, by decide⟩ (fun _ => ⟨_, _, rfl, rfl⟩) wl_L_196 wi_X10_alone ws_X10_alone wn_X10 wc_X10_alone, List.forall_mem_cons.mpr ⟨cok_v (t := 32) (c := 11) (N := 39) (n := 4) (idx := 199) E (ct_G_X11_alone X.2.1) (by rw [hR]; decide) hcl hsl hG rfl rfl ⟨rfl, by decide, by decide, by decide⟩ (fun _ => ⟨_, _, rfl, rfl⟩) wl_L_199 wi_X11_alone ws_X11_alone wn_X11 wc_X11_alone, fun _ h => absurd h List.not_mem_nil⟩⟩) (fun _ _ _ _ _ h => h.elim) SC E
  refine B rfl ?_
  refine And.intro (by omega) ?_
  refine And.intro (by omega) ?_
  refine And.intro (by omega) ?_
  refine And.intro (by omega) ?_
  refine And.intro (by omega) ?_
  refine And.intro (by omega) ?_
  refine And.intro (by omega) ?_
  refine And.intro (by omega) ?_
  refine Exists.intro (xs (i + 1), xs (i + 2), xs (i + 3), xs (i + 4)) (And.intro rfl (And.intro hC ?_))
  intro z1 σ3 h2
  have f4 : ∀ k j : Int, ¬ (k ≤ 27 ∨ (29 ≤ k ∧ k ≤ 77)) → σ3 k j = σ k j := h2.2
  have h5 : CI σ3 := h2.1
  refine And.intro (by omega) ?_
  refine And.intro (by omega) ?_
  refine And.intro (by omega) ?_
  refine And.intro (by omega) ?_
  refine And.intro (by omega) ?_
  refine And.intro (by omega) ?_
  refine And.intro (by omega) ?_
  refine And.intro (by omega) ?_
  have p6 : MI σ3 := MI_fr hM (fun k j hk => (f4 _ _ (by omega)))
  refine Exists.intro (xs (i + 1), xs (i + 2), xs (i + 3), xs (i + 4)) (And.intro rfl (And.intro p6 ?_))
  intro z7 σ9 h8
  have f10 : ∀ k j : Int, ¬ (93 ≤ k ∧ k ≤ 96) → σ9 k j = σ3 k j := h8
  have p11 : CI σ9 := CI_fr h5 (fun k j hk => (f10 _ _ (by omega)))
  have p12 : MI σ9 := MI_fr p6 (fun k j hk => (f10 _ _ (by omega)))
  have p13 : REL σ9 := REL_fr hL (fun k j hk => ((f10 _ _ (by omega)).trans (f4 _ _ (by omega))))
  exact K _ p11 p12 p13
set_option maxHeartbeats 4000000 in
set_option maxRecDepth 100000 in
theorem lc_45 {X : Cx_t} {G : Gx_t} {Q : State → Prop} {cl sl : Nat} {ad : List Nat} {σ : Me_t} {n : Nat} {xs : Int → Int} {i : Int} (E : EN_ X G RL cL_law 4 (some .boolean)) (hR : X.2.2.2.1 = room_1) (hcl : cl ≤ X.2.2.2.1.cells) (hsl : sl ≤ X.2.2.2.1.slots) (hG : ∀ q, q ∈ ad → G.2.2.2 q) (SC : SOK_ X G Q cl sl ad SHS_ cL_law (some (n, xs))) (hn : n ≤ 3072) (hi : 0 ≤ i) (hin : i + 6 ≤ (n : Int)) (hC : CI σ) (hM : MI σ) (hL : REL σ) (K : ∀ τ : Me_t, CI τ → MI τ → REL τ → WP_ X G Q cl sl ad SHS_ τ 2805 [(4, 0), (10, 0), (42, 86), (0, i)] []) : WP_ X G Q cl sl ad SHS_ σ 2077 [(4, 0), (10, 0), (42, 86), (0, i)] [] := by
  have B := @bk_ X G Q cl sl ad SHS_ RL cL_law 4 (some .boolean) flL plL knL [(400, 6, TR_ as_G_X10_begin (rmI_) pre_G_X10_begin post_G_X10_begin), (406, 6, TR_ as_G_X11_begin (rmI_) pre_G_X11_begin post_G_X11_begin)] 9 (fun _ _ => False) (some (n, xs)) kL_46 [] flL_ok plL_ok knL_ok eL_46 oL_46
    (List.forall_mem_cons.mpr ⟨cok_v (t := 0) (c := 10) (N := 14) (n := 5) (idx := 200) E (ct_G_X10_begin X.2.1) (by rw [hR]; decide) hcl hsl hG rfl rfl ⟨rfl, by decide, by decide, by decide⟩ (fun _ => ⟨_, _, rfl, rfl⟩) wl_L_200 wi_X10_begin ws_X10_begin wn_X10 wc_X10_begin, List.forall_mem_cons.mpr ⟨cok_v (t := 32) (c := 11) (N := 39) (n := 5) (idx := 203) E (ct_G_X11_begin X.2.1) (by rw [hR]; decide) hcl hsl hG rfl rfl ⟨rfl, by decide, by decide, by decide⟩ (fun _ => ⟨_, _, rfl, rfl⟩) wl_L_203 wi_X11_begin ws_X11_begin wn_X11 wc_X11_begin, fun _ h => absurd h List.not_mem_nil⟩⟩) (fun _ _ _ _ _ h => h.elim) SC E
  refine B rfl ?_
  refine And.intro (by omega) ?_
  refine And.intro (by omega) ?_
  refine And.intro (by omega) ?_
  refine And.intro (by omega) ?_
  refine And.intro (by omega) ?_
  refine And.intro (by omega) ?_
  refine And.intro (by omega) ?_
  refine And.intro (by omega) ?_
  refine And.intro (by omega) ?_
  refine And.intro (by omega) ?_
  refine Exists.intro (xs (i + 1), xs (i + 2), xs (i + 3), xs (i + 4), xs (i + 5)) (And.intro rfl (And.intro hC ?_))
  intro z1 σ3 h2
  have f4 : ∀ k j : Int, ¬ (k ≤ 27 ∨ (29 ≤ k ∧ k ≤ 77)) → σ3 k j = σ k j := h2.2
  have h5 : CI σ3 := h2.1
  refine And.intro (by omega) ?_
  refine And.intro (by omega) ?_
  refine And.intro (by omega) ?_
  refine And.intro (by omega) ?_
  refine And.intro (by omega) ?_
  refine And.intro (by omega) ?_
  refine And.intro (by omega) ?_
  refine And.intro (by omega) ?_
  refine And.intro (by omega) ?_
  refine And.intro (by omega) ?_
  have p6 : MI σ3 := MI_fr hM (fun k j hk => (f4 _ _ (by omega)))
  refine Exists.intro (xs (i + 1), xs (i + 2), xs (i + 3), xs (i + 4), xs (i + 5)) (And.intro rfl (And.intro p6 ?_))
  intro z7 σ9 h8
  have f10 : ∀ k j : Int, ¬ (k = 86 ∨ (93 ≤ k ∧ k ≤ 96)) → σ9 k j = σ3 k j := h8
  have p11 : CI σ9 := CI_fr h5 (fun k j hk => (f10 _ _ (by omega)))
  have p12 : MI σ9 := MI_fr p6 (fun k j hk => (f10 _ _ (by omega)))
  have p13 : REL σ9 := REL_fr hL (fun k j hk => ((f10 _ _ (by omega)).trans (f4 _ _ (by omega))))
  exact K _ p11 p12 p13
set_option maxHeartbeats 4000000 in
set_option maxRecDepth 100000 in
theorem lc_46 {X : Cx_t} {G : Gx_t} {Q : State → Prop} {cl sl : Nat} {ad : List Nat} {σ : Me_t} {n : Nat} {xs : Int → Int} {i : Int} (E : EN_ X G RL cL_law 4 (some .boolean)) (hR : X.2.2.2.1 = room_1) (hcl : cl ≤ X.2.2.2.1.cells) (hsl : sl ≤ X.2.2.2.1.slots) (hG : ∀ q, q ∈ ad → G.2.2.2 q) (SC : SOK_ X G Q cl sl ad SHS_ cL_law (some (n, xs))) (hn : n ≤ 3072) (hi : 0 ≤ i) (hin : i + 6 ≤ (n : Int)) (hC : CI σ) (hM : MI σ) (hL : REL σ) (K : ∀ τ : Me_t, CI τ → MI τ → REL τ → WP_ X G Q cl sl ad SHS_ τ 2805 [(4, 0), (10, 0), (42, 86), (0, i)] []) : WP_ X G Q cl sl ad SHS_ σ 2140 [(4, 0), (10, 0), (42, 86), (0, i)] [] := by
  have B := @bk_ X G Q cl sl ad SHS_ RL cL_law 4 (some .boolean) flL plL knL [(408, 6, TR_ as_G_X10_begins (rmI_) pre_G_X10_begins post_G_X10_begins), (414, 6, TR_ as_G_X11_begins (rmI_) pre_G_X11_begins post_G_X11_begins)] 9 (fun _ _ => False) (some (n, xs)) kL_47 [] flL_ok plL_ok knL_ok eL_47 oL_47
    (List.forall_mem_cons.mpr ⟨cok_v (t := 0) (c := 10) (N := 14) (n := 5) (idx := 204) E (ct_G_X10_begins X.2.1) (by rw [hR]; decide) hcl hsl hG rfl rfl ⟨rfl, by decide, by decide, by decide⟩ (fun _ => ⟨_, _, rfl, rfl⟩) wl_L_204 wi_X10_begins ws_X10_begins wn_X10 wc_X10_begins, List.forall_mem_cons.mpr ⟨cok_v (t := 32) (c := 11) (N := 39) (n := 5) (idx := 207) E (ct_G_X11_begins X.2.1) (by rw [hR]; decide) hcl hsl hG rfl rfl ⟨rfl, by decide, by decide, by decide⟩ (fun _ => ⟨_, _, rfl, rfl⟩) wl_L_207 wi_X11_begins ws_X11_begins wn_X11 wc_X11_begins, fun _ h => absurd h List.not_mem_nil⟩⟩) (fun _ _ _ _ _ h => h.elim) SC E
  refine B rfl ?_
  refine And.intro (by omega) ?_
  refine And.intro (by omega) ?_
  refine And.intro (by omega) ?_
  refine And.intro (by omega) ?_
  refine And.intro (by omega) ?_
  refine And.intro (by omega) ?_
  refine And.intro (by omega) ?_
  refine And.intro (by omega) ?_
  refine And.intro (by omega) ?_
  refine And.intro (by omega) ?_
  refine Exists.intro (xs (i + 1), xs (i + 2), xs (i + 3), xs (i + 4), xs (i + 5)) (And.intro rfl (And.intro hC ?_))
  intro z1 σ3 h2
  have f4 : ∀ k j : Int, ¬ (k ≤ 27 ∨ (29 ≤ k ∧ k ≤ 77)) → σ3 k j = σ k j := h2.2
  have h5 : CI σ3 := h2.1
  refine And.intro (by omega) ?_
  refine And.intro (by omega) ?_
  refine And.intro (by omega) ?_
  refine And.intro (by omega) ?_
  refine And.intro (by omega) ?_
  refine And.intro (by omega) ?_
  refine And.intro (by omega) ?_
  refine And.intro (by omega) ?_
  refine And.intro (by omega) ?_
  refine And.intro (by omega) ?_
  have p6 : MI σ3 := MI_fr hM (fun k j hk => (f4 _ _ (by omega)))
  refine Exists.intro (xs (i + 1), xs (i + 2), xs (i + 3), xs (i + 4), xs (i + 5)) (And.intro rfl (And.intro p6 ?_))
  intro z7 σ9 h8
  have f10 : ∀ k j : Int, ¬ (k = 86 ∨ (93 ≤ k ∧ k ≤ 96)) → σ9 k j = σ3 k j := h8
  have p11 : CI σ9 := CI_fr h5 (fun k j hk => (f10 _ _ (by omega)))
  have p12 : MI σ9 := MI_fr p6 (fun k j hk => (f10 _ _ (by omega)))
  have p13 : REL σ9 := REL_fr hL (fun k j hk => ((f10 _ _ (by omega)).trans (f4 _ _ (by omega))))
  exact K _ p11 p12 p13
set_option maxHeartbeats 4000000 in
set_option maxRecDepth 100000 in
theorem lc_47 {X : Cx_t} {G : Gx_t} {Q : State → Prop} {cl sl : Nat} {ad : List Nat} {σ : Me_t} {n : Nat} {xs : Int → Int} {i : Int} (E : EN_ X G RL cL_law 4 (some .boolean)) (hR : X.2.2.2.1 = room_1) (hcl : cl ≤ X.2.2.2.1.cells) (hsl : sl ≤ X.2.2.2.1.slots) (hG : ∀ q, q ∈ ad → G.2.2.2 q) (SC : SOK_ X G Q cl sl ad SHS_ cL_law (some (n, xs))) (hn : n ≤ 3072) (hi : 0 ≤ i) (hin : i + 6 ≤ (n : Int)) (hC : CI σ) (hM : MI σ) (hL : REL σ) (K : ∀ τ : Me_t, CI τ → MI τ → REL τ → WP_ X G Q cl sl ad SHS_ τ 2805 [(4, 0), (10, 0), (42, 86), (0, i)] []) : WP_ X G Q cl sl ad SHS_ σ 2203 [(4, 0), (10, 0), (42, 86), (0, i)] [] := by
  have B := @bk_ X G Q cl sl ad SHS_ RL cL_law 4 (some .boolean) flL plL knL [(416, 5, TR_ as_G_X10_game (rmI_) pre_G_X10_game post_G_X10_game), (422, 5, TR_ as_G_X11_game (rmI_) pre_G_X11_game post_G_X11_game)] 9 (fun _ _ => False) (some (n, xs)) kL_48 [] flL_ok plL_ok knL_ok eL_48 oL_48
    (List.forall_mem_cons.mpr ⟨cok_v (t := 0) (c := 10) (N := 14) (n := 4) (idx := 208) E (ct_G_X10_game X.2.1) (by rw [hR]; decide) hcl hsl hG rfl rfl ⟨rfl, by decide, by decide, by decide⟩ (fun _ => ⟨_, _, rfl, rfl⟩) wl_L_208 wi_X10_game ws_X10_game wn_X10 wc_X10_game, List.forall_mem_cons.mpr ⟨cok_v (t := 32) (c := 11) (N := 39) (n := 4) (idx := 211) E (ct_G_X11_game X.2.1) (by rw [hR]; decide) hcl hsl hG rfl rfl ⟨rfl, by decide, by decide, by decide⟩ (fun _ => ⟨_, _, rfl, rfl⟩) wl_L_211 wi_X11_game ws_X11_game wn_X11 wc_X11_game, fun _ h => absurd h List.not_mem_nil⟩⟩) (fun _ _ _ _ _ h => h.elim) SC E
  refine B rfl ?_
  refine And.intro (by omega) ?_
  refine And.intro (by omega) ?_
  refine And.intro (by omega) ?_
  refine And.intro (by omega) ?_
  refine And.intro (by omega) ?_
  refine And.intro (by omega) ?_
  refine And.intro (by omega) ?_
  refine And.intro (by omega) ?_
  refine Exists.intro (xs (i + 1), xs (i + 2), xs (i + 3), xs (i + 4)) (And.intro rfl (And.intro hC ?_))
  intro z1 σ3 h2
  have f4 : ∀ k j : Int, ¬ (k ≤ 27 ∨ (29 ≤ k ∧ k ≤ 77)) → σ3 k j = σ k j := h2.2
  have h5 : CI σ3 := h2.1
  refine And.intro (by omega) ?_
  refine And.intro (by omega) ?_
  refine And.intro (by omega) ?_
  refine And.intro (by omega) ?_
  refine And.intro (by omega) ?_
  refine And.intro (by omega) ?_
  refine And.intro (by omega) ?_
  refine And.intro (by omega) ?_
  have p6 : MI σ3 := MI_fr hM (fun k j hk => (f4 _ _ (by omega)))
  refine Exists.intro (xs (i + 1), xs (i + 2), xs (i + 3), xs (i + 4)) (And.intro rfl (And.intro p6 ?_))
  intro z7 σ9 h8
  have f10 : ∀ k j : Int, ¬ ((93 ≤ k ∧ k ≤ 96) ∨ (99 ≤ k ∧ k ≤ 101)) → σ9 k j = σ3 k j := h8
  have p11 : CI σ9 := CI_fr h5 (fun k j hk => (f10 _ _ (by omega)))
  have p12 : MI σ9 := MI_fr p6 (fun k j hk => (f10 _ _ (by omega)))
  have p13 : REL σ9 := REL_fr hL (fun k j hk => ((f10 _ _ (by omega)).trans (f4 _ _ (by omega))))
  exact K _ p11 p12 p13
set_option maxHeartbeats 4000000 in
set_option maxRecDepth 100000 in
theorem lc_48 {X : Cx_t} {G : Gx_t} {Q : State → Prop} {cl sl : Nat} {ad : List Nat} {σ : Me_t} {n : Nat} {xs : Int → Int} {i : Int} (E : EN_ X G RL cL_law 4 (some .boolean)) (hR : X.2.2.2.1 = room_1) (hcl : cl ≤ X.2.2.2.1.cells) (hsl : sl ≤ X.2.2.2.1.slots) (hG : ∀ q, q ∈ ad → G.2.2.2 q) (SC : SOK_ X G Q cl sl ad SHS_ cL_law (some (n, xs))) (hn : n ≤ 3072) (hi : 0 ≤ i) (hin : i + 6 ≤ (n : Int)) (hC : CI σ) (hM : MI σ) (hL : REL σ) (K : ∀ τ : Me_t, CI τ → MI τ → REL τ → WP_ X G Q cl sl ad SHS_ τ 2805 [(4, 0), (10, 0), (42, 86), (0, i)] []) : WP_ X G Q cl sl ad SHS_ σ 2256 [(4, 0), (10, 0), (42, 86), (0, i)] [] := by
  have B := @bk_ X G Q cl sl ad SHS_ RL cL_law 4 (some .boolean) flL plL knL [(424, 5, TR_ as_G_X10_takes (rmI_) pre_G_X10_takes post_G_X10_takes), (430, 5, TR_ as_G_X11_takes_ (rmI_) pre_G_X11_takes_ post_G_X11_takes_)] 9 (fun _ _ => False) (some (n, xs)) kL_49 [] flL_ok plL_ok knL_ok eL_49 oL_49
    (List.forall_mem_cons.mpr ⟨cok_v (t := 0) (c := 10) (N := 14) (n := 4) (idx := 212) E (ct_G_X10_takes X.2.1) (by rw [hR]; decide) hcl hsl hG rfl rfl ⟨rfl, by decide, by decide, by decide⟩ (fun _ => ⟨_, _, rfl, rfl⟩) wl_L_212 wi_X10_takes ws_X10_takes wn_X10 wc_X10_takes, List.forall_mem_cons.mpr ⟨cok_v (t := 32) (c := 11) (N := 39) (n := 4) (idx := 215) E (ct_G_X11_takes_ X.2.1) (by rw [hR]; decide) hcl hsl hG rfl rfl ⟨rfl, by decide, by decide, by decide⟩ (fun _ => ⟨_, _, rfl, rfl⟩) wl_L_215 wi_X11_takes_ ws_X11_takes_ wn_X11 wc_X11_takes_, fun _ h => absurd h List.not_mem_nil⟩⟩) (fun _ _ _ _ _ h => h.elim) SC E
  refine B rfl ?_
  refine And.intro (by omega) ?_
  refine And.intro (by omega) ?_
  refine And.intro (by omega) ?_
  refine And.intro (by omega) ?_
  refine And.intro (by omega) ?_
  refine And.intro (by omega) ?_
  refine And.intro (by omega) ?_
  refine And.intro (by omega) ?_
  refine Exists.intro (xs (i + 1), xs (i + 2), xs (i + 3), xs (i + 4)) (And.intro rfl (And.intro hC ?_))
  intro z1 σ3 h2
  have f4 : ∀ k j : Int, ¬ (k ≤ 27 ∨ (29 ≤ k ∧ k ≤ 77)) → σ3 k j = σ k j := h2.2
  have h5 : CI σ3 := h2.1
  refine And.intro (by omega) ?_
  refine And.intro (by omega) ?_
  refine And.intro (by omega) ?_
  refine And.intro (by omega) ?_
  refine And.intro (by omega) ?_
  refine And.intro (by omega) ?_
  refine And.intro (by omega) ?_
  refine And.intro (by omega) ?_
  have p6 : MI σ3 := MI_fr hM (fun k j hk => (f4 _ _ (by omega)))
  refine Exists.intro (xs (i + 1), xs (i + 2), xs (i + 3), xs (i + 4)) (And.intro rfl (And.intro p6 ?_))
  intro z7 σ9 h8
  have f10 : ∀ k j : Int, ¬ ((93 ≤ k ∧ k ≤ 96) ∨ (99 ≤ k ∧ k ≤ 101)) → σ9 k j = σ3 k j := h8
  have p11 : CI σ9 := CI_fr h5 (fun k j hk => (f10 _ _ (by omega)))
  have p12 : MI σ9 := MI_fr p6 (fun k j hk => (f10 _ _ (by omega)))
  have p13 : REL σ9 := REL_fr hL (fun k j hk => ((f10 _ _ (by omega)).trans (f4 _ _ (by omega))))
  exact K _ p11 p12 p13
set_option maxHeartbeats 4000000 in
set_option maxRecDepth 100000 in
theorem lc_49 {X : Cx_t} {G : Gx_t} {Q : State → Prop} {cl sl : Nat} {ad : List Nat} {σ : Me_t} {n : Nat} {xs : Int → Int} {i : Int} (E : EN_ X G RL cL_law 4 (some .boolean)) (hR : X.2.2.2.1 = room_1) (hcl : cl ≤ X.2.2.2.1.cells) (hsl : sl ≤ X.2.2.2.1.slots) (hG : ∀ q, q ∈ ad → G.2.2.2 q) (SC : SOK_ X G Q cl sl ad SHS_ cL_law (some (n, xs))) (hn : n ≤ 3072) (hi : 0 ≤ i) (hin : i + 6 ≤ (n : Int)) (hC : CI σ) (hM : MI σ) (hL : REL σ) (K : ∀ τ : Me_t, CI τ → MI τ → REL τ → WP_ X G Q cl sl ad SHS_ τ 2805 [(4, 0), (10, 0), (42, 86), (0, i)] []) : WP_ X G Q cl sl ad SHS_ σ 2309 [(4, 0), (10, 0), (42, 86), (0, i)] [] := by
  have B := @bk_ X G Q cl sl ad SHS_ RL cL_law 4 (some .boolean) flL plL knL [(432, 5, TR_ as_G_X10_found (rmI_) pre_G_X10_found post_G_X10_found), (438, 5, TR_ as_G_X11_found (rmI_) pre_G_X11_found post_G_X11_found)] 9 (fun _ _ => False) (some (n, xs)) kL_50 [] flL_ok plL_ok knL_ok eL_50 oL_50
    (List.forall_mem_cons.mpr ⟨cok_v (t := 0) (c := 10) (N := 14) (n := 4) (idx := 216) E (ct_G_X10_found X.2.1) (by rw [hR]; decide) hcl hsl hG rfl rfl ⟨rfl, by decide, by decide, by decide⟩ (fun _ => ⟨_, _, rfl, rfl⟩) wl_L_216 wi_X10_found ws_X10_found wn_X10 wc_X10_found, List.forall_mem_cons.mpr ⟨cok_v (t := 32) (c := 11) (N := 39) (n := 4) (idx := 219) E (ct_G_X11_found X.2.1) (by rw [hR]; decide) hcl hsl hG rfl rfl ⟨rfl, by decide, by decide, by decide⟩ (fun _ => ⟨_, _, rfl, rfl⟩) wl_L_219 wi_X11_found ws_X11_found wn_X11 wc_X11_found, fun _ h => absurd h List.not_mem_nil⟩⟩) (fun _ _ _ _ _ h => h.elim) SC E
  refine B rfl ?_
  refine And.intro (by omega) ?_
  refine And.intro (by omega) ?_
  refine And.intro (by omega) ?_
  refine And.intro (by omega) ?_
  refine And.intro (by omega) ?_
  refine And.intro (by omega) ?_
  refine And.intro (by omega) ?_
  refine And.intro (by omega) ?_
  refine Exists.intro (xs (i + 1), xs (i + 2), xs (i + 3), xs (i + 4)) (And.intro rfl (And.intro hC ?_))
  intro z1 σ3 h2
  have f4 : ∀ k j : Int, ¬ (k ≤ 27 ∨ (29 ≤ k ∧ k ≤ 77)) → σ3 k j = σ k j := h2.2
  have h5 : CI σ3 := h2.1
  refine And.intro (by omega) ?_
  refine And.intro (by omega) ?_
  refine And.intro (by omega) ?_
  refine And.intro (by omega) ?_
  refine And.intro (by omega) ?_
  refine And.intro (by omega) ?_
  refine And.intro (by omega) ?_
  refine And.intro (by omega) ?_
  have p6 : MI σ3 := MI_fr hM (fun k j hk => (f4 _ _ (by omega)))
  refine Exists.intro (xs (i + 1), xs (i + 2), xs (i + 3), xs (i + 4)) (And.intro rfl (And.intro p6 ?_))
  intro z7 σ9 h8
  have f10 : ∀ k j : Int, ¬ (k = 87) → σ9 k j = σ3 k j := h8.2
  have h11 : MI σ9 := h8.1
  have p12 : CI σ9 := CI_fr h5 (fun k j hk => (f10 _ _ (by omega)))
  have p13 : REL σ9 := REL_fr hL (fun k j hk => ((f10 _ _ (by omega)).trans (f4 _ _ (by omega))))
  exact K _ p12 h11 p13
set_option maxHeartbeats 4000000 in
set_option maxRecDepth 100000 in
theorem lc_50 {X : Cx_t} {G : Gx_t} {Q : State → Prop} {cl sl : Nat} {ad : List Nat} {σ : Me_t} {n : Nat} {xs : Int → Int} {i : Int} (E : EN_ X G RL cL_law 4 (some .boolean)) (hR : X.2.2.2.1 = room_1) (hcl : cl ≤ X.2.2.2.1.cells) (hsl : sl ≤ X.2.2.2.1.slots) (hG : ∀ q, q ∈ ad → G.2.2.2 q) (SC : SOK_ X G Q cl sl ad SHS_ cL_law (some (n, xs))) (hn : n ≤ 3072) (hi : 0 ≤ i) (hin : i + 6 ≤ (n : Int)) (hC : CI σ) (hM : MI σ) (hL : REL σ) (K : ∀ τ : Me_t, CI τ → MI τ → REL τ → WP_ X G Q cl sl ad SHS_ τ 2805 [(4, 0), (10, 0), (42, 86), (0, i)] []) : WP_ X G Q cl sl ad SHS_ σ 2362 [(4, 0), (10, 0), (42, 86), (0, i)] [] := by
  have B := @bk_ X G Q cl sl ad SHS_ RL cL_law 4 (some .boolean) flL plL knL [(440, 4, TR_ as_G_X10_grant (rmI_) pre_G_X10_grant post_G_X10_grant), (446, 4, TR_ as_G_X11_grant (rmI_) pre_G_X11_grant post_G_X11_grant)] 9 (fun _ _ => False) (some (n, xs)) kL_51 [] flL_ok plL_ok knL_ok eL_51 oL_51
    (List.forall_mem_cons.mpr ⟨cok_v (t := 0) (c := 10) (N := 14) (n := 3) (idx := 220) E (ct_G_X10_grant X.2.1) (by rw [hR]; decide) hcl hsl hG rfl rfl ⟨rfl, by decide, by decide, by decide⟩ (fun _ => ⟨_, _, rfl, rfl⟩) wl_L_220 wi_X10_grant ws_X10_grant wn_X10 wc_X10_grant, List.forall_mem_cons.mpr ⟨cok_v (t := 32) (c := 11) (N := 39) (n := 3) (idx := 223) E (ct_G_X11_grant X.2.1) (by rw [hR]; decide) hcl hsl hG rfl rfl ⟨rfl, by decide, by decide, by decide⟩ (fun _ => ⟨_, _, rfl, rfl⟩) wl_L_223 wi_X11_grant ws_X11_grant wn_X11 wc_X11_grant, fun _ h => absurd h List.not_mem_nil⟩⟩) (fun _ _ _ _ _ h => h.elim) SC E
  refine B rfl ?_
  refine And.intro (by omega) ?_
  refine And.intro (by omega) ?_
  refine And.intro (by omega) ?_
  refine And.intro (by omega) ?_
  refine And.intro (by omega) ?_
  refine And.intro (by omega) ?_
  refine Exists.intro (xs (i + 1), xs (i + 2), xs (i + 3)) (And.intro rfl (And.intro hC ?_))
  intro z1 σ3 h2
  have f4 : ∀ k j : Int, ¬ (k ≤ 27 ∨ (29 ≤ k ∧ k ≤ 77)) → σ3 k j = σ k j := h2.2
  have h5 : CI σ3 := h2.1
  refine And.intro (by omega) ?_
  refine And.intro (by omega) ?_
  refine And.intro (by omega) ?_
  refine And.intro (by omega) ?_
  refine And.intro (by omega) ?_
  refine And.intro (by omega) ?_
  have p6 : MI σ3 := MI_fr hM (fun k j hk => (f4 _ _ (by omega)))
  refine Exists.intro (xs (i + 1), xs (i + 2), xs (i + 3)) (And.intro rfl (And.intro p6 ?_))
  intro z7 σ9 h8
  have f10 : ∀ k j : Int, ¬ (k = 87) → σ9 k j = σ3 k j := h8.2
  have h11 : MI σ9 := h8.1
  have p12 : CI σ9 := CI_fr h5 (fun k j hk => (f10 _ _ (by omega)))
  have p13 : REL σ9 := REL_fr hL (fun k j hk => ((f10 _ _ (by omega)).trans (f4 _ _ (by omega))))
  exact K _ p12 h11 p13
set_option maxHeartbeats 4000000 in
set_option maxRecDepth 100000 in
theorem lc_51 {X : Cx_t} {G : Gx_t} {Q : State → Prop} {cl sl : Nat} {ad : List Nat} {σ : Me_t} {n : Nat} {xs : Int → Int} {i : Int} (E : EN_ X G RL cL_law 4 (some .boolean)) (hR : X.2.2.2.1 = room_1) (hcl : cl ≤ X.2.2.2.1.cells) (hsl : sl ≤ X.2.2.2.1.slots) (hG : ∀ q, q ∈ ad → G.2.2.2 q) (SC : SOK_ X G Q cl sl ad SHS_ cL_law (some (n, xs))) (hn : n ≤ 3072) (hi : 0 ≤ i) (hin : i + 6 ≤ (n : Int)) (hC : CI σ) (hM : MI σ) (hL : REL σ) (K : ∀ τ : Me_t, CI τ → MI τ → REL τ → WP_ X G Q cl sl ad SHS_ τ 2805 [(4, 0), (10, 0), (42, 86), (0, i)] []) : WP_ X G Q cl sl ad SHS_ σ 2405 [(4, 0), (10, 0), (42, 86), (0, i)] [] := by
  have B := @bk_ X G Q cl sl ad SHS_ RL cL_law 4 (some .boolean) flL plL knL [(448, 2, TR_ as_G_X10_ends (rmI_) pre_G_X10_ends post_G_X10_ends), (454, 2, TR_ as_G_X11_ends (rmI_) pre_G_X11_ends post_G_X11_ends)] 9 (fun _ _ => False) (some (n, xs)) kL_52 [] flL_ok plL_ok knL_ok eL_52 oL_52
    (List.forall_mem_cons.mpr ⟨cok_v (t := 0) (c := 10) (N := 14) (n := 1) (idx := 224) E (ct_G_X10_ends X.2.1) (by rw [hR]; decide) hcl hsl hG rfl rfl ⟨rfl, by decide, by decide, by decide⟩ (fun _ => ⟨_, _, rfl, rfl⟩) wl_L_224 wi_X10_ends ws_X10_ends wn_X10 wc_X10_ends, List.forall_mem_cons.mpr ⟨cok_v (t := 32) (c := 11) (N := 39) (n := 1) (idx := 227) E (ct_G_X11_ends X.2.1) (by rw [hR]; decide) hcl hsl hG rfl rfl ⟨rfl, by decide, by decide, by decide⟩ (fun _ => ⟨_, _, rfl, rfl⟩) wl_L_227 wi_X11_ends ws_X11_ends wn_X11 wc_X11_ends, fun _ h => absurd h List.not_mem_nil⟩⟩) (fun _ _ _ _ _ h => h.elim) SC E
  refine B rfl ?_
  refine And.intro (by omega) ?_
  refine And.intro (by omega) ?_
  refine Exists.intro (xs (i + 1)) (And.intro rfl (And.intro hC ?_))
  intro z1 σ3 h2
  have f4 : ∀ k j : Int, ¬ (k ≤ 27 ∨ (29 ≤ k ∧ k ≤ 77)) → σ3 k j = σ k j := h2.2
  have h5 : CI σ3 := h2.1
  refine And.intro (by omega) ?_
  refine And.intro (by omega) ?_
  have p6 : MI σ3 := MI_fr hM (fun k j hk => (f4 _ _ (by omega)))
  refine Exists.intro (xs (i + 1)) (And.intro rfl (And.intro p6 ?_))
  intro z7 σ9 h8
  have f10 : ∀ k j : Int, ¬ (k = 87) → σ9 k j = σ3 k j := h8.2
  have h11 : MI σ9 := h8.1
  have p12 : CI σ9 := CI_fr h5 (fun k j hk => (f10 _ _ (by omega)))
  have p13 : REL σ9 := REL_fr hL (fun k j hk => ((f10 _ _ (by omega)).trans (f4 _ _ (by omega))))
  exact K _ p12 h11 p13
set_option maxHeartbeats 4000000 in
set_option maxRecDepth 100000 in
theorem lc_52 {X : Cx_t} {G : Gx_t} {Q : State → Prop} {cl sl : Nat} {ad : List Nat} {σ : Me_t} {n : Nat} {xs : Int → Int} {i : Int} (E : EN_ X G RL cL_law 4 (some .boolean)) (hR : X.2.2.2.1 = room_1) (hcl : cl ≤ X.2.2.2.1.cells) (hsl : sl ≤ X.2.2.2.1.slots) (hG : ∀ q, q ∈ ad → G.2.2.2 q) (SC : SOK_ X G Q cl sl ad SHS_ cL_law (some (n, xs))) (hn : n ≤ 3072) (hi : 0 ≤ i) (hin : i + 6 ≤ (n : Int)) (hC : CI σ) (hM : MI σ) (hL : REL σ) (K : ∀ τ : Me_t, CI τ → MI τ → REL τ → WP_ X G Q cl sl ad SHS_ τ 2805 [(4, 0), (10, 0), (42, 86), (0, i)] []) : WP_ X G Q cl sl ad SHS_ σ 2428 [(4, 0), (10, 0), (42, 86), (0, i)] [] := by
  have B := @bk_ X G Q cl sl ad SHS_ RL cL_law 4 (some .boolean) flL plL knL [(456, 1, TR_ as_G_X10_undo (rmI_) pre_G_X10_undo post_G_X10_undo), (462, 1, TR_ as_G_X11_undo (rmI_) pre_G_X11_undo post_G_X11_undo)] 9 (fun _ _ => False) (some (n, xs)) kL_53 [] flL_ok plL_ok knL_ok eL_53 oL_53
    (List.forall_mem_cons.mpr ⟨cok_v (t := 0) (c := 10) (N := 14) (n := 0) (idx := 228) E (ct_G_X10_undo X.2.1) (by rw [hR]; decide) hcl hsl hG rfl rfl ⟨rfl, by decide, by decide, by decide⟩ (fun _ => ⟨_, _, rfl, rfl⟩) wl_L_228 wi_X10_undo ws_X10_undo wn_X10 wc_X10_undo, List.forall_mem_cons.mpr ⟨cok_v (t := 32) (c := 11) (N := 39) (n := 0) (idx := 231) E (ct_G_X11_undo X.2.1) (by rw [hR]; decide) hcl hsl hG rfl rfl ⟨rfl, by decide, by decide, by decide⟩ (fun _ => ⟨_, _, rfl, rfl⟩) wl_L_231 wi_X11_undo ws_X11_undo wn_X11 wc_X11_undo, fun _ h => absurd h List.not_mem_nil⟩⟩) (fun _ _ _ _ _ h => h.elim) SC E
  refine B rfl ?_
  refine Exists.intro () (And.intro rfl (And.intro hC ?_))
  intro z1 σ3 h2
  have f4 : ∀ k j : Int, ¬ (k ≤ 27 ∨ (29 ≤ k ∧ k ≤ 77)) → σ3 k j = σ k j := h2.2
  have h5 : CI σ3 := h2.1
  have p6 : MI σ3 := MI_fr hM (fun k j hk => (f4 _ _ (by omega)))
  refine Exists.intro () (And.intro rfl (And.intro p6 ?_))
  intro z7 σ9 h8
  have f10 : ∀ k j : Int, ¬ (k = 87) → σ9 k j = σ3 k j := h8.2
  have h11 : MI σ9 := h8.1
  have p12 : CI σ9 := CI_fr h5 (fun k j hk => (f10 _ _ (by omega)))
  have p13 : REL σ9 := REL_fr hL (fun k j hk => ((f10 _ _ (by omega)).trans (f4 _ _ (by omega))))
  exact K _ p12 h11 p13
set_option maxHeartbeats 4000000 in
set_option maxRecDepth 100000 in
theorem lc_53 {X : Cx_t} {G : Gx_t} {Q : State → Prop} {cl sl : Nat} {ad : List Nat} {σ : Me_t} {n : Nat} {xs : Int → Int} {i : Int} (E : EN_ X G RL cL_law 4 (some .boolean)) (hR : X.2.2.2.1 = room_1) (hcl : cl ≤ X.2.2.2.1.cells) (hsl : sl ≤ X.2.2.2.1.slots) (hG : ∀ q, q ∈ ad → G.2.2.2 q) (SC : SOK_ X G Q cl sl ad SHS_ cL_law (some (n, xs))) (hn : n ≤ 3072) (hi : 0 ≤ i) (hin : i + 6 ≤ (n : Int)) (hC : CI σ) (hM : MI σ) (hL : REL σ) (K : ∀ τ : Me_t, CI τ → MI τ → REL τ → WP_ X G Q cl sl ad SHS_ τ 2805 [(4, 0), (10, 0), (42, 86), (0, i)] []) : WP_ X G Q cl sl ad SHS_ σ 2441 [(4, 0), (10, 0), (42, 86), (0, i)] [] := by
  have B := @bk_ X G Q cl sl ad SHS_ RL cL_law 4 (some .boolean) flL plL knL [(464, 5, TR_ as_G_X10_drawn (rmI_) pre_G_X10_drawn post_G_X10_drawn), (470, 5, TR_ as_G_X11_drawn (rmI_) pre_G_X11_drawn post_G_X11_drawn)] 9 (fun _ _ => False) (some (n, xs)) kL_54 [] flL_ok plL_ok knL_ok eL_54 oL_54
    (List.forall_mem_cons.mpr ⟨cok_v (t := 0) (c := 10) (N := 14) (n := 4) (idx := 232) E (ct_G_X10_drawn X.2.1) (by rw [hR]; decide) hcl hsl hG rfl rfl ⟨rfl, by decide, by decide, by decide⟩ (fun _ => ⟨_, _, rfl, rfl⟩) wl_L_232 wi_X10_drawn ws_X10_drawn wn_X10 wc_X10_drawn, List.forall_mem_cons.mpr ⟨cok_v (t := 32) (c := 11) (N := 39) (n := 4) (idx := 235) E (ct_G_X11_drawn X.2.1) (by rw [hR]; decide) hcl hsl hG rfl rfl ⟨rfl, by decide, by decide, by decide⟩ (fun _ => ⟨_, _, rfl, rfl⟩) wl_L_235 wi_X11_drawn ws_X11_drawn wn_X11 wc_X11_drawn, fun _ h => absurd h List.not_mem_nil⟩⟩) (fun _ _ _ _ _ h => h.elim) SC E
  refine B rfl ?_
  refine And.intro (by omega) ?_
  refine And.intro (by omega) ?_
  refine And.intro (by omega) ?_
  refine And.intro (by omega) ?_
  refine And.intro (by omega) ?_
  refine And.intro (by omega) ?_
  refine And.intro (by omega) ?_
  refine And.intro (by omega) ?_
  refine Exists.intro (xs (i + 1), xs (i + 2), xs (i + 3), xs (i + 4)) (And.intro rfl (And.intro hC ?_))
  intro z1 σ3 h2
  have f4 : ∀ k j : Int, ¬ (k ≤ 27 ∨ (29 ≤ k ∧ k ≤ 77)) → σ3 k j = σ k j := h2.2
  have h5 : CI σ3 := h2.1
  refine And.intro (by omega) ?_
  refine And.intro (by omega) ?_
  refine And.intro (by omega) ?_
  refine And.intro (by omega) ?_
  refine And.intro (by omega) ?_
  refine And.intro (by omega) ?_
  refine And.intro (by omega) ?_
  refine And.intro (by omega) ?_
  have p6 : MI σ3 := MI_fr hM (fun k j hk => (f4 _ _ (by omega)))
  refine Exists.intro (xs (i + 1), xs (i + 2), xs (i + 3), xs (i + 4)) (And.intro rfl (And.intro p6 ?_))
  intro z7 σ9 h8
  have f10 : ∀ k j : Int, ¬ (k = 86 ∨ (93 ≤ k ∧ k ≤ 96)) → σ9 k j = σ3 k j := h8
  have p11 : CI σ9 := CI_fr h5 (fun k j hk => (f10 _ _ (by omega)))
  have p12 : MI σ9 := MI_fr p6 (fun k j hk => (f10 _ _ (by omega)))
  have p13 : REL σ9 := REL_fr hL (fun k j hk => ((f10 _ _ (by omega)).trans (f4 _ _ (by omega))))
  exact K _ p11 p12 p13
set_option maxHeartbeats 4000000 in
set_option maxRecDepth 100000 in
theorem lc_54 {X : Cx_t} {G : Gx_t} {Q : State → Prop} {cl sl : Nat} {ad : List Nat} {σ : Me_t} {n : Nat} {xs : Int → Int} {i : Int} (E : EN_ X G RL cL_law 4 (some .boolean)) (hR : X.2.2.2.1 = room_1) (hcl : cl ≤ X.2.2.2.1.cells) (hsl : sl ≤ X.2.2.2.1.slots) (hG : ∀ q, q ∈ ad → G.2.2.2 q) (SC : SOK_ X G Q cl sl ad SHS_ cL_law (some (n, xs))) (hn : n ≤ 3072) (hi : 0 ≤ i) (hin : i + 6 ≤ (n : Int)) (hC : CI σ) (hM : MI σ) (hL : REL σ) (K : ∀ τ : Me_t, CI τ → MI τ → REL τ → WP_ X G Q cl sl ad SHS_ τ 2805 [(4, 0), (10, 0), (42, 86), (0, i)] []) : WP_ X G Q cl sl ad SHS_ σ 2494 [(4, 0), (10, 0), (42, 86), (0, i)] [] := by
  have B := @bk_ X G Q cl sl ad SHS_ RL cL_law 4 (some .boolean) flL plL knL [(472, 6, TR_ as_G_X10_luck (rmI_) pre_G_X10_luck post_G_X10_luck), (478, 6, TR_ as_G_X11_luck (rmI_) pre_G_X11_luck post_G_X11_luck)] 9 (fun _ _ => False) (some (n, xs)) kL_55 [] flL_ok plL_ok knL_ok eL_55 oL_55
    (List.forall_mem_cons.mpr ⟨cok_v (t := 0) (c := 10) (N := 14) (n := 5) (idx := 236) E (ct_G_X10_luck X.2.1) (by rw [hR]; decide) hcl hsl hG rfl rfl ⟨rfl, by decide, by decide, by decide⟩ (fun _ => ⟨_, _, rfl, rfl⟩) wl_L_236 wi_X10_luck ws_X10_luck wn_X10 wc_X10_luck, List.forall_mem_cons.mpr ⟨cok_v (t := 32) (c := 11) (N := 39) (n := 5) (idx := 239) E (ct_G_X11_luck X.2.1) (by rw [hR]; decide) hcl hsl hG rfl rfl ⟨rfl, by decide, by decide, by decide⟩ (fun _ => ⟨_, _, rfl, rfl⟩) wl_L_239 wi_X11_luck ws_X11_luck wn_X11 wc_X11_luck, fun _ h => absurd h List.not_mem_nil⟩⟩) (fun _ _ _ _ _ h => h.elim) SC E
  refine B rfl ?_
  refine And.intro (by omega) ?_
  refine And.intro (by omega) ?_
  refine And.intro (by omega) ?_
  refine And.intro (by omega) ?_
  refine And.intro (by omega) ?_
  refine And.intro (by omega) ?_
  refine And.intro (by omega) ?_
  refine And.intro (by omega) ?_
  refine And.intro (by omega) ?_
  refine And.intro (by omega) ?_
  refine Exists.intro (xs (i + 1), xs (i + 2), xs (i + 3), xs (i + 4), xs (i + 5)) (And.intro rfl (And.intro hC ?_))
  intro z1 σ3 h2
  have f4 : ∀ k j : Int, ¬ (k ≤ 27 ∨ (29 ≤ k ∧ k ≤ 77)) → σ3 k j = σ k j := h2.2
  have h5 : CI σ3 := h2.1
  refine And.intro (by omega) ?_
  refine And.intro (by omega) ?_
  refine And.intro (by omega) ?_
  refine And.intro (by omega) ?_
  refine And.intro (by omega) ?_
  refine And.intro (by omega) ?_
  refine And.intro (by omega) ?_
  refine And.intro (by omega) ?_
  refine And.intro (by omega) ?_
  refine And.intro (by omega) ?_
  have p6 : MI σ3 := MI_fr hM (fun k j hk => (f4 _ _ (by omega)))
  refine Exists.intro (xs (i + 1), xs (i + 2), xs (i + 3), xs (i + 4), xs (i + 5)) (And.intro rfl (And.intro p6 ?_))
  intro z7 σ9 h8
  have f10 : ∀ k j : Int, ¬ (k = 86 ∨ (93 ≤ k ∧ k ≤ 96)) → σ9 k j = σ3 k j := h8
  have p11 : CI σ9 := CI_fr h5 (fun k j hk => (f10 _ _ (by omega)))
  have p12 : MI σ9 := MI_fr p6 (fun k j hk => (f10 _ _ (by omega)))
  have p13 : REL σ9 := REL_fr hL (fun k j hk => ((f10 _ _ (by omega)).trans (f4 _ _ (by omega))))
  exact K _ p11 p12 p13
set_option maxHeartbeats 4000000 in
set_option maxRecDepth 100000 in
theorem lc_55 {X : Cx_t} {G : Gx_t} {Q : State → Prop} {cl sl : Nat} {ad : List Nat} {σ : Me_t} {n : Nat} {xs : Int → Int} {i : Int} (E : EN_ X G RL cL_law 4 (some .boolean)) (hR : X.2.2.2.1 = room_1) (hcl : cl ≤ X.2.2.2.1.cells) (hsl : sl ≤ X.2.2.2.1.slots) (hG : ∀ q, q ∈ ad → G.2.2.2 q) (SC : SOK_ X G Q cl sl ad SHS_ cL_law (some (n, xs))) (hn : n ≤ 3072) (hi : 0 ≤ i) (hin : i + 6 ≤ (n : Int)) (hC : CI σ) (hM : MI σ) (hL : REL σ) (K : ∀ τ : Me_t, CI τ → MI τ → REL τ → WP_ X G Q cl sl ad SHS_ τ 2805 [(4, 0), (10, 0), (42, 86), (0, i)] []) : WP_ X G Q cl sl ad SHS_ σ 2557 [(4, 0), (10, 0), (42, 86), (0, i)] [] := by
  have B := @bk_ X G Q cl sl ad SHS_ RL cL_law 4 (some .boolean) flL plL knL [(480, 2, TR_ as_G_X10_count (rmI_) pre_G_X10_count post_G_X10_count), (486, 2, TR_ as_G_X11_count (rmI_) pre_G_X11_count post_G_X11_count)] 9 (fun _ _ => False) (some (n, xs)) kL_56 [] flL_ok plL_ok knL_ok eL_56 oL_56
    (List.forall_mem_cons.mpr ⟨cok_v (t := 0) (c := 10) (N := 14) (n := 1) (idx := 240) E (ct_G_X10_count X.2.1) (by rw [hR]; decide) hcl hsl hG rfl rfl ⟨rfl, by decide, by decide, by decide⟩ (fun _ => ⟨_, _, rfl, rfl⟩) wl_L_240 wi_X10_count ws_X10_count wn_X10 wc_X10_count, List.forall_mem_cons.mpr ⟨cok_v (t := 32) (c := 11) (N := 39) (n := 1) (idx := 243) E (ct_G_X11_count X.2.1) (by rw [hR]; decide) hcl hsl hG rfl rfl ⟨rfl, by decide, by decide, by decide⟩ (fun _ => ⟨_, _, rfl, rfl⟩) wl_L_243 wi_X11_count ws_X11_count wn_X11 wc_X11_count, fun _ h => absurd h List.not_mem_nil⟩⟩) (fun _ _ _ _ _ h => h.elim) SC E
  refine B rfl ?_
  refine And.intro (by omega) ?_
  refine And.intro (by omega) ?_
  refine Exists.intro (xs (i + 1)) (And.intro rfl (And.intro hC ?_))
  intro z1 σ3 h2
  have f4 : ∀ k j : Int, ¬ (k ≤ 27 ∨ (29 ≤ k ∧ k ≤ 77)) → σ3 k j = σ k j := h2.2
  have h5 : CI σ3 := h2.1
  refine And.intro (by omega) ?_
  refine And.intro (by omega) ?_
  have p6 : MI σ3 := MI_fr hM (fun k j hk => (f4 _ _ (by omega)))
  refine Exists.intro (xs (i + 1)) (And.intro rfl (And.intro p6 ?_))
  rintro z7 m_ h8
  obtain rfl : σ3 = m_ := h8
  have p9 : REL σ3 := REL_fr hL (fun k j hk => (f4 _ _ (by omega)))
  exact K _ h5 p6 p9
set_option maxHeartbeats 4000000 in
set_option maxRecDepth 100000 in
theorem lc_56 {X : Cx_t} {G : Gx_t} {Q : State → Prop} {cl sl : Nat} {ad : List Nat} {σ : Me_t} {n : Nat} {xs : Int → Int} {i : Int} (E : EN_ X G RL cL_law 4 (some .boolean)) (hR : X.2.2.2.1 = room_1) (hcl : cl ≤ X.2.2.2.1.cells) (hsl : sl ≤ X.2.2.2.1.slots) (hG : ∀ q, q ∈ ad → G.2.2.2 q) (SC : SOK_ X G Q cl sl ad SHS_ cL_law (some (n, xs))) (hn : n ≤ 3072) (hi : 0 ≤ i) (hin : i + 6 ≤ (n : Int)) (hC : CI σ) (hM : MI σ) (hL : REL σ) (K : ∀ τ : Me_t, CI τ → MI τ → REL τ → WP_ X G Q cl sl ad SHS_ τ 2805 [(4, 0), (10, 0), (42, 86), (0, i)] []) : WP_ X G Q cl sl ad SHS_ σ 2580 [(4, 0), (10, 0), (42, 86), (0, i)] [] := by
  have B := @bk_ X G Q cl sl ad SHS_ RL cL_law 4 (some .boolean) flL plL knL [(488, 2, TR_ as_G_X10_image (rmI_) pre_G_X10_image post_G_X10_image), (494, 2, TR_ as_G_X11_image (rmI_) pre_G_X11_image post_G_X11_image)] 9 (fun _ _ => False) (some (n, xs)) kL_57 [] flL_ok plL_ok knL_ok eL_57 oL_57
    (List.forall_mem_cons.mpr ⟨cok_v (t := 0) (c := 10) (N := 14) (n := 1) (idx := 244) E (ct_G_X10_image X.2.1) (by rw [hR]; decide) hcl hsl hG rfl rfl ⟨rfl, by decide, by decide, by decide⟩ (fun _ => ⟨_, _, rfl, rfl⟩) wl_L_244 wi_X10_image ws_X10_image wn_X10 wc_X10_image, List.forall_mem_cons.mpr ⟨cok_v (t := 32) (c := 11) (N := 39) (n := 1) (idx := 247) E (ct_G_X11_image X.2.1) (by rw [hR]; decide) hcl hsl hG rfl rfl ⟨rfl, by decide, by decide, by decide⟩ (fun _ => ⟨_, _, rfl, rfl⟩) wl_L_247 wi_X11_image ws_X11_image wn_X11 wc_X11_image, fun _ h => absurd h List.not_mem_nil⟩⟩) (fun _ _ _ _ _ h => h.elim) SC E
  refine B rfl ?_
  refine And.intro (by omega) ?_
  refine And.intro (by omega) ?_
  refine Exists.intro (xs (i + 1)) (And.intro rfl (And.intro hC ?_))
  intro z1 σ3 h2
  have f4 : ∀ k j : Int, ¬ (k ≤ 77) → σ3 k j = σ k j := h2.2.2.2.2
  have h5 : CI σ3 := h2.1
  have h6 : (0 ≤ (xs (i + 1)) ∧ (xs (i + 1)) ≤ 2 → z1 = 0) ∧ (¬ (0 ≤ (xs (i + 1)) ∧ (xs (i + 1)) ≤ 2) → z1 = -2) := h2.2.1
  have h7 : 0 ≤ (xs (i + 1)) ∧ (xs (i + 1)) ≤ 2 → σ3 28 (xs (i + 1)) = 1 := h2.2.2.1
  have h8 : ∀ j : Int, j ≠ (xs (i + 1)) → σ3 28 j = σ 28 j := h2.2.2.2.1
  refine And.intro (by omega) ?_
  refine And.intro (by omega) ?_
  have p9 : MI σ3 := MI_fr hM (fun k j hk => (show σ3 k j = σ k j from by first | exact f4 _ _ (by omega) | exact h8 _ (by omega) | (by_cases hka : k = 28; (rw [hka]; exact h8 _ (by omega)); exact f4 _ _ (by omega))))
  refine Exists.intro (xs (i + 1)) (And.intro rfl (And.intro p9 ?_))
  intro z10 σ12 h11
  have f13 : ∀ k j : Int, ¬ (k = 88 ∨ k = 89) → σ12 k j = σ3 k j := h11.2.2.2.2
  have h14 : MI σ12 := h11.1
  have h15 : (0 ≤ (xs (i + 1)) ∧ (xs (i + 1)) ≤ 2 → z10 = 0) ∧ (¬ (0 ≤ (xs (i + 1)) ∧ (xs (i + 1)) ≤ 2) → z10 = -2) := h11.2.1
  have h16 : 0 ≤ (xs (i + 1)) ∧ (xs (i + 1)) ≤ 2 → σ12 89 (xs (i + 1)) = 1 := h11.2.2.1
  have h17 : ∀ j : Int, j ≠ (xs (i + 1)) → σ12 89 j = σ3 89 j := h11.2.2.2.1
  have rl : REL σ12 := REL_img (a := xs (i + 1)) hL h2.2.2.1 h2.2.2.2.1 h11.2.2.1 h11.2.2.2.1 h2.2.2.2.2 h11.2.2.2.2
  have p18 : CI σ12 := CI_fr h5 (fun k j hk => (show σ12 k j = σ3 k j from by first | exact f13 _ _ (by omega) | exact h17 _ (by omega) | (by_cases hka : k = 89; (rw [hka]; exact h17 _ (by omega)); exact f13 _ _ (by omega))))
  exact K _ p18 h14 rl
set_option maxHeartbeats 4000000 in
set_option maxRecDepth 100000 in
theorem lc_57 {X : Cx_t} {G : Gx_t} {Q : State → Prop} {cl sl : Nat} {ad : List Nat} {σ : Me_t} {n : Nat} {xs : Int → Int} {i : Int} (E : EN_ X G RL cL_law 4 (some .boolean)) (hR : X.2.2.2.1 = room_1) (hcl : cl ≤ X.2.2.2.1.cells) (hsl : sl ≤ X.2.2.2.1.slots) (hG : ∀ q, q ∈ ad → G.2.2.2 q) (SC : SOK_ X G Q cl sl ad SHS_ cL_law (some (n, xs))) (hn : n ≤ 3072) (hi : 0 ≤ i) (hin : i + 6 ≤ (n : Int)) (hC : CI σ) (hM : MI σ) (hL : REL σ) (K : ∀ τ : Me_t, CI τ → MI τ → REL τ → WP_ X G Q cl sl ad SHS_ τ 2805 [(4, 0), (10, 0), (42, 86), (0, i)] []) : WP_ X G Q cl sl ad SHS_ σ 2603 [(4, 0), (10, 0), (42, 86), (0, i)] [] := by
  have B := @bk_ X G Q cl sl ad SHS_ RL cL_law 4 (some .boolean) flL plL knL [(496, 2, TR_ as_G_X10_back (rmI_) pre_G_X10_back post_G_X10_back), (502, 2, TR_ as_G_X11_back (rmI_) pre_G_X11_back post_G_X11_back)] 9 (fun _ _ => False) (some (n, xs)) kL_58 [] flL_ok plL_ok knL_ok eL_58 oL_58
    (List.forall_mem_cons.mpr ⟨cok_v (t := 0) (c := 10) (N := 14) (n := 1) (idx := 248) E (ct_G_X10_back X.2.1) (by rw [hR]; decide) hcl hsl hG rfl rfl ⟨rfl, by decide, by decide, by decide⟩ (fun _ => ⟨_, _, rfl, rfl⟩) wl_L_248 wi_X10_back ws_X10_back wn_X10 wc_X10_back, List.forall_mem_cons.mpr ⟨cok_v (t := 32) (c := 11) (N := 39) (n := 1) (idx := 251) E (ct_G_X11_back X.2.1) (by rw [hR]; decide) hcl hsl hG rfl rfl ⟨rfl, by decide, by decide, by decide⟩ (fun _ => ⟨_, _, rfl, rfl⟩) wl_L_251 wi_X11_back ws_X11_back wn_X11 wc_X11_back, fun _ h => absurd h List.not_mem_nil⟩⟩) (fun _ _ _ _ _ h => h.elim) SC E
  refine B rfl ?_
  refine And.intro (by omega) ?_
  refine And.intro (by omega) ?_
  refine Exists.intro (xs (i + 1)) (And.intro rfl (And.intro hC ?_))
  intro z1 σ3 h2
  have f4 : ∀ k j : Int, ¬ (k ≤ 27 ∨ (29 ≤ k ∧ k ≤ 77)) → σ3 k j = σ k j := h2.2.2
  have h5 : CI σ3 := h2.1
  have h6 : (¬ (0 ≤ (xs (i + 1)) ∧ (xs (i + 1)) ≤ 2) → z1 = -2) ∧ (0 ≤ (xs (i + 1)) ∧ (xs (i + 1)) ≤ 2 ∧ σ 28 (xs (i + 1)) = 0 → z1 = -6) ∧ (0 ≤ (xs (i + 1)) ∧ (xs (i + 1)) ≤ 2 ∧ σ 28 (xs (i + 1)) ≠ 0 → z1 = 0) := h2.2.1
  refine And.intro (by omega) ?_
  refine And.intro (by omega) ?_
  have p7 : MI σ3 := MI_fr hM (fun k j hk => (f4 _ _ (by omega)))
  refine Exists.intro (xs (i + 1)) (And.intro rfl (And.intro p7 ?_))
  intro z8 σ10 h9
  have f11 : ∀ k j : Int, ¬ (k = 87) → σ10 k j = σ3 k j := h9.2.2
  have h12 : MI σ10 := h9.1
  have h13 : (¬ (0 ≤ (xs (i + 1)) ∧ (xs (i + 1)) ≤ 2) → z8 = -2) ∧ (0 ≤ (xs (i + 1)) ∧ (xs (i + 1)) ≤ 2 ∧ σ3 89 (xs (i + 1)) = 0 → z8 = -6) ∧ (0 ≤ (xs (i + 1)) ∧ (xs (i + 1)) ≤ 2 ∧ σ3 89 (xs (i + 1)) ≠ 0 → z8 = 0) := h9.2.1
  have p14 : CI σ10 := CI_fr h5 (fun k j hk => (f11 _ _ (by omega)))
  have p15 : REL σ10 := REL_fr hL (fun k j hk => ((f11 _ _ (by omega)).trans (f4 _ _ (by omega))))
  exact K _ p14 h12 p15
set_option maxHeartbeats 4000000 in
set_option maxRecDepth 100000 in
theorem lc_58 {X : Cx_t} {G : Gx_t} {Q : State → Prop} {cl sl : Nat} {ad : List Nat} {σ : Me_t} {n : Nat} {xs : Int → Int} {i : Int} (E : EN_ X G RL cL_law 4 (some .boolean)) (hR : X.2.2.2.1 = room_1) (hcl : cl ≤ X.2.2.2.1.cells) (hsl : sl ≤ X.2.2.2.1.slots) (hG : ∀ q, q ∈ ad → G.2.2.2 q) (SC : SOK_ X G Q cl sl ad SHS_ cL_law (some (n, xs))) (hn : n ≤ 3072) (hi : 0 ≤ i) (hin : i + 6 ≤ (n : Int)) (hC : CI σ) (hM : MI σ) (hL : REL σ) (K : ∀ τ : Me_t, CI τ → MI τ → REL τ → WP_ X G Q cl sl ad SHS_ τ 2805 [(4, 0), (10, 0), (42, 86), (0, i)] []) : WP_ X G Q cl sl ad SHS_ σ 2626 [(4, 0), (10, 0), (42, 86), (0, i)] [] := by
  have B := @bk_ X G Q cl sl ad SHS_ RL cL_law 4 (some .boolean) flL plL knL [(504, 4, TR_ as_G_X10_row (rmI_) pre_G_X10_row post_G_X10_row), (510, 4, TR_ as_G_X11_row (rmI_) pre_G_X11_row post_G_X11_row)] 9 (fun _ _ => False) (some (n, xs)) kL_59 [] flL_ok plL_ok knL_ok eL_59 oL_59
    (List.forall_mem_cons.mpr ⟨cok_v (t := 0) (c := 10) (N := 14) (n := 3) (idx := 252) E (ct_G_X10_row X.2.1) (by rw [hR]; decide) hcl hsl hG rfl rfl ⟨rfl, by decide, by decide, by decide⟩ (fun _ => ⟨_, _, rfl, rfl⟩) wl_L_252 wi_X10_row ws_X10_row wn_X10 wc_X10_row, List.forall_mem_cons.mpr ⟨cok_v (t := 32) (c := 11) (N := 39) (n := 3) (idx := 255) E (ct_G_X11_row X.2.1) (by rw [hR]; decide) hcl hsl hG rfl rfl ⟨rfl, by decide, by decide, by decide⟩ (fun _ => ⟨_, _, rfl, rfl⟩) wl_L_255 wi_X11_row ws_X11_row wn_X11 wc_X11_row, fun _ h => absurd h List.not_mem_nil⟩⟩) (fun _ _ _ _ _ h => h.elim) SC E
  refine B rfl ?_
  refine And.intro (by omega) ?_
  refine And.intro (by omega) ?_
  refine And.intro (by omega) ?_
  refine And.intro (by omega) ?_
  refine And.intro (by omega) ?_
  refine And.intro (by omega) ?_
  refine Exists.intro (xs (i + 1), xs (i + 2), xs (i + 3)) (And.intro rfl (And.intro hC ?_))
  intro z1 σ3 h2
  have f4 : ∀ k j : Int, ¬ (k = 78 + 2 * (xs (i + 1)) ∨ k = 79 + 2 * (xs (i + 1))) → σ3 k j = σ k j := h2.2.2.2.2
  have h5 : CI σ3 := h2.1
  have h6 : (¬ ((0 ≤ (xs (i + 1)) ∧ (xs (i + 1)) ≤ 3) ∧ (0 ≤ (xs (i + 2)) ∧ (xs (i + 2)) ≤ 3) ∧ (xs (i + 3)) ≤ 60) → z1 = -2) ∧ ((0 ≤ (xs (i + 1)) ∧ (xs (i + 1)) ≤ 3) ∧ (0 ≤ (xs (i + 2)) ∧ (xs (i + 2)) ≤ 3) ∧ (xs (i + 3)) ≤ 60 ∧ (xs (i + 3)) < 0 → z1 = -3) ∧ ((0 ≤ (xs (i + 1)) ∧ (xs (i + 1)) ≤ 3) ∧ (0 ≤ (xs (i + 2)) ∧ (xs (i + 2)) ≤ 3) ∧ (xs (i + 3)) ≤ 60 ∧ 0 ≤ (xs (i + 3)) → z1 = 0) := h2.2.1
  have h7 : z1 = 0 → σ3 (78 + 2 * (xs (i + 1))) 1 = 1 ∧ σ3 (78 + 2 * (xs (i + 1))) 2 = (xs (i + 2)) ∧ σ3 (78 + 2 * (xs (i + 1))) 3 = (xs (i + 3)) := h2.2.2.1
  have h8 : z1 = 0 ∨ ∀ k j : Int, σ3 k j = σ k j := h2.2.2.2.1
  have fr1 : ∀ k j : Int, ¬ ((k = 78 + 2 * xs (i + 1) ∨ k = 79 + 2 * xs (i + 1)) ∧ 0 ≤ xs (i + 1) ∧ xs (i + 1) ≤ 3) → σ3 k j = σ k j := by
    intro k j hk
    have c1 := h2.2.1
    dsimp only at c1
    rcases h2.2.2.2.1 with hz | hall
    · exact h2.2.2.2.2 k j (by dsimp only; omega)
    · exact hall k j
  refine And.intro (by omega) ?_
  refine And.intro (by omega) ?_
  refine And.intro (by omega) ?_
  refine And.intro (by omega) ?_
  refine And.intro (by omega) ?_
  refine And.intro (by omega) ?_
  refine Exists.intro (xs (i + 1), xs (i + 2), xs (i + 3)) (And.intro rfl (And.intro True.intro ?_))
  intro z9 σ11 h10
  have f12 : ∀ k j : Int, ¬ (k = 102 ∨ k = 103 ∨ k = 104) → σ11 k j = σ3 k j := h10.2.2.2.2.2
  have h13 : (¬ ((0 ≤ (xs (i + 1)) ∧ (xs (i + 1)) ≤ 3) ∧ (0 ≤ (xs (i + 2)) ∧ (xs (i + 2)) ≤ 3) ∧ (xs (i + 3)) ≤ 60) → z9 = -2) ∧ ((0 ≤ (xs (i + 1)) ∧ (xs (i + 1)) ≤ 3) ∧ (0 ≤ (xs (i + 2)) ∧ (xs (i + 2)) ≤ 3) ∧ (xs (i + 3)) ≤ 60 ∧ (xs (i + 3)) < 0 → z9 = -3) ∧ ((0 ≤ (xs (i + 1)) ∧ (xs (i + 1)) ≤ 3) ∧ (0 ≤ (xs (i + 2)) ∧ (xs (i + 2)) ≤ 3) ∧ (xs (i + 3)) ≤ 60 ∧ 0 ≤ (xs (i + 3)) → z9 = 0) := h10.1
  have h14 : z9 = 0 → σ11 102 (xs (i + 1)) = (xs (i + 3)) ∧ σ11 103 (xs (i + 1)) = (xs (i + 2)) := h10.2.1
  have h15 : ∀ j : Int, j ≠ (xs (i + 1)) → σ11 102 j = σ3 102 j := h10.2.2.1
  have h16 : ∀ j : Int, j ≠ (xs (i + 1)) → σ11 103 j = σ3 103 j := h10.2.2.2.1
  have h17 : z9 = 0 ∨ ∀ k j : Int, σ11 k j = σ3 k j := h10.2.2.2.2.1
  refine And.intro (fun h18 => ?_) (fun h18 => ?_)
  · skip
    have rl : REL σ11 := REL_row hL h2.2.1 h2.2.2.1 h2.2.2.2.1 h2.2.2.2.2 h10.1 h10.2.1 h10.2.2.1 h10.2.2.2.1 h10.2.2.2.2.1 h10.2.2.2.2.2
    have p19 : CI σ11 := CI_fr h5 (fun k j hk => (show σ11 k j = σ3 k j from by first | exact f12 _ _ (by omega) | exact h15 _ (by omega) | exact h16 _ (by omega) | (by_cases hka : k = 102; (rw [hka]; exact h15 _ (by omega)); exact f12 _ _ (by omega)) | (by_cases hka : k = 103; (rw [hka]; exact h16 _ (by omega)); exact f12 _ _ (by omega))))
    have p20 : MI σ11 := MI_fr hM (fun k j hk => ((show σ11 k j = σ3 k j from by first | exact f12 _ _ (by omega) | exact h15 _ (by omega) | exact h16 _ (by omega) | (by_cases hka : k = 102; (rw [hka]; exact h15 _ (by omega)); exact f12 _ _ (by omega)) | (by_cases hka : k = 103; (rw [hka]; exact h16 _ (by omega)); exact f12 _ _ (by omega))).trans (fr1 _ _ (by omega))))
    exact K _ p19 p20 rl
  · skip
    exact absurd (REL_rowz h2.2.1 h10.1) (by assumption)
set_option maxHeartbeats 4000000 in
set_option maxRecDepth 100000 in
theorem lc_59 {X : Cx_t} {G : Gx_t} {Q : State → Prop} {cl sl : Nat} {ad : List Nat} {σ : Me_t} {n : Nat} {xs : Int → Int} {i : Int} (E : EN_ X G RL cL_law 4 (some .boolean)) (hR : X.2.2.2.1 = room_1) (hcl : cl ≤ X.2.2.2.1.cells) (hsl : sl ≤ X.2.2.2.1.slots) (hG : ∀ q, q ∈ ad → G.2.2.2 q) (SC : SOK_ X G Q cl sl ad SHS_ cL_law (some (n, xs))) (hn : n ≤ 3072) (hi : 0 ≤ i) (hin : i + 6 ≤ (n : Int)) (hC : CI σ) (hM : MI σ) (hL : REL σ) (K : ∀ τ : Me_t, CI τ → MI τ → REL τ → WP_ X G Q cl sl ad SHS_ τ 2805 [(4, 0), (10, 0), (42, 86), (0, i)] []) : WP_ X G Q cl sl ad SHS_ σ 2669 [(4, 0), (10, 0), (42, 86), (0, i)] [] := by
  have B := @bk_ X G Q cl sl ad SHS_ RL cL_law 4 (some .boolean) flL plL knL [(516, 4, TR_ as_G_X10_write (rmI_) pre_G_X10_write post_G_X10_write), (524, 4, TR_ as_G_X11_write (rmI_) pre_G_X11_write post_G_X11_write)] 9 (fun _ _ => False) (some (n, xs)) kL_60 [] flL_ok plL_ok knL_ok eL_60 oL_60
    (List.forall_mem_cons.mpr ⟨cok_v (t := 0) (c := 10) (N := 14) (n := 3) (idx := 258) E (ct_G_X10_write X.2.1) (by rw [hR]; decide) hcl hsl hG rfl rfl ⟨rfl, by decide, by decide, by decide⟩ (fun _ => ⟨_, _, rfl, rfl⟩) wl_L_258 wi_X10_write ws_X10_write wn_X10 wc_X10_write, List.forall_mem_cons.mpr ⟨cok_v (t := 32) (c := 11) (N := 39) (n := 3) (idx := 262) E (ct_G_X11_write X.2.1) (by rw [hR]; decide) hcl hsl hG rfl rfl ⟨rfl, by decide, by decide, by decide⟩ (fun _ => ⟨_, _, rfl, rfl⟩) wl_L_262 wi_X11_write ws_X11_write wn_X11 wc_X11_write, fun _ h => absurd h List.not_mem_nil⟩⟩) (fun _ _ _ _ _ h => h.elim) SC E
  refine B rfl ?_
  refine And.intro (by omega) ?_
  refine And.intro (by omega) ?_
  refine And.intro (by omega) ?_
  refine And.intro (by omega) ?_
  refine And.intro (by omega) ?_
  refine And.intro (by omega) ?_
  refine And.intro (by omega) ?_
  refine And.intro (by omega) ?_
  refine Exists.intro (xs (i + 1), xs (i + 2), or6_ (shl6_ (xs (i + 3)) 32) (and6_ (xs (i + 4)) 4294967295)) (And.intro rfl (And.intro hC ?_))
  intro z1 σ3 h2
  have f4 : ∀ k j : Int, ¬ (k = 79 + 2 * (xs (i + 1)) ∧ 0 ≤ (xs (i + 1)) ∧ (xs (i + 1)) ≤ 3) → σ3 k j = σ k j := h2.2.2
  have h5 : CI σ3 := h2.1
  have h6 : (¬ (0 ≤ (xs (i + 1)) ∧ (xs (i + 1)) ≤ 3) → z1 = -2) ∧ ((0 ≤ (xs (i + 1)) ∧ (xs (i + 1)) ≤ 3) ∧ σ (78 + 2 * (xs (i + 1))) 1 = 0 → z1 = -6) ∧ ((0 ≤ (xs (i + 1)) ∧ (xs (i + 1)) ≤ 3) ∧ σ (78 + 2 * (xs (i + 1))) 1 ≠ 0 ∧ ¬ (0 ≤ (xs (i + 2)) ∧ (xs (i + 2)) < σ (78 + 2 * (xs (i + 1))) 3) → z1 = -7) ∧ ((0 ≤ (xs (i + 1)) ∧ (xs (i + 1)) ≤ 3) ∧ σ (78 + 2 * (xs (i + 1))) 1 ≠ 0 ∧ (0 ≤ (xs (i + 2)) ∧ (xs (i + 2)) < σ (78 + 2 * (xs (i + 1))) 3) → z1 = 0) := h2.2.1
  refine And.intro (by omega) ?_
  refine And.intro (by omega) ?_
  refine And.intro (by omega) ?_
  refine And.intro (by omega) ?_
  refine And.intro (by omega) ?_
  refine And.intro (by omega) ?_
  refine And.intro (by omega) ?_
  refine And.intro (by omega) ?_
  refine Exists.intro (xs (i + 1), xs (i + 2), or6_ (shl6_ (xs (i + 3)) 32) (and6_ (xs (i + 4)) 4294967295)) (And.intro rfl (And.intro True.intro ?_))
  intro z7 σ9 h8
  have f10 : ∀ k j : Int, ¬ (k = 104) → σ9 k j = σ3 k j := h8.2
  have h11 : (¬ (0 ≤ (xs (i + 1)) ∧ (xs (i + 1)) ≤ 3) → z7 = -2) ∧ ((0 ≤ (xs (i + 1)) ∧ (xs (i + 1)) ≤ 3) ∧ σ3 102 (xs (i + 1)) = -1 → z7 = -6) ∧ ((0 ≤ (xs (i + 1)) ∧ (xs (i + 1)) ≤ 3) ∧ σ3 102 (xs (i + 1)) ≠ -1 ∧ ¬ (0 ≤ (xs (i + 2)) ∧ (xs (i + 2)) < σ3 102 (xs (i + 1))) → z7 = -7) ∧ ((0 ≤ (xs (i + 1)) ∧ (xs (i + 1)) ≤ 3) ∧ σ3 102 (xs (i + 1)) ≠ -1 ∧ (0 ≤ (xs (i + 2)) ∧ (xs (i + 2)) < σ3 102 (xs (i + 1))) → z7 = 0) := h8.1
  have p12 : CI σ9 := CI_fr h5 (fun k j hk => (f10 _ _ (by omega)))
  have p13 : MI σ9 := MI_fr hM (fun k j hk => ((f10 _ _ (by omega)).trans (f4 _ _ (by omega))))
  have p14 : REL σ9 := REL_fr hL (fun k j hk => ((f10 _ _ (by omega)).trans (f4 _ _ (by omega))))
  exact K _ p12 p13 p14
set_option maxHeartbeats 4000000 in
set_option maxRecDepth 100000 in
theorem lc_60 {X : Cx_t} {G : Gx_t} {Q : State → Prop} {cl sl : Nat} {ad : List Nat} {σ : Me_t} {n : Nat} {xs : Int → Int} {i : Int} (E : EN_ X G RL cL_law 4 (some .boolean)) (hR : X.2.2.2.1 = room_1) (hcl : cl ≤ X.2.2.2.1.cells) (hsl : sl ≤ X.2.2.2.1.slots) (hG : ∀ q, q ∈ ad → G.2.2.2 q) (SC : SOK_ X G Q cl sl ad SHS_ cL_law (some (n, xs))) (hn : n ≤ 3072) (hi : 0 ≤ i) (hin : i + 6 ≤ (n : Int)) (hC : CI σ) (hM : MI σ) (hL : REL σ) (K : ∀ τ : Me_t, CI τ → MI τ → REL τ → WP_ X G Q cl sl ad SHS_ τ 2805 [(4, 0), (10, 0), (42, 86), (0, i)] []) : WP_ X G Q cl sl ad SHS_ σ 2742 [(4, 0), (10, 0), (42, 86), (0, i)] [] := by
  have B := @bk_ X G Q cl sl ad SHS_ RL cL_law 4 (some .boolean) flL plL knL [(526, 6, TR_ as_G_X10_paste (rmI_) pre_G_X10_paste post_G_X10_paste), (532, 6, TR_ as_G_X11_paste (rmI_) pre_G_X11_paste post_G_X11_paste)] 9 (fun _ _ => False) (some (n, xs)) kL_61 [] flL_ok plL_ok knL_ok eL_61 oL_61
    (List.forall_mem_cons.mpr ⟨cok_v (t := 0) (c := 10) (N := 14) (n := 5) (idx := 263) E (ct_G_X10_paste X.2.1) (by rw [hR]; decide) hcl hsl hG rfl rfl ⟨rfl, by decide, by decide, by decide⟩ (fun _ => ⟨_, _, rfl, rfl⟩) wl_L_263 wi_X10_paste ws_X10_paste wn_X10 wc_X10_paste, List.forall_mem_cons.mpr ⟨cok_v (t := 32) (c := 11) (N := 39) (n := 5) (idx := 266) E (ct_G_X11_paste X.2.1) (by rw [hR]; decide) hcl hsl hG rfl rfl ⟨rfl, by decide, by decide, by decide⟩ (fun _ => ⟨_, _, rfl, rfl⟩) wl_L_266 wi_X11_paste ws_X11_paste wn_X11 wc_X11_paste, fun _ h => absurd h List.not_mem_nil⟩⟩) (fun _ _ _ _ _ h => h.elim) SC E
  refine B rfl ?_
  refine And.intro (by omega) ?_
  refine And.intro (by omega) ?_
  refine And.intro (by omega) ?_
  refine And.intro (by omega) ?_
  refine And.intro (by omega) ?_
  refine And.intro (by omega) ?_
  refine And.intro (by omega) ?_
  refine And.intro (by omega) ?_
  refine And.intro (by omega) ?_
  refine And.intro (by omega) ?_
  refine Exists.intro (xs (i + 1), xs (i + 2), xs (i + 3), xs (i + 4), xs (i + 5)) (And.intro rfl (And.intro hC ?_))
  intro z1 σ3 h2
  have f4 : ∀ k j : Int, ¬ (k = 79 + 2 * (xs (i + 3)) ∧ 0 ≤ (xs (i + 3)) ∧ (xs (i + 3)) ≤ 3) → σ3 k j = σ k j := h2.2.2.2.2.2.2
  have h5 : CI σ3 := h2.1
  have h6 : (¬ ((0 ≤ (xs (i + 1)) ∧ (xs (i + 1)) ≤ 3) ∧ (0 ≤ (xs (i + 3)) ∧ (xs (i + 3)) ≤ 3)) → z1 = -2) := h2.2.1
  have h7 : ((0 ≤ (xs (i + 1)) ∧ (xs (i + 1)) ≤ 3) ∧ (0 ≤ (xs (i + 3)) ∧ (xs (i + 3)) ≤ 3)) ∧ ¬ (σ (78 + 2 * (xs (i + 1))) 1 ≠ 0 ∧ σ (78 + 2 * (xs (i + 3))) 1 ≠ 0) → z1 = -6 := h2.2.2.1
  have h8 : ((0 ≤ (xs (i + 1)) ∧ (xs (i + 1)) ≤ 3) ∧ (0 ≤ (xs (i + 3)) ∧ (xs (i + 3)) ≤ 3)) ∧ (σ (78 + 2 * (xs (i + 1))) 1 ≠ 0 ∧ σ (78 + 2 * (xs (i + 3))) 1 ≠ 0) ∧ ¬ (σ (78 + 2 * (xs (i + 1))) 2 = σ (78 + 2 * (xs (i + 3))) 2) → z1 = -8 := h2.2.2.2.1
  have h9 : ((0 ≤ (xs (i + 1)) ∧ (xs (i + 1)) ≤ 3) ∧ (0 ≤ (xs (i + 3)) ∧ (xs (i + 3)) ≤ 3)) ∧ (σ (78 + 2 * (xs (i + 1))) 1 ≠ 0 ∧ σ (78 + 2 * (xs (i + 3))) 1 ≠ 0) ∧ (σ (78 + 2 * (xs (i + 1))) 2 = σ (78 + 2 * (xs (i + 3))) 2) ∧ ¬ ((0 ≤ (xs (i + 2)) ∧ 0 ≤ (xs (i + 5)) ∧ (xs (i + 2)) + (xs (i + 5)) ≤ σ (78 + 2 * (xs (i + 1))) 3) ∧ (0 ≤ (xs (i + 4)) ∧ 0 ≤ (xs (i + 5)) ∧ (xs (i + 4)) + (xs (i + 5)) ≤ σ (78 + 2 * (xs (i + 3))) 3)) → z1 = -7 := h2.2.2.2.2.1
  have h10 : ((0 ≤ (xs (i + 1)) ∧ (xs (i + 1)) ≤ 3) ∧ (0 ≤ (xs (i + 3)) ∧ (xs (i + 3)) ≤ 3)) ∧ (σ (78 + 2 * (xs (i + 1))) 1 ≠ 0 ∧ σ (78 + 2 * (xs (i + 3))) 1 ≠ 0) ∧ (σ (78 + 2 * (xs (i + 1))) 2 = σ (78 + 2 * (xs (i + 3))) 2) ∧ ((0 ≤ (xs (i + 2)) ∧ 0 ≤ (xs (i + 5)) ∧ (xs (i + 2)) + (xs (i + 5)) ≤ σ (78 + 2 * (xs (i + 1))) 3) ∧ (0 ≤ (xs (i + 4)) ∧ 0 ≤ (xs (i + 5)) ∧ (xs (i + 4)) + (xs (i + 5)) ≤ σ (78 + 2 * (xs (i + 3))) 3)) → z1 = 0 := h2.2.2.2.2.2.1
  refine And.intro (by omega) ?_
  refine And.intro (by omega) ?_
  refine And.intro (by omega) ?_
  refine And.intro (by omega) ?_
  refine And.intro (by omega) ?_
  refine And.intro (by omega) ?_
  refine And.intro (by omega) ?_
  refine And.intro (by omega) ?_
  refine And.intro (by omega) ?_
  refine And.intro (by omega) ?_
  refine Exists.intro (xs (i + 1), xs (i + 2), xs (i + 3), xs (i + 4), xs (i + 5)) (And.intro rfl (And.intro True.intro ?_))
  intro z11 σ13 h12
  have f14 : ∀ k j : Int, ¬ (k = 104 ∨ k = 105) → σ13 k j = σ3 k j := h12.2.2.2.2.2
  have h15 : (¬ ((0 ≤ (xs (i + 1)) ∧ (xs (i + 1)) ≤ 3) ∧ (0 ≤ (xs (i + 3)) ∧ (xs (i + 3)) ≤ 3)) → z11 = -2) := h12.1
  have h16 : ((0 ≤ (xs (i + 1)) ∧ (xs (i + 1)) ≤ 3) ∧ (0 ≤ (xs (i + 3)) ∧ (xs (i + 3)) ≤ 3)) ∧ ¬ (σ3 102 (xs (i + 1)) ≠ -1 ∧ σ3 102 (xs (i + 3)) ≠ -1) → z11 = -6 := h12.2.1
  have h17 : ((0 ≤ (xs (i + 1)) ∧ (xs (i + 1)) ≤ 3) ∧ (0 ≤ (xs (i + 3)) ∧ (xs (i + 3)) ≤ 3)) ∧ (σ3 102 (xs (i + 1)) ≠ -1 ∧ σ3 102 (xs (i + 3)) ≠ -1) ∧ ¬ (σ3 103 (xs (i + 1)) = σ3 103 (xs (i + 3))) → z11 = -8 := h12.2.2.1
  have h18 : ((0 ≤ (xs (i + 1)) ∧ (xs (i + 1)) ≤ 3) ∧ (0 ≤ (xs (i + 3)) ∧ (xs (i + 3)) ≤ 3)) ∧ (σ3 102 (xs (i + 1)) ≠ -1 ∧ σ3 102 (xs (i + 3)) ≠ -1) ∧ σ3 103 (xs (i + 1)) = σ3 103 (xs (i + 3)) ∧ ¬ ((0 ≤ (xs (i + 2)) ∧ 0 ≤ (xs (i + 5)) ∧ (xs (i + 2)) + (xs (i + 5)) ≤ σ3 102 (xs (i + 1))) ∧ (0 ≤ (xs (i + 4)) ∧ 0 ≤ (xs (i + 5)) ∧ (xs (i + 4)) + (xs (i + 5)) ≤ σ3 102 (xs (i + 3)))) → z11 = -7 := h12.2.2.2.1
  have h19 : ((0 ≤ (xs (i + 1)) ∧ (xs (i + 1)) ≤ 3) ∧ (0 ≤ (xs (i + 3)) ∧ (xs (i + 3)) ≤ 3)) ∧ (σ3 102 (xs (i + 1)) ≠ -1 ∧ σ3 102 (xs (i + 3)) ≠ -1) ∧ σ3 103 (xs (i + 1)) = σ3 103 (xs (i + 3)) ∧ ((0 ≤ (xs (i + 2)) ∧ 0 ≤ (xs (i + 5)) ∧ (xs (i + 2)) + (xs (i + 5)) ≤ σ3 102 (xs (i + 1))) ∧ (0 ≤ (xs (i + 4)) ∧ 0 ≤ (xs (i + 5)) ∧ (xs (i + 4)) + (xs (i + 5)) ≤ σ3 102 (xs (i + 3)))) → z11 = 0 := h12.2.2.2.2.1
  have p20 : CI σ13 := CI_fr h5 (fun k j hk => (f14 _ _ (by omega)))
  have p21 : MI σ13 := MI_fr hM (fun k j hk => ((f14 _ _ (by omega)).trans (f4 _ _ (by omega))))
  have p22 : REL σ13 := REL_fr hL (fun k j hk => ((f14 _ _ (by omega)).trans (f4 _ _ (by omega))))
  exact K _ p20 p21 p22
set_option maxHeartbeats 4000000 in
set_option maxRecDepth 100000 in
theorem law_loop {X : Cx_t} {G : Gx_t} {Q : State → Prop} {cl sl : Nat} {ad : List Nat} {n : Nat} {xs : Int → Int} (E : EN_ X G RL cL_law 4 (some .boolean)) (hR : X.2.2.2.1 = room_1) (hcl : cl ≤ X.2.2.2.1.cells) (hsl : sl ≤ X.2.2.2.1.slots) (hG : ∀ q, q ∈ ad → G.2.2.2 q) (SC : SOK_ X G Q cl sl ad SHS_ cL_law (some (n, xs))) (hn : n ≤ 3072) (F : ∀ (τ : Me_t) (L : List Sv_t), WP_ X G Q cl sl ad SHS_ τ 2812 L [(0, 1)]) : ∀ (nq : Nat) (i : Int) (σ : Me_t), 0 ≤ i → CI σ → MI σ → REL σ → ((n : Int) - i).toNat < nq → WP_ X G Q cl sl ad SHS_ σ 18 [(4, 0), (10, 0), (42, 86), (0, i)] [] := by
  have B0 := @bk_ X G Q cl sl ad SHS_ RL cL_law 4 (some .boolean) flL plL knL [] 9 (fun _ _ => False) (some (n, xs)) kL_0 [] flL_ok plL_ok knL_ok eL_0 oL_0 (fun _ h => absurd h List.not_mem_nil) (fun _ _ _ _ _ h => h.elim) SC E
  have B1 := @bk_ X G Q cl sl ad SHS_ RL cL_law 4 (some .boolean) flL plL knL [] 9 (fun _ _ => False) (some (n, xs)) kL_62 [2812] flL_ok plL_ok knL_ok eL_62 oL_62 (fun _ h => absurd h List.not_mem_nil) (fun _ _ _ _ _ h => h.elim) SC E
  intro nq
  induction nq with
  | zero => intros; omega
  | succ nq ih =>
    intro i σ hi0 hC hM hL hm
    refine B0 (pc := 18) rfl ?_
    refine And.intro (by omega) ?_
    refine And.intro (fun h => ?_) (fun h => ?_)
    · refine B1 (pc := 2811) rfl ?_
      exact F _ _
    · have K : ∀ τ : Me_t, CI τ → MI τ → REL τ → WP_ X G Q cl sl ad SHS_ τ 2805 [(4, 0), (10, 0), (42, 86), (0, i)] [] := by
        intro τ c1 c2 c3
        refine B1 (pc := 2805) rfl ?_
        refine And.intro (by omega) ?_
        exact ih (i + 6) τ (by omega) c1 c2 c3 (by omega)
      refine And.intro (by omega) ?_
      refine And.intro (fun _ => K _ hC hM hL) ?_
      refine And.intro (fun _ => lc_0 E hR hcl hsl hG SC hn hi0 (by omega) hC hM hL K) ?_
      refine And.intro (fun _ => lc_1 E hR hcl hsl hG SC hn hi0 (by omega) hC hM hL K) ?_
      refine And.intro (fun _ => lc_2 E hR hcl hsl hG SC hn hi0 (by omega) hC hM hL K) ?_
      refine And.intro (fun _ => lc_3 E hR hcl hsl hG SC hn hi0 (by omega) hC hM hL K) ?_
      refine And.intro (fun _ => lc_4 E hR hcl hsl hG SC hn hi0 (by omega) hC hM hL K) ?_
      refine And.intro (fun _ => lc_5 E hR hcl hsl hG SC hn hi0 (by omega) hC hM hL K) ?_
      refine And.intro (fun _ => lc_6 E hR hcl hsl hG SC hn hi0 (by omega) hC hM hL K) ?_
      refine And.intro (fun _ => lc_7 E hR hcl hsl hG SC hn hi0 (by omega) hC hM hL K) ?_
      refine And.intro (fun _ => lc_8 E hR hcl hsl hG SC hn hi0 (by omega) hC hM hL K) ?_
      refine And.intro (fun _ => lc_9 E hR hcl hsl hG SC hn hi0 (by omega) hC hM hL K) ?_
      refine And.intro (fun _ => lc_10 E hR hcl hsl hG SC hn hi0 (by omega) hC hM hL K) ?_
      refine And.intro (fun _ => lc_11 E hR hcl hsl hG SC hn hi0 (by omega) hC hM hL K) ?_
      refine And.intro (fun _ => lc_12 E hR hcl hsl hG SC hn hi0 (by omega) hC hM hL K) ?_
      refine And.intro (fun _ => lc_13 E hR hcl hsl hG SC hn hi0 (by omega) hC hM hL K) ?_
      refine And.intro (fun _ => lc_14 E hR hcl hsl hG SC hn hi0 (by omega) hC hM hL K) ?_
      refine And.intro (fun _ => lc_15 E hR hcl hsl hG SC hn hi0 (by omega) hC hM hL K) ?_
      refine And.intro (fun _ => lc_16 E hR hcl hsl hG SC hn hi0 (by omega) hC hM hL K) ?_
      refine And.intro (fun _ => lc_17 E hR hcl hsl hG SC hn hi0 (by omega) hC hM hL K) ?_
      refine And.intro (fun _ => lc_18 E hR hcl hsl hG SC hn hi0 (by omega) hC hM hL K) ?_
      refine And.intro (fun _ => lc_19 E hR hcl hsl hG SC hn hi0 (by omega) hC hM hL K) ?_
      refine And.intro (fun _ => lc_20 E hR hcl hsl hG SC hn hi0 (by omega) hC hM hL K) ?_
      refine And.intro (fun _ => lc_21 E hR hcl hsl hG SC hn hi0 (by omega) hC hM hL K) ?_
      refine And.intro (fun _ => lc_22 E hR hcl hsl hG SC hn hi0 (by omega) hC hM hL K) ?_
      refine And.intro (fun _ => lc_23 E hR hcl hsl hG SC hn hi0 (by omega) hC hM hL K) ?_
      refine And.intro (fun _ => lc_24 E hR hcl hsl hG SC hn hi0 (by omega) hC hM hL K) ?_
      refine And.intro (fun _ => lc_25 E hR hcl hsl hG SC hn hi0 (by omega) hC hM hL K) ?_
      refine And.intro (fun _ => lc_26 E hR hcl hsl hG SC hn hi0 (by omega) hC hM hL K) ?_
      refine And.intro (fun _ => lc_27 E hR hcl hsl hG SC hn hi0 (by omega) hC hM hL K) ?_
      refine And.intro (fun _ => lc_28 E hR hcl hsl hG SC hn hi0 (by omega) hC hM hL K) ?_
      refine And.intro (fun _ => lc_29 E hR hcl hsl hG SC hn hi0 (by omega) hC hM hL K) ?_
      refine And.intro (fun _ => lc_30 E hR hcl hsl hG SC hn hi0 (by omega) hC hM hL K) ?_
      refine And.intro (fun _ => lc_31 E hR hcl hsl hG SC hn hi0 (by omega) hC hM hL K) ?_
      refine And.intro (fun _ => lc_32 E hR hcl hsl hG SC hn hi0 (by omega) hC hM hL K) ?_
      refine And.intro (fun _ => lc_33 E hR hcl hsl hG SC hn hi0 (by omega) hC hM hL K) ?_
      refine And.intro (fun _ => lc_34 E hR hcl hsl hG SC hn hi0 (by omega) hC hM hL K) ?_
      refine And.intro (fun _ => lc_35 E hR hcl hsl hG SC hn hi0 (by omega) hC hM hL K) ?_
      refine And.intro (fun _ => lc_36 E hR hcl hsl hG SC hn hi0 (by omega) hC hM hL K) ?_
      refine And.intro (fun _ => lc_37 E hR hcl hsl hG SC hn hi0 (by omega) hC hM hL K) ?_
      refine And.intro (fun _ => lc_38 E hR hcl hsl hG SC hn hi0 (by omega) hC hM hL K) ?_
      refine And.intro (fun _ => lc_39 E hR hcl hsl hG SC hn hi0 (by omega) hC hM hL K) ?_
      refine And.intro (fun _ => lc_40 E hR hcl hsl hG SC hn hi0 (by omega) hC hM hL K) ?_
      refine And.intro (fun _ => lc_41 E hR hcl hsl hG SC hn hi0 (by omega) hC hM hL K) ?_
      refine And.intro (fun _ => lc_42 E hR hcl hsl hG SC hn hi0 (by omega) hC hM hL K) ?_
      refine And.intro (fun _ => lc_43 E hR hcl hsl hG SC hn hi0 (by omega) hC hM hL K) ?_
      refine And.intro (fun _ => lc_44 E hR hcl hsl hG SC hn hi0 (by omega) hC hM hL K) ?_
      refine And.intro (fun _ => lc_45 E hR hcl hsl hG SC hn hi0 (by omega) hC hM hL K) ?_
      refine And.intro (fun _ => lc_46 E hR hcl hsl hG SC hn hi0 (by omega) hC hM hL K) ?_
      refine And.intro (fun _ => lc_47 E hR hcl hsl hG SC hn hi0 (by omega) hC hM hL K) ?_
      refine And.intro (fun _ => lc_48 E hR hcl hsl hG SC hn hi0 (by omega) hC hM hL K) ?_
      refine And.intro (fun _ => lc_49 E hR hcl hsl hG SC hn hi0 (by omega) hC hM hL K) ?_
      refine And.intro (fun _ => lc_50 E hR hcl hsl hG SC hn hi0 (by omega) hC hM hL K) ?_
      refine And.intro (fun _ => lc_51 E hR hcl hsl hG SC hn hi0 (by omega) hC hM hL K) ?_
      refine And.intro (fun _ => lc_52 E hR hcl hsl hG SC hn hi0 (by omega) hC hM hL K) ?_
      refine And.intro (fun _ => lc_53 E hR hcl hsl hG SC hn hi0 (by omega) hC hM hL K) ?_
      refine And.intro (fun _ => lc_54 E hR hcl hsl hG SC hn hi0 (by omega) hC hM hL K) ?_
      refine And.intro (fun _ => lc_55 E hR hcl hsl hG SC hn hi0 (by omega) hC hM hL K) ?_
      refine And.intro (fun _ => lc_56 E hR hcl hsl hG SC hn hi0 (by omega) hC hM hL K) ?_
      refine And.intro (fun _ => lc_57 E hR hcl hsl hG SC hn hi0 (by omega) hC hM hL K) ?_
      refine And.intro (fun _ => lc_58 E hR hcl hsl hG SC hn hi0 (by omega) hC hM hL K) ?_
      refine And.intro (fun _ => lc_59 E hR hcl hsl hG SC hn hi0 (by omega) hC hM hL K) ?_
      refine And.intro (fun _ => lc_60 E hR hcl hsl hG SC hn hi0 (by omega) hC hM hL K) ?_
      exact True.intro
