/-! the reference's worlds: places and their ranges -/
def hdhi_ (i : Int) : Int := if i = 0 then 100 else if i = 1 then 3 else if i = 2 then 12 else if i = 3 then 12 else if i = 4 then 1300 else 60
def ldhi_ (w : Int) : Int := if w = 0 then 999 else if w = 1 then 10 else if w = 2 then 1022 else if w = 3 then 8 else if w = 4 then 9 else if w = 5 then 7 else if w = 6 then 9 else 60
def ldlo_ (w : Int) : Int := if w = 5 then -1 else 0
def fthi_ (w : Int) : Int := if w = 0 then 2 else if w = 1 then 7 else if w = 2 then 59 else 9
def tchi_ (w : Int) : Int := if w = 0 then 2 else 1999
def cghi_ (w : Int) : Int := if w = 0 then 2 else if w = 1 then 11 else if w = 2 then 2 else if w = 3 then 7 else if w = 4 then 59 else 9
def whi_ (i : Int) : Int := if i < 6 then hdhi_ i else if i < 51 then ldhi_ ((i - 6) % 15) else if i < 99 then fthi_ ((i - 51) % 4) else if i < 135 then tchi_ ((i - 99) % 3) else cghi_ ((i - 135) % 6)
def wlo_ (i : Int) : Int := if 6 ≤ i ∧ i < 51 then ldlo_ ((i - 6) % 15) else 0
def BWf (f : Int → Int) : Prop := ∀ i : Int, 0 ≤ i → i < 495 → wlo_ i ≤ f i ∧ f i ≤ whi_ i
def SWf (f : Int → Int) : Prop := ∀ l : Int, 0 ≤ l → l ≤ 2 → l < f 1 → 2 ≤ f (6 + 15 * l + 1) ∧ 1 ≤ f (6 + 15 * l + 3)
def UMf (f : Int → Int) : Prop := UN_ (fun i => f (135 + 6 * i) + 1) (fun i => f (135 + 6 * i + 1)) (f 5).toNat (f 2) (f 3)
def BW (σ : Me_t) (a : Int) : Prop := BWf (σ a)
def SW (σ : Me_t) (a : Int) : Prop := SWf (σ a)
def UM (σ : Me_t) (a : Int) : Prop := UMf (σ a)
def MI (σ : Me_t) : Prop := (BW σ 87 ∧ SW σ 87 ∧ UM σ 87) ∧ ∀ k : Int, 0 ≤ k → k ≤ 2 → BWf (fun i => σ 88 (495 * k + i)) ∧ SWf (fun i => σ 88 (495 * k + i)) ∧ UMf (fun i => σ 88 (495 * k + i))
theorem whi_h {i : Int} (h : 0 ≤ i ∧ i < 6) : whi_ i = hdhi_ i ∧ wlo_ i = 0 := by
  unfold whi_ wlo_
  rw [if_pos (by omega), if_neg (by omega)]
  exact ⟨rfl, rfl⟩
theorem whi_l {x l w : Int} (hx : x = 6 + 15 * l + w) (hl : 0 ≤ l ∧ l ≤ 2) (hw : 0 ≤ w ∧ w ≤ 14) : whi_ x = ldhi_ w ∧ wlo_ x = ldlo_ w := by
  subst hx
  unfold whi_ wlo_
  rw [if_neg (by omega), if_pos (by omega), if_pos (by omega), show (6 + 15 * l + w - 6) % 15 = w by omega]
  exact ⟨rfl, rfl⟩
theorem whi_f {x f w : Int} (hx : x = 51 + 4 * f + w) (hf : 0 ≤ f ∧ f ≤ 11) (hw : 0 ≤ w ∧ w ≤ 3) : whi_ x = fthi_ w ∧ wlo_ x = 0 := by
  subst hx
  unfold whi_ wlo_
  rw [if_neg (by omega), if_neg (by omega), if_pos (by omega), if_neg (by omega), show (51 + 4 * f + w - 51) % 4 = w by omega]
  exact ⟨rfl, rfl⟩
theorem whi_t {x t w : Int} (hx : x = 99 + 3 * t + w) (ht : 0 ≤ t ∧ t ≤ 11) (hw : 0 ≤ w ∧ w ≤ 2) : whi_ x = tchi_ w ∧ wlo_ x = 0 := by
  subst hx
  unfold whi_ wlo_
  rw [if_neg (by omega), if_neg (by omega), if_neg (by omega), if_pos (by omega), if_neg (by omega), show (99 + 3 * t + w - 99) % 3 = w by omega]
  exact ⟨rfl, rfl⟩
theorem whi_c {x c w : Int} (hx : x = 135 + 6 * c + w) (hc : 0 ≤ c ∧ c ≤ 59) (hw : 0 ≤ w ∧ w ≤ 5) : whi_ x = cghi_ w ∧ wlo_ x = 0 := by
  subst hx
  unfold whi_ wlo_
  rw [if_neg (by omega), if_neg (by omega), if_neg (by omega), if_neg (by omega), if_neg (by omega), show (135 + 6 * c + w - 135) % 6 = w by omega]
  exact ⟨rfl, rfl⟩
/-- reads by their places -/
theorem wrh_ {f : Int → Int} (h : BWf f) {i : Int} (hi : 0 ≤ i ∧ i < 6) : 0 ≤ f i ∧ f i ≤ hdhi_ i := by
  have := h i (by omega) (by omega)
  rw [(whi_h hi).1, (whi_h hi).2] at this
  exact this
theorem wrl_ {f : Int → Int} (h : BWf f) {x l w : Int} (hx : x = 6 + 15 * l + w) (hl : 0 ≤ l ∧ l ≤ 2) (hw : 0 ≤ w ∧ w ≤ 14) : ldlo_ w ≤ f x ∧ f x ≤ ldhi_ w := by
  have := h x (by omega) (by omega)
  rw [(whi_l hx hl hw).1, (whi_l hx hl hw).2] at this
  exact this
theorem wrf_ {f : Int → Int} (h : BWf f) {x c w : Int} (hx : x = 51 + 4 * c + w) (hc : 0 ≤ c ∧ c ≤ 11) (hw : 0 ≤ w ∧ w ≤ 3) : 0 ≤ f x ∧ f x ≤ fthi_ w := by
  have := h x (by omega) (by omega)
  rw [(whi_f hx hc hw).1, (whi_f hx hc hw).2] at this
  exact this
theorem wrt_ {f : Int → Int} (h : BWf f) {x c w : Int} (hx : x = 99 + 3 * c + w) (hc : 0 ≤ c ∧ c ≤ 11) (hw : 0 ≤ w ∧ w ≤ 2) : 0 ≤ f x ∧ f x ≤ tchi_ w := by
  have := h x (by omega) (by omega)
  rw [(whi_t hx hc hw).1, (whi_t hx hc hw).2] at this
  exact this
theorem wrc_ {f : Int → Int} (h : BWf f) {x c w : Int} (hx : x = 135 + 6 * c + w) (hc : 0 ≤ c ∧ c ≤ 59) (hw : 0 ≤ w ∧ w ≤ 5) : 0 ≤ f x ∧ f x ≤ cghi_ w := by
  have := h x (by omega) (by omega)
  rw [(whi_c hx hc hw).1, (whi_c hx hc hw).2] at this
  exact this
/-- stores by their places -/
theorem wst_ {σ σ' : Me_t} {a x z : Int} (h : BW σ a) (e : σ' = ups_ σ a x z) (hz : wlo_ x ≤ z ∧ z ≤ whi_ x) : BW σ' a := fun i h0 h1 => by
  by_cases hi : i = x
  · subst hi
    rw [ups_v e]
    exact hz
  · rw [ups_r e (Or.inr hi)]
    exact h i h0 h1
theorem wsth_ {σ σ' : Me_t} {a x z : Int} (h : BW σ a) (e : σ' = ups_ σ a x z) (hx : 0 ≤ x ∧ x < 6) (hz : 0 ≤ z ∧ z ≤ hdhi_ x) : BW σ' a := wst_ h e (by rw [(whi_h hx).1, (whi_h hx).2]; exact hz)
theorem wstl_ {σ σ' : Me_t} {a x z l w : Int} (h : BW σ a) (e : σ' = ups_ σ a x z) (hx : x = 6 + 15 * l + w) (hl : 0 ≤ l ∧ l ≤ 2) (hw : 0 ≤ w ∧ w ≤ 14) (hz : ldlo_ w ≤ z ∧ z ≤ ldhi_ w) : BW σ' a := wst_ h e (by rw [(whi_l hx hl hw).1, (whi_l hx hl hw).2]; exact hz)
theorem wstf_ {σ σ' : Me_t} {a x z c w : Int} (h : BW σ a) (e : σ' = ups_ σ a x z) (hx : x = 51 + 4 * c + w) (hc : 0 ≤ c ∧ c ≤ 11) (hw : 0 ≤ w ∧ w ≤ 3) (hz : 0 ≤ z ∧ z ≤ fthi_ w) : BW σ' a := wst_ h e (by rw [(whi_f hx hc hw).1, (whi_f hx hc hw).2]; exact hz)
theorem wstt_ {σ σ' : Me_t} {a x z c w : Int} (h : BW σ a) (e : σ' = ups_ σ a x z) (hx : x = 99 + 3 * c + w) (hc : 0 ≤ c ∧ c ≤ 11) (hw : 0 ≤ w ∧ w ≤ 2) (hz : 0 ≤ z ∧ z ≤ tchi_ w) : BW σ' a := wst_ h e (by rw [(whi_t hx hc hw).1, (whi_t hx hc hw).2]; exact hz)
theorem wstc_ {σ σ' : Me_t} {a x z c w : Int} (h : BW σ a) (e : σ' = ups_ σ a x z) (hx : x = 135 + 6 * c + w) (hc : 0 ≤ c ∧ c ≤ 59) (hw : 0 ≤ w ∧ w ≤ 5) (hz : 0 ≤ z ∧ z ≤ cghi_ w) : BW σ' a := wst_ h e (by rw [(whi_c hx hc hw).1, (whi_c hx hc hw).2]; exact hz)
theorem BW_fr {σ σ' : Me_t} {a : Int} (h : BW σ a) (f : ∀ k j : Int, k = a → σ' k j = σ k j) : BW σ' a := fun i h0 h1 => by rw [f a i rfl]; exact h i h0 h1
theorem SW_fr {σ σ' : Me_t} {a : Int} (h : SW σ a) (f : ∀ k j : Int, k = a → σ' k j = σ k j) : SW σ' a := fun l h0 h1 h2 => by
  rw [f a 1 rfl] at h2
  rw [f a _ rfl, f a _ rfl]
  exact h l h0 h1 h2
theorem WB_cg {f g : Int → Int} (e : ∀ i : Int, 0 ≤ i → i < 495 → g i = f i) (h : BWf f ∧ SWf f ∧ UMf f) : BWf g ∧ SWf g ∧ UMf g := by
  obtain ⟨h1, h2, h3⟩ := h
  refine ⟨fun i a b => by rw [e i a b]; exact h1 i a b, fun l a b c => ?_, ?_⟩
  · rw [e 1 (by omega) (by omega)] at c
    rw [e _ (by omega) (by omega), e _ (by omega) (by omega)]
    exact h2 l a b c
  · have b5 := h1 5 (by omega) (by omega)
    have e5 : whi_ 5 = 60 := by decide
    rw [e5] at b5
    unfold UMf
    rw [e 5 (by omega) (by omega), e 2 (by omega) (by omega), e 3 (by omega) (by omega)]
    exact UN_cg (fun i hi => ⟨by show g (135 + 6 * (i : Int)) + 1 = f (135 + 6 * (i : Int)) + 1; rw [e _ (by omega) (by omega)], by show g (135 + 6 * (i : Int) + 1) = f (135 + 6 * (i : Int) + 1); rw [e _ (by omega) (by omega)]⟩) h3
theorem MI_fr {σ σ' : Me_t} (h : MI σ) (f : ∀ k j : Int, k = 87 ∨ k = 88 → σ' k j = σ k j) : MI σ' := by
  refine ⟨WB_cg (fun i _ _ => f 87 i (Or.inl rfl)) h.1, fun k h0 h1 => WB_cg (fun i _ _ => f 88 _ (Or.inr rfl)) (h.2 k h0 h1)⟩
/-- lengths, years, days as numbers of the world -/
def lenF_ (f : Int → Int) (l m y : Int) : Int := f (6 + 15 * l + (7 + m)) + (if 0 < f (6 + 15 * l + 4) ∧ m = f (6 + 15 * l + 5) ∧ Int.tmod y (f (6 + 15 * l + 4)) = 0 then f (6 + 15 * l + 6) else 0)
def ylN_ (f : Int → Int) (l y : Int) : Nat → Int
  | 0 => 0
  | n + 1 => ylN_ f l y n + lenF_ f l n y
def ylF_ (f : Int → Int) (l y : Int) : Int := ylN_ f l y (f (6 + 15 * l + 3)).toNat
theorem ylN_s {f : Int → Int} {l y m : Int} (h : 0 ≤ m) : ylN_ f l y (m + 1).toNat = ylN_ f l y m.toNat + lenF_ f l m y := by
  rw [show (m + 1).toNat = m.toNat + 1 by omega]
  show ylN_ f l y m.toNat + lenF_ f l (m.toNat : Int) y = _
  rw [Int.toNat_of_nonneg h]
def dl_ (f : Int → Int) (l Y : Int) : Nat → Int → Int → Int
  | 0, _, d => d
  | n + 1, y, d => if y < Y ∧ d < 2000 then dl_ f l Y n (y + 1) (d + ylF_ f l y) else d
theorem dl_s {f : Int → Int} {l Y y d : Int} (h : y < Y) (hd : d < 2000) : dl_ f l Y (Y - y).toNat y d = dl_ f l Y (Y - (y + 1)).toNat (y + 1) (d + ylF_ f l y) := by
  rw [show (Y - y).toNat = (Y - (y + 1)).toNat + 1 by omega]
  show (if y < Y ∧ d < 2000 then _ else _) = _
  rw [if_pos ⟨h, hd⟩]
theorem dl_e {f : Int → Int} {l Y y d : Int} (h : Y ≤ y ∨ 2000 ≤ d) : dl_ f l Y (Y - y).toNat y d = d := by
  by_cases hy : Y ≤ y
  · rw [show (Y - y).toNat = 0 by omega]
    rfl
  · rw [show (Y - y).toNat = (Y - (y + 1)).toNat + 1 by omega]
    show (if y < Y ∧ d < 2000 then _ else _) = _
    rw [if_neg (by omega)]
def dayF_ (f : Int → Int) (l Y m d : Int) : Int := dl_ f l Y Y.toNat 0 (f (6 + 15 * l + 0) + d) + ylN_ f l Y m.toNat
theorem ld_len {w : Int} : 7 ≤ w → ldlo_ w = 0 ∧ ldhi_ w = 60 := by
  intro h
  unfold ldlo_ ldhi_
  rw [if_neg (by omega), if_neg (by omega), if_neg (by omega), if_neg (by omega), if_neg (by omega), if_neg (by omega), if_neg (by omega), if_neg (by omega)]
  exact ⟨rfl, rfl⟩
theorem ft_le {w : Int} : fthi_ w ≤ 59 := by
  unfold fthi_
  repeat' split
  all_goals omega
theorem tc_le {w : Int} : tchi_ w ≤ 1999 := by
  unfold tchi_
  split <;> omega
def LY (σ : Me_t) : Prop := ∀ l d : Int, 0 ≤ l → l ≤ 2 → l < σ 87 1 → σ 87 (6 + 15 * l + 0) ≤ d → d < 2000 → 0 ≤ σ 95 (2000 * l + d)
theorem LY_fr {σ σ' : Me_t} (h : LY σ) (f : ∀ k j : Int, k = 87 ∨ k = 95 → σ' k j = σ k j) : LY σ' := fun l d h0 h1 h2 h3 h4 => by
  rw [f 87 1 (Or.inl rfl)] at h2
  rw [f 87 _ (Or.inl rfl)] at h3
  rw [f 95 _ (Or.inr rfl)]
  exact h l d h0 h1 h2 h3 h4
/-- the orders of a slot -/
def ODe (σ : Me_t) (s j : Int) : Prop := (0 ≤ l2i_ (σ 104 (60 * s + 4 * j)) ∧ l2i_ (σ 104 (60 * s + 4 * j)) ≤ 2) ∧ (0 ≤ l2i_ (σ 104 (60 * s + (4 * j + 1))) ∧ l2i_ (σ 104 (60 * s + (4 * j + 1))) ≤ 1999) ∧ (0 ≤ l2i_ (σ 104 (60 * s + (4 * j + 2))) ∧ l2i_ (σ 104 (60 * s + (4 * j + 2))) ≤ 7) ∧ (0 ≤ l2i_ (σ 104 (60 * s + (4 * j + 3))) ∧ l2i_ (σ 104 (60 * s + (4 * j + 3))) ≤ 68) ∧ dayF_ (σ 87) (l2i_ (σ 104 (60 * s + 4 * j))) (l2i_ (σ 104 (60 * s + (4 * j + 1)))) (l2i_ (σ 104 (60 * s + (4 * j + 2)))) (l2i_ (σ 104 (60 * s + (4 * j + 3)))) < 2000
def OD (σ : Me_t) (s : Int) : Prop := ∀ j : Int, 0 ≤ j → 4 * j < σ 102 s → ODe σ s j
theorem OD_fr {σ σ' : Me_t} {s : Int} (h : OD σ s) (f : ∀ k j : Int, k = 87 ∨ k = 102 ∨ k = 104 → σ' k j = σ k j) : OD σ' s := fun j h0 h1 => by
  rw [f 102 s (Or.inr (Or.inl rfl))] at h1
  have e1 : σ' 104 = σ 104 := funext fun i => f 104 i (Or.inr (Or.inr rfl))
  have e2 : σ' 87 = σ 87 := funext fun i => f 87 i (Or.inl rfl)
  have := h j h0 h1
  unfold ODe at this ⊢
  rw [e1, e2]
  exact this
/-- the sights of a slot -/
def SNe (σ : Me_t) (s j : Int) : Prop := (0 ≤ l2i_ (σ 104 (60 * s + j)) ∧ l2i_ (σ 104 (60 * s + j)) ≤ 2 ∧ l2i_ (σ 104 (60 * s + j)) < σ 87 1) ∧ 0 ≤ l2i_ (σ 104 (60 * s + (j + 1))) ∧ l2i_ (σ 104 (60 * s + (j + 1))) ≤ 4
def SN (σ : Me_t) (s : Int) : Prop := ∀ j : Int, 0 ≤ j → j < σ 102 s → j % 3 = 0 → SNe σ s j
theorem SN_fr {σ σ' : Me_t} {s : Int} (h : SN σ s) (f : ∀ k j : Int, k = 87 ∨ k = 102 ∨ k = 104 → σ' k j = σ k j) : SN σ' s := fun j h0 h1 h2 => by
  rw [f 102 s (Or.inr (Or.inl rfl))] at h1
  have e1 : σ' 104 = σ 104 := funext fun i => f 104 i (Or.inr (Or.inr rfl))
  have := h j h0 h1 h2
  unfold SNe at this ⊢
  rw [e1, f 87 1 (Or.inl rfl)]
  exact this
/-- how many of the days ahead of a day are fought on -/
def pcn_ (f : Int → Int) (b : Int) : Nat → Int
  | 0 => 0
  | n + 1 => pcn_ f b n + (if f (b + (n : Int)) = 0 then 1 else 0)
theorem pcn_s {f : Int → Int} {b m : Int} (h : 0 ≤ m) : pcn_ f b (m + 1).toNat = pcn_ f b m.toNat + (if f (b + m) = 0 then 1 else 0) := by
  rw [show (m + 1).toNat = m.toNat + 1 by omega]
  show pcn_ f b m.toNat + (if f (b + (m.toNat : Int)) = 0 then 1 else 0) = _
  rw [Int.toNat_of_nonneg h]
theorem shl3_8 {b : Int} (h0 : 0 ≤ b) (h1 : b ≤ 3) : 8 ≤ shl3_ 8 b ∧ shl3_ 8 b ≤ 64 := by
  obtain ⟨n, rfl⟩ : ∃ n : Nat, b = (n : Int) := ⟨b.toNat, by omega⟩
  have key : ∀ n : Nat, n < 4 → 8 ≤ (Int32.ofInt 8 <<< (Int32.ofInt (n : Int) &&& 31)).toInt ∧ (Int32.ofInt 8 <<< (Int32.ofInt (n : Int) &&& 31)).toInt ≤ 64 := by decide +kernel
  rw [shl3_e]
  exact key n (by omega)
/-- images -/
theorem MI_img {σ σ' : Me_t} {a : Int} (h : MI σ) (ha : 0 ≤ a ∧ a ≤ 2) (h1 : ∀ i : Int, 0 ≤ i → i < 495 → σ' 88 (495 * a + i) = σ 87 i) (h2 : ∀ j : Int, ¬ (495 * a ≤ j ∧ j < 495 * a + 495) → σ' 88 j = σ 88 j) (h3 : ∀ j : Int, σ' 87 j = σ 87 j) : MI σ' := by
  refine ⟨WB_cg (fun i _ _ => h3 i) h.1, fun k k0 k1 => ?_⟩
  by_cases hk : k = a
  · subst hk
    exact WB_cg (f := σ 87) (fun i i0 i1 => h1 i i0 i1) h.1
  · exact WB_cg (fun i i0 i1 => h2 _ (by omega)) (h.2 k k0 k1)
theorem MI_back {σ σ' : Me_t} {a : Int} (h : MI σ) (ha : 0 ≤ a ∧ a ≤ 2) (h1 : ∀ i : Int, 0 ≤ i → i < 495 → σ' 87 i = σ 88 (495 * a + i)) (h3 : ∀ j : Int, σ' 88 j = σ 88 j) : MI σ' :=
  ⟨WB_cg (f := fun i => σ 88 (495 * a + i)) (fun i i0 i1 => h1 i i0 i1) (h.2 a ha.1 ha.2), fun k k0 k1 => WB_cg (fun i _ _ => h3 _) (h.2 k k0 k1)⟩
/-- changes of the reference -/
theorem cg_ft {v : Int} (h : 0 ≤ v ∧ v ≤ 3) : cghi_ (2 + v) = fthi_ v := by
  unfold cghi_ fthi_
  rw [if_neg (by omega), if_neg (by omega)]
  by_cases h0 : v = 0
  · subst h0; rfl
  · by_cases h1 : v = 1
    · subst h1; rfl
    · by_cases h2 : v = 2
      · subst h2; rfl
      · rw [if_neg (by omega), if_neg (by omega), if_neg (by omega), if_neg h0, if_neg h1, if_neg h2]
theorem ft_0 {w : Int} : 0 ≤ fthi_ w := by
  unfold fthi_
  repeat' split
  all_goals omega
theorem w4_ {x : Int} (h : 51 ≤ x ∧ x + 4 < 99) : whi_ (x + 4) = whi_ x ∧ wlo_ (x + 4) = wlo_ x := by
  have e1 : ∀ y : Int, 51 ≤ y ∧ y < 99 → whi_ y = fthi_ ((y - 51) % 4) := by
    intro y hy
    unfold whi_
    rw [if_neg (by omega), if_neg (by omega), if_pos (by omega)]
  have e2 : ∀ y : Int, 51 ≤ y ∧ y < 99 → wlo_ y = 0 := by
    intro y hy
    unfold wlo_
    rw [if_neg (by omega)]
  rw [e1 _ (by omega), e1 x (by omega), e2 _ (by omega), e2 x (by omega), show (x + 4 - 51) % 4 = (x - 51) % 4 by omega]
  exact ⟨rfl, rfl⟩
theorem SW_eq {f f' : Int → Int} (h : SWf f) (h1 : f' 1 = f 1) (hj : ∀ j : Int, 6 ≤ j → j < 51 → f' j = f j) : SWf f' := fun l h0 h2 h3 => by
  rw [h1] at h3
  rw [hj _ (by omega) (by omega), hj _ (by omega) (by omega)]
  exact h l h0 h2 h3
theorem UM_n {f f' : Int → Int} (h : UMf f) (h0 : 0 ≤ f 5) (h5 : f' 5 = f 5 + 1) (hj : ∀ j : Int, 135 ≤ j → j < 135 + 6 * f 5 → f' j = f j)
    (hb : 0 ≤ f' 2 ∧ f' 2 ≤ 12 ∧ 0 ≤ f' 3 ∧ f' 3 ≤ 12)
    (hc : (f' (135 + 6 * f 5) = 0 ∧ f' (135 + 6 * f 5 + 1) = f' 2 - 1 ∧ f' 2 = f 2 + 1 ∧ f' 3 = f 3) ∨ (f' (135 + 6 * f 5) = 1 ∧ f' (135 + 6 * f 5 + 1) = f' 3 - 1 ∧ f' 2 = f 2 ∧ f' 3 = f 3 + 1) ∨ (f' (135 + 6 * f 5) = 2 ∧ 0 ≤ f' (135 + 6 * f 5 + 1) ∧ f' (135 + 6 * f 5 + 1) ≤ f' 2 ∧ f' 2 = f 2 - 1 ∧ f' 3 = f 3)) : UMf f' := by
  obtain ⟨n, hn⟩ : ∃ n : Nat, f 5 = n := ⟨(f 5).toNat, by omega⟩
  unfold UMf at h ⊢
  rw [hn] at h hj hc h5
  rw [h5, show ((n : Int) + 1).toNat = n + 1 by omega]
  rw [Int.toNat_natCast] at h
  have h' := fun (fc tc : Int) => UN_cg (f := fun i => f (135 + 6 * i) + 1) (g := fun i => f (135 + 6 * i + 1)) (f' := fun i => f' (135 + 6 * i) + 1) (g' := fun i => f' (135 + 6 * i + 1)) (n := n) (fc := fc) (tc := tc) (fun i hi => ⟨by show f' (135 + 6 * (i : Int)) + 1 = f (135 + 6 * (i : Int)) + 1; rw [hj _ (by omega) (by omega)], hj _ (by omega) (by omega)⟩)
  have hbd := UN_bd h
  refine ⟨hb, ?_⟩
  rcases hc with ⟨a, b, c, d⟩ | ⟨a, b, c, d⟩ | ⟨a, b, c, d, e⟩
  · refine Or.inl ⟨by show f' (135 + 6 * (n : Int)) + 1 = 1; omega, b, ?_⟩
    rw [show f' 2 - 1 = f 2 by omega, d]
    exact h' _ _ h
  · refine Or.inr (Or.inl ⟨by show f' (135 + 6 * (n : Int)) + 1 = 2; omega, b, ?_⟩)
    rw [show f' 3 - 1 = f 3 by omega, c]
    exact h' _ _ h
  · refine Or.inr (Or.inr ⟨by show f' (135 + 6 * (n : Int)) + 1 ≠ 1; omega, by show f' (135 + 6 * (n : Int)) + 1 ≠ 2; omega, b, c, by omega, ?_⟩)
    rw [show f' 2 + 1 = f 2 by omega, e]
    exact h' _ _ h
theorem UM_t {f : Int → Int} (h : UMf f) (h0 : 1 ≤ f 5) : (f (135 + 6 * (f 5 - 1)) = 0 ∧ f (135 + 6 * (f 5 - 1) + 1) = f 2 - 1 ∧ 1 ≤ f 2) ∨ (f (135 + 6 * (f 5 - 1)) = 1 ∧ f (135 + 6 * (f 5 - 1) + 1) = f 3 - 1 ∧ 1 ≤ f 3) ∨ (f (135 + 6 * (f 5 - 1)) ≠ 0 ∧ f (135 + 6 * (f 5 - 1)) ≠ 1 ∧ 0 ≤ f (135 + 6 * (f 5 - 1) + 1) ∧ f (135 + 6 * (f 5 - 1) + 1) ≤ f 2 ∧ f 2 ≤ 11) := by
  obtain ⟨n, hn⟩ : ∃ n : Nat, f 5 = (n : Int) + 1 := ⟨(f 5 - 1).toNat, by omega⟩
  unfold UMf at h
  rw [hn, show ((n : Int) + 1).toNat = n + 1 by omega] at h
  rw [hn, show (n : Int) + 1 - 1 = n by omega]
  obtain ⟨h1, h2⟩ := h
  rcases h2 with ⟨a, b, c⟩ | ⟨a, b, c⟩ | ⟨a, b, c, d, e, x⟩
  · have a : f (135 + 6 * (n : Int)) + 1 = 1 := a
    exact Or.inl ⟨by omega, b, by have := UN_bd c; omega⟩
  · have a : f (135 + 6 * (n : Int)) + 1 = 2 := a
    exact Or.inr (Or.inl ⟨by omega, b, by have := UN_bd c; omega⟩)
  · have a : f (135 + 6 * (n : Int)) + 1 ≠ 1 := a
    have b : f (135 + 6 * (n : Int)) + 1 ≠ 2 := b
    exact Or.inr (Or.inr ⟨by omega, by omega, c, d, e⟩)
theorem UM_c {f f' : Int → Int} (h : UMf f) (h0 : 1 ≤ f 5) (h5 : f' 5 = f 5 - 1) (hj : ∀ j : Int, 135 ≤ j → j < 495 → f' j = f j) (hm : f 5 ≤ 60)
    (hc : (f (135 + 6 * (f 5 - 1)) = 0 ∧ f' 2 = f 2 - 1 ∧ f' 3 = f 3) ∨ (f (135 + 6 * (f 5 - 1)) = 1 ∧ f' 2 = f 2 ∧ f' 3 = f 3 - 1) ∨ (f (135 + 6 * (f 5 - 1)) ≠ 0 ∧ f (135 + 6 * (f 5 - 1)) ≠ 1 ∧ f' 2 = f 2 + 1 ∧ f' 3 = f 3)) : UMf f' := by
  obtain ⟨n, hn⟩ : ∃ n : Nat, f 5 = (n : Int) + 1 := ⟨(f 5 - 1).toNat, by omega⟩
  unfold UMf at h ⊢
  rw [hn, show ((n : Int) + 1).toNat = n + 1 by omega] at h
  rw [hn, show (n : Int) + 1 - 1 = n by omega] at hc
  rw [h5, hn, show ((n : Int) + 1 - 1).toNat = n by omega]
  have h' := fun (fc tc : Int) => UN_cg (f := fun i => f (135 + 6 * i) + 1) (g := fun i => f (135 + 6 * i + 1)) (f' := fun i => f' (135 + 6 * i) + 1) (g' := fun i => f' (135 + 6 * i + 1)) (n := n) (fc := fc) (tc := tc) (fun i hi => ⟨by show f' (135 + 6 * (i : Int)) + 1 = f (135 + 6 * (i : Int)) + 1; rw [hj _ (by omega) (by omega)], hj _ (by omega) (by omega)⟩)
  obtain ⟨h1, h2⟩ := h
  rcases h2 with ⟨a, b, c⟩ | ⟨a, b, c⟩ | ⟨a, b, c, d, e, x⟩
  · have a : f (135 + 6 * (n : Int)) + 1 = 1 := a
    rcases hc with q | q | q
    · rw [q.2.1, q.2.2]; exact h' _ _ c
    · omega
    · omega
  · have a : f (135 + 6 * (n : Int)) + 1 = 2 := a
    rcases hc with q | q | q
    · omega
    · rw [q.2.1, q.2.2]; exact h' _ _ c
    · omega
  · have a : f (135 + 6 * (n : Int)) + 1 ≠ 1 := a
    have b : f (135 + 6 * (n : Int)) + 1 ≠ 2 := b
    rcases hc with q | q | q
    · omega
    · omega
    · rw [q.2.2.1, q.2.2.2]; exact h' _ _ x
