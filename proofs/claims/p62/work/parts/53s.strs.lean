set_option maxRecDepth 100000 in
theorem wsr_R_0 : Cond.stringRef "TwoCalendars$Reader" 56 "war" ∈ lw_tbl := List.mem_of_getElem? (i := 503) (by decide +kernel)
set_option maxRecDepth 100000 in
theorem wsr_R_1 : Cond.stringRef "TwoCalendars$Reader" 97 "rain" ∈ lw_tbl := List.mem_of_getElem? (i := 560) (by decide +kernel)
set_option maxRecDepth 100000 in
theorem wsr_R_2 : Cond.stringRef "TwoCalendars$Reader" 65 "land" ∈ lw_tbl := List.mem_of_getElem? (i := 573) (by decide +kernel)
set_option maxRecDepth 100000 in
theorem wsr_R_3 : Cond.stringRef "TwoCalendars$Reader" 116 "from" ∈ lw_tbl := List.mem_of_getElem? (i := 586) (by decide +kernel)
set_option maxRecDepth 100000 in
theorem wsr_R_4 : Cond.stringRef "TwoCalendars$Reader" 120 "week" ∈ lw_tbl := List.mem_of_getElem? (i := 587) (by decide +kernel)
set_option maxRecDepth 100000 in
theorem wsr_R_5 : Cond.stringRef "TwoCalendars$Reader" 124 "rests" ∈ lw_tbl := List.mem_of_getElem? (i := 588) (by decide +kernel)
set_option maxRecDepth 100000 in
theorem wsr_R_6 : Cond.stringRef "TwoCalendars$Reader" 128 "year" ∈ lw_tbl := List.mem_of_getElem? (i := 589) (by decide +kernel)
set_option maxRecDepth 100000 in
theorem wsr_R_7 : Cond.stringRef "TwoCalendars$Reader" 134 "leap" ∈ lw_tbl := List.mem_of_getElem? (i := 598) (by decide +kernel)
set_option maxRecDepth 100000 in
theorem wsr_R_8 : Cond.stringRef "TwoCalendars$Reader" 138 "in" ∈ lw_tbl := List.mem_of_getElem? (i := 599) (by decide +kernel)
set_option maxRecDepth 100000 in
theorem wsr_R_9 : Cond.stringRef "TwoCalendars$Reader" 146 "adds" ∈ lw_tbl := List.mem_of_getElem? (i := 600) (by decide +kernel)
set_option maxRecDepth 100000 in
theorem wsr_R_10 : Cond.stringRef "TwoCalendars$Reader" 77 "feast" ∈ lw_tbl := List.mem_of_getElem? (i := 601) (by decide +kernel)
set_option maxRecDepth 100000 in
theorem wsr_R_11 : Cond.stringRef "TwoCalendars$Reader" 157 "for" ∈ lw_tbl := List.mem_of_getElem? (i := 606) (by decide +kernel)
set_option maxRecDepth 100000 in
theorem wsr_R_12 : Cond.stringRef "TwoCalendars$Reader" 85 "truce" ∈ lw_tbl := List.mem_of_getElem? (i := 614) (by decide +kernel)
set_option maxRecDepth 100000 in
theorem wsr_R_13 : Cond.stringRef "TwoCalendars$Reader" 163 "to" ∈ lw_tbl := List.mem_of_getElem? (i := 619) (by decide +kernel)
set_option maxRecDepth 100000 in
theorem wsr_M_0 : Cond.stringRef "TwoCalendarsModel" 223 "war" ∈ lw_tbl := List.mem_of_getElem? (i := 1398) (by decide +kernel)
set_option maxRecDepth 100000 in
theorem wsr_M_1 : Cond.stringRef "TwoCalendarsModel" 225 "rain" ∈ lw_tbl := List.mem_of_getElem? (i := 1417) (by decide +kernel)
set_option maxRecDepth 100000 in
theorem wsr_M_2 : Cond.stringRef "TwoCalendarsModel" 208 "land" ∈ lw_tbl := List.mem_of_getElem? (i := 1430) (by decide +kernel)
set_option maxRecDepth 100000 in
theorem wsr_M_10 : Cond.stringRef "TwoCalendarsModel" 210 "feast" ∈ lw_tbl := List.mem_of_getElem? (i := 1431) (by decide +kernel)
set_option maxRecDepth 100000 in
theorem wsr_M_12 : Cond.stringRef "TwoCalendarsModel" 212 "truce" ∈ lw_tbl := List.mem_of_getElem? (i := 1432) (by decide +kernel)
set_option maxRecDepth 100000 in
theorem wsr_M_3 : Cond.stringRef "TwoCalendarsModel" 184 "from" ∈ lw_tbl := List.mem_of_getElem? (i := 1437) (by decide +kernel)
set_option maxRecDepth 100000 in
theorem wsr_M_4 : Cond.stringRef "TwoCalendarsModel" 189 "week" ∈ lw_tbl := List.mem_of_getElem? (i := 1438) (by decide +kernel)
set_option maxRecDepth 100000 in
theorem wsr_M_5 : Cond.stringRef "TwoCalendarsModel" 191 "rests" ∈ lw_tbl := List.mem_of_getElem? (i := 1439) (by decide +kernel)
set_option maxRecDepth 100000 in
theorem wsr_M_6 : Cond.stringRef "TwoCalendarsModel" 193 "year" ∈ lw_tbl := List.mem_of_getElem? (i := 1440) (by decide +kernel)
set_option maxRecDepth 100000 in
theorem wsr_M_7 : Cond.stringRef "TwoCalendarsModel" 182 "leap" ∈ lw_tbl := List.mem_of_getElem? (i := 1446) (by decide +kernel)
set_option maxRecDepth 100000 in
theorem wsr_M_8 : Cond.stringRef "TwoCalendarsModel" 198 "in" ∈ lw_tbl := List.mem_of_getElem? (i := 1447) (by decide +kernel)
set_option maxRecDepth 100000 in
theorem wsr_M_9 : Cond.stringRef "TwoCalendarsModel" 199 "adds" ∈ lw_tbl := List.mem_of_getElem? (i := 1448) (by decide +kernel)
set_option maxRecDepth 100000 in
theorem wsr_M_11 : Cond.stringRef "TwoCalendarsModel" 204 "for" ∈ lw_tbl := List.mem_of_getElem? (i := 1457) (by decide +kernel)
set_option maxRecDepth 100000 in
theorem wsr_M_13 : Cond.stringRef "TwoCalendarsModel" 206 "to" ∈ lw_tbl := List.mem_of_getElem? (i := 1462) (by decide +kernel)
set_option maxRecDepth 100000 in
theorem wls_1 : Cond.laysStatic "java/lang/String" "COMPACT_STRINGS" "Z" ∈ lw_tbl := List.mem_of_getElem? (i := 517) (by decide +kernel)
set_option maxRecDepth 100000 in
theorem wls_2 : Cond.laysStatic "jdk/internal/util/Preconditions" "SIOOBE_FORMATTER" "Ljava/util/function/BiFunction;" ∈ lw_tbl := List.mem_of_getElem? (i := 533) (by decide +kernel)
set_option maxRecDepth 100000 in
theorem wis_1 : Cond.initialized "java/lang/String" ∈ lw_tbl := List.mem_of_getElem? (i := 90) (by decide +kernel)
set_option maxRecDepth 100000 in
theorem wis_2 : Cond.initialized "jdk/internal/util/Preconditions" ∈ lw_tbl := List.mem_of_getElem? (i := 92) (by decide +kernel)
def idR_ : List Nat := [56, 97, 65, 116, 120, 124, 128, 134, 138, 146, 77, 157, 85, 163]
def idM_ : List Nat := [223, 225, 208, 184, 189, 191, 193, 182, 198, 199, 210, 204, 212, 206]
def tmR_ (i : Nat) : Term := .string "TwoCalendars$Reader" (idR_.getD i 0)
def tmM_ (i : Nat) : Term := .string "TwoCalendarsModel" (idM_.getD i 0)
set_option maxRecDepth 100000 in
set_option maxHeartbeats 8000000 in
theorem sx_ex {args : Array Value} {s : State} (h : (Jvm.Cond.and given_1 narrow_1).before args s = true) : ∀ i : Nat, i < 14 → (Cond.exactly (tmR_ i) "java/lang/String").before args s = true := by
  intro i hi
  have hs := flat_of_before _ h
  match i, hi with
  | 0, _ => exact hs _ (by decide +kernel)
  | 1, _ => exact hs _ (by decide +kernel)
  | 2, _ => exact hs _ (by decide +kernel)
  | 3, _ => exact hs _ (by decide +kernel)
  | 4, _ => exact hs _ (by decide +kernel)
  | 5, _ => exact hs _ (by decide +kernel)
  | 6, _ => exact hs _ (by decide +kernel)
  | 7, _ => exact hs _ (by decide +kernel)
  | 8, _ => exact hs _ (by decide +kernel)
  | 9, _ => exact hs _ (by decide +kernel)
  | 10, _ => exact hs _ (by decide +kernel)
  | 11, _ => exact hs _ (by decide +kernel)
  | 12, _ => exact hs _ (by decide +kernel)
  | 13, _ => exact hs _ (by decide +kernel)
  | i + 14, hi => omega
set_option maxRecDepth 100000 in
set_option maxHeartbeats 8000000 in
theorem sx_exM {args : Array Value} {s : State} (h : (Jvm.Cond.and given_1 narrow_1).before args s = true) : ∀ i : Nat, i < 14 → (Cond.exactly (tmM_ i) "java/lang/String").before args s = true := by
  intro i hi
  have hs := flat_of_before _ h
  match i, hi with
  | 0, _ => exact hs _ (by decide +kernel)
  | 1, _ => exact hs _ (by decide +kernel)
  | 2, _ => exact hs _ (by decide +kernel)
  | 3, _ => exact hs _ (by decide +kernel)
  | 4, _ => exact hs _ (by decide +kernel)
  | 5, _ => exact hs _ (by decide +kernel)
  | 6, _ => exact hs _ (by decide +kernel)
  | 7, _ => exact hs _ (by decide +kernel)
  | 8, _ => exact hs _ (by decide +kernel)
  | 9, _ => exact hs _ (by decide +kernel)
  | 10, _ => exact hs _ (by decide +kernel)
  | 11, _ => exact hs _ (by decide +kernel)
  | 12, _ => exact hs _ (by decide +kernel)
  | 13, _ => exact hs _ (by decide +kernel)
  | i + 14, hi => omega
set_option maxRecDepth 100000 in
set_option maxHeartbeats 8000000 in
theorem sx_eq {args : Array Value} {s : State} (h : (Jvm.Cond.and given_1 narrow_1).before args s = true) : ∀ i : Nat, i < 14 → (Cond.eq (tmR_ i) (tmM_ i)).before args s = true := by
  intro i hi
  have hs := flat_of_before _ h
  match i, hi with
  | 0, _ => exact hs _ (by decide +kernel)
  | 1, _ => exact hs _ (by decide +kernel)
  | 2, _ => exact hs _ (by decide +kernel)
  | 3, _ => exact hs _ (by decide +kernel)
  | 4, _ => exact hs _ (by decide +kernel)
  | 5, _ => exact hs _ (by decide +kernel)
  | 6, _ => exact hs _ (by decide +kernel)
  | 7, _ => exact hs _ (by decide +kernel)
  | 8, _ => exact hs _ (by decide +kernel)
  | 9, _ => exact hs _ (by decide +kernel)
  | 10, _ => exact hs _ (by decide +kernel)
  | 11, _ => exact hs _ (by decide +kernel)
  | 12, _ => exact hs _ (by decide +kernel)
  | 13, _ => exact hs _ (by decide +kernel)
  | i + 14, hi => omega
set_option maxRecDepth 100000 in
set_option maxHeartbeats 8000000 in
theorem sx_co {args : Array Value} {s : State} (h : (Jvm.Cond.and given_1 narrow_1).before args s = true) : ∀ i : Nat, i < 14 → (Cond.eq (.field (tmR_ i) "java/lang/String" "coder" "B") (.int 0)).before args s = true := by
  intro i hi
  have hs := flat_of_before _ h
  match i, hi with
  | 0, _ => exact hs _ (by decide +kernel)
  | 1, _ => exact hs _ (by decide +kernel)
  | 2, _ => exact hs _ (by decide +kernel)
  | 3, _ => exact hs _ (by decide +kernel)
  | 4, _ => exact hs _ (by decide +kernel)
  | 5, _ => exact hs _ (by decide +kernel)
  | 6, _ => exact hs _ (by decide +kernel)
  | 7, _ => exact hs _ (by decide +kernel)
  | 8, _ => exact hs _ (by decide +kernel)
  | 9, _ => exact hs _ (by decide +kernel)
  | 10, _ => exact hs _ (by decide +kernel)
  | 11, _ => exact hs _ (by decide +kernel)
  | 12, _ => exact hs _ (by decide +kernel)
  | 13, _ => exact hs _ (by decide +kernel)
  | i + 14, hi => omega
set_option maxRecDepth 100000 in
set_option maxHeartbeats 8000000 in
theorem sx_ar {args : Array Value} {s : State} (h : (Jvm.Cond.and given_1 narrow_1).before args s = true) : ∀ i : Nat, i < 14 → (Cond.arrayOf (.field (tmR_ i) "java/lang/String" "value" "[B") .byte).before args s = true := by
  intro i hi
  have hs := flat_of_before _ h
  match i, hi with
  | 0, _ => exact hs _ (by decide +kernel)
  | 1, _ => exact hs _ (by decide +kernel)
  | 2, _ => exact hs _ (by decide +kernel)
  | 3, _ => exact hs _ (by decide +kernel)
  | 4, _ => exact hs _ (by decide +kernel)
  | 5, _ => exact hs _ (by decide +kernel)
  | 6, _ => exact hs _ (by decide +kernel)
  | 7, _ => exact hs _ (by decide +kernel)
  | 8, _ => exact hs _ (by decide +kernel)
  | 9, _ => exact hs _ (by decide +kernel)
  | 10, _ => exact hs _ (by decide +kernel)
  | 11, _ => exact hs _ (by decide +kernel)
  | 12, _ => exact hs _ (by decide +kernel)
  | 13, _ => exact hs _ (by decide +kernel)
  | i + 14, hi => omega
set_option maxRecDepth 100000 in
set_option maxHeartbeats 8000000 in
theorem sx_le {args : Array Value} {s : State} (h : (Jvm.Cond.and given_1 narrow_1).before args s = true) : ∀ i : Nat, i < 14 → (Cond.eq (.length (.field (tmR_ i) "java/lang/String" "value" "[B")) (.int (Int32.ofNat (lenS_.getD i 0)))).before args s = true := by
  intro i hi
  have hs := flat_of_before _ h
  match i, hi with
  | 0, _ => exact hs _ (by decide +kernel)
  | 1, _ => exact hs _ (by decide +kernel)
  | 2, _ => exact hs _ (by decide +kernel)
  | 3, _ => exact hs _ (by decide +kernel)
  | 4, _ => exact hs _ (by decide +kernel)
  | 5, _ => exact hs _ (by decide +kernel)
  | 6, _ => exact hs _ (by decide +kernel)
  | 7, _ => exact hs _ (by decide +kernel)
  | 8, _ => exact hs _ (by decide +kernel)
  | 9, _ => exact hs _ (by decide +kernel)
  | 10, _ => exact hs _ (by decide +kernel)
  | 11, _ => exact hs _ (by decide +kernel)
  | 12, _ => exact hs _ (by decide +kernel)
  | 13, _ => exact hs _ (by decide +kernel)
  | i + 14, hi => omega
set_option maxRecDepth 100000 in
set_option maxHeartbeats 8000000 in
theorem sx_el {args : Array Value} {s : State} (h : (Jvm.Cond.and given_1 narrow_1).before args s = true) : ∀ i : Nat, i < 14 → ∀ j : Nat, j < lenS_.getD i 0 → (Cond.eq (.elem (.field (tmR_ i) "java/lang/String" "value" "[B") (.int (Int32.ofNat j))) (.int ((bytS_.getD i []).getD j 0))).before args s = true := by
  intro i hi
  have hs := flat_of_before _ h
  match i, hi with
  | 0, _ => exact fun j hj => match j, hj with
    | 0, _ => hs _ (by decide +kernel)
    | 1, _ => hs _ (by decide +kernel)
    | 2, _ => hs _ (by decide +kernel)
    | j + 3, hj => absurd hj (by show ¬ (j + 3 < 3); omega)
  | 1, _ => exact fun j hj => match j, hj with
    | 0, _ => hs _ (by decide +kernel)
    | 1, _ => hs _ (by decide +kernel)
    | 2, _ => hs _ (by decide +kernel)
    | 3, _ => hs _ (by decide +kernel)
    | j + 4, hj => absurd hj (by show ¬ (j + 4 < 4); omega)
  | 2, _ => exact fun j hj => match j, hj with
    | 0, _ => hs _ (by decide +kernel)
    | 1, _ => hs _ (by decide +kernel)
    | 2, _ => hs _ (by decide +kernel)
    | 3, _ => hs _ (by decide +kernel)
    | j + 4, hj => absurd hj (by show ¬ (j + 4 < 4); omega)
  | 3, _ => exact fun j hj => match j, hj with
    | 0, _ => hs _ (by decide +kernel)
    | 1, _ => hs _ (by decide +kernel)
    | 2, _ => hs _ (by decide +kernel)
    | 3, _ => hs _ (by decide +kernel)
    | j + 4, hj => absurd hj (by show ¬ (j + 4 < 4); omega)
  | 4, _ => exact fun j hj => match j, hj with
    | 0, _ => hs _ (by decide +kernel)
    | 1, _ => hs _ (by decide +kernel)
    | 2, _ => hs _ (by decide +kernel)
    | 3, _ => hs _ (by decide +kernel)
    | j + 4, hj => absurd hj (by show ¬ (j + 4 < 4); omega)
  | 5, _ => exact fun j hj => match j, hj with
    | 0, _ => hs _ (by decide +kernel)
    | 1, _ => hs _ (by decide +kernel)
    | 2, _ => hs _ (by decide +kernel)
    | 3, _ => hs _ (by decide +kernel)
    | 4, _ => hs _ (by decide +kernel)
    | j + 5, hj => absurd hj (by show ¬ (j + 5 < 5); omega)
  | 6, _ => exact fun j hj => match j, hj with
    | 0, _ => hs _ (by decide +kernel)
    | 1, _ => hs _ (by decide +kernel)
    | 2, _ => hs _ (by decide +kernel)
    | 3, _ => hs _ (by decide +kernel)
    | j + 4, hj => absurd hj (by show ¬ (j + 4 < 4); omega)
  | 7, _ => exact fun j hj => match j, hj with
    | 0, _ => hs _ (by decide +kernel)
    | 1, _ => hs _ (by decide +kernel)
    | 2, _ => hs _ (by decide +kernel)
    | 3, _ => hs _ (by decide +kernel)
    | j + 4, hj => absurd hj (by show ¬ (j + 4 < 4); omega)
  | 8, _ => exact fun j hj => match j, hj with
    | 0, _ => hs _ (by decide +kernel)
    | 1, _ => hs _ (by decide +kernel)
    | j + 2, hj => absurd hj (by show ¬ (j + 2 < 2); omega)
  | 9, _ => exact fun j hj => match j, hj with
    | 0, _ => hs _ (by decide +kernel)
    | 1, _ => hs _ (by decide +kernel)
    | 2, _ => hs _ (by decide +kernel)
    | 3, _ => hs _ (by decide +kernel)
    | j + 4, hj => absurd hj (by show ¬ (j + 4 < 4); omega)
  | 10, _ => exact fun j hj => match j, hj with
    | 0, _ => hs _ (by decide +kernel)
    | 1, _ => hs _ (by decide +kernel)
    | 2, _ => hs _ (by decide +kernel)
    | 3, _ => hs _ (by decide +kernel)
    | 4, _ => hs _ (by decide +kernel)
    | j + 5, hj => absurd hj (by show ¬ (j + 5 < 5); omega)
  | 11, _ => exact fun j hj => match j, hj with
    | 0, _ => hs _ (by decide +kernel)
    | 1, _ => hs _ (by decide +kernel)
    | 2, _ => hs _ (by decide +kernel)
    | j + 3, hj => absurd hj (by show ¬ (j + 3 < 3); omega)
  | 12, _ => exact fun j hj => match j, hj with
    | 0, _ => hs _ (by decide +kernel)
    | 1, _ => hs _ (by decide +kernel)
    | 2, _ => hs _ (by decide +kernel)
    | 3, _ => hs _ (by decide +kernel)
    | 4, _ => hs _ (by decide +kernel)
    | j + 5, hj => absurd hj (by show ¬ (j + 5 < 5); omega)
  | 13, _ => exact fun j hj => match j, hj with
    | 0, _ => hs _ (by decide +kernel)
    | 1, _ => hs _ (by decide +kernel)
    | j + 2, hj => absurd hj (by show ¬ (j + 2 < 2); omega)
  | i + 14, hi => omega
theorem sx_all {args : Array Value} {s : State} (h : (Jvm.Cond.and given_1 narrow_1).before args s = true) {A : Nat → Prop} (hA : ∀ a : Nat, a < s.heap.size → ¬ A a) : ∃ ad : Nat → Nat × Nat, ∀ i : Nat, i < 14 → (tmR_ i).eval args s none [] s = some (.ref (ad i).1) ∧ va_O "java/lang/String" (ad i).1 A s s.heap ∧ va_OF "java/lang/String" "coder" "B" (.int 0) (ad i).1 A s s.heap ∧ va_OF "java/lang/String" "value" "[B" (.ref (ad i).2) (ad i).1 A s s.heap ∧ va_T .byte (ad i).2 (lenS_.getD i 0) (fun j => .int ((bytS_.getD i []).getD j 0)) A s s.heap := by
  have each : ∀ i : Nat, ∃ q : Nat × Nat, i < 14 → (tmR_ i).eval args s none [] s = some (.ref q.1) ∧ va_O "java/lang/String" q.1 A s s.heap ∧ va_OF "java/lang/String" "coder" "B" (.int 0) q.1 A s s.heap ∧ va_OF "java/lang/String" "value" "[B" (.ref q.2) q.1 A s s.heap ∧ va_T .byte q.2 (lenS_.getD i 0) (fun j => .int ((bytS_.getD i []).getD j 0)) A s s.heap := by
    intro i
    by_cases hi : i < 14
    · have hlen : lenS_.getD i 0 < 2 ^ 31 := by
        have := lenS_ok i hi
        omega
      obtain ⟨r, cl, ce, kk, g1, g2, g3, -, g5, g6, -⟩ := Cond.exactly_spec (args := args) (first := s) (o := none) (s := s) (idx := []) (sx_ex h i hi)
      obtain ⟨t, ht, hT⟩ := va_Tof (f := fun j => .int ((bytS_.getD i []).getD j 0)) (A := A) hlen (sx_ar h i hi) (va_eqt (sx_le h i hi)) (fun j hj => va_eqt (sx_el h i hi j hj)) hA
      exact ⟨(r, t), fun _ => ⟨g1, ⟨ce, g3, g5, by rw [g6]; exact g2, hA r (Array.getElem?_eq_some_iff.mp g3).1⟩, vk_OFof g1 (va_eqt (sx_co h i hi)) hA, vk_OFof g1 ht hA, hT⟩⟩
    · exact ⟨(0, 0), fun q => absurd q hi⟩
  exact Classical.axiomOfChoice each
set_option maxRecDepth 100000 in
theorem sx_df : ∀ i : Nat, i < 14 → ∀ j : Nat, j < 14 → i = j ∨ lenS_.getD i 0 ≠ lenS_.getD j 0 ∨ ∃ k : Fin 5, k.1 < lenS_.getD i 0 ∧ k.1 < lenS_.getD j 0 ∧ (bytS_.getD i []).getD k.1 0 ≠ (bytS_.getD j []).getD k.1 0 := by decide +kernel
theorem sx_inj {s : State} {A : Nat → Prop} {a t1 t2 n1 n2 : Nat} {f1 f2 : Nat → Int32} (h1 : va_OF "java/lang/String" "value" "[B" (.ref t1) a A s s.heap) (h2 : va_OF "java/lang/String" "value" "[B" (.ref t2) a A s s.heap) (g1 : va_T .byte t1 n1 (fun j => .int (f1 j)) A s s.heap) (g2 : va_T .byte t2 n2 (fun j => .int (f2 j)) A s s.heap) : Int32.ofNat n1 = Int32.ofNat n2 ∧ ∀ k : Nat, k < n1 → k < n2 → f1 k = f2 k := by
  obtain ⟨cf, kc, fi, f, ce, q1, -, q3, -, q5, -⟩ := h1
  obtain ⟨cf', kc', fi', f', ce', r1, -, r3, -, r5, -⟩ := h2
  cases q1.symm.trans r1
  cases q3.symm.trans r3
  cases q5.symm.trans r5
  obtain ⟨d, w1, -, -, -, w5, w6, -⟩ := g1
  obtain ⟨d', v1, -, -, -, v5, v6, -⟩ := g2
  cases w1.symm.trans v1
  refine ⟨w5.symm.trans v5, fun k k1 k2 => ?_⟩
  have e := (w6 k k1).symm.trans (v6 k k2)
  exact Value.int.inj (Option.some.inj e)
theorem lenS_i : ∀ i : Nat, i < 14 → ∀ j : Nat, j < 14 → Int32.ofNat (lenS_.getD i 0) = Int32.ofNat (lenS_.getD j 0) → lenS_.getD i 0 = lenS_.getD j 0 := by decide +kernel
theorem sx_S {args : Array Value} {s : State} (h : (Jvm.Cond.and given_1 narrow_1).before args s = true) {A : Nat → Prop} (hA : ∀ a : Nat, a < s.heap.size → ¬ A a) : ∃ ad : Nat → Nat × Nat, vk_S 14 lenS_ bytS_ (fun i => (ad i).1) (fun i => (ad i).2) A s s.heap ∧ (∀ i : Nat, i < 14 → (tmR_ i).eval args s none [] s = some (.ref (ad i).1)) ∧ ∀ i : Nat, i < 14 → (tmM_ i).eval args s none [] s = some (.ref (ad i).1) := by
  obtain ⟨ad, had⟩ := sx_all h hA
  refine ⟨ad, ⟨fun i hi => (had i hi).2, fun i j hi hj e => ?_⟩, fun i hi => (had i hi).1, fun i hi => ?_⟩
  · have e : (ad i).1 = (ad j).1 := e
    have di := (had i hi).2.2.2
    have dj := (had j hj).2.2.2
    rw [e] at di
    obtain ⟨c1, c2⟩ := sx_inj di.1 dj.1 di.2 dj.2
    rcases sx_df i hi j hj with q | q | ⟨k, k1, k2, k3⟩
    · exact q
    · exact absurd (lenS_i i hi j hj c1) q
    · exact absurd (c2 k.1 k1 k2) k3
  · obtain ⟨r, -, -, -, g1, -⟩ := Cond.exactly_spec (args := args) (first := s) (o := none) (s := s) (idx := []) (sx_exM h i hi)
    have e := Cond.eq_refs (args := args) (first := s) (t := s) (out := none) (idx := []) (sx_eq h i hi) g1 rfl
    rw [(had i hi).1] at e
    cases e
    exact g1
theorem sx_XS {args : Array Value} {s : State} (h : (Jvm.Cond.and given_1 narrow_1).before args s = true) (hts : ∀ w ∈ lw_tbl, w.before args s = true) {A : Nat → Prop} (hA : ∀ a : Nat, a < s.heap.size → ¬ A a) (b : Nat) : ∃ cs : Nat → Nat, cs 0 = b ∧ XS_ cs A s := by
  obtain ⟨ad, hS, hR, hM⟩ := sx_S h hA
  have hs := flat_of_before _ h
  refine ⟨fun k => match k with | 0 => b | k + 1 => (ad k).1, rfl, ⟨fun i => (ad i).2, hS⟩, fun q hq => ?_, va_Zof (hts _ wls_1) (hts _ wis_1) (va_eqt (hs (Cond.eq (.static "java/lang/String" "COMPACT_STRINGS" "Z") (.int 1)) (by decide +kernel))) hA, va_Zqof (hts _ wls_2) (hts _ wis_2) (hs (Cond.isRef (.static "jdk/internal/util/Preconditions" "SIOOBE_FORMATTER" "Ljava/util/function/BiFunction;")) (by decide +kernel)) hA⟩
  simp only [strS_, List.mem_cons, List.not_mem_nil, or_false] at hq
  rcases hq with rfl | rfl | rfl | rfl | rfl | rfl | rfl | rfl | rfl | rfl | rfl | rfl | rfl | rfl | rfl | rfl | rfl | rfl | rfl | rfl | rfl | rfl | rfl | rfl | rfl | rfl | rfl | rfl
  · exact vk_R.of (hts _ wsr_R_0) (hR 0 (by decide))
  · exact vk_R.of (hts _ wsr_R_1) (hR 1 (by decide))
  · exact vk_R.of (hts _ wsr_R_2) (hR 2 (by decide))
  · exact vk_R.of (hts _ wsr_R_3) (hR 3 (by decide))
  · exact vk_R.of (hts _ wsr_R_4) (hR 4 (by decide))
  · exact vk_R.of (hts _ wsr_R_5) (hR 5 (by decide))
  · exact vk_R.of (hts _ wsr_R_6) (hR 6 (by decide))
  · exact vk_R.of (hts _ wsr_R_7) (hR 7 (by decide))
  · exact vk_R.of (hts _ wsr_R_8) (hR 8 (by decide))
  · exact vk_R.of (hts _ wsr_R_9) (hR 9 (by decide))
  · exact vk_R.of (hts _ wsr_R_10) (hR 10 (by decide))
  · exact vk_R.of (hts _ wsr_R_11) (hR 11 (by decide))
  · exact vk_R.of (hts _ wsr_R_12) (hR 12 (by decide))
  · exact vk_R.of (hts _ wsr_R_13) (hR 13 (by decide))
  · exact vk_R.of (hts _ wsr_M_0) (hM 0 (by decide))
  · exact vk_R.of (hts _ wsr_M_1) (hM 1 (by decide))
  · exact vk_R.of (hts _ wsr_M_2) (hM 2 (by decide))
  · exact vk_R.of (hts _ wsr_M_10) (hM 10 (by decide))
  · exact vk_R.of (hts _ wsr_M_12) (hM 12 (by decide))
  · exact vk_R.of (hts _ wsr_M_3) (hM 3 (by decide))
  · exact vk_R.of (hts _ wsr_M_4) (hM 4 (by decide))
  · exact vk_R.of (hts _ wsr_M_5) (hM 5 (by decide))
  · exact vk_R.of (hts _ wsr_M_6) (hM 6 (by decide))
  · exact vk_R.of (hts _ wsr_M_7) (hM 7 (by decide))
  · exact vk_R.of (hts _ wsr_M_8) (hM 8 (by decide))
  · exact vk_R.of (hts _ wsr_M_9) (hM 9 (by decide))
  · exact vk_R.of (hts _ wsr_M_11) (hM 11 (by decide))
  · exact vk_R.of (hts _ wsr_M_13) (hM 13 (by decide))
