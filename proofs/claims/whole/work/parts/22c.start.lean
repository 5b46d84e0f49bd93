/-! The law's entry: the words that hold there. -/
set_option maxRecDepth 20000 in
theorem u_1 : Cond.instantiable RX8 11 ∈ wsL_law := List.mem_of_getElem? (i := 1) (by decide +kernel)
set_option maxRecDepth 20000 in
theorem u_4 : Cond.instantiable RX9 15 ∈ wsL_law := List.mem_of_getElem? (i := 4) (by decide +kernel)
set_option maxRecDepth 20000 in
theorem u_6 : Cond.arrayClass .long ∈ wsL_law := List.mem_of_getElem? (i := 6) (by decide +kernel)
set_option maxRecDepth 20000 in
theorem u_0 : Cond.classLink RL 8 RX8 ∈ wsL_law := List.mem_of_getElem? (i := 0) (by decide +kernel)
set_option maxRecDepth 20000 in
theorem u_8 : Cond.methodLink RL 88 yX8_init ∈ wsL_law := List.mem_of_getElem? (i := 8) (by decide +kernel)
set_option maxRecDepth 20000 in
theorem u_10 : Cond.code yX8_init cX8_init 2 none ∈ wsL_law := List.mem_of_getElem? (i := 10) (by decide +kernel)
set_option maxRecDepth 20000 in
theorem u_9 : Cond.instanceMethod yX8_init ∈ wsL_law := List.mem_of_getElem? (i := 9) (by decide +kernel)
set_option maxRecDepth 20000 in
theorem u_3 : Cond.classLink RL 89 RX9 ∈ wsL_law := List.mem_of_getElem? (i := 3) (by decide +kernel)
set_option maxRecDepth 20000 in
theorem u_125 : Cond.methodLink RL 91 yX9_init ∈ wsL_law := List.mem_of_getElem? (i := 125) (by decide +kernel)
set_option maxRecDepth 20000 in
theorem u_127 : Cond.code yX9_init cX9_init 1 none ∈ wsL_law := List.mem_of_getElem? (i := 127) (by decide +kernel)
set_option maxRecDepth 20000 in
theorem u_126 : Cond.instanceMethod yX9_init ∈ wsL_law := List.mem_of_getElem? (i := 126) (by decide +kernel)
theorem hdI_X8_init : yX8_init.cls ≠ "java/lang/invoke/MethodHandle" ∧ yX8_init.cls ≠ "java/lang/invoke/VarHandle" ∧ (parseMethodDescriptor yX8_init.desc).map (fun d => d.parameters.length) = some 0 := by decide +kernel
theorem hdI_X9_init : yX9_init.cls ≠ "java/lang/invoke/MethodHandle" ∧ yX9_init.cls ≠ "java/lang/invoke/VarHandle" ∧ (parseMethodDescriptor yX9_init.desc).map (fun d => d.parameters.length) = some 0 := by decide +kernel
theorem st_nest : ∀ q ∈ nestW, Cond.methodLinkNest q.1 q.2.1 q.2.2 RX8 ∈ lw_tbl := by decide +kernel
theorem st_AO : Cond.arrayOver (.object cFM) ∈ lw_tbl := by decide +kernel
theorem st_dc : ∀ x ∈ dcW, Cond.declares x ∈ lw_tbl := by decide +kernel
theorem st_cs : ∀ C ∈ csW, Cond.castable C C ∈ lw_tbl := by decide +kernel
theorem st_sr : ∀ q ∈ txW, Cond.stringRef RX8 q.1 q.2 ∈ lw_tbl := by decide +kernel
theorem st_l1 : Cond.laysStatic Bundle.tN "UNASSIGNED_STACK" Bundle.steD ∈ lw_tbl := by decide +kernel
theorem st_l2 : Cond.laysStatic Bundle.tN "SUPPRESSED_SENTINEL" Bundle.listD ∈ lw_tbl := by decide +kernel
theorem st_in : Cond.initialized Bundle.tN ∈ lw_tbl := by decide +kernel
theorem st_r1 : Cond.isRef (.static Bundle.tN "UNASSIGNED_STACK" Bundle.steD) ∈ flatC (Jvm.Cond.and given_1 narrow_1) := by decide +kernel
theorem st_r2 : Cond.isRef (.static Bundle.tN "SUPPRESSED_SENTINEL" Bundle.listD) ∈ flatC (Jvm.Cond.and given_1 narrow_1) := by decide +kernel
theorem st_nc : ∀ q ∈ ncW, Cond.not (.castable q.1 q.2) ∈ flatC (Jvm.Cond.and given_1 narrow_1) := by decide +kernel
theorem st_ex : ∀ q ∈ txW, Cond.exactly (.string RX8 q.1) "java/lang/String" ∈ flatC (Jvm.Cond.and given_1 narrow_1) := by decide +kernel
theorem st_KX {b : Addr} {s : State} (hts : ∀ w ∈ lw_tbl, w.before #[Value.ref b] s = true) (hgv : (Jvm.Cond.and given_1 narrow_1).before #[Value.ref b] s = true) : KX (AS s) s s.heap := by
  have hf := flat_of_before _ hgv
  have hA : ∀ a : Nat, a < s.heap.size → ¬ AS s a := fun a h => Nat.not_le.mpr h
  refine ⟨⟨vx_Zqof (hts _ st_l1) (hts _ st_in) (hf _ st_r1) hA, vx_Zqof (hts _ st_l2) (hts _ st_in) (hf _ st_r2) hA⟩, fun q hq => ?_, fun x hx => va_Nw.of rfl (hts _ (st_dc x hx)), fun C hC => va_Nw.of rfl (hts _ (st_cs C hC)), fun q hq => va_Nc.of (hf _ (st_nc q hq))⟩
  obtain ⟨a, c, cell, k, q1, -⟩ := Cond.exactly_spec (args := #[Value.ref b]) (first := s) (o := none) (s := s) (idx := []) (hf _ (st_ex q hq))
  exact ⟨a, vk_R.of (hts _ (st_sr q hq)) q1⟩
theorem st_K {b : Addr} {s : State} (hts : ∀ w ∈ lw_tbl, w.before #[Value.ref b] s = true) : ∃ (D : va_G) (cI cZ cF cL : ClassId), KK D (tysX cI cZ cF cL) s := by
  have ht2 : ∀ w ∈ wsL_law, w.before #[Value.ref b] s = true := fun w hw => hts w (wsL_law_in w hw)
  have h : ∀ k : Nat, ∃ z : ClassId × (Nat → Nat), ∀ q : vw_C, vwCl[k]? = some q → u_Kn s q.1 q.2.1 q.2.2 z.1 z.2 := by
    intro k
    match k with
    | 0 => obtain ⟨c0, i0, h0⟩ := u_known (C := RX0) (T := TX0) (N := 2) (n := 2) ht2 inlX0 (ht2 _ u_35); exact ⟨(c0, i0), fun q hq => by cases hq; exact h0⟩
    | 1 => obtain ⟨c0, i0, h0⟩ := u_known (C := RX1) (T := TX1) (N := 14) (n := 14) ht2 inlX1 (ht2 _ u_19); exact ⟨(c0, i0), fun q hq => by cases hq; exact h0⟩
    | 2 => obtain ⟨c0, i0, h0⟩ := u_known (C := RX2) (T := TX2) (N := 3) (n := 3) ht2 inlX2 (ht2 _ u_15); exact ⟨(c0, i0), fun q hq => by cases hq; exact h0⟩
    | 3 => obtain ⟨c0, i0, h0⟩ := u_known (C := RX3) (T := TX3) (N := 3) (n := 3) ht2 inlX3 (ht2 _ u_24); exact ⟨(c0, i0), fun q hq => by cases hq; exact h0⟩
    | 4 => obtain ⟨c0, i0, h0⟩ := u_known (C := RX4) (T := TX4) (N := 4) (n := 4) ht2 inlX4 (ht2 _ u_31); exact ⟨(c0, i0), fun q hq => by cases hq; exact h0⟩
    | 5 => obtain ⟨c0, i0, h0⟩ := u_known (C := RX5) (T := TX5) (N := 2) (n := 2) ht2 inlX5 (ht2 _ u_43); exact ⟨(c0, i0), fun q hq => by cases hq; exact h0⟩
    | 6 => obtain ⟨c0, i0, h0⟩ := u_known (C := RX6) (T := TX6) (N := 3) (n := 3) ht2 inlX6 (ht2 _ u_47); exact ⟨(c0, i0), fun q hq => by cases hq; exact h0⟩
    | 7 => obtain ⟨c0, i0, h0⟩ := u_known (C := RX7) (T := TX7) (N := 5) (n := 5) ht2 inlX7 (ht2 _ u_39); exact ⟨(c0, i0), fun q hq => by cases hq; exact h0⟩
    | 8 => obtain ⟨c0, i0, h0⟩ := u_known (C := RX8) (T := TX8) (N := 11) (n := 11) ht2 inlX8 (ht2 _ u_1); exact ⟨(c0, i0), fun q hq => by cases hq; exact h0⟩
    | 9 => obtain ⟨c0, i0, h0⟩ := u_known (C := RX9) (T := TX9) (N := 15) (n := 15) ht2 inlX9 (ht2 _ u_4); exact ⟨(c0, i0), fun q hq => by cases hq; exact h0⟩
    | k + 10 => exact ⟨(0, fun _ => 0), fun q hq => by cases hq⟩
  obtain ⟨f, hf⟩ := Classical.axiomOfChoice h
  obtain ⟨cI, kI, pI, i1, i2, i3⟩ := Cond.arrayClass_spec (args := #[Value.ref b]) (first := s) (o := none) (s := s) (idx := []) (ht2 _ u_54)
  obtain ⟨cZ, kZ, pZ, z1, z2, z3⟩ := Cond.arrayClass_spec (args := #[Value.ref b]) (first := s) (o := none) (s := s) (idx := []) (ht2 _ u_28)
  obtain ⟨cL, kL, pL, l1, l2, l3⟩ := Cond.arrayClass_spec (args := #[Value.ref b]) (first := s) (o := none) (s := s) (idx := []) (ht2 _ u_6)
  obtain ⟨pF, cF, kF, g1, g2, g3, g4, g5⟩ := Cond.arrayOver_spec (args := #[Value.ref b]) (first := s) (s := s) (o := none) (idx := []) (hts _ st_AO)
  refine ⟨(fun k => (f k).1, fun k => (f k).2), cI, cZ, cF, cL, ⟨fun k q hq => hf k q hq, fun k q hq => ?_⟩, fun q hq => va_Nw.of rfl (hts _ (st_nest q hq))⟩
  match k, hq with
  | 0, hq => cases hq; exact ⟨fun n z => ⟨fun k h => (by cases h), kI, i2, pI, i3⟩, i1⟩
  | 1, hq => cases hq; exact ⟨fun n z => ⟨fun k h => (by cases h), kZ, z2, pZ, z3⟩, z1⟩
  | 2, hq => cases hq; exact ⟨fun n z => ⟨fun k h => (by cases h), kF, g3, pF, g4⟩, kF, pF, g3, g4, g1, g5⟩
  | 3, hq => cases hq; exact ⟨fun n z => ⟨fun k h => (by cases h), kL, l2, pL, l3⟩, l1⟩
  | k + 4, hq => cases hq
theorem FI_T0 : FI T0 := by
  refine ⟨⟨Nat.zero_le _, Nat.zero_le _⟩, fun j _ => ⟨Nat.zero_le _, Nat.zero_le _, Nat.zero_le _, Nat.zero_le _, fun h => absurd (show j < 0 from h) (Nat.not_lt_zero j), fun _ => ⟨rfl, rfl, rfl⟩⟩, fun v _ => ⟨Nat.zero_le _, fun _ => rfl⟩, fun k _ => ?_, ?_, fun _ _ => rfl⟩
  · show 5 ≤ 9
    omega
  · show sumN (fun _ => 0) 30 ≤ 200
    rw [sumN_zero]
    omega
theorem nm6_0 : ∀ k, nm6 0 0 0 0 0 0 k = 0 := fun k => match k with
  | 0 => rfl
  | 1 => rfl
  | 2 => rfl
  | 3 => rfl
  | 4 => rfl
  | _ + 5 => rfl
theorem q0_T0 : q0N = qT T0 := by
  funext k
  show (if 40 ≤ k ∧ k ≤ 69 then 5 else 0) = qN 0 0 0 0 0 0 (fun _ => 0) (fun _ => 0) (fun _ => 0) (fun _ => 0) (fun _ => 0) (fun _ => 0) (fun _ => 5) (fun _ => 0) k
  unfold qN
  rw [nm6_0]
  by_cases h1 : k < 6
  · rw [if_neg (by omega), if_pos h1]
  · rw [if_neg h1]
    by_cases h2 : k < 30
    · rw [if_neg (by omega), if_pos h2]
      split
      · rfl
      · split
        · rfl
        · split <;> rfl
    · rw [if_neg h2]
      by_cases h3 : k < 40
      · rw [if_neg (by omega), if_pos h3]
        split <;> rfl
      · rw [if_neg h3]
        by_cases h4 : k < 70
        · rw [if_pos (by omega), if_pos h4]
        · rw [if_neg (by omega), if_neg h4]
