theorem rpP_pl {X : Nat → Nat} {L p nH nV : Nat} {f1 f2 f4 f5 f7 : Nat → Nat} : (rpP X L p nH nV f1 f2 f4 f5 f7).2.1 ≤ p + 6 := by
  have e1 : p ≤ p + 6 := by omega
  have e2 : p + 1 ≤ p + 6 := by omega
  have e3 : p + 1 + 1 ≤ p + 6 := by omega
  have e4 : p + 1 + 1 + 1 ≤ p + 6 := by omega
  have e5 : p + 1 + 1 + 1 + 1 ≤ p + 6 := by omega
  unfold rpP
  by_cases h1 : X p = 104 ∧ nH < 6
  · rw [if_pos h1]
    unfold rpH
    split
    · exact e2
    · split
      · exact e3
      · exact e4
  · rw [if_neg h1]
    by_cases h2 : X p = 118 ∧ nV < 5
    · rw [if_pos h2]
      unfold rpV
      split
      · exact e2
      · split
        · exact e3
        · exact e4
    · rw [if_neg h2]
      by_cases h3 : X p = 108 ∧ 0 < nH ∧ 0 < nV
      · rw [if_pos h3]
        unfold rpL
        split
        · exact e2
        · split
          · exact e3
          · split
            · exact e4
            · exact e5
      · rw [if_neg h3]
        by_cases h4 : X p = 115 ∧ 0 < nH
        · rw [if_pos h4]
          unfold rpS
          split
          · exact e2
          · exact e3
        · rw [if_neg h4]
          exact e1
set_option maxRecDepth 20000 in
theorem u_71 : Cond.code yX1_clear cX1_clear 1 none ∈ wsL_law := List.mem_of_getElem? (i := 66) (by decide +kernel)
set_option maxRecDepth 20000 in
theorem u_69 : Cond.instanceMethod yX1_clear ∈ wsL_law := List.mem_of_getElem? (i := 64) (by decide +kernel)
set_option maxRecDepth 20000 in
theorem u_70 : Cond.selects RX1 yX1_clear yX1_clear ∈ wsL_law := List.mem_of_getElem? (i := 65) (by decide +kernel)
theorem hdV_X1_clear : yX1_clear.cls = RX1 ∧ yX1_clear.cls ≠ "java/lang/invoke/MethodHandle" ∧ yX1_clear.cls ≠ "java/lang/invoke/VarHandle" ∧ (parseMethodDescriptor yX1_clear.desc).map (fun d => d.parameters.length) = some 0 := by decide +kernel
