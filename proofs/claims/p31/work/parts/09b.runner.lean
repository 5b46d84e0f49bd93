def r5X (r : Nat) (a b : Nat → Nat) : va_W := [(r, .inr (5, [.ref (a 0), .ref (b 0)]))]
def r6X (r : Nat) (a b : Nat → Nat) (x : Int64) : va_W := [(r, .inr (6, [.ref (a 0), .ref (b 0), .long x]))]
theorem hhI {h n : Nat} (hh : h < 2 ^ 20) (hn : n < 2 ^ 20) : (0 ≤ nI h ∧ nI h < nI n) ↔ h < n :=
  ⟨fun q => (nI_ltI (by omega) (by omega)).mp q.2, fun q => ⟨nI_pos' (by omega), (nI_ltI (by omega) (by omega)).mpr q⟩⟩
set_option maxRecDepth 20000 in
theorem u_110 : Cond.fieldLink RX5 12 "HarvestBoxes$ScriptRunner" "farm" "LHarvestBoxes$Farm;" ∈ wsL_law := List.mem_of_getElem? (i := 105) (by decide +kernel)
set_option maxRecDepth 20000 in
theorem u_386 : Cond.code yX1_hasHouse cX1_hasHouse 2 (some .boolean) ∈ wsL_law := List.mem_of_getElem? (i := 381) (by decide +kernel)
set_option maxRecDepth 20000 in
theorem u_384 : Cond.instanceMethod yX1_hasHouse ∈ wsL_law := List.mem_of_getElem? (i := 379) (by decide +kernel)
set_option maxRecDepth 20000 in
theorem u_385 : Cond.selects RX1 yX1_hasHouse yX1_hasHouse ∈ wsL_law := List.mem_of_getElem? (i := 380) (by decide +kernel)
set_option maxRecDepth 20000 in
theorem u_421 : Cond.code yX1_hasVegetable cX1_hasVegetable 2 (some .boolean) ∈ wsL_law := List.mem_of_getElem? (i := 355) (by decide +kernel)
set_option maxRecDepth 20000 in
theorem u_419 : Cond.instanceMethod yX1_hasVegetable ∈ wsL_law := List.mem_of_getElem? (i := 353) (by decide +kernel)
set_option maxRecDepth 20000 in
theorem u_420 : Cond.selects RX1 yX1_hasVegetable yX1_hasVegetable ∈ wsL_law := List.mem_of_getElem? (i := 354) (by decide +kernel)
theorem hdV_X1_hasHouse : yX1_hasHouse.cls = RX1 ∧ yX1_hasHouse.cls ≠ "java/lang/invoke/MethodHandle" ∧ yX1_hasHouse.cls ≠ "java/lang/invoke/VarHandle" ∧ (parseMethodDescriptor yX1_hasHouse.desc).map (fun d => d.parameters.length) = some 1 := by decide +kernel
theorem hdV_X1_hasVegetable : yX1_hasVegetable.cls = RX1 ∧ yX1_hasVegetable.cls ≠ "java/lang/invoke/MethodHandle" ∧ yX1_hasVegetable.cls ≠ "java/lang/invoke/VarHandle" ∧ (parseMethodDescriptor yX1_hasVegetable.desc).map (fun d => d.parameters.length) = some 1 := by decide +kernel
set_option maxRecDepth 20000 in
theorem u_44 : Cond.initialized RX5 ∈ wsL_law := List.mem_of_getElem? (i := 39) (by decide +kernel)
set_option maxRecDepth 20000 in
theorem u_698 : Cond.code yX1_giveAway cX1_giveAway 4 none ∈ wsL_law := List.mem_of_getElem? (i := 415) (by decide +kernel)
set_option maxRecDepth 20000 in
theorem u_696 : Cond.instanceMethod yX1_giveAway ∈ wsL_law := List.mem_of_getElem? (i := 413) (by decide +kernel)
set_option maxRecDepth 20000 in
theorem u_697 : Cond.selects RX1 yX1_giveAway yX1_giveAway ∈ wsL_law := List.mem_of_getElem? (i := 414) (by decide +kernel)
theorem hdV_X1_giveAway : yX1_giveAway.cls = RX1 ∧ yX1_giveAway.cls ≠ "java/lang/invoke/MethodHandle" ∧ yX1_giveAway.cls ≠ "java/lang/invoke/VarHandle" ∧ (parseMethodDescriptor yX1_giveAway.desc).map (fun d => d.parameters.length) = some 3 := by decide +kernel
