def harvT (T : Nat → Nat → Nat) (x : Int64) : Nat → Nat → Nat := va_up T 5 (tabN (fun i => drR (itX x (i + 1)) % 20) (T 0 1) (T 5))
def housT (T : Nat → Nat → Nat) (x : Int64) : Nat → Nat → Nat := va_up (va_up T 4 (tabN (fun h => if drR (itX x (h + 1)) % 4 = 0 then 1 else 0) (T 0 0) (T 4))) 2 (tabN (fun h => if drR (itX x (h + 1)) % 4 = 1 then 0 else T 2 h) (T 0 0) (T 2))
def weekT (T : Nat → Nat → Nat) (x : Int64) : Nat → Nat → Nat := packT (housT (harvT T x) (itX x (T 0 1)))
def smN (T : Nat → Nat → Nat) (x : Int64) : Nat → (Nat → Nat → Nat) × Int64 × Nat
  | 0 => (T, x, 0)
  | n + 1 => (weekT (smN T x n).1 (smN T x n).2.1, itX (itX (smN T x n).2.1 ((smN T x n).1 0 1)) ((smN T x n).1 0 0), (smN T x n).2.2 + weekT (smN T x n).1 (smN T x n).2.1 0 5)
def mn9 (c : Int32) : Int32 := if c < nI 999 then c else nI 999
def smR (T : Nat → Nat → Nat) (x : Int64) (n : Nat) : Int32 := nI 1000 * mn9 (nI (sumN ((smN T x n).1 6) ((smN T x n).1 0 1)) - nI (sumN (T 6) (T 0 1))) + mn9 (nI (smN T x n).2.2)
theorem uq_s {α : Type} {f : Nat → α} {k : Nat} {x : α} : va_up f k x k = x := if_pos rfl
theorem uq_n {α : Type} {f : Nat → α} {k j : Nat} {x : α} (h : j ≠ k) : va_up f k x j = f j := if_neg h
theorem harvT_5 (T : Nat → Nat → Nat) (x : Int64) : harvT T x 5 = tabN (fun i => drR (itX x (i + 1)) % 20) (T 0 1) (T 5) := uq_s
theorem housT_2 (T : Nat → Nat → Nat) (x : Int64) : housT T x 2 = tabN (fun h => if drR (itX x (h + 1)) % 4 = 1 then 0 else T 2 h) (T 0 0) (T 2) := uq_s
theorem housT_4 (T : Nat → Nat → Nat) (x : Int64) : housT T x 4 = tabN (fun h => if drR (itX x (h + 1)) % 4 = 0 then 1 else 0) (T 0 0) (T 4) := (uq_n (by decide)).trans uq_s
theorem FI_harv {T : Nat → Nat → Nat} {x : Int64} (h : FI T) : FI (harvT T x) := by
  obtain ⟨h0, h1, h5, h7, h8, h9⟩ := id h
  refine ⟨h0, h1, fun v hv => ⟨?_, fun hv2 => ?_⟩, h7, h8, h9⟩
  · rw [harvT_5]
    exact tabN_all (P := fun z => z ≤ 40) (fun _ => by omega) (fun _ => (h5 v hv).1)
  · rw [harvT_5]
    have hv3 : T 0 1 ≤ v := hv2
    rw [tabN_out hv3]
    exact (h5 v hv).2 hv3
theorem FI_hous {T : Nat → Nat → Nat} {x : Int64} (h : FI T) : FI (housT T x) := by
  obtain ⟨h0, h1, h5, h7, h8, h9⟩ := id h
  refine ⟨h0, fun j hj => ?_, h5, h7, h8, h9⟩
  obtain ⟨a1, a2, a3, a4, a5, a6⟩ := h1 j hj
  refine ⟨a1, ?_, a3, ?_, a5, fun hj2 => ?_⟩
  · rw [housT_2]
    refine tabN_all (P := fun z => z ≤ 9) (fun _ => ?_) (fun _ => a2)
    split <;> omega
  · rw [housT_4]
    refine tabN_all (P := fun z => z ≤ 1) (fun _ => ?_) (fun _ => a4)
    split <;> omega
  · have hj3 : T 0 0 ≤ j := hj2
    refine ⟨?_, (a6 hj3).2.1, ?_⟩
    · rw [housT_2]
      rw [tabN_out hj3]
      exact (a6 hj3).1
    · rw [housT_4]
      rw [tabN_out hj3]
      exact (a6 hj3).2.2
theorem FI_week {T : Nat → Nat → Nat} {x : Int64} (h : FI T) : FI (weekT T x) := FI_pack (FI_hous (FI_harv h))
set_option maxRecDepth 20000 in
theorem u_295 : Cond.code yX1_copyFrom cX1_copyFrom 2 none ∈ wsL_law := List.mem_of_getElem? (i := 140) (by decide +kernel)
set_option maxRecDepth 20000 in
theorem u_293 : Cond.instanceMethod yX1_copyFrom ∈ wsL_law := List.mem_of_getElem? (i := 138) (by decide +kernel)
set_option maxRecDepth 20000 in
theorem u_294 : Cond.selects RX1 yX1_copyFrom yX1_copyFrom ∈ wsL_law := List.mem_of_getElem? (i := 139) (by decide +kernel)
set_option maxRecDepth 20000 in
theorem u_333 : Cond.code yX1_compostedOfAll cX1_compostedOfAll 3 (some .int) ∈ wsL_law := List.mem_of_getElem? (i := 331) (by decide +kernel)
set_option maxRecDepth 20000 in
theorem u_331 : Cond.instanceMethod yX1_compostedOfAll ∈ wsL_law := List.mem_of_getElem? (i := 329) (by decide +kernel)
set_option maxRecDepth 20000 in
theorem u_332 : Cond.selects RX1 yX1_compostedOfAll yX1_compostedOfAll ∈ wsL_law := List.mem_of_getElem? (i := 330) (by decide +kernel)
set_option maxRecDepth 20000 in
theorem u_122 : Cond.fieldLink RX6 21 "HarvestBoxes$Simulation" "packer" "LHarvestBoxes$Packer;" ∈ wsL_law := List.mem_of_getElem? (i := 117) (by decide +kernel)
set_option maxRecDepth 20000 in
theorem u_575 : Cond.code yX4_packWeek cX4_packWeek 5 none ∈ wsL_law := List.mem_of_getElem? (i := 148) (by decide +kernel)
set_option maxRecDepth 20000 in
theorem u_573 : Cond.instanceMethod yX4_packWeek ∈ wsL_law := List.mem_of_getElem? (i := 146) (by decide +kernel)
set_option maxRecDepth 20000 in
theorem u_574 : Cond.selects RX4 yX4_packWeek yX4_packWeek ∈ wsL_law := List.mem_of_getElem? (i := 147) (by decide +kernel)
theorem hdV_X1_copyFrom : yX1_copyFrom.cls = RX1 ∧ yX1_copyFrom.cls ≠ "java/lang/invoke/MethodHandle" ∧ yX1_copyFrom.cls ≠ "java/lang/invoke/VarHandle" ∧ (parseMethodDescriptor yX1_copyFrom.desc).map (fun d => d.parameters.length) = some 1 := by decide +kernel
theorem hdV_X1_compostedOfAll : yX1_compostedOfAll.cls = RX1 ∧ yX1_compostedOfAll.cls ≠ "java/lang/invoke/MethodHandle" ∧ yX1_compostedOfAll.cls ≠ "java/lang/invoke/VarHandle" ∧ (parseMethodDescriptor yX1_compostedOfAll.desc).map (fun d => d.parameters.length) = some 0 := by decide +kernel
theorem hdV_X4_packWeek : yX4_packWeek.cls = RX4 ∧ yX4_packWeek.cls ≠ "java/lang/invoke/MethodHandle" ∧ yX4_packWeek.cls ≠ "java/lang/invoke/VarHandle" ∧ (parseMethodDescriptor yX4_packWeek.desc).map (fun d => d.parameters.length) = some 1 := by decide +kernel
