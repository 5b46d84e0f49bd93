theorem okC_1 {T : Nat → Nat → Nat} {d1 d2 d3 d4 : Nat} (e : d1 = 1) : okC T d1 d2 d3 d4 ↔ (d2 < T 0 1 ∧ 10 * d3 + d4 ≤ 40) := by
  constructor
  · rintro (⟨q, h⟩ | ⟨q, h⟩ | ⟨q, h⟩ | ⟨q, h⟩ | ⟨q, h⟩ | ⟨q, h⟩ | ⟨q, h⟩ | ⟨q, h⟩ | ⟨q, h⟩) <;> first | exact h | (exfalso; omega)
  · intro h; exact Or.inl (⟨e, h⟩)
theorem okC_2 {T : Nat → Nat → Nat} {d1 d2 d3 d4 : Nat} (e : d1 = 2) : okC T d1 d2 d3 d4 ↔ (d2 < T 0 0 ∧ d3 < T 0 1) := by
  constructor
  · rintro (⟨q, h⟩ | ⟨q, h⟩ | ⟨q, h⟩ | ⟨q, h⟩ | ⟨q, h⟩ | ⟨q, h⟩ | ⟨q, h⟩ | ⟨q, h⟩ | ⟨q, h⟩) <;> first | exact h | (exfalso; omega)
  · intro h; exact Or.inr (Or.inl (⟨e, h⟩))
theorem okC_3 {T : Nat → Nat → Nat} {d1 d2 d3 d4 : Nat} (e : d1 = 3) : okC T d1 d2 d3 d4 ↔ (d4 = 0 ∧ d2 < T 0 0 ∧ d3 ≤ 1) := by
  constructor
  · rintro (⟨q, h⟩ | ⟨q, h⟩ | ⟨q, h⟩ | ⟨q, h⟩ | ⟨q, h⟩ | ⟨q, h⟩ | ⟨q, h⟩ | ⟨q, h⟩ | ⟨q, h⟩) <;> first | exact h | (exfalso; omega)
  · intro h; exact Or.inr (Or.inr (Or.inl (⟨e, h⟩)))
theorem okC_4 {T : Nat → Nat → Nat} {d1 d2 d3 d4 : Nat} (e : d1 = 4) : okC T d1 d2 d3 d4 ↔ (d2 = 0 ∧ d3 = 0 ∧ d4 = 0) := by
  constructor
  · rintro (⟨q, h⟩ | ⟨q, h⟩ | ⟨q, h⟩ | ⟨q, h⟩ | ⟨q, h⟩ | ⟨q, h⟩ | ⟨q, h⟩ | ⟨q, h⟩ | ⟨q, h⟩) <;> first | exact h | (exfalso; omega)
  · intro h; exact Or.inr (Or.inr (Or.inr (Or.inl (⟨e, h⟩))))
theorem okC_5 {T : Nat → Nat → Nat} {d1 d2 d3 d4 : Nat} (e : d1 = 5) : okC T d1 d2 d3 d4 ↔ (d4 = 0 ∧ d2 < T 0 0 ∧ 1 ≤ d3 ∧ d3 ≤ T 2 d2) := by
  constructor
  · rintro (⟨q, h⟩ | ⟨q, h⟩ | ⟨q, h⟩ | ⟨q, h⟩ | ⟨q, h⟩ | ⟨q, h⟩ | ⟨q, h⟩ | ⟨q, h⟩ | ⟨q, h⟩) <;> first | exact h | (exfalso; omega)
  · intro h; exact Or.inr (Or.inr (Or.inr (Or.inr (Or.inl (⟨e, h⟩)))))
theorem okC_6 {T : Nat → Nat → Nat} {d1 d2 d3 d4 : Nat} (e : d1 = 6) : okC T d1 d2 d3 d4 ↔ (d2 < T 0 0 ∧ d3 < T 0 1 ∧ 1 ≤ d4 ∧ d4 ≤ T 8 (d2 * 5 + d3)) := by
  constructor
  · rintro (⟨q, h⟩ | ⟨q, h⟩ | ⟨q, h⟩ | ⟨q, h⟩ | ⟨q, h⟩ | ⟨q, h⟩ | ⟨q, h⟩ | ⟨q, h⟩ | ⟨q, h⟩) <;> first | exact h | (exfalso; omega)
  · intro h; exact Or.inr (Or.inr (Or.inr (Or.inr (Or.inr (Or.inl (⟨e, h⟩))))))
theorem okC_7 {T : Nat → Nat → Nat} {d1 d2 d3 d4 : Nat} (e : d1 = 7) : okC T d1 d2 d3 d4 ↔ (d2 < T 0 0 ∧ 10 * d3 + d4 ≤ hap (T 7) (T 8) (T 0 1) d2) := by
  constructor
  · rintro (⟨q, h⟩ | ⟨q, h⟩ | ⟨q, h⟩ | ⟨q, h⟩ | ⟨q, h⟩ | ⟨q, h⟩ | ⟨q, h⟩ | ⟨q, h⟩ | ⟨q, h⟩) <;> first | exact h | (exfalso; omega)
  · intro h; exact Or.inr (Or.inr (Or.inr (Or.inr (Or.inr (Or.inr (Or.inl (⟨e, h⟩)))))))
theorem okC_8 {T : Nat → Nat → Nat} {d1 d2 d3 d4 : Nat} (e : d1 = 8) : okC T d1 d2 d3 d4 ↔ (d2 < T 0 0 ∧ d3 < T 0 1 ∧ d4 ≤ T 8 (d2 * 5 + d3)) := by
  constructor
  · rintro (⟨q, h⟩ | ⟨q, h⟩ | ⟨q, h⟩ | ⟨q, h⟩ | ⟨q, h⟩ | ⟨q, h⟩ | ⟨q, h⟩ | ⟨q, h⟩ | ⟨q, h⟩) <;> first | exact h | (exfalso; omega)
  · intro h; exact Or.inr (Or.inr (Or.inr (Or.inr (Or.inr (Or.inr (Or.inr (Or.inl (⟨e, h⟩))))))))
theorem okC_9 {T : Nat → Nat → Nat} {d1 d2 d3 d4 : Nat} (e : d1 = 9) : okC T d1 d2 d3 d4 ↔ (d3 = 0 ∧ d4 = 0 ∧ d2 ≤ boxN (T 2) (T 4) (T 0 0)) := by
  constructor
  · rintro (⟨q, h⟩ | ⟨q, h⟩ | ⟨q, h⟩ | ⟨q, h⟩ | ⟨q, h⟩ | ⟨q, h⟩ | ⟨q, h⟩ | ⟨q, h⟩ | ⟨q, h⟩) <;> first | exact h | (exfalso; omega)
  · intro h; exact Or.inr (Or.inr (Or.inr (Or.inr (Or.inr (Or.inr (Or.inr (Or.inr (⟨e, h⟩))))))))
theorem okC_no {T : Nat → Nat → Nat} {d1 d2 d3 d4 : Nat} (h1 : ¬ d1 = 1) (h2 : ¬ d1 = 2) (h3 : ¬ d1 = 3) (h4 : ¬ d1 = 4) (h5 : ¬ d1 = 5) (h6 : ¬ d1 = 6) (h7 : ¬ d1 = 7) (h8 : ¬ d1 = 8) (h9 : ¬ d1 = 9) : ¬ okC T d1 d2 d3 d4 := by
  rintro (⟨q, h⟩ | ⟨q, h⟩ | ⟨q, h⟩ | ⟨q, h⟩ | ⟨q, h⟩ | ⟨q, h⟩ | ⟨q, h⟩ | ⟨q, h⟩ | ⟨q, h⟩) <;> exact absurd q (by assumption)
theorem zc {p q : Prop} [Decidable p] [Decidable q] (h : p ↔ q) : (if p then (1 : Int32) else 0) = if q then 1 else 0 := by
  by_cases hp : p
  · rw [if_pos hp, if_pos (h.mp hp)]
  · rw [if_neg hp, if_neg (fun z => hp (h.mpr z))]
theorem scF_go {T : Nat → Nat → Nat} {S n i : Nat} (h : i < n) (hk : okG (scT T S n i) (grC S n i)) : scF T S n (n - i) i = scF T S n (n - (i + 1)) (i + 1) := by
  have e : n - i = (n - (i + 1)) + 1 := by omega
  rw [e, scF, if_pos hk]
theorem scF_stop {T : Nat → Nat → Nat} {S n i : Nat} (h : i < n) (hk : ¬ okG (scT T S n i) (grC S n i)) : scF T S n (n - i) i = nI i := by
  have e : n - i = (n - (i + 1)) + 1 := by omega
  rw [e, scF, if_neg hk]
set_option maxRecDepth 20000 in
theorem u_112 : Cond.fieldLink RX5 21 "HarvestBoxes$ScriptRunner" "packer" "LHarvestBoxes$Packer;" ∈ wsL_law := List.mem_of_getElem? (i := 107) (by decide +kernel)
set_option maxRecDepth 20000 in
theorem u_341 : Cond.code yX1_housesWithBoxNext cX1_housesWithBoxNext 3 (some .int) ∈ wsL_law := List.mem_of_getElem? (i := 339) (by decide +kernel)
set_option maxRecDepth 20000 in
theorem u_339 : Cond.instanceMethod yX1_housesWithBoxNext ∈ wsL_law := List.mem_of_getElem? (i := 337) (by decide +kernel)
set_option maxRecDepth 20000 in
theorem u_340 : Cond.selects RX1 yX1_housesWithBoxNext yX1_housesWithBoxNext ∈ wsL_law := List.mem_of_getElem? (i := 338) (by decide +kernel)
theorem hdV_X1_housesWithBoxNext : yX1_housesWithBoxNext.cls = RX1 ∧ yX1_housesWithBoxNext.cls ≠ "java/lang/invoke/MethodHandle" ∧ yX1_housesWithBoxNext.cls ≠ "java/lang/invoke/VarHandle" ∧ (parseMethodDescriptor yX1_housesWithBoxNext.desc).map (fun d => d.parameters.length) = some 0 := by decide +kernel
