/-! A farm as one value: T 0 its numbers (houses, vegetables, weeks, eaten, given, swaps), T 1 .. T 8 its rows. -/
def mkT (nH nV wk ea gi sw : Nat) (f1 f2 f3 f4 f5 f6 f7 f8 : Nat → Nat) : Nat → Nat → Nat := fun k => match k with
  | 0 => fun j => match j with
    | 0 => nH
    | 1 => nV
    | 2 => wk
    | 3 => ea
    | 4 => gi
    | _ => sw
  | 1 => f1
  | 2 => f2
  | 3 => f3
  | 4 => f4
  | 5 => f5
  | 6 => f6
  | 7 => f7
  | _ => f8
def ptT (T : Nat → Nat → Nat) : Nat → Nat := partN (T 1) (T 2) (T 3) (T 4)
def pkT (T : Nat → Nat → Nat) : (Nat → Nat) × (Nat → Nat) := pkS (T 5) (T 6) (T 7) (ptT T) (sumN (ptT T) (T 0 0)) (T 0 0) (T 0 1)
def swT (T : Nat → Nat → Nat) : Nat × (Nat → Nat) := swR (T 7) (T 0 0) (T 0 1) 1801 (pkT T).1
def packT (T : Nat → Nat → Nat) : Nat → Nat → Nat := mkT (T 0 0) (T 0 1) (T 0 2 + 1) (T 0 3 + kilA (T 8) (T 0 1) (T 0 0)) (T 0 4) (swT T).1 (T 1) (clO (ptT T) (T 2) (T 0 0)) (clC (ptT T) (T 1) (T 3) (T 4) (T 0 0)) (fun _ => 0) (fun _ => 0) (pkT T).2 (T 7) (swT T).2
/-- what lies outside the houses and vegetables -/
def outC (nH nV k : Nat) : Prop := nH ≤ k / 5 ∨ nV ≤ k % 5
/-- what always holds of a farm -/
def FI (T : Nat → Nat → Nat) : Prop := (T 0 0 ≤ 6 ∧ T 0 1 ≤ 5) ∧ (∀ h, h < 6 → T 1 h ≤ 4 ∧ T 2 h ≤ 9 ∧ T 3 h ≤ 9 ∧ T 4 h ≤ 1 ∧ (h < T 0 0 → 1 ≤ T 1 h) ∧ (T 0 0 ≤ h → T 2 h = 0 ∧ T 3 h = 0 ∧ T 4 h = 0)) ∧ (∀ v, v < 5 → T 5 v ≤ 40 ∧ (T 0 1 ≤ v → T 5 v = 0)) ∧ (∀ k, k < 30 → T 7 k ≤ 9) ∧ sumN (T 8) 30 ≤ 200 ∧ ∀ k, outC (T 0 0) (T 0 1) k → T 8 k = 0
theorem dlK_out {f8 : Nat → Nat} {L : Nat} {pt : Nat → Nat} {P v nH nV : Nat} (hv : v < nV) (h : ∀ k, outC nH nV k → f8 k = 0) : ∀ k, outC nH nV k → dlK f8 L pt P v nH k = 0 := by
  intro k hk
  unfold dlK
  rw [if_neg]
  · exact h k hk
  · intro q
    rcases hk with e | e <;> omega
theorem glN_out {f7 pt : Nat → Nat} {v nH nV : Nat} {f8 : Nat → Nat} {c : Nat} (hv : v < nV) (h5 : v < 5) (h : ∀ k, outC nH nV k → f8 k = 0) : ∀ n k, outC nH nV k → (glN f7 pt v nH f8 c n).1 k = 0
  | 0, k, hk => h k hk
  | n + 1, k, hk => by
    have ih := glN_out hv h5 h (f7 := f7) (pt := pt) (c := c) n
    cases hz : kz f7 pt (glN f7 pt v nH f8 c n).2.1 v nH with
    | none => rw [glN_n hz]; exact ih k hk
    | some b =>
      have hb := kz_lt nH b hz
      rw [glN_y hz]
      dsimp only
      rw [up_n]
      · exact ih k hk
      · intro e
        subst e
        rcases hk with e | e <;> omega
theorem pkS_out {f5 f6 f7 pt : Nat → Nat} {P nH nV : Nat} (hV : nV ≤ 5) : ∀ n, n ≤ nV → ∀ k, outC nH nV k → (pkS f5 f6 f7 pt P nH n).1 k = 0
  | 0, _, _, _ => rfl
  | n + 1, hn, k, hk => by
    have ih := pkS_out (f5 := f5) (f6 := f6) (f7 := f7) (pt := pt) (P := P) (nH := nH) hV n (by omega)
    show (pkV f5 f7 pt P nH n (pkS f5 f6 f7 pt P nH n)).1 k = 0
    unfold pkV
    exact glN_out (show n < nV by omega) (by omega) (dlK_out (show n < nV by omega) ih) _ k hk
theorem swK_out {f8 : Nat → Nat} {a b v w nH nV : Nat} (ha : a < nH) (hb : b < nH) (hv : v < nV) (hw : w < nV) (hV : nV ≤ 5) (h : ∀ k, outC nH nV k → f8 k = 0) : ∀ k, outC nH nV k → swK f8 a b v w k = 0 := by
  intro k hk
  have e1 : k ≠ a * 5 + v := fun e => by subst e; rcases hk with e | e <;> omega
  have e2 : k ≠ b * 5 + v := fun e => by subst e; rcases hk with e | e <;> omega
  have e3 : k ≠ b * 5 + w := fun e => by subst e; rcases hk with e | e <;> omega
  have e4 : k ≠ a * 5 + w := fun e => by subst e; rcases hk with e | e <;> omega
  unfold swK
  rw [up_n e4, up_n e3, up_n e2, up_n e1]
  exact h k hk
theorem swP_out {f7 f8 : Nat → Nat} {nH nV : Nat} (hV : nV ≤ 5) (hp : 0 < (bst f7 f8 nH nV 900).2) (h : ∀ k, outC nH nV k → f8 k = 0) : ∀ k, outC nH nV k → swP f8 (bst f7 f8 nH nV 900).1 k = 0 := by
  obtain ⟨a, b, v, w, ea, eb, ev, ew, q1, q2, q3, q4, q5, q6, q7, q8⟩ := bst_what hp
  unfold swP
  rw [← ea, ← eb, ← ev, ← ew]
  exact swK_out (by omega) q2 q3 q4 hV h
theorem swR_out {f7 : Nat → Nat} {nH nV : Nat} (hV : nV ≤ 5) : ∀ (n : Nat) (f8 : Nat → Nat), (∀ k, outC nH nV k → f8 k = 0) → ∀ k, outC nH nV k → (swR f7 nH nV n f8).2 k = 0
  | 0, f8, h, k, hk => by rw [swR]; exact h k hk
  | n + 1, f8, h, k, hk => by
    rw [swR]
    by_cases q : 0 < (bst f7 f8 nH nV 900).2
    · rw [if_pos q]
      exact swR_out hV n _ (swP_out hV q h) k hk
    · rw [if_neg q]
      exact h k hk
theorem tabN_all {p g : Nat → Nat} {n k : Nat} {P : Nat → Prop} (h1 : k < n → P (p k)) (h2 : n ≤ k → P (g k)) : P (tabN p n g k) := by
  by_cases h : k < n
  · rw [tabN_in h]; exact h1 h
  · rw [tabN_out (by omega)]; exact h2 (by omega)
theorem ptT_le {T : Nat → Nat → Nat} (h : FI T) : ∀ j, j < T 0 0 → ptT T j ≤ 5 := fun j hj => partN_le (h.2.1 j (by have := h.1.1; omega)).1
theorem pkT_sum {T : Nat → Nat → Nat} (h : FI T) : sumN (pkT T).1 30 ≤ 200 := by
  have h1 := pkS_sum (T 5) (T 6) (T 7) (ptT T) (sumN (ptT T) (T 0 0)) (T 0 0) (Nat.le_refl _) (T 0 1) h.1.2
  have h2 := sumN_c (f := T 5) (c := 40) (T 0 1) (fun k hk => (h.2.2.1 k (by have := h.1.2; omega)).1)
  have h3 := h.1.2
  unfold pkT
  omega
theorem FI_pack {T : Nat → Nat → Nat} (h : FI T) : FI (packT T) := by
  obtain ⟨⟨hH, hV⟩, h1, h5, h7, h8, h9⟩ := id h
  refine ⟨⟨hH, hV⟩, fun j hj => ?_, fun v hv => ⟨Nat.zero_le _, fun _ => rfl⟩, h7, ?_, ?_⟩
  · obtain ⟨a1, a2, a3, a4, a5, a6⟩ := h1 j hj
    refine ⟨a1, ?_, ?_, Nat.zero_le _, a5, fun hj2 => ⟨?_, ?_, rfl⟩⟩
    · show clO (ptT T) (T 2) (T 0 0) j ≤ 9
      refine tabN_all (P := fun z => z ≤ 9) (fun _ => ?_) (fun _ => a2)
      split
      · exact Nat.min_le_left _ _
      · exact a2
    · show clC (ptT T) (T 1) (T 3) (T 4) (T 0 0) j ≤ 9
      refine tabN_all (P := fun z => z ≤ 9) (fun _ => ?_) (fun _ => a3)
      split
      · omega
      · split
        · exact Nat.min_le_left _ _
        · exact a3
    · show clO (ptT T) (T 2) (T 0 0) j = 0
      have hj3 : T 0 0 ≤ j := hj2
      unfold clO
      rw [tabN_out hj3]
      exact (a6 hj3).1
    · show clC (ptT T) (T 1) (T 3) (T 4) (T 0 0) j = 0
      have hj3 : T 0 0 ≤ j := hj2
      unfold clC
      rw [tabN_out hj3]
      exact (a6 hj3).2.1
  · show sumN (swT T).2 30 ≤ 200
    unfold swT
    rw [swR_sum hH hV]
    exact pkT_sum h
  · intro k hk
    exact swR_out hV 1801 _ (pkS_out hV (T 0 1) (Nat.le_refl _)) k hk
/-- packing, of a farm as one value -/
theorem c_X4_packWeekT (l : Launch) (D : va_G) (cI cZ cF cL : ClassId) (b : Nat → Nat) (g1 g2 : Nat → Nat) (kn kw : Int32) (x1 x2 x3 x4 x5 : Nat) (a : Nat → Nat) (T : Nat → Nat → Nat) (hT : FI T) :
    CT l D (tysX cI cZ cF cL) yX4_packWeek (wA yX4_packWeek cX4_packWeek 5 none) (rmF 3 75) [.ref (b 0), .ref (a 0)] (pX cI b g1 g2 kn kw x1 x2 x3 x4 x5 ++ fX cI a (T 0 0) (T 0 1) (T 0 2) (T 0 3) (T 0 4) (T 0 5) (T 1) (T 2) (T 3) (T 4) (T 5) (T 6) (T 7) (T 8)) (none : Option Value)
      (fun u : (Nat → Nat) × (Nat → Nat) × Int32 × Int32 × Nat × Nat × Nat × Nat × Nat => (pX cI b u.1 u.2.1 u.2.2.1 u.2.2.2.1 u.2.2.2.2.1 u.2.2.2.2.2.1 u.2.2.2.2.2.2.1 u.2.2.2.2.2.2.2.1 u.2.2.2.2.2.2.2.2 ++ fX cI a ((packT T) 0 0) ((packT T) 0 1) ((packT T) 0 2) ((packT T) 0 3) ((packT T) 0 4) ((packT T) 0 5) ((packT T) 1) ((packT T) 2) ((packT T) 3) ((packT T) 4) ((packT T) 5) ((packT T) 6) ((packT T) 7) ((packT T) 8))) :=
  c_X4_packWeek l D cI cZ cF cL b g1 g2 kn kw x1 x2 x3 x4 x5 a (T 0 0) (T 0 1) (T 0 2) (T 0 3) (T 0 4) (T 0 5) (T 1) (T 2) (T 3) (T 4) (T 5) (T 6) (T 7) (T 8) hT.1.1 hT.1.2 (fun h hh => (hT.2.1 h hh).1) (fun h hh => (hT.2.1 h hh).2.1) (fun h hh => (hT.2.1 h hh).2.2.1) (fun h hh => (hT.2.1 h hh).2.2.2.1) (fun v hv => (hT.2.2.1 v hv).1) hT.2.2.2.1

