/-! Ties between what the program's folds and the reference's answers are. -/
/-- a fold of offers tells the first of the greatest -/
theorem of_amx {cnd : Nat → Bool} {val : Nat → Nat} {F : Nat → Int32 × Int32} (h0 : (F 0).1 = -9) (hs : ∀ i, F (i + 1) = if cnd i = true then offK (F i) i (nI (val i)) else F i) : ∀ n, n < 2 ^ 31 → (∀ i, i < n → val i < 2 ^ 31) → (F n).1 = encK (amx cnd val n) ∧ ∀ b, amx cnd val n = some b → (F n).2 = nI (val b)
  | 0, _, _ => ⟨h0, fun b h => by cases h⟩
  | n + 1, hn, hv => by
    obtain ⟨a1, a2⟩ := of_amx h0 hs n (by omega) (fun i hi => hv i (by omega))
    rw [hs n]
    by_cases hc : cnd n = true
    · rw [if_pos hc]
      cases hk : amx cnd val n with
      | none =>
        rw [hk] at a1
        have e : (F n).1 = -9 := a1
        rw [amx_0 hc hk]
        exact ⟨by unfold offK; rw [if_pos (Or.inl e)]; rfl, fun b h => by cases h; exact if_pos (Or.inl e)⟩
      | some b =>
        rw [hk] at a1
        have hb := amx_lt n b hk
        have e1 : (F n).1 = nI b := a1
        have e : ¬ (F n).1 = -9 := fun q => by
          have q2 := congrArg Int32.toInt (e1.symm.trans q)
          rw [nI_toInt (by omega), show (-9 : Int32).toInt = -9 by decide] at q2
          omega
        have e2 := a2 b hk
        have v1 := hv n (by omega)
        have v2 := hv b (by omega)
        by_cases hw : val b < val n
        · rw [amx_1 hc hk hw]
          have q : (F n).1 = -9 ∨ (F n).2 < nI (val n) := Or.inr (by rw [e2, Int32.lt_iff_toInt_lt, nI_toInt v2, nI_toInt v1]; omega)
          exact ⟨by unfold offK; rw [if_pos q]; rfl, fun c h => by cases h; exact if_pos q⟩
        · rw [amx_2 hc hk hw]
          have q : ¬ ((F n).1 = -9 ∨ (F n).2 < nI (val n)) := fun q => q.elim e (fun q => by rw [e2, Int32.lt_iff_toInt_lt, nI_toInt v2, nI_toInt v1] at q; omega)
          exact ⟨by unfold offK; rw [if_neg q]; exact e1, fun c h => by cases h; exact (if_neg q).trans e2⟩
    · rw [if_neg hc, amx_no hc]
      exact ⟨a1, a2⟩
theorem fon_tie {T : Nat → Nat → Nat} {v : Nat} {kw : Int32} {n : Nat} (hn : n < 2 ^ 31) (hv : ∀ i, i < n → T 7 (i * 5 + v) < 2 ^ 31) : (fonF T v kw n).1 = encK (fonO T v n) :=
  (of_amx (F := fonF T v kw) rfl (fun i => by rw [fonF, if_pos rfl]) n hn hv).1
theorem bsk_tie {T : Nat → Nat → Nat} {kw : Int32} {n : Nat} (hn : n < 2 ^ 31) (hv : ∀ i, i < n → hapAT (packT (skT T i 1)) < 2 ^ 31) : (bskF T kw n).1 = encK (amx (fun h => decide (getsB (T 2) (T 4) h)) (fun i => hapAT (packT (skT T i 1))) n) :=
  (of_amx (F := bskF T kw) rfl (fun i => by rw [bskF]; simp only [decide_eq_true_eq]) n hn hv).1
theorem bmo_tie {T : Nat → Nat → Nat} {kw : Int32} {n : Nat} (hn : n < 2 ^ 31) (hv : ∀ i, i < n → hapAT (packT (hvT T i (T 5 i + 1))) < 2 ^ 31) : (bmoF T kw n).1 = encK (amx (fun v => decide (T 5 v < 40)) (fun i => hapAT (packT (hvT T i (T 5 i + 1)))) n) :=
  (of_amx (F := bmoF T kw) rfl (fun i => by rw [bmoF]; simp only [decide_eq_true_eq]) n hn hv).1
