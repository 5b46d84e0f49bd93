/-! The order by happiness: each place has one house; who stands before whom; the marks seen. -/
theorem cntN_mono {p q : Nat → Bool} : ∀ n, (∀ k, k < n → p k = true → q k = true) → cntN p n ≤ cntN q n
  | 0, _ => Nat.le_refl _
  | n + 1, h => by
    have ih := cntN_mono n (fun k hk => h k (by omega))
    have h1 := h n (by omega)
    rw [cntN, cntN]
    by_cases a : p n = true
    · rw [if_pos a, if_pos (h1 a)]; omega
    · rw [if_neg a]; omega
theorem cntN_lt {p q : Nat → Bool} : ∀ n, (∀ k, k < n → p k = true → q k = true) → ∀ j, j < n → q j = true → ¬ p j = true → cntN p n < cntN q n
  | 0, _, j, hj, _, _ => absurd hj (Nat.not_lt_zero j)
  | n + 1, h, j, hj, h2, h3 => by
    have h1 := h n (by omega)
    by_cases e : j = n
    · subst e
      have ih := cntN_mono j (fun k hk => h k (by omega))
      rw [cntN, cntN, if_neg h3, if_pos h2]
      omega
    · have ih := cntN_lt n (fun k hk => h k (by omega)) j (by omega) h2 h3
      rw [cntN, cntN]
      by_cases a : p n = true
      · rw [if_pos a, if_pos (h1 a)]; omega
      · rw [if_neg a]; omega
/-- a before b, by happiness and number -/
abbrev bfr (g : Nat → Nat) (o i : Nat) : Prop := g i < g o ∨ g o = g i ∧ o < i
def pl (g : Nat → Nat) (n i : Nat) : Nat := cntN (fun o => decide (bfr g o i)) n
theorem pl_lt {g : Nat → Nat} {n i j : Nat} (hj : j < n) (h : bfr g j i) : pl g n j < pl g n i := by
  refine cntN_lt n (fun k _ q => ?_) j hj (decide_eq_true h) (fun q => ?_)
  · have q1 := of_decide_eq_true q
    exact decide_eq_true (by omega)
  · have q1 := of_decide_eq_true q
    omega
theorem pl_bd {g : Nat → Nat} {n i : Nat} (hi : i < n) : pl g n i < n := by
  have h1 := cntN_lt (p := fun o => decide (bfr g o i)) (q := fun _ => true) n (fun _ _ _ => rfl) i hi rfl (fun q => by have q1 := of_decide_eq_true q; omega)
  exact Nat.lt_of_lt_of_le h1 (cntN_le _ n)
theorem pl_inj {g : Nat → Nat} {n i j : Nat} (hi : i < n) (hj : j < n) (h : pl g n i = pl g n j) : i = j := by
  apply Classical.byContradiction
  intro q
  by_cases a : bfr g i j
  · have := pl_lt hi a; omega
  · have b : bfr g j i := by omega
    have := pl_lt hj b
    omega
theorem pigeon : ∀ (n : Nat) (f : Nat → Nat), (∀ i, i < n → f i < n) → (∀ i j, i < n → j < n → f i = f j → i = j) → ∀ k, k < n → ∃ i, i < n ∧ f i = k
  | 0, _, _, _, k, hk => absurd hk (Nat.not_lt_zero k)
  | n + 1, f, hb, hi, k, hk => by
    have ih := pigeon n (fun i => if f i = n then f n else f i) (fun i h => by
      split
      · next e => have h1 := hb n (by omega); have h2 : f n ≠ n := fun q => by have := hi i n (by omega) (by omega) (e.trans q.symm); omega
                  omega
      · next e => have h1 := hb i (by omega); omega) (fun i j h1 h2 h3 => by
      have a1 : f i ≠ f n := fun q => by have := hi i n (by omega) (by omega) q; omega
      have a2 : f j ≠ f n := fun q => by have := hi j n (by omega) (by omega) q; omega
      split at h3
      · next e => split at h3
                  · next e2 => exact hi i j (by omega) (by omega) (e.trans e2.symm)
                  · next e2 => exact absurd h3.symm a2
      · next e => split at h3
                  · next e2 => exact absurd h3 a1
                  · next e2 => exact hi i j (by omega) (by omega) h3)
    by_cases q : k = f n
    · exact ⟨n, by omega, q.symm⟩
    · by_cases r : k = n
      · subst r
        have hn := hb k (by omega)
        obtain ⟨i, h1, h2⟩ := ih (f k) (by omega)
        split at h2
        · next e => exact ⟨i, by omega, e⟩
        · next e => have := hi i k (by omega) (by omega) h2; omega
      · obtain ⟨i, h1, h2⟩ := ih k (by omega)
        split at h2
        · next e => exact absurd h2.symm q
        · next e => exact ⟨i, by omega, h2⟩
/-- the house at a place -/
def ordN (T : Nat → Nat → Nat) (p : Nat) : Nat → Nat → Nat
  | 0, _ => 0
  | k + 1, i => if plcN (T 7) (T 8) (T 0 1) (T 0 0) i = p then i else ordN T p k (i + 1)
abbrev oH (T : Nat → Nat → Nat) (p : Nat) : Nat := ordN T p (T 0 0) 0
abbrev hpT (T : Nat → Nat → Nat) : Nat → Nat := hap (T 7) (T 8) (T 0 1)
theorem plc_pl (T : Nat → Nat → Nat) (i : Nat) : plcN (T 7) (T 8) (T 0 1) (T 0 0) i = pl (hpT T) (T 0 0) i := rfl
theorem ord_in {T : Nat → Nat → Nat} {p h : Nat} (hh : plcN (T 7) (T 8) (T 0 1) (T 0 0) h = p) : ∀ m i, i ≤ h → h < i + m → i + m ≤ T 0 0 → ordF T p m i = nI (ordN T p m i) ∧ ordN T p m i = h
  | 0, i, h1, h2, _ => by omega
  | m + 1, i, h1, h2, h3 => by
    rw [ordF, ordN]
    by_cases q : plcN (T 7) (T 8) (T 0 1) (T 0 0) i = p
    · rw [if_pos q, if_pos q]
      exact ⟨rfl, pl_inj (g := hpT T) (n := T 0 0) (by omega) (by omega) (q.trans hh.symm)⟩
    · rw [if_neg q, if_neg q]
      have : i ≠ h := fun e => by subst e; exact q hh
      exact ord_in hh m (i + 1) (by omega) (by omega) (by omega)
theorem ord_at (T : Nat → Nat → Nat) {p : Nat} (hp : p < T 0 0) : ordF T p (T 0 0) 0 = nI (oH T p) ∧ oH T p < T 0 0 ∧ pl (hpT T) (T 0 0) (oH T p) = p := by
  obtain ⟨h, h1, h2⟩ := pigeon (T 0 0) (pl (hpT T) (T 0 0)) (fun i hi => pl_bd hi) (fun i j hi hj q => pl_inj hi hj q) p hp
  obtain ⟨a, b⟩ := ord_in (T := T) (p := p) (h := h) h2 (T 0 0) 0 (Nat.zero_le _) (by omega) (by omega)
  have b2 : oH T p = h := b
  exact ⟨a, by rw [b2]; exact h1, by rw [b2]; exact h2⟩
theorem ord_out {T : Nat → Nat → Nat} {p : Nat} (hp : T 0 0 ≤ p) : ∀ m i, i + m ≤ T 0 0 → ordF T p m i = -9
  | 0, _, _ => rfl
  | m + 1, i, h => by
    rw [ordF, if_neg]
    · exact ord_out hp m (i + 1) (by omega)
    · intro q
      have := pl_bd (g := hpT T) (n := T 0 0) (i := i) (by omega)
      rw [plc_pl] at q
      omega
theorem ord_bfr (T : Nat → Nat → Nat) {k : Nat} (hk : k + 1 < T 0 0) : bfr (hpT T) (oH T k) (oH T (k + 1)) := by
  obtain ⟨-, a1, a2⟩ := ord_at T (p := k) (by omega)
  obtain ⟨-, b1, b2⟩ := ord_at T (p := k + 1) hk
  apply Classical.byContradiction
  intro q
  by_cases e : oH T k = oH T (k + 1)
  · rw [e] at a2; omega
  · have := pl_lt (g := hpT T) (n := T 0 0) (i := oH T k) (j := oH T (k + 1)) b1 (by omega)
    omega
/-- the marks of the first k houses -/
def bitN (T : Nat → Nat → Nat) : Nat → Nat
  | 0 => 0
  | k + 1 => bitN T k ||| 2 ^ oH T k
theorem bit_test (T : Nat → Nat → Nat) (i : Nat) : ∀ k, (bitN T k).testBit i = true ↔ ∃ j, j < k ∧ oH T j = i
  | 0 => by
    constructor
    · intro h
      rw [bitN, Nat.zero_testBit] at h
      cases h
    · rintro ⟨j, h, _⟩
      exact absurd h (Nat.not_lt_zero j)
  | k + 1 => by
    rw [bitN, Nat.testBit_or, Bool.or_eq_true, bit_test T i k, Nat.testBit_two_pow, decide_eq_true_iff]
    constructor
    · rintro (⟨j, h1, h2⟩ | h)
      · exact ⟨j, by omega, h2⟩
      · exact ⟨k, by omega, h⟩
    · rintro ⟨j, h1, h2⟩
      by_cases q : j = k
      · subst q; exact Or.inr h2
      · exact Or.inl ⟨j, by omega, h2⟩
theorem bit_all (T : Nat → Nat → Nat) : bitN T (T 0 0) = 2 ^ T 0 0 - 1 := by
  apply Nat.eq_of_testBit_eq
  intro i
  rw [Nat.testBit_two_pow_sub_one]
  by_cases h : i < T 0 0
  · rw [decide_eq_true h]
    refine (bit_test T i _).mpr ⟨pl (hpT T) (T 0 0) i, pl_bd h, ?_⟩
    obtain ⟨-, a1, a2⟩ := ord_at T (p := pl (hpT T) (T 0 0) i) (pl_bd h)
    exact pl_inj a1 h a2
  · rw [decide_eq_false h]
    cases e : (bitN T (T 0 0)).testBit i with
    | false => rfl
    | true =>
      obtain ⟨j, h1, h2⟩ := (bit_test T i _).mp e
      have := (ord_at T h1).2.1
      omega
theorem bit_bd (T : Nat → Nat → Nat) (hH : T 0 0 ≤ 6) : ∀ k, k ≤ T 0 0 → bitN T k < 2 ^ 6
  | 0, _ => by show 0 < 2 ^ 6; decide
  | k + 1, h => by
    have := (ord_at T (p := k) (by omega)).2.1
    exact Nat.or_lt_two_pow (bit_bd T hH k (by omega)) (Nat.pow_lt_pow_right (by decide) (by omega))
theorem nI_or {a b : Nat} (ha : a < 2 ^ 32) (hb : b < 2 ^ 32) : nI a ||| nI b = nI (a ||| b) := by
  apply Int32.toBitVec_inj.mp
  apply BitVec.eq_of_toNat_eq
  rw [Int32.toBitVec_or, BitVec.toNat_or, pk_tn ha, pk_tn hb, pk_tn (Nat.or_lt_two_pow ha hb)]
theorem one_shl {k : Nat} (hk : k ≤ 6) : nI 1 <<< (nI k &&& 31) = nI (2 ^ k) := by
  match k, hk with
  | 0, _ => decide +kernel
  | 1, _ => decide +kernel
  | 2, _ => decide +kernel
  | 3, _ => decide +kernel
  | 4, _ => decide +kernel
  | 5, _ => decide +kernel
  | 6, _ => decide +kernel
  | k + 7, h => omega
theorem seen_s {T : Nat → Nat → Nat} {k : Nat} (hH : T 0 0 ≤ 6) (hk : k < T 0 0) : nI (bitN T k) ||| nI 1 <<< (nI (oH T k) &&& 31) = nI (bitN T (k + 1)) := by
  have h1 := (ord_at T hk).2.1
  have h2 : 2 ^ oH T k < 2 ^ 6 := Nat.pow_lt_pow_right (by decide) (by omega)
  have h3 := bit_bd T hH k (by omega)
  rw [one_shl (by omega), nI_or (by omega) (by omega)]
  rfl
theorem seen_e {T : Nat → Nat → Nat} (hH : T 0 0 ≤ 6) : nI (bitN T (T 0 0)) = nI 1 <<< (nI (T 0 0) &&& 31) - nI 1 := by
  rw [one_shl hH, bit_all, pk_sub (a := 2 ^ T 0 0) (b := 1) (Nat.one_le_two_pow)]
