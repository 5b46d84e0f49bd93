/-! What packing a week does, in counted numbers (pure). -/
theorem up_s {f : Nat → Nat} {k x : Nat} : va_up f k x k = x := if_pos rfl
theorem up_n {f : Nat → Nat} {k x j : Nat} (h : j ≠ k) : va_up f k x j = f j := if_neg h
theorem sumN_up_out (f : Nat → Nat) (k x : Nat) : ∀ n, n ≤ k → sumN (va_up f k x) n = sumN f n
  | 0, _ => rfl
  | n + 1, h => by rw [sumN_s, sumN_s, sumN_up_out f k x n (by omega), up_n (by omega)]
theorem sumN_up_eq (f : Nat → Nat) (k x : Nat) : ∀ n, k < n → sumN (va_up f k x) n + f k = sumN f n + x
  | 0, h => absurd h (Nat.not_lt_zero k)
  | n + 1, h => by
    rw [sumN_s, sumN_s]
    by_cases e : k = n
    · subst e
      rw [sumN_up_out f k x k (Nat.le_refl k), up_s]
      omega
    · have := sumN_up_eq f k x n (by omega)
      rw [up_n (fun q => e q.symm)]
      omega
theorem sumN_up_le (f : Nat → Nat) (k x n : Nat) : sumN (va_up f k x) n ≤ sumN f n + x := by
  by_cases h : k < n
  · have := sumN_up_eq f k x n h
    omega
  · rw [sumN_up_out f k x n (by omega)]
    omega
theorem sumN_le1 (f : Nat → Nat) {k : Nat} : ∀ n, k < n → f k ≤ sumN f n
  | 0, h => absurd h (Nat.not_lt_zero k)
  | n + 1, h => by
    rw [sumN_s]
    by_cases e : k = n
    · subst e; omega
    · have := sumN_le1 f n (show k < n by omega)
      omega
theorem sumN_mono (f : Nat → Nat) {m : Nat} : ∀ n, m ≤ n → sumN f m ≤ sumN f n
  | 0, h => by rw [Nat.le_zero.mp h]; exact Nat.le_refl _
  | n + 1, h => by
    by_cases e : m = n + 1
    · subst e; exact Nat.le_refl _
    · have := sumN_mono f n (show m ≤ n by omega)
      rw [sumN_s]
      omega
theorem sumN_lef {f g : Nat → Nat} : ∀ {n : Nat}, (∀ k, k < n → f k ≤ g k) → sumN f n ≤ sumN g n
  | 0, _ => Nat.le_refl _
  | n + 1, h => by
    have h1 := sumN_lef (fun k hk => h k (Nat.lt_succ_of_lt hk))
    have h2 := h n (Nat.lt_succ_self n)
    rw [sumN_s, sumN_s]
    omega
theorem sumN_mul (f : Nat → Nat) (c : Nat) : ∀ n, sumN (fun k => c * f k) n = c * sumN f n
  | 0 => rfl
  | n + 1 => by rw [sumN_s, sumN_s, sumN_mul f c n, Nat.mul_add]
/-- who takes part -/
def partN (f1 f2 f3 f4 : Nat → Nat) (h : Nat) : Nat := if getsB f2 f4 h then (if 0 < f3 h then f1 h + 1 else f1 h + 0) else 0
def tabN (p : Nat → Nat) (n : Nat) (g : Nat → Nat) : Nat → Nat := fun k => if k < n then p k else g k
theorem tabN_0 (p g : Nat → Nat) : tabN p 0 g = g := by funext k; simp [tabN]
theorem tabN_in {p g : Nat → Nat} {n k : Nat} (h : k < n) : tabN p n g k = p k := if_pos h
theorem tabN_out {p g : Nat → Nat} {n k : Nat} (h : n ≤ k) : tabN p n g k = g k := if_neg (by omega)
theorem tabN_s (p g : Nat → Nat) (n : Nat) : va_up (tabN p n g) n (p n) = tabN p (n + 1) g := by
  funext k
  by_cases e : k = n
  · subst e
    rw [up_s, tabN_in (by omega)]
  · rw [up_n e]
    by_cases h : k < n
    · rw [tabN_in h, tabN_in (by omega)]
    · rw [tabN_out (by omega), tabN_out (by omega)]
/-- the shares -/
def shS (L : Nat) (pt : Nat → Nat) (P n : Nat) : Nat := sumN (fun h => L * pt h / P) n
def dlK (f8 : Nat → Nat) (L : Nat) (pt : Nat → Nat) (P v n : Nat) : Nat → Nat := fun k => if 0 < P ∧ k % 5 = v ∧ k / 5 < n then L * pt (k / 5) / P else f8 k
theorem dlK_0 (f8 : Nat → Nat) (L : Nat) (pt : Nat → Nat) (P v : Nat) : dlK f8 L pt P v 0 = f8 := by
  funext k
  unfold dlK
  rw [if_neg (by omega)]
theorem dlK_z (f8 : Nat → Nat) (L : Nat) (pt : Nat → Nat) (v n : Nat) : dlK f8 L pt 0 v n = f8 := by
  funext k
  unfold dlK
  rw [if_neg (by omega)]
theorem dlK_s (f8 : Nat → Nat) (L : Nat) (pt : Nat → Nat) {P v : Nat} (hP : 0 < P) (hv : v < 5) (n : Nat) : va_up (dlK f8 L pt P v n) (n * 5 + v) (L * pt n / P) = dlK f8 L pt P v (n + 1) := by
  funext k
  by_cases e : k = n * 5 + v
  · subst e
    rw [up_s]
    unfold dlK
    rw [if_pos ⟨hP, by omega, by omega⟩, show (n * 5 + v) / 5 = n by omega]
  · rw [up_n e]
    unfold dlK
    by_cases h : 0 < P ∧ k % 5 = v ∧ k / 5 < n
    · rw [if_pos h, if_pos ⟨h.1, h.2.1, by omega⟩]
    · rw [if_neg h, if_neg (by omega)]
theorem shS_mul (L : Nat) (pt : Nat → Nat) (P : Nat) : ∀ n, shS L pt P n * P ≤ L * sumN pt n
  | 0 => by simp [shS, sumN]
  | n + 1 => by
    have h1 := shS_mul L pt P n
    have h2 : L * pt n / P * P ≤ L * pt n := Nat.div_mul_le_self _ _
    unfold shS at h1 ⊢
    rw [sumN_s, sumN_s, Nat.add_mul, Nat.mul_add]
    omega
theorem shS_z (L : Nat) (pt : Nat → Nat) : ∀ n, shS L pt 0 n = 0
  | 0 => rfl
  | n + 1 => by
    have h := shS_z L pt n
    unfold shS at h ⊢
    rw [sumN_s, h, Nat.div_zero]
theorem shS_le {L : Nat} {pt : Nat → Nat} {P n : Nat} (h : sumN pt n ≤ P) : shS L pt P n ≤ L := by
  by_cases hP : P = 0
  · subst hP
    rw [shS_z]
    exact Nat.zero_le _
  · have h1 := shS_mul L pt P n
    have h2 : L * sumN pt n ≤ L * P := Nat.mul_le_mul_left L h
    exact Nat.le_of_mul_le_mul_right (Nat.le_trans h1 h2) (by omega)
theorem shS_lei {L : Nat} {pt : Nat → Nat} {P n : Nat} (h : sumN pt n ≤ P) (i : Nat) (hi : i ≤ n) : shS L pt P i ≤ L := shS_le (Nat.le_trans (sumN_mono pt n hi) h)
theorem dlK_sum (f8 : Nat → Nat) (L : Nat) (pt : Nat → Nat) (P v : Nat) (hv : v < 5) : ∀ n, sumN (dlK f8 L pt P v n) 30 ≤ sumN f8 30 + shS L pt P n
  | 0 => by rw [dlK_0]; exact Nat.le_add_right _ _
  | n + 1 => by
    by_cases hP : 0 < P
    · have h1 := dlK_sum f8 L pt P v hv n
      have h2 := sumN_up_le (dlK f8 L pt P v n) (n * 5 + v) (L * pt n / P) 30
      rw [dlK_s f8 L pt hP hv n] at h2
      have h3 : shS L pt P (n + 1) = shS L pt P n + L * pt n / P := rfl
      omega
    · have : P = 0 := by omega
      subst this
      rw [dlK_z]
      exact Nat.le_add_right _ _
/-- the keenest on a kilo of a glut -/
def wz (f7 g2 : Nat → Nat) (v h : Nat) : Int := (f7 (h * 5 + v) : Int) - 2 * (g2 h : Int)
def kz (f7 pt g2 : Nat → Nat) (v : Nat) : Nat → Option Nat
  | 0 => none
  | n + 1 => if 0 < pt n ∧ 0 < f7 (n * 5 + v) then (match kz f7 pt g2 v n with
    | none => some n
    | some b => if wz f7 g2 v b < wz f7 g2 v n then some n else some b) else kz f7 pt g2 v n
def encK : Option Nat → Int32
  | none => (-9)
  | some h => nI h
theorem kz_lt {f7 pt g2 : Nat → Nat} {v : Nat} : ∀ n b, kz f7 pt g2 v n = some b → b < n
  | 0, b, h => by cases h
  | n + 1, b, h => by
    rw [kz] at h
    split at h
    · cases hk : kz f7 pt g2 v n with
      | none => rw [hk] at h; cases h; exact Nat.lt_succ_self n
      | some c =>
        rw [hk] at h
        have hc := kz_lt n c hk
        dsimp only at h
        split at h <;> cases h <;> omega
    · have := kz_lt n b h
      omega
theorem kz_none {f7 pt g2 : Nat → Nat} {v : Nat} : ∀ n, kz f7 pt g2 v n = none ↔ ∀ h, h < n → ¬ (0 < pt h ∧ 0 < f7 (h * 5 + v))
  | 0 => ⟨fun _ h hh => absurd hh (Nat.not_lt_zero h), fun _ => rfl⟩
  | n + 1 => by
    rw [kz]
    constructor
    · intro h
      split at h
      · cases hk : kz f7 pt g2 v n with
        | none => rw [hk] at h; cases h
        | some c => rw [hk] at h; dsimp only at h; split at h <;> cases h
      · next hm =>
        intro j hj
        by_cases e : j = n
        · subst e; exact hm
        · exact (kz_none n).mp h j (by omega)
    · intro h
      rw [if_neg (h n (Nat.lt_succ_self n))]
      exact (kz_none n).mpr (fun j hj => h j (Nat.lt_succ_of_lt hj))
theorem kz_cong {f7 pt qt g2 : Nat → Nat} {v : Nat} : ∀ n, (∀ h, h < n → pt h = qt h) → kz f7 pt g2 v n = kz f7 qt g2 v n
  | 0, _ => rfl
  | n + 1, h => by rw [kz, kz, kz_cong n (fun j hj => h j (Nat.lt_succ_of_lt hj)), h n (Nat.lt_succ_self n)]
theorem encK_ne {n h : Nat} (hh : h < n) (hn : n < 100) : ¬ nI h = (-9) := by
  intro q
  have e := congrArg Int32.toInt q
  rw [nI_toInt (by omega)] at e
  have : (Int32.toInt (-9)) = -9 := by decide
  omega
theorem nn_sub {a b : Nat} (ha : a < 2 ^ 20) (hb : b < 2 ^ 20) : (nI a - nI 2 * nI b).toInt = (a : Int) - 2 * (b : Int) := by
  rw [pk_mul, pk_sub_toInt (by omega) (by omega)]
  omega
theorem kz_step {f7 pt g2 : Nat → Nat} {v i : Nat} {kn kw y : Int32} (hm : 0 < pt i ∧ 0 < f7 (i * 5 + v)) (hi : i < 6) (ek : kn = encK (kz f7 pt g2 v i)) (ew : ∀ b, kz f7 pt g2 v i = some b → kw.toInt = wz f7 g2 v b) (hy : y.toInt = wz f7 g2 v i) :
    (if (kn = (-9) ∨ kw < y) then nI i else kn) = encK (kz f7 pt g2 v (i + 1)) ∧ ∀ b, kz f7 pt g2 v (i + 1) = some b → (if (kn = (-9) ∨ kw < y) then y else kw).toInt = wz f7 g2 v b := by
  rw [kz, if_pos hm]
  cases hk : kz f7 pt g2 v i with
  | none =>
    rw [hk] at ek
    have e9 : kn = (-9) := ek
    rw [if_pos (Or.inl e9), if_pos (Or.inl e9)]
    exact ⟨rfl, fun b hb => by cases hb; exact hy⟩
  | some c =>
    have hc := kz_lt i c hk
    have hw := ew c hk
    rw [hk] at ek
    have e9 : ¬ kn = (-9) := by rw [ek]; exact encK_ne hc (by omega)
    dsimp only
    have hlt : kw < y ↔ wz f7 g2 v c < wz f7 g2 v i := by rw [Int32.lt_iff_toInt_lt, hw, hy]
    by_cases q : wz f7 g2 v c < wz f7 g2 v i
    · rw [if_pos (Or.inr (hlt.mpr q)), if_pos (Or.inr (hlt.mpr q)), if_pos q]
      exact ⟨rfl, fun b hb => by cases hb; exact hy⟩
    · have hn : ¬ (kn = (-9) ∨ kw < y) := fun z => z.elim e9 (fun z => q (hlt.mp z))
      rw [if_neg hn, if_neg hn, if_neg q]
      exact ⟨ek, fun b hb => by cases hb; exact hw⟩
/-- a glut is given out -/
def glN (f7 pt : Nat → Nat) (v nH : Nat) (f8 : Nat → Nat) (c : Nat) : Nat → (Nat → Nat) × (Nat → Nat) × Nat
  | 0 => (f8, (fun _ => 0), c)
  | n + 1 => match kz f7 pt (glN f7 pt v nH f8 c n).2.1 v nH with
    | none => ((glN f7 pt v nH f8 c n).1, (glN f7 pt v nH f8 c n).2.1, (glN f7 pt v nH f8 c n).2.2 + 1)
    | some h => (va_up (glN f7 pt v nH f8 c n).1 (h * 5 + v) ((glN f7 pt v nH f8 c n).1 (h * 5 + v) + 1), va_up (glN f7 pt v nH f8 c n).2.1 h ((glN f7 pt v nH f8 c n).2.1 h + 1), (glN f7 pt v nH f8 c n).2.2)
theorem glN_n {f7 pt : Nat → Nat} {v nH : Nat} {f8 : Nat → Nat} {c n : Nat} (h : kz f7 pt (glN f7 pt v nH f8 c n).2.1 v nH = none) : glN f7 pt v nH f8 c (n + 1) = ((glN f7 pt v nH f8 c n).1, (glN f7 pt v nH f8 c n).2.1, (glN f7 pt v nH f8 c n).2.2 + 1) := by
  rw [glN, h]
theorem glN_y {f7 pt : Nat → Nat} {v nH : Nat} {f8 : Nat → Nat} {c n b : Nat} (h : kz f7 pt (glN f7 pt v nH f8 c n).2.1 v nH = some b) : glN f7 pt v nH f8 c (n + 1) = (va_up (glN f7 pt v nH f8 c n).1 (b * 5 + v) ((glN f7 pt v nH f8 c n).1 (b * 5 + v) + 1), va_up (glN f7 pt v nH f8 c n).2.1 b ((glN f7 pt v nH f8 c n).2.1 b + 1), (glN f7 pt v nH f8 c n).2.2) := by
  rw [glN, h]
theorem glN_sum (f7 pt : Nat → Nat) (v nH : Nat) (f8 : Nat → Nat) (c : Nat) : ∀ n, sumN (glN f7 pt v nH f8 c n).1 30 ≤ sumN f8 30 + n
  | 0 => Nat.le_refl _
  | n + 1 => by
    have h := glN_sum f7 pt v nH f8 c n
    cases hk : kz f7 pt (glN f7 pt v nH f8 c n).2.1 v nH with
    | none => rw [glN_n hk]; dsimp only; omega
    | some b =>
      rw [glN_y hk]
      dsimp only
      by_cases q : b * 5 + v < 30
      · have := sumN_up_eq (glN f7 pt v nH f8 c n).1 (b * 5 + v) ((glN f7 pt v nH f8 c n).1 (b * 5 + v) + 1) 30 q
        omega
      · rw [sumN_up_out _ _ _ 30 (by omega)]
        omega
theorem glN_g (f7 pt : Nat → Nat) (v nH : Nat) (f8 : Nat → Nat) (c : Nat) : ∀ n h, (glN f7 pt v nH f8 c n).2.1 h ≤ n
  | 0, _ => Nat.le_refl 0
  | n + 1, h => by
    have hh := glN_g f7 pt v nH f8 c n h
    cases hk : kz f7 pt (glN f7 pt v nH f8 c n).2.1 v nH with
    | none => rw [glN_n hk]; dsimp only; omega
    | some b =>
      rw [glN_y hk]
      dsimp only
      by_cases e : h = b
      · subst e
        rw [up_s]
        omega
      · rw [up_n e]
        omega
theorem glN_z {f7 pt : Nat → Nat} {v nH : Nat} {f8 : Nat → Nat} {c n : Nat} (h : kz f7 pt (glN f7 pt v nH f8 c n).2.1 v nH = none) : ∀ m, glN f7 pt v nH f8 c (n + m) = ((glN f7 pt v nH f8 c n).1, (glN f7 pt v nH f8 c n).2.1, (glN f7 pt v nH f8 c n).2.2 + m)
  | 0 => rfl
  | m + 1 => by
    have e := glN_z h m
    have hk : kz f7 pt (glN f7 pt v nH f8 c (n + m)).2.1 v nH = none := by rw [e]; exact h
    rw [show n + (m + 1) = (n + m) + 1 by omega, glN_n hk, e]
    rfl
theorem glN_cong {f7 pt qt : Nat → Nat} {v nH : Nat} {f8 : Nat → Nat} {c : Nat} (h : ∀ j, j < nH → pt j = qt j) : ∀ n, glN f7 pt v nH f8 c n = glN f7 qt v nH f8 c n
  | 0 => rfl
  | n + 1 => by rw [glN, glN, glN_cong h n, kz_cong nH h]
/-- one vegetable after the other -/
def pkV (f5 f7 pt : Nat → Nat) (P nH v : Nat) (s : (Nat → Nat) × (Nat → Nat)) : (Nat → Nat) × (Nat → Nat) :=
  ((glN f7 pt v nH (dlK s.1 (f5 v) pt P v nH) (s.2 v) (f5 v - shS (f5 v) pt P nH)).1, va_up s.2 v (glN f7 pt v nH (dlK s.1 (f5 v) pt P v nH) (s.2 v) (f5 v - shS (f5 v) pt P nH)).2.2)
def pkS (f5 f6 f7 pt : Nat → Nat) (P nH : Nat) : Nat → (Nat → Nat) × (Nat → Nat)
  | 0 => ((fun _ => 0), f6)
  | n + 1 => pkV f5 f7 pt P nH n (pkS f5 f6 f7 pt P nH n)
theorem sumN_zero (n : Nat) : sumN (fun _ => 0) n = 0 := by
  induction n with
  | zero => rfl
  | succ n ih => rw [sumN_s, ih]
theorem pkS_sum (f5 f6 f7 pt : Nat → Nat) (P nH : Nat) (hP : sumN pt nH ≤ P) : ∀ n, n ≤ 5 → sumN (pkS f5 f6 f7 pt P nH n).1 30 ≤ sumN f5 n
  | 0, _ => by rw [show (pkS f5 f6 f7 pt P nH 0).1 = (fun _ => 0) from rfl, sumN_zero]; exact Nat.zero_le _
  | n + 1, hn => by
    have h := pkS_sum f5 f6 f7 pt P nH hP n (by omega)
    have h1 := dlK_sum (pkS f5 f6 f7 pt P nH n).1 (f5 n) pt P n (by omega) nH
    have h2 := glN_sum f7 pt n nH (dlK (pkS f5 f6 f7 pt P nH n).1 (f5 n) pt P n nH) ((pkS f5 f6 f7 pt P nH n).2 n) (f5 n - shS (f5 n) pt P nH)
    have h3 : shS (f5 n) pt P nH ≤ f5 n := shS_le hP
    have h4 : sumN f5 (n + 1) = sumN f5 n + f5 n := rfl
    show sumN (pkV f5 f7 pt P nH n (pkS f5 f6 f7 pt P nH n)).1 30 ≤ _
    unfold pkV
    dsimp only
    omega
theorem dlK_cong {f8 : Nat → Nat} {L : Nat} {pt qt : Nat → Nat} {P v n : Nat} (h : ∀ j, j < n → pt j = qt j) : dlK f8 L pt P v n = dlK f8 L qt P v n := by
  funext k
  unfold dlK
  by_cases c : 0 < P ∧ k % 5 = v ∧ k / 5 < n
  · rw [if_pos c, if_pos c, h _ c.2.2]
  · rw [if_neg c, if_neg c]
theorem pkS_cong {f5 f6 f7 pt qt : Nat → Nat} {P nH : Nat} (h : ∀ j, j < nH → pt j = qt j) : ∀ n, pkS f5 f6 f7 pt P nH n = pkS f5 f6 f7 qt P nH n
  | 0 => rfl
  | n + 1 => by
    have e : shS (f5 n) pt P nH = shS (f5 n) qt P nH := sumN_cong (fun k hk => by rw [h k hk])
    rw [pkS, pkS, pkS_cong h n]
    unfold pkV
    rw [e, dlK_cong h, glN_cong h]
/-- the gain of a swap (0: none), by the houses and vegetables, and by one number of all four -/
def gai (f7 f8 : Nat → Nat) (nH nV a b v w : Nat) : Nat := if a < b ∧ b < nH ∧ v < nV ∧ w < nV ∧ 0 < f8 (a * 5 + v) ∧ 0 < f8 (b * 5 + w) ∧ f7 (a * 5 + v) < f7 (a * 5 + w) ∧ f7 (b * 5 + w) < f7 (b * 5 + v) then (f7 (a * 5 + w) - f7 (a * 5 + v)) + (f7 (b * 5 + v) - f7 (b * 5 + w)) else 0
def gk (f7 f8 : Nat → Nat) (nH nV n : Nat) : Nat := gai f7 f8 nH nV (n / 150) (n / 25 % 6) (n / 5 % 5) (n % 5)
theorem gk_at (f7 f8 : Nat → Nat) (nH nV : Nat) {a b v w : Nat} (hb : b < 6) (hv : v < 5) (hw : w < 5) : gk f7 f8 nH nV (150 * a + 25 * b + 5 * v + w) = gai f7 f8 nH nV a b v w := by
  unfold gk
  rw [show (150 * a + 25 * b + 5 * v + w) / 150 = a by omega, show (150 * a + 25 * b + 5 * v + w) / 25 % 6 = b by omega, show (150 * a + 25 * b + 5 * v + w) / 5 % 5 = v by omega, show (150 * a + 25 * b + 5 * v + w) % 5 = w by omega]
/-- the best swap among the first n numbers: its number, its gain (0: none) -/
def bst (f7 f8 : Nat → Nat) (nH nV : Nat) : Nat → Nat × Nat
  | 0 => (0, 0)
  | n + 1 => if (bst f7 f8 nH nV n).2 < gk f7 f8 nH nV n then (n, gk f7 f8 nH nV n) else bst f7 f8 nH nV n
termination_by n => n
theorem bst_0 {f7 f8 : Nat → Nat} {nH nV : Nat} : bst f7 f8 nH nV 0 = (0, 0) := by rw [bst]
theorem bst_no {f7 f8 : Nat → Nat} {nH nV n : Nat} (h : gk f7 f8 nH nV n ≤ (bst f7 f8 nH nV n).2) : bst f7 f8 nH nV (n + 1) = bst f7 f8 nH nV n := by
  rw [bst, if_neg (by omega)]
theorem bst_yes {f7 f8 : Nat → Nat} {nH nV n : Nat} (h : (bst f7 f8 nH nV n).2 < gk f7 f8 nH nV n) : bst f7 f8 nH nV (n + 1) = (n, gk f7 f8 nH nV n) := by
  rw [bst, if_pos h]
theorem bst_skip {f7 f8 : Nat → Nat} {nH nV n : Nat} : ∀ m, (∀ k, n ≤ k → k < n + m → gk f7 f8 nH nV k = 0) → bst f7 f8 nH nV (n + m) = bst f7 f8 nH nV n
  | 0, _ => rfl
  | m + 1, h => by
    have e := bst_skip m (fun k h1 h2 => h k h1 (by omega))
    rw [show n + (m + 1) = (n + m) + 1 by omega, bst_no (by rw [h (n + m) (by omega) (by omega)]; exact Nat.zero_le _), e]
theorem gk_bad {f7 f8 : Nat → Nat} {nH nV k : Nat} (h : ¬ (k / 150 < k / 25 % 6 ∧ k / 25 % 6 < nH ∧ k / 5 % 5 < nV ∧ k % 5 < nV)) : gk f7 f8 nH nV k = 0 := by
  unfold gk gai
  exact if_neg (fun q => h ⟨q.1, q.2.1, q.2.2.1, q.2.2.2.1⟩)
theorem bst_pos {f7 f8 : Nat → Nat} {nH nV : Nat} : ∀ n, 0 < (bst f7 f8 nH nV n).2 → (bst f7 f8 nH nV n).1 < n ∧ gk f7 f8 nH nV (bst f7 f8 nH nV n).1 = (bst f7 f8 nH nV n).2
  | 0, h => absurd h (by rw [bst_0]; exact Nat.lt_irrefl 0)
  | n + 1, h => by
    by_cases q : (bst f7 f8 nH nV n).2 < gk f7 f8 nH nV n
    · rw [bst_yes q]
      exact ⟨Nat.lt_succ_self n, rfl⟩
    · rw [bst_no (by omega)] at h ⊢
      have := bst_pos n h
      exact ⟨by omega, this.2⟩
/-- the houses and vegetables of a swap that is there -/
theorem bst_what {f7 f8 : Nat → Nat} {nH nV n : Nat} (h : 0 < (bst f7 f8 nH nV n).2) : ∃ a b v w, a = (bst f7 f8 nH nV n).1 / 150 ∧ b = (bst f7 f8 nH nV n).1 / 25 % 6 ∧ v = (bst f7 f8 nH nV n).1 / 5 % 5 ∧ w = (bst f7 f8 nH nV n).1 % 5 ∧ a < b ∧ b < nH ∧ v < nV ∧ w < nV ∧ 0 < f8 (a * 5 + v) ∧ 0 < f8 (b * 5 + w) ∧ f7 (a * 5 + v) < f7 (a * 5 + w) ∧ f7 (b * 5 + w) < f7 (b * 5 + v) := by
  obtain ⟨-, h2⟩ := bst_pos n h
  refine ⟨_, _, _, _, rfl, rfl, rfl, rfl, ?_⟩
  rw [← h2] at h
  unfold gk gai at h
  split at h
  · next q => exact q
  · exact absurd h (Nat.lt_irrefl 0)
theorem gk_le {f7 f8 : Nat → Nat} {nH nV k : Nat} (hH : nH ≤ 6) (hV : nV ≤ 5) (b7 : ∀ j, j < 30 → f7 j ≤ 9) : gk f7 f8 nH nV k ≤ 18 := by
  unfold gk gai
  split
  · next q =>
    have h1 := b7 (k / 150 * 5 + k % 5) (by omega)
    have h2 := b7 (k / 25 % 6 * 5 + k / 5 % 5) (by omega)
    omega
  · omega
theorem bst_le {f7 f8 : Nat → Nat} {nH nV : Nat} (hH : nH ≤ 6) (hV : nV ≤ 5) (b7 : ∀ j, j < 30 → f7 j ≤ 9) : ∀ n, (bst f7 f8 nH nV n).2 ≤ 18
  | 0 => by rw [bst]; omega
  | n + 1 => by
    have h := bst_le hH hV b7 n (f8 := f8)
    have h2 := gk_le (f8 := f8) (k := n) hH hV b7
    rw [bst]
    split
    · exact h2
    · exact h
/-- a swap is made -/
def swK (f8 : Nat → Nat) (a b v w : Nat) : Nat → Nat :=
  va_up (va_up (va_up (va_up f8 (a * 5 + v) (f8 (a * 5 + v) - 1)) (b * 5 + v) (va_up f8 (a * 5 + v) (f8 (a * 5 + v) - 1) (b * 5 + v) + 1)) (b * 5 + w) (va_up (va_up f8 (a * 5 + v) (f8 (a * 5 + v) - 1)) (b * 5 + v) (va_up f8 (a * 5 + v) (f8 (a * 5 + v) - 1) (b * 5 + v) + 1) (b * 5 + w) - 1)) (a * 5 + w) (va_up (va_up (va_up f8 (a * 5 + v) (f8 (a * 5 + v) - 1)) (b * 5 + v) (va_up f8 (a * 5 + v) (f8 (a * 5 + v) - 1) (b * 5 + v) + 1)) (b * 5 + w) (va_up (va_up f8 (a * 5 + v) (f8 (a * 5 + v) - 1)) (b * 5 + v) (va_up f8 (a * 5 + v) (f8 (a * 5 + v) - 1) (b * 5 + v) + 1) (b * 5 + w) - 1) (a * 5 + w) + 1)
def swP (f8 : Nat → Nat) (k : Nat) : Nat → Nat := swK f8 (k / 150) (k / 25 % 6) (k / 5 % 5) (k % 5)
/-- a weighed sum -/
def wsum (g f : Nat → Nat) : Nat := sumN (fun k => g k * f k) 30
theorem wsum_up (g f : Nat → Nat) (k x : Nat) (hk : k < 30) : wsum g (va_up f k x) + g k * f k = wsum g f + g k * x := by
  have e : (fun j => g j * va_up f k x j) = va_up (fun j => g j * f j) k (g k * x) := by
    funext j
    by_cases q : j = k
    · subst q; rw [up_s, up_s]
    · rw [up_n q, up_n q]
  unfold wsum
  rw [e]
  exact sumN_up_eq (fun j => g j * f j) k (g k * x) 30 hk
theorem wsum_i (g f : Nat → Nat) (k : Nat) (hk : k < 30) : wsum g (va_up f k (f k + 1)) = wsum g f + g k := by
  have := wsum_up g f k (f k + 1) hk
  rw [Nat.mul_add, Nat.mul_one] at this
  omega
theorem wsum_d (g f : Nat → Nat) (k : Nat) (hk : k < 30) (h : 0 < f k) : wsum g (va_up f k (f k - 1)) + g k = wsum g f := by
  have h1 := wsum_up g f k (f k - 1) hk
  have h2 : g k * f k = g k * (f k - 1) + g k := by
    obtain ⟨y, hy⟩ : ∃ y, f k = y + 1 := ⟨f k - 1, by omega⟩
    rw [hy, Nat.add_sub_cancel, Nat.mul_add, Nat.mul_one]
  omega
theorem wsum_1 (f : Nat → Nat) : wsum (fun _ => 1) f = sumN f 30 := sumN_cong (fun k _ => Nat.one_mul _)
theorem swK_w (g : Nat → Nat) {f8 : Nat → Nat} {a b v w : Nat} (ha : a < b) (hb : b < 6) (hv : v < 5) (hw : w < 5) (hvw : v ≠ w) (h1 : 0 < f8 (a * 5 + v)) (h2 : 0 < f8 (b * 5 + w)) :
    wsum g (swK f8 a b v w) + g (a * 5 + v) + g (b * 5 + w) = wsum g f8 + g (b * 5 + v) + g (a * 5 + w) := by
  unfold swK
  have e1 := wsum_d g f8 (a * 5 + v) (by omega) h1
  generalize hg1 : va_up f8 (a * 5 + v) (f8 (a * 5 + v) - 1) = g1 at e1 ⊢
  have e2 := wsum_i g g1 (b * 5 + v) (by omega)
  generalize hg2 : va_up g1 (b * 5 + v) (g1 (b * 5 + v) + 1) = g2 at e2 ⊢
  have h3 : 0 < g2 (b * 5 + w) := by
    rw [← hg2, up_n (by omega), ← hg1, up_n (by omega)]
    exact h2
  have e3 := wsum_d g g2 (b * 5 + w) (by omega) h3
  generalize hg3 : va_up g2 (b * 5 + w) (g2 (b * 5 + w) - 1) = g3 at e3 ⊢
  have e4 := wsum_i g g3 (a * 5 + w) (by omega)
  omega
/-- swaps, as many as there are (at most n): how many, and the boxes behind them -/
def swR (f7 : Nat → Nat) (nH nV : Nat) : Nat → (Nat → Nat) → Nat × (Nat → Nat)
  | 0, f8 => (0, f8)
  | n + 1, f8 => if 0 < (bst f7 f8 nH nV 900).2 then ((swR f7 nH nV n (swP f8 (bst f7 f8 nH nV 900).1)).1 + 1, (swR f7 nH nV n (swP f8 (bst f7 f8 nH nV 900).1)).2) else (0, f8)
termination_by n => n
def swD (f7 : Nat → Nat) (nH nV : Nat) : Nat → (Nat → Nat) → Prop
  | 0, f8 => (bst f7 f8 nH nV 900).2 = 0
  | n + 1, f8 => 0 < (bst f7 f8 nH nV 900).2 → swD f7 nH nV n (swP f8 (bst f7 f8 nH nV 900).1)
termination_by n => n
theorem swD_0 {f7 : Nat → Nat} {nH nV : Nat} {f8 : Nat → Nat} : swD f7 nH nV 0 f8 ↔ (bst f7 f8 nH nV 900).2 = 0 := by rw [swD]
theorem swD_s {f7 : Nat → Nat} {nH nV n : Nat} {f8 : Nat → Nat} : swD f7 nH nV (n + 1) f8 ↔ (0 < (bst f7 f8 nH nV 900).2 → swD f7 nH nV n (swP f8 (bst f7 f8 nH nV 900).1)) := by rw [swD]
theorem swR_z {f7 : Nat → Nat} {nH nV : Nat} {f8 : Nat → Nat} (h : ¬ 0 < (bst f7 f8 nH nV 900).2) : ∀ n, swR f7 nH nV n f8 = (0, f8)
  | 0 => by rw [swR]
  | n + 1 => by rw [swR, if_neg h]
theorem swP_w (g : Nat → Nat) {f7 f8 : Nat → Nat} {nH nV : Nat} (hH : nH ≤ 6) (hV : nV ≤ 5) (h : 0 < (bst f7 f8 nH nV 900).2) : ∃ a b v w : Nat, a < b ∧ b < nH ∧ v < nV ∧ w < nV ∧ v ≠ w ∧ f7 (a * 5 + v) < f7 (a * 5 + w) ∧ f7 (b * 5 + w) < f7 (b * 5 + v) ∧ wsum g (swP f8 (bst f7 f8 nH nV 900).1) + g (a * 5 + v) + g (b * 5 + w) = wsum g f8 + g (b * 5 + v) + g (a * 5 + w) := by
  obtain ⟨a, b, v, w, ea, eb, ev, ew, q1, q2, q3, q4, q5, q6, q7, q8⟩ := bst_what h
  have hvw : v ≠ w := by
    intro q
    subst q
    omega
  refine ⟨a, b, v, w, q1, q2, q3, q4, hvw, q7, q8, ?_⟩
  unfold swP
  rw [← ea, ← eb, ← ev, ← ew]
  exact swK_w g q1 (by omega) (by omega) (by omega) hvw q5 q6
theorem swP_sum {f7 f8 : Nat → Nat} {nH nV : Nat} (hH : nH ≤ 6) (hV : nV ≤ 5) (h : 0 < (bst f7 f8 nH nV 900).2) : sumN (swP f8 (bst f7 f8 nH nV 900).1) 30 = sumN f8 30 := by
  obtain ⟨a, b, v, w, -, -, -, -, -, -, -, e⟩ := swP_w (fun _ => 1) hH hV h
  rw [wsum_1, wsum_1] at e
  omega
theorem wsum_le {f7 f8 : Nat → Nat} (b7 : ∀ j, j < 30 → f7 j ≤ 9) : wsum f7 f8 ≤ 9 * sumN f8 30 := by
  rw [← sumN_mul]
  exact sumN_lef (fun k hk => Nat.mul_le_mul_right _ (b7 k hk))
theorem swD_of {f7 : Nat → Nat} {nH nV : Nat} (hH : nH ≤ 6) (hV : nV ≤ 5) (b7 : ∀ j, j < 30 → f7 j ≤ 9) : ∀ (n : Nat) (f8 : Nat → Nat), sumN f8 30 ≤ 200 → 1800 - wsum f7 f8 ≤ n → swD f7 nH nV n f8
  | 0, f8, hs, hn => by
    rw [swD_0]
    apply Classical.byContradiction
    intro q
    have hp : 0 < (bst f7 f8 nH nV 900).2 := by omega
    obtain ⟨a, b, v, w, h1, h2, h3, h4, h5, h6, h7, e⟩ := swP_w f7 hH hV hp
    have hs2 := swP_sum hH hV hp
    have hw := wsum_le b7 (f8 := swP f8 (bst f7 f8 nH nV 900).1)
    omega
  | n + 1, f8, hs, hn => by
    rw [swD_s]
    intro hp
    obtain ⟨a, b, v, w, h1, h2, h3, h4, h5, h6, h7, e⟩ := swP_w f7 hH hV hp
    have hs2 := swP_sum hH hV hp
    exact swD_of hH hV b7 n _ (by omega) (by omega)
theorem swR_sum {f7 : Nat → Nat} {nH nV : Nat} (hH : nH ≤ 6) (hV : nV ≤ 5) : ∀ (n : Nat) (f8 : Nat → Nat), sumN (swR f7 nH nV n f8).2 30 = sumN f8 30
  | 0, _ => by rw [swR]
  | n + 1, f8 => by
    rw [swR]
    split
    · next h => rw [swR_sum hH hV n, swP_sum hH hV h]
    · rfl
theorem swR_cnt (f7 : Nat → Nat) (nH nV : Nat) : ∀ (n : Nat) (f8 : Nat → Nat), (swR f7 nH nV n f8).1 ≤ n
  | 0, _ => by rw [swR]; exact Nat.le_refl 0
  | n + 1, f8 => by
    rw [swR]
    split
    · have := swR_cnt f7 nH nV n (swP f8 (bst f7 f8 nH nV 900).1)
      dsimp only
      omega
    · exact Nat.zero_le _
/-- what a search's result shows in four numbers (as they were where there is none) -/
def slA (y : Nat) (p : Nat × Nat) : Nat := if 0 < p.2 then p.1 / 150 else y
def slB (y : Nat) (p : Nat × Nat) : Nat := if 0 < p.2 then p.1 / 25 % 6 else y
def slV (y : Nat) (p : Nat × Nat) : Nat := if 0 < p.2 then p.1 / 5 % 5 else y
def slW (y : Nat) (p : Nat × Nat) : Nat := if 0 < p.2 then p.1 % 5 else y
/-- the week's end -/
def clO (pt f2 : Nat → Nat) (nH : Nat) : Nat → Nat := tabN (fun h => if 0 < pt h then min 9 (f2 h + 1) else f2 h) nH f2
def clC (pt f1 f3 f4 : Nat → Nat) (nH : Nat) : Nat → Nat := tabN (fun h => if 0 < pt h then f3 h - 1 else if f4 h = 1 then min 9 (f3 h + f1 h) else f3 h) nH f3
theorem mm_min {a b : Nat} (ha : a < 2 ^ 31) (hb : b < 2 ^ 31) : (if nI b < nI a then nI b else nI a) = nI (min a b) := by
  by_cases h : b < a
  · rw [if_pos ((nI_ltI hb ha).mpr h), Nat.min_eq_right (by omega)]
  · rw [if_neg (fun q => h ((nI_ltI hb ha).mp q)), Nat.min_eq_left (by omega)]
theorem mm_max {c : Nat} (hc : c < 2 ^ 30) : (if nI 0 < nI c - nI 1 then nI c - nI 1 else nI 0) = nI (c - 1) := by
  by_cases h : 1 < c
  · have e : nI c - nI 1 = nI (c - 1) := pk_sub (by omega)
    rw [e, if_pos ((nI_ltI (by omega) (by omega)).mpr (by omega))]
  · rw [if_neg, show c - 1 = 0 by omega]
    intro q
    rw [Int32.lt_iff_toInt_lt, pk_sub_toInt hc (by omega), nI_toInt (by omega)] at q
    omega
/-- signs of differences -/
theorem d_le {a b : Nat} (ha : a < 2 ^ 30) (hb : b < 2 ^ 30) (h : nI a - nI b ≤ 0) : a ≤ b := by
  rw [Int32.le_iff_toInt_le, pk_sub_toInt ha hb] at h
  have : (0 : Int32).toInt = 0 := by decide
  omega
theorem d_nle {a b : Nat} (ha : a < 2 ^ 30) (hb : b < 2 ^ 30) (h : ¬ nI a - nI b ≤ 0) : b < a := by
  rw [Int32.le_iff_toInt_le, pk_sub_toInt ha hb] at h
  have : (0 : Int32).toInt = 0 := by decide
  omega

