/-! Ties: what a most worth harvest is worth. -/
theorem hapB_all {f7 f8 : Nat → Nat} {nV : Nat} : ∀ n, n < 2 ^ 31 → hapB f7 f8 nV (-1) n = hapA f7 f8 nV n
  | 0, _ => rfl
  | n + 1, h => by
    have e := hapB_all (f7 := f7) (f8 := f8) (nV := nV) n (by omega)
    unfold hapB hapA at e ⊢
    rw [sumN, sumN, e, if_neg (fun q => n_m1 (n := n) (by omega) (by rw [q]; exact Int32.le_refl _))]
theorem bmoV_eq {T : Nat → Nat → Nat} {v : Nat} (hn : packT (hvT T v (T 5 v + 1)) 0 0 < 2 ^ 31) : bmoV T v = hapAT (packT (hvT T v (T 5 v + 1))) := hapB_all _ hn
