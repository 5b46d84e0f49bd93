/-! Ties: the first of the greatest hangs on the values alone. -/
theorem amx_congr {cnd : Nat → Bool} {val val' : Nat → Nat} : ∀ n, (∀ i, i < n → cnd i = true → val i = val' i) → amx cnd val n = amx cnd val' n
  | 0, _ => rfl
  | n + 1, h => by
    have e := amx_congr (cnd := cnd) (val := val) (val' := val') n (fun i hi hc => h i (by omega) hc)
    have hcd : ∀ b, amx cnd val n = some b → cnd b = true := by
      intro b
      clear h e
      induction n with
      | zero => intro q; cases q
      | succ k ih =>
        intro q
        by_cases hc : cnd k = true
        · cases hk : amx cnd val k with
          | none => rw [amx_0 hc hk] at q; cases q; exact hc
          | some d =>
            by_cases hw : val d < val k
            · rw [amx_1 hc hk hw] at q; cases q; exact hc
            · rw [amx_2 hc hk hw] at q; cases q; exact ih hk
        · rw [amx_no hc] at q; exact ih q
    by_cases hc : cnd n = true
    · cases hk : amx cnd val n with
      | none => rw [amx_0 hc hk, amx_0 hc (e ▸ hk)]
      | some b =>
        have hb := amx_lt n b hk
        have v1 := h n (by omega) hc
        have v2 := h b (by omega) (hcd b hk)
        by_cases hw : val b < val n
        · rw [amx_1 hc hk hw, amx_1 hc (e ▸ hk) (by omega)]
        · rw [amx_2 hc hk hw, amx_2 hc (e ▸ hk) (by omega)]
    · rw [amx_no hc, amx_no hc, e]
theorem bmo_tieO {T : Nat → Nat → Nat} {kw : Int32} {n : Nat} (hn : n < 2 ^ 31) (hN : ∀ i, i < n → packT (hvT T i (T 5 i + 1)) 0 0 < 2 ^ 31) (hv : ∀ i, i < n → hapAT (packT (hvT T i (T 5 i + 1))) < 2 ^ 31) : (bmoF T kw n).1 = encK (bmoO T n) := by
  rw [bmo_tie hn hv]
  unfold bmoO
  rw [amx_congr n (fun i hi _ => (bmoV_eq (hN i hi)).symm)]
