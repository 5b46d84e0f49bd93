/-! The reference: its one row of numbers, seen as a farm's numbers and rows. -/
def nm6 (H V wk ea gi sw : Nat) : Nat → Nat := fun j => match j with
  | 0 => H
  | 1 => V
  | 2 => wk
  | 3 => ea
  | 4 => gi
  | _ => sw
def qN (H V wk ea gi sw : Nat) (f1 f2 f3 f4 f5 f6 f7 f8 : Nat → Nat) : Nat → Nat := fun k =>
  if k < 6 then nm6 H V wk ea gi sw k
  else if k < 30 then (if (k - 6) % 4 = 0 then f1 ((k - 6) / 4) else if (k - 6) % 4 = 1 then f2 ((k - 6) / 4) else if (k - 6) % 4 = 2 then f3 ((k - 6) / 4) else f4 ((k - 6) / 4))
  else if k < 40 then (if (k - 30) % 2 = 0 then f5 ((k - 30) / 2) else f6 ((k - 30) / 2))
  else if k < 70 then f7 (k - 40) else f8 (k - 70)
section
variable {H V wk ea gi sw x h v : Nat} {f1 f2 f3 f4 f5 f6 f7 f8 : Nat → Nat}
theorem qR_1 (hh : h < 6) : qN H V wk ea gi sw f1 f2 f3 f4 f5 f6 f7 f8 (6 + 4 * h) = f1 h := by
  unfold qN
  rw [if_neg (by omega), if_pos (by omega), if_pos (by omega), show (6 + 4 * h - 6) / 4 = h by omega]
theorem qR_2 (hh : h < 6) : qN H V wk ea gi sw f1 f2 f3 f4 f5 f6 f7 f8 (6 + 4 * h + 1) = f2 h := by
  unfold qN
  rw [if_neg (by omega), if_pos (by omega), if_neg (by omega), if_pos (by omega), show (6 + 4 * h + 1 - 6) / 4 = h by omega]
theorem qR_3 (hh : h < 6) : qN H V wk ea gi sw f1 f2 f3 f4 f5 f6 f7 f8 (6 + 4 * h + 2) = f3 h := by
  unfold qN
  rw [if_neg (by omega), if_pos (by omega), if_neg (by omega), if_neg (by omega), if_pos (by omega), show (6 + 4 * h + 2 - 6) / 4 = h by omega]
theorem qR_4 (hh : h < 6) : qN H V wk ea gi sw f1 f2 f3 f4 f5 f6 f7 f8 (6 + 4 * h + 3) = f4 h := by
  unfold qN
  rw [if_neg (by omega), if_pos (by omega), if_neg (by omega), if_neg (by omega), if_neg (by omega), show (6 + 4 * h + 3 - 6) / 4 = h by omega]
theorem qR_5 (hv : v < 5) : qN H V wk ea gi sw f1 f2 f3 f4 f5 f6 f7 f8 (30 + 2 * v) = f5 v := by
  unfold qN
  rw [if_neg (by omega), if_neg (by omega), if_pos (by omega), if_pos (by omega), show (30 + 2 * v - 30) / 2 = v by omega]
theorem qR_6 (hv : v < 5) : qN H V wk ea gi sw f1 f2 f3 f4 f5 f6 f7 f8 (30 + 2 * v + 1) = f6 v := by
  unfold qN
  rw [if_neg (by omega), if_neg (by omega), if_pos (by omega), if_neg (by omega), show (30 + 2 * v + 1 - 30) / 2 = v by omega]
theorem qR_7 (hh : h < 6) (hv : v < 5) : qN H V wk ea gi sw f1 f2 f3 f4 f5 f6 f7 f8 (40 + 5 * h + v) = f7 (h * 5 + v) := by
  unfold qN
  rw [if_neg (by omega), if_neg (by omega), if_neg (by omega), if_pos (by omega), show 40 + 5 * h + v - 40 = h * 5 + v by omega]
theorem qR_8 (hh : h < 6) (hv : v < 5) : qN H V wk ea gi sw f1 f2 f3 f4 f5 f6 f7 f8 (70 + 5 * h + v) = f8 (h * 5 + v) := by
  unfold qN
  rw [if_neg (by omega), if_neg (by omega), if_neg (by omega), if_neg (by omega), show 70 + 5 * h + v - 70 = h * 5 + v by omega]
theorem qU_n {F G : Nat → Nat} {i : Nat} (h6 : i < 6) (h1 : ∀ k, k < 6 → k ≠ i → F k = G k) (h2 : G i = x) (h3 : ∀ k, F (k + 6) = G (k + 6)) : va_up F i x = G := by
  funext k
  by_cases e : k = i
  · subst e; rw [uq_s, h2]
  · rw [uq_n e]
    by_cases q : k < 6
    · exact h1 k q e
    · have := h3 (k - 6)
      rw [show k - 6 + 6 = k by omega] at this
      exact this
theorem qN_hi (k : Nat) (H' V' wk' ea' gi' sw' : Nat) : qN H V wk ea gi sw f1 f2 f3 f4 f5 f6 f7 f8 (k + 6) = qN H' V' wk' ea' gi' sw' f1 f2 f3 f4 f5 f6 f7 f8 (k + 6) := by
  unfold qN
  rw [if_neg (show ¬ k + 6 < 6 by omega), if_neg (show ¬ k + 6 < 6 by omega)]
theorem qU_01 : va_up (qN H V wk ea gi sw f1 f2 f3 f4 f5 f6 f7 f8) 0 x = qN x V wk ea gi sw f1 f2 f3 f4 f5 f6 f7 f8 := qU_n (by decide) (fun k hk hn => match k, hk, hn with
  | 0, _, hn => absurd rfl hn
  | 1, _, _ => rfl
  | 2, _, _ => rfl
  | 3, _, _ => rfl
  | 4, _, _ => rfl
  | 5, _, _ => rfl
  | k + 6, hk, _ => absurd hk (by omega)) rfl (fun k => qN_hi k _ _ _ _ _ _)
theorem qU_02 : va_up (qN H V wk ea gi sw f1 f2 f3 f4 f5 f6 f7 f8) 1 x = qN H x wk ea gi sw f1 f2 f3 f4 f5 f6 f7 f8 := qU_n (by decide) (fun k hk hn => match k, hk, hn with
  | 0, _, _ => rfl
  | 1, _, hn => absurd rfl hn
  | 2, _, _ => rfl
  | 3, _, _ => rfl
  | 4, _, _ => rfl
  | 5, _, _ => rfl
  | k + 6, hk, _ => absurd hk (by omega)) rfl (fun k => qN_hi k _ _ _ _ _ _)
theorem qU_03 : va_up (qN H V wk ea gi sw f1 f2 f3 f4 f5 f6 f7 f8) 2 x = qN H V x ea gi sw f1 f2 f3 f4 f5 f6 f7 f8 := qU_n (by decide) (fun k hk hn => match k, hk, hn with
  | 0, _, _ => rfl
  | 1, _, _ => rfl
  | 2, _, hn => absurd rfl hn
  | 3, _, _ => rfl
  | 4, _, _ => rfl
  | 5, _, _ => rfl
  | k + 6, hk, _ => absurd hk (by omega)) rfl (fun k => qN_hi k _ _ _ _ _ _)
theorem qU_04 : va_up (qN H V wk ea gi sw f1 f2 f3 f4 f5 f6 f7 f8) 3 x = qN H V wk x gi sw f1 f2 f3 f4 f5 f6 f7 f8 := qU_n (by decide) (fun k hk hn => match k, hk, hn with
  | 0, _, _ => rfl
  | 1, _, _ => rfl
  | 2, _, _ => rfl
  | 3, _, hn => absurd rfl hn
  | 4, _, _ => rfl
  | 5, _, _ => rfl
  | k + 6, hk, _ => absurd hk (by omega)) rfl (fun k => qN_hi k _ _ _ _ _ _)
theorem qU_05 : va_up (qN H V wk ea gi sw f1 f2 f3 f4 f5 f6 f7 f8) 4 x = qN H V wk ea x sw f1 f2 f3 f4 f5 f6 f7 f8 := qU_n (by decide) (fun k hk hn => match k, hk, hn with
  | 0, _, _ => rfl
  | 1, _, _ => rfl
  | 2, _, _ => rfl
  | 3, _, _ => rfl
  | 4, _, hn => absurd rfl hn
  | 5, _, _ => rfl
  | k + 6, hk, _ => absurd hk (by omega)) rfl (fun k => qN_hi k _ _ _ _ _ _)
theorem qU_06 : va_up (qN H V wk ea gi sw f1 f2 f3 f4 f5 f6 f7 f8) 5 x = qN H V wk ea gi x f1 f2 f3 f4 f5 f6 f7 f8 := qU_n (by decide) (fun k hk hn => match k, hk, hn with
  | 0, _, _ => rfl
  | 1, _, _ => rfl
  | 2, _, _ => rfl
  | 3, _, _ => rfl
  | 4, _, _ => rfl
  | 5, _, hn => absurd rfl hn
  | k + 6, hk, _ => absurd hk (by omega)) rfl (fun k => qN_hi k _ _ _ _ _ _)
theorem qU_1 (hh : h < 6) : va_up (qN H V wk ea gi sw f1 f2 f3 f4 f5 f6 f7 f8) (6 + 4 * h) x = qN H V wk ea gi sw (va_up f1 h x) f2 f3 f4 f5 f6 f7 f8 := by
  funext k
  by_cases e : k = 6 + 4 * h
  · subst e; rw [uq_s, qR_1 hh, up_s]
  · rw [uq_n e]; unfold qN
    repeat' split
    all_goals first | rfl | (exfalso; omega) | exact (up_n (by omega)).symm
theorem qU_2 (hh : h < 6) : va_up (qN H V wk ea gi sw f1 f2 f3 f4 f5 f6 f7 f8) (6 + 4 * h + 1) x = qN H V wk ea gi sw f1 (va_up f2 h x) f3 f4 f5 f6 f7 f8 := by
  funext k
  by_cases e : k = 6 + 4 * h + 1
  · subst e; rw [uq_s, qR_2 hh, up_s]
  · rw [uq_n e]; unfold qN
    repeat' split
    all_goals first | rfl | (exfalso; omega) | exact (up_n (by omega)).symm
theorem qU_3 (hh : h < 6) : va_up (qN H V wk ea gi sw f1 f2 f3 f4 f5 f6 f7 f8) (6 + 4 * h + 2) x = qN H V wk ea gi sw f1 f2 (va_up f3 h x) f4 f5 f6 f7 f8 := by
  funext k
  by_cases e : k = 6 + 4 * h + 2
  · subst e; rw [uq_s, qR_3 hh, up_s]
  · rw [uq_n e]; unfold qN
    repeat' split
    all_goals first | rfl | (exfalso; omega) | exact (up_n (by omega)).symm
theorem qU_4 (hh : h < 6) : va_up (qN H V wk ea gi sw f1 f2 f3 f4 f5 f6 f7 f8) (6 + 4 * h + 3) x = qN H V wk ea gi sw f1 f2 f3 (va_up f4 h x) f5 f6 f7 f8 := by
  funext k
  by_cases e : k = 6 + 4 * h + 3
  · subst e; rw [uq_s, qR_4 hh, up_s]
  · rw [uq_n e]; unfold qN
    repeat' split
    all_goals first | rfl | (exfalso; omega) | exact (up_n (by omega)).symm
theorem qU_5 (hv : v < 5) : va_up (qN H V wk ea gi sw f1 f2 f3 f4 f5 f6 f7 f8) (30 + 2 * v) x = qN H V wk ea gi sw f1 f2 f3 f4 (va_up f5 v x) f6 f7 f8 := by
  funext k
  by_cases e : k = 30 + 2 * v
  · subst e; rw [uq_s, qR_5 hv, up_s]
  · rw [uq_n e]; unfold qN
    repeat' split
    all_goals first | rfl | (exfalso; omega) | exact (up_n (by omega)).symm
theorem qU_6 (hv : v < 5) : va_up (qN H V wk ea gi sw f1 f2 f3 f4 f5 f6 f7 f8) (30 + 2 * v + 1) x = qN H V wk ea gi sw f1 f2 f3 f4 f5 (va_up f6 v x) f7 f8 := by
  funext k
  by_cases e : k = 30 + 2 * v + 1
  · subst e; rw [uq_s, qR_6 hv, up_s]
  · rw [uq_n e]; unfold qN
    repeat' split
    all_goals first | rfl | (exfalso; omega) | exact (up_n (by omega)).symm
theorem qU_7 (hh : h < 6) (hv : v < 5) : va_up (qN H V wk ea gi sw f1 f2 f3 f4 f5 f6 f7 f8) (40 + 5 * h + v) x = qN H V wk ea gi sw f1 f2 f3 f4 f5 f6 (va_up f7 (h * 5 + v) x) f8 := by
  funext k
  by_cases e : k = 40 + 5 * h + v
  · subst e; rw [uq_s, qR_7 hh hv, up_s]
  · rw [uq_n e]; unfold qN
    repeat' split
    all_goals first | rfl | (exfalso; omega) | exact (up_n (by omega)).symm
theorem qU_8 (hh : h < 6) (hv : v < 5) : va_up (qN H V wk ea gi sw f1 f2 f3 f4 f5 f6 f7 f8) (70 + 5 * h + v) x = qN H V wk ea gi sw f1 f2 f3 f4 f5 f6 f7 (va_up f8 (h * 5 + v) x) := by
  funext k
  by_cases e : k = 70 + 5 * h + v
  · subst e; rw [uq_s, qR_8 hh hv, up_s]
  · rw [uq_n e]; unfold qN
    repeat' split
    all_goals first | rfl | (exfalso; omega) | exact (up_n (by omega)).symm
end
/-- the reference's blocks -/
def qX (cI : ClassId) (a : Nat) (H V wk ea gi sw : Nat) (f1 f2 f3 f4 f5 f6 f7 f8 : Nat → Nat) : va_W := [(a, .inl (cI, 100, .inl (nF (qN H V wk ea gi sw f1 f2 f3 f4 f5 f6 f7 f8))))]
def mX (m : Nat) (rf : Nat → Nat) (st ln th pl hs vs : Nat) (dg : Int32) (x : Int64) : va_W := [(m, .inr (9, [.ref (rf 0), .ref (rf 1), .ref (rf 2), .int (nI st), .ref (rf 3), .ref (rf 4), .ref (rf 5), .int (nI ln), .int (nI th), .ref (rf 6), .int (nI pl), .int (nI hs), .int (nI vs), .int dg, .long x]))]
theorem qX_m (cI : ClassId) (a : Nat) (H V wk ea gi sw : Nat) (f1 f2 f3 f4 f5 f6 f7 f8 : Nat → Nat) : (qX cI a H V wk ea gi sw f1 f2 f3 f4 f5 f6 f7 f8).map Prod.fst = [a] := rfl
theorem mX_m (m : Nat) (rf : Nat → Nat) (st ln th pl hs vs : Nat) (dg : Int32) (x : Int64) : (mX m rf st ln th pl hs vs dg x).map Prod.fst = [m] := rfl
