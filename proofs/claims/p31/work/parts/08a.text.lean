def tX (cI : ClassId) (a : Nat → Nat) (X : Nat → Nat) (L p : Nat) : va_W := [(a 0, .inr (2, [.ref (a 1), .int (nI L), .int (nI p)])), (a 1, .inl (cI, 120, .inl (nF X)))]
/-! How a text is read (pure). -/
def dg (X : Nat → Nat) (L p lo hi : Nat) : Option Nat := if p < L ∧ 48 + lo ≤ X p ∧ X p ≤ 48 + hi then some (X p - 48) else none
def plD (X : Nat → Nat) (L p lo hi : Nat) : Nat := match dg X L p lo hi with
  | none => p
  | some _ => p + 1
theorem plD_n {X : Nat → Nat} {L p lo hi : Nat} (h : dg X L p lo hi = none) : plD X L p lo hi = p := by unfold plD; rw [h]
theorem plD_s {X : Nat → Nat} {L p lo hi d : Nat} (h : dg X L p lo hi = some d) : plD X L p lo hi = p + 1 := by unfold plD; rw [h]
theorem dg_le {X : Nat → Nat} {L p lo hi d : Nat} (h : dg X L p lo hi = some d) : lo ≤ d ∧ d ≤ hi ∧ p < L ∧ X p = 48 + d := by
  unfold dg at h
  split at h
  · cases h; omega
  · cases h
theorem dg_no {X : Nat → Nat} {L p lo hi : Nat} (h : ¬ (p < L ∧ 48 + lo ≤ X p ∧ X p ≤ 48 + hi)) : dg X L p lo hi = none := if_neg h
theorem dg_yes {X : Nat → Nat} {L p lo hi : Nat} (h : p < L ∧ 48 + lo ≤ X p ∧ X p ≤ 48 + hi) : dg X L p lo hi = some (X p - 48) := if_pos h
theorem dgl {x lo : Nat} (hx : x < 2 ^ 20) (hl : lo < 2 ^ 20) : nI x - nI 48 < nI lo ↔ x < 48 + lo := by
  rw [Int32.lt_iff_toInt_lt, pk_sub_toInt (by omega) (by omega), nI_toInt (by omega)]
  omega
theorem dgh {x hi : Nat} (hx : x < 2 ^ 20) (hh : hi < 2 ^ 20) : nI x - nI 48 ≤ nI hi ↔ x ≤ 48 + hi := by
  rw [Int32.le_iff_toInt_le, pk_sub_toInt (by omega) (by omega), nI_toInt (by omega)]
  omega
theorem dg57 {lo : Nat} (hl : lo < 2 ^ 20) : (-9) - nI 48 < nI lo := by
  rw [Int32.lt_iff_toInt_lt, nI_toInt (by omega), show ((-9 : Int32) - nI 48).toInt = -57 by decide]
  omega
abbrev PT : Type := Bool × Nat × Nat × Nat × (Nat → Nat) × (Nat → Nat) × (Nat → Nat) × (Nat → Nat) × (Nat → Nat)
def rpH (X : Nat → Nat) (L p nH nV : Nat) (f1 f2 f4 f5 f7 : Nat → Nat) : PT := match dg X L (p + 1) 1 4 with
  | none => (false, p + 1, nH, nV, f1, f2, f4, f5, f7)
  | some a => match dg X L (p + 1 + 1) 0 9 with
    | none => (false, p + 1 + 1, nH, nV, f1, f2, f4, f5, f7)
    | some b => (true, p + 1 + 1 + 1, nH + 1, nV, va_up f1 nH a, va_up f2 nH b, f4, f5, f7)
def rpV (X : Nat → Nat) (L p nH nV : Nat) (f1 f2 f4 f5 f7 : Nat → Nat) : PT := match dg X L (p + 1) 0 4 with
  | none => (false, p + 1, nH, nV, f1, f2, f4, f5, f7)
  | some a => match dg X L (p + 1 + 1) 0 (min 9 (40 - 10 * a)) with
    | none => (false, p + 1 + 1, nH, nV, f1, f2, f4, f5, f7)
    | some b => (true, p + 1 + 1 + 1, nH, nV + 1, f1, f2, f4, va_up f5 nV (10 * a + b), f7)
def rpL (X : Nat → Nat) (L p nH nV : Nat) (f1 f2 f4 f5 f7 : Nat → Nat) : PT := match dg X L (p + 1) 0 (nH - 1) with
  | none => (false, p + 1, nH, nV, f1, f2, f4, f5, f7)
  | some a => match dg X L (p + 1 + 1) 0 (nV - 1) with
    | none => (false, p + 1 + 1, nH, nV, f1, f2, f4, f5, f7)
    | some b => match dg X L (p + 1 + 1 + 1) 0 9 with
      | none => (false, p + 1 + 1 + 1, nH, nV, f1, f2, f4, f5, f7)
      | some d => (true, p + 1 + 1 + 1 + 1, nH, nV, f1, f2, f4, f5, va_up f7 (a * 5 + b) d)
def rpS (X : Nat → Nat) (L p nH nV : Nat) (f1 f2 f4 f5 f7 : Nat → Nat) : PT := match dg X L (p + 1) 0 (nH - 1) with
  | none => (false, p + 1, nH, nV, f1, f2, f4, f5, f7)
  | some a => (true, p + 1 + 1, nH, nV, f1, f2, va_up f4 a 1, f5, f7)
def rpP (X : Nat → Nat) (L p nH nV : Nat) (f1 f2 f4 f5 f7 : Nat → Nat) : PT :=
  if X p = 104 ∧ nH < 6 then rpH X L p nH nV f1 f2 f4 f5 f7
  else if X p = 118 ∧ nV < 5 then rpV X L p nH nV f1 f2 f4 f5 f7
  else if X p = 108 ∧ 0 < nH ∧ 0 < nV then rpL X L p nH nV f1 f2 f4 f5 f7
  else if X p = 115 ∧ 0 < nH then rpS X L p nH nV f1 f2 f4 f5 f7
  else (false, p, nH, nV, f1, f2, f4, f5, f7)
def rdN (X : Nat → Nat) (L : Nat) : Nat → Nat → Nat → Nat → (Nat → Nat) → (Nat → Nat) → (Nat → Nat) → (Nat → Nat) → (Nat → Nat) → PT
  | 0, p, nH, nV, f1, f2, f4, f5, f7 => (true, p, nH, nV, f1, f2, f4, f5, f7)
  | n + 1, p, nH, nV, f1, f2, f4, f5, f7 => if p < L then
      (if (rpP X L p nH nV f1 f2 f4 f5 f7).1 = true then
        rdN X L n (rpP X L p nH nV f1 f2 f4 f5 f7).2.1 (rpP X L p nH nV f1 f2 f4 f5 f7).2.2.1 (rpP X L p nH nV f1 f2 f4 f5 f7).2.2.2.1 (rpP X L p nH nV f1 f2 f4 f5 f7).2.2.2.2.1 (rpP X L p nH nV f1 f2 f4 f5 f7).2.2.2.2.2.1 (rpP X L p nH nV f1 f2 f4 f5 f7).2.2.2.2.2.2.1 (rpP X L p nH nV f1 f2 f4 f5 f7).2.2.2.2.2.2.2.1 (rpP X L p nH nV f1 f2 f4 f5 f7).2.2.2.2.2.2.2.2
       else rpP X L p nH nV f1 f2 f4 f5 f7)
    else (true, p, nH, nV, f1, f2, f4, f5, f7)
termination_by n => n
def rdI (X : Nat → Nat) (L : Nat) : PT := if 0 < L ∧ X 0 = 70 then rdN X L 120 1 0 0 (fun _ => 0) (fun _ => 0) (fun _ => 0) (fun _ => 0) (fun _ => 5) else (false, 0, 0, 0, (fun _ => 0), (fun _ => 0), (fun _ => 0), (fun _ => 0), (fun _ => 5))
theorem rdN_x {X : Nat → Nat} {L n p nH nV : Nat} {f1 f2 f4 f5 f7 : Nat → Nat} (h : ¬ (0 < n ∧ p < L)) : rdN X L n p nH nV f1 f2 f4 f5 f7 = (true, p, nH, nV, f1, f2, f4, f5, f7) := by
  cases n with
  | zero => rw [rdN]
  | succ n => rw [rdN, if_neg (by omega)]
theorem rdN_f {X : Nat → Nat} {L n p nH nV : Nat} {f1 f2 f4 f5 f7 : Nat → Nat} (h0 : 0 < n) (hp : p < L) (h : ¬ (rpP X L p nH nV f1 f2 f4 f5 f7).1 = true) : rdN X L n p nH nV f1 f2 f4 f5 f7 = rpP X L p nH nV f1 f2 f4 f5 f7 := by
  cases n with
  | zero => exact absurd h0 (Nat.lt_irrefl 0)
  | succ n => rw [rdN, if_pos hp, if_neg h]
theorem rdN_t {X : Nat → Nat} {L n p nH nV : Nat} {f1 f2 f4 f5 f7 : Nat → Nat} (hp : p < L) (h : (rpP X L p nH nV f1 f2 f4 f5 f7).1 = true) : rdN X L (n + 1) p nH nV f1 f2 f4 f5 f7 = rdN X L n (rpP X L p nH nV f1 f2 f4 f5 f7).2.1 (rpP X L p nH nV f1 f2 f4 f5 f7).2.2.1 (rpP X L p nH nV f1 f2 f4 f5 f7).2.2.2.1 (rpP X L p nH nV f1 f2 f4 f5 f7).2.2.2.2.1 (rpP X L p nH nV f1 f2 f4 f5 f7).2.2.2.2.2.1 (rpP X L p nH nV f1 f2 f4 f5 f7).2.2.2.2.2.2.1 (rpP X L p nH nV f1 f2 f4 f5 f7).2.2.2.2.2.2.2.1 (rpP X L p nH nV f1 f2 f4 f5 f7).2.2.2.2.2.2.2.2 := by
  rw [rdN, if_pos hp, if_pos h]
theorem rpP_b {X : Nat → Nat} {L p nH nV : Nat} {f1 f2 f4 f5 f7 : Nat → Nat} (hH : nH ≤ 6) (hV : nV ≤ 5) : (rpP X L p nH nV f1 f2 f4 f5 f7).2.2.1 ≤ 6 ∧ (rpP X L p nH nV f1 f2 f4 f5 f7).2.2.2.1 ≤ 5 := by
  unfold rpP
  by_cases h1 : X p = 104 ∧ nH < 6
  · rw [if_pos h1]
    unfold rpH
    split
    · exact ⟨hH, hV⟩
    · split
      · exact ⟨hH, hV⟩
      · exact ⟨h1.2, hV⟩
  · rw [if_neg h1]
    by_cases h2 : X p = 118 ∧ nV < 5
    · rw [if_pos h2]
      unfold rpV
      split
      · exact ⟨hH, hV⟩
      · split
        · exact ⟨hH, hV⟩
        · exact ⟨hH, h2.2⟩
    · rw [if_neg h2]
      by_cases h3 : X p = 108 ∧ 0 < nH ∧ 0 < nV
      · rw [if_pos h3]
        unfold rpL
        split
        · exact ⟨hH, hV⟩
        · split
          · exact ⟨hH, hV⟩
          · split
            · exact ⟨hH, hV⟩
            · exact ⟨hH, hV⟩
      · rw [if_neg h3]
        by_cases h4 : X p = 115 ∧ 0 < nH
        · rw [if_pos h4]
          unfold rpS
          split
          · exact ⟨hH, hV⟩
          · exact ⟨hH, hV⟩
        · rw [if_neg h4]
          exact ⟨hH, hV⟩
theorem rpH_1 {X : Nat → Nat} {L p nH nV : Nat} {f1 f2 f4 f5 f7 : Nat → Nat} (k1 : dg X L (p + 1) 1 4 = none) : rpH X L p nH nV f1 f2 f4 f5 f7 = (false, p + 1, nH, nV, f1, f2, f4, f5, f7) := by unfold rpH; rw [k1]
theorem rpH_2 {X : Nat → Nat} {L p nH nV d1 : Nat} {f1 f2 f4 f5 f7 : Nat → Nat} (k1 : dg X L (p + 1) 1 4 = some d1) (k2 : dg X L (p + 1 + 1) 0 9 = none) : rpH X L p nH nV f1 f2 f4 f5 f7 = (false, p + 1 + 1, nH, nV, f1, f2, f4, f5, f7) := by unfold rpH; rw [k1]; dsimp only; rw [k2]
theorem rpH_3 {X : Nat → Nat} {L p nH nV d1 d2 : Nat} {f1 f2 f4 f5 f7 : Nat → Nat} (k1 : dg X L (p + 1) 1 4 = some d1) (k2 : dg X L (p + 1 + 1) 0 9 = some d2) : rpH X L p nH nV f1 f2 f4 f5 f7 = (true, p + 1 + 1 + 1, nH + 1, nV, va_up f1 nH d1, va_up f2 nH d2, f4, f5, f7) := by unfold rpH; rw [k1]; dsimp only; rw [k2]
theorem rpV_1 {X : Nat → Nat} {L p nH nV : Nat} {f1 f2 f4 f5 f7 : Nat → Nat} (k1 : dg X L (p + 1) 0 4 = none) : rpV X L p nH nV f1 f2 f4 f5 f7 = (false, p + 1, nH, nV, f1, f2, f4, f5, f7) := by unfold rpV; rw [k1]
theorem rpV_2 {X : Nat → Nat} {L p nH nV d1 : Nat} {f1 f2 f4 f5 f7 : Nat → Nat} (k1 : dg X L (p + 1) 0 4 = some d1) (k2 : dg X L (p + 1 + 1) 0 (min 9 (40 - 10 * d1)) = none) : rpV X L p nH nV f1 f2 f4 f5 f7 = (false, p + 1 + 1, nH, nV, f1, f2, f4, f5, f7) := by unfold rpV; rw [k1]; dsimp only; rw [k2]
theorem rpV_3 {X : Nat → Nat} {L p nH nV d1 d2 : Nat} {f1 f2 f4 f5 f7 : Nat → Nat} (k1 : dg X L (p + 1) 0 4 = some d1) (k2 : dg X L (p + 1 + 1) 0 (min 9 (40 - 10 * d1)) = some d2) : rpV X L p nH nV f1 f2 f4 f5 f7 = (true, p + 1 + 1 + 1, nH, nV + 1, f1, f2, f4, va_up f5 nV (10 * d1 + d2), f7) := by unfold rpV; rw [k1]; dsimp only; rw [k2]
theorem rpL_1 {X : Nat → Nat} {L p nH nV : Nat} {f1 f2 f4 f5 f7 : Nat → Nat} (k1 : dg X L (p + 1) 0 (nH - 1) = none) : rpL X L p nH nV f1 f2 f4 f5 f7 = (false, p + 1, nH, nV, f1, f2, f4, f5, f7) := by unfold rpL; rw [k1]
theorem rpL_2 {X : Nat → Nat} {L p nH nV d1 : Nat} {f1 f2 f4 f5 f7 : Nat → Nat} (k1 : dg X L (p + 1) 0 (nH - 1) = some d1) (k2 : dg X L (p + 1 + 1) 0 (nV - 1) = none) : rpL X L p nH nV f1 f2 f4 f5 f7 = (false, p + 1 + 1, nH, nV, f1, f2, f4, f5, f7) := by unfold rpL; rw [k1]; dsimp only; rw [k2]
theorem rpL_3 {X : Nat → Nat} {L p nH nV d1 d2 : Nat} {f1 f2 f4 f5 f7 : Nat → Nat} (k1 : dg X L (p + 1) 0 (nH - 1) = some d1) (k2 : dg X L (p + 1 + 1) 0 (nV - 1) = some d2) (k3 : dg X L (p + 1 + 1 + 1) 0 9 = none) : rpL X L p nH nV f1 f2 f4 f5 f7 = (false, p + 1 + 1 + 1, nH, nV, f1, f2, f4, f5, f7) := by unfold rpL; rw [k1]; dsimp only; rw [k2]; dsimp only; rw [k3]
theorem rpL_4 {X : Nat → Nat} {L p nH nV d1 d2 d3 : Nat} {f1 f2 f4 f5 f7 : Nat → Nat} (k1 : dg X L (p + 1) 0 (nH - 1) = some d1) (k2 : dg X L (p + 1 + 1) 0 (nV - 1) = some d2) (k3 : dg X L (p + 1 + 1 + 1) 0 9 = some d3) : rpL X L p nH nV f1 f2 f4 f5 f7 = (true, p + 1 + 1 + 1 + 1, nH, nV, f1, f2, f4, f5, va_up f7 (d1 * 5 + d2) d3) := by unfold rpL; rw [k1]; dsimp only; rw [k2]; dsimp only; rw [k3]
theorem rpS_1 {X : Nat → Nat} {L p nH nV : Nat} {f1 f2 f4 f5 f7 : Nat → Nat} (k1 : dg X L (p + 1) 0 (nH - 1) = none) : rpS X L p nH nV f1 f2 f4 f5 f7 = (false, p + 1, nH, nV, f1, f2, f4, f5, f7) := by unfold rpS; rw [k1]
theorem rpS_2 {X : Nat → Nat} {L p nH nV d1 : Nat} {f1 f2 f4 f5 f7 : Nat → Nat} (k1 : dg X L (p + 1) 0 (nH - 1) = some d1) : rpS X L p nH nV f1 f2 f4 f5 f7 = (true, p + 1 + 1, nH, nV, f1, f2, va_up f4 d1 1, f5, f7) := by unfold rpS; rw [k1]
theorem lk4 {n : Nat} (hn : n < 2 ^ 31) (h1 : ¬ n = 104) (h2 : ¬ n = 108) (h3 : ¬ n = 115) (h4 : ¬ n = 118) : Op.lookupswitch.offset [(104, 44), (108, 89), (115, 117), (118, 67)] 138 (nI n).toInt = 138 := by
  rw [nI_toInt hn, Op.lookupswitch.offset_cons, if_neg (by omega), Op.lookupswitch.offset_cons, if_neg (by omega), Op.lookupswitch.offset_cons, if_neg (by omega), Op.lookupswitch.offset_cons, if_neg (by omega), Op.lookupswitch.offset_nil]
set_option maxRecDepth 20000 in
theorem u_55 : Cond.fieldLink RX2 9 "HarvestBoxes$FarmText" "signs" "[I" ∈ wsL_law := List.mem_of_getElem? (i := 50) (by decide +kernel)
set_option maxRecDepth 20000 in
theorem u_16 : Cond.initialized RX2 ∈ wsL_law := List.mem_of_getElem? (i := 11) (by decide +kernel)
