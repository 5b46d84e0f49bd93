def tX (cI : ClassId) (a : Nat → Nat) (X : Nat → Nat) (L p : Nat) : va_W := [(a 0, .inr (2, [.ref (a 1), .int (nI L), .int (nI p)])), (a 1, .inl (cI, 120, .inl (nF X)))]
/-! How a text is read (pure). -/
def dg (X : Nat → Nat) (L p lo hi : Nat) : Option Nat := if p < L ∧ 48 + lo ≤ X p ∧ X p ≤ 48 + hi then some (X p - 48) else none
def plD (X : Nat → Nat) (L p lo hi : Nat) : Nat := match dg X L p lo hi with
  | none => p
  | some _ => p + 1
theorem plD_n {X : Nat → Nat} {L p lo hi : Nat} (h : dg X L p lo hi = none) : plD X L p lo hi = p := by unfold plD; rw [h]
theorem plD_s {X : Nat → Nat} {L p lo hi d : Nat} (h : dg X L p lo hi = some d) : plD X L p lo hi = p + 1 := by unfold plD; rw [h]
theorem dg_le {X : Nat → Nat} {L p lo hi d : Nat} (h : dg X L p lo hi = some d) : lo ≤ d ∧ d ≤ hi ∧ p < L ∧ X p = 48 + d := by
  unfold dg at h
  split at h
  · cases h; omega
  · cases h
theorem dg_no {X : Nat → Nat} {L p lo hi : Nat} (h : ¬ (p < L ∧ 48 + lo ≤ X p ∧ X p ≤ 48 + hi)) : dg X L p lo hi = none := if_neg h
theorem dg_yes {X : Nat → Nat} {L p lo hi : Nat} (h : p < L ∧ 48 + lo ≤ X p ∧ X p ≤ 48 + hi) : dg X L p lo hi = some (X p - 48) := if_pos h
theorem dgl {x lo : Nat} (hx : x < 2 ^ 20) (hl : lo < 2 ^ 20) : nI x - nI 48 < nI lo ↔ x < 48 + lo := by
  rw [Int32.lt_iff_toInt_lt, pk_sub_toInt (by omega) (by omega), nI_toInt (by omega)]
  omega
theorem dgh {x hi : Nat} (hx : x < 2 ^ 20) (hh : hi < 2 ^ 20) : nI x - nI 48 ≤ nI hi ↔ x ≤ 48 + hi := by
  rw [Int32.le_iff_toInt_le, pk_sub_toInt (by omega) (by omega), nI_toInt (by omega)]
  omega
theorem dg57 {lo : Nat} (hl : lo < 2 ^ 20) : (-9) - nI 48 < nI lo := by
  rw [Int32.lt_iff_toInt_lt, nI_toInt (by omega), show ((-9 : Int32) - nI 48).toInt = -57 by decide]
  omega
abbrev PT : Type := Bool × Nat × Nat × Nat × (Nat → Nat) × (Nat → Nat) × (Nat → Nat) × (Nat → Nat) × (Nat → Nat)
def rpH (X : Nat → Nat) (L p nH nV : Nat) (f1 f2 f4 f5 f7 : Nat → Nat) : PT := match dg X L (p + 1) 1 4 with
  | none => (false, p + 1, nH, nV, f1, f2, f4, f5, f7)
  | some a => match dg X L (p + 1 + 1) 0 9 with
    | none => (false, p + 1 + 1, nH, nV, f1, f2, f4, f5, f7)
    | some b => (true, p + 1 + 1 + 1, nH + 1, nV, va_up f1 nH a, va_up f2 nH b, f4, f5, f7)
def rpV (X : Nat → Nat) (L p nH nV : Nat) (f1 f2 f4 f5 f7 : Nat → Nat) : PT := match dg X L (p + 1) 0 4 with
  | none => (false, p + 1, nH, nV, f1, f2, f4, f5, f7)
  | some a => match dg X L (p + 1 + 1) 0 (min 9 (40 - 10 * a)) with
    | none => (false, p + 1 + 1, nH, nV, f1, f2, f4, f5, f7)
    | some b => (true, p + 1 + 1 + 1, nH, nV + 1, f1, f2, f4, va_up f5 nV (10 * a + b), f7)
def rpL (X : Nat → Nat) (L p nH nV : Nat) (f1 f2 f4 f5 f7 : Nat → Nat) : PT := match dg X L (p + 1) 0 (nH - 1) with
  | none => (false, p + 1, nH, nV, f1, f2, f4, f5, f7)
  | some a => match dg X L (p + 1 + 1) 0 (nV - 1) with
    | none => (false, p + 1 + 1, nH, nV, f1, f2, f4, f5, f7)
    | some b => match dg X L (p + 1 + 1 + 1) 0 9 with
      | none => (false, p + 1 + 1 + 1, nH, nV, f1, f2, f4, f5, f7)
      | some d => (true, p + 1 + 1 + 1 + 1, nH, nV, f1, f2, f4, f5, va_up f7 (a * 5 + b) d)
def rpS (X : Nat → Nat) (L p nH nV : Nat) (f1 f2 f4 f5 f7 : Nat → Nat) : PT := match dg X L (p + 1) 0 (nH - 1) with
  | none => (false, p + 1, nH, nV, f1, f2, f4, f5, f7)
  | some a => (true, p + 1 + 1, nH, nV, f1, f2, va_up f4 a 1, f5, f7)
def rpP (X : Nat → Nat) (L p nH nV : Nat) (f1 f2 f4 f5 f7 : Nat → Nat) : PT :=
  if X p = 104 ∧ nH < 6 then rpH X L p nH nV f1 f2 f4 f5 f7
  else if X p = 118 ∧ nV < 5 then rpV X L p nH nV f1 f2 f4 f5 f7
  else if X p = 108 ∧ 0 < nH ∧ 0 < nV then rpL X L p nH nV f1 f2 f4 f5 f7
  else if X p = 115 ∧ 0 < nH then rpS X L p nH nV f1 f2 f4 f5 f7
  else (false, p, nH, nV, f1, f2, f4, f5, f7)
def rdN (X : Nat → Nat) (L : Nat) : Nat → Nat → Nat → Nat → (Nat → Nat) → (Nat → Nat) → (Nat → Nat) → (Nat → Nat) → (Nat → Nat) → PT
  | 0, p, nH, nV, f1, f2, f4, f5, f7 => (true, p, nH, nV, f1, f2, f4, f5, f7)
  | n + 1, p, nH, nV, f1, f2, f4, f5, f7 => if p < L then
      (if (rpP X L p nH nV f1 f2 f4 f5 f7).1 = true then
        rdN X L n (rpP X L p nH nV f1 f2 f4 f5 f7).2.1 (rpP X L p nH nV f1 f2 f4 f5 f7).2.2.1 (rpP X L p nH nV f1 f2 f4 f5 f7).2.2.2.1 (rpP X L p nH nV f1 f2 f4 f5 f7).2.2.2.2.1 (rpP X L p nH nV f1 f2 f4 f5 f7).2.2.2.2.2.1 (rpP X L p nH nV f1 f2 f4 f5 f7).2.2.2.2.2.2.1 (rpP X L p nH nV f1 f2 f4 f5 f7).2.2.2.2.2.2.2.1 (rpP X L p nH nV f1 f2 f4 f5 f7).2.2.2.2.2.2.2.2
       else rpP X L p nH nV f1 f2 f4 f5 f7)
    else (true, p, nH, nV, f1, f2, f4, f5, f7)
termination_by n => n
def rdI (X : Nat → Nat) (L : Nat) : PT := if 0 < L ∧ X 0 = 70 then rdN X L 120 1 0 0 (fun _ => 0) (fun _ => 0) (fun _ => 0) (fun _ => 0) (fun _ => 5) else (false, 0, 0, 0, (fun _ => 0), (fun _ => 0), (fun _ => 0), (fun _ => 0), (fun _ => 5))
theorem rdN_x {X : Nat → Nat} {L n p nH nV : Nat} {f1 f2 f4 f5 f7 : Nat → Nat} (h : ¬ (0 < n ∧ p < L)) : rdN X L n p nH nV f1 f2 f4 f5 f7 = (true, p, nH, nV, f1, f2, f4, f5, f7) := by
  cases n with
  | zero => rw [rdN]
  | succ n => rw [rdN, if_neg (by omega)]
theorem rdN_f {X : Nat → Nat} {L n p nH nV : Nat} {f1 f2 f4 f5 f7 : Nat → Nat} (h0 : 0 < n) (hp : p < L) (h : ¬ (rpP X L p nH nV f1 f2 f4 f5 f7).1 = true) : rdN X L n p nH nV f1 f2 f4 f5 f7 = rpP X L p nH nV f1 f2 f4 f5 f7 := by
  cases n with
  | zero => exact absurd h0 (Nat.lt_irrefl 0)
  | succ n => rw [rdN, if_pos hp, if_neg h]
theorem rdN_t {X : Nat → Nat} {L n p nH nV : Nat} {f1 f2 f4 f5 f7 : Nat → Nat} (hp : p < L) (h : (rpP X L p nH nV f1 f2 f4 f5 f7).1 = true) : rdN X L (n + 1) p nH nV f1 f2 f4 f5 f7 = rdN X L n (rpP X L p nH nV f1 f2 f4 f5 f7).2.1 (rpP X L p nH nV f1 f2 f4 f5 f7).2.2.1 (rpP X L p nH nV f1 f2 f4 f5 f7).2.2.2.1 (rpP X L p nH nV f1 f2 f4 f5 f7).2.2.2.2.1 (rpP X L p nH nV f1 f2 f4 f5 f7).2.2.2.2.2.1 (rpP X L p nH nV f1 f2 f4 f5 f7).2.2.2.2.2.2.1 (rpP X L p nH nV f1 f2 f4 f5 f7).2.2.2.2.2.2.2.1 (rpP X L p nH nV f1 f2 f4 f5 f7).2.2.2.2.2.2.2.2 := by
  rw [rdN, if_pos hp, if_pos h]
theorem rpP_b {X : Nat → Nat} {L p nH nV : Nat} {f1 f2 f4 f5 f7 : Nat → Nat} (hH : nH ≤ 6) (hV : nV ≤ 5) : (rpP X L p nH nV f1 f2 f4 f5 f7).2.2.1 ≤ 6 ∧ (rpP X L p nH nV f1 f2 f4 f5 f7).2.2.2.1 ≤ 5 := by
  unfold rpP
  by_cases h1 : X p = 104 ∧ nH < 6
  · rw [if_pos h1]
    unfold rpH
    split
    · exact ⟨hH, hV⟩
    · split
      · exact ⟨hH, hV⟩
      · exact ⟨h1.2, hV⟩
  · rw [if_neg h1]
    by_cases h2 : X p = 118 ∧ nV < 5
    · rw [if_pos h2]
      unfold rpV
      split
      · exact ⟨hH, hV⟩
      · split
        · exact ⟨hH, hV⟩
        · exact ⟨hH, h2.2⟩
    · rw [if_neg h2]
      by_cases h3 : X p = 108 ∧ 0 < nH ∧ 0 < nV
      · rw [if_pos h3]
        unfold rpL
        split
        · exact ⟨hH, hV⟩
        · split
          · exact ⟨hH, hV⟩
          · split
            · exact ⟨hH, hV⟩
            · exact ⟨hH, hV⟩
      · rw [if_neg h3]
        by_cases h4 : X p = 115 ∧ 0 < nH
        · rw [if_pos h4]
          unfold rpS
          split
          · exact ⟨hH, hV⟩
          · exact ⟨hH, hV⟩
        · rw [if_neg h4]
          exact ⟨hH, hV⟩
theorem rpH_1 {X : Nat → Nat} {L p nH nV : Nat} {f1 f2 f4 f5 f7 : Nat → Nat} (k1 : dg X L (p + 1) 1 4 = none) : rpH X L p nH nV f1 f2 f4 f5 f7 = (false, p + 1, nH, nV, f1, f2, f4, f5, f7) := by unfold rpH; rw [k1]
theorem rpH_2 {X : Nat → Nat} {L p nH nV d1 : Nat} {f1 f2 f4 f5 f7 : Nat → Nat} (k1 : dg X L (p + 1) 1 4 = some d1) (k2 : dg X L (p + 1 + 1) 0 9 = none) : rpH X L p nH nV f1 f2 f4 f5 f7 = (false, p + 1 + 1, nH, nV, f1, f2, f4, f5, f7) := by unfold rpH; rw [k1]; dsimp only; rw [k2]
theorem rpH_3 {X : Nat → Nat} {L p nH nV d1 d2 : Nat} {f1 f2 f4 f5 f7 : Nat → Nat} (k1 : dg X L (p + 1) 1 4 = some d1) (k2 : dg X L (p + 1 + 1) 0 9 = some d2) : rpH X L p nH nV f1 f2 f4 f5 f7 = (true, p + 1 + 1 + 1, nH + 1, nV, va_up f1 nH d1, va_up f2 nH d2, f4, f5, f7) := by unfold rpH; rw [k1]; dsimp only; rw [k2]
theorem rpV_1 {X : Nat → Nat} {L p nH nV : Nat} {f1 f2 f4 f5 f7 : Nat → Nat} (k1 : dg X L (p + 1) 0 4 = none) : rpV X L p nH nV f1 f2 f4 f5 f7 = (false, p + 1, nH, nV, f1, f2, f4, f5, f7) := by unfold rpV; rw [k1]
theorem rpV_2 {X : Nat → Nat} {L p nH nV d1 : Nat} {f1 f2 f4 f5 f7 : Nat → Nat} (k1 : dg X L (p + 1) 0 4 = some d1) (k2 : dg X L (p + 1 + 1) 0 (min 9 (40 - 10 * d1)) = none) : rpV X L p nH nV f1 f2 f4 f5 f7 = (false, p + 1 + 1, nH, nV, f1, f2, f4, f5, f7) := by unfold rpV; rw [k1]; dsimp only; rw [k2]
theorem rpV_3 {X : Nat → Nat} {L p nH nV d1 d2 : Nat} {f1 f2 f4 f5 f7 : Nat → Nat} (k1 : dg X L (p + 1) 0 4 = some d1) (k2 : dg X L (p + 1 + 1) 0 (min 9 (40 - 10 * d1)) = some d2) : rpV X L p nH nV f1 f2 f4 f5 f7 = (true, p + 1 + 1 + 1, nH, nV + 1, f1, f2, f4, va_up f5 nV (10 * d1 + d2), f7) := by unfold rpV; rw [k1]; dsimp only; rw [k2]
theorem rpL_1 {X : Nat → Nat} {L p nH nV : Nat} {f1 f2 f4 f5 f7 : Nat → Nat} (k1 : dg X L (p + 1) 0 (nH - 1) = none) : rpL X L p nH nV f1 f2 f4 f5 f7 = (false, p + 1, nH, nV, f1, f2, f4, f5, f7) := by unfold rpL; rw [k1]
theorem rpL_2 {X : Nat → Nat} {L p nH nV d1 : Nat} {f1 f2 f4 f5 f7 : Nat → Nat} (k1 : dg X L (p + 1) 0 (nH - 1) = some d1) (k2 : dg X L (p + 1 + 1) 0 (nV - 1) = none) : rpL X L p nH nV f1 f2 f4 f5 f7 = (false, p + 1 + 1, nH, nV, f1, f2, f4, f5, f7) := by unfold rpL; rw [k1]; dsimp only; rw [k2]
theorem rpL_3 {X : Nat → Nat} {L p nH nV d1 d2 : Nat} {f1 f2 f4 f5 f7 : Nat → Nat} (k1 : dg X L (p + 1) 0 (nH - 1) = some d1) (k2 : dg X L (p + 1 + 1) 0 (nV - 1) = some d2) (k3 : dg X L (p + 1 + 1 + 1) 0 9 = none) : rpL X L p nH nV f1 f2 f4 f5 f7 = (false, p + 1 + 1 + 1, nH, nV, f1, f2, f4, f5, f7) := by unfold rpL; rw [k1]; dsimp only; rw [k2]; dsimp only; rw [k3]
theorem rpL_4 {X : Nat → Nat} {L p nH nV d1 d2 d3 : Nat} {f1 f2 f4 f5 f7 : Nat → Nat} (k1 : dg X L (p + 1) 0 (nH - 1) = some d1) (k2 : dg X L (p + 1 + 1) 0 (nV - 1) = some d2) (k3 : dg X L (p + 1 + 1 + 1) 0 9 = some d3) : rpL X L p nH nV f1 f2 f4 f5 f7 = (true, p + 1 + 1 + 1 + 1, nH, nV, f1, f2, f4, f5, va_up f7 (d1 * 5 + d2) d3) := by unfold rpL; rw [k1]; dsimp only; rw [k2]; dsimp only; rw [k3]
theorem rpS_1 {X : Nat → Nat} {L p nH nV : Nat} {f1 f2 f4 f5 f7 : Nat → Nat} (k1 : dg X L (p + 1) 0 (nH - 1) = none) : rpS X L p nH nV f1 f2 f4 f5 f7 = (false, p + 1, nH, nV, f1, f2, f4, f5, f7) := by unfold rpS; rw [k1]
theorem rpS_2 {X : Nat → Nat} {L p nH nV d1 : Nat} {f1 f2 f4 f5 f7 : Nat → Nat} (k1 : dg X L (p + 1) 0 (nH - 1) = some d1) : rpS X L p nH nV f1 f2 f4 f5 f7 = (true, p + 1 + 1, nH, nV, f1, f2, va_up f4 d1 1, f5, f7) := by unfold rpS; rw [k1]
theorem lk4 {n : Nat} (hn : n < 2 ^ 31) (h1 : ¬ n = 104) (h2 : ¬ n = 108) (h3 : ¬ n = 115) (h4 : ¬ n = 118) : Op.lookupswitch.offset [(104, 44), (108, 89), (115, 117), (118, 67)] 138 (nI n).toInt = 138 := by
  rw [nI_toInt hn, Op.lookupswitch.offset_cons, if_neg (by omega), Op.lookupswitch.offset_cons, if_neg (by omega), Op.lookupswitch.offset_cons, if_neg (by omega), Op.lookupswitch.offset_cons, if_neg (by omega), Op.lookupswitch.offset_nil]
set_option maxRecDepth 20000 in
theorem u_164 : Cond.fieldLink RX2 15 "HarvestBoxes$FarmText" "length" "I" ∈ wsL_law := List.mem_of_getElem? (i := 164) (by decide +kernel)
set_option maxHeartbeats 4000000 in
set_option maxRecDepth 100000 in
theorem c_X2_isFull (l : Launch) (D : va_G) (cI cZ cF cL : ClassId) (t : Nat → Nat) (X : Nat → Nat) (L pl : Nat) (hL : L ≤ 120) : CT l D (tysX cI cZ cF cL) yX2_isFull (wA yX2_isFull cX2_isFull 1 (some .boolean)) (rmF 0 0) [.ref (t 0)] (tX cI t X L pl) (some (.int (if (120 ≤ L) then 1 else 0))) (fun _ : Unit => (tX cI t X L pl)) := by
  refine ct_in (cc := cX2_isFull) (maxL := 1) (ret := (some .boolean)) (own := RX2) (lv := [(0, .ref (t 0))]) (by decide +kernel) rfl rfl (Nat.le_of_ble_eq_true rfl) rfl ?_
  intro p e s m args below meth c A ls hx hb hr hml hts hown hlocks hK hA hP hD hS hl
  refine lv_aload_n hx hb dX2_isFull_0 rfl (lv_at hl 0 rfl) ?_
  refine gf_n (C := RX2) (T := TX2) (N := 3) (ci := 2) (q0 := 0) (v := .int (nI L)) hx hb hts (iU inlX2) hown hK hP rfl rfl 1 (by decide) (kU u_164) rfl rfl dX2_isFull_1 ?_
  refine lv_bipush (v := (nI 120)) hx hb dX2_isFull_4 (by decide) ?_
  refine lv_icmp_lt (tgt := 13) hx hb dX2_isFull_6 (by decide) (fun c_6 => ?_) (fun c_6 => ?_)
  · skip
    replace c_6 := cn_lt (by omega) (by omega) c_6
    refine lv_iconst (v := (nI 0)) hx hb dX2_isFull_13 (by decide) ?_
    exact ct_z () hx hb hr hlocks hP hS (by first | exact z_t c_6 | exact z_f (Nat.not_le.mpr c_6)) dX2_isFull_14
  · skip
    replace c_6 := cn_nlt (by omega) (by omega) c_6
    refine lv_iconst (v := (nI 1)) hx hb dX2_isFull_9 (by decide) ?_
    refine lv_goto (tgt := 14) hx hb dX2_isFull_10 (by decide) ?_
    exact ct_z () hx hb hr hlocks hP hS (by first | exact z_t c_6 | exact z_f (Nat.not_le.mpr c_6)) dX2_isFull_14
set_option maxRecDepth 20000 in
theorem u_55 : Cond.fieldLink RX2 9 "HarvestBoxes$FarmText" "signs" "[I" ∈ wsL_law := List.mem_of_getElem? (i := 55) (by decide +kernel)
set_option maxHeartbeats 4000000 in
set_option maxRecDepth 100000 in
theorem c_X2_put (l : Launch) (D : va_G) (cI cZ cF cL : ClassId) (t : Nat → Nat) (X : Nat → Nat) (L pl : Nat) (x : Nat) (hL : L < 120) : CT l D (tysX cI cZ cF cL) yX2_put (wA yX2_put cX2_put 2 (some .int)) (rmF 0 0) [.ref (t 0), .int (nI x)] (tX cI t X L pl) (some (.int (nI (L + 1)))) (fun _ : Unit => (tX cI t (va_up X L x) (L + 1) pl)) := by
  refine ct_in (cc := cX2_put) (maxL := 2) (ret := (some .int)) (own := RX2) (lv := [(0, .ref (t 0)), (1, .int (nI x))]) (by decide +kernel) rfl rfl (Nat.le_of_ble_eq_true rfl) rfl ?_
  intro p e s m args below meth c A ls hx hb hr hml hts hown hlocks hK hA hP hD hS hl
  refine lv_aload_n hx hb dX2_put_0 rfl (lv_at hl 0 rfl) ?_
  refine gf_n (C := RX2) (T := TX2) (N := 3) (ci := 2) (q0 := 0) (v := .int (nI L)) hx hb hts (iU inlX2) hown hK hP rfl rfl 1 (by decide) (kU u_164) rfl rfl dX2_put_1 ?_
  refine lv_bipush (v := (nI 120)) hx hb dX2_put_4 (by decide) ?_
  refine lv_icmp_ge (tgt := 29) hx hb dX2_put_6 (by decide) (fun c_6 => ?_) (fun c_6 => ?_)
  · skip
    replace c_6 := cn_le (by omega) (by omega) c_6
    (exfalso; omega)
  · skip
    replace c_6 := cn_nle (by omega) (by omega) c_6
    refine lv_aload_n hx hb dX2_put_9 rfl (lv_at hl 0 rfl) ?_
    refine gf_n (C := RX2) (T := TX2) (N := 3) (ci := 2) (q0 := 0) (v := .ref (t 1)) hx hb hts (iU inlX2) hown hK hP rfl rfl 0 (by decide) (kU u_55) rfl rfl dX2_put_10 ?_
    refine lv_aload_n hx hb dX2_put_13 rfl (lv_at hl 0 rfl) ?_
    refine gf_n (C := RX2) (T := TX2) (N := 3) (ci := 2) (q0 := 0) (v := .int (nI L)) hx hb hts (iU inlX2) hown hK hP rfl rfl 1 (by decide) (kU u_164) rfl rfl dX2_put_14 ?_
    refine lv_iload_n hx hb dX2_put_17 rfl (lv_at hl 1 rfl) ?_
    refine is_n (q0 := 1) (t0 := 0) (ws2 := (tX cI t (va_up X L x) L pl)) hx hb hK hP hD hS rfl rfl (by omega) (by decide) dX2_put_18 rfl (fun Hp locs hP hD hS => ?_)
    refine lv_aload_n hx hb dX2_put_19 rfl (lv_at hl 0 rfl) ?_
    refine lv_dup hx hb dX2_put_20 rfl ?_
    refine gf_n (C := RX2) (T := TX2) (N := 3) (ci := 2) (q0 := 0) (v := .int (nI L)) hx hb hts (iU inlX2) hown hK hP rfl rfl 1 (by decide) (kU u_164) rfl rfl dX2_put_21 ?_
    refine lv_iconst (v := (nI 1)) hx hb dX2_put_24 (by decide) ?_
    refine lv_iadd hx hb dX2_put_25 ?_
    rw [nI_add L 1]
    refine pf_n (C := RX2) (T := TX2) (N := 3) (ci := 2) (q0 := 0) (ty := .int) (v := .int (nI (L + 1))) (ws2 := (tX cI t (va_up X L x) (L + 1) pl)) hx hb hts (iU inlX2) tyX2 tyX2_ok nmX2 hown hK hP hD hS rfl rfl 1 (by decide) (kU u_164) rfl rfl (tyX2_ok 1 (by decide)) rfl rfl (Nat.le_of_ble_eq_true rfl) dX2_put_26 rfl (fun Hp locs hP hD hS => ?_)
    refine lv_aload_n hx hb dX2_put_29 rfl (lv_at hl 0 rfl) ?_
    refine gf_n (C := RX2) (T := TX2) (N := 3) (ci := 2) (q0 := 0) (v := .int (nI (L + 1))) hx hb hts (iU inlX2) hown hK hP rfl rfl 1 (by decide) (kU u_164) rfl rfl dX2_put_30 ?_
    exact ct_i () hx hb hr hlocks hP hS rfl dX2_put_33
set_option maxHeartbeats 4000000 in
set_option maxRecDepth 100000 in
theorem c_X2_empty (l : Launch) (D : va_G) (cI cZ cF cL : ClassId) (t : Nat → Nat) (X : Nat → Nat) (L pl : Nat)  : CT l D (tysX cI cZ cF cL) yX2_empty (wA yX2_empty cX2_empty 2 (some .int)) (rmF 0 0) [.ref (t 0)] (tX cI t X L pl) (some (.int (nI L))) (fun _ : Unit => (tX cI t X 0 pl)) := by
  refine ct_in (cc := cX2_empty) (maxL := 2) (ret := (some .int)) (own := RX2) (lv := [(0, .ref (t 0))]) (by decide +kernel) rfl rfl (Nat.le_of_ble_eq_true rfl) rfl ?_
  intro p e s m args below meth c A ls hx hb hr hml hts hown hlocks hK hA hP hD hS hl
  refine lv_aload_n hx hb dX2_empty_0 rfl (lv_at hl 0 rfl) ?_
  refine gf_n (C := RX2) (T := TX2) (N := 3) (ci := 2) (q0 := 0) (v := .int (nI L)) hx hb hts (iU inlX2) hown hK hP rfl rfl 1 (by decide) (kU u_164) rfl rfl dX2_empty_1 ?_
  refine lv_istore_n (lv' := [(1, .int (nI L)), (0, .ref (t 0))]) hx hb dX2_empty_4 rfl hl (by decide) rfl (fun ls hl => ?_)
  refine lv_aload_n hx hb dX2_empty_5 rfl (lv_at hl 1 rfl) ?_
  refine lv_iconst (v := (nI 0)) hx hb dX2_empty_6 (by decide) ?_
  refine pf_n (C := RX2) (T := TX2) (N := 3) (ci := 2) (q0 := 0) (ty := .int) (v := .int (nI 0)) (ws2 := (tX cI t X 0 pl)) hx hb hts (iU inlX2) tyX2 tyX2_ok nmX2 hown hK hP hD hS rfl rfl 1 (by decide) (kU u_164) rfl rfl (tyX2_ok 1 (by decide)) rfl rfl (Nat.le_of_ble_eq_true rfl) dX2_empty_7 rfl (fun Hp locs hP hD hS => ?_)
  refine lv_iload_n hx hb dX2_empty_10 rfl (lv_at hl 0 rfl) ?_
  exact ct_i () hx hb hr hlocks hP hS rfl dX2_empty_11
set_option maxRecDepth 20000 in
theorem u_203 : Cond.fieldLink RX2 24 "HarvestBoxes$FarmText" "place" "I" ∈ wsL_law := List.mem_of_getElem? (i := 203) (by decide +kernel)
set_option maxHeartbeats 4000000 in
set_option maxRecDepth 100000 in
theorem c_X2_nextSign (l : Launch) (D : va_G) (cI cZ cF cL : ClassId) (t : Nat → Nat) (X : Nat → Nat) (L pl : Nat) (hL : L ≤ 120) (hp : pl < 2 ^ 20) : CT l D (tysX cI cZ cF cL) yX2_nextSign (wA yX2_nextSign cX2_nextSign 1 (some .int)) (rmF 0 0) [.ref (t 0)] (tX cI t X L pl) (some (.int (if pl < L then nI (X pl) else (-9)))) (fun _ : Unit => (tX cI t X L pl)) := by
  refine ct_in (cc := cX2_nextSign) (maxL := 1) (ret := (some .int)) (own := RX2) (lv := [(0, .ref (t 0))]) (by decide +kernel) rfl rfl (Nat.le_of_ble_eq_true rfl) rfl ?_
  intro p e s m args below meth c A ls hx hb hr hml hts hown hlocks hK hA hP hD hS hl
  refine lv_aload_n hx hb dX2_nextSign_0 rfl (lv_at hl 0 rfl) ?_
  refine gf_n (C := RX2) (T := TX2) (N := 3) (ci := 2) (q0 := 0) (v := .int (nI pl)) hx hb hts (iU inlX2) hown hK hP rfl rfl 2 (by decide) (kU u_203) rfl rfl dX2_nextSign_1 ?_
  refine lv_aload_n hx hb dX2_nextSign_4 rfl (lv_at hl 0 rfl) ?_
  refine gf_n (C := RX2) (T := TX2) (N := 3) (ci := 2) (q0 := 0) (v := .int (nI L)) hx hb hts (iU inlX2) hown hK hP rfl rfl 1 (by decide) (kU u_164) rfl rfl dX2_nextSign_5 ?_
  refine lv_icmp_ge (tgt := 32) hx hb dX2_nextSign_8 (by decide) (fun c_8 => ?_) (fun c_8 => ?_)
  · skip
    replace c_8 := cn_le (by omega) (by omega) c_8
    refine lv_bipush (v := ((-9))) hx hb dX2_nextSign_32 (by decide) ?_
    exact ct_i () hx hb hr hlocks hP hS (by first | (exfalso; omega) | rw [if_pos c_8] | rw [if_neg (Nat.not_lt.mpr c_8)]) dX2_nextSign_34
  · skip
    replace c_8 := cn_nle (by omega) (by omega) c_8
    refine lv_aload_n hx hb dX2_nextSign_11 rfl (lv_at hl 0 rfl) ?_
    refine gf_n (C := RX2) (T := TX2) (N := 3) (ci := 2) (q0 := 0) (v := .int (nI pl)) hx hb hts (iU inlX2) hown hK hP rfl rfl 2 (by decide) (kU u_203) rfl rfl dX2_nextSign_12 ?_
    refine lv_bipush (v := (nI 120)) hx hb dX2_nextSign_15 (by decide) ?_
    refine lv_icmp_ge (tgt := 32) hx hb dX2_nextSign_17 (by decide) (fun c_17 => ?_) (fun c_17 => ?_)
    · skip
      replace c_17 := cn_le (by omega) (by omega) c_17
      refine lv_bipush (v := ((-9))) hx hb dX2_nextSign_32 (by decide) ?_
      exact ct_i () hx hb hr hlocks hP hS (by first | (exfalso; omega) | rw [if_pos c_8] | rw [if_neg (Nat.not_lt.mpr c_8)]) dX2_nextSign_34
    · skip
      replace c_17 := cn_nle (by omega) (by omega) c_17
      refine lv_aload_n hx hb dX2_nextSign_20 rfl (lv_at hl 0 rfl) ?_
      refine gf_n (C := RX2) (T := TX2) (N := 3) (ci := 2) (q0 := 0) (v := .ref (t 1)) hx hb hts (iU inlX2) hown hK hP rfl rfl 0 (by decide) (kU u_55) rfl rfl dX2_nextSign_21 ?_
      refine lv_aload_n hx hb dX2_nextSign_24 rfl (lv_at hl 0 rfl) ?_
      refine gf_n (C := RX2) (T := TX2) (N := 3) (ci := 2) (q0 := 0) (v := .int (nI pl)) hx hb hts (iU inlX2) hown hK hP rfl rfl 2 (by decide) (kU u_203) rfl rfl dX2_nextSign_25 ?_
      refine ia_n (q0 := 1) (t0 := 0) hx hb hK hP rfl rfl (by omega) (by decide) dX2_nextSign_28 ?_
      refine lv_goto (tgt := 34) hx hb dX2_nextSign_29 (by decide) ?_
      exact ct_i () hx hb hr hlocks hP hS (by first | (exfalso; omega) | rw [if_pos c_8] | rw [if_neg (Nat.not_lt.mpr c_8)]) dX2_nextSign_34
set_option maxRecDepth 20000 in
theorem u_208 : Cond.code yX2_nextSign cX2_nextSign 1 (some .int) ∈ wsL_law := List.mem_of_getElem? (i := 208) (by decide +kernel)
set_option maxRecDepth 20000 in
theorem u_205 : Cond.methodLink RX2 27 yX2_nextSign ∈ wsL_law := List.mem_of_getElem? (i := 205) (by decide +kernel)
set_option maxRecDepth 20000 in
theorem u_206 : Cond.instanceMethod yX2_nextSign ∈ wsL_law := List.mem_of_getElem? (i := 206) (by decide +kernel)
set_option maxRecDepth 20000 in
theorem u_207 : Cond.selects RX2 yX2_nextSign yX2_nextSign ∈ wsL_law := List.mem_of_getElem? (i := 207) (by decide +kernel)
set_option maxRecDepth 20000 in
theorem u_16 : Cond.initialized RX2 ∈ wsL_law := List.mem_of_getElem? (i := 16) (by decide +kernel)
theorem hdV_X2_nextSign : yX2_nextSign.cls = RX2 ∧ yX2_nextSign.cls ≠ "java/lang/invoke/MethodHandle" ∧ yX2_nextSign.cls ≠ "java/lang/invoke/VarHandle" ∧ (parseMethodDescriptor yX2_nextSign.desc).map (fun d => d.parameters.length) = some 0 := by decide +kernel
set_option maxHeartbeats 4000000 in
set_option maxRecDepth 100000 in
theorem c_X2_readDigit (l : Launch) (D : va_G) (cI cZ cF cL : ClassId) (t : Nat → Nat) (X : Nat → Nat) (L pl : Nat) (lo hi : Nat) (hL : L ≤ 120) (hX : ∀ k, k < 120 → X k < 256) (hp : pl < 2 ^ 20) (hlo : lo < 2 ^ 20) (hhi : hi < 2 ^ 20) : CT l D (tysX cI cZ cF cL) yX2_readDigit (wA yX2_readDigit cX2_readDigit 4 (some .int)) (rmF 1 20) [.ref (t 0), .int (nI lo), .int (nI hi)] (tX cI t X L pl) (some (.int (encK (dg X L pl lo hi)))) (fun _ : Unit => (tX cI t X L (plD X L pl lo hi))) := by
  refine ct_in (cc := cX2_readDigit) (maxL := 4) (ret := (some .int)) (own := RX2) (lv := [(0, .ref (t 0)), (1, .int (nI lo)), (2, .int (nI hi))]) (by decide +kernel) rfl rfl (Nat.le_of_ble_eq_true rfl) rfl ?_
  intro p e s m args below meth c A ls hx hb hr hml hts hown hlocks hK hA hP hD hS hl
  refine lv_aload_n hx hb dX2_readDigit_0 rfl (lv_at hl 0 rfl) ?_
  refine go_V (ci := 2) (q0 := 0) (cq := (RX2, TX2, 3)) (c_X2_nextSign l D cI cZ cF cL t X L pl (by omega) (by omega)) (gUV u_205 u_206 u_207 u_16 u_208) rfl hdV_X2_nextSign ⟨Nat.le_of_ble_eq_true rfl, Nat.le_of_ble_eq_true rfl⟩ ⟨rfl, rfl⟩ hx hb hml hown hts hK hA hP hD hS hl.1 ⟨Nat.le_of_ble_eq_true rfl, Nat.le_of_ble_eq_true rfl⟩ rfl rfl rfl [0, 1] rfl rfl (fun _ => rfl) (rest := []) rfl rfl (Nat.le_of_ble_eq_true rfl) dX2_readDigit_1 (ws2 := (fun _ : Unit => (tX cI t X L pl))) (fun _ => rfl) (fun _ Hp locs hP hD hS => ?_)
  by_cases hpL : pl < L
  · skip
    rw [if_pos hpL]
    have hx8 := hX pl (by omega)
    refine lv_bipush (v := (nI 48)) hx hb dX2_readDigit_4 (by decide) ?_
    refine lv_isub hx hb dX2_readDigit_6 ?_
    refine lv_istore_n (lv' := [(3, .int ((nI (X pl)) - (nI 48))), (0, .ref (t 0)), (1, .int (nI lo)), (2, .int (nI hi))]) hx hb dX2_readDigit_7 rfl hl (by decide) rfl (fun ls hl => ?_)
    refine lv_iload_n hx hb dX2_readDigit_8 rfl (lv_at hl 0 rfl) ?_
    refine lv_iload_n hx hb dX2_readDigit_9 rfl (lv_at hl 2 rfl) ?_
    refine lv_icmp_lt (tgt := 18) hx hb dX2_readDigit_10 (by decide) (fun c_10 => ?_) (fun c_10 => ?_)
    · skip
      replace c_10 : ¬ (pl < L ∧ 48 + lo ≤ X pl ∧ X pl ≤ 48 + hi) := by first | exact (fun q => hpL q.1) | exact (fun q => by have := (dgl (by omega) hlo).mp c_10; omega)
      refine lv_bipush (v := ((-9))) hx hb dX2_readDigit_18 (by decide) ?_
      exact ct_i () hx hb hr hlocks (by rw [plD_n (dg_no c_10)]; exact hP) hS (by rw [dg_no c_10]; rfl) dX2_readDigit_20
    · skip
      replace c_10 : 48 + lo ≤ X pl := Nat.not_lt.mp (fun q => c_10 ((dgl (by omega) hlo).mpr q))
      refine lv_iload_n hx hb dX2_readDigit_13 rfl (lv_at hl 0 rfl) ?_
      refine lv_iload_n hx hb dX2_readDigit_14 rfl (lv_at hl 3 rfl) ?_
      refine lv_icmp_le (tgt := 21) hx hb dX2_readDigit_15 (by decide) (fun c_15 => ?_) (fun c_15 => ?_)
      · skip
        replace c_15 : X pl ≤ 48 + hi := (dgh (by omega) hhi).mp c_15
        refine lv_aload_n hx hb dX2_readDigit_21 rfl (lv_at hl 1 rfl) ?_
        refine lv_dup hx hb dX2_readDigit_22 rfl ?_
        refine gf_n (C := RX2) (T := TX2) (N := 3) (ci := 2) (q0 := 0) (v := .int (nI pl)) hx hb hts (iU inlX2) hown hK hP rfl rfl 2 (by decide) (kU u_203) rfl rfl dX2_readDigit_23 ?_
        refine lv_iconst (v := (nI 1)) hx hb dX2_readDigit_26 (by decide) ?_
        refine lv_iadd hx hb dX2_readDigit_27 ?_
        rw [nI_add pl 1]
        refine pf_n (C := RX2) (T := TX2) (N := 3) (ci := 2) (q0 := 0) (ty := .int) (v := .int (nI (pl + 1))) (ws2 := (tX cI t X L (pl + 1))) hx hb hts (iU inlX2) tyX2 tyX2_ok nmX2 hown hK hP hD hS rfl rfl 2 (by decide) (kU u_203) rfl rfl (tyX2_ok 2 (by decide)) rfl rfl (Nat.le_of_ble_eq_true rfl) dX2_readDigit_28 rfl (fun Hp locs hP hD hS => ?_)
        refine lv_iload_n hx hb dX2_readDigit_31 rfl (lv_at hl 0 rfl) ?_
        exact ct_i () hx hb hr hlocks (by rw [plD_s (dg_yes ⟨hpL, c_10, c_15⟩)]; exact hP) hS (by rw [dg_yes ⟨hpL, c_10, c_15⟩]; exact pk_sub (by omega)) dX2_readDigit_32
      · skip
        replace c_10 : ¬ (pl < L ∧ 48 + lo ≤ X pl ∧ X pl ≤ 48 + hi) := fun q => c_15 ((dgh (by omega) hhi).mpr q.2.2)
        refine lv_bipush (v := ((-9))) hx hb dX2_readDigit_18 (by decide) ?_
        exact ct_i () hx hb hr hlocks (by rw [plD_n (dg_no c_10)]; exact hP) hS (by rw [dg_no c_10]; rfl) dX2_readDigit_20
  · skip
    rw [if_neg hpL]
    refine lv_bipush (v := (nI 48)) hx hb dX2_readDigit_4 (by decide) ?_
    refine lv_isub hx hb dX2_readDigit_6 ?_
    refine lv_istore_n (lv' := [(3, .int (((-9)) - (nI 48))), (0, .ref (t 0)), (1, .int (nI lo)), (2, .int (nI hi))]) hx hb dX2_readDigit_7 rfl hl (by decide) rfl (fun ls hl => ?_)
    refine lv_iload_n hx hb dX2_readDigit_8 rfl (lv_at hl 0 rfl) ?_
    refine lv_iload_n hx hb dX2_readDigit_9 rfl (lv_at hl 2 rfl) ?_
    refine lv_icmp_lt (tgt := 18) hx hb dX2_readDigit_10 (by decide) (fun c_10 => ?_) (fun c_10 => ?_)
    · skip
      replace c_10 : ¬ (pl < L ∧ 48 + lo ≤ X pl ∧ X pl ≤ 48 + hi) := by first | exact (fun q => hpL q.1) | exact (fun q => by have := (dgl (by omega) hlo).mp c_10; omega)
      refine lv_bipush (v := ((-9))) hx hb dX2_readDigit_18 (by decide) ?_
      exact ct_i () hx hb hr hlocks (by rw [plD_n (dg_no c_10)]; exact hP) hS (by rw [dg_no c_10]; rfl) dX2_readDigit_20
    · skip
      exact absurd (dg57 hlo) c_10
