/-! Ties: the fold of offers against the first of the greatest, where only the offered count; a house that skips has no kilos. -/
theorem amx_cnd {cnd : Nat → Bool} {val : Nat → Nat} : ∀ n b, amx cnd val n = some b → cnd b = true
  | 0, _, q => by cases q
  | k + 1, b, q => by
    by_cases hc : cnd k = true
    · cases hk : amx cnd val k with
      | none => rw [amx_0 hc hk] at q; cases q; exact hc
      | some d =>
        by_cases hw : val d < val k
        · rw [amx_1 hc hk hw] at q; cases q; exact hc
        · rw [amx_2 hc hk hw] at q; cases q; exact amx_cnd k _ hk
    · rw [amx_no hc] at q; exact amx_cnd k b q
theorem of_amy {cnd : Nat → Bool} {val : Nat → Nat} {F : Nat → Int32 × Int32} (h0 : (F 0).1 = -9) (hs : ∀ i, F (i + 1) = if cnd i = true then offK (F i) i (nI (val i)) else F i) : ∀ n, n < 2 ^ 31 → (∀ i, i < n → cnd i = true → val i < 2 ^ 31) → (F n).1 = encK (amx cnd val n) ∧ ∀ b, amx cnd val n = some b → (F n).2 = nI (val b)
  | 0, _, _ => ⟨h0, fun b h => by cases h⟩
  | n + 1, hn, hv => by
    obtain ⟨a1, a2⟩ := of_amy h0 hs n (by omega) (fun i hi => hv i (by omega))
    rw [hs n]
    by_cases hc : cnd n = true
    · rw [if_pos hc]
      cases hk : amx cnd val n with
      | none =>
        rw [hk] at a1
        have e : (F n).1 = -9 := a1
        rw [amx_0 hc hk]
        exact ⟨by unfold offK; rw [if_pos (Or.inl e)]; rfl, fun b h => by cases h; exact if_pos (Or.inl e)⟩
      | some b =>
        rw [hk] at a1
        have hb := amx_lt n b hk
        have e1 : (F n).1 = nI b := a1
        have e : ¬ (F n).1 = -9 := fun q => by
          have q2 := congrArg Int32.toInt (e1.symm.trans q)
          rw [nI_toInt (by omega), show (-9 : Int32).toInt = -9 by decide] at q2
          omega
        have e2 := a2 b hk
        have v1 := hv n (by omega) hc
        have v2 := hv b (by omega) (amx_cnd n b hk)
        by_cases hw : val b < val n
        · rw [amx_1 hc hk hw]
          have q : (F n).1 = -9 ∨ (F n).2 < nI (val n) := Or.inr (by rw [e2, Int32.lt_iff_toInt_lt, nI_toInt v2, nI_toInt v1]; omega)
          exact ⟨by unfold offK; rw [if_pos q]; rfl, fun c h => by cases h; exact if_pos q⟩
        · rw [amx_2 hc hk hw]
          have q : ¬ ((F n).1 = -9 ∨ (F n).2 < nI (val n)) := fun q => q.elim e (fun q => by rw [e2, Int32.lt_iff_toInt_lt, nI_toInt v2, nI_toInt v1] at q; omega)
          exact ⟨by unfold offK; rw [if_neg q]; exact e1, fun c h => by cases h; exact (if_neg q).trans e2⟩
    · rw [if_neg hc, amx_no hc]
      exact ⟨a1, a2⟩
theorem FI_hapAT {T : Nat → Nat → Nat} (h : FI T) : hapAT T < 2 ^ 31 := by
  have h1 : hapAT T ≤ 9000 * T 0 0 := sumN_c (T 0 0) (fun j hj => FI_hap h (by have := h.1.1; omega))
  have h2 := h.1.1
  omega
theorem fon_tieF {T : Nat → Nat → Nat} {v : Nat} {kw : Int32} (hF : FI T) (hv : v < T 0 1) : (fonF T v kw (T 0 0)).1 = encK (fonO T v (T 0 0)) :=
  fon_tie (by have := hF.1.1; omega) (fun i hi => by have := hF.2.2.2.1 (i * 5 + v) (by have := hF.1.1; have := hF.1.2; omega); omega)
theorem veV_tie {T : Nat → Nat → Nat} {v w : Nat} {kw : Int32} (hF : FI T) (hv : v < T 0 1) : veV T v kw w = if w = 0 then nI (T 5 v) else if w = 1 then nI (kilV (T 8) (T 0 0) v) else if w = 2 then nI (T 6 v) else encK (fonO T v (T 0 0)) := by
  unfold veV
  rw [fon_tieF hF hv]
theorem bmo_tieF {T : Nat → Nat → Nat} {kw : Int32} (hF : FI T) : (bmoF T kw (T 0 1)).1 = encK (bmoO T (T 0 1)) := by
  have hV := hF.1.2
  rw [(of_amy (cnd := fun v => decide (T 5 v < 40)) (val := fun i => hapAT (packT (hvT T i (T 5 i + 1)))) (F := bmoF T kw) rfl (fun i => by rw [bmoF]; simp only [decide_eq_true_eq]) (T 0 1) (by omega) (fun i hi hc => FI_hapAT (FI_pack (FI_hv hF hi (by have := of_decide_eq_true hc; omega))))).1]
  unfold bmoO
  rw [amx_congr (T 0 1) (fun i hi _ => (bmoV_eq (T := T) (v := i) (show T 0 0 < 2 ^ 31 by have := hF.1.1; omega)).symm)]
/-- a house that takes no part has no kilos -/
theorem kz_pt {f7 pt g2 : Nat → Nat} {v : Nat} : ∀ n b, kz f7 pt g2 v n = some b → 0 < pt b
  | 0, _, h => by cases h
  | n + 1, b, h => by
    rw [kz] at h
    split at h
    · next hm =>
      cases hk : kz f7 pt g2 v n with
      | none => rw [hk] at h; cases h; exact hm.1
      | some c =>
        rw [hk] at h
        have hc := kz_pt n c hk
        dsimp only at h
        split at h <;> cases h
        · exact hm.1
        · exact hc
    · exact kz_pt n b h
abbrev noK (h : Nat) (f8 : Nat → Nat) : Prop := ∀ v, v < 5 → f8 (h * 5 + v) = 0
theorem dlK_no {f8 : Nat → Nat} {L : Nat} {pt : Nat → Nat} {P v n h : Nat} (hp : pt h = 0) (h8 : noK h f8) : noK h (dlK f8 L pt P v n) := by
  intro w hw
  unfold dlK
  split
  · rw [show (h * 5 + w) / 5 = h by omega, hp, Nat.mul_zero, Nat.zero_div]
  · exact h8 w hw
theorem glN_no {f7 pt : Nat → Nat} {v nH : Nat} {f8 : Nat → Nat} {c h : Nat} (hv : v < 5) (hp : pt h = 0) (h8 : noK h f8) : ∀ n, noK h (glN f7 pt v nH f8 c n).1
  | 0 => h8
  | n + 1 => by
    have ih := glN_no hv hp h8 (f7 := f7) (nH := nH) (c := c) n
    cases hz : kz f7 pt (glN f7 pt v nH f8 c n).2.1 v nH with
    | none => rw [glN_n hz]; exact ih
    | some b =>
      have hb := kz_pt nH b hz
      rw [glN_y hz]
      intro w hw
      dsimp only
      rw [up_n]
      · exact ih w hw
      · intro e
        have : b = h := by omega
        subst this
        omega
theorem pkS_no {f5 f6 f7 pt : Nat → Nat} {P nH h : Nat} (hp : pt h = 0) : ∀ n, n ≤ 5 → noK h (pkS f5 f6 f7 pt P nH n).1
  | 0, _ => fun _ _ => rfl
  | n + 1, hn => by
    have ih := pkS_no (f5 := f5) (f6 := f6) (f7 := f7) (P := P) (nH := nH) hp n (by omega)
    show noK h (pkV f5 f7 pt P nH n (pkS f5 f6 f7 pt P nH n)).1
    unfold pkV
    exact glN_no (by omega) hp (dlK_no hp ih) _
theorem swP_no {f7 f8 : Nat → Nat} {nH nV h : Nat} (hV : nV ≤ 5) (hq : 0 < (bst f7 f8 nH nV 900).2) (h8 : noK h f8) : noK h (swP f8 (bst f7 f8 nH nV 900).1) := by
  obtain ⟨a, b, v, w, ea, eb, ev, ew, q1, q2, q3, q4, q5, q6, q7, q8⟩ := bst_what hq
  unfold swP
  rw [← ea, ← eb, ← ev, ← ew]
  have ha : a ≠ h := fun e => by subst e; have := h8 v (by omega); omega
  have hb : b ≠ h := fun e => by subst e; have := h8 w (by omega); omega
  intro z hz
  unfold swK
  rw [up_n (by omega), up_n (by omega), up_n (by omega), up_n (by omega)]
  exact h8 z hz
theorem swR_no {f7 : Nat → Nat} {nH nV h : Nat} (hV : nV ≤ 5) : ∀ (n : Nat) (f8 : Nat → Nat), noK h f8 → noK h (swR f7 nH nV n f8).2
  | 0, f8, h8 => by rw [swR]; exact h8
  | n + 1, f8, h8 => by
    rw [swR]
    by_cases q : 0 < (bst f7 f8 nH nV 900).2
    · rw [if_pos q]
      exact swR_no hV n _ (swP_no hV q h8)
    · rw [if_neg q]
      exact h8
theorem sumN_all0 {f : Nat → Nat} : ∀ n, (∀ k, k < n → f k = 0) → sumN f n = 0
  | 0, _ => rfl
  | n + 1, h => by rw [sumN_s, sumN_all0 n (fun k hk => h k (by omega)), h n (by omega)]
theorem skip_hap {T : Nat → Nat → Nat} (hV : T 0 1 ≤ 5) (h : Nat) : hap (packT (skT T h 1) 7) (packT (skT T h 1) 8) (packT (skT T h 1) 0 1) h = 0 := by
  have hp : ptT (skT T h 1) h = 0 := by
    unfold ptT partN
    have e : skT T h 1 4 h = 1 := by
      have e4 : skT T h 1 4 = va_up (T 4) h 1 := uq_s
      rw [e4, up_s]
    rw [if_neg (fun q => by have := q.1; omega)]
  have hn : noK h (packT (skT T h 1) 8) := swR_no (show T 0 1 ≤ 5 from hV) 1801 _ (pkS_no hp (T 0 1) hV)
  unfold hap
  exact sumN_all0 _ (fun v hv => by
    have hv5 : v < T 0 1 := hv
    rw [hn v (by omega), Nat.mul_zero])
theorem nI_ne {a b : Nat} (ha : a < 2 ^ 31) (hb : b < 2 ^ 31) (h : nI a = nI b) : a = b := by
  have q := congrArg Int32.toInt h
  rw [nI_toInt ha, nI_toInt hb] at q
  omega
theorem bskV_eq {T : Nat → Nat → Nat} (hV : T 0 1 ≤ 5) {h : Nat} (hh : h < 6) : ∀ n, n ≤ 6 → hapB (packT (skT T h 1) 7) (packT (skT T h 1) 8) (packT (skT T h 1) 0 1) (nI h) n = hapA (packT (skT T h 1) 7) (packT (skT T h 1) 8) (packT (skT T h 1) 0 1) n
  | 0, _ => rfl
  | n + 1, hn => by
    have e := bskV_eq hV hh n (by omega)
    unfold hapB hapA at e ⊢
    rw [sumN_s, sumN_s, e]
    by_cases q : n = h
    · subst q
      rw [if_pos rfl, skip_hap hV]
    · rw [if_neg (fun z => q (nI_ne (by omega) (by omega) z))]
theorem bsk_tieF {T : Nat → Nat → Nat} {kw : Int32} (hF : FI T) : (bskF T kw (T 0 0)).1 = encK (bskO T (T 0 0)) := by
  have hH := hF.1.1
  rw [(of_amy (cnd := fun h => decide (getsB (T 2) (T 4) h)) (val := fun i => hapAT (packT (skT T i 1))) (F := bskF T kw) rfl (fun i => by rw [bskF]; simp only [decide_eq_true_eq]) (T 0 0) (by omega) (fun i hi hc => FI_hapAT (FI_pack (FI_sk hF hi (Nat.le_refl 1))))).1]
  unfold bskO
  rw [amx_congr (T 0 0) (fun i hi _ => (show bskV T i = hapAT (packT (skT T i 1)) from bskV_eq hF.1.2 (by omega) (T 0 0) hH).symm)]
theorem fir_tie {T : Nat → Nat → Nat} {y1 y2 y3 y4 : Nat} : firT T y1 y2 y3 y4 = (if 0 < (bst (T 7) (T 8) (T 0 0) (T 0 1) 900).2 then nI (1000 * ((bst (T 7) (T 8) (T 0 0) (T 0 1) 900).1 / 150) + 100 * ((bst (T 7) (T 8) (T 0 0) (T 0 1) 900).1 / 25 % 6) + 10 * ((bst (T 7) (T 8) (T 0 0) (T 0 1) 900).1 / 5 % 5) + (bst (T 7) (T 8) (T 0 0) (T 0 1) 900).1 % 5) else (-9)) := by
  unfold firT slA slB slV slW
  by_cases h : 0 < (bst (T 7) (T 8) (T 0 0) (T 0 1) 900).2
  · rw [if_pos h, if_pos h, if_pos h, if_pos h, if_pos h, if_pos h]
  · rw [if_neg h, if_neg h]
/-! Ties: the farm that is read well is a farm. -/
def RI (q : PT) : Prop := (q.2.2.1 ≤ 6 ∧ q.2.2.2.1 ≤ 5) ∧ (∀ h, h < 6 → q.2.2.2.2.1 h ≤ 4 ∧ q.2.2.2.2.2.1 h ≤ 9 ∧ q.2.2.2.2.2.2.1 h ≤ 1 ∧ (h < q.2.2.1 → 1 ≤ q.2.2.2.2.1 h) ∧ (q.2.2.1 ≤ h → q.2.2.2.2.2.1 h = 0 ∧ q.2.2.2.2.2.2.1 h = 0)) ∧ (∀ v, v < 5 → q.2.2.2.2.2.2.2.1 v ≤ 40 ∧ (q.2.2.2.1 ≤ v → q.2.2.2.2.2.2.2.1 v = 0)) ∧ ∀ k, k < 30 → q.2.2.2.2.2.2.2.2 k ≤ 9
theorem RI_mk {ok : Bool} {p nH nV : Nat} {f1 f2 f4 f5 f7 : Nat → Nat} : RI (ok, p, nH, nV, f1, f2, f4, f5, f7) ↔ (nH ≤ 6 ∧ nV ≤ 5) ∧ (∀ h, h < 6 → f1 h ≤ 4 ∧ f2 h ≤ 9 ∧ f4 h ≤ 1 ∧ (h < nH → 1 ≤ f1 h) ∧ (nH ≤ h → f2 h = 0 ∧ f4 h = 0)) ∧ (∀ v, v < 5 → f5 v ≤ 40 ∧ (nV ≤ v → f5 v = 0)) ∧ ∀ k, k < 30 → f7 k ≤ 9 := Iff.rfl
theorem RI_P {X : Nat → Nat} {L p nH nV : Nat} {f1 f2 f4 f5 f7 : Nat → Nat} (ok : Bool) (h : RI (ok, p, nH, nV, f1, f2, f4, f5, f7)) (hok : (rpP X L p nH nV f1 f2 f4 f5 f7).1 = true) : RI (rpP X L p nH nV f1 f2 f4 f5 f7) := by
  obtain ⟨⟨hH, hV⟩, h1, h5, h7⟩ := RI_mk.mp h
  unfold rpP at hok ⊢
  by_cases c1 : X p = 104 ∧ nH < 6
  · rw [if_pos c1] at hok ⊢
    cases k1 : dg X L (p + 1) 1 4 with
    | none => rw [rpH_1 k1] at hok; cases hok
    | some d1 =>
      cases k2 : dg X L (p + 1 + 1) 0 9 with
      | none => rw [rpH_2 k1 k2] at hok; cases hok
      | some d2 =>
        rw [rpH_3 k1 k2]
        have g1 := dg_le k1
        have g2 := dg_le k2
        refine RI_mk.mpr ⟨⟨c1.2, hV⟩, fun j hj => ?_, h5, h7⟩
        obtain ⟨a1, a2, a4, a5, a6⟩ := h1 j hj
        refine ⟨up_all (P := fun z => z ≤ 4) (fun _ => g1.2.1) (fun _ => a1), up_all (P := fun z => z ≤ 9) (fun _ => g2.2.1) (fun _ => a2), a4, fun q => up_all (P := fun z => 1 ≤ z) (fun _ => g1.1) (fun r => a5 (by omega)), fun q => ⟨up_all (P := fun z => z = 0) (fun r => by omega) (fun _ => (a6 (by omega)).1), (a6 (by omega)).2⟩⟩
  · rw [if_neg c1] at hok ⊢
    by_cases c2 : X p = 118 ∧ nV < 5
    · rw [if_pos c2] at hok ⊢
      cases k1 : dg X L (p + 1) 0 4 with
      | none => rw [rpV_1 k1] at hok; cases hok
      | some d1 =>
        cases k2 : dg X L (p + 1 + 1) 0 (min 9 (40 - 10 * d1)) with
        | none => rw [rpV_2 k1 k2] at hok; cases hok
        | some d2 =>
          rw [rpV_3 k1 k2]
          have g1 := dg_le k1
          have g2 := dg_le k2
          have g3 : d2 ≤ 40 - 10 * d1 := Nat.le_trans g2.2.1 (Nat.min_le_right _ _)
          refine RI_mk.mpr ⟨⟨hH, c2.2⟩, h1, fun j hj => ?_, h7⟩
          obtain ⟨a1, a2⟩ := h5 j hj
          exact ⟨up_all (P := fun z => z ≤ 40) (fun _ => by omega) (fun _ => a1), fun q => up_all (P := fun z => z = 0) (fun r => by omega) (fun _ => a2 (by omega))⟩
    · rw [if_neg c2] at hok ⊢
      by_cases c3 : X p = 108 ∧ 0 < nH ∧ 0 < nV
      · rw [if_pos c3] at hok ⊢
        cases k1 : dg X L (p + 1) 0 (nH - 1) with
        | none => rw [rpL_1 k1] at hok; cases hok
        | some d1 =>
          cases k2 : dg X L (p + 1 + 1) 0 (nV - 1) with
          | none => rw [rpL_2 k1 k2] at hok; cases hok
          | some d2 =>
            cases k3 : dg X L (p + 1 + 1 + 1) 0 9 with
            | none => rw [rpL_3 k1 k2 k3] at hok; cases hok
            | some d3 =>
              rw [rpL_4 k1 k2 k3]
              have g3 := dg_le k3
              exact RI_mk.mpr ⟨⟨hH, hV⟩, h1, h5, fun k hk => up_all (P := fun z => z ≤ 9) (fun _ => g3.2.1) (fun _ => h7 k hk)⟩
      · rw [if_neg c3] at hok ⊢
        by_cases c4 : X p = 115 ∧ 0 < nH
        · rw [if_pos c4] at hok ⊢
          cases k1 : dg X L (p + 1) 0 (nH - 1) with
          | none => rw [rpS_1 k1] at hok; cases hok
          | some d1 =>
            rw [rpS_2 k1]
            have g1 := dg_le k1
            refine RI_mk.mpr ⟨⟨hH, hV⟩, fun j hj => ?_, h5, h7⟩
            obtain ⟨a1, a2, a4, a5, a6⟩ := h1 j hj
            exact ⟨a1, a2, up_all (P := fun z => z ≤ 1) (fun _ => Nat.le_refl 1) (fun _ => a4), a5, fun q => ⟨(a6 q).1, up_all (P := fun z => z = 0) (fun r => by omega) (fun _ => (a6 q).2)⟩⟩
        · rw [if_neg c4] at hok
          cases hok
theorem RI_N {X : Nat → Nat} {L : Nat} : ∀ (n p nH nV : Nat) (f1 f2 f4 f5 f7 : Nat → Nat), RI (true, p, nH, nV, f1, f2, f4, f5, f7) → (rdN X L n p nH nV f1 f2 f4 f5 f7).1 = true → RI (rdN X L n p nH nV f1 f2 f4 f5 f7)
  | 0, p, nH, nV, f1, f2, f4, f5, f7, h, _ => by rw [rdN_x (by omega)]; exact h
  | n + 1, p, nH, nV, f1, f2, f4, f5, f7, h, hok => by
    by_cases hp : p < L
    · by_cases hq : (rpP X L p nH nV f1 f2 f4 f5 f7).1 = true
      · rw [rdN_t hp hq] at hok ⊢
        exact RI_N n _ _ _ _ _ _ _ _ (RI_P true h hq) hok
      · rw [rdN_f (by omega) hp hq] at hok
        exact absurd hok hq
    · rw [rdN_x (by omega)]
      exact h
theorem FI_rdT {X : Nat → Nat} {L : Nat} (hok : (rdI X L).1 = true) : FI (rdT X L) := by
  have h : RI (rdI X L) := by
    unfold rdI at hok ⊢
    by_cases c : 0 < L ∧ X 0 = 70
    · rw [if_pos c] at hok ⊢
      exact RI_N 120 1 0 0 _ _ _ _ _ (RI_mk.mpr ⟨⟨by omega, by omega⟩, fun _ _ => ⟨by omega, by omega, by omega, fun q => by omega, fun _ => ⟨rfl, rfl⟩⟩, fun _ _ => ⟨by omega, fun _ => rfl⟩, fun _ _ => by omega⟩) hok
    · rw [if_neg c] at hok
      cases hok
  obtain ⟨h0, h1, h5, h7⟩ := h
  refine ⟨h0, fun j hj => ?_, h5, h7, ?_, fun _ _ => rfl⟩
  · obtain ⟨a1, a2, a4, a5, a6⟩ := h1 j hj
    exact ⟨a1, a2, Nat.zero_le _, a4, a5, fun q => ⟨(a6 q).1, rfl, (a6 q).2⟩⟩
  · show sumN (fun _ => 0) 30 ≤ 200
    rw [sumN_zero]
    omega
/-! Ties: the history, a ring there, a row here. -/
def qT (T : Nat → Nat → Nat) : Nat → Nat := qN (T 0 0) (T 0 1) (T 0 2) (T 0 3) (T 0 4) (T 0 5) (T 1) (T 2) (T 3) (T 4) (T 5) (T 6) (T 7) (T 8)
def HR (cnt nx : Nat) (Ts : Nat → Nat → Nat → Nat) (Q : Nat → Nat → Nat) : Prop := cnt ≤ 14 ∧ nx < 14 ∧ ∀ j, j < cnt → FI (Ts ((nx + 14 - cnt + j) % 14)) ∧ Q j = qT (Ts ((nx + 14 - cnt + j) % 14))
theorem HR_0 {nx : Nat} {Ts : Nat → Nat → Nat → Nat} {Q : Nat → Nat → Nat} (hn : nx < 14) : HR 0 nx Ts Q := ⟨Nat.zero_le _, hn, fun j hj => absurd hj (Nat.not_lt_zero j)⟩
theorem HR_rem {cnt nx : Nat} {Ts : Nat → Nat → Nat → Nat} {Q : Nat → Nat → Nat} {T : Nat → Nat → Nat} (h : HR cnt nx Ts Q) (hT : FI T) : HR (if cnt < 14 then cnt + 1 else cnt) ((nx + 1) % 14) (va_up Ts nx T) (va_up (if cnt = 14 then shQ Q else Q) (if cnt = 14 then 13 else cnt) (qT T)) := by
  obtain ⟨hc, hn, hj⟩ := h
  by_cases e : cnt = 14
  · subst e
    rw [if_neg (by omega), if_pos rfl, if_pos rfl]
    refine ⟨Nat.le_refl _, Nat.mod_lt _ (by omega), fun j hj14 => ?_⟩
    by_cases ej : j = 13
    · subst ej
      rw [show ((nx + 1) % 14 + 14 - 14 + 13) % 14 = nx by omega, uq_s, uq_s]
      exact ⟨hT, rfl⟩
    · have h1 := hj (j + 1) (by omega)
      have e1 : ((nx + 1) % 14 + 14 - 14 + j) % 14 = (nx + 14 - 14 + (j + 1)) % 14 := by omega
      rw [e1, uq_n (show (nx + 14 - 14 + (j + 1)) % 14 ≠ nx by omega), uq_n ej]
      refine ⟨h1.1, ?_⟩
      rw [← h1.2]
      unfold shQ
      exact uq_n ej
  · rw [if_pos (by omega), if_neg e, if_neg e]
    refine ⟨by omega, Nat.mod_lt _ (by omega), fun j hj14 => ?_⟩
    by_cases ej : j = cnt
    · subst ej
      rw [show ((nx + 1) % 14 + 14 - (j + 1) + j) % 14 = nx by omega, uq_s, uq_s]
      exact ⟨hT, rfl⟩
    · have h1 := hj j (by omega)
      have e1 : ((nx + 1) % 14 + 14 - (cnt + 1) + j) % 14 = (nx + 14 - cnt + j) % 14 := by omega
      rw [e1, uq_n (show (nx + 14 - cnt + j) % 14 ≠ nx by omega), uq_n ej]
      exact h1
theorem HR_st {cnt : Nat} (hc : cnt ≤ 14) : (if cnt = 14 then 13 else cnt) + 1 = if cnt < 14 then cnt + 1 else cnt := by
  by_cases e : cnt = 14
  · rw [if_pos e, if_neg (by omega)]; omega
  · rw [if_neg e, if_pos (by omega)]
theorem HR_undo {cnt nx : Nat} {Ts : Nat → Nat → Nat → Nat} {Q : Nat → Nat → Nat} (h : HR cnt nx Ts Q) (h0 : 0 < cnt) : HR (cnt - 1) ((nx + 14 - 1) % 14) Ts Q ∧ FI (Ts ((nx + 14 - 1) % 14)) ∧ Q (cnt - 1) = qT (Ts ((nx + 14 - 1) % 14)) := by
  obtain ⟨hc, hn, hj⟩ := h
  refine ⟨⟨by omega, Nat.mod_lt _ (by omega), fun j hj14 => ?_⟩, ?_⟩
  · have h1 := hj j (by omega)
    have e1 : ((nx + 14 - 1) % 14 + 14 - (cnt - 1) + j) % 14 = (nx + 14 - cnt + j) % 14 := by omega
    rw [e1]
    exact h1
  · have h1 := hj (cnt - 1) (by omega)
    rw [show (nx + 14 - cnt + (cnt - 1)) % 14 = (nx + 14 - 1) % 14 by omega] at h1
    exact h1
/-- the two saved farms -/
def SV (zf : Nat → Nat) (Zs : Nat → Nat → Nat → Nat) (S : Nat → Nat → Nat) : Prop := ∀ k, k < 2 → zf k ≤ 1 ∧ (zf k = 1 → FI (Zs k) ∧ S k = qT (Zs k))
theorem SV_0 {Zs : Nat → Nat → Nat → Nat} {S : Nat → Nat → Nat} : SV (fun _ => 0) Zs S := fun _ _ => ⟨Nat.zero_le _, fun h => absurd (show (0 : Nat) = 1 from h) (by decide)⟩
theorem SV_s {zf : Nat → Nat} {Zs : Nat → Nat → Nat → Nat} {S : Nat → Nat → Nat} {T : Nat → Nat → Nat} {sl : Nat} (h : SV zf Zs S) (hT : FI T) : SV (va_up zf sl 1) (va_up Zs sl T) (va_up S sl (qT T)) := by
  intro k hk
  by_cases e : k = sl
  · subst e
    rw [uq_s, uq_s, uq_s]
    exact ⟨Nat.le_refl 1, fun _ => ⟨hT, rfl⟩⟩
  · rw [uq_n e, uq_n e, uq_n e]
    exact h k hk
