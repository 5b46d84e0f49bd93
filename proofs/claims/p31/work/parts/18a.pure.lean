/-! What packing keeps: the kilos of each vegetable; no swap is left. -/
theorem kz_pt {f7 pt g2 : Nat → Nat} {v : Nat} : ∀ n b, kz f7 pt g2 v n = some b → 0 < pt b
  | 0, _, h => by cases h
  | n + 1, b, h => by
    rw [kz] at h
    split at h
    · next hm =>
      cases hk : kz f7 pt g2 v n with
      | none => rw [hk] at h; cases h; exact hm.1
      | some c =>
        rw [hk] at h
        have hc := kz_pt n c hk
        dsimp only at h
        split at h <;> cases h
        · exact hm.1
        · exact hc
    · exact kz_pt n b h
abbrev noK (h : Nat) (f8 : Nat → Nat) : Prop := ∀ v, v < 5 → f8 (h * 5 + v) = 0
theorem dlK_no {f8 : Nat → Nat} {L : Nat} {pt : Nat → Nat} {P v n h : Nat} (hp : pt h = 0) (h8 : noK h f8) : noK h (dlK f8 L pt P v n) := by
  intro w hw
  unfold dlK
  split
  · rw [show (h * 5 + w) / 5 = h by omega, hp, Nat.mul_zero, Nat.zero_div]
  · exact h8 w hw
theorem glN_no {f7 pt : Nat → Nat} {v nH : Nat} {f8 : Nat → Nat} {c h : Nat} (hv : v < 5) (hp : pt h = 0) (h8 : noK h f8) : ∀ n, noK h (glN f7 pt v nH f8 c n).1
  | 0 => h8
  | n + 1 => by
    have ih := glN_no hv hp h8 (f7 := f7) (nH := nH) (c := c) n
    cases hz : kz f7 pt (glN f7 pt v nH f8 c n).2.1 v nH with
    | none => rw [glN_n hz]; exact ih
    | some b =>
      have hb := kz_pt nH b hz
      rw [glN_y hz]
      intro w hw
      dsimp only
      rw [up_n]
      · exact ih w hw
      · intro e
        have : b = h := by omega
        subst this
        omega
theorem pkS_no {f5 f6 f7 pt : Nat → Nat} {P nH h : Nat} (hp : pt h = 0) : ∀ n, n ≤ 5 → noK h (pkS f5 f6 f7 pt P nH n).1
  | 0, _ => fun _ _ => rfl
  | n + 1, hn => by
    have ih := pkS_no (f5 := f5) (f6 := f6) (f7 := f7) (P := P) (nH := nH) hp n (by omega)
    show noK h (pkV f5 f7 pt P nH n (pkS f5 f6 f7 pt P nH n)).1
    unfold pkV
    exact glN_no (by omega) hp (dlK_no hp ih) _
theorem swP_no {f7 f8 : Nat → Nat} {nH nV h : Nat} (hV : nV ≤ 5) (hq : 0 < (bst f7 f8 nH nV 900).2) (h8 : noK h f8) : noK h (swP f8 (bst f7 f8 nH nV 900).1) := by
  obtain ⟨a, b, v, w, ea, eb, ev, ew, q1, q2, q3, q4, q5, q6, q7, q8⟩ := bst_what hq
  unfold swP
  rw [← ea, ← eb, ← ev, ← ew]
  have ha : a ≠ h := fun e => by subst e; have := h8 v (by omega); omega
  have hb : b ≠ h := fun e => by subst e; have := h8 w (by omega); omega
  intro z hz
  unfold swK
  rw [up_n (by omega), up_n (by omega), up_n (by omega), up_n (by omega)]
  exact h8 z hz
theorem swR_no {f7 : Nat → Nat} {nH nV h : Nat} (hV : nV ≤ 5) : ∀ (n : Nat) (f8 : Nat → Nat), noK h f8 → noK h (swR f7 nH nV n f8).2
  | 0, f8, h8 => by rw [swR]; exact h8
  | n + 1, f8, h8 => by
    rw [swR]
    by_cases q : 0 < (bst f7 f8 nH nV 900).2
    · rw [if_pos q]
      exact swR_no hV n _ (swP_no hV q h8)
    · rw [if_neg q]
      exact h8
theorem sumN_all0 {f : Nat → Nat} : ∀ n, (∀ k, k < n → f k = 0) → sumN f n = 0
  | 0, _ => rfl
  | n + 1, h => by rw [sumN_s, sumN_all0 n (fun k hk => h k (by omega)), h n (by omega)]
theorem sumN_add (f g : Nat → Nat) : ∀ n, sumN (fun k => f k + g k) n = sumN f n + sumN g n
  | 0 => rfl
  | n + 1 => by rw [sumN_s, sumN_s, sumN_s, sumN_add f g n]; omega
theorem sumN_swap (f : Nat → Nat → Nat) (m : Nat) : ∀ n, sumN (fun i => sumN (fun j => f i j) m) n = sumN (fun j => sumN (fun i => f i j) n) m
  | 0 => (sumN_zero m).symm
  | n + 1 => by
    rw [sumN_s, sumN_swap f m n]
    exact (sumN_add (fun j => sumN (fun i => f i j) n) (fun j => f n j) m).symm
theorem kilA_V (f : Nat → Nat) (nV nH : Nat) : kilA f nV nH = sumN (kilV f nH) nV := sumN_swap (fun h v => f (h * 5 + v)) nV nH
theorem kilV_up {f : Nat → Nat} {b v n x : Nat} (hb : b < n) : kilV (va_up f (b * 5 + v) x) n v + f (b * 5 + v) = kilV f n v + x := by
  have e : kilV (va_up f (b * 5 + v) x) n v = sumN (va_up (fun h => f (h * 5 + v)) b x) n := by
    refine congrArg (fun z => sumN z n) (funext fun h => ?_)
    by_cases q : h = b
    · subst q; rw [up_s, up_s]
    · rw [up_n (by omega), up_n q]
  rw [e]
  exact sumN_up_eq (fun h => f (h * 5 + v)) b x n hb
theorem kilV_ne {f : Nat → Nat} {b v u n x : Nat} (hv : v < 5) (hu : u < 5) (huv : u ≠ v) : kilV (va_up f (b * 5 + v) x) n u = kilV f n u := by
  refine congrArg (fun z => sumN z n) (funext fun h => ?_)
  rw [up_n (by omega)]
theorem kilV_dlK {f8 : Nat → Nat} {L : Nat} {pt : Nat → Nat} {P v n : Nat} (hP : 0 < P) (hv : v < 5) : kilV (dlK f8 L pt P v n) n v = shS L pt P n := by
  refine sumN_cong (fun h hh => ?_)
  unfold dlK
  rw [if_pos ⟨hP, by omega, by omega⟩, show (h * 5 + v) / 5 = h by omega]
theorem kilV_dlK_ne {f8 : Nat → Nat} {L : Nat} {pt : Nat → Nat} {P v u n m : Nat} (hv : v < 5) (hu : u < 5) (huv : u ≠ v) : kilV (dlK f8 L pt P v n) m u = kilV f8 m u := by
  refine sumN_cong (fun h hh => ?_)
  unfold dlK
  rw [if_neg (fun q => huv (by have := q.2.1; omega))]
theorem glN_col {f7 pt : Nat → Nat} {v nH : Nat} {f8 : Nat → Nat} {c : Nat} : ∀ n, kilV (glN f7 pt v nH f8 c n).1 nH v + (glN f7 pt v nH f8 c n).2.2 = kilV f8 nH v + c + n
  | 0 => rfl
  | n + 1 => by
    have ih := glN_col (f7 := f7) (pt := pt) (v := v) (nH := nH) (f8 := f8) (c := c) n
    cases hz : kz f7 pt (glN f7 pt v nH f8 c n).2.1 v nH with
    | none => rw [glN_n hz]; dsimp only; omega
    | some b =>
      have hb := kz_lt nH b hz
      rw [glN_y hz]
      dsimp only
      have := kilV_up (f := (glN f7 pt v nH f8 c n).1) (v := v) (x := (glN f7 pt v nH f8 c n).1 (b * 5 + v) + 1) hb
      omega
theorem glN_ne {f7 pt : Nat → Nat} {v nH : Nat} {f8 : Nat → Nat} {c u m : Nat} (hv : v < 5) (hu : u < 5) (huv : u ≠ v) : ∀ n, kilV (glN f7 pt v nH f8 c n).1 m u = kilV f8 m u
  | 0 => rfl
  | n + 1 => by
    have ih := glN_ne (f7 := f7) (pt := pt) (nH := nH) (f8 := f8) (c := c) (m := m) hv hu huv n
    cases hz : kz f7 pt (glN f7 pt v nH f8 c n).2.1 v nH with
    | none => rw [glN_n hz]; exact ih
    | some b =>
      rw [glN_y hz]
      dsimp only
      rw [kilV_ne hv hu huv]
      exact ih
theorem glN_c {f7 pt : Nat → Nat} {v nH : Nat} {f8 : Nat → Nat} {c : Nat} : ∀ n, c ≤ (glN f7 pt v nH f8 c n).2.2
  | 0 => Nat.le_refl _
  | n + 1 => by
    have ih := glN_c (f7 := f7) (pt := pt) (v := v) (nH := nH) (f8 := f8) (c := c) n
    cases hz : kz f7 pt (glN f7 pt v nH f8 c n).2.1 v nH with
    | none => rw [glN_n hz]; dsimp only; omega
    | some b => rw [glN_y hz]; exact ih
theorem pkS_col {f5 f6 f7 pt : Nat → Nat} {P nH : Nat} (hP : sumN pt nH ≤ P) : ∀ n, n ≤ 5 → (∀ v, v < n → kilV (pkS f5 f6 f7 pt P nH n).1 nH v + (pkS f5 f6 f7 pt P nH n).2 v = f5 v + f6 v ∧ f6 v ≤ (pkS f5 f6 f7 pt P nH n).2 v) ∧ (∀ v, n ≤ v → v < 5 → kilV (pkS f5 f6 f7 pt P nH n).1 nH v = 0 ∧ (pkS f5 f6 f7 pt P nH n).2 v = f6 v)
  | 0, _ => ⟨fun v h => absurd h (Nat.not_lt_zero v), fun v _ _ => ⟨sumN_zero nH, rfl⟩⟩
  | n + 1, hn => by
    obtain ⟨i1, i2⟩ := pkS_col (f5 := f5) (f6 := f6) (f7 := f7) hP n (by omega)
    have e : pkS f5 f6 f7 pt P nH (n + 1) = pkV f5 f7 pt P nH n (pkS f5 f6 f7 pt P nH n) := rfl
    rw [e]
    unfold pkV
    refine ⟨fun v hv => ?_, fun v h1 h2 => ?_⟩
    · by_cases q : v = n
      · subst q
        dsimp only
        rw [up_s]
        have h0 := (i2 v (Nat.le_refl v) (by omega))
        have hs : shS (f5 v) pt P nH ≤ f5 v := shS_le hP
        have h3 := glN_col (f7 := f7) (pt := pt) (v := v) (nH := nH) (f8 := dlK (pkS f5 f6 f7 pt P nH v).1 (f5 v) pt P v nH) (c := (pkS f5 f6 f7 pt P nH v).2 v) (f5 v - shS (f5 v) pt P nH)
        have h4 := glN_c (f7 := f7) (pt := pt) (v := v) (nH := nH) (f8 := dlK (pkS f5 f6 f7 pt P nH v).1 (f5 v) pt P v nH) (c := (pkS f5 f6 f7 pt P nH v).2 v) (f5 v - shS (f5 v) pt P nH)
        have h5 : kilV (dlK (pkS f5 f6 f7 pt P nH v).1 (f5 v) pt P v nH) nH v = shS (f5 v) pt P nH := by
          by_cases z : 0 < P
          · exact kilV_dlK z (by omega)
          · have z0 : P = 0 := by omega
            subst z0
            rw [dlK_z, shS_z]
            exact h0.1
        have h6 := h0.2
        refine ⟨?_, ?_⟩
        · omega
        · omega
      · dsimp only
        rw [up_n q, glN_ne (by omega) (by omega) q, kilV_dlK_ne (by omega) (by omega) q]
        exact i1 v (by omega)
    · dsimp only
      have q : v ≠ n := by omega
      rw [up_n q, glN_ne (by omega) (by omega) q, kilV_dlK_ne (by omega) (by omega) q]
      exact i2 v (by omega) h2
theorem swK_col {f8 : Nat → Nat} {a b v w n : Nat} (ha : a < b) (hb : b < n) (hv : v < 5) (hw : w < 5) (hvw : v ≠ w) (h1 : 0 < f8 (a * 5 + v)) (h2 : 0 < f8 (b * 5 + w)) (u : Nat) (hu : u < 5) : kilV (swK f8 a b v w) n u = kilV f8 n u := by
  unfold swK
  generalize e1 : va_up f8 (a * 5 + v) (f8 (a * 5 + v) - 1) = g1
  generalize e2 : va_up g1 (b * 5 + v) (g1 (b * 5 + v) + 1) = g2
  generalize e3 : va_up g2 (b * 5 + w) (g2 (b * 5 + w) - 1) = g3
  have hg2 : g2 (b * 5 + w) = f8 (b * 5 + w) := by rw [← e2, up_n (by omega), ← e1, up_n (by omega)]
  by_cases q : u = v
  · subst q
    rw [kilV_ne hw hu hvw, ← e3, kilV_ne hw hu hvw]
    have k1 := kilV_up (f := f8) (v := u) (x := f8 (a * 5 + u) - 1) (show a < n by omega)
    have k2 := kilV_up (f := g1) (v := u) (x := g1 (b * 5 + u) + 1) hb
    rw [e1] at k1
    rw [e2] at k2
    omega
  · by_cases r : u = w
    · subst r
      have k3 := kilV_up (f := g2) (v := u) (x := g2 (b * 5 + u) - 1) hb
      have k4 := kilV_up (f := g3) (v := u) (x := g3 (a * 5 + u) + 1) (show a < n by omega)
      have k2 : kilV g2 n u = kilV f8 n u := by rw [← e2, kilV_ne hv hu q, ← e1, kilV_ne hv hu q]
      rw [e3] at k3
      omega
    · rw [kilV_ne hw hu r, ← e3, kilV_ne hw hu r, ← e2, kilV_ne hv hu q, ← e1, kilV_ne hv hu q]
theorem swP_col {f7 f8 : Nat → Nat} {nH nV : Nat} (hV : nV ≤ 5) (hq : 0 < (bst f7 f8 nH nV 900).2) (u : Nat) (hu : u < 5) : kilV (swP f8 (bst f7 f8 nH nV 900).1) nH u = kilV f8 nH u := by
  obtain ⟨a, b, v, w, ea, eb, ev, ew, q1, q2, q3, q4, q5, q6, q7, q8⟩ := bst_what hq
  unfold swP
  rw [← ea, ← eb, ← ev, ← ew]
  have hvw : v ≠ w := fun e => by subst e; omega
  exact swK_col q1 q2 (by omega) (by omega) hvw q5 q6 u hu
theorem swR_col {f7 : Nat → Nat} {nH nV : Nat} (hV : nV ≤ 5) (u : Nat) (hu : u < 5) : ∀ (n : Nat) (f8 : Nat → Nat), kilV (swR f7 nH nV n f8).2 nH u = kilV f8 nH u
  | 0, f8 => by rw [swR]
  | n + 1, f8 => by
    rw [swR]
    by_cases q : 0 < (bst f7 f8 nH nV 900).2
    · rw [if_pos q]
      exact (swR_col hV u hu n _).trans (swP_col hV q u hu)
    · rw [if_neg q]
theorem swD_end {f7 : Nat → Nat} {nH nV : Nat} : ∀ (n : Nat) (f8 : Nat → Nat), swD f7 nH nV n f8 → (bst f7 (swR f7 nH nV n f8).2 nH nV 900).2 = 0
  | 0, f8, h => by rw [swR]; exact swD_0.mp h
  | n + 1, f8, h => by
    rw [swR]
    by_cases q : 0 < (bst f7 f8 nH nV 900).2
    · rw [if_pos q]
      exact swD_end n _ (swD_s.mp h q)
    · rw [if_neg q]
      exact Nat.eq_zero_of_not_pos q
theorem pack_col {T : Nat → Nat → Nat} (h : FI T) {v : Nat} (hv : v < T 0 1) : kilV (packT T 8) (T 0 0) v + packT T 6 v = T 5 v + T 6 v ∧ T 6 v ≤ packT T 6 v := by
  have hV := h.1.2
  have h1 := (pkS_col (f5 := T 5) (f6 := T 6) (f7 := T 7) (pt := ptT T) (nH := T 0 0) (Nat.le_refl _) (T 0 1) hV).1 v hv
  have h2 : kilV (packT T 8) (T 0 0) v = kilV (pkT T).1 (T 0 0) v := swR_col hV v (by omega) 1801 _
  rw [h2]
  exact h1
theorem pack_noswap {T : Nat → Nat → Nat} (h : FI T) : (bst (packT T 7) (packT T 8) (packT T 0 0) (packT T 0 1) 900).2 = 0 :=
  swD_end 1801 _ (swD_of h.1.1 h.1.2 h.2.2.2.1 1801 _ (pkT_sum h) (by omega))
/-- the kilos of the harvests so far; what a vegetable's boxes hold -/
def SI (T : Nat → Nat → Nat) (x : Nat) : Prop := kilA (T 8) (T 0 1) (T 0 0) + T 0 3 + T 0 4 + sumN (T 6) (T 0 1) = x
def CI (T : Nat → Nat → Nat) : Prop := ∀ v, v < T 0 1 → kilV (T 8) (T 0 0) v ≤ 40
theorem SI_pack {T : Nat → Nat → Nat} {x : Nat} (hF : FI T) (h : SI T x) : SI (packT T) (x + sumN (T 5) (T 0 1)) := by
  have e : kilA (packT T 8) (T 0 1) (T 0 0) + sumN (packT T 6) (T 0 1) = sumN (T 5) (T 0 1) + sumN (T 6) (T 0 1) := by
    rw [kilA_V, ← sumN_add, ← sumN_add]
    exact sumN_cong (fun v hv => (pack_col hF hv).1)
  unfold SI at h
  show kilA (packT T 8) (T 0 1) (T 0 0) + (T 0 3 + kilA (T 8) (T 0 1) (T 0 0)) + T 0 4 + sumN (packT T 6) (T 0 1) = x + sumN (T 5) (T 0 1)
  omega
theorem CI_pack {T : Nat → Nat → Nat} (hF : FI T) : CI (packT T) := by
  intro v hv
  have hv2 : v < T 0 1 := hv
  show kilV (packT T 8) (T 0 0) v ≤ 40
  have h1 := pack_col hF hv2
  have h2 := (hF.2.2.1 v (by have := hF.1.2; omega)).1
  omega
theorem kilA_up {f : Nat → Nat} {h v nH nV x : Nat} (hh : h < nH) (hv : v < nV) (hV : nV ≤ 5) : kilA (va_up f (h * 5 + v) x) nV nH + f (h * 5 + v) = kilA f nV nH + x := by
  rw [kilA_V, kilA_V]
  have e : sumN (kilV (va_up f (h * 5 + v) x) nH) nV = sumN (va_up (kilV f nH) v (kilV (va_up f (h * 5 + v) x) nH v)) nV := sumN_cong (fun u hu => by
    by_cases q : u = v
    · subst q; rw [up_s]
    · rw [up_n q, kilV_ne (by omega) (by omega) q])
  have h1 := sumN_up_eq (kilV f nH) v (kilV (va_up f (h * 5 + v) x) nH v) nV hv
  have h2 := kilV_up (f := f) (v := v) (x := x) hh
  omega
theorem gv_8 (T : Nat → Nat → Nat) (h v n : Nat) : gvT T h v n 8 = va_up (T 8) (h * 5 + v) (T 8 (h * 5 + v) - n) := uq_s
theorem SI_gv {T : Nat → Nat → Nat} {x h v n : Nat} (hF : FI T) (hS : SI T x) (hh : h < T 0 0) (hv : v < T 0 1) (hn : n ≤ T 8 (h * 5 + v)) : SI (gvT T h v n) x := by
  have e := kilA_up (f := T 8) (x := T 8 (h * 5 + v) - n) hh hv hF.1.2
  unfold SI at hS
  show kilA (gvT T h v n 8) (T 0 1) (T 0 0) + T 0 3 + (T 0 4 + n) + sumN (T 6) (T 0 1) = x
  rw [gv_8]
  omega
theorem CI_gv {T : Nat → Nat → Nat} {h v n : Nat} (hF : FI T) (hC : CI T) (hh : h < T 0 0) (hv : v < T 0 1) : CI (gvT T h v n) := by
  intro u hu
  have hu2 : u < T 0 1 := hu
  have hV := hF.1.2
  have h0 := hC u hu2
  show kilV (gvT T h v n 8) (T 0 0) u ≤ 40
  rw [gv_8]
  by_cases q : u = v
  · subst q
    have := kilV_up (f := T 8) (v := u) (x := T 8 (h * 5 + u) - n) hh
    omega
  · rw [kilV_ne (by omega) (by omega) q]
    exact h0
theorem kilV_cell {f : Nat → Nat} {h v n : Nat} (hh : h < n) : f (h * 5 + v) ≤ kilV f n v := sumN_le1 (fun h => f (h * 5 + v)) n hh
/-- who gets no box has no kilos -/
theorem pack_none {T : Nat → Nat → Nat} (hV : T 0 1 ≤ 5) {h : Nat} (hg : ¬ getsB (T 2) (T 4) h) : kilH (packT T 8) (T 0 1) h = 0 := by
  have hp : ptT T h = 0 := if_neg hg
  have hn : noK h (packT T 8) := swR_no hV 1801 _ (pkS_no hp (T 0 1) hV)
  exact sumN_all0 _ (fun v hv => hn v (by omega))
theorem pt_pos {T : Nat → Nat → Nat} (hF : FI T) {h : Nat} (hh : h < T 0 0) : 0 < ptT T h ↔ getsB (T 2) (T 4) h := by
  have h1 := (hF.2.1 h (by have := hF.1.1; omega)).2.2.2.2.1 hh
  unfold ptT partN
  constructor
  · intro q
    apply Classical.byContradiction
    intro r
    rw [if_neg r] at q
    omega
  · intro q
    rw [if_pos q]
    split <;> omega
theorem pack_owed {T : Nat → Nat → Nat} (hF : FI T) {h : Nat} (hh : h < T 0 0) : packT T 2 h = T 2 h + (if getsB (T 2) (T 4) h then 1 else 0) := by
  show clO (ptT T) (T 2) (T 0 0) h = _
  unfold clO
  rw [tabN_in hh]
  by_cases q : getsB (T 2) (T 4) h
  · rw [if_pos ((pt_pos hF hh).mpr q), if_pos q]
    have := q.2
    omega
  · rw [if_neg (fun r => q ((pt_pos hF hh).mp r)), if_neg q]
    rfl
theorem pack_cred {T : Nat → Nat → Nat} (hF : FI T) {h : Nat} (hh : h < T 0 0) : packT T 3 h = (if getsB (T 2) (T 4) h then T 3 h - 1 else if T 4 h = 1 then min 9 (T 3 h + T 1 h) else T 3 h) := by
  show clC (ptT T) (T 1) (T 3) (T 4) (T 0 0) h = _
  unfold clC
  rw [tabN_in hh]
  by_cases q : getsB (T 2) (T 4) h
  · rw [if_pos ((pt_pos hF hh).mpr q), if_pos q]
  · rw [if_neg (fun r => q ((pt_pos hF hh).mp r)), if_neg q]
