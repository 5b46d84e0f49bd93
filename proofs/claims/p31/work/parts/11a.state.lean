/-! What the actions do to a farm as one value, and what then always holds. -/
def hvT (T : Nat → Nat → Nat) (v n : Nat) : Nat → Nat → Nat := va_up T 5 (va_up (T 5) v n)
def lkT (T : Nat → Nat → Nat) (h v n : Nat) : Nat → Nat → Nat := va_up T 7 (va_up (T 7) (h * 5 + v) n)
def skT (T : Nat → Nat → Nat) (h x : Nat) : Nat → Nat → Nat := va_up T 4 (va_up (T 4) h x)
def owT (T : Nat → Nat → Nat) (h x : Nat) : Nat → Nat → Nat := va_up T 2 (va_up (T 2) h x)
def gvT (T : Nat → Nat → Nat) (h v n : Nat) : Nat → Nat → Nat := va_up (va_up T 0 (va_up (T 0) 4 (T 0 4 + n))) 8 (va_up (T 8) (h * 5 + v) (T 8 (h * 5 + v) - n))
def ahT (T : Nat → Nat → Nat) (x y : Nat) : Nat → Nat → Nat := va_up (va_up (va_up T 0 (va_up (T 0) 0 (T 0 0 + 1))) 1 (va_up (T 1) (T 0 0) x)) 2 (va_up (T 2) (T 0 0) y)
def avT (T : Nat → Nat → Nat) (x : Nat) : Nat → Nat → Nat := va_up (va_up T 0 (va_up (T 0) 1 (T 0 1 + 1))) 5 (va_up (T 5) (T 0 1) x)
theorem up_all {f : Nat → Nat} {k x j : Nat} {P : Nat → Prop} (h1 : j = k → P x) (h2 : j ≠ k → P (f j)) : P (va_up f k x j) := by
  by_cases h : j = k
  · subst h; rw [up_s]; exact h1 rfl
  · rw [up_n h]; exact h2 h
theorem FI_8 {T : Nat → Nat → Nat} (h : FI T) {k : Nat} (hk : k < 30) : T 8 k ≤ 200 := Nat.le_trans (sumN_le1 (T 8) 30 hk) h.2.2.2.2.1
theorem FI_hap {T : Nat → Nat → Nat} (h : FI T) {j : Nat} (hj : j < 6) : hap (T 7) (T 8) (T 0 1) j ≤ 9000 := by
  have h1 : hap (T 7) (T 8) (T 0 1) j ≤ 1800 * T 0 1 := sumN_c (T 0 1) (fun v hv => by
    have h2 := h.1.2
    have h3 : T 7 (j * 5 + v) ≤ 9 := h.2.2.2.1 _ (by omega)
    have h4 : T 8 (j * 5 + v) ≤ 200 := FI_8 h (by omega)
    exact Nat.mul_le_mul h3 h4)
  have h2 := h.1.2
  omega
theorem FI_box (T : Nat → Nat → Nat) : boxN (T 2) (T 4) (T 0 0) ≤ T 0 0 := cntN_le _ _
theorem FI_hv {T : Nat → Nat → Nat} {v n : Nat} (hF : FI T) (hv : v < T 0 1) (hn : n ≤ 40) : FI (hvT T v n) := by
  obtain ⟨h0, h1, h5, h7, h8, h9⟩ := id hF
  have e : hvT T v n 5 = va_up (T 5) v n := uq_s
  refine ⟨h0, h1, fun k hk => ?_, h7, h8, h9⟩
  rw [e]
  refine ⟨up_all (P := fun z => z ≤ 40) (fun _ => hn) (fun _ => (h5 k hk).1), fun q => ?_⟩
  have q2 : T 0 1 ≤ k := q
  exact up_all (P := fun z => z = 0) (fun _ => by omega) (fun _ => (h5 k hk).2 q2)
theorem FI_lk {T : Nat → Nat → Nat} {h v n : Nat} (hF : FI T) (hn : n ≤ 9) : FI (lkT T h v n) := by
  obtain ⟨h0, h1, h5, h7, h8, h9⟩ := id hF
  have e : lkT T h v n 7 = va_up (T 7) (h * 5 + v) n := uq_s
  refine ⟨h0, h1, h5, fun k hk => ?_, h8, h9⟩
  rw [e]
  exact up_all (P := fun z => z ≤ 9) (fun _ => hn) (fun _ => h7 k hk)
theorem FI_sk {T : Nat → Nat → Nat} {h x : Nat} (hF : FI T) (hh : h < T 0 0) (hx : x ≤ 1) : FI (skT T h x) := by
  obtain ⟨h0, h1, h5, h7, h8, h9⟩ := id hF
  have e : skT T h x 4 = va_up (T 4) h x := uq_s
  refine ⟨h0, fun j hj => ?_, h5, h7, h8, h9⟩
  obtain ⟨a1, a2, a3, a4, a5, a6⟩ := h1 j hj
  refine ⟨a1, a2, a3, ?_, a5, fun q => ⟨(a6 q).1, (a6 q).2.1, ?_⟩⟩
  · rw [e]; exact up_all (P := fun z => z ≤ 1) (fun _ => hx) (fun _ => a4)
  · have q2 : T 0 0 ≤ j := q
    rw [e]; exact up_all (P := fun z => z = 0) (fun _ => by omega) (fun _ => (a6 q).2.2)
theorem FI_ow {T : Nat → Nat → Nat} {h x : Nat} (hF : FI T) (hh : h < T 0 0) (hx : x ≤ 9) : FI (owT T h x) := by
  obtain ⟨h0, h1, h5, h7, h8, h9⟩ := id hF
  have e : owT T h x 2 = va_up (T 2) h x := uq_s
  refine ⟨h0, fun j hj => ?_, h5, h7, h8, h9⟩
  obtain ⟨a1, a2, a3, a4, a5, a6⟩ := h1 j hj
  refine ⟨a1, ?_, a3, a4, a5, fun q => ⟨?_, (a6 q).2.1, (a6 q).2.2⟩⟩
  · rw [e]; exact up_all (P := fun z => z ≤ 9) (fun _ => hx) (fun _ => a2)
  · have q2 : T 0 0 ≤ j := q
    rw [e]; exact up_all (P := fun z => z = 0) (fun _ => by omega) (fun _ => (a6 q).1)
theorem FI_gv {T : Nat → Nat → Nat} {h v n : Nat} (hF : FI T) (hh : h < T 0 0) (hv : v < T 0 1) (hn : n ≤ T 8 (h * 5 + v)) : FI (gvT T h v n) := by
  obtain ⟨h0, h1, h5, h7, h8, h9⟩ := id hF
  have e : gvT T h v n 8 = va_up (T 8) (h * 5 + v) (T 8 (h * 5 + v) - n) := uq_s
  have hH := h0.1
  have hV := h0.2
  refine ⟨h0, h1, h5, h7, ?_, fun k hk => ?_⟩
  · rw [e]
    have := sumN_up_eq (T 8) (h * 5 + v) (T 8 (h * 5 + v) - n) 30 (by omega)
    omega
  · have hk2 : outC (T 0 0) (T 0 1) k := hk
    rw [e]
    refine up_all (P := fun z => z = 0) (fun q => ?_) (fun _ => h9 k hk2)
    rw [← q, h9 k hk2, Nat.zero_sub]
theorem FI_ah {T : Nat → Nat → Nat} {x y : Nat} (hF : FI T) (hH : T 0 0 < 6) (h1x : 1 ≤ x) (hx : x ≤ 4) (hy : y ≤ 9) : FI (ahT T x y) := by
  obtain ⟨h0, h1, h5, h7, h8, h9⟩ := id hF
  have e0 : ahT T x y 0 0 = T 0 0 + 1 := rfl
  have e1 : ahT T x y 1 = va_up (T 1) (T 0 0) x := (uq_n (by decide)).trans uq_s
  have e2 : ahT T x y 2 = va_up (T 2) (T 0 0) y := uq_s
  have e3 : ahT T x y 0 1 = T 0 1 := rfl
  refine ⟨⟨by rw [e0]; omega, h0.2⟩, fun j hj => ?_, h5, h7, h8, fun k hk => ?_⟩
  · obtain ⟨a1, a2, a3, a4, a5, a6⟩ := h1 j hj
    rw [e1, e2, e0]
    refine ⟨up_all (P := fun z => z ≤ 4) (fun _ => hx) (fun _ => a1), up_all (P := fun z => z ≤ 9) (fun _ => hy) (fun _ => a2), a3, a4, fun q => up_all (P := fun z => 1 ≤ z) (fun _ => h1x) (fun r => a5 (by omega)), fun q => ⟨?_, (a6 (by omega)).2.1, (a6 (by omega)).2.2⟩⟩
    exact up_all (P := fun z => z = 0) (fun r => by omega) (fun _ => (a6 (by omega)).1)
  · rw [e0, e3] at hk
    refine h9 k ?_
    rcases hk with q | q
    · exact Or.inl (by omega)
    · exact Or.inr q
theorem FI_av {T : Nat → Nat → Nat} {x : Nat} (hF : FI T) (hV : T 0 1 < 5) (hx : x ≤ 40) : FI (avT T x) := by
  obtain ⟨h0, h1, h5, h7, h8, h9⟩ := id hF
  have e0 : avT T x 0 0 = T 0 0 := rfl
  have e1 : avT T x 0 1 = T 0 1 + 1 := rfl
  have e5 : avT T x 5 = va_up (T 5) (T 0 1) x := uq_s
  refine ⟨⟨h0.1, by rw [e1]; omega⟩, h1, fun k hk => ?_, h7, h8, fun k hk => ?_⟩
  · rw [e5, e1]
    refine ⟨up_all (P := fun z => z ≤ 40) (fun _ => hx) (fun _ => (h5 k hk).1), fun q => ?_⟩
    exact up_all (P := fun z => z = 0) (fun _ => by omega) (fun _ => (h5 k hk).2 (by omega))
  · rw [e0, e1] at hk
    refine h9 k ?_
    rcases hk with q | q
    · exact Or.inl q
    · exact Or.inr (by omega)
/-- the commands of a script: whether one succeeds, and what it does -/
abbrev okC (T : Nat → Nat → Nat) (d1 d2 d3 d4 : Nat) : Prop := (d1 = 1 ∧ d2 < T 0 1 ∧ 10 * d3 + d4 ≤ 40) ∨ (d1 = 2 ∧ d2 < T 0 0 ∧ d3 < T 0 1) ∨ (d1 = 3 ∧ d4 = 0 ∧ d2 < T 0 0 ∧ d3 ≤ 1) ∨ (d1 = 4 ∧ d2 = 0 ∧ d3 = 0 ∧ d4 = 0) ∨ (d1 = 5 ∧ d4 = 0 ∧ d2 < T 0 0 ∧ 1 ≤ d3 ∧ d3 ≤ T 2 d2) ∨ (d1 = 6 ∧ d2 < T 0 0 ∧ d3 < T 0 1 ∧ 1 ≤ d4 ∧ d4 ≤ T 8 (d2 * 5 + d3)) ∨
  (d1 = 7 ∧ d2 < T 0 0 ∧ 10 * d3 + d4 ≤ hap (T 7) (T 8) (T 0 1) d2) ∨ (d1 = 8 ∧ d2 < T 0 0 ∧ d3 < T 0 1 ∧ d4 ≤ T 8 (d2 * 5 + d3)) ∨ (d1 = 9 ∧ d3 = 0 ∧ d4 = 0 ∧ d2 ≤ boxN (T 2) (T 4) (T 0 0))
def doC (T : Nat → Nat → Nat) (d1 d2 d3 d4 : Nat) : Nat → Nat → Nat := if okC T d1 d2 d3 d4 then (if d1 = 1 then hvT T d2 (10 * d3 + d4) else if d1 = 2 then lkT T d2 d3 d4 else if d1 = 3 then skT T d2 d3 else if d1 = 4 then packT T else if d1 = 5 then owT T d2 (T 2 d2 - d3) else if d1 = 6 then gvT T d2 d3 d4 else T) else T
theorem doC_n {T : Nat → Nat → Nat} {d1 d2 d3 d4 : Nat} (h : ¬ okC T d1 d2 d3 d4) : doC T d1 d2 d3 d4 = T := if_neg h
theorem doC_1 {T : Nat → Nat → Nat} {d1 d2 d3 d4 : Nat} (h : okC T d1 d2 d3 d4) (e : d1 = 1) : doC T d1 d2 d3 d4 = hvT T d2 (10 * d3 + d4) := (if_pos h).trans (if_pos e)
theorem doC_2 {T : Nat → Nat → Nat} {d1 d2 d3 d4 : Nat} (h : okC T d1 d2 d3 d4) (e : d1 = 2) : doC T d1 d2 d3 d4 = lkT T d2 d3 d4 := (if_pos h).trans ((if_neg (by omega)).trans (if_pos e))
theorem doC_3 {T : Nat → Nat → Nat} {d1 d2 d3 d4 : Nat} (h : okC T d1 d2 d3 d4) (e : d1 = 3) : doC T d1 d2 d3 d4 = skT T d2 d3 := (if_pos h).trans ((if_neg (by omega)).trans ((if_neg (by omega)).trans (if_pos e)))
theorem doC_4 {T : Nat → Nat → Nat} {d1 d2 d3 d4 : Nat} (h : okC T d1 d2 d3 d4) (e : d1 = 4) : doC T d1 d2 d3 d4 = packT T := (if_pos h).trans ((if_neg (by omega)).trans ((if_neg (by omega)).trans ((if_neg (by omega)).trans (if_pos e))))
theorem doC_5 {T : Nat → Nat → Nat} {d1 d2 d3 d4 : Nat} (h : okC T d1 d2 d3 d4) (e : d1 = 5) : doC T d1 d2 d3 d4 = owT T d2 (T 2 d2 - d3) := (if_pos h).trans ((if_neg (by omega)).trans ((if_neg (by omega)).trans ((if_neg (by omega)).trans ((if_neg (by omega)).trans (if_pos e)))))
theorem doC_6 {T : Nat → Nat → Nat} {d1 d2 d3 d4 : Nat} (h : okC T d1 d2 d3 d4) (e : d1 = 6) : doC T d1 d2 d3 d4 = gvT T d2 d3 d4 := (if_pos h).trans ((if_neg (by omega)).trans ((if_neg (by omega)).trans ((if_neg (by omega)).trans ((if_neg (by omega)).trans ((if_neg (by omega)).trans (if_pos e))))))
theorem doC_7 {T : Nat → Nat → Nat} {d1 d2 d3 d4 : Nat} (e : 6 < d1 ∨ d1 = 0) : doC T d1 d2 d3 d4 = T := by
  unfold doC
  split
  · rw [if_neg (by omega), if_neg (by omega), if_neg (by omega), if_neg (by omega), if_neg (by omega), if_neg (by omega)]
  · rfl
theorem FI_do {T : Nat → Nat → Nat} {d1 d2 d3 d4 : Nat} (hF : FI T) (h4 : d4 ≤ 9) : FI (doC T d1 d2 d3 d4) := by
  by_cases h : okC T d1 d2 d3 d4
  · by_cases q : 6 < d1 ∨ d1 = 0
    · rw [doC_7 q]; exact hF
    · have hb : ∀ j, j < T 0 0 → T 2 j ≤ 9 := fun j hj => (hF.2.1 j (by have := hF.1.1; omega)).2.1
      rcases id h with ⟨e, h⟩ | ⟨e, h⟩ | ⟨e, h⟩ | ⟨e, h⟩ | ⟨e, h⟩ | ⟨e, h⟩ | ⟨e, -⟩ | ⟨e, -⟩ | ⟨e, -⟩
      · rw [doC_1 (by assumption) e]; exact FI_hv hF h.1 h.2
      · rw [doC_2 (by assumption) e]; exact FI_lk hF h4
      · rw [doC_3 (by assumption) e]; exact FI_sk hF h.2.1 h.2.2
      · rw [doC_4 (by assumption) e]; exact FI_pack hF
      · rw [doC_5 (by assumption) e]; exact FI_ow hF h.2.1 (by have := hb d2 h.2.1; omega)
      · rw [doC_6 (by assumption) e]; exact FI_gv hF h.1 h.2.1 h.2.2.2
      · omega
      · omega
      · omega
  · rw [doC_n h]; exact hF
/-- a script, command by command -/
def grC (S n i : Nat) : Nat := S / 10000 ^ (n - 1 - i) % 10000
abbrev okG (T : Nat → Nat → Nat) (g : Nat) : Prop := okC T (g / 1000) (g / 100 % 10) (g / 10 % 10) (g % 10)
def doG (T : Nat → Nat → Nat) (g : Nat) : Nat → Nat → Nat := doC T (g / 1000) (g / 100 % 10) (g / 10 % 10) (g % 10)
def scT (T : Nat → Nat → Nat) (S n : Nat) : Nat → Nat → Nat → Nat
  | 0 => T
  | i + 1 => doG (scT T S n i) (grC S n i)
/-- the first command that fails, from the i-th on -/
def scF (T : Nat → Nat → Nat) (S n : Nat) : Nat → Nat → Int32
  | 0, _ => -9
  | k + 1, i => if okG (scT T S n i) (grC S n i) then scF T S n k (i + 1) else nI i
theorem FI_sc {T : Nat → Nat → Nat} {S n : Nat} (hF : FI T) : ∀ i, FI (scT T S n i)
  | 0 => hF
  | i + 1 => FI_do (FI_sc hF i) (by omega)

