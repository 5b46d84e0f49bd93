/-! The law's arms by cases. -/
theorem ix_lt {x : Int32} {n : Nat} (hn : n < 2 ^ 31) (h : 0 ≤ x ∧ x < nI n) : ∃ k, k < n ∧ x = nI k := by
  have h1 := Int32.le_iff_toInt_le.mp h.1
  have h2 := Int32.lt_iff_toInt_lt.mp h.2
  rw [nI_toInt hn] at h2
  rw [show (0 : Int32).toInt = 0 by decide] at h1
  exact ⟨x.toInt.toNat, by omega, Int32.toInt_inj.mp (by rw [nI_toInt (by omega)]; omega)⟩
theorem ix_rg {x : Int32} {lo hi : Nat} (hl : lo < 2 ^ 31) (hh : hi < 2 ^ 31) (h : nI lo ≤ x ∧ x ≤ nI hi) : ∃ k, lo ≤ k ∧ k ≤ hi ∧ x = nI k := by
  have h1 := Int32.le_iff_toInt_le.mp h.1
  have h2 := Int32.le_iff_toInt_le.mp h.2
  rw [nI_toInt hl] at h1
  rw [nI_toInt hh] at h2
  exact ⟨x.toInt.toNat, by omega, by omega, Int32.toInt_inj.mp (by rw [nI_toInt (by omega)]; omega)⟩
theorem ix_no {x lo hi : Int32} (h : ¬ (lo ≤ x ∧ x ≤ hi)) : x < lo ∨ hi < x := by
  rw [Int32.le_iff_toInt_le, Int32.le_iff_toInt_le] at h
  rw [Int32.lt_iff_toInt_lt, Int32.lt_iff_toInt_lt]
  omega
theorem ix_el {x : Int32} {N : Nat} (hN : N < 2 ^ 30) (h : ¬ (nI 0 ≤ x ∧ x ≤ nI N)) : ∀ j, j < N + 1 → ¬ x = nI j := by
  intro j hj e
  subst e
  rw [Int32.le_iff_toInt_le, Int32.le_iff_toInt_le, nI_toInt (by omega), nI_toInt (by omega), nI_toInt (by omega)] at h
  omega
theorem ix_po {x : Int32} (h : ¬ x < 0) : ∃ k, k < 2 ^ 31 ∧ x = nI k := by
  rw [Int32.lt_iff_toInt_lt, show (0 : Int32).toInt = 0 by decide] at h
  have h2 := Int32.toInt_lt x
  exact ⟨x.toInt.toNat, by omega, Int32.toInt_inj.mp (by rw [nI_toInt (by omega)]; omega)⟩
theorem lx_po {x : Int64} (h : ¬ x < 0) : ∃ S, S < 2 ^ 63 ∧ x = lN S := by
  rw [Int64.lt_iff_toInt_lt, show (0 : Int64).toInt = 0 by decide] at h
  have h2 := Int64.toInt_lt x
  exact ⟨x.toInt.toNat, by omega, Int64.toInt_inj.mp (by rw [pk_lT (by omega)]; omega)⟩
theorem ix_2 {x : Int32} (h : ¬ (0 ≤ x ∧ x < nI 2)) : ¬ (nI 0 ≤ x ∧ x ≤ nI 1) := by
  rw [Int32.le_iff_toInt_le, Int32.lt_iff_toInt_lt, show (0 : Int32).toInt = 0 by decide, nI_toInt (by omega)] at h
  rw [Int32.le_iff_toInt_le, Int32.le_iff_toInt_le, nI_toInt (by omega), nI_toInt (by omega)]
  omega
section
variable {p : Program} {l : Launch} {e : Env} {s : State} {m : MethodId} {below : List Frame} {meth : Method} {c : Code} {sb sL : Nat} {sx : Nat → Int32} {D : va_G} {H : Heap} {locs : List Loc} {cells slots i : Nat} {ls : Array Slot} {cI cZ cF cL : ClassId} {rx : Nat} {tt a tr : Nat → Nat} {r3 rs rz : Nat} {b : Nat → Nat} {b0 s0 r5 r6 ra : Nat} {pa pz : Nat → Nat → Nat} {er fr gr jr : Nat → Nat} {mr : Nat} {rf : Nat → Nat} {oq : Nat}
set_option maxHeartbeats 4000000 in
set_option maxRecDepth 100000 in
theorem ar_append {T : Nat → Nat → Nat} {cnt nx : Nat} {Ts : Nat → Nat → Nat → Nat} {zf : Nat → Nat} {Zs : Nat → Nat → Nat → Nat} {X : Nat → Nat} {Ln : Nat} {Q Sv : Nat → Nat → Nat} {fq : Nat → Int64} {pl : Nat} {U : Nat → Nat → Nat} {g1 g2 : Nat → Nat} {kn kw : Int32} {x1 x2 x3 x4 x5 : Nat} {kn2 kw2 : Int32} {y1 y2 y3 y4 y5 : Nat} {V5 : Nat → Nat → Nat} {d1 d2 : Nat → Nat} {dn dw : Int32} {z1 z2 z3 z4 z5 : Nat} {x6 : Int64} {V6 : Nat → Nat → Nat} {e1 e2 : Nat → Nat} {en ew : Int32} {v1 v2 v3 v4 v5 th9 pl9 hs9 vs9 : Nat} {dg9 : Int32} {xx9 : Int64} {h9 g9 : Nat → Nat} (C : LC p l s m c sb sL sx D cI cZ cF cL) (K : LH p l e s m sb below meth c D cI cZ cF cL rx tt a tr r3 rs rz b b0 s0 r5 r6 ra pa pz er fr gr jr mr rf oq (i + 4) (cells + 1) (slots + 6)) (hroom : cells + 1 ≤ room_1.cells ∧ slots + 6 ≤ room_1.slots) (hi : i + 4 ≤ sL) (hI : INV T cnt nx Ts zf Zs X Ln Q Sv) (hP : va_P D vwCl (bW cI cZ cF cL rx tt a tr r3 rs rz b b0 s0 r5 r6 ra pa pz er fr gr jr mr rf oq T cnt nx Ts zf Zs X Ln Q Sv fq pl U g1 g2 kn kw x1 x2 x3 x4 x5 kn2 kw2 y1 y2 y3 y4 y5 V5 d1 d2 dn dw z1 z2 z3 z4 z5 x6 V6 e1 e2 en ew v1 v2 v3 v4 v5 th9 pl9 hs9 vs9 dg9 xx9 h9 g9) H) (hD : va_D (AS s) (bW cI cZ cF cL rx tt a tr r3 rs rz b b0 s0 r5 r6 ra pa pz er fr gr jr mr rf oq T cnt nx Ts zf Zs X Ln Q Sv fq pl U g1 g2 kn kw x1 x2 x3 x4 x5 kn2 kw2 y1 y2 y3 y4 y5 V5 d1 d2 dn dw z1 z2 z3 z4 z5 x6 V6 e1 e2 en ew v1 v2 v3 v4 v5 th9 pl9 hs9 vs9 dg9 xx9 h9 g9)) (hS : va_S (AS s) s.heap H locs) (hl : lv_has ls 7 (lvs sb rx mr oq i)) : WL p l e s m sb below meth c H locs cells slots (F0 m 164 ls []) := by
  by_cases q1 : nI 0 ≤ sx (i + 1) ∧ sx (i + 1) ≤ nI 255
  · skip
    obtain ⟨ch, g1, g2, e1⟩ := ix_rg (by decide) (by decide) q1
    by_cases qq : Ln < 120
    · skip
      exact pa_append_0 C K hroom hi hI (ea1 := e1) (hc9 := g2) (hL := qq) hP hD hS hl
    · skip
      exact pa_append_2 C K hroom hi hI (ea1 := e1) (hc9 := g2) (hL := (by have := hI.2.2.2.2; omega)) hP hD hS hl
  · skip
    exact pa_append_1 C K hroom hi hI (hbad := ix_no q1) (hbad9 := q1) hP hD hS hl
set_option maxHeartbeats 4000000 in
set_option maxRecDepth 100000 in
theorem ar_clearText {T : Nat → Nat → Nat} {cnt nx : Nat} {Ts : Nat → Nat → Nat → Nat} {zf : Nat → Nat} {Zs : Nat → Nat → Nat → Nat} {X : Nat → Nat} {Ln : Nat} {Q Sv : Nat → Nat → Nat} {fq : Nat → Int64} {pl : Nat} {U : Nat → Nat → Nat} {g1 g2 : Nat → Nat} {kn kw : Int32} {x1 x2 x3 x4 x5 : Nat} {kn2 kw2 : Int32} {y1 y2 y3 y4 y5 : Nat} {V5 : Nat → Nat → Nat} {d1 d2 : Nat → Nat} {dn dw : Int32} {z1 z2 z3 z4 z5 : Nat} {x6 : Int64} {V6 : Nat → Nat → Nat} {e1 e2 : Nat → Nat} {en ew : Int32} {v1 v2 v3 v4 v5 th9 pl9 hs9 vs9 : Nat} {dg9 : Int32} {xx9 : Int64} {h9 g9 : Nat → Nat} (C : LC p l s m c sb sL sx D cI cZ cF cL) (K : LH p l e s m sb below meth c D cI cZ cF cL rx tt a tr r3 rs rz b b0 s0 r5 r6 ra pa pz er fr gr jr mr rf oq (i + 4) (cells + 1) (slots + 6)) (hroom : cells + 1 ≤ room_1.cells ∧ slots + 6 ≤ room_1.slots) (hi : i + 4 ≤ sL) (hI : INV T cnt nx Ts zf Zs X Ln Q Sv) (hP : va_P D vwCl (bW cI cZ cF cL rx tt a tr r3 rs rz b b0 s0 r5 r6 ra pa pz er fr gr jr mr rf oq T cnt nx Ts zf Zs X Ln Q Sv fq pl U g1 g2 kn kw x1 x2 x3 x4 x5 kn2 kw2 y1 y2 y3 y4 y5 V5 d1 d2 dn dw z1 z2 z3 z4 z5 x6 V6 e1 e2 en ew v1 v2 v3 v4 v5 th9 pl9 hs9 vs9 dg9 xx9 h9 g9) H) (hD : va_D (AS s) (bW cI cZ cF cL rx tt a tr r3 rs rz b b0 s0 r5 r6 ra pa pz er fr gr jr mr rf oq T cnt nx Ts zf Zs X Ln Q Sv fq pl U g1 g2 kn kw x1 x2 x3 x4 x5 kn2 kw2 y1 y2 y3 y4 y5 V5 d1 d2 dn dw z1 z2 z3 z4 z5 x6 V6 e1 e2 en ew v1 v2 v3 v4 v5 th9 pl9 hs9 vs9 dg9 xx9 h9 g9)) (hS : va_S (AS s) s.heap H locs) (hl : lv_has ls 7 (lvs sb rx mr oq i)) : WL p l e s m sb below meth c H locs cells slots (F0 m 220 ls []) := by
  exact pa_clearText C K hroom hi hI hP hD hS hl
set_option maxHeartbeats 4000000 in
set_option maxRecDepth 100000 in
theorem ar_errorPosition {T : Nat → Nat → Nat} {cnt nx : Nat} {Ts : Nat → Nat → Nat → Nat} {zf : Nat → Nat} {Zs : Nat → Nat → Nat → Nat} {X : Nat → Nat} {Ln : Nat} {Q Sv : Nat → Nat → Nat} {fq : Nat → Int64} {pl : Nat} {U : Nat → Nat → Nat} {g1 g2 : Nat → Nat} {kn kw : Int32} {x1 x2 x3 x4 x5 : Nat} {kn2 kw2 : Int32} {y1 y2 y3 y4 y5 : Nat} {V5 : Nat → Nat → Nat} {d1 d2 : Nat → Nat} {dn dw : Int32} {z1 z2 z3 z4 z5 : Nat} {x6 : Int64} {V6 : Nat → Nat → Nat} {e1 e2 : Nat → Nat} {en ew : Int32} {v1 v2 v3 v4 v5 th9 pl9 hs9 vs9 : Nat} {dg9 : Int32} {xx9 : Int64} {h9 g9 : Nat → Nat} (C : LC p l s m c sb sL sx D cI cZ cF cL) (K : LH p l e s m sb below meth c D cI cZ cF cL rx tt a tr r3 rs rz b b0 s0 r5 r6 ra pa pz er fr gr jr mr rf oq (i + 4) (cells + 1) (slots + 6)) (hroom : cells + 1 ≤ room_1.cells ∧ slots + 6 ≤ room_1.slots) (hi : i + 4 ≤ sL) (hI : INV T cnt nx Ts zf Zs X Ln Q Sv) (hP : va_P D vwCl (bW cI cZ cF cL rx tt a tr r3 rs rz b b0 s0 r5 r6 ra pa pz er fr gr jr mr rf oq T cnt nx Ts zf Zs X Ln Q Sv fq pl U g1 g2 kn kw x1 x2 x3 x4 x5 kn2 kw2 y1 y2 y3 y4 y5 V5 d1 d2 dn dw z1 z2 z3 z4 z5 x6 V6 e1 e2 en ew v1 v2 v3 v4 v5 th9 pl9 hs9 vs9 dg9 xx9 h9 g9) H) (hD : va_D (AS s) (bW cI cZ cF cL rx tt a tr r3 rs rz b b0 s0 r5 r6 ra pa pz er fr gr jr mr rf oq T cnt nx Ts zf Zs X Ln Q Sv fq pl U g1 g2 kn kw x1 x2 x3 x4 x5 kn2 kw2 y1 y2 y3 y4 y5 V5 d1 d2 dn dw z1 z2 z3 z4 z5 x6 V6 e1 e2 en ew v1 v2 v3 v4 v5 th9 pl9 hs9 vs9 dg9 xx9 h9 g9)) (hS : va_S (AS s) s.heap H locs) (hl : lv_has ls 7 (lvs sb rx mr oq i)) : WL p l e s m sb below meth c H locs cells slots (F0 m 233 ls []) := by
  exact pa_errorPosition C K hroom hi hI hP hD hS hl
set_option maxHeartbeats 4000000 in
set_option maxRecDepth 100000 in
theorem ar_load {T : Nat → Nat → Nat} {cnt nx : Nat} {Ts : Nat → Nat → Nat → Nat} {zf : Nat → Nat} {Zs : Nat → Nat → Nat → Nat} {X : Nat → Nat} {Ln : Nat} {Q Sv : Nat → Nat → Nat} {fq : Nat → Int64} {pl : Nat} {U : Nat → Nat → Nat} {g1 g2 : Nat → Nat} {kn kw : Int32} {x1 x2 x3 x4 x5 : Nat} {kn2 kw2 : Int32} {y1 y2 y3 y4 y5 : Nat} {V5 : Nat → Nat → Nat} {d1 d2 : Nat → Nat} {dn dw : Int32} {z1 z2 z3 z4 z5 : Nat} {x6 : Int64} {V6 : Nat → Nat → Nat} {e1 e2 : Nat → Nat} {en ew : Int32} {v1 v2 v3 v4 v5 th9 pl9 hs9 vs9 : Nat} {dg9 : Int32} {xx9 : Int64} {h9 g9 : Nat → Nat} (C : LC p l s m c sb sL sx D cI cZ cF cL) (K : LH p l e s m sb below meth c D cI cZ cF cL rx tt a tr r3 rs rz b b0 s0 r5 r6 ra pa pz er fr gr jr mr rf oq (i + 4) (cells + 1) (slots + 6)) (hroom : cells + 1 ≤ room_1.cells ∧ slots + 6 ≤ room_1.slots) (hi : i + 4 ≤ sL) (hI : INV T cnt nx Ts zf Zs X Ln Q Sv) (hP : va_P D vwCl (bW cI cZ cF cL rx tt a tr r3 rs rz b b0 s0 r5 r6 ra pa pz er fr gr jr mr rf oq T cnt nx Ts zf Zs X Ln Q Sv fq pl U g1 g2 kn kw x1 x2 x3 x4 x5 kn2 kw2 y1 y2 y3 y4 y5 V5 d1 d2 dn dw z1 z2 z3 z4 z5 x6 V6 e1 e2 en ew v1 v2 v3 v4 v5 th9 pl9 hs9 vs9 dg9 xx9 h9 g9) H) (hD : va_D (AS s) (bW cI cZ cF cL rx tt a tr r3 rs rz b b0 s0 r5 r6 ra pa pz er fr gr jr mr rf oq T cnt nx Ts zf Zs X Ln Q Sv fq pl U g1 g2 kn kw x1 x2 x3 x4 x5 kn2 kw2 y1 y2 y3 y4 y5 V5 d1 d2 dn dw z1 z2 z3 z4 z5 x6 V6 e1 e2 en ew v1 v2 v3 v4 v5 th9 pl9 hs9 vs9 dg9 xx9 h9 g9)) (hS : va_S (AS s) s.heap H locs) (hl : lv_has ls 7 (lvs sb rx mr oq i)) : WL p l e s m sb below meth c H locs cells slots (F0 m 246 ls []) := by
  by_cases hok : (rdI X Ln).1 = true
  · skip
    exact pa_load_0 C K hroom hi hI (hok := hok) hP hD hS hl
  · skip
    exact pa_load_1 C K hroom hi hI (hok := hok) hP hD hS hl
set_option maxHeartbeats 4000000 in
set_option maxRecDepth 100000 in
theorem ar_about {T : Nat → Nat → Nat} {cnt nx : Nat} {Ts : Nat → Nat → Nat → Nat} {zf : Nat → Nat} {Zs : Nat → Nat → Nat → Nat} {X : Nat → Nat} {Ln : Nat} {Q Sv : Nat → Nat → Nat} {fq : Nat → Int64} {pl : Nat} {U : Nat → Nat → Nat} {g1 g2 : Nat → Nat} {kn kw : Int32} {x1 x2 x3 x4 x5 : Nat} {kn2 kw2 : Int32} {y1 y2 y3 y4 y5 : Nat} {V5 : Nat → Nat → Nat} {d1 d2 : Nat → Nat} {dn dw : Int32} {z1 z2 z3 z4 z5 : Nat} {x6 : Int64} {V6 : Nat → Nat → Nat} {e1 e2 : Nat → Nat} {en ew : Int32} {v1 v2 v3 v4 v5 th9 pl9 hs9 vs9 : Nat} {dg9 : Int32} {xx9 : Int64} {h9 g9 : Nat → Nat} (C : LC p l s m c sb sL sx D cI cZ cF cL) (K : LH p l e s m sb below meth c D cI cZ cF cL rx tt a tr r3 rs rz b b0 s0 r5 r6 ra pa pz er fr gr jr mr rf oq (i + 4) (cells + 1) (slots + 6)) (hroom : cells + 1 ≤ room_1.cells ∧ slots + 6 ≤ room_1.slots) (hi : i + 4 ≤ sL) (hI : INV T cnt nx Ts zf Zs X Ln Q Sv) (hP : va_P D vwCl (bW cI cZ cF cL rx tt a tr r3 rs rz b b0 s0 r5 r6 ra pa pz er fr gr jr mr rf oq T cnt nx Ts zf Zs X Ln Q Sv fq pl U g1 g2 kn kw x1 x2 x3 x4 x5 kn2 kw2 y1 y2 y3 y4 y5 V5 d1 d2 dn dw z1 z2 z3 z4 z5 x6 V6 e1 e2 en ew v1 v2 v3 v4 v5 th9 pl9 hs9 vs9 dg9 xx9 h9 g9) H) (hD : va_D (AS s) (bW cI cZ cF cL rx tt a tr r3 rs rz b b0 s0 r5 r6 ra pa pz er fr gr jr mr rf oq T cnt nx Ts zf Zs X Ln Q Sv fq pl U g1 g2 kn kw x1 x2 x3 x4 x5 kn2 kw2 y1 y2 y3 y4 y5 V5 d1 d2 dn dw z1 z2 z3 z4 z5 x6 V6 e1 e2 en ew v1 v2 v3 v4 v5 th9 pl9 hs9 vs9 dg9 xx9 h9 g9)) (hS : va_S (AS s) s.heap H locs) (hl : lv_has ls 7 (lvs sb rx mr oq i)) : WL p l e s m sb below meth c H locs cells slots (F0 m 290 ls []) := by
  by_cases q1 : nI 0 ≤ sx (i + 1) ∧ sx (i + 1) ≤ nI 9
  · skip
    obtain ⟨w, g1, g2, e1⟩ := ix_rg (by decide) (by decide) q1
    exact pa_about_0 C K hroom hi hI (ea1 := e1) (hw := (by omega)) hP hD hS hl
  · skip
    exact pa_about_1 C K hroom hi hI (hbad := ix_el (by decide) q1) hP hD hS hl
set_option maxHeartbeats 4000000 in
set_option maxRecDepth 100000 in
theorem ar_house {T : Nat → Nat → Nat} {cnt nx : Nat} {Ts : Nat → Nat → Nat → Nat} {zf : Nat → Nat} {Zs : Nat → Nat → Nat → Nat} {X : Nat → Nat} {Ln : Nat} {Q Sv : Nat → Nat → Nat} {fq : Nat → Int64} {pl : Nat} {U : Nat → Nat → Nat} {g1 g2 : Nat → Nat} {kn kw : Int32} {x1 x2 x3 x4 x5 : Nat} {kn2 kw2 : Int32} {y1 y2 y3 y4 y5 : Nat} {V5 : Nat → Nat → Nat} {d1 d2 : Nat → Nat} {dn dw : Int32} {z1 z2 z3 z4 z5 : Nat} {x6 : Int64} {V6 : Nat → Nat → Nat} {e1 e2 : Nat → Nat} {en ew : Int32} {v1 v2 v3 v4 v5 th9 pl9 hs9 vs9 : Nat} {dg9 : Int32} {xx9 : Int64} {h9 g9 : Nat → Nat} (C : LC p l s m c sb sL sx D cI cZ cF cL) (K : LH p l e s m sb below meth c D cI cZ cF cL rx tt a tr r3 rs rz b b0 s0 r5 r6 ra pa pz er fr gr jr mr rf oq (i + 4) (cells + 1) (slots + 6)) (hroom : cells + 1 ≤ room_1.cells ∧ slots + 6 ≤ room_1.slots) (hi : i + 4 ≤ sL) (hI : INV T cnt nx Ts zf Zs X Ln Q Sv) (hP : va_P D vwCl (bW cI cZ cF cL rx tt a tr r3 rs rz b b0 s0 r5 r6 ra pa pz er fr gr jr mr rf oq T cnt nx Ts zf Zs X Ln Q Sv fq pl U g1 g2 kn kw x1 x2 x3 x4 x5 kn2 kw2 y1 y2 y3 y4 y5 V5 d1 d2 dn dw z1 z2 z3 z4 z5 x6 V6 e1 e2 en ew v1 v2 v3 v4 v5 th9 pl9 hs9 vs9 dg9 xx9 h9 g9) H) (hD : va_D (AS s) (bW cI cZ cF cL rx tt a tr r3 rs rz b b0 s0 r5 r6 ra pa pz er fr gr jr mr rf oq T cnt nx Ts zf Zs X Ln Q Sv fq pl U g1 g2 kn kw x1 x2 x3 x4 x5 kn2 kw2 y1 y2 y3 y4 y5 V5 d1 d2 dn dw z1 z2 z3 z4 z5 x6 V6 e1 e2 en ew v1 v2 v3 v4 v5 th9 pl9 hs9 vs9 dg9 xx9 h9 g9)) (hS : va_S (AS s) s.heap H locs) (hl : lv_has ls 7 (lvs sb rx mr oq i)) : WL p l e s m sb below meth c H locs cells slots (F0 m 346 ls []) := by
  by_cases q1 : 0 ≤ sx (i + 1) ∧ sx (i + 1) < nI (T 0 0)
  · skip
    obtain ⟨h, hh, e1⟩ := ix_lt (by have := hI.1.1.1; omega) q1
    by_cases q2 : nI 0 ≤ sx (i + 2) ∧ sx (i + 2) ≤ nI 6
    · skip
      obtain ⟨w, g1, g2, e2⟩ := ix_rg (by decide) (by decide) q2
      exact pa_house_0 C K hroom hi hI (ea1 := e1) (ea2 := e2) (hh := hh) (hw := (by omega)) hP hD hS hl
    · skip
      exact pa_house_2 C K hroom hi hI (ea1 := e1) (hh := hh) (hbad := ix_el (by decide) q2) (hbad9 := q2) hP hD hS hl
  · skip
    exact pa_house_1 C K hroom hi hI (hbad := q1) hP hD hS hl
set_option maxHeartbeats 4000000 in
set_option maxRecDepth 100000 in
theorem ar_vegetable {T : Nat → Nat → Nat} {cnt nx : Nat} {Ts : Nat → Nat → Nat → Nat} {zf : Nat → Nat} {Zs : Nat → Nat → Nat → Nat} {X : Nat → Nat} {Ln : Nat} {Q Sv : Nat → Nat → Nat} {fq : Nat → Int64} {pl : Nat} {U : Nat → Nat → Nat} {g1 g2 : Nat → Nat} {kn kw : Int32} {x1 x2 x3 x4 x5 : Nat} {kn2 kw2 : Int32} {y1 y2 y3 y4 y5 : Nat} {V5 : Nat → Nat → Nat} {d1 d2 : Nat → Nat} {dn dw : Int32} {z1 z2 z3 z4 z5 : Nat} {x6 : Int64} {V6 : Nat → Nat → Nat} {e1 e2 : Nat → Nat} {en ew : Int32} {v1 v2 v3 v4 v5 th9 pl9 hs9 vs9 : Nat} {dg9 : Int32} {xx9 : Int64} {h9 g9 : Nat → Nat} (C : LC p l s m c sb sL sx D cI cZ cF cL) (K : LH p l e s m sb below meth c D cI cZ cF cL rx tt a tr r3 rs rz b b0 s0 r5 r6 ra pa pz er fr gr jr mr rf oq (i + 4) (cells + 1) (slots + 6)) (hroom : cells + 1 ≤ room_1.cells ∧ slots + 6 ≤ room_1.slots) (hi : i + 4 ≤ sL) (hI : INV T cnt nx Ts zf Zs X Ln Q Sv) (hP : va_P D vwCl (bW cI cZ cF cL rx tt a tr r3 rs rz b b0 s0 r5 r6 ra pa pz er fr gr jr mr rf oq T cnt nx Ts zf Zs X Ln Q Sv fq pl U g1 g2 kn kw x1 x2 x3 x4 x5 kn2 kw2 y1 y2 y3 y4 y5 V5 d1 d2 dn dw z1 z2 z3 z4 z5 x6 V6 e1 e2 en ew v1 v2 v3 v4 v5 th9 pl9 hs9 vs9 dg9 xx9 h9 g9) H) (hD : va_D (AS s) (bW cI cZ cF cL rx tt a tr r3 rs rz b b0 s0 r5 r6 ra pa pz er fr gr jr mr rf oq T cnt nx Ts zf Zs X Ln Q Sv fq pl U g1 g2 kn kw x1 x2 x3 x4 x5 kn2 kw2 y1 y2 y3 y4 y5 V5 d1 d2 dn dw z1 z2 z3 z4 z5 x6 V6 e1 e2 en ew v1 v2 v3 v4 v5 th9 pl9 hs9 vs9 dg9 xx9 h9 g9)) (hS : va_S (AS s) s.heap H locs) (hl : lv_has ls 7 (lvs sb rx mr oq i)) : WL p l e s m sb below meth c H locs cells slots (F0 m 414 ls []) := by
  by_cases q1 : 0 ≤ sx (i + 1) ∧ sx (i + 1) < nI (T 0 1)
  · skip
    obtain ⟨v, hv, e1⟩ := ix_lt (by have := hI.1.1.2; omega) q1
    by_cases q2 : nI 0 ≤ sx (i + 2) ∧ sx (i + 2) ≤ nI 3
    · skip
      obtain ⟨w, g1, g2, e2⟩ := ix_rg (by decide) (by decide) q2
      exact pa_vegetable_0 C K hroom hi hI (ea1 := e1) (ea2 := e2) (hv := hv) (hw := (by omega)) hP hD hS hl
    · skip
      exact pa_vegetable_2 C K hroom hi hI (ea1 := e1) (hv := hv) (hbad := ix_el (by decide) q2) (hbad9 := q2) hP hD hS hl
  · skip
    exact pa_vegetable_1 C K hroom hi hI (hbad := q1) hP hD hS hl
set_option maxHeartbeats 4000000 in
set_option maxRecDepth 100000 in
theorem ar_box {T : Nat → Nat → Nat} {cnt nx : Nat} {Ts : Nat → Nat → Nat → Nat} {zf : Nat → Nat} {Zs : Nat → Nat → Nat → Nat} {X : Nat → Nat} {Ln : Nat} {Q Sv : Nat → Nat → Nat} {fq : Nat → Int64} {pl : Nat} {U : Nat → Nat → Nat} {g1 g2 : Nat → Nat} {kn kw : Int32} {x1 x2 x3 x4 x5 : Nat} {kn2 kw2 : Int32} {y1 y2 y3 y4 y5 : Nat} {V5 : Nat → Nat → Nat} {d1 d2 : Nat → Nat} {dn dw : Int32} {z1 z2 z3 z4 z5 : Nat} {x6 : Int64} {V6 : Nat → Nat → Nat} {e1 e2 : Nat → Nat} {en ew : Int32} {v1 v2 v3 v4 v5 th9 pl9 hs9 vs9 : Nat} {dg9 : Int32} {xx9 : Int64} {h9 g9 : Nat → Nat} (C : LC p l s m c sb sL sx D cI cZ cF cL) (K : LH p l e s m sb below meth c D cI cZ cF cL rx tt a tr r3 rs rz b b0 s0 r5 r6 ra pa pz er fr gr jr mr rf oq (i + 4) (cells + 1) (slots + 6)) (hroom : cells + 1 ≤ room_1.cells ∧ slots + 6 ≤ room_1.slots) (hi : i + 4 ≤ sL) (hI : INV T cnt nx Ts zf Zs X Ln Q Sv) (hP : va_P D vwCl (bW cI cZ cF cL rx tt a tr r3 rs rz b b0 s0 r5 r6 ra pa pz er fr gr jr mr rf oq T cnt nx Ts zf Zs X Ln Q Sv fq pl U g1 g2 kn kw x1 x2 x3 x4 x5 kn2 kw2 y1 y2 y3 y4 y5 V5 d1 d2 dn dw z1 z2 z3 z4 z5 x6 V6 e1 e2 en ew v1 v2 v3 v4 v5 th9 pl9 hs9 vs9 dg9 xx9 h9 g9) H) (hD : va_D (AS s) (bW cI cZ cF cL rx tt a tr r3 rs rz b b0 s0 r5 r6 ra pa pz er fr gr jr mr rf oq T cnt nx Ts zf Zs X Ln Q Sv fq pl U g1 g2 kn kw x1 x2 x3 x4 x5 kn2 kw2 y1 y2 y3 y4 y5 V5 d1 d2 dn dw z1 z2 z3 z4 z5 x6 V6 e1 e2 en ew v1 v2 v3 v4 v5 th9 pl9 hs9 vs9 dg9 xx9 h9 g9)) (hS : va_S (AS s) s.heap H locs) (hl : lv_has ls 7 (lvs sb rx mr oq i)) : WL p l e s m sb below meth c H locs cells slots (F0 m 482 ls []) := by
  by_cases q1 : 0 ≤ sx (i + 1) ∧ sx (i + 1) < nI (T 0 0)
  · skip
    obtain ⟨h, hh, e1⟩ := ix_lt (by have := hI.1.1.1; omega) q1
    by_cases q2 : 0 ≤ sx (i + 2) ∧ sx (i + 2) < nI (T 0 1)
    · skip
      obtain ⟨v, hv, e2⟩ := ix_lt (by have := hI.1.1.2; omega) q2
      exact pa_box_0 C K hroom hi hI (ea1 := e1) (ea2 := e2) (hh := hh) (hv := hv) hP hD hS hl
    · skip
      exact pa_box_2 C K hroom hi hI (ea1 := e1) (hh := hh) (hbad := q2) hP hD hS hl
  · skip
    exact pa_box_1 C K hroom hi hI (hbad := q1) hP hD hS hl
set_option maxHeartbeats 4000000 in
set_option maxRecDepth 100000 in
theorem ar_liking {T : Nat → Nat → Nat} {cnt nx : Nat} {Ts : Nat → Nat → Nat → Nat} {zf : Nat → Nat} {Zs : Nat → Nat → Nat → Nat} {X : Nat → Nat} {Ln : Nat} {Q Sv : Nat → Nat → Nat} {fq : Nat → Int64} {pl : Nat} {U : Nat → Nat → Nat} {g1 g2 : Nat → Nat} {kn kw : Int32} {x1 x2 x3 x4 x5 : Nat} {kn2 kw2 : Int32} {y1 y2 y3 y4 y5 : Nat} {V5 : Nat → Nat → Nat} {d1 d2 : Nat → Nat} {dn dw : Int32} {z1 z2 z3 z4 z5 : Nat} {x6 : Int64} {V6 : Nat → Nat → Nat} {e1 e2 : Nat → Nat} {en ew : Int32} {v1 v2 v3 v4 v5 th9 pl9 hs9 vs9 : Nat} {dg9 : Int32} {xx9 : Int64} {h9 g9 : Nat → Nat} (C : LC p l s m c sb sL sx D cI cZ cF cL) (K : LH p l e s m sb below meth c D cI cZ cF cL rx tt a tr r3 rs rz b b0 s0 r5 r6 ra pa pz er fr gr jr mr rf oq (i + 4) (cells + 1) (slots + 6)) (hroom : cells + 1 ≤ room_1.cells ∧ slots + 6 ≤ room_1.slots) (hi : i + 4 ≤ sL) (hI : INV T cnt nx Ts zf Zs X Ln Q Sv) (hP : va_P D vwCl (bW cI cZ cF cL rx tt a tr r3 rs rz b b0 s0 r5 r6 ra pa pz er fr gr jr mr rf oq T cnt nx Ts zf Zs X Ln Q Sv fq pl U g1 g2 kn kw x1 x2 x3 x4 x5 kn2 kw2 y1 y2 y3 y4 y5 V5 d1 d2 dn dw z1 z2 z3 z4 z5 x6 V6 e1 e2 en ew v1 v2 v3 v4 v5 th9 pl9 hs9 vs9 dg9 xx9 h9 g9) H) (hD : va_D (AS s) (bW cI cZ cF cL rx tt a tr r3 rs rz b b0 s0 r5 r6 ra pa pz er fr gr jr mr rf oq T cnt nx Ts zf Zs X Ln Q Sv fq pl U g1 g2 kn kw x1 x2 x3 x4 x5 kn2 kw2 y1 y2 y3 y4 y5 V5 d1 d2 dn dw z1 z2 z3 z4 z5 x6 V6 e1 e2 en ew v1 v2 v3 v4 v5 th9 pl9 hs9 vs9 dg9 xx9 h9 g9)) (hS : va_S (AS s) s.heap H locs) (hl : lv_has ls 7 (lvs sb rx mr oq i)) : WL p l e s m sb below meth c H locs cells slots (F0 m 550 ls []) := by
  by_cases q1 : 0 ≤ sx (i + 1) ∧ sx (i + 1) < nI (T 0 0)
  · skip
    obtain ⟨h, hh, e1⟩ := ix_lt (by have := hI.1.1.1; omega) q1
    by_cases q2 : 0 ≤ sx (i + 2) ∧ sx (i + 2) < nI (T 0 1)
    · skip
      obtain ⟨v, hv, e2⟩ := ix_lt (by have := hI.1.1.2; omega) q2
      exact pa_liking_0 C K hroom hi hI (ea1 := e1) (ea2 := e2) (hh := hh) (hv := hv) hP hD hS hl
    · skip
      exact pa_liking_2 C K hroom hi hI (ea1 := e1) (hh := hh) (hbad := q2) hP hD hS hl
  · skip
    exact pa_liking_1 C K hroom hi hI (hbad := q1) hP hD hS hl
set_option maxHeartbeats 4000000 in
set_option maxRecDepth 100000 in
theorem ar_order {T : Nat → Nat → Nat} {cnt nx : Nat} {Ts : Nat → Nat → Nat → Nat} {zf : Nat → Nat} {Zs : Nat → Nat → Nat → Nat} {X : Nat → Nat} {Ln : Nat} {Q Sv : Nat → Nat → Nat} {fq : Nat → Int64} {pl : Nat} {U : Nat → Nat → Nat} {g1 g2 : Nat → Nat} {kn kw : Int32} {x1 x2 x3 x4 x5 : Nat} {kn2 kw2 : Int32} {y1 y2 y3 y4 y5 : Nat} {V5 : Nat → Nat → Nat} {d1 d2 : Nat → Nat} {dn dw : Int32} {z1 z2 z3 z4 z5 : Nat} {x6 : Int64} {V6 : Nat → Nat → Nat} {e1 e2 : Nat → Nat} {en ew : Int32} {v1 v2 v3 v4 v5 th9 pl9 hs9 vs9 : Nat} {dg9 : Int32} {xx9 : Int64} {h9 g9 : Nat → Nat} (C : LC p l s m c sb sL sx D cI cZ cF cL) (K : LH p l e s m sb below meth c D cI cZ cF cL rx tt a tr r3 rs rz b b0 s0 r5 r6 ra pa pz er fr gr jr mr rf oq (i + 4) (cells + 1) (slots + 6)) (hroom : cells + 1 ≤ room_1.cells ∧ slots + 6 ≤ room_1.slots) (hi : i + 4 ≤ sL) (hI : INV T cnt nx Ts zf Zs X Ln Q Sv) (hP : va_P D vwCl (bW cI cZ cF cL rx tt a tr r3 rs rz b b0 s0 r5 r6 ra pa pz er fr gr jr mr rf oq T cnt nx Ts zf Zs X Ln Q Sv fq pl U g1 g2 kn kw x1 x2 x3 x4 x5 kn2 kw2 y1 y2 y3 y4 y5 V5 d1 d2 dn dw z1 z2 z3 z4 z5 x6 V6 e1 e2 en ew v1 v2 v3 v4 v5 th9 pl9 hs9 vs9 dg9 xx9 h9 g9) H) (hD : va_D (AS s) (bW cI cZ cF cL rx tt a tr r3 rs rz b b0 s0 r5 r6 ra pa pz er fr gr jr mr rf oq T cnt nx Ts zf Zs X Ln Q Sv fq pl U g1 g2 kn kw x1 x2 x3 x4 x5 kn2 kw2 y1 y2 y3 y4 y5 V5 d1 d2 dn dw z1 z2 z3 z4 z5 x6 V6 e1 e2 en ew v1 v2 v3 v4 v5 th9 pl9 hs9 vs9 dg9 xx9 h9 g9)) (hS : va_S (AS s) s.heap H locs) (hl : lv_has ls 7 (lvs sb rx mr oq i)) : WL p l e s m sb below meth c H locs cells slots (F0 m 618 ls []) := by
  by_cases q1 : sx (i + 1) < 0
  · skip
    exact pa_order_1 C K hroom hi hI (hbad := q1) hP hD hS hl
  · skip
    obtain ⟨p0, hp, e1⟩ := ix_po q1
    exact pa_order_0 C K hroom hi hI (ea1 := e1) (hp := hp) hP hD hS hl
set_option maxHeartbeats 4000000 in
set_option maxRecDepth 100000 in
theorem ar_addHouse {T : Nat → Nat → Nat} {cnt nx : Nat} {Ts : Nat → Nat → Nat → Nat} {zf : Nat → Nat} {Zs : Nat → Nat → Nat → Nat} {X : Nat → Nat} {Ln : Nat} {Q Sv : Nat → Nat → Nat} {fq : Nat → Int64} {pl : Nat} {U : Nat → Nat → Nat} {g1 g2 : Nat → Nat} {kn kw : Int32} {x1 x2 x3 x4 x5 : Nat} {kn2 kw2 : Int32} {y1 y2 y3 y4 y5 : Nat} {V5 : Nat → Nat → Nat} {d1 d2 : Nat → Nat} {dn dw : Int32} {z1 z2 z3 z4 z5 : Nat} {x6 : Int64} {V6 : Nat → Nat → Nat} {e1 e2 : Nat → Nat} {en ew : Int32} {v1 v2 v3 v4 v5 th9 pl9 hs9 vs9 : Nat} {dg9 : Int32} {xx9 : Int64} {h9 g9 : Nat → Nat} (C : LC p l s m c sb sL sx D cI cZ cF cL) (K : LH p l e s m sb below meth c D cI cZ cF cL rx tt a tr r3 rs rz b b0 s0 r5 r6 ra pa pz er fr gr jr mr rf oq (i + 4) (cells + 1) (slots + 6)) (hroom : cells + 1 ≤ room_1.cells ∧ slots + 6 ≤ room_1.slots) (hi : i + 4 ≤ sL) (hI : INV T cnt nx Ts zf Zs X Ln Q Sv) (hP : va_P D vwCl (bW cI cZ cF cL rx tt a tr r3 rs rz b b0 s0 r5 r6 ra pa pz er fr gr jr mr rf oq T cnt nx Ts zf Zs X Ln Q Sv fq pl U g1 g2 kn kw x1 x2 x3 x4 x5 kn2 kw2 y1 y2 y3 y4 y5 V5 d1 d2 dn dw z1 z2 z3 z4 z5 x6 V6 e1 e2 en ew v1 v2 v3 v4 v5 th9 pl9 hs9 vs9 dg9 xx9 h9 g9) H) (hD : va_D (AS s) (bW cI cZ cF cL rx tt a tr r3 rs rz b b0 s0 r5 r6 ra pa pz er fr gr jr mr rf oq T cnt nx Ts zf Zs X Ln Q Sv fq pl U g1 g2 kn kw x1 x2 x3 x4 x5 kn2 kw2 y1 y2 y3 y4 y5 V5 d1 d2 dn dw z1 z2 z3 z4 z5 x6 V6 e1 e2 en ew v1 v2 v3 v4 v5 th9 pl9 hs9 vs9 dg9 xx9 h9 g9)) (hS : va_S (AS s) s.heap H locs) (hl : lv_has ls 7 (lvs sb rx mr oq i)) : WL p l e s m sb below meth c H locs cells slots (F0 m 674 ls []) := by
  by_cases q1 : nI 1 ≤ sx (i + 1) ∧ sx (i + 1) ≤ nI 4
  · skip
    obtain ⟨z, g1, g2, e1⟩ := ix_rg (by decide) (by decide) q1
    by_cases qq : T 0 0 < 6
    · skip
      exact pa_addHouse_0 C K hroom hi hI (ea1 := e1) (h1z := g1) (hz := g2) (hH6 := qq) hP hD hS hl
    · skip
      exact pa_addHouse_2 C K hroom hi hI (ea1 := e1) (h1z := g1) (hz := g2) (hH6 := (by have := hI.1.1.1; omega)) hP hD hS hl
  · skip
    exact pa_addHouse_1 C K hroom hi hI (hbad := ix_no q1) (hbad9 := q1) hP hD hS hl
set_option maxHeartbeats 4000000 in
set_option maxRecDepth 100000 in
theorem ar_addVegetable {T : Nat → Nat → Nat} {cnt nx : Nat} {Ts : Nat → Nat → Nat → Nat} {zf : Nat → Nat} {Zs : Nat → Nat → Nat → Nat} {X : Nat → Nat} {Ln : Nat} {Q Sv : Nat → Nat → Nat} {fq : Nat → Int64} {pl : Nat} {U : Nat → Nat → Nat} {g1 g2 : Nat → Nat} {kn kw : Int32} {x1 x2 x3 x4 x5 : Nat} {kn2 kw2 : Int32} {y1 y2 y3 y4 y5 : Nat} {V5 : Nat → Nat → Nat} {d1 d2 : Nat → Nat} {dn dw : Int32} {z1 z2 z3 z4 z5 : Nat} {x6 : Int64} {V6 : Nat → Nat → Nat} {e1 e2 : Nat → Nat} {en ew : Int32} {v1 v2 v3 v4 v5 th9 pl9 hs9 vs9 : Nat} {dg9 : Int32} {xx9 : Int64} {h9 g9 : Nat → Nat} (C : LC p l s m c sb sL sx D cI cZ cF cL) (K : LH p l e s m sb below meth c D cI cZ cF cL rx tt a tr r3 rs rz b b0 s0 r5 r6 ra pa pz er fr gr jr mr rf oq (i + 4) (cells + 1) (slots + 6)) (hroom : cells + 1 ≤ room_1.cells ∧ slots + 6 ≤ room_1.slots) (hi : i + 4 ≤ sL) (hI : INV T cnt nx Ts zf Zs X Ln Q Sv) (hP : va_P D vwCl (bW cI cZ cF cL rx tt a tr r3 rs rz b b0 s0 r5 r6 ra pa pz er fr gr jr mr rf oq T cnt nx Ts zf Zs X Ln Q Sv fq pl U g1 g2 kn kw x1 x2 x3 x4 x5 kn2 kw2 y1 y2 y3 y4 y5 V5 d1 d2 dn dw z1 z2 z3 z4 z5 x6 V6 e1 e2 en ew v1 v2 v3 v4 v5 th9 pl9 hs9 vs9 dg9 xx9 h9 g9) H) (hD : va_D (AS s) (bW cI cZ cF cL rx tt a tr r3 rs rz b b0 s0 r5 r6 ra pa pz er fr gr jr mr rf oq T cnt nx Ts zf Zs X Ln Q Sv fq pl U g1 g2 kn kw x1 x2 x3 x4 x5 kn2 kw2 y1 y2 y3 y4 y5 V5 d1 d2 dn dw z1 z2 z3 z4 z5 x6 V6 e1 e2 en ew v1 v2 v3 v4 v5 th9 pl9 hs9 vs9 dg9 xx9 h9 g9)) (hS : va_S (AS s) s.heap H locs) (hl : lv_has ls 7 (lvs sb rx mr oq i)) : WL p l e s m sb below meth c H locs cells slots (F0 m 730 ls []) := by
  by_cases q1 : nI 0 ≤ sx (i + 1) ∧ sx (i + 1) ≤ nI 40
  · skip
    obtain ⟨z, g1, g2, e1⟩ := ix_rg (by decide) (by decide) q1
    by_cases qq : T 0 1 < 5
    · skip
      exact pa_addVegetable_0 C K hroom hi hI (ea1 := e1) (hz := g2) (hV5 := qq) hP hD hS hl
    · skip
      exact pa_addVegetable_2 C K hroom hi hI (ea1 := e1) (hz := g2) (hV5 := (by have := hI.1.1.2; omega)) hP hD hS hl
  · skip
    exact pa_addVegetable_1 C K hroom hi hI (hbad := ix_no q1) (hbad9 := q1) hP hD hS hl
set_option maxHeartbeats 4000000 in
set_option maxRecDepth 100000 in
theorem ar_setHarvest {T : Nat → Nat → Nat} {cnt nx : Nat} {Ts : Nat → Nat → Nat → Nat} {zf : Nat → Nat} {Zs : Nat → Nat → Nat → Nat} {X : Nat → Nat} {Ln : Nat} {Q Sv : Nat → Nat → Nat} {fq : Nat → Int64} {pl : Nat} {U : Nat → Nat → Nat} {g1 g2 : Nat → Nat} {kn kw : Int32} {x1 x2 x3 x4 x5 : Nat} {kn2 kw2 : Int32} {y1 y2 y3 y4 y5 : Nat} {V5 : Nat → Nat → Nat} {d1 d2 : Nat → Nat} {dn dw : Int32} {z1 z2 z3 z4 z5 : Nat} {x6 : Int64} {V6 : Nat → Nat → Nat} {e1 e2 : Nat → Nat} {en ew : Int32} {v1 v2 v3 v4 v5 th9 pl9 hs9 vs9 : Nat} {dg9 : Int32} {xx9 : Int64} {h9 g9 : Nat → Nat} (C : LC p l s m c sb sL sx D cI cZ cF cL) (K : LH p l e s m sb below meth c D cI cZ cF cL rx tt a tr r3 rs rz b b0 s0 r5 r6 ra pa pz er fr gr jr mr rf oq (i + 4) (cells + 1) (slots + 6)) (hroom : cells + 1 ≤ room_1.cells ∧ slots + 6 ≤ room_1.slots) (hi : i + 4 ≤ sL) (hI : INV T cnt nx Ts zf Zs X Ln Q Sv) (hP : va_P D vwCl (bW cI cZ cF cL rx tt a tr r3 rs rz b b0 s0 r5 r6 ra pa pz er fr gr jr mr rf oq T cnt nx Ts zf Zs X Ln Q Sv fq pl U g1 g2 kn kw x1 x2 x3 x4 x5 kn2 kw2 y1 y2 y3 y4 y5 V5 d1 d2 dn dw z1 z2 z3 z4 z5 x6 V6 e1 e2 en ew v1 v2 v3 v4 v5 th9 pl9 hs9 vs9 dg9 xx9 h9 g9) H) (hD : va_D (AS s) (bW cI cZ cF cL rx tt a tr r3 rs rz b b0 s0 r5 r6 ra pa pz er fr gr jr mr rf oq T cnt nx Ts zf Zs X Ln Q Sv fq pl U g1 g2 kn kw x1 x2 x3 x4 x5 kn2 kw2 y1 y2 y3 y4 y5 V5 d1 d2 dn dw z1 z2 z3 z4 z5 x6 V6 e1 e2 en ew v1 v2 v3 v4 v5 th9 pl9 hs9 vs9 dg9 xx9 h9 g9)) (hS : va_S (AS s) s.heap H locs) (hl : lv_has ls 7 (lvs sb rx mr oq i)) : WL p l e s m sb below meth c H locs cells slots (F0 m 786 ls []) := by
  by_cases q1 : 0 ≤ sx (i + 1) ∧ sx (i + 1) < nI (T 0 1)
  · skip
    obtain ⟨v, hv, e1⟩ := ix_lt (by have := hI.1.1.2; omega) q1
    by_cases q2 : nI 0 ≤ sx (i + 2) ∧ sx (i + 2) ≤ nI 40
    · skip
      obtain ⟨n, g1, g2, e2⟩ := ix_rg (by decide) (by decide) q2
      exact pa_setHarvest_0 C K hroom hi hI (ea1 := e1) (ea2 := e2) (hv := hv) (hn40 := g2) hP hD hS hl
    · skip
      exact pa_setHarvest_2 C K hroom hi hI (ea1 := e1) (hv := hv) (hbad := ix_no q2) (hbad9 := q2) hP hD hS hl
  · skip
    exact pa_setHarvest_1 C K hroom hi hI (hbad := q1) hP hD hS hl
set_option maxHeartbeats 4000000 in
set_option maxRecDepth 100000 in
theorem ar_setLiking {T : Nat → Nat → Nat} {cnt nx : Nat} {Ts : Nat → Nat → Nat → Nat} {zf : Nat → Nat} {Zs : Nat → Nat → Nat → Nat} {X : Nat → Nat} {Ln : Nat} {Q Sv : Nat → Nat → Nat} {fq : Nat → Int64} {pl : Nat} {U : Nat → Nat → Nat} {g1 g2 : Nat → Nat} {kn kw : Int32} {x1 x2 x3 x4 x5 : Nat} {kn2 kw2 : Int32} {y1 y2 y3 y4 y5 : Nat} {V5 : Nat → Nat → Nat} {d1 d2 : Nat → Nat} {dn dw : Int32} {z1 z2 z3 z4 z5 : Nat} {x6 : Int64} {V6 : Nat → Nat → Nat} {e1 e2 : Nat → Nat} {en ew : Int32} {v1 v2 v3 v4 v5 th9 pl9 hs9 vs9 : Nat} {dg9 : Int32} {xx9 : Int64} {h9 g9 : Nat → Nat} (C : LC p l s m c sb sL sx D cI cZ cF cL) (K : LH p l e s m sb below meth c D cI cZ cF cL rx tt a tr r3 rs rz b b0 s0 r5 r6 ra pa pz er fr gr jr mr rf oq (i + 4) (cells + 1) (slots + 6)) (hroom : cells + 1 ≤ room_1.cells ∧ slots + 6 ≤ room_1.slots) (hi : i + 4 ≤ sL) (hI : INV T cnt nx Ts zf Zs X Ln Q Sv) (hP : va_P D vwCl (bW cI cZ cF cL rx tt a tr r3 rs rz b b0 s0 r5 r6 ra pa pz er fr gr jr mr rf oq T cnt nx Ts zf Zs X Ln Q Sv fq pl U g1 g2 kn kw x1 x2 x3 x4 x5 kn2 kw2 y1 y2 y3 y4 y5 V5 d1 d2 dn dw z1 z2 z3 z4 z5 x6 V6 e1 e2 en ew v1 v2 v3 v4 v5 th9 pl9 hs9 vs9 dg9 xx9 h9 g9) H) (hD : va_D (AS s) (bW cI cZ cF cL rx tt a tr r3 rs rz b b0 s0 r5 r6 ra pa pz er fr gr jr mr rf oq T cnt nx Ts zf Zs X Ln Q Sv fq pl U g1 g2 kn kw x1 x2 x3 x4 x5 kn2 kw2 y1 y2 y3 y4 y5 V5 d1 d2 dn dw z1 z2 z3 z4 z5 x6 V6 e1 e2 en ew v1 v2 v3 v4 v5 th9 pl9 hs9 vs9 dg9 xx9 h9 g9)) (hS : va_S (AS s) s.heap H locs) (hl : lv_has ls 7 (lvs sb rx mr oq i)) : WL p l e s m sb below meth c H locs cells slots (F0 m 854 ls []) := by
  by_cases q1 : 0 ≤ sx (i + 1) ∧ sx (i + 1) < nI (T 0 0)
  · skip
    obtain ⟨h, hh, e1⟩ := ix_lt (by have := hI.1.1.1; omega) q1
    by_cases q2 : 0 ≤ sx (i + 2) ∧ sx (i + 2) < nI (T 0 1)
    · skip
      obtain ⟨v, hv, e2⟩ := ix_lt (by have := hI.1.1.2; omega) q2
      by_cases q3 : nI 0 ≤ sx (i + 3) ∧ sx (i + 3) ≤ nI 9
      · skip
        obtain ⟨n, g1, g2, e3⟩ := ix_rg (by decide) (by decide) q3
        exact pa_setLiking_0 C K hroom hi hI (ea1 := e1) (ea2 := e2) (ea3 := e3) (hh := hh) (hv := hv) (hn9 := g2) hP hD hS hl
      · skip
        exact pa_setLiking_3 C K hroom hi hI (ea1 := e1) (ea2 := e2) (hh := hh) (hv := hv) (hbad := ix_no q3) (hbad9 := q3) hP hD hS hl
    · skip
      exact pa_setLiking_2 C K hroom hi hI (ea1 := e1) (hh := hh) (hbad := q2) hP hD hS hl
  · skip
    exact pa_setLiking_1 C K hroom hi hI (hbad := q1) hP hD hS hl
set_option maxHeartbeats 4000000 in
set_option maxRecDepth 100000 in
theorem ar_skip {T : Nat → Nat → Nat} {cnt nx : Nat} {Ts : Nat → Nat → Nat → Nat} {zf : Nat → Nat} {Zs : Nat → Nat → Nat → Nat} {X : Nat → Nat} {Ln : Nat} {Q Sv : Nat → Nat → Nat} {fq : Nat → Int64} {pl : Nat} {U : Nat → Nat → Nat} {g1 g2 : Nat → Nat} {kn kw : Int32} {x1 x2 x3 x4 x5 : Nat} {kn2 kw2 : Int32} {y1 y2 y3 y4 y5 : Nat} {V5 : Nat → Nat → Nat} {d1 d2 : Nat → Nat} {dn dw : Int32} {z1 z2 z3 z4 z5 : Nat} {x6 : Int64} {V6 : Nat → Nat → Nat} {e1 e2 : Nat → Nat} {en ew : Int32} {v1 v2 v3 v4 v5 th9 pl9 hs9 vs9 : Nat} {dg9 : Int32} {xx9 : Int64} {h9 g9 : Nat → Nat} (C : LC p l s m c sb sL sx D cI cZ cF cL) (K : LH p l e s m sb below meth c D cI cZ cF cL rx tt a tr r3 rs rz b b0 s0 r5 r6 ra pa pz er fr gr jr mr rf oq (i + 4) (cells + 1) (slots + 6)) (hroom : cells + 1 ≤ room_1.cells ∧ slots + 6 ≤ room_1.slots) (hi : i + 4 ≤ sL) (hI : INV T cnt nx Ts zf Zs X Ln Q Sv) (hP : va_P D vwCl (bW cI cZ cF cL rx tt a tr r3 rs rz b b0 s0 r5 r6 ra pa pz er fr gr jr mr rf oq T cnt nx Ts zf Zs X Ln Q Sv fq pl U g1 g2 kn kw x1 x2 x3 x4 x5 kn2 kw2 y1 y2 y3 y4 y5 V5 d1 d2 dn dw z1 z2 z3 z4 z5 x6 V6 e1 e2 en ew v1 v2 v3 v4 v5 th9 pl9 hs9 vs9 dg9 xx9 h9 g9) H) (hD : va_D (AS s) (bW cI cZ cF cL rx tt a tr r3 rs rz b b0 s0 r5 r6 ra pa pz er fr gr jr mr rf oq T cnt nx Ts zf Zs X Ln Q Sv fq pl U g1 g2 kn kw x1 x2 x3 x4 x5 kn2 kw2 y1 y2 y3 y4 y5 V5 d1 d2 dn dw z1 z2 z3 z4 z5 x6 V6 e1 e2 en ew v1 v2 v3 v4 v5 th9 pl9 hs9 vs9 dg9 xx9 h9 g9)) (hS : va_S (AS s) s.heap H locs) (hl : lv_has ls 7 (lvs sb rx mr oq i)) : WL p l e s m sb below meth c H locs cells slots (F0 m 934 ls []) := by
  by_cases q1 : 0 ≤ sx (i + 1) ∧ sx (i + 1) < nI (T 0 0)
  · skip
    obtain ⟨h, hh, e1⟩ := ix_lt (by have := hI.1.1.1; omega) q1
    exact pa_skip_0 C K hroom hi hI (ea1 := e1) (hh := hh) (hz := (by split <;> omega)) hP hD hS hl
  · skip
    exact pa_skip_1 C K hroom hi hI (hbad := q1) hP hD hS hl
set_option maxHeartbeats 4000000 in
set_option maxRecDepth 100000 in
theorem ar_pack {T : Nat → Nat → Nat} {cnt nx : Nat} {Ts : Nat → Nat → Nat → Nat} {zf : Nat → Nat} {Zs : Nat → Nat → Nat → Nat} {X : Nat → Nat} {Ln : Nat} {Q Sv : Nat → Nat → Nat} {fq : Nat → Int64} {pl : Nat} {U : Nat → Nat → Nat} {g1 g2 : Nat → Nat} {kn kw : Int32} {x1 x2 x3 x4 x5 : Nat} {kn2 kw2 : Int32} {y1 y2 y3 y4 y5 : Nat} {V5 : Nat → Nat → Nat} {d1 d2 : Nat → Nat} {dn dw : Int32} {z1 z2 z3 z4 z5 : Nat} {x6 : Int64} {V6 : Nat → Nat → Nat} {e1 e2 : Nat → Nat} {en ew : Int32} {v1 v2 v3 v4 v5 th9 pl9 hs9 vs9 : Nat} {dg9 : Int32} {xx9 : Int64} {h9 g9 : Nat → Nat} (C : LC p l s m c sb sL sx D cI cZ cF cL) (K : LH p l e s m sb below meth c D cI cZ cF cL rx tt a tr r3 rs rz b b0 s0 r5 r6 ra pa pz er fr gr jr mr rf oq (i + 4) (cells + 1) (slots + 6)) (hroom : cells + 1 ≤ room_1.cells ∧ slots + 6 ≤ room_1.slots) (hi : i + 4 ≤ sL) (hI : INV T cnt nx Ts zf Zs X Ln Q Sv) (hP : va_P D vwCl (bW cI cZ cF cL rx tt a tr r3 rs rz b b0 s0 r5 r6 ra pa pz er fr gr jr mr rf oq T cnt nx Ts zf Zs X Ln Q Sv fq pl U g1 g2 kn kw x1 x2 x3 x4 x5 kn2 kw2 y1 y2 y3 y4 y5 V5 d1 d2 dn dw z1 z2 z3 z4 z5 x6 V6 e1 e2 en ew v1 v2 v3 v4 v5 th9 pl9 hs9 vs9 dg9 xx9 h9 g9) H) (hD : va_D (AS s) (bW cI cZ cF cL rx tt a tr r3 rs rz b b0 s0 r5 r6 ra pa pz er fr gr jr mr rf oq T cnt nx Ts zf Zs X Ln Q Sv fq pl U g1 g2 kn kw x1 x2 x3 x4 x5 kn2 kw2 y1 y2 y3 y4 y5 V5 d1 d2 dn dw z1 z2 z3 z4 z5 x6 V6 e1 e2 en ew v1 v2 v3 v4 v5 th9 pl9 hs9 vs9 dg9 xx9 h9 g9)) (hS : va_S (AS s) s.heap H locs) (hl : lv_has ls 7 (lvs sb rx mr oq i)) : WL p l e s m sb below meth c H locs cells slots (F0 m 1018 ls []) := by
  exact pa_pack C K hroom hi hI hP hD hS hl
set_option maxHeartbeats 4000000 in
set_option maxRecDepth 100000 in
theorem ar_returnCrates {T : Nat → Nat → Nat} {cnt nx : Nat} {Ts : Nat → Nat → Nat → Nat} {zf : Nat → Nat} {Zs : Nat → Nat → Nat → Nat} {X : Nat → Nat} {Ln : Nat} {Q Sv : Nat → Nat → Nat} {fq : Nat → Int64} {pl : Nat} {U : Nat → Nat → Nat} {g1 g2 : Nat → Nat} {kn kw : Int32} {x1 x2 x3 x4 x5 : Nat} {kn2 kw2 : Int32} {y1 y2 y3 y4 y5 : Nat} {V5 : Nat → Nat → Nat} {d1 d2 : Nat → Nat} {dn dw : Int32} {z1 z2 z3 z4 z5 : Nat} {x6 : Int64} {V6 : Nat → Nat → Nat} {e1 e2 : Nat → Nat} {en ew : Int32} {v1 v2 v3 v4 v5 th9 pl9 hs9 vs9 : Nat} {dg9 : Int32} {xx9 : Int64} {h9 g9 : Nat → Nat} (C : LC p l s m c sb sL sx D cI cZ cF cL) (K : LH p l e s m sb below meth c D cI cZ cF cL rx tt a tr r3 rs rz b b0 s0 r5 r6 ra pa pz er fr gr jr mr rf oq (i + 4) (cells + 1) (slots + 6)) (hroom : cells + 1 ≤ room_1.cells ∧ slots + 6 ≤ room_1.slots) (hi : i + 4 ≤ sL) (hI : INV T cnt nx Ts zf Zs X Ln Q Sv) (hP : va_P D vwCl (bW cI cZ cF cL rx tt a tr r3 rs rz b b0 s0 r5 r6 ra pa pz er fr gr jr mr rf oq T cnt nx Ts zf Zs X Ln Q Sv fq pl U g1 g2 kn kw x1 x2 x3 x4 x5 kn2 kw2 y1 y2 y3 y4 y5 V5 d1 d2 dn dw z1 z2 z3 z4 z5 x6 V6 e1 e2 en ew v1 v2 v3 v4 v5 th9 pl9 hs9 vs9 dg9 xx9 h9 g9) H) (hD : va_D (AS s) (bW cI cZ cF cL rx tt a tr r3 rs rz b b0 s0 r5 r6 ra pa pz er fr gr jr mr rf oq T cnt nx Ts zf Zs X Ln Q Sv fq pl U g1 g2 kn kw x1 x2 x3 x4 x5 kn2 kw2 y1 y2 y3 y4 y5 V5 d1 d2 dn dw z1 z2 z3 z4 z5 x6 V6 e1 e2 en ew v1 v2 v3 v4 v5 th9 pl9 hs9 vs9 dg9 xx9 h9 g9)) (hS : va_S (AS s) s.heap H locs) (hl : lv_has ls 7 (lvs sb rx mr oq i)) : WL p l e s m sb below meth c H locs cells slots (F0 m 1031 ls []) := by
  by_cases q1 : 0 ≤ sx (i + 1) ∧ sx (i + 1) < nI (T 0 0)
  · skip
    obtain ⟨h, hh, e1⟩ := ix_lt (by have := hI.1.1.1; omega) q1
    by_cases q2 : nI 1 ≤ sx (i + 2) ∧ sx (i + 2) ≤ nI 9
    · skip
      obtain ⟨n, g1, g2, e2⟩ := ix_rg (by decide) (by decide) q2
      by_cases qq : n ≤ T 2 h
      · skip
        exact pa_returnCrates_0 C K hroom hi hI (ea1 := e1) (ea2 := e2) (hh := hh) (h1n := g1) (hn9 := g2) (hle := qq) hP hD hS hl
      · skip
        exact pa_returnCrates_3 C K hroom hi hI (ea1 := e1) (ea2 := e2) (hh := hh) (h1n := g1) (hn9 := g2) (hle := (by omega)) hP hD hS hl
    · skip
      exact pa_returnCrates_2 C K hroom hi hI (ea1 := e1) (hh := hh) (hbad := ix_no q2) (hbad9 := q2) hP hD hS hl
  · skip
    exact pa_returnCrates_1 C K hroom hi hI (hbad := q1) hP hD hS hl
set_option maxHeartbeats 4000000 in
set_option maxRecDepth 100000 in
theorem ar_give {T : Nat → Nat → Nat} {cnt nx : Nat} {Ts : Nat → Nat → Nat → Nat} {zf : Nat → Nat} {Zs : Nat → Nat → Nat → Nat} {X : Nat → Nat} {Ln : Nat} {Q Sv : Nat → Nat → Nat} {fq : Nat → Int64} {pl : Nat} {U : Nat → Nat → Nat} {g1 g2 : Nat → Nat} {kn kw : Int32} {x1 x2 x3 x4 x5 : Nat} {kn2 kw2 : Int32} {y1 y2 y3 y4 y5 : Nat} {V5 : Nat → Nat → Nat} {d1 d2 : Nat → Nat} {dn dw : Int32} {z1 z2 z3 z4 z5 : Nat} {x6 : Int64} {V6 : Nat → Nat → Nat} {e1 e2 : Nat → Nat} {en ew : Int32} {v1 v2 v3 v4 v5 th9 pl9 hs9 vs9 : Nat} {dg9 : Int32} {xx9 : Int64} {h9 g9 : Nat → Nat} (C : LC p l s m c sb sL sx D cI cZ cF cL) (K : LH p l e s m sb below meth c D cI cZ cF cL rx tt a tr r3 rs rz b b0 s0 r5 r6 ra pa pz er fr gr jr mr rf oq (i + 4) (cells + 1) (slots + 6)) (hroom : cells + 1 ≤ room_1.cells ∧ slots + 6 ≤ room_1.slots) (hi : i + 4 ≤ sL) (hI : INV T cnt nx Ts zf Zs X Ln Q Sv) (hP : va_P D vwCl (bW cI cZ cF cL rx tt a tr r3 rs rz b b0 s0 r5 r6 ra pa pz er fr gr jr mr rf oq T cnt nx Ts zf Zs X Ln Q Sv fq pl U g1 g2 kn kw x1 x2 x3 x4 x5 kn2 kw2 y1 y2 y3 y4 y5 V5 d1 d2 dn dw z1 z2 z3 z4 z5 x6 V6 e1 e2 en ew v1 v2 v3 v4 v5 th9 pl9 hs9 vs9 dg9 xx9 h9 g9) H) (hD : va_D (AS s) (bW cI cZ cF cL rx tt a tr r3 rs rz b b0 s0 r5 r6 ra pa pz er fr gr jr mr rf oq T cnt nx Ts zf Zs X Ln Q Sv fq pl U g1 g2 kn kw x1 x2 x3 x4 x5 kn2 kw2 y1 y2 y3 y4 y5 V5 d1 d2 dn dw z1 z2 z3 z4 z5 x6 V6 e1 e2 en ew v1 v2 v3 v4 v5 th9 pl9 hs9 vs9 dg9 xx9 h9 g9)) (hS : va_S (AS s) s.heap H locs) (hl : lv_has ls 7 (lvs sb rx mr oq i)) : WL p l e s m sb below meth c H locs cells slots (F0 m 1099 ls []) := by
  by_cases q1 : 0 ≤ sx (i + 1) ∧ sx (i + 1) < nI (T 0 0)
  · skip
    obtain ⟨h, hh, e1⟩ := ix_lt (by have := hI.1.1.1; omega) q1
    by_cases q2 : 0 ≤ sx (i + 2) ∧ sx (i + 2) < nI (T 0 1)
    · skip
      obtain ⟨v, hv, e2⟩ := ix_lt (by have := hI.1.1.2; omega) q2
      by_cases q3 : nI 1 ≤ sx (i + 3) ∧ sx (i + 3) ≤ nI 40
      · skip
        obtain ⟨n, g1, g2, e3⟩ := ix_rg (by decide) (by decide) q3
        by_cases qq : n ≤ T 8 (h * 5 + v)
        · skip
          exact pa_give_0 C K hroom hi hI (ea1 := e1) (ea2 := e2) (ea3 := e3) (hh := hh) (hv := hv) (h1n := g1) (hn40 := g2) (hle := qq) hP hD hS hl
        · skip
          exact pa_give_4 C K hroom hi hI (ea1 := e1) (ea2 := e2) (ea3 := e3) (hh := hh) (hv := hv) (h1n := g1) (hn40 := g2) (hle := (by omega)) hP hD hS hl
      · skip
        exact pa_give_3 C K hroom hi hI (ea1 := e1) (ea2 := e2) (hh := hh) (hv := hv) (hbad := ix_no q3) (hbad9 := q3) hP hD hS hl
    · skip
      exact pa_give_2 C K hroom hi hI (ea1 := e1) (hh := hh) (hbad := q2) hP hD hS hl
  · skip
    exact pa_give_1 C K hroom hi hI (hbad := q1) hP hD hS hl
set_option maxHeartbeats 4000000 in
set_option maxRecDepth 100000 in
theorem ar_undo {T : Nat → Nat → Nat} {cnt nx : Nat} {Ts : Nat → Nat → Nat → Nat} {zf : Nat → Nat} {Zs : Nat → Nat → Nat → Nat} {X : Nat → Nat} {Ln : Nat} {Q Sv : Nat → Nat → Nat} {fq : Nat → Int64} {pl : Nat} {U : Nat → Nat → Nat} {g1 g2 : Nat → Nat} {kn kw : Int32} {x1 x2 x3 x4 x5 : Nat} {kn2 kw2 : Int32} {y1 y2 y3 y4 y5 : Nat} {V5 : Nat → Nat → Nat} {d1 d2 : Nat → Nat} {dn dw : Int32} {z1 z2 z3 z4 z5 : Nat} {x6 : Int64} {V6 : Nat → Nat → Nat} {e1 e2 : Nat → Nat} {en ew : Int32} {v1 v2 v3 v4 v5 th9 pl9 hs9 vs9 : Nat} {dg9 : Int32} {xx9 : Int64} {h9 g9 : Nat → Nat} (C : LC p l s m c sb sL sx D cI cZ cF cL) (K : LH p l e s m sb below meth c D cI cZ cF cL rx tt a tr r3 rs rz b b0 s0 r5 r6 ra pa pz er fr gr jr mr rf oq (i + 4) (cells + 1) (slots + 6)) (hroom : cells + 1 ≤ room_1.cells ∧ slots + 6 ≤ room_1.slots) (hi : i + 4 ≤ sL) (hI : INV T cnt nx Ts zf Zs X Ln Q Sv) (hP : va_P D vwCl (bW cI cZ cF cL rx tt a tr r3 rs rz b b0 s0 r5 r6 ra pa pz er fr gr jr mr rf oq T cnt nx Ts zf Zs X Ln Q Sv fq pl U g1 g2 kn kw x1 x2 x3 x4 x5 kn2 kw2 y1 y2 y3 y4 y5 V5 d1 d2 dn dw z1 z2 z3 z4 z5 x6 V6 e1 e2 en ew v1 v2 v3 v4 v5 th9 pl9 hs9 vs9 dg9 xx9 h9 g9) H) (hD : va_D (AS s) (bW cI cZ cF cL rx tt a tr r3 rs rz b b0 s0 r5 r6 ra pa pz er fr gr jr mr rf oq T cnt nx Ts zf Zs X Ln Q Sv fq pl U g1 g2 kn kw x1 x2 x3 x4 x5 kn2 kw2 y1 y2 y3 y4 y5 V5 d1 d2 dn dw z1 z2 z3 z4 z5 x6 V6 e1 e2 en ew v1 v2 v3 v4 v5 th9 pl9 hs9 vs9 dg9 xx9 h9 g9)) (hS : va_S (AS s) s.heap H locs) (hl : lv_has ls 7 (lvs sb rx mr oq i)) : WL p l e s m sb below meth c H locs cells slots (F0 m 1179 ls []) := by
  by_cases qq : 0 < cnt
  · skip
    exact pa_undo_0 C K hroom hi hI (hc0 := qq) (hs0 := qq) hP hD hS hl
  · skip
    exact pa_undo_1 C K hroom hi hI (hz0 := (by omega)) hP hD hS hl
set_option maxHeartbeats 4000000 in
set_option maxRecDepth 100000 in
theorem ar_wouldGet {T : Nat → Nat → Nat} {cnt nx : Nat} {Ts : Nat → Nat → Nat → Nat} {zf : Nat → Nat} {Zs : Nat → Nat → Nat → Nat} {X : Nat → Nat} {Ln : Nat} {Q Sv : Nat → Nat → Nat} {fq : Nat → Int64} {pl : Nat} {U : Nat → Nat → Nat} {g1 g2 : Nat → Nat} {kn kw : Int32} {x1 x2 x3 x4 x5 : Nat} {kn2 kw2 : Int32} {y1 y2 y3 y4 y5 : Nat} {V5 : Nat → Nat → Nat} {d1 d2 : Nat → Nat} {dn dw : Int32} {z1 z2 z3 z4 z5 : Nat} {x6 : Int64} {V6 : Nat → Nat → Nat} {e1 e2 : Nat → Nat} {en ew : Int32} {v1 v2 v3 v4 v5 th9 pl9 hs9 vs9 : Nat} {dg9 : Int32} {xx9 : Int64} {h9 g9 : Nat → Nat} (C : LC p l s m c sb sL sx D cI cZ cF cL) (K : LH p l e s m sb below meth c D cI cZ cF cL rx tt a tr r3 rs rz b b0 s0 r5 r6 ra pa pz er fr gr jr mr rf oq (i + 4) (cells + 1) (slots + 6)) (hroom : cells + 1 ≤ room_1.cells ∧ slots + 6 ≤ room_1.slots) (hi : i + 4 ≤ sL) (hI : INV T cnt nx Ts zf Zs X Ln Q Sv) (hP : va_P D vwCl (bW cI cZ cF cL rx tt a tr r3 rs rz b b0 s0 r5 r6 ra pa pz er fr gr jr mr rf oq T cnt nx Ts zf Zs X Ln Q Sv fq pl U g1 g2 kn kw x1 x2 x3 x4 x5 kn2 kw2 y1 y2 y3 y4 y5 V5 d1 d2 dn dw z1 z2 z3 z4 z5 x6 V6 e1 e2 en ew v1 v2 v3 v4 v5 th9 pl9 hs9 vs9 dg9 xx9 h9 g9) H) (hD : va_D (AS s) (bW cI cZ cF cL rx tt a tr r3 rs rz b b0 s0 r5 r6 ra pa pz er fr gr jr mr rf oq T cnt nx Ts zf Zs X Ln Q Sv fq pl U g1 g2 kn kw x1 x2 x3 x4 x5 kn2 kw2 y1 y2 y3 y4 y5 V5 d1 d2 dn dw z1 z2 z3 z4 z5 x6 V6 e1 e2 en ew v1 v2 v3 v4 v5 th9 pl9 hs9 vs9 dg9 xx9 h9 g9)) (hS : va_S (AS s) s.heap H locs) (hl : lv_has ls 7 (lvs sb rx mr oq i)) : WL p l e s m sb below meth c H locs cells slots (F0 m 1223 ls []) := by
  by_cases q1 : 0 ≤ sx (i + 1) ∧ sx (i + 1) < nI (T 0 0)
  · skip
    obtain ⟨h, hh, e1⟩ := ix_lt (by have := hI.1.1.1; omega) q1
    by_cases q2 : 0 ≤ sx (i + 2) ∧ sx (i + 2) < nI (T 0 1)
    · skip
      obtain ⟨v, hv, e2⟩ := ix_lt (by have := hI.1.1.2; omega) q2
      exact pa_wouldGet_0 C K hroom hi hI (ea1 := e1) (ea2 := e2) (hh := hh) (hv := hv) hP hD hS hl
    · skip
      exact pa_wouldGet_2 C K hroom hi hI (ea1 := e1) (hh := hh) (hbad := q2) hP hD hS hl
  · skip
    exact pa_wouldGet_1 C K hroom hi hI (hbad := q1) hP hD hS hl
set_option maxHeartbeats 4000000 in
set_option maxRecDepth 100000 in
theorem ar_wouldBe {T : Nat → Nat → Nat} {cnt nx : Nat} {Ts : Nat → Nat → Nat → Nat} {zf : Nat → Nat} {Zs : Nat → Nat → Nat → Nat} {X : Nat → Nat} {Ln : Nat} {Q Sv : Nat → Nat → Nat} {fq : Nat → Int64} {pl : Nat} {U : Nat → Nat → Nat} {g1 g2 : Nat → Nat} {kn kw : Int32} {x1 x2 x3 x4 x5 : Nat} {kn2 kw2 : Int32} {y1 y2 y3 y4 y5 : Nat} {V5 : Nat → Nat → Nat} {d1 d2 : Nat → Nat} {dn dw : Int32} {z1 z2 z3 z4 z5 : Nat} {x6 : Int64} {V6 : Nat → Nat → Nat} {e1 e2 : Nat → Nat} {en ew : Int32} {v1 v2 v3 v4 v5 th9 pl9 hs9 vs9 : Nat} {dg9 : Int32} {xx9 : Int64} {h9 g9 : Nat → Nat} (C : LC p l s m c sb sL sx D cI cZ cF cL) (K : LH p l e s m sb below meth c D cI cZ cF cL rx tt a tr r3 rs rz b b0 s0 r5 r6 ra pa pz er fr gr jr mr rf oq (i + 4) (cells + 1) (slots + 6)) (hroom : cells + 1 ≤ room_1.cells ∧ slots + 6 ≤ room_1.slots) (hi : i + 4 ≤ sL) (hI : INV T cnt nx Ts zf Zs X Ln Q Sv) (hP : va_P D vwCl (bW cI cZ cF cL rx tt a tr r3 rs rz b b0 s0 r5 r6 ra pa pz er fr gr jr mr rf oq T cnt nx Ts zf Zs X Ln Q Sv fq pl U g1 g2 kn kw x1 x2 x3 x4 x5 kn2 kw2 y1 y2 y3 y4 y5 V5 d1 d2 dn dw z1 z2 z3 z4 z5 x6 V6 e1 e2 en ew v1 v2 v3 v4 v5 th9 pl9 hs9 vs9 dg9 xx9 h9 g9) H) (hD : va_D (AS s) (bW cI cZ cF cL rx tt a tr r3 rs rz b b0 s0 r5 r6 ra pa pz er fr gr jr mr rf oq T cnt nx Ts zf Zs X Ln Q Sv fq pl U g1 g2 kn kw x1 x2 x3 x4 x5 kn2 kw2 y1 y2 y3 y4 y5 V5 d1 d2 dn dw z1 z2 z3 z4 z5 x6 V6 e1 e2 en ew v1 v2 v3 v4 v5 th9 pl9 hs9 vs9 dg9 xx9 h9 g9)) (hS : va_S (AS s) s.heap H locs) (hl : lv_has ls 7 (lvs sb rx mr oq i)) : WL p l e s m sb below meth c H locs cells slots (F0 m 1291 ls []) := by
  by_cases q1 : 0 ≤ sx (i + 1) ∧ sx (i + 1) < nI (T 0 0)
  · skip
    obtain ⟨h, hh, e1⟩ := ix_lt (by have := hI.1.1.1; omega) q1
    exact pa_wouldBe_0 C K hroom hi hI (ea1 := e1) (hh := hh) hP hD hS hl
  · skip
    exact pa_wouldBe_1 C K hroom hi hI (hbad := q1) hP hD hS hl
set_option maxHeartbeats 4000000 in
set_option maxRecDepth 100000 in
theorem ar_bestSkip {T : Nat → Nat → Nat} {cnt nx : Nat} {Ts : Nat → Nat → Nat → Nat} {zf : Nat → Nat} {Zs : Nat → Nat → Nat → Nat} {X : Nat → Nat} {Ln : Nat} {Q Sv : Nat → Nat → Nat} {fq : Nat → Int64} {pl : Nat} {U : Nat → Nat → Nat} {g1 g2 : Nat → Nat} {kn kw : Int32} {x1 x2 x3 x4 x5 : Nat} {kn2 kw2 : Int32} {y1 y2 y3 y4 y5 : Nat} {V5 : Nat → Nat → Nat} {d1 d2 : Nat → Nat} {dn dw : Int32} {z1 z2 z3 z4 z5 : Nat} {x6 : Int64} {V6 : Nat → Nat → Nat} {e1 e2 : Nat → Nat} {en ew : Int32} {v1 v2 v3 v4 v5 th9 pl9 hs9 vs9 : Nat} {dg9 : Int32} {xx9 : Int64} {h9 g9 : Nat → Nat} (C : LC p l s m c sb sL sx D cI cZ cF cL) (K : LH p l e s m sb below meth c D cI cZ cF cL rx tt a tr r3 rs rz b b0 s0 r5 r6 ra pa pz er fr gr jr mr rf oq (i + 4) (cells + 1) (slots + 6)) (hroom : cells + 1 ≤ room_1.cells ∧ slots + 6 ≤ room_1.slots) (hi : i + 4 ≤ sL) (hI : INV T cnt nx Ts zf Zs X Ln Q Sv) (hP : va_P D vwCl (bW cI cZ cF cL rx tt a tr r3 rs rz b b0 s0 r5 r6 ra pa pz er fr gr jr mr rf oq T cnt nx Ts zf Zs X Ln Q Sv fq pl U g1 g2 kn kw x1 x2 x3 x4 x5 kn2 kw2 y1 y2 y3 y4 y5 V5 d1 d2 dn dw z1 z2 z3 z4 z5 x6 V6 e1 e2 en ew v1 v2 v3 v4 v5 th9 pl9 hs9 vs9 dg9 xx9 h9 g9) H) (hD : va_D (AS s) (bW cI cZ cF cL rx tt a tr r3 rs rz b b0 s0 r5 r6 ra pa pz er fr gr jr mr rf oq T cnt nx Ts zf Zs X Ln Q Sv fq pl U g1 g2 kn kw x1 x2 x3 x4 x5 kn2 kw2 y1 y2 y3 y4 y5 V5 d1 d2 dn dw z1 z2 z3 z4 z5 x6 V6 e1 e2 en ew v1 v2 v3 v4 v5 th9 pl9 hs9 vs9 dg9 xx9 h9 g9)) (hS : va_S (AS s) s.heap H locs) (hl : lv_has ls 7 (lvs sb rx mr oq i)) : WL p l e s m sb below meth c H locs cells slots (F0 m 1347 ls []) := by
  exact pa_bestSkip C K hroom hi hI hP hD hS hl
set_option maxHeartbeats 4000000 in
set_option maxRecDepth 100000 in
theorem ar_bestMore {T : Nat → Nat → Nat} {cnt nx : Nat} {Ts : Nat → Nat → Nat → Nat} {zf : Nat → Nat} {Zs : Nat → Nat → Nat → Nat} {X : Nat → Nat} {Ln : Nat} {Q Sv : Nat → Nat → Nat} {fq : Nat → Int64} {pl : Nat} {U : Nat → Nat → Nat} {g1 g2 : Nat → Nat} {kn kw : Int32} {x1 x2 x3 x4 x5 : Nat} {kn2 kw2 : Int32} {y1 y2 y3 y4 y5 : Nat} {V5 : Nat → Nat → Nat} {d1 d2 : Nat → Nat} {dn dw : Int32} {z1 z2 z3 z4 z5 : Nat} {x6 : Int64} {V6 : Nat → Nat → Nat} {e1 e2 : Nat → Nat} {en ew : Int32} {v1 v2 v3 v4 v5 th9 pl9 hs9 vs9 : Nat} {dg9 : Int32} {xx9 : Int64} {h9 g9 : Nat → Nat} (C : LC p l s m c sb sL sx D cI cZ cF cL) (K : LH p l e s m sb below meth c D cI cZ cF cL rx tt a tr r3 rs rz b b0 s0 r5 r6 ra pa pz er fr gr jr mr rf oq (i + 4) (cells + 1) (slots + 6)) (hroom : cells + 1 ≤ room_1.cells ∧ slots + 6 ≤ room_1.slots) (hi : i + 4 ≤ sL) (hI : INV T cnt nx Ts zf Zs X Ln Q Sv) (hP : va_P D vwCl (bW cI cZ cF cL rx tt a tr r3 rs rz b b0 s0 r5 r6 ra pa pz er fr gr jr mr rf oq T cnt nx Ts zf Zs X Ln Q Sv fq pl U g1 g2 kn kw x1 x2 x3 x4 x5 kn2 kw2 y1 y2 y3 y4 y5 V5 d1 d2 dn dw z1 z2 z3 z4 z5 x6 V6 e1 e2 en ew v1 v2 v3 v4 v5 th9 pl9 hs9 vs9 dg9 xx9 h9 g9) H) (hD : va_D (AS s) (bW cI cZ cF cL rx tt a tr r3 rs rz b b0 s0 r5 r6 ra pa pz er fr gr jr mr rf oq T cnt nx Ts zf Zs X Ln Q Sv fq pl U g1 g2 kn kw x1 x2 x3 x4 x5 kn2 kw2 y1 y2 y3 y4 y5 V5 d1 d2 dn dw z1 z2 z3 z4 z5 x6 V6 e1 e2 en ew v1 v2 v3 v4 v5 th9 pl9 hs9 vs9 dg9 xx9 h9 g9)) (hS : va_S (AS s) s.heap H locs) (hl : lv_has ls 7 (lvs sb rx mr oq i)) : WL p l e s m sb below meth c H locs cells slots (F0 m 1360 ls []) := by
  exact pa_bestMore C K hroom hi hI hP hD hS hl
set_option maxHeartbeats 4000000 in
set_option maxRecDepth 100000 in
theorem ar_firstSwap {T : Nat → Nat → Nat} {cnt nx : Nat} {Ts : Nat → Nat → Nat → Nat} {zf : Nat → Nat} {Zs : Nat → Nat → Nat → Nat} {X : Nat → Nat} {Ln : Nat} {Q Sv : Nat → Nat → Nat} {fq : Nat → Int64} {pl : Nat} {U : Nat → Nat → Nat} {g1 g2 : Nat → Nat} {kn kw : Int32} {x1 x2 x3 x4 x5 : Nat} {kn2 kw2 : Int32} {y1 y2 y3 y4 y5 : Nat} {V5 : Nat → Nat → Nat} {d1 d2 : Nat → Nat} {dn dw : Int32} {z1 z2 z3 z4 z5 : Nat} {x6 : Int64} {V6 : Nat → Nat → Nat} {e1 e2 : Nat → Nat} {en ew : Int32} {v1 v2 v3 v4 v5 th9 pl9 hs9 vs9 : Nat} {dg9 : Int32} {xx9 : Int64} {h9 g9 : Nat → Nat} (C : LC p l s m c sb sL sx D cI cZ cF cL) (K : LH p l e s m sb below meth c D cI cZ cF cL rx tt a tr r3 rs rz b b0 s0 r5 r6 ra pa pz er fr gr jr mr rf oq (i + 4) (cells + 1) (slots + 6)) (hroom : cells + 1 ≤ room_1.cells ∧ slots + 6 ≤ room_1.slots) (hi : i + 4 ≤ sL) (hI : INV T cnt nx Ts zf Zs X Ln Q Sv) (hP : va_P D vwCl (bW cI cZ cF cL rx tt a tr r3 rs rz b b0 s0 r5 r6 ra pa pz er fr gr jr mr rf oq T cnt nx Ts zf Zs X Ln Q Sv fq pl U g1 g2 kn kw x1 x2 x3 x4 x5 kn2 kw2 y1 y2 y3 y4 y5 V5 d1 d2 dn dw z1 z2 z3 z4 z5 x6 V6 e1 e2 en ew v1 v2 v3 v4 v5 th9 pl9 hs9 vs9 dg9 xx9 h9 g9) H) (hD : va_D (AS s) (bW cI cZ cF cL rx tt a tr r3 rs rz b b0 s0 r5 r6 ra pa pz er fr gr jr mr rf oq T cnt nx Ts zf Zs X Ln Q Sv fq pl U g1 g2 kn kw x1 x2 x3 x4 x5 kn2 kw2 y1 y2 y3 y4 y5 V5 d1 d2 dn dw z1 z2 z3 z4 z5 x6 V6 e1 e2 en ew v1 v2 v3 v4 v5 th9 pl9 hs9 vs9 dg9 xx9 h9 g9)) (hS : va_S (AS s) s.heap H locs) (hl : lv_has ls 7 (lvs sb rx mr oq i)) : WL p l e s m sb below meth c H locs cells slots (F0 m 1373 ls []) := by
  exact pa_firstSwap C K hroom hi hI hP hD hS hl
set_option maxHeartbeats 4000000 in
set_option maxRecDepth 100000 in
theorem ar_runScript {T : Nat → Nat → Nat} {cnt nx : Nat} {Ts : Nat → Nat → Nat → Nat} {zf : Nat → Nat} {Zs : Nat → Nat → Nat → Nat} {X : Nat → Nat} {Ln : Nat} {Q Sv : Nat → Nat → Nat} {fq : Nat → Int64} {pl : Nat} {U : Nat → Nat → Nat} {g1 g2 : Nat → Nat} {kn kw : Int32} {x1 x2 x3 x4 x5 : Nat} {kn2 kw2 : Int32} {y1 y2 y3 y4 y5 : Nat} {V5 : Nat → Nat → Nat} {d1 d2 : Nat → Nat} {dn dw : Int32} {z1 z2 z3 z4 z5 : Nat} {x6 : Int64} {V6 : Nat → Nat → Nat} {e1 e2 : Nat → Nat} {en ew : Int32} {v1 v2 v3 v4 v5 th9 pl9 hs9 vs9 : Nat} {dg9 : Int32} {xx9 : Int64} {h9 g9 : Nat → Nat} (C : LC p l s m c sb sL sx D cI cZ cF cL) (K : LH p l e s m sb below meth c D cI cZ cF cL rx tt a tr r3 rs rz b b0 s0 r5 r6 ra pa pz er fr gr jr mr rf oq (i + 4) (cells + 1) (slots + 6)) (hroom : cells + 1 ≤ room_1.cells ∧ slots + 6 ≤ room_1.slots) (hi : i + 4 ≤ sL) (hI : INV T cnt nx Ts zf Zs X Ln Q Sv) (hP : va_P D vwCl (bW cI cZ cF cL rx tt a tr r3 rs rz b b0 s0 r5 r6 ra pa pz er fr gr jr mr rf oq T cnt nx Ts zf Zs X Ln Q Sv fq pl U g1 g2 kn kw x1 x2 x3 x4 x5 kn2 kw2 y1 y2 y3 y4 y5 V5 d1 d2 dn dw z1 z2 z3 z4 z5 x6 V6 e1 e2 en ew v1 v2 v3 v4 v5 th9 pl9 hs9 vs9 dg9 xx9 h9 g9) H) (hD : va_D (AS s) (bW cI cZ cF cL rx tt a tr r3 rs rz b b0 s0 r5 r6 ra pa pz er fr gr jr mr rf oq T cnt nx Ts zf Zs X Ln Q Sv fq pl U g1 g2 kn kw x1 x2 x3 x4 x5 kn2 kw2 y1 y2 y3 y4 y5 V5 d1 d2 dn dw z1 z2 z3 z4 z5 x6 V6 e1 e2 en ew v1 v2 v3 v4 v5 th9 pl9 hs9 vs9 dg9 xx9 h9 g9)) (hS : va_S (AS s) s.heap H locs) (hl : lv_has ls 7 (lvs sb rx mr oq i)) : WL p l e s m sb below meth c H locs cells slots (F0 m 1386 ls []) := by
  by_cases q1 : nI 1 ≤ sx (i + 1) ∧ sx (i + 1) ≤ nI 4
  · skip
    obtain ⟨n, g1, g2, e1⟩ := ix_rg (by decide) (by decide) q1
    by_cases q2 : lgo (sx (i + 2)) (sx (i + 3)) < 0
    · skip
      exact pa_runScript_2 C K hroom hi hI (ea1 := e1) (h1n := g1) (hn4 := g2) (hbad := q2) hP hD hS hl
    · skip
      obtain ⟨S, hS0, e2⟩ := lx_po q2
      by_cases hz : S / 10000 ^ n = 0
      · skip
        exact pa_runScript_0 C K hroom hi hI (ea1 := e1) (ea2 := e2) (h1n := g1) (hn4 := g2) (hS0 := hS0) (hz := hz) hP hD hS hl
      · skip
        exact pa_runScript_3 C K hroom hi hI (ea1 := e1) (ea2 := e2) (h1n := g1) (hn4 := g2) (hS0 := hS0) (hz := Nat.pos_of_ne_zero hz) hP hD hS hl
  · skip
    exact pa_runScript_1 C K hroom hi hI (hbad := ix_no q1) (hbad9 := q1) hP hD hS hl
set_option maxHeartbeats 4000000 in
set_option maxRecDepth 100000 in
theorem ar_simulate {T : Nat → Nat → Nat} {cnt nx : Nat} {Ts : Nat → Nat → Nat → Nat} {zf : Nat → Nat} {Zs : Nat → Nat → Nat → Nat} {X : Nat → Nat} {Ln : Nat} {Q Sv : Nat → Nat → Nat} {fq : Nat → Int64} {pl : Nat} {U : Nat → Nat → Nat} {g1 g2 : Nat → Nat} {kn kw : Int32} {x1 x2 x3 x4 x5 : Nat} {kn2 kw2 : Int32} {y1 y2 y3 y4 y5 : Nat} {V5 : Nat → Nat → Nat} {d1 d2 : Nat → Nat} {dn dw : Int32} {z1 z2 z3 z4 z5 : Nat} {x6 : Int64} {V6 : Nat → Nat → Nat} {e1 e2 : Nat → Nat} {en ew : Int32} {v1 v2 v3 v4 v5 th9 pl9 hs9 vs9 : Nat} {dg9 : Int32} {xx9 : Int64} {h9 g9 : Nat → Nat} (C : LC p l s m c sb sL sx D cI cZ cF cL) (K : LH p l e s m sb below meth c D cI cZ cF cL rx tt a tr r3 rs rz b b0 s0 r5 r6 ra pa pz er fr gr jr mr rf oq (i + 4) (cells + 1) (slots + 6)) (hroom : cells + 1 ≤ room_1.cells ∧ slots + 6 ≤ room_1.slots) (hi : i + 4 ≤ sL) (hI : INV T cnt nx Ts zf Zs X Ln Q Sv) (hP : va_P D vwCl (bW cI cZ cF cL rx tt a tr r3 rs rz b b0 s0 r5 r6 ra pa pz er fr gr jr mr rf oq T cnt nx Ts zf Zs X Ln Q Sv fq pl U g1 g2 kn kw x1 x2 x3 x4 x5 kn2 kw2 y1 y2 y3 y4 y5 V5 d1 d2 dn dw z1 z2 z3 z4 z5 x6 V6 e1 e2 en ew v1 v2 v3 v4 v5 th9 pl9 hs9 vs9 dg9 xx9 h9 g9) H) (hD : va_D (AS s) (bW cI cZ cF cL rx tt a tr r3 rs rz b b0 s0 r5 r6 ra pa pz er fr gr jr mr rf oq T cnt nx Ts zf Zs X Ln Q Sv fq pl U g1 g2 kn kw x1 x2 x3 x4 x5 kn2 kw2 y1 y2 y3 y4 y5 V5 d1 d2 dn dw z1 z2 z3 z4 z5 x6 V6 e1 e2 en ew v1 v2 v3 v4 v5 th9 pl9 hs9 vs9 dg9 xx9 h9 g9)) (hS : va_S (AS s) s.heap H locs) (hl : lv_has ls 7 (lvs sb rx mr oq i)) : WL p l e s m sb below meth c H locs cells slots (F0 m 1486 ls []) := by
  by_cases q3 : nI 1 ≤ sx (i + 3) ∧ sx (i + 3) ≤ nI 30
  · skip
    obtain ⟨mw, g1, g2, e3⟩ := ix_rg (by decide) (by decide) q3
    exact pa_simulate_0 C K hroom hi hI (ea3 := e3) (h1n := g1) (hn4 := g2) (h1m := g1) (hm30 := g2) hP hD hS hl
  · skip
    exact pa_simulate_1 C K hroom hi hI (hbad := ix_no q3) (hbad9 := q3) hP hD hS hl
set_option maxHeartbeats 4000000 in
set_option maxRecDepth 100000 in
theorem ar_save {T : Nat → Nat → Nat} {cnt nx : Nat} {Ts : Nat → Nat → Nat → Nat} {zf : Nat → Nat} {Zs : Nat → Nat → Nat → Nat} {X : Nat → Nat} {Ln : Nat} {Q Sv : Nat → Nat → Nat} {fq : Nat → Int64} {pl : Nat} {U : Nat → Nat → Nat} {g1 g2 : Nat → Nat} {kn kw : Int32} {x1 x2 x3 x4 x5 : Nat} {kn2 kw2 : Int32} {y1 y2 y3 y4 y5 : Nat} {V5 : Nat → Nat → Nat} {d1 d2 : Nat → Nat} {dn dw : Int32} {z1 z2 z3 z4 z5 : Nat} {x6 : Int64} {V6 : Nat → Nat → Nat} {e1 e2 : Nat → Nat} {en ew : Int32} {v1 v2 v3 v4 v5 th9 pl9 hs9 vs9 : Nat} {dg9 : Int32} {xx9 : Int64} {h9 g9 : Nat → Nat} (C : LC p l s m c sb sL sx D cI cZ cF cL) (K : LH p l e s m sb below meth c D cI cZ cF cL rx tt a tr r3 rs rz b b0 s0 r5 r6 ra pa pz er fr gr jr mr rf oq (i + 4) (cells + 1) (slots + 6)) (hroom : cells + 1 ≤ room_1.cells ∧ slots + 6 ≤ room_1.slots) (hi : i + 4 ≤ sL) (hI : INV T cnt nx Ts zf Zs X Ln Q Sv) (hP : va_P D vwCl (bW cI cZ cF cL rx tt a tr r3 rs rz b b0 s0 r5 r6 ra pa pz er fr gr jr mr rf oq T cnt nx Ts zf Zs X Ln Q Sv fq pl U g1 g2 kn kw x1 x2 x3 x4 x5 kn2 kw2 y1 y2 y3 y4 y5 V5 d1 d2 dn dw z1 z2 z3 z4 z5 x6 V6 e1 e2 en ew v1 v2 v3 v4 v5 th9 pl9 hs9 vs9 dg9 xx9 h9 g9) H) (hD : va_D (AS s) (bW cI cZ cF cL rx tt a tr r3 rs rz b b0 s0 r5 r6 ra pa pz er fr gr jr mr rf oq T cnt nx Ts zf Zs X Ln Q Sv fq pl U g1 g2 kn kw x1 x2 x3 x4 x5 kn2 kw2 y1 y2 y3 y4 y5 V5 d1 d2 dn dw z1 z2 z3 z4 z5 x6 V6 e1 e2 en ew v1 v2 v3 v4 v5 th9 pl9 hs9 vs9 dg9 xx9 h9 g9)) (hS : va_S (AS s) s.heap H locs) (hl : lv_has ls 7 (lvs sb rx mr oq i)) : WL p l e s m sb below meth c H locs cells slots (F0 m 1586 ls []) := by
  by_cases q1 : 0 ≤ sx (i + 1) ∧ sx (i + 1) < nI 2
  · skip
    obtain ⟨sl, hs, e1⟩ := ix_lt (by decide) q1
    exact pa_save_0 C K hroom hi hI (ea1 := e1) (hs := hs) (hsl := hs) hP hD hS hl
  · skip
    exact pa_save_1 C K hroom hi hI (hbad := q1) (hbad9 := ix_2 q1) hP hD hS hl
set_option maxHeartbeats 4000000 in
set_option maxRecDepth 100000 in
theorem ar_restore {T : Nat → Nat → Nat} {cnt nx : Nat} {Ts : Nat → Nat → Nat → Nat} {zf : Nat → Nat} {Zs : Nat → Nat → Nat → Nat} {X : Nat → Nat} {Ln : Nat} {Q Sv : Nat → Nat → Nat} {fq : Nat → Int64} {pl : Nat} {U : Nat → Nat → Nat} {g1 g2 : Nat → Nat} {kn kw : Int32} {x1 x2 x3 x4 x5 : Nat} {kn2 kw2 : Int32} {y1 y2 y3 y4 y5 : Nat} {V5 : Nat → Nat → Nat} {d1 d2 : Nat → Nat} {dn dw : Int32} {z1 z2 z3 z4 z5 : Nat} {x6 : Int64} {V6 : Nat → Nat → Nat} {e1 e2 : Nat → Nat} {en ew : Int32} {v1 v2 v3 v4 v5 th9 pl9 hs9 vs9 : Nat} {dg9 : Int32} {xx9 : Int64} {h9 g9 : Nat → Nat} (C : LC p l s m c sb sL sx D cI cZ cF cL) (K : LH p l e s m sb below meth c D cI cZ cF cL rx tt a tr r3 rs rz b b0 s0 r5 r6 ra pa pz er fr gr jr mr rf oq (i + 4) (cells + 1) (slots + 6)) (hroom : cells + 1 ≤ room_1.cells ∧ slots + 6 ≤ room_1.slots) (hi : i + 4 ≤ sL) (hI : INV T cnt nx Ts zf Zs X Ln Q Sv) (hP : va_P D vwCl (bW cI cZ cF cL rx tt a tr r3 rs rz b b0 s0 r5 r6 ra pa pz er fr gr jr mr rf oq T cnt nx Ts zf Zs X Ln Q Sv fq pl U g1 g2 kn kw x1 x2 x3 x4 x5 kn2 kw2 y1 y2 y3 y4 y5 V5 d1 d2 dn dw z1 z2 z3 z4 z5 x6 V6 e1 e2 en ew v1 v2 v3 v4 v5 th9 pl9 hs9 vs9 dg9 xx9 h9 g9) H) (hD : va_D (AS s) (bW cI cZ cF cL rx tt a tr r3 rs rz b b0 s0 r5 r6 ra pa pz er fr gr jr mr rf oq T cnt nx Ts zf Zs X Ln Q Sv fq pl U g1 g2 kn kw x1 x2 x3 x4 x5 kn2 kw2 y1 y2 y3 y4 y5 V5 d1 d2 dn dw z1 z2 z3 z4 z5 x6 V6 e1 e2 en ew v1 v2 v3 v4 v5 th9 pl9 hs9 vs9 dg9 xx9 h9 g9)) (hS : va_S (AS s) s.heap H locs) (hl : lv_has ls 7 (lvs sb rx mr oq i)) : WL p l e s m sb below meth c H locs cells slots (F0 m 1642 ls []) := by
  by_cases q1 : 0 ≤ sx (i + 1) ∧ sx (i + 1) < nI 2
  · skip
    obtain ⟨sl, hs, e1⟩ := ix_lt (by decide) q1
    by_cases qq : zf sl = 1
    · skip
      exact pa_restore_0 C K hroom hi hI (ea1 := e1) (hs := hs) (hz := qq) (hsl := hs) hP hD hS hl
    · skip
      exact pa_restore_2 C K hroom hi hI (ea1 := e1) (hs := hs) (hz := (by have := (hI.2.2.1 sl hs).1; omega)) (hsl := hs) hP hD hS hl
  · skip
    exact pa_restore_1 C K hroom hi hI (hbad := q1) (hbad9 := ix_2 q1) hP hD hS hl
end
