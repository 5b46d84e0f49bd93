/-! Calls of methods that throw, and a throw that goes on to the caller. -/
section
variable {p : Program} {l : Launch} {e : Env} {R : Room} {s : State} {m : MethodId} {args : Array Value} {below : List Frame} {meth : Method} {c : Code} {H : Heap} {locs : List Loc} {Q : State → Prop} {D : va_G} {tys : List (ClassId × FieldType)} {A : Nat → Prop}
theorem gx_any {S : Type} {cells slots pc : Nat} {ls : Array Slot} {rest st0 : List Value} {H0 : Heap} {E : String} {ws wc wr : va_W} {w1 : S → va_W} {a : Array Value} (hr : vx_Run p l e R s m args below meth c H locs cells slots 1 6 (F0 m pc ls st0) rest (NQ a) (XQ D E w1 (va_A wc H.size)) (va_A wc H.size)) (hS : va_S A H0 H locs) (hA : ∀ q, H0.size ≤ q → A q) (hP : va_P D vwCl ws H) (hD : va_D A ws) (hp : ws.Perm (wc ++ wr)) (hw : ∀ u, (w1 u).map Prod.fst = wc.map Prod.fst)
    {ws2 : S → va_W} (h2 : ∀ u, (w1 u ++ wr).Perm (ws2 u)) (kx : ∀ (u : S) (H1 : Heap) (locs1 : List Loc) (q : Addr) (ce : Cell), va_P D vwCl (ws2 u) H1 → va_D A (ws2 u) → va_S A H0 H1 locs1 → H1[q]? = some ce → ce.vm = .none → s.vm.findClass E = some ce.cls → vx_W p l e R s m args below meth c H1 locs1 (cells + 1) (slots + 6) Q (F0 m pc ls rest) q) : W p l e R s m args below meth c H locs cells slots Q (F0 m pc ls st0) := by
  have hf : ∀ q, va_A wc H.size q → A q := pm_free hD hS hA hp
  intro T hT X
  rcases hr T hT X with ⟨v, st₀, t, T', L, h0, X', hL, e1, e2, hQ, st⟩ | ⟨q, st₀, t, T', L, E', ce, h0, X', hL, e1, e2, ⟨⟨hE, u, hpp⟩, hz, hk⟩, hce, hcv, hcl, st⟩
  · exact hQ.elim
  · subst hE
    rw [h0] at hz hk
    have hk' : ∀ q : Nat, q < H.size → ¬ va_A wc H.size q → T'.heap[q]? = H[q]? := fun q h1 h2 => by rw [e1]; exact hk q h1 h2
    obtain ⟨hP2, hD2⟩ := pm_join hP hD hp (hw u) hk' (by rw [e1]; exact hpp)
    obtain ⟨t2, a1, b1⟩ := kx u T'.heap (locs ++ L) q ce (pm_Pof (h2 u) hP2) (pm_Dof (h2 u) hD2)
      ⟨Nat.le_trans hS.1 (by rw [e1]; exact hz), fun q h1 h2 => by rw [hk' q (Nat.lt_of_lt_of_le h1 hS.1) (fun z => h2 (hf q z))]; exact hS.2.1 q h1 h2, fun q hq => by
        rcases List.mem_append.mp hq with h | h
        · exact hS.2.2 q h
        · exact hf _ (hL q h)⟩ (by rw [e1]; exact hce) hcv hcl T' rfl X'
    exact ⟨t2, st.trans a1, b1⟩
end
section
variable {p : Program} {l : Launch} {e : Env} {R : Room} {s : State} {m : MethodId} {args : Array Value} {below : List Frame} {meth : Method} {c : Code} {H : Heap} {locs : List Loc} {cells slots pc : Nat} {Q : State → Prop} {D : va_G} {tys : List (ClassId × FieldType)} {A : Nat → Prop} {H0 : Heap} {cc : ByteArray} {nL : Nat} {Ts : List Cond} {own : String} {ls : Array Slot} {ws wc wr : va_W} {E : String} {y : MethodName} {w w' : List Cond} {rm : Room} {bytes : ByteArray} {maxL index : Nat} {ret : Option FieldType} {As rest : List Value}
theorem cpx_pre {av : List Value} (hK : KK D tys s) (hX : KX A s s.heap) (hAs : H0 = s.heap) (hS : va_S A H0 H locs) (hA : ∀ q, H0.size ≤ q → A q) (hP : va_P D vwCl ws H) (hD : va_D A ws) (hp : ws.Perm (wc ++ wr)) : ∀ U : State, U.heap = H → s.WarmedH U.vm → CPX D tys av wc H.size av.toArray U := by
  intro U hU hW
  obtain ⟨h1, h2, h3, h4, h5⟩ := cp_pre (av := av) hK hP hD hp U hU hW
  subst hAs
  exact ⟨h1, h2, h3, h4, h5, by rw [hU]; exact KX.go hX hS hW (pm_free hD hS hA hp)⟩
theorem gx_V {S : Type} {w1 : S → va_W} {b : Addr} {C : String} {ci q0 : Nat} {fs : List Value} {cq : vw_C} (hM : CTX l D tys y w rm (.ref b :: As) wc E w1) (hg : GoodIn Ts (wsV own index C y w)) (hw0 : w = Cond.code y bytes maxL ret :: w') (hd : y.cls = C ∧ y.cls ≠ "java/lang/invoke/MethodHandle" ∧ y.cls ≠ "java/lang/invoke/VarHandle" ∧ (parseMethodDescriptor y.desc).map (fun d => d.parameters.length) = some As.length) (hR : rm.frames + 1 ≤ R.frames ∧ 8 + (maxL + 11) + rm.locals ≤ R.locals) (hrm : rm.cells = 1 ∧ rm.slots = 6)
    (hx : p.tables.exec = Jvm.exec) (hb : c.code = cc) (hml : c.maxLocals = nL) (hown : s.vm.findClass own = some m.cls) (hts : ∀ x ∈ Ts, x.before args s = true) (hK : KK D tys s) (hX : KX A s s.heap) (hAs : H0 = s.heap) (hA : ∀ q, H0.size ≤ q → A q) (hP : va_P D vwCl ws H) (hD : va_D A ws) (hS : va_S A H0 H locs) (hls : ls.size = nL) (hcells : cells + 1 ≤ R.cells ∧ slots + 6 ≤ R.slots)
    (hc : vwCl[ci]? = some cq) (hcC : cq.1 = C) (he : wc[q0]? = some (b, .inr (ci, fs))) (hp : ws.Perm (wc ++ wr)) (hw : ∀ u, (w1 u).map Prod.fst = wc.map Prod.fst) {st0 : List Value} (hst0 : st0 = As.reverse ++ .ref b :: rest) (hroom : (rest.map fun v => v.category).sum ≤ 8) (hdg : decode cc pc = .ok (.invokevirtual index, 3))
    {ws2 : S → va_W} (h2 : ∀ u, (w1 u ++ wr).Perm (ws2 u)) (kx : ∀ (u : S) (H1 : Heap) (locs1 : List Loc) (q : Addr) (ce : Cell), va_P D vwCl (ws2 u) H1 → va_D A (ws2 u) → va_S A H0 H1 locs1 → H1[q]? = some ce → ce.vm = .none → s.vm.findClass E = some ce.cls → vx_W p l e R s m args below meth c H1 locs1 (cells + 1) (slots + 6) Q (F0 m pc ls rest) q) : W p l e R s m args below meth c H locs cells slots Q (F0 m pc ls st0) := by
  subst hst0
  refine gx_any (vx_runV (C := C) (As := As) (rest := rest) (mc := 1) (ms := 6) (maxL := maxL) (ret := ret) (bytes := bytes) ⟨hx, hb, hml, hown, hts⟩ (hM H.size) (cwV As.length hts hg hw0 hrm.1 hrm.2 hd hR) ⟨CPX_blind, by
    obtain ⟨cell, h1, h2, h3⟩ := va_recv (ws := wc) hK.1 (pm_P.mpr (fun q hq => pm_P.mp hP q (hp.mem_iff.mpr (List.mem_append_left _ hq)))) hc he
    exact ⟨cell, h1, h2, by rw [← hcC]; exact h3⟩, cpx_pre hK hX hAs hS hA hP hD hp⟩ rfl rfl hls rfl (lv_room hroom) hdg hcells) hS hA hP hD hp hw h2 kx
theorem gx_S {S : Type} {w1 : S → va_W} (hM : CTX l D tys y w rm As wc E w1) (hg : GoodIn Ts (va_wsS own index y w)) (hw0 : w = Cond.code y bytes maxL ret :: w') (hd : y.cls ≠ "java/lang/invoke/MethodHandle" ∧ y.cls ≠ "java/lang/invoke/VarHandle" ∧ (parseMethodDescriptor y.desc).map (fun d => d.parameters.length) = some As.length) (hR : rm.frames + 1 ≤ R.frames ∧ 8 + (maxL + 11) + rm.locals ≤ R.locals) (hrm : rm.cells = 1 ∧ rm.slots = 6)
    (hx : p.tables.exec = Jvm.exec) (hb : c.code = cc) (hml : c.maxLocals = nL) (hown : s.vm.findClass own = some m.cls) (hts : ∀ x ∈ Ts, x.before args s = true) (hK : KK D tys s) (hX : KX A s s.heap) (hAs : H0 = s.heap) (hA : ∀ q, H0.size ≤ q → A q) (hP : va_P D vwCl ws H) (hD : va_D A ws) (hS : va_S A H0 H locs) (hls : ls.size = nL) (hcells : cells + 1 ≤ R.cells ∧ slots + 6 ≤ R.slots)
    (hp : ws.Perm (wc ++ wr)) (hw : ∀ u, (w1 u).map Prod.fst = wc.map Prod.fst) {st0 : List Value} (hst0 : st0 = As.reverse ++ rest) (hroom : (rest.map fun v => v.category).sum ≤ 8) (hdg : decode cc pc = .ok (.invokestatic index, 3))
    {ws2 : S → va_W} (h2 : ∀ u, (w1 u ++ wr).Perm (ws2 u)) (kx : ∀ (u : S) (H1 : Heap) (locs1 : List Loc) (q : Addr) (ce : Cell), va_P D vwCl (ws2 u) H1 → va_D A (ws2 u) → va_S A H0 H1 locs1 → H1[q]? = some ce → ce.vm = .none → s.vm.findClass E = some ce.cls → vx_W p l e R s m args below meth c H1 locs1 (cells + 1) (slots + 6) Q (F0 m pc ls rest) q) : W p l e R s m args below meth c H locs cells slots Q (F0 m pc ls st0) := by
  subst hst0
  exact gx_any (vx_runS (As := As) (rest := rest) (mc := 1) (ms := 6) (maxL := maxL) (ret := ret) (bytes := bytes) ⟨hx, hb, hml, hown, hts⟩ (hM H.size) (va_cwS As.length hts hg hw0 hrm.1 hrm.2 hd hR) ⟨CPX_blind, cpx_pre hK hX hAs hS hA hP hD hp⟩ rfl rfl hls rfl (lv_room hroom) hdg hcells) hS hA hP hD hp hw h2 kx
/-- a throw that isn't caught here -/
theorem cx_out {S : Type} (u : S) {ws' : S → va_W} {q : Addr} {ce : Cell} (hno : ∀ x ∈ c.exceptionTable.toList, False) (hlocks : meth.locks = false) (hP : va_P D vwCl (ws' u) H) (hS : va_S A s.heap H locs) (hce : H[q]? = some ce) (hcv : ce.vm = .none) (hcl : s.vm.findClass E = some ce.cls) : vx_W p l e R s m args below meth c H locs (0 + 1) (0 + 6) (vx_MQ below NQ (XQ D E ws' A) args s 1 6 A) (F0 m pc ls rest) q :=
  vx_out (fun x h => (hno x h).elim) hlocks hce hcv hcl (fun t ht _ => ⟨⟨rfl, u, by rw [ht]; exact hP⟩, hS.F ht⟩) hS.2.2 (Nat.le_refl _) (Nat.le_refl _)
end
