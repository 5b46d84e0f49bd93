/-! The call of a helper (a static method with handlers of its own) by the law. -/
theorem gHS {own : String} {idx : Nat} {y y' : MethodName} {c c' : ByteArray} {n n' : Nat} {r r' : Option FieldType} {hh : lgH} (h1 : Cond.methodLink own idx y' ∈ wsL_law) (h2 : Cond.static y' ∈ wsL_law) (h3 : Cond.initialized y'.cls ∈ wsL_law) (h : Cond.codeWith y' c' n' r' hh ∈ wsL_law) : GoodIn (wA y c n r) (va_wsS own idx y' (wH y' c' n' r' hh)) := by
  intro w hw
  unfold va_wsS at hw
  simp only [List.cons_append, List.nil_append, List.mem_cons] at hw
  rcases hw with rfl | rfl | rfl | hw
  · exact gU1 h1
  · exact gU1 h2
  · exact gU1 h3
  · rcases List.mem_cons.mp hw with rfl | hw
    · exact gU1 h
    · exact gU1 hw
section
variable {p : Program} {l : Launch} {e : Env} {R : Room} {s : State} {m : MethodId} {args : Array Value} {below : List Frame} {meth : Method} {c : Code} {H : Heap} {locs : List Loc} {Q : State → Prop} {D : va_G} {tys : List (ClassId × FieldType)} {A : Nat → Prop}
theorem gl_any {S : Type} {cells slots pc mc ms : Nat} {ls : Array Slot} {rest st0 st1 : List Value} {H0 : Heap} {rv : Option Value} {ws wc wr : va_W} {w1 : S → va_W} {a : Array Value} (hr : vx_Run p l e R s m args below meth c H locs cells slots mc ms (F0 m pc ls st0) rest (CQ D rv w1 (va_A wc H.size) a) XN (va_A wc H.size)) (hS : va_S A H0 H locs) (hA : ∀ q, H0.size ≤ q → A q) (hP : va_P D vwCl ws H) (hD : va_D A ws) (hp : ws.Perm (wc ++ wr)) (hw : ∀ u, (w1 u).map Prod.fst = wc.map Prod.fst) (hst : rv.toList ++ rest = st1)
    {ws2 : S → va_W} (h2 : ∀ u, (w1 u ++ wr).Perm (ws2 u)) (kk : ∀ (u : S) (H1 : Heap) (locs1 : List Loc), va_P D vwCl (ws2 u) H1 → va_D A (ws2 u) → va_S A H0 H1 locs1 → W p l e R s m args below meth c H1 locs1 (cells + mc) (slots + ms) Q (F0 m (pc + 3) ls st1)) : W p l e R s m args below meth c H locs cells slots Q (F0 m pc ls st0) := by
  subst hst
  have hf : ∀ q, va_A wc H.size q → A q := pm_free hD hS hA hp
  intro T hT X
  rcases hr T hT X with ⟨v, st₀, t, T', L, h0, X', hL, e1, e2, ⟨⟨hv, u, hpp⟩, hz, hk⟩, st⟩ | ⟨q, st₀, t, T', L, E', ce, h0, X', hL, e1, e2, hQ, -⟩
  · cases hv
    rw [h0] at hz hk
    have hk' : ∀ q : Nat, q < H.size → ¬ va_A wc H.size q → T'.heap[q]? = H[q]? := fun q h1 h2 => by rw [e1]; exact hk q h1 h2
    obtain ⟨hP2, hD2⟩ := pm_join hP hD hp (hw u) hk' (by rw [e1]; exact hpp)
    obtain ⟨t2, a1, b1⟩ := kk u T'.heap (locs ++ L) (pm_Pof (h2 u) hP2) (pm_Dof (h2 u) hD2)
      ⟨Nat.le_trans hS.1 (by rw [e1]; exact hz), fun q h1 h2 => by rw [hk' q (Nat.lt_of_lt_of_le h1 hS.1) (fun z => h2 (hf q z))]; exact hS.2.1 q h1 h2, fun q hq => by
        rcases List.mem_append.mp hq with h | h
        · exact hS.2.2 q h
        · exact hf _ (hL q h)⟩ T' rfl X'
    exact ⟨t2, st t2 a1, b1⟩
  · exact hQ.elim
end
section
variable {p : Program} {l : Launch} {e : Env} {R : Room} {s : State} {m : MethodId} {args : Array Value} {below : List Frame} {meth : Method} {c : Code} {H : Heap} {locs : List Loc} {cells slots pc : Nat} {Q : State → Prop} {D : va_G} {tys : List (ClassId × FieldType)} {A : Nat → Prop} {H0 : Heap} {cc : ByteArray} {nL : Nat} {Ts : List Cond} {own : String} {ls : Array Slot} {ws wc wr : va_W} {y : MethodName} {w w' : List Cond} {rm : Room} {bytes : ByteArray} {maxL index : Nat} {ret : Option FieldType} {As rest : List Value}
theorem gl_S {S : Type} {w1 : S → va_W} {mc ms : Nat} {rv : Option Value} {hh : lgH} {st1 : List Value} (hM : CTL l D tys y w rm As wc mc ms rv w1) (hg : GoodIn Ts (va_wsS own index y w)) (hw0 : w = Cond.codeWith y bytes maxL ret hh :: w') (hd : y.cls ≠ "java/lang/invoke/MethodHandle" ∧ y.cls ≠ "java/lang/invoke/VarHandle" ∧ (parseMethodDescriptor y.desc).map (fun d => d.parameters.length) = some As.length) (hR : rm.frames + 1 ≤ R.frames ∧ 8 + (maxL + 11) + rm.locals ≤ R.locals) (hrm : rm.cells = mc ∧ rm.slots = ms)
    (hx : p.tables.exec = Jvm.exec) (hb : c.code = cc) (hml : c.maxLocals = nL) (hown : s.vm.findClass own = some m.cls) (hts : ∀ x ∈ Ts, x.before args s = true) (hK : KK D tys s) (hX : KX A s s.heap) (hAs : H0 = s.heap) (hA : ∀ q, H0.size ≤ q → A q) (hP : va_P D vwCl ws H) (hD : va_D A ws) (hS : va_S A H0 H locs) (hls : ls.size = nL) (hcells : cells + mc ≤ R.cells ∧ slots + ms ≤ R.slots)
    (hp : ws.Perm (wc ++ wr)) (hw : ∀ u, (w1 u).map Prod.fst = wc.map Prod.fst) {st0 : List Value} (hst0 : st0 = As.reverse ++ rest) (hst : rv.toList ++ rest = st1) (hroom : (rest.map fun v => v.category).sum ≤ 8) (hdg : decode cc pc = .ok (.invokestatic index, 3))
    {ws2 : S → va_W} (h2 : ∀ u, (w1 u ++ wr).Perm (ws2 u)) (kk : ∀ (u : S) (H1 : Heap) (locs1 : List Loc), va_P D vwCl (ws2 u) H1 → va_D A (ws2 u) → va_S A H0 H1 locs1 → W p l e R s m args below meth c H1 locs1 (cells + mc) (slots + ms) Q (F0 m (pc + 3) ls st1)) : W p l e R s m args below meth c H locs cells slots Q (F0 m pc ls st0) := by
  subst hst0
  exact gl_any (vx_runSX (As := As) (rest := rest) (mc := mc) (ms := ms) (maxL := maxL) (ret := ret) (bytes := bytes) (hh := hh) ⟨hx, hb, hml, hown, hts⟩ (hM H.size) (vx_cwSW As.length hts hg hw0 hrm.1 hrm.2 hd hR) ⟨CPX_blind, cpx_pre hK hX hAs hS hA hP hD hp⟩ rfl rfl hls rfl (lv_room hroom) hdg hcells) hS hA hP hD hp hw hst h2 kk
end
