/-! The base: one form of contract for methods that make nothing and always return; its entry, its end, its calls. -/
/-- an array of counted numbers -/
def nF (f : Nat → Nat) : Nat → Int32 := fun i => nI (f i)
theorem nF_up (f : Nat → Nat) (k x : Nat) : upd (nF f) k (nI x) = nF (va_up f k x) := by
  funext j
  simp only [upd, nF, va_up]
  split <;> rfl
/-- the cells of a world, some of them set anew -/
def pb : va_W → List Nat → va_W → va_W
  | ws, i :: is, e :: es => pb (ws.set i e) is es
  | ws, [], _ => ws
  | ws, _ :: _, [] => ws
theorem pb_get : ∀ (is : List Nat) (es ws : va_W) (k : Nat) (q : Nat × va_E), es.length = is.length → (pb ws is es)[k]? = some q → (∃ j : Nat, is[j]? = some k ∧ es[j]? = some q) ∨ (k ∉ is ∧ ws[k]? = some q)
  | [], _, ws, k, q, _, h => Or.inr ⟨List.not_mem_nil, by simpa [pb] using h⟩
  | i :: is, [], _, _, _, hl, _ => by simp at hl
  | i :: is, e :: es, ws, k, q, hl, h => by
    have hl' : es.length = is.length := by simpa using hl
    rw [pb] at h
    rcases pb_get is es (ws.set i e) k q hl' h with ⟨j, h1, h2⟩ | ⟨h1, h2⟩
    · exact Or.inl ⟨j + 1, by simpa using h1, by simpa using h2⟩
    · by_cases hk : k = i
      · subst hk
        have hlt : k < (ws.set k e).length := (List.getElem?_eq_some_iff.mp h2).1
        rw [List.length_set] at hlt
        rw [List.getElem?_set_self hlt] at h2
        exact Or.inl ⟨0, by simp, by simpa using h2⟩
      · rw [List.getElem?_set_ne (Ne.symm hk)] at h2
        exact Or.inr ⟨by simp [hk, h1], h2⟩
/-- behind a call: the callee's places are set, the rest is as it was -/
theorem pb_join {A0 : Nat → Prop} {D : va_G} {cl : List vw_C} {ws wc w1 : va_W} {H H1 : Heap} (hP : va_P D cl ws H) (hD : va_D A0 ws) (is : List Nat) (hC : is.map (fun i => ws[i]?) = wc.map some) (hw : w1.map Prod.fst = wc.map Prod.fst)
    (hk : ∀ q : Nat, q < H.size → ¬ va_A wc H.size q → H1[q]? = H[q]?) (hP1 : va_P D cl w1 H1) : va_P D cl (pb ws is w1) H1 ∧ va_D A0 (pb ws is w1) := by
  have hlc : wc.length = is.length := by
    have h := congrArg List.length hC
    simpa using h.symm
  have hl1 : w1.length = is.length := by
    have h := congrArg List.length hw
    simp at h
    omega
  have key : ∀ (j k : Nat) (q : Nat × va_E), is[j]? = some k → w1[j]? = some q → ∃ q0 : Nat × va_E, ws[k]? = some q0 ∧ q0.1 = q.1 := by
    intro j k q h1 h2
    have h3 : (is.map (fun i => ws[i]?))[j]? = some (ws[k]?) := by rw [List.getElem?_map, h1]; rfl
    rw [hC, List.getElem?_map] at h3
    have h4 : (w1.map Prod.fst)[j]? = some q.1 := by rw [List.getElem?_map, h2]; rfl
    rw [hw, List.getElem?_map] at h4
    cases hc : wc[j]? with
    | none => rw [hc] at h4; cases h4
    | some q0 =>
      rw [hc] at h3 h4
      refine ⟨q0, (Option.some.inj h3).symm, Option.some.inj h4⟩
  have key2 : ∀ (k : Nat) (q : Nat × va_E), (pb ws is w1)[k]? = some q → ∃ q0 : Nat × va_E, ws[k]? = some q0 ∧ q0.1 = q.1 := by
    intro k q h
    rcases pb_get is w1 ws k q hl1 h with ⟨j, h1, h2⟩ | ⟨h1, h2⟩
    · exact key j k q h1 h2
    · exact ⟨q, h2, rfl⟩
  refine ⟨fun k q h => ?_, fun i j x y hi hj hxy => ?_, fun k q h => ?_⟩
  · rcases pb_get is w1 ws k q hl1 h with ⟨j, h1, h2⟩ | ⟨h1, h2⟩
    · exact hP1 j q h2
    · refine (hP k q h2).kept (hk q.1 (hP k q h2).lt ?_)
      rintro (⟨k2, e, h3⟩ | h3)
      · have h4 : (wc.map some)[k2]? = some (some (q.1, e)) := by rw [List.getElem?_map, h3]; rfl
        rw [← hC, List.getElem?_map] at h4
        cases hi : is[k2]? with
        | none => rw [hi] at h4; cases h4
        | some i =>
          rw [hi] at h4
          have h5 : ws[i]? = some (q.1, e) := Option.some.inj h4
          have h6 := hD.1 i k (q.1, e) q h5 h2 rfl
          subst h6
          exact h1 (List.mem_of_getElem? hi)
      · have := (hP k q h2).lt
        omega
  · obtain ⟨x0, a1, a2⟩ := key2 i x hi
    obtain ⟨y0, b1, b2⟩ := key2 j y hj
    exact hD.1 i j x0 y0 a1 b1 (a2.trans (hxy.trans b2.symm))
  · obtain ⟨q0, a1, a2⟩ := key2 k q h
    rw [← a2]
    exact hD.2 k q0 a1
/-- the array classes that the world knows: int, boolean, farms, long -/
abbrev tysX (cI cZ cF cL : ClassId) : List (ClassId × FieldType) := [(cI, .int), (cZ, .boolean), (cF, .object "HarvestBoxes$Farm")]
/-- the links of nest mates' private members -/
def nestW : List (String × Nat × MethodName) := [(RX8, 50, yX0_init), (RX8, 57, yX7_init), (RX1, 70, yX8_cell), (RX1, 70, yX8_cell), (RX4, 20, yX0_init), (RX4, 27, yX7_init), (RX4, 92, yX8_cell), (RX1, 70, yX8_cell), (RX7, 46, yX8_cell)]
def NW (U : State) : Prop := ∀ q ∈ nestW, va_Nw (.methodLinkNest q.1 q.2.1 q.2.2 RX8) U
theorem NW.warm {s U : State} (hW : s.WarmedH U.vm) (h : NW s) : NW U := fun q hq => va_Nw.warmM hW (h q hq)
theorem NW.at {U : State} (h : NW U) (i : Nat) {a : String} {k : Nat} {y : MethodName} (hi : nestW[i]? = some (a, k, y)) : va_Nw (.methodLinkNest a k y RX8) U := h _ (List.mem_of_getElem? hi)
def KK (D : va_G) (tys : List (ClassId × FieldType)) (U : State) : Prop := va_K D vwCl tys U ∧ NW U
theorem KK.warm {D : va_G} {tys : List (ClassId × FieldType)} {s U : State} (hW : s.WarmedH U.vm) (h : KK D tys s) : KK D tys U := ⟨va_K.moved hW.alike h.1, h.2.warm hW⟩
theorem KK.same {D : va_G} {tys : List (ClassId × FieldType)} {s U : State} (hv : s.vm = U.vm) (h : KK D tys s) : KK D tys U := ⟨va_K.moved (hv ▸ Vm.Alike.refl s.vm) h.1, fun q hq => va_Nw.same rfl hv (h.2 q hq)⟩
/-- a contract's end: what is answered, and the world behind it -/
def CQ {S : Type} (D : va_G) (rv : Option Value) (ws' : S → va_W) (A : Nat → Prop) : Array Value → State → Outcome → State → Prop := fun _ st oc t => (oc = .returned rv ∧ ∃ u : S, va_P D vwCl (ws' u) t.heap) ∧ va_F A st t
def CP (D : va_G) (tys : List (ClassId × FieldType)) (av : List Value) (ws : va_W) (sz : Nat) : Array Value → State → Prop := va_Pc av (fun U => U.heap.size = sz ∧ va_P D vwCl ws U.heap ∧ KK D tys U ∧ va_D (fun _ => True) ws)
/-- a contract: method y, at arguments av and in the world ws, answers rv and leaves ws' (at some u) -/
def CT {S : Type} (l : Launch) (D : va_G) (tys : List (ClassId × FieldType)) (y : MethodName) (w : List Cond) (rm : Room) (av : List Value) (ws : va_W) (rv : Option Value) (ws' : S → va_W) : Prop :=
  ∀ sz : Nat, Met l y w rm (CP D tys av ws sz) (CQ D rv ws' (va_A ws sz)) 0 0 (va_A ws sz)
theorem CP_blind {D : va_G} {tys : List (ClassId × FieldType)} {av : List Value} {ws : va_W} {sz : Nat} : FrameBlind (CP D tys av ws sz) := fun a U g mk q => by
  obtain ⟨q0, q1, qP, qK, qD⟩ := q
  exact ⟨q0, q1, qP, KK.same (s := U) (U := U.calling g mk a) rfl qK, qD⟩
abbrev rmF (f lo : Nat) : Room := { frames := f, cells := 0, slots := 0, locals := lo }
/-- a walk from the entry gives the contract -/
theorem ct_in {S : Type} {l : Launch} {D : va_G} {tys : List (ClassId × FieldType)} {y : MethodName} {w w' : List Cond} {rm : Room} {av : List Value} {ws : va_W} {rv : Option Value} {ws' : S → va_W} {cc : ByteArray} {maxL : Nat} {ret : Option FieldType} {own : String} {lv : List (Nat × Value)}
    (hy : plainName y.cls = true) (hw : w = Cond.code y cc maxL ret :: w') (hown : y.cls = own) (hav : (lg_sl av).length ≤ maxL) (hlv : lv_args 0 av = lv)
    (body : ∀ (p : Program) (e : Env) (s : State) (m : MethodId) (args : Array Value) (below : List Frame) (meth : Method) (c : Code) (A : Nat → Prop) (ls : Array Slot), p.tables.exec = Jvm.exec → c.code = cc → meth.sig.returnType = ret → c.maxLocals = maxL → (∀ x ∈ w, x.before args s = true) → s.vm.findClass own = some m.cls → meth.locks = false → KK D tys s → (∀ q, s.heap.size ≤ q → A q) → va_P D vwCl ws s.heap → va_D A ws → va_S A s.heap s.heap [] → lv_has ls maxL lv →
      W p l e rm s m args below meth c s.heap [] 0 0 (MQ below (CQ D rv ws' A) args s 0 0 A) (F0 m 0 ls [])) : CT l D tys y w rm av ws rv ws' := by
  intro sz
  refine Met.ofW (cc := cc) (maxL := maxL) (ret := ret) hy hw ?_
  intro p e s m args below meth c s₁ B hml hv
  obtain ⟨rfl, hsz, hP, hK, hD0⟩ := hv
  have hts := atoms_spec (ws := w) B.pre
  have hfc : s.vm.findClass y.cls = some m.cls := findClass_of_methodNamed B.named
  rw [hown] at hfc
  subst hsz
  have hl := lv_entry av (n := maxL) hav
  rw [hlv] at hl
  rw [lg_entry_eq]
  exact body p e s m av.toArray below meth c _ _ B.exec B.bytes B.returns hml hts hfc B.notSynchronized hK (fun q h => Or.inr h) hP (hD0.self (sz := s.heap.size)) va_S.rf hl
section
variable {p : Program} {l : Launch} {e : Env} {R : Room} {s : State} {m : MethodId} {args : Array Value} {below : List Frame} {meth : Method} {c : Code} {H : Heap} {locs : List Loc} {Q : State → Prop} {D : va_G} {tys : List (ClassId × FieldType)} {A : Nat → Prop}
/-- the ends -/
theorem ct_i {S : Type} (u : S) {cc : ByteArray} {v r : Int32} {ws' : S → va_W} (hx : p.tables.exec = Jvm.exec) (hb : c.code = cc) (hr : meth.sig.returnType = some .int) (hlocks : meth.locks = false) (hP : va_P D vwCl (ws' u) H) (hS : va_S A s.heap H locs) (hv : v = r) {pc : Nat} {ls : Array Slot} (hdg : decode cc pc = .ok (.ireturn, 1)) :
    W p l e R s m args below meth c H locs 0 0 (MQ below (CQ D (some (.int r)) ws' A) args s 0 0 A) (F0 m pc ls [.int v]) := by
  subst hv
  exact W.iret hx hb hr (fun t ht hW => ⟨⟨rfl, u, by rw [ht]; exact hP⟩, hS.F ht⟩) hS.2.2 hdg
theorem ct_z {S : Type} (u : S) {cc : ByteArray} {v : Int32} {b : Prop} [Decidable b] {ws' : S → va_W} (hx : p.tables.exec = Jvm.exec) (hb : c.code = cc) (hr : meth.sig.returnType = some .boolean) (hlocks : meth.locks = false) (hP : va_P D vwCl (ws' u) H) (hS : va_S A s.heap H locs) (hv : v = if b then 1 else 0) {pc : Nat} {ls : Array Slot} (hdg : decode cc pc = .ok (.ireturn, 1)) :
    W p l e R s m args below meth c H locs 0 0 (MQ below (CQ D (some (.int (if b then 1 else 0))) ws' A) args s 0 0 A) (F0 m pc ls [.int v]) := by
  subst hv
  exact W.zret hx hb hr (by split <;> rfl) (fun t ht hW => ⟨⟨rfl, u, by rw [ht]; exact hP⟩, hS.F ht⟩) hS.2.2 hdg
theorem ct_v {S : Type} (u : S) {cc : ByteArray} {ws' : S → va_W} (hx : p.tables.exec = Jvm.exec) (hb : c.code = cc) (hr : meth.sig.returnType = none) (hlocks : meth.locks = false) (hP : va_P D vwCl (ws' u) H) (hS : va_S A s.heap H locs) {pc : Nat} {ls : Array Slot} (hdg : decode cc pc = .ok (.return_, 1)) :
    W p l e R s m args below meth c H locs 0 0 (MQ below (CQ D none ws' A) args s 0 0 A) (F0 m pc ls []) :=
  W.vret hx hb hr (fun t ht hW => ⟨⟨rfl, u, by rw [ht]; exact hP⟩, hS.F ht⟩) hS.2.2 hdg
theorem ct_l {S : Type} (u : S) {cc : ByteArray} {v r : Int64} {ws' : S → va_W} (hx : p.tables.exec = Jvm.exec) (hb : c.code = cc) (hr : meth.sig.returnType = some .long) (hlocks : meth.locks = false) (hP : va_P D vwCl (ws' u) H) (hS : va_S A s.heap H locs) (hv : v = r) {pc : Nat} {ls : Array Slot} (hdg : decode cc pc = .ok (.lreturn, 1)) :
    W p l e R s m args below meth c H locs 0 0 (MQ below (CQ D (some (.long r)) ws' A) args s 0 0 A) (F0 m pc ls [.long v]) := by
  subst hv
  exact W.lret hx hb hr (fun t ht hW => ⟨⟨rfl, u, by rw [ht]; exact hP⟩, hS.F ht⟩) hS.2.2 hdg
/-- a call of such a method -/
theorem go_any {S : Type} {cells slots pc : Nat} {ls : Array Slot} {rest st0 st1 : List Value} {H0 : Heap} {rv : Option Value} {ws wc : va_W} {w1 : S → va_W} {a : Array Value} (hr : va_Run p l e R s m args below meth c H locs cells slots 0 0 (F0 m pc ls st0) rest (CQ D rv w1 (va_A wc H.size) a) (va_A wc H.size)) (hS : va_S A H0 H locs) (hA : ∀ q, H0.size ≤ q → A q) (hP : va_P D vwCl ws H) (hD : va_D A ws) (is : List Nat) (hC : is.map (fun i => ws[i]?) = wc.map some) (hw : ∀ u, (w1 u).map Prod.fst = wc.map Prod.fst) (hst : rv.toList ++ rest = st1)
    {ws2 : S → va_W} (h2 : ∀ u, pb ws is (w1 u) = ws2 u) (kk : ∀ (u : S) (H1 : Heap) (locs1 : List Loc), va_P D vwCl (ws2 u) H1 → va_D A (ws2 u) → va_S A H0 H1 locs1 → W p l e R s m args below meth c H1 locs1 cells slots Q (F0 m (pc + 3) ls st1)) : W p l e R s m args below meth c H locs cells slots Q (F0 m pc ls st0) := by
  subst hst
  have hf : ∀ q, va_A wc H.size q → A q := va_free hD hS hA is hC
  intro T hT X
  obtain ⟨v, st₀, t, T', L, h0, X', hL, e1, e2, ⟨⟨hv, u, hp⟩, hz, hk⟩, st⟩ := hr T hT X
  cases hv
  rw [h0] at hz hk
  have hk' : ∀ q : Nat, q < H.size → ¬ va_A wc H.size q → T'.heap[q]? = H[q]? := fun q h1 h2 => by rw [e1]; exact hk q h1 h2
  obtain ⟨hP2, hD2⟩ := pb_join hP hD is hC (hw u) hk' (by rw [e1]; exact hp)
  rw [h2 u] at hP2 hD2
  obtain ⟨t2, a1, b1⟩ := kk u T'.heap (locs ++ L) hP2 hD2
    ⟨Nat.le_trans hS.1 (by rw [e1]; exact hz), fun q h1 h2 => by rw [hk' q (Nat.lt_of_lt_of_le h1 hS.1) (fun z => h2 (hf q z))]; exact hS.2.1 q h1 h2, fun q hq => by
      rcases List.mem_append.mp hq with h | h
      · exact hS.2.2 q h
      · exact hf _ (hL q h)⟩ T' rfl X'
  exact ⟨t2, st t2 a1, b1⟩
end
section
variable {p : Program} {l : Launch} {e : Env} {R : Room} {s : State} {m : MethodId} {args : Array Value} {below : List Frame} {meth : Method} {c : Code} {H : Heap} {locs : List Loc} {cells slots pc : Nat} {Q : State → Prop} {D : va_G} {tys : List (ClassId × FieldType)} {A : Nat → Prop} {H0 : Heap} {cc : ByteArray} {nL : Nat} {Ts : List Cond} {own : String} {ls : Array Slot} {ws wc : va_W} {rv : Option Value} {y : MethodName} {w w' : List Cond} {rm : Room} {bytes : ByteArray} {maxL index : Nat} {ret : Option FieldType} {As rest st1 : List Value}
theorem ct_pre {av : List Value} (hK : KK D tys s) (hP : va_P D vwCl ws H) (hD : va_D A ws) (is : List Nat) (hC : is.map (fun i => ws[i]?) = wc.map some) (hn : va_nd is = true) : ∀ U : State, U.heap = H → s.WarmedH U.vm → CP D tys av wc H.size av.toArray U := by
  intro U hU hW
  have hC2 : is.filterMap (fun i => ws[i]?) = wc := by
    have h := congrArg (fun z => z.filterMap (fun o : Option (Nat × va_E) => o)) hC
    simpa [List.filterMap_map, Function.comp_def] using h
  exact ⟨rfl, by rw [hU], by rw [hU]; exact hP.sub is hC2, hK.warm hW, (hD.sub is hn hC).weaken (fun _ _ _ _ => trivial)⟩
theorem go_V {S : Type} {w1 : S → va_W} {b : Addr} {C : String} {ci q0 : Nat} {fs : List Value} {cq : vw_C} (hM : CT l D tys y w rm (.ref b :: As) wc rv w1) (hg : GoodIn Ts (wsV own index C y w)) (hw0 : w = Cond.code y bytes maxL ret :: w') (hd : y.cls = C ∧ y.cls ≠ "java/lang/invoke/MethodHandle" ∧ y.cls ≠ "java/lang/invoke/VarHandle" ∧ (parseMethodDescriptor y.desc).map (fun d => d.parameters.length) = some As.length) (hR : rm.frames + 1 ≤ R.frames ∧ 8 + (maxL + 11) + rm.locals ≤ R.locals) (hrm : rm.cells = 0 ∧ rm.slots = 0)
    (hx : p.tables.exec = Jvm.exec) (hb : c.code = cc) (hml : c.maxLocals = nL) (hown : s.vm.findClass own = some m.cls) (hts : ∀ x ∈ Ts, x.before args s = true) (hK : KK D tys s) (hA : ∀ q, H0.size ≤ q → A q) (hP : va_P D vwCl ws H) (hD : va_D A ws) (hS : va_S A H0 H locs) (hls : ls.size = nL) (hcells : cells + 0 ≤ R.cells ∧ slots + 0 ≤ R.slots)
    (hc : vwCl[ci]? = some cq) (hcC : cq.1 = C) (he : ws[q0]? = some (b, .inr (ci, fs))) (is : List Nat) (hC : is.map (fun i => ws[i]?) = wc.map some) (hn : va_nd is = true) (hw : ∀ u, (w1 u).map Prod.fst = wc.map Prod.fst) {st0 : List Value} (hst0 : st0 = As.reverse ++ .ref b :: rest) (hst : rv.toList ++ rest = st1) (hroom : (rest.map fun v => v.category).sum ≤ 8) (hdg : decode cc pc = .ok (.invokevirtual index, 3))
    {ws2 : S → va_W} (h2 : ∀ u, pb ws is (w1 u) = ws2 u) (kk : ∀ (u : S) (H1 : Heap) (locs1 : List Loc), va_P D vwCl (ws2 u) H1 → va_D A (ws2 u) → va_S A H0 H1 locs1 → W p l e R s m args below meth c H1 locs1 cells slots Q (F0 m (pc + 3) ls st1)) : W p l e R s m args below meth c H locs cells slots Q (F0 m pc ls st0) := by
  subst hst0
  refine go_any (va_runV (C := C) (As := As) (rest := rest) (mc := 0) (ms := 0) (maxL := maxL) (ret := ret) (bytes := bytes) ⟨hx, hb, hml, hown, hts⟩ (hM H.size) (cwV As.length hts hg hw0 hrm.1 hrm.2 hd hR) ⟨CP_blind, by
    obtain ⟨cell, h1, h2, h3⟩ := va_recv hK.1 hP hc he
    exact ⟨cell, h1, h2, by rw [← hcC]; exact h3⟩, ct_pre hK hP hD is hC hn⟩ rfl rfl hls rfl (lv_room hroom) hdg hcells) hS hA hP hD is hC hw hst h2 kk
theorem go_S {S : Type} {w1 : S → va_W} (hM : CT l D tys y w rm As wc rv w1) (hg : GoodIn Ts (va_wsS own index y w)) (hw0 : w = Cond.code y bytes maxL ret :: w') (hd : y.cls ≠ "java/lang/invoke/MethodHandle" ∧ y.cls ≠ "java/lang/invoke/VarHandle" ∧ (parseMethodDescriptor y.desc).map (fun d => d.parameters.length) = some As.length) (hR : rm.frames + 1 ≤ R.frames ∧ 8 + (maxL + 11) + rm.locals ≤ R.locals) (hrm : rm.cells = 0 ∧ rm.slots = 0)
    (hx : p.tables.exec = Jvm.exec) (hb : c.code = cc) (hml : c.maxLocals = nL) (hown : s.vm.findClass own = some m.cls) (hts : ∀ x ∈ Ts, x.before args s = true) (hK : KK D tys s) (hA : ∀ q, H0.size ≤ q → A q) (hP : va_P D vwCl ws H) (hD : va_D A ws) (hS : va_S A H0 H locs) (hls : ls.size = nL) (hcells : cells + 0 ≤ R.cells ∧ slots + 0 ≤ R.slots)
    (is : List Nat) (hC : is.map (fun i => ws[i]?) = wc.map some) (hn : va_nd is = true) (hw : ∀ u, (w1 u).map Prod.fst = wc.map Prod.fst) {st0 : List Value} (hst0 : st0 = As.reverse ++ rest) (hst : rv.toList ++ rest = st1) (hroom : (rest.map fun v => v.category).sum ≤ 8) (hdg : decode cc pc = .ok (.invokestatic index, 3))
    {ws2 : S → va_W} (h2 : ∀ u, pb ws is (w1 u) = ws2 u) (kk : ∀ (u : S) (H1 : Heap) (locs1 : List Loc), va_P D vwCl (ws2 u) H1 → va_D A (ws2 u) → va_S A H0 H1 locs1 → W p l e R s m args below meth c H1 locs1 cells slots Q (F0 m (pc + 3) ls st1)) : W p l e R s m args below meth c H locs cells slots Q (F0 m pc ls st0) := by
  subst hst0
  exact go_any (va_runS (As := As) (rest := rest) (mc := 0) (ms := 0) (maxL := maxL) (ret := ret) (bytes := bytes) ⟨hx, hb, hml, hown, hts⟩ (hM H.size) (va_cwS As.length hts hg hw0 hrm.1 hrm.2 hd hR) ⟨CP_blind, ct_pre hK hP hD is hC hn⟩ rfl rfl hls rfl (lv_room hroom) hdg hcells) hS hA hP hD is hC hw hst h2 kk
theorem go_SN {S : Type} {w1 : S → va_W} {ni : Nat} (hM : CT l D tys y w rm As wc rv w1) (hg : GoodIn Ts w) (hw0 : w = Cond.code y bytes maxL ret :: w') (hd : y.cls ≠ "java/lang/invoke/MethodHandle" ∧ y.cls ≠ "java/lang/invoke/VarHandle" ∧ (parseMethodDescriptor y.desc).map (fun d => d.parameters.length) = some As.length) (hR : rm.frames + 1 ≤ R.frames ∧ 8 + (maxL + 11) + rm.locals ≤ R.locals) (hrm : rm.cells = 0 ∧ rm.slots = 0)
    (hlk : nestW[ni]? = some (own, index, y)) (hini : (Cond.initialized y.cls).before args s = true) (hstt : (Cond.static y).before args s = true)
    (hx : p.tables.exec = Jvm.exec) (hb : c.code = cc) (hml : c.maxLocals = nL) (hown : s.vm.findClass own = some m.cls) (hts : ∀ x ∈ Ts, x.before args s = true) (hK : KK D tys s) (hA : ∀ q, H0.size ≤ q → A q) (hP : va_P D vwCl ws H) (hD : va_D A ws) (hS : va_S A H0 H locs) (hls : ls.size = nL) (hcells : cells + 0 ≤ R.cells ∧ slots + 0 ≤ R.slots)
    (is : List Nat) (hC : is.map (fun i => ws[i]?) = wc.map some) (hn : va_nd is = true) (hw : ∀ u, (w1 u).map Prod.fst = wc.map Prod.fst) {st0 : List Value} (hst0 : st0 = As.reverse ++ rest) (hst : rv.toList ++ rest = st1) (hroom : (rest.map fun v => v.category).sum ≤ 8) (hdg : decode cc pc = .ok (.invokestatic index, 3))
    {ws2 : S → va_W} (h2 : ∀ u, pb ws is (w1 u) = ws2 u) (kk : ∀ (u : S) (H1 : Heap) (locs1 : List Loc), va_P D vwCl (ws2 u) H1 → va_D A (ws2 u) → va_S A H0 H1 locs1 → W p l e R s m args below meth c H1 locs1 cells slots Q (F0 m (pc + 3) ls st1)) : W p l e R s m args below meth c H locs cells slots Q (F0 m pc ls st0) := by
  subst hst0
  exact go_any (va_runSN (As := As) (rest := rest) (mc := 0) (ms := 0) (maxL := maxL) (ret := ret) (bytes := bytes) ⟨hx, hb, hml, hown, hts⟩ (hM H.size) ⟨va_cnB As.length hts hg hw0 hrm.1 hrm.2 (hK.2.at ni hlk) hini hd hR, hstt, trivial⟩ ⟨CP_blind, ct_pre hK hP hD is hC hn⟩ rfl rfl hls rfl (lv_room hroom) hdg hcells) hS hA hP hD is hC hw hst h2 kk
/-- arrays of counted numbers at a counted place -/
theorem ia_n {D : va_G} {a q0 t0 n i : Nat} {cA : ClassId} {f : Nat → Nat} {rest : List Value} (hx : p.tables.exec = Jvm.exec) (hb : c.code = cc) (hK : KK D tys s) (hP : va_P D vwCl ws H) (ha : ws[q0]? = some (a, .inl (cA, n, .inl (nF f)))) (ht : tys[t0]? = some (cA, .int)) (hin : i < n) (hn : n < 2 ^ 31) (hdg : decode cc pc = .ok (.iaload, 1))
    (kk : W p l e R s m args below meth c H locs cells slots Q (F0 m (pc + 1) ls (.int (nI (f i)) :: rest))) : W p l e R s m args below meth c H locs cells slots Q (F0 m pc ls (.int (nI i) :: .ref a :: rest)) := by
  refine va_iald hx hb hK.1 hP q0 t0 ha ht (vp_in_nI hin hn) hdg ?_
  rw [nI_clamp (Nat.lt_trans hin hn)]
  exact kk
theorem is_n {D : va_G} {a q0 t0 n i : Nat} {cA : ClassId} {f : Nat → Nat} {x : Nat} {rest : List Value} {ws2 : va_W} (hx : p.tables.exec = Jvm.exec) (hb : c.code = cc) (hK : KK D tys s) (hP : va_P D vwCl ws H) (hD : va_D A ws) (hS : va_S A H0 H locs) (ha : ws[q0]? = some (a, .inl (cA, n, .inl (nF f)))) (ht : tys[t0]? = some (cA, .int)) (hin : i < n) (hn : n < 2 ^ 31) (hdg : decode cc pc = .ok (.iastore, 1)) (h2 : ws.set q0 (a, .inl (cA, n, .inl (nF (va_up f i x)))) = ws2)
    (kk : ∀ (H1 : Heap) (locs1 : List Loc), va_P D vwCl ws2 H1 → va_D A ws2 → va_S A H0 H1 locs1 → W p l e R s m args below meth c H1 locs1 cells slots Q (F0 m (pc + 1) ls rest)) : W p l e R s m args below meth c H locs cells slots Q (F0 m pc ls (.int (nI x) :: .int (nI i) :: .ref a :: rest)) := by
  refine va_iast hx hb hK.1 hP hD hS q0 t0 ha ht (vp_in_nI hin hn) hdg (fun H1 locs1 hP hD hS => ?_)
  rw [nI_clamp (Nat.lt_trans hin hn), nF_up, h2] at hP hD
  exact kk H1 locs1 hP hD hS
/-- a field is written -/
theorem pf_n {D : va_G} {a q0 : Nat} {ref C : String} {T : u_T} {N ci : Nat} {fs : List Value} {rest : List Value} {ws2 : va_W} (hx : p.tables.exec = Jvm.exec) (hb : c.code = cc) (hts : ∀ w ∈ Ts, w.before args s = true) (hin : ∀ w ∈ u_ws C T N, w ∈ Ts) (ty0 : Nat → FieldType) (hty : ∀ k, k < N → parseFieldDescriptor (T k).2.2.1 = some (ty0 k)) (hnm : ∀ a, a < N → ∀ b, b < N → a ≠ b → (T a).2.1 ≠ (T b).2.1) (hown : s.vm.findClass own = some m.cls) (hK : KK D tys s) (hP : va_P D vwCl ws H) (hD : va_D A ws) (hS0 : va_S A H0 H locs) (he : ws[q0]? = some (a, .inr (ci, fs))) (hc : vwCl[ci]? = some (C, T, N)) (k : Nat) (hk : k < N) (hlink : Cond.fieldLink own index ref (T k).2.1 (T k).2.2.1 ∈ Ts) (href : ref = (T k).1) (hfin : (T k).2.2.2 = false) {ty : FieldType} {v : Value} (hd : parseFieldDescriptor (T k).2.2.1 = some ty) (hn : narrow ty v = v) (hfit : fits ty v = true) (hl : k < fs.length) (hdg : decode cc pc = .ok (.putfield index, 3)) (h2 : ws.set q0 (a, .inr (ci, fs.set k v)) = ws2)
    (kk : ∀ (H1 : Heap) (locs1 : List Loc), va_P D vwCl ws2 H1 → va_D A ws2 → va_S A H0 H1 locs1 → W p l e R s m args below meth c H1 locs1 cells slots Q (F0 m (pc + 3) ls rest)) : W p l e R s m args below meth c H locs cells slots Q (F0 m pc ls (v :: .ref a :: rest)) := by
  subst h2
  subst href
  exact va_put hx hb hts hin ty0 hty hnm hown hK.1 hP hD hS0 q0 he hc k hk (hts _ hlink) (fun _ h => h) hfin hd hn hfit hl hdg kk
theorem gf_n {D : va_G} {a q0 : Nat} {ref C : String} {T : u_T} {N ci : Nat} {fs : List Value} {rest : List Value} (hx : p.tables.exec = Jvm.exec) (hb : c.code = cc) (hts : ∀ w ∈ Ts, w.before args s = true) (hin : ∀ w ∈ u_ws C T N, w ∈ Ts) (hown : s.vm.findClass own = some m.cls) (hK : KK D tys s) (hP : va_P D vwCl ws H) (he : ws[q0]? = some (a, .inr (ci, fs))) (hc : vwCl[ci]? = some (C, T, N)) (k : Nat) (hk : k < N) (hlink : Cond.fieldLink own index ref (T k).2.1 (T k).2.2.1 ∈ Ts) (href : ref = (T k).1) {v : Value} (hv : fs[k]? = some v) (hdg : decode cc pc = .ok (.getfield index, 3))
    (kk : W p l e R s m args below meth c H locs cells slots Q (F0 m (pc + 3) ls (v :: rest))) : W p l e R s m args below meth c H locs cells slots Q (F0 m pc ls (.ref a :: rest)) := by
  subst href
  exact va_get hx hb hts hin hown hK.1 hP q0 he hc k hk (hts _ hlink) (fun _ h => h) hv hdg kk
end
/-- the worlds' blocks -/
def fX (cI : ClassId) (a : Nat → Nat) (h v w e g s : Nat) (f1 f2 f3 f4 f5 f6 f7 f8 : Nat → Nat) : va_W := [(a 0, .inr (1, [.int (nI h), .int (nI v), .int (nI w), .int (nI e), .int (nI g), .int (nI s), .ref (a 1), .ref (a 2), .ref (a 3), .ref (a 4), .ref (a 5), .ref (a 6), .ref (a 7), .ref (a 8)])), (a 1, .inl (cI, 6, .inl (nF f1))), (a 2, .inl (cI, 6, .inl (nF f2))), (a 3, .inl (cI, 6, .inl (nF f3))), (a 4, .inl (cI, 6, .inl (nF f4))), (a 5, .inl (cI, 5, .inl (nF f5))), (a 6, .inl (cI, 5, .inl (nF f6))), (a 7, .inl (cI, 30, .inl (nF f7))), (a 8, .inl (cI, 30, .inl (nF f8)))]
def bX (b : Nat) (n w : Int32) : va_W := [(b, .inr (0, [.int n, .int w]))]
def sX (b : Nat) (x1 x2 x3 x4 x5 : Nat) : va_W := [(b, .inr (7, [.int (nI x1), .int (nI x2), .int (nI x3), .int (nI x4), .int (nI x5)]))]
def pX (cI : ClassId) (a : Nat → Nat) (f1 f2 : Nat → Nat) (n w : Int32) (x1 x2 x3 x4 x5 : Nat) : va_W := [(a 0, .inr (4, [.ref (a 1), .ref (a 2), .ref (a 3), .ref (a 4)])), (a 1, .inl (cI, 6, .inl (nF f1))), (a 2, .inl (cI, 6, .inl (nF f2))), (a 3, .inr (0, [.int n, .int w])), (a 4, .inr (7, [.int (nI x1), .int (nI x2), .int (nI x3), .int (nI x4), .int (nI x5)]))]
def iaX (cI : ClassId) (a n : Nat) (f : Nat → Nat) : va_W := [(a, .inl (cI, n, .inl (nF f)))]
/-- conditions over counted numbers -/
theorem cn_le {a b : Nat} (ha : a < 2 ^ 31) (hb : b < 2 ^ 31) (h : nI a ≤ nI b) : a ≤ b := (nI_leI ha hb).mp h
theorem cn_nle {a b : Nat} (ha : a < 2 ^ 31) (hb : b < 2 ^ 31) (h : ¬ nI a ≤ nI b) : b < a := Nat.not_le.mp (fun q => h ((nI_leI ha hb).mpr q))
theorem cn_lt {a b : Nat} (ha : a < 2 ^ 31) (hb : b < 2 ^ 31) (h : nI a < nI b) : a < b := (nI_ltI ha hb).mp h
theorem cn_nlt {a b : Nat} (ha : a < 2 ^ 31) (hb : b < 2 ^ 31) (h : ¬ nI a < nI b) : b ≤ a := Nat.not_lt.mp (fun q => h ((nI_ltI ha hb).mpr q))
theorem cn_eq {a b : Nat} (ha : a < 2 ^ 31) (hb : b < 2 ^ 31) (h : nI a = nI b) : a = b := (nI_eq ha hb).mp h
theorem cn_ne {a b : Nat} (h : ¬ nI a = nI b) : ¬ a = b := fun q => h (q ▸ rfl)
theorem cb_z {b : Prop} [Decidable b] (h : (if b then (1 : Int32) else 0) = 0) : ¬ b := fun q => by rw [if_pos q] at h; exact absurd h (by decide)
theorem cb_nz {b : Prop} [Decidable b] (h : ¬ (if b then (1 : Int32) else 0) = 0) : b := Classical.byContradiction (fun q => h (if_neg q))
/-- an array's cell says only what lies in its range -/
theorem at_cg {D : va_G} {cl : List vw_C} {q N : Nat} {cA : ClassId} {f g : Nat → Int32} {H : Heap} (h : va_at D cl (q, .inl (cA, N, .inl f)) H) (hfg : ∀ j, j < N → f j = g j) : va_at D cl (q, .inl (cA, N, .inl g)) H := by
  have e : vp_cell cA (N, .inl f) = vp_cell cA (N, .inl g) := by
    rw [vp_cell_i, vp_cell_i]
    unfold arrV
    congr 1
    congr 1
    funext j
    show Value.int (f j.1) = Value.int (g j.1)
    rw [hfg j.1 j.2]
  show H[q]? = some (vp_cell cA (N, .inl g))
  rw [← e]
  exact h
theorem cg_n {D : va_G} {A : Nat → Prop} {ws ws2 : va_W} {a N : Nat} {cA : ClassId} {f g : Nat → Int32} {H : Heap} (hP : va_P D vwCl ws H) (hD : va_D A ws) (i : Nat) (ha : ws[i]? = some (a, .inl (cA, N, .inl f))) (hfg : ∀ j, j < N → f j = g j) (h2 : ws.set i (a, .inl (cA, N, .inl g)) = ws2) : va_P D vwCl ws2 H ∧ va_D A ws2 := by
  subst h2
  exact ⟨hP.set hD ha (at_cg (hP i _ ha) hfg) (fun _ _ => rfl), hD.set ha⟩
section
variable {p : Program} {l : Launch} {e : Env} {R : Room} {s : State} {m : MethodId} {args : Array Value} {below : List Frame} {meth : Method} {c : Code} {H : Heap} {locs : List Loc} {cells slots pc : Nat} {Q : State → Prop} {D : va_G} {tys : List (ClassId × FieldType)} {A : Nat → Prop} {H0 : Heap} {cc : ByteArray} {own : String} {ls : Array Slot} {ws ws2 : va_W} {index : Nat} {rest : List Value}
/-- a whole array of ints is copied over another one -/
theorem cp_n {q0 q1 t0 N a0 a : Nat} {cA : ClassId} {f g : Nat → Nat} (hx : p.tables.exec = Jvm.exec) (hb : c.code = cc) (hml : c.maxLocals = ls.size) (hown : s.vm.findClass own = some m.cls) (hlink : (Cond.methodLink own index arraycopyName).before args s = true) (hnat : (Cond.native arraycopyName).before args s = true) (hstat : (Cond.static arraycopyName).before args s = true) (hini : (Cond.initialized "java/lang/System").before args s = true)
    (hK : KK D tys s) (hP : va_P D vwCl ws H) (hD : va_D A ws) (hS : va_S A H0 H locs) (ha0 : ws[q0]? = some (a0, .inl (cA, N, .inl (nF f)))) (ha1 : ws[q1]? = some (a, .inl (cA, N, .inl (nF g)))) (ht0 : tys[t0]? = some (cA, .int)) (hN : N < 2 ^ 31) (hframes : 1 ≤ R.frames) (hlocals : (rest.map fun v => v.category).sum + (nativeFrameWords "java/lang/System" "arraycopy" 5 + 11) ≤ R.locals) (hdg : decode cc pc = .ok (.invokestatic index, 3)) (h2 : ws.set q1 (a, .inl (cA, N, .inl (nF f))) = ws2)
    (kk : ∀ (H1 : Heap) (locs1 : List Loc), va_P D vwCl ws2 H1 → va_D A ws2 → va_S A H0 H1 locs1 → W p l e R s m args below meth c H1 locs1 cells slots Q (F0 m (pc + 3) ls rest)) : W p l e R s m args below meth c H locs cells slots Q (F0 m pc ls (.int (nI N) :: .int (nI 0) :: .ref a :: .int (nI 0) :: .ref a0 :: rest)) := by
  subst h2
  have z : (nI 0).toNatClampNeg = 0 := nI_clamp (by decide)
  have zN : (nI N).toNatClampNeg = N := nI_clamp hN
  refine va_copyi hx hb hml hown hlink hnat hstat hini hK.1 hP hD hS q0 q1 t0 t0 ha0 ha1 ht0 ht0 rfl (nI_pos (by decide)) (nI_pos (by decide)) (nI_pos hN) (by rw [z, zN]; omega) (by rw [z, zN]; omega) (fun _ _ => rfl) hframes hlocals hdg (fun H1 locs1 hP hD hS => ?_)
  have hlt : q1 < ws.length := (List.getElem?_eq_some_iff.mp ha1).1
  obtain ⟨hP2, hD2⟩ := cg_n (g := nF f) hP hD q1 (List.getElem?_set_self hlt) (fun j hj => by
    rw [z, zN, pk_cpy_in (Nat.zero_le j) (by omega)]
    congr 1
    omega) (by rw [List.set_set])
  exact kk H1 locs1 hP2 hD2 hS
end
theorem tb_out {x : Int32} {lo hi : Int} (l n : Nat) (h : ∀ j, j < n → ¬ x = nI (l + j)) (hn : l + n < 2 ^ 31) (h1 : lo = (l : Int)) (h2 : hi = (l : Int) + n - 1) : x.toInt < lo ∨ hi < x.toInt := by
  subst h1 h2
  by_cases q : x.toInt < l
  · exact Or.inl q
  · by_cases r : (l : Int) + n - 1 < x.toInt
    · exact Or.inr r
    · exfalso
      refine h (x.toInt.toNat - l) (by omega) ?_
      have e : l + (x.toInt.toNat - l) = x.toInt.toNat := by omega
      rw [e]
      apply Int32.toInt_inj.mp
      rw [nI_toInt (by omega)]
      omega
/-- sums -/
def sumN (f : Nat → Nat) : Nat → Nat
  | 0 => 0
  | n + 1 => sumN f n + f n
theorem sumN_s (f : Nat → Nat) (n : Nat) : sumN f (n + 1) = sumN f n + f n := rfl
theorem sumN_cong {f g : Nat → Nat} : ∀ {n : Nat}, (∀ k, k < n → f k = g k) → sumN f n = sumN g n
  | 0, _ => rfl
  | n + 1, h => by rw [sumN_s, sumN_s, sumN_cong (fun k hk => h k (by omega)), h n (by omega)]
/-- a count -/
def cntN (p : Nat → Bool) : Nat → Nat
  | 0 => 0
  | n + 1 => cntN p n + (if p n = true then 1 else 0)
theorem cntN_le (p : Nat → Bool) : ∀ n, cntN p n ≤ n
  | 0 => Nat.le_refl 0
  | n + 1 => by have := cntN_le p n; rw [cntN]; split <;> omega
/-- filled with one number -/
def filN (x : Nat) (n : Nat) (f : Nat → Nat) : Nat → Nat := fun k => if k < n then x else f k
theorem filN_0 (x : Nat) (f : Nat → Nat) : filN x 0 f = f := by funext k; simp [filN]
theorem filN_s (x : Nat) (n : Nat) (f : Nat → Nat) : va_up (filN x n f) n x = filN x (n + 1) f := by
  funext k
  simp only [va_up, filN]
  by_cases h : k = n
  · subst h; simp
  · by_cases h2 : k < n
    · rw [if_neg h, if_pos h2, if_pos (by omega)]
    · rw [if_neg h, if_neg h2, if_neg (by omega)]
/-- who gets a box -/
abbrev getsB (f2 f4 : Nat → Nat) (h : Nat) : Prop := f4 h = 0 ∧ f2 h < 3
theorem z_t {b : Prop} [Decidable b] (h : b) : nI 1 = if b then 1 else 0 := by rw [if_pos h]; rfl
theorem z_f {b : Prop} [Decidable b] (h : ¬ b) : nI 0 = if b then 1 else 0 := by rw [if_neg h]; rfl
/-- one list of words for all methods: all that the law's walk needs, behind the method's own code -/
def wA (y : MethodName) (c : ByteArray) (n : Nat) (r : Option FieldType) : List Cond := Cond.code y c n r :: wsL_law
theorem goodU0 : wsL_law0.all goodWord = true := by decide +kernel
theorem goodU : ∀ w ∈ wsL_law, goodWord w = true := by
  intro w h
  unfold wsL_law at h
  rcases List.mem_append.mp h with h | h
  · rcases List.mem_append.mp h with h | h
    · rcases List.mem_append.mp h with h | h
      · exact List.all_eq_true.mp goodU0 w h
      · exact (List.mem_filter.mp h).2
    · exact (List.mem_filter.mp h).2
  · exact (List.mem_filter.mp h).2
theorem gU {y y' : MethodName} {c c' : ByteArray} {n n' : Nat} {r r' : Option FieldType} (h : Cond.code y' c' n' r' ∈ wsL_law) : GoodIn (wA y c n r) (wA y' c' n' r') := by
  intro w hw
  rcases List.mem_cons.mp hw with rfl | hw
  · exact ⟨List.mem_cons_of_mem _ h, good_of_word (goodU _ h)⟩
  · exact ⟨List.mem_cons_of_mem _ hw, good_of_word (goodU _ hw)⟩
theorem gU1 {y : MethodName} {c : ByteArray} {n : Nat} {r : Option FieldType} {w : Cond} (h : w ∈ wsL_law) : w ∈ wA y c n r ∧ ((w.onTables && w.keeps) = true ∨ ∃ ty, w = .arrayClass ty) := ⟨List.mem_cons_of_mem _ h, good_of_word (goodU _ h)⟩
theorem gUV {own C : String} {idx : Nat} {y y' : MethodName} {c c' : ByteArray} {n n' : Nat} {r r' : Option FieldType} (h1 : Cond.methodLink own idx y' ∈ wsL_law) (h2 : Cond.instanceMethod y' ∈ wsL_law) (h3 : Cond.selects C y' y' ∈ wsL_law) (h4 : Cond.initialized C ∈ wsL_law) (h : Cond.code y' c' n' r' ∈ wsL_law) : GoodIn (wA y c n r) (wsV own idx C y' (wA y' c' n' r')) := by
  intro w hw
  unfold wsV at hw
  simp only [List.cons_append, List.nil_append, List.mem_cons] at hw
  rcases hw with rfl | rfl | rfl | rfl | hw
  · exact gU1 h1
  · exact gU1 h2
  · exact gU1 h3
  · exact gU1 h4
  · exact gU h w hw
theorem gUS {own : String} {idx : Nat} {y y' : MethodName} {c c' : ByteArray} {n n' : Nat} {r r' : Option FieldType} (h1 : Cond.methodLink own idx y' ∈ wsL_law) (h2 : Cond.static y' ∈ wsL_law) (h3 : Cond.initialized y'.cls ∈ wsL_law) (h : Cond.code y' c' n' r' ∈ wsL_law) : GoodIn (wA y c n r) (va_wsS own idx y' (wA y' c' n' r')) := by
  intro w hw
  unfold va_wsS at hw
  simp only [List.cons_append, List.nil_append, List.mem_cons] at hw
  rcases hw with rfl | rfl | rfl | hw
  · exact gU1 h1
  · exact gU1 h2
  · exact gU1 h3
  · exact gU h w hw
theorem iU {L : List Cond} {y : MethodName} {c : ByteArray} {n : Nat} {r : Option FieldType} (h : ∀ w ∈ L, w ∈ wsL_law) : ∀ w ∈ L, w ∈ wA y c n r := fun w hw => List.mem_cons_of_mem _ (h w hw)
theorem kU {y : MethodName} {c : ByteArray} {n : Nat} {r : Option FieldType} {w : Cond} (h : w ∈ wsL_law) : w ∈ wA y c n r := List.mem_cons_of_mem _ h

