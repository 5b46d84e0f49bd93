/-! Worlds as blocks in any order: a call's world is a part of the caller's, the rest stays. -/
theorem pm_P {D : va_G} {cl : List vw_C} {ws : va_W} {H : Heap} : va_P D cl ws H ↔ ∀ q ∈ ws, va_at D cl q H :=
  ⟨fun h q hq => by obtain ⟨i, hi⟩ := List.getElem?_of_mem hq; exact h i q hi, fun h k q hk => h q (List.mem_of_getElem? hk)⟩
theorem pm_D {A : Nat → Prop} {ws : va_W} : va_D A ws ↔ List.Pairwise (fun a b : Nat => a ≠ b) (ws.map Prod.fst) ∧ ∀ q ∈ ws, A q.1 := by
  constructor
  · intro h
    refine ⟨List.pairwise_iff_getElem.mpr (fun i j hi hj hij e => ?_), fun q hq => ?_⟩
    · rw [List.getElem_map, List.getElem_map] at e
      rw [List.length_map] at hi hj
      have := h.1 i j _ _ (List.getElem?_eq_getElem hi) (List.getElem?_eq_getElem hj) e
      omega
    · obtain ⟨i, hi⟩ := List.getElem?_of_mem hq
      exact h.2 i q hi
  · rintro ⟨h1, h2⟩
    refine ⟨fun i j x y hi hj e => ?_, fun k q hk => h2 q (List.mem_of_getElem? hk)⟩
    obtain ⟨li, ei⟩ := List.getElem?_eq_some_iff.mp hi
    obtain ⟨lj, ej⟩ := List.getElem?_eq_some_iff.mp hj
    have h3 := List.pairwise_iff_getElem.mp h1
    rcases Nat.lt_trichotomy i j with q | q | q
    · refine absurd ?_ (h3 i j (by rw [List.length_map]; exact li) (by rw [List.length_map]; exact lj) q)
      rw [List.getElem_map, List.getElem_map, ei, ej]; exact e
    · exact q
    · refine absurd ?_ (h3 j i (by rw [List.length_map]; exact lj) (by rw [List.length_map]; exact li) q)
      rw [List.getElem_map, List.getElem_map, ei, ej]; exact e.symm
theorem pm_Pof {D : va_G} {cl : List vw_C} {ws ws2 : va_W} {H : Heap} (hp : ws.Perm ws2) (h : va_P D cl ws H) : va_P D cl ws2 H := pm_P.mpr (fun q hq => pm_P.mp h q (hp.mem_iff.mpr hq))
theorem pm_pw {l l' : List Nat} (hp : l.Perm l') (h : List.Pairwise (fun a b : Nat => a ≠ b) l) : List.Pairwise (fun a b : Nat => a ≠ b) l' := hp.pairwise h (fun {x y} q => Ne.symm q)
theorem pm_Dof {A : Nat → Prop} {ws ws2 : va_W} (hp : ws.Perm ws2) (h : va_D A ws) : va_D A ws2 := pm_D.mpr ⟨pm_pw (hp.map Prod.fst) (pm_D.mp h).1, fun q hq => (pm_D.mp h).2 q (hp.mem_iff.mpr hq)⟩
theorem pm_in {ws : va_W} {q : Nat} (h : ∃ (k : Nat) (e : va_E), ws[k]? = some (q, e)) : ∃ e, (q, e) ∈ ws := by
  obtain ⟨k, e, h⟩ := h
  exact ⟨e, List.mem_of_getElem? h⟩
theorem pm_app {A : Nat → Prop} {w1 w2 : va_W} (h : va_D A (w1 ++ w2)) : va_D A w1 ∧ va_D A w2 ∧ ∀ x ∈ w1, ∀ y ∈ w2, x.1 ≠ y.1 := by
  obtain ⟨h1, h2⟩ := pm_D.mp h
  rw [List.map_append] at h1
  obtain ⟨a1, a2, a3⟩ := List.pairwise_append.mp h1
  exact ⟨pm_D.mpr ⟨a1, fun q hq => h2 q (List.mem_append_left _ hq)⟩, pm_D.mpr ⟨a2, fun q hq => h2 q (List.mem_append_right _ hq)⟩, fun x hx y hy => a3 _ (List.mem_map_of_mem hx) _ (List.mem_map_of_mem hy)⟩
theorem pm_join {A0 : Nat → Prop} {D : va_G} {cl : List vw_C} {ws wc wr w1 : va_W} {H H1 : Heap} (hP : va_P D cl ws H) (hD : va_D A0 ws) (hp : ws.Perm (wc ++ wr)) (hw : w1.map Prod.fst = wc.map Prod.fst)
    (hk : ∀ q : Nat, q < H.size → ¬ va_A wc H.size q → H1[q]? = H[q]?) (hP1 : va_P D cl w1 H1) : va_P D cl (w1 ++ wr) H1 ∧ va_D A0 (w1 ++ wr) := by
  have hP' := pm_Pof hp hP
  have hD' := pm_Dof hp hD
  obtain ⟨-, -, hx⟩ := pm_app hD'
  refine ⟨pm_P.mpr (fun q hq => ?_), pm_D.mpr ⟨?_, fun q hq => ?_⟩⟩
  · rcases List.mem_append.mp hq with h | h
    · exact pm_P.mp hP1 q h
    · have h1 := pm_P.mp hP' q (List.mem_append_right _ h)
      refine h1.kept (hk q.1 h1.lt ?_)
      rintro (z | z)
      · obtain ⟨e, he⟩ := pm_in z
        exact hx _ he _ h rfl
      · have := h1.lt
        omega
  · have h1 := (pm_D.mp hD').1
    rw [List.map_append] at h1 ⊢
    rw [hw]
    exact h1
  · have h1 : q.1 ∈ (w1 ++ wr).map Prod.fst := List.mem_map_of_mem hq
    rw [List.map_append, hw, ← List.map_append] at h1
    obtain ⟨q2, h2, h3⟩ := List.mem_map.mp h1
    rw [← h3]
    exact (pm_D.mp hD').2 q2 h2
theorem pm_free {A0 : Nat → Prop} {ws wc wr : va_W} {H0 H : Heap} {locs : List Loc} (hD : va_D A0 ws) (hS : va_S A0 H0 H locs) (hA : ∀ q, H0.size ≤ q → A0 q) (hp : ws.Perm (wc ++ wr)) : ∀ q, va_A wc H.size q → A0 q := by
  rintro q (h | h)
  · obtain ⟨e, he⟩ := pm_in h
    exact (pm_D.mp hD).2 (q, e) (hp.mem_iff.mpr (List.mem_append_left _ he))
  · exact hA q (Nat.le_trans hS.1 h)
section
variable {p : Program} {l : Launch} {e : Env} {R : Room} {s : State} {m : MethodId} {args : Array Value} {below : List Frame} {meth : Method} {c : Code} {H : Heap} {locs : List Loc} {Q : State → Prop} {D : va_G} {tys : List (ClassId × FieldType)} {A : Nat → Prop}
theorem gp_any {S : Type} {cells slots pc : Nat} {ls : Array Slot} {rest st0 st1 : List Value} {H0 : Heap} {rv : Option Value} {ws wc wr : va_W} {w1 : S → va_W} {a : Array Value} (hr : va_Run p l e R s m args below meth c H locs cells slots 0 0 (F0 m pc ls st0) rest (CQ D rv w1 (va_A wc H.size) a) (va_A wc H.size)) (hS : va_S A H0 H locs) (hA : ∀ q, H0.size ≤ q → A q) (hP : va_P D vwCl ws H) (hD : va_D A ws) (hp : ws.Perm (wc ++ wr)) (hw : ∀ u, (w1 u).map Prod.fst = wc.map Prod.fst) (hst : rv.toList ++ rest = st1)
    {ws2 : S → va_W} (h2 : ∀ u, (w1 u ++ wr).Perm (ws2 u)) (kk : ∀ (u : S) (H1 : Heap) (locs1 : List Loc), va_P D vwCl (ws2 u) H1 → va_D A (ws2 u) → va_S A H0 H1 locs1 → W p l e R s m args below meth c H1 locs1 cells slots Q (F0 m (pc + 3) ls st1)) : W p l e R s m args below meth c H locs cells slots Q (F0 m pc ls st0) := by
  subst hst
  have hf : ∀ q, va_A wc H.size q → A q := pm_free hD hS hA hp
  intro T hT X
  obtain ⟨v, st₀, t, T', L, h0, X', hL, e1, e2, ⟨⟨hv, u, hpp⟩, hz, hk⟩, st⟩ := hr T hT X
  cases hv
  rw [h0] at hz hk
  have hk' : ∀ q : Nat, q < H.size → ¬ va_A wc H.size q → T'.heap[q]? = H[q]? := fun q h1 h2 => by rw [e1]; exact hk q h1 h2
  obtain ⟨hP2, hD2⟩ := pm_join hP hD hp (hw u) hk' (by rw [e1]; exact hpp)
  obtain ⟨t2, a1, b1⟩ := kk u T'.heap (locs ++ L) (pm_Pof (h2 u) hP2) (pm_Dof (h2 u) hD2)
    ⟨Nat.le_trans hS.1 (by rw [e1]; exact hz), fun q h1 h2 => by rw [hk' q (Nat.lt_of_lt_of_le h1 hS.1) (fun z => h2 (hf q z))]; exact hS.2.1 q h1 h2, fun q hq => by
      rcases List.mem_append.mp hq with h | h
      · exact hS.2.2 q h
      · exact hf _ (hL q h)⟩ T' rfl X'
  exact ⟨t2, st t2 a1, b1⟩
end
section
variable {p : Program} {l : Launch} {e : Env} {R : Room} {s : State} {m : MethodId} {args : Array Value} {below : List Frame} {meth : Method} {c : Code} {H : Heap} {locs : List Loc} {cells slots pc : Nat} {Q : State → Prop} {D : va_G} {tys : List (ClassId × FieldType)} {A : Nat → Prop} {H0 : Heap} {cc : ByteArray} {nL : Nat} {Ts : List Cond} {own : String} {ls : Array Slot} {ws wc wr : va_W} {rv : Option Value} {y : MethodName} {w w' : List Cond} {rm : Room} {bytes : ByteArray} {maxL index : Nat} {ret : Option FieldType} {As rest st1 : List Value}
theorem cp_pre {av : List Value} (hK : KK D tys s) (hP : va_P D vwCl ws H) (hD : va_D A ws) (hp : ws.Perm (wc ++ wr)) : ∀ U : State, U.heap = H → s.WarmedH U.vm → CP D tys av wc H.size av.toArray U := by
  intro U hU hW
  refine ⟨rfl, by rw [hU], by rw [hU]; exact pm_P.mpr (fun q hq => pm_P.mp hP q (hp.mem_iff.mpr (List.mem_append_left _ hq))), hK.warm hW, (pm_app (pm_Dof hp hD)).1.weaken (fun _ _ _ _ => trivial)⟩
theorem gp_V {S : Type} {w1 : S → va_W} {b : Addr} {C : String} {ci q0 : Nat} {fs : List Value} {cq : vw_C} (hM : CT l D tys y w rm (.ref b :: As) wc rv w1) (hg : GoodIn Ts (wsV own index C y w)) (hw0 : w = Cond.code y bytes maxL ret :: w') (hd : y.cls = C ∧ y.cls ≠ "java/lang/invoke/MethodHandle" ∧ y.cls ≠ "java/lang/invoke/VarHandle" ∧ (parseMethodDescriptor y.desc).map (fun d => d.parameters.length) = some As.length) (hR : rm.frames + 1 ≤ R.frames ∧ 8 + (maxL + 11) + rm.locals ≤ R.locals) (hrm : rm.cells = 0 ∧ rm.slots = 0)
    (hx : p.tables.exec = Jvm.exec) (hb : c.code = cc) (hml : c.maxLocals = nL) (hown : s.vm.findClass own = some m.cls) (hts : ∀ x ∈ Ts, x.before args s = true) (hK : KK D tys s) (hA : ∀ q, H0.size ≤ q → A q) (hP : va_P D vwCl ws H) (hD : va_D A ws) (hS : va_S A H0 H locs) (hls : ls.size = nL) (hcells : cells + 0 ≤ R.cells ∧ slots + 0 ≤ R.slots)
    (hc : vwCl[ci]? = some cq) (hcC : cq.1 = C) (he : wc[q0]? = some (b, .inr (ci, fs))) (hp : ws.Perm (wc ++ wr)) (hw : ∀ u, (w1 u).map Prod.fst = wc.map Prod.fst) {st0 : List Value} (hst0 : st0 = As.reverse ++ .ref b :: rest) (hst : rv.toList ++ rest = st1) (hroom : (rest.map fun v => v.category).sum ≤ 8) (hdg : decode cc pc = .ok (.invokevirtual index, 3))
    {ws2 : S → va_W} (h2 : ∀ u, (w1 u ++ wr).Perm (ws2 u)) (kk : ∀ (u : S) (H1 : Heap) (locs1 : List Loc), va_P D vwCl (ws2 u) H1 → va_D A (ws2 u) → va_S A H0 H1 locs1 → W p l e R s m args below meth c H1 locs1 cells slots Q (F0 m (pc + 3) ls st1)) : W p l e R s m args below meth c H locs cells slots Q (F0 m pc ls st0) := by
  subst hst0
  refine gp_any (va_runV (C := C) (As := As) (rest := rest) (mc := 0) (ms := 0) (maxL := maxL) (ret := ret) (bytes := bytes) ⟨hx, hb, hml, hown, hts⟩ (hM H.size) (cwV As.length hts hg hw0 hrm.1 hrm.2 hd hR) ⟨CP_blind, by
    obtain ⟨cell, h1, h2, h3⟩ := va_recv (ws := wc) hK.1 (pm_P.mpr (fun q hq => pm_P.mp hP q (hp.mem_iff.mpr (List.mem_append_left _ hq)))) hc he
    exact ⟨cell, h1, h2, by rw [← hcC]; exact h3⟩, cp_pre hK hP hD hp⟩ rfl rfl hls rfl (lv_room hroom) hdg hcells) hS hA hP hD hp hw hst h2 kk
theorem gp_S {S : Type} {w1 : S → va_W} (hM : CT l D tys y w rm As wc rv w1) (hg : GoodIn Ts (va_wsS own index y w)) (hw0 : w = Cond.code y bytes maxL ret :: w') (hd : y.cls ≠ "java/lang/invoke/MethodHandle" ∧ y.cls ≠ "java/lang/invoke/VarHandle" ∧ (parseMethodDescriptor y.desc).map (fun d => d.parameters.length) = some As.length) (hR : rm.frames + 1 ≤ R.frames ∧ 8 + (maxL + 11) + rm.locals ≤ R.locals) (hrm : rm.cells = 0 ∧ rm.slots = 0)
    (hx : p.tables.exec = Jvm.exec) (hb : c.code = cc) (hml : c.maxLocals = nL) (hown : s.vm.findClass own = some m.cls) (hts : ∀ x ∈ Ts, x.before args s = true) (hK : KK D tys s) (hA : ∀ q, H0.size ≤ q → A q) (hP : va_P D vwCl ws H) (hD : va_D A ws) (hS : va_S A H0 H locs) (hls : ls.size = nL) (hcells : cells + 0 ≤ R.cells ∧ slots + 0 ≤ R.slots)
    (hp : ws.Perm (wc ++ wr)) (hw : ∀ u, (w1 u).map Prod.fst = wc.map Prod.fst) {st0 : List Value} (hst0 : st0 = As.reverse ++ rest) (hst : rv.toList ++ rest = st1) (hroom : (rest.map fun v => v.category).sum ≤ 8) (hdg : decode cc pc = .ok (.invokestatic index, 3))
    {ws2 : S → va_W} (h2 : ∀ u, (w1 u ++ wr).Perm (ws2 u)) (kk : ∀ (u : S) (H1 : Heap) (locs1 : List Loc), va_P D vwCl (ws2 u) H1 → va_D A (ws2 u) → va_S A H0 H1 locs1 → W p l e R s m args below meth c H1 locs1 cells slots Q (F0 m (pc + 3) ls st1)) : W p l e R s m args below meth c H locs cells slots Q (F0 m pc ls st0) := by
  subst hst0
  exact gp_any (va_runS (As := As) (rest := rest) (mc := 0) (ms := 0) (maxL := maxL) (ret := ret) (bytes := bytes) ⟨hx, hb, hml, hown, hts⟩ (hM H.size) (va_cwS As.length hts hg hw0 hrm.1 hrm.2 hd hR) ⟨CP_blind, cp_pre hK hP hD hp⟩ rfl rfl hls rfl (lv_room hroom) hdg hcells) hS hA hP hD hp hw hst h2 kk
theorem gp_SN {S : Type} {w1 : S → va_W} {ni : Nat} (hM : CT l D tys y w rm As wc rv w1) (hg : GoodIn Ts w) (hw0 : w = Cond.code y bytes maxL ret :: w') (hd : y.cls ≠ "java/lang/invoke/MethodHandle" ∧ y.cls ≠ "java/lang/invoke/VarHandle" ∧ (parseMethodDescriptor y.desc).map (fun d => d.parameters.length) = some As.length) (hR : rm.frames + 1 ≤ R.frames ∧ 8 + (maxL + 11) + rm.locals ≤ R.locals) (hrm : rm.cells = 0 ∧ rm.slots = 0)
    (hlk : nestW[ni]? = some (own, index, y)) (hini : (Cond.initialized y.cls).before args s = true) (hstt : (Cond.static y).before args s = true)
    (hx : p.tables.exec = Jvm.exec) (hb : c.code = cc) (hml : c.maxLocals = nL) (hown : s.vm.findClass own = some m.cls) (hts : ∀ x ∈ Ts, x.before args s = true) (hK : KK D tys s) (hA : ∀ q, H0.size ≤ q → A q) (hP : va_P D vwCl ws H) (hD : va_D A ws) (hS : va_S A H0 H locs) (hls : ls.size = nL) (hcells : cells + 0 ≤ R.cells ∧ slots + 0 ≤ R.slots)
    (hp : ws.Perm (wc ++ wr)) (hw : ∀ u, (w1 u).map Prod.fst = wc.map Prod.fst) {st0 : List Value} (hst0 : st0 = As.reverse ++ rest) (hst : rv.toList ++ rest = st1) (hroom : (rest.map fun v => v.category).sum ≤ 8) (hdg : decode cc pc = .ok (.invokestatic index, 3))
    {ws2 : S → va_W} (h2 : ∀ u, (w1 u ++ wr).Perm (ws2 u)) (kk : ∀ (u : S) (H1 : Heap) (locs1 : List Loc), va_P D vwCl (ws2 u) H1 → va_D A (ws2 u) → va_S A H0 H1 locs1 → W p l e R s m args below meth c H1 locs1 cells slots Q (F0 m (pc + 3) ls st1)) : W p l e R s m args below meth c H locs cells slots Q (F0 m pc ls st0) := by
  subst hst0
  exact gp_any (va_runSN (As := As) (rest := rest) (mc := 0) (ms := 0) (maxL := maxL) (ret := ret) (bytes := bytes) ⟨hx, hb, hml, hown, hts⟩ (hM H.size) ⟨va_cnB As.length hts hg hw0 hrm.1 hrm.2 (hK.2.at ni hlk) hini hd hR, hstt, trivial⟩ ⟨CP_blind, cp_pre hK hP hD hp⟩ rfl rfl hls rfl (lv_room hroom) hdg hcells) hS hA hP hD hp hw hst h2 kk
end
noncomputable def deqW : DecidableEq (Nat × va_E) := fun a b => Classical.propDecidable (a = b)
theorem pm_cnt {a b : va_W} (h : ∀ f : Nat × va_E → Bool, a.countP f = b.countP f) : a.Perm b := by
  exact (@List.perm_iff_count _ (@instBEqOfDecidableEq _ deqW) (by letI := deqW; infer_instance) a b).mpr (fun x => h _)
/-- a farm as one value, a block -/
def fT (cI : ClassId) (a : Nat → Nat) (T : Nat → Nat → Nat) : va_W := fX cI a (T 0 0) (T 0 1) (T 0 2) (T 0 3) (T 0 4) (T 0 5) (T 1) (T 2) (T 3) (T 4) (T 5) (T 6) (T 7) (T 8)
theorem fX_m (cI : ClassId) (a : Nat → Nat) (h v w e g s : Nat) (f1 f2 f3 f4 f5 f6 f7 f8 : Nat → Nat) : (fX cI a h v w e g s f1 f2 f3 f4 f5 f6 f7 f8).map Prod.fst = [a 0, a 1, a 2, a 3, a 4, a 5, a 6, a 7, a 8] := rfl
theorem fT_m (cI : ClassId) (a : Nat → Nat) (T : Nat → Nat → Nat) : (fT cI a T).map Prod.fst = [a 0, a 1, a 2, a 3, a 4, a 5, a 6, a 7, a 8] := rfl
theorem bX_m (b : Nat) (n w : Int32) : (bX b n w).map Prod.fst = [b] := rfl
theorem sX_m (b : Nat) (x1 x2 x3 x4 x5 : Nat) : (sX b x1 x2 x3 x4 x5).map Prod.fst = [b] := rfl
theorem pX_m (cI : ClassId) (a : Nat → Nat) (f1 f2 : Nat → Nat) (n w : Int32) (x1 x2 x3 x4 x5 : Nat) : (pX cI a f1 f2 n w x1 x2 x3 x4 x5).map Prod.fst = [a 0, a 1, a 2, a 3, a 4] := rfl
theorem iaX_m (cI : ClassId) (a n : Nat) (f : Nat → Nat) : (iaX cI a n f).map Prod.fst = [a] := rfl
theorem r5X_m (r : Nat) (a b : Nat → Nat) : (r5X r a b).map Prod.fst = [r] := rfl
theorem r6X_m (r : Nat) (a b : Nat → Nat) (x : Int64) : (r6X r a b x).map Prod.fst = [r] := rfl
/-- the states before: the ring's object and row, and the farms in it -/
def hX (cF : ClassId) (r ra : Nat) (pa : Nat → Nat → Nat) (cnt nx : Nat) : va_W := [(r, .inr (3, [.ref ra, .int (nI cnt), .int (nI nx)])), (ra, .inl (cF, 14, .inr (.inr (.inr (.inr (fun i => some (pa i 0)))))))]
theorem hX_m (cF : ClassId) (r ra : Nat) (pa : Nat → Nat → Nat) (cnt nx : Nat) : (hX cF r ra pa cnt nx).map Prod.fst = [r, ra] := rfl
def fsB (cI : ClassId) (pa : Nat → Nat → Nat) (Ts : Nat → Nat → Nat → Nat) : Nat → va_W
  | 0 => []
  | n + 1 => fsB cI pa Ts n ++ fT cI (pa n) (Ts n)
/-- all but one -/
def fsR (cI : ClassId) (pa : Nat → Nat → Nat) (Ts : Nat → Nat → Nat → Nat) (i : Nat) : Nat → va_W
  | 0 => []
  | n + 1 => if n = i then fsR cI pa Ts i n else fsR cI pa Ts i n ++ fT cI (pa n) (Ts n)
theorem fsB_m (cI : ClassId) (pa : Nat → Nat → Nat) (Ts Ts' : Nat → Nat → Nat → Nat) : ∀ n, (fsB cI pa Ts n).map Prod.fst = (fsB cI pa Ts' n).map Prod.fst
  | 0 => rfl
  | n + 1 => by rw [fsB, fsB, List.map_append, List.map_append, fsB_m cI pa Ts Ts' n, fT_m, fT_m]
theorem fsR_lo (cI : ClassId) (pa : Nat → Nat → Nat) (Ts : Nat → Nat → Nat → Nat) (i : Nat) (T' : Nat → Nat → Nat) : ∀ n, n ≤ i → fsB cI pa (va_up Ts i T') n = fsR cI pa Ts i n
  | 0, _ => rfl
  | n + 1, h => by
    rw [fsB, fsR, if_neg (show ¬ n = i by omega), fsR_lo cI pa Ts i T' n (by omega)]
    congr 2
    exact if_neg (show ¬ n = i by omega)
theorem fsB_up (cI : ClassId) (pa : Nat → Nat → Nat) (Ts : Nat → Nat → Nat → Nat) (i : Nat) (T' : Nat → Nat → Nat) : ∀ n, i < n → (fsB cI pa (va_up Ts i T') n).Perm (fT cI (pa i) T' ++ fsR cI pa Ts i n)
  | 0, h => absurd h (Nat.not_lt_zero _)
  | n + 1, h => by
    rw [fsB, fsR]
    by_cases q : n = i
    · subst q
      rw [if_pos rfl, fsR_lo cI pa Ts n T' n (Nat.le_refl _), show va_up Ts n T' n = T' from if_pos rfl]
      exact pm_cnt (fun _ => by simp only [List.countP_append]; omega)
    · rw [if_neg q, show va_up Ts i T' n = Ts n from if_neg q]
      have ih := fsB_up cI pa Ts i T' n (by omega)
      exact (ih.append_right _).trans (pm_cnt (fun _ => by simp only [List.countP_append]; omega))
theorem up_id {α : Type} (f : Nat → α) (i : Nat) : va_up f i (f i) = f := by
  funext k
  show (if k = i then f i else f k) = f k
  split
  · next h => rw [h]
  · rfl
theorem fsB_out (cI : ClassId) (pa : Nat → Nat → Nat) (Ts : Nat → Nat → Nat → Nat) (i n : Nat) (h : i < n) : (fsB cI pa Ts n).Perm (fT cI (pa i) (Ts i) ++ fsR cI pa Ts i n) := by
  have h1 := fsB_up cI pa Ts i (Ts i) n h
  rw [up_id] at h1
  exact h1
section
variable {p : Program} {l : Launch} {e : Env} {R : Room} {s : State} {m : MethodId} {args : Array Value} {below : List Frame} {meth : Method} {c : Code} {H : Heap} {locs : List Loc} {cells slots pc : Nat} {Q : State → Prop} {D : va_G} {tys : List (ClassId × FieldType)} {cc : ByteArray} {ls : Array Slot} {ws : va_W}
theorem aa_n {a q0 t0 n i v : Nat} {cA : ClassId} {C : String} {f : Nat → Option Nat} {rest : List Value} (hx : p.tables.exec = Jvm.exec) (hb : c.code = cc) (hK : KK D tys s) (hP : va_P D vwCl ws H) (ha : ws[q0]? = some (a, .inl (cA, n, .inr (.inr (.inr (.inr f)))))) (ht : tys[t0]? = some (cA, .object C)) (hin : i < n) (hn : n < 2 ^ 31) (hf : f i = some v) (hdg : decode cc pc = .ok (.aaload, 1))
    (kk : W p l e R s m args below meth c H locs cells slots Q (F0 m (pc + 1) ls (.ref v :: rest))) : W p l e R s m args below meth c H locs cells slots Q (F0 m pc ls (.int (nI i) :: .ref a :: rest)) := by
  refine va_aldq hx hb hK.1 hP q0 t0 ha ht (vp_in_nI hin hn) hdg ?_
  rw [nI_clamp (Nat.lt_trans hin hn), hf]
  exact kk
end

