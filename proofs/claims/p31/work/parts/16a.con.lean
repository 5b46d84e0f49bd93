/-! Constructors: contracts of methods that make cells. -/
def cFM : String := "HarvestBoxes$Farm"
def CPN (D : va_G) (tys : List (ClassId × FieldType)) (av : List Value) (ws : va_W) (sz : Nat) : Array Value → State → Prop := va_Pc av (fun U => U.heap.size = sz ∧ va_P D vwCl ws U.heap ∧ KK D tys U ∧ va_D (fun _ => True) ws ∧ va_AO cFM U)
def CQN {S : Type} (D : va_G) (ws' : S → va_W) (A : Nat → Prop) : Array Value → State → Outcome → State → Prop := fun _ st oc t => (oc = .returned none ∧ ∃ u : S, va_P D vwCl (ws' u) t.heap ∧ va_D A (ws' u)) ∧ va_F A st t
def CTN {S : Type} (l : Launch) (D : va_G) (tys : List (ClassId × FieldType)) (y : MethodName) (w : List Cond) (rm : Room) (av : List Value) (ws : va_W) (ws' : S → va_W) : Prop :=
  ∀ sz : Nat, Met l y w rm (CPN D tys av ws sz) (CQN D ws' (va_A ws sz)) rm.cells rm.slots (va_A ws sz)
abbrev rmN (f mc ms lo : Nat) : Room := { frames := f, cells := mc, slots := ms, locals := lo }
theorem CPN_blind {D : va_G} {tys : List (ClassId × FieldType)} {av : List Value} {ws : va_W} {sz : Nat} : FrameBlind (CPN D tys av ws sz) := fun a U g mk q => by
  obtain ⟨q0, q1, qP, qK, qD, qX⟩ := q
  exact ⟨q0, q1, qP, KK.same (s := U) (U := U.calling g mk a) rfl qK, qD, va_AO.moved (u := U) (U := U.calling g mk a) (Vm.Alike.refl U.vm) qX⟩
theorem cn_in {S : Type} {l : Launch} {D : va_G} {tys : List (ClassId × FieldType)} {y : MethodName} {w w' : List Cond} {rm : Room} {av : List Value} {ws : va_W} {ws' : S → va_W} {cc : ByteArray} {maxL : Nat} {own : String} {lv : List (Nat × Value)}
    (hy : plainName y.cls = true) (hyi : y.name = "<init>") (hw : w = Cond.code y cc maxL none :: w') (hown : y.cls = own) (hav : (lg_sl av).length ≤ maxL) (hlv : lv_args 0 av = lv)
    (body : ∀ (p : Program) (e : Env) (s : State) (m : MethodId) (args : Array Value) (below : List Frame) (meth : Method) (c : Code) (A : Nat → Prop) (ls : Array Slot), p.tables.exec = Jvm.exec → c.code = cc → meth.sig.returnType = none → c.maxLocals = maxL → (∀ x ∈ w, x.before args s = true) → s.vm.findClass own = some m.cls → meth.locks = false → KK D tys s → (∀ q, s.heap.size ≤ q → A q) → va_P D vwCl ws s.heap → va_D A ws → va_S A s.heap s.heap [] → lv_has ls maxL lv → meth.name = "<init>" → va_AO cFM s →
      W p l e rm s m args below meth c s.heap [] 0 0 (MQ below (CQN D ws' A) args s rm.cells rm.slots A) (F0 m 0 ls [])) : CTN l D tys y w rm av ws ws' := by
  intro sz
  refine Met.ofW (cc := cc) (maxL := maxL) (ret := none) hy hw ?_
  intro p e s m args below meth c s₁ B hml hv
  obtain ⟨rfl, hsz, hP, hK, hD0, hX⟩ := hv
  have hts := atoms_spec (ws := w) B.pre
  have hfc : s.vm.findClass y.cls = some m.cls := findClass_of_methodNamed B.named
  rw [hown] at hfc
  have hin : meth.name = "<init>" := (name_of_methodNamed B.named B.method).1.trans hyi
  subst hsz
  have hl := lv_entry av (n := maxL) hav
  rw [hlv] at hl
  rw [lg_entry_eq]
  exact body p e s m av.toArray below meth c _ _ B.exec B.bytes B.returns hml hts hfc B.notSynchronized hK (fun q h => Or.inr h) hP (hD0.self (sz := s.heap.size)) va_S.rf hl hin hX
theorem pm_joinN {A0 : Nat → Prop} {D : va_G} {cl : List vw_C} {ws wc wr w1 : va_W} {H H1 : Heap} (hP : va_P D cl ws H) (hD : va_D A0 ws) (hp : ws.Perm (wc ++ wr)) (hF : ∀ q, va_A wc H.size q → A0 q)
    (hk : ∀ q : Nat, q < H.size → ¬ va_A wc H.size q → H1[q]? = H[q]?) (hP1 : va_P D cl w1 H1) (hD1 : va_D (va_A wc H.size) w1) : va_P D cl (w1 ++ wr) H1 ∧ va_D A0 (w1 ++ wr) := by
  have hP' := pm_Pof hp hP
  have hD' := pm_Dof hp hD
  obtain ⟨-, hDr, hx⟩ := pm_app hD'
  have apart : ∀ q ∈ wr, q.1 < H.size ∧ ¬ va_A wc H.size q.1 := by
    intro q hq
    have h1 := pm_P.mp hP' q (List.mem_append_right _ hq)
    refine ⟨h1.lt, ?_⟩
    rintro (z | z)
    · obtain ⟨e, he⟩ := pm_in z
      exact hx _ he _ hq rfl
    · have := h1.lt
      omega
  refine ⟨pm_P.mpr (fun q hq => ?_), pm_D.mpr ⟨?_, fun q hq => ?_⟩⟩
  · rcases List.mem_append.mp hq with h | h
    · exact pm_P.mp hP1 q h
    · exact (pm_P.mp hP' q (List.mem_append_right _ h)).kept (hk q.1 (apart q h).1 (apart q h).2)
  · rw [List.map_append]
    refine List.pairwise_append.mpr ⟨(pm_D.mp hD1).1, (pm_D.mp hDr).1, fun a ha b hb e => ?_⟩
    obtain ⟨x, hx1, rfl⟩ := List.mem_map.mp ha
    obtain ⟨y, hy1, rfl⟩ := List.mem_map.mp hb
    exact (apart y hy1).2 (by rw [← e]; exact (pm_D.mp hD1).2 x hx1)
  · rcases List.mem_append.mp hq with h | h
    · exact hF _ ((pm_D.mp hD1).2 q h)
    · exact (pm_D.mp hDr).2 q h
/-- one array class to a kind -/
theorem cls_one {D : va_G} {tys : List (ClassId × FieldType)} {s : State} {cA : ClassId} {ty : FieldType} {k : Nat} {cI : ClassId} (hK : KK D tys s) (hK2 : va_K D vwCl (tys ++ [(cA, ty)]) s) (h : tys[k]? = some (cI, ty)) : cA = cI := by
  have h1 := (hK.1.2 k _ h).2
  have h2 := (hK2.2 tys.length (cA, ty) (by rw [List.getElem?_append_right (Nat.le_refl _), Nat.sub_self]; rfl)).2
  cases ty with
  | object C =>
    obtain ⟨kA, comp, -, -, -, q1⟩ := h1
    obtain ⟨kA2, comp2, -, -, -, q2⟩ := h2
    exact Option.some.inj (q2.symm.trans q1)
  | _ => exact Option.some.inj (h2.symm.trans h1)
section
variable {p : Program} {l : Launch} {e : Env} {R : Room} {s : State} {m : MethodId} {args : Array Value} {below : List Frame} {meth : Method} {c : Code} {H : Heap} {locs : List Loc} {cells slots pc : Nat} {Q : State → Prop} {D : va_G} {tys : List (ClassId × FieldType)} {A : Nat → Prop} {H0 : Heap} {cc : ByteArray} {nL : Nat} {Ts : List Cond} {own : String} {ls : Array Slot} {ws wc wr : va_W} {y : MethodName} {w w' : List Cond} {rm : Room} {bytes : ByteArray} {maxL index : Nat} {rest : List Value}
theorem cn_v {S : Type} (u : S) {ws' : S → va_W} {mc ms : Nat} (hx : p.tables.exec = Jvm.exec) (hb : c.code = cc) (hr : meth.sig.returnType = none) (hlocks : meth.locks = false) (hP : va_P D vwCl (ws' u) H) (hD : va_D A (ws' u)) (hS : va_S A s.heap H locs) (hc : cells ≤ mc) (hs : slots ≤ ms) (hdg : decode cc pc = .ok (.return_, 1)) : W p l e R s m args below meth c H locs cells slots (MQ below (CQN D ws' A) args s mc ms A) (F0 m pc ls []) :=
  W.widen hc hs (W.vret hx hb hr (fun t ht hW => ⟨⟨rfl, u, by rw [ht]; exact hP, hD⟩, hS.F ht⟩) hS.2.2 hdg)
/-- a new row of ints -/
theorem gn_arr {cI : ClassId} {N k : Nat} (hx : p.tables.exec = Jvm.exec) (hb : c.code = cc) (harr : (Cond.arrayClass (newarray.typeOf .int)).before args s = true) (hK : KK D tys s) (hP : va_P D vwCl ws H) (hD : va_D A ws) (hS : va_S A H0 H locs) (hA : ∀ q, H0.size ≤ q → A q) (ht : tys[k]? = some (cI, .int)) (hN : N < 2 ^ 20) (hcells : cells + 1 ≤ R.cells) (hslots : slots + N ≤ R.slots) (hdg : decode cc pc = .ok (.newarray .int, 2))
    (kk : ∀ (q : Nat) (H1 : Heap), va_P D vwCl (ws ++ iaX cI q N (fun _ => 0)) H1 → va_D A (ws ++ iaX cI q N (fun _ => 0)) → va_S A H0 H1 locs → W p l e R s m args below meth c H1 locs (cells + 1) (slots + N) Q (F0 m (pc + 2) ls (.ref q :: rest))) : W p l e R s m args below meth c H locs cells slots Q (F0 m pc ls (.int (nI N) :: rest)) := by
  refine va_newa (atype := .int) (ty := .int) (a0 := (N, .inl (nF (fun _ => 0)))) hx hb harr rfl hK.1 hP hD hS hA (fun cA => by rw [vp_cell_i]; rfl) (nI_pos (by omega)) (nI_clamp (by omega)) (show N * 4 ≤ 536870912 by omega) hcells hslots hdg (fun q cA H1 hK2 hP2 hD2 hS2 => ?_)
  have e := cls_one hK hK2 ht
  subst e
  exact kk q H1 hP2 hD2 hS2
theorem gn_arz {cI : ClassId} {N k : Nat} (hx : p.tables.exec = Jvm.exec) (hb : c.code = cc) (harr : (Cond.arrayClass (newarray.typeOf .boolean)).before args s = true) (hK : KK D tys s) (hP : va_P D vwCl ws H) (hD : va_D A ws) (hS : va_S A H0 H locs) (hA : ∀ q, H0.size ≤ q → A q) (ht : tys[k]? = some (cI, .boolean)) (hN : N < 2 ^ 20) (hcells : cells + 1 ≤ R.cells) (hslots : slots + N ≤ R.slots) (hdg : decode cc pc = .ok (.newarray .boolean, 2))
    (kk : ∀ (q : Nat) (H1 : Heap), va_P D vwCl (ws ++ zaX cI q N (fun _ => 0)) H1 → va_D A (ws ++ zaX cI q N (fun _ => 0)) → va_S A H0 H1 locs → W p l e R s m args below meth c H1 locs (cells + 1) (slots + N) Q (F0 m (pc + 2) ls (.ref q :: rest))) : W p l e R s m args below meth c H locs cells slots Q (F0 m pc ls (.int (nI N) :: rest)) := by
  refine va_newa (atype := .boolean) (ty := .boolean) (a0 := (N, .inl (nF (fun _ => 0)))) hx hb harr rfl hK.1 hP hD hS hA (fun cA => by rw [vp_cell_i]; rfl) (nI_pos (by omega)) (nI_clamp (by omega)) (show N * 1 ≤ 536870912 by omega) hcells hslots hdg (fun q cA H1 hK2 hP2 hD2 hS2 => ?_)
  have e := cls_one hK hK2 ht
  subst e
  exact kk q H1 hP2 hD2 hS2
/-- a constructor's call -/
theorem gn_any {S : Type} {mc ms : Nat} {st0 : List Value} {w1 : S → va_W} {a : Array Value} (hr : va_Run p l e R s m args below meth c H locs cells slots mc ms (F0 m pc ls st0) rest (CQN D w1 (va_A wc H.size) a) (va_A wc H.size)) (hS : va_S A H0 H locs) (hA : ∀ q, H0.size ≤ q → A q) (hP : va_P D vwCl ws H) (hD : va_D A ws) (hp : ws.Perm (wc ++ wr))
    {ws2 : S → va_W} (h2 : ∀ u, (w1 u ++ wr).Perm (ws2 u)) (kk : ∀ (u : S) (H1 : Heap) (locs1 : List Loc), va_P D vwCl (ws2 u) H1 → va_D A (ws2 u) → va_S A H0 H1 locs1 → W p l e R s m args below meth c H1 locs1 (cells + mc) (slots + ms) Q (F0 m (pc + 3) ls rest)) : W p l e R s m args below meth c H locs cells slots Q (F0 m pc ls st0) := by
  have hf : ∀ q, va_A wc H.size q → A q := pm_free hD hS hA hp
  intro T hT X
  obtain ⟨v, st₀, t, T', L, h0, X', hL, e1, e2, ⟨⟨hv, u, hpp, hd⟩, hz, hk⟩, st⟩ := hr T hT X
  cases hv
  rw [h0] at hz hk
  have hk' : ∀ q : Nat, q < H.size → ¬ va_A wc H.size q → T'.heap[q]? = H[q]? := fun q h1 h2 => by rw [e1]; exact hk q h1 h2
  obtain ⟨hP2, hD2⟩ := pm_joinN hP hD hp hf hk' (by rw [e1]; exact hpp) hd
  obtain ⟨t2, a1, b1⟩ := kk u T'.heap (locs ++ L) (pm_Pof (h2 u) hP2) (pm_Dof (h2 u) hD2)
    ⟨Nat.le_trans hS.1 (by rw [e1]; exact hz), fun q h1 h2 => by rw [hk' q (Nat.lt_of_lt_of_le h1 hS.1) (fun z => h2 (hf q z))]; exact hS.2.1 q h1 h2, fun q hq => by
      rcases List.mem_append.mp hq with h | h
      · exact hS.2.2 q h
      · exact hf _ (hL q h)⟩ T' rfl X'
  exact ⟨t2, st t2 a1, b1⟩
theorem cn_pre {av : List Value} (hK : KK D tys s) (hO : va_AO cFM s) (hP : va_P D vwCl ws H) (hD : va_D A ws) (hp : ws.Perm (wc ++ wr)) : ∀ U : State, U.heap = H → s.WarmedH U.vm → CPN D tys av wc H.size av.toArray U := by
  intro U hU hW
  obtain ⟨h1, h2, h3, h4, h5⟩ := cp_pre (av := av) hK hP hD hp U hU hW
  exact ⟨h1, h2, h3, h4, h5, va_AO.moved hW.alike hO⟩
theorem gn_I {S : Type} {w1 : S → va_W} {b : Addr} (hM : CTN l D tys y w rm [.ref b] wc w1) (hg : GoodIn Ts w) (hw0 : w = Cond.code y bytes maxL none :: w') (hyi : y.name = "<init>") (hd : y.cls ≠ "java/lang/invoke/MethodHandle" ∧ y.cls ≠ "java/lang/invoke/VarHandle" ∧ (parseMethodDescriptor y.desc).map (fun d => d.parameters.length) = some 0) (hR : rm.frames + 1 ≤ R.frames ∧ 8 + (maxL + 11) + rm.locals ≤ R.locals)
    (hini : (Cond.initialized y.cls).before args s = true) (hlk : (Cond.methodLink own index y).before args s = true) (hins : (Cond.instanceMethod y).before args s = true)
    (hx : p.tables.exec = Jvm.exec) (hb : c.code = cc) (hml : c.maxLocals = nL) (hown : s.vm.findClass own = some m.cls) (hts : ∀ x ∈ Ts, x.before args s = true) (hK : KK D tys s) (hO : va_AO cFM s) (hA : ∀ q, H0.size ≤ q → A q) (hP : va_P D vwCl ws H) (hD : va_D A ws) (hS : va_S A H0 H locs) (hls : ls.size = nL) (hcells : cells + rm.cells ≤ R.cells ∧ slots + rm.slots ≤ R.slots) (hp : ws.Perm (wc ++ wr)) {st0 : List Value} (hst0 : st0 = .ref b :: rest) (hroom : (rest.map fun v => v.category).sum ≤ 8) (hdg : decode cc pc = .ok (.invokespecial index, 3))
    {ws2 : S → va_W} (h2 : ∀ u, (w1 u ++ wr).Perm (ws2 u)) (kk : ∀ (u : S) (H1 : Heap) (locs1 : List Loc), va_P D vwCl (ws2 u) H1 → va_D A (ws2 u) → va_S A H0 H1 locs1 → W p l e R s m args below meth c H1 locs1 (cells + rm.cells) (slots + rm.slots) Q (F0 m (pc + 3) ls rest)) : W p l e R s m args below meth c H locs cells slots Q (F0 m pc ls st0) := by
  subst hst0
  exact gn_any (va_runI (As := []) (rest := rest) (mc := rm.cells) (ms := rm.slots) (maxL := maxL) (bytes := bytes) ⟨hx, hb, hml, hown, hts⟩ (hM H.size) (cwI 0 hts hg hw0 rfl rfl hini hlk hins hyi hd hR) ⟨CPN_blind, cn_pre hK hO hP hD hp⟩ rfl rfl hls rfl (lv_room hroom) hdg hcells) hS hA hP hD hp h2 kk
theorem gn_IN {S : Type} {w1 : S → va_W} {b : Addr} {ni : Nat} (hM : CTN l D tys y w rm [.ref b] wc w1) (hg : GoodIn Ts w) (hw0 : w = Cond.code y bytes maxL none :: w') (hyi : y.name = "<init>") (hd : y.cls ≠ "java/lang/invoke/MethodHandle" ∧ y.cls ≠ "java/lang/invoke/VarHandle" ∧ (parseMethodDescriptor y.desc).map (fun d => d.parameters.length) = some 0) (hR : rm.frames + 1 ≤ R.frames ∧ 8 + (maxL + 11) + rm.locals ≤ R.locals)
    (hini : (Cond.initialized y.cls).before args s = true) (hlk : nestW[ni]? = some (own, index, y)) (hins : (Cond.instanceMethod y).before args s = true)
    (hx : p.tables.exec = Jvm.exec) (hb : c.code = cc) (hml : c.maxLocals = nL) (hown : s.vm.findClass own = some m.cls) (hts : ∀ x ∈ Ts, x.before args s = true) (hK : KK D tys s) (hO : va_AO cFM s) (hA : ∀ q, H0.size ≤ q → A q) (hP : va_P D vwCl ws H) (hD : va_D A ws) (hS : va_S A H0 H locs) (hls : ls.size = nL) (hcells : cells + rm.cells ≤ R.cells ∧ slots + rm.slots ≤ R.slots) (hp : ws.Perm (wc ++ wr)) {st0 : List Value} (hst0 : st0 = .ref b :: rest) (hroom : (rest.map fun v => v.category).sum ≤ 8) (hdg : decode cc pc = .ok (.invokespecial index, 3))
    {ws2 : S → va_W} (h2 : ∀ u, (w1 u ++ wr).Perm (ws2 u)) (kk : ∀ (u : S) (H1 : Heap) (locs1 : List Loc), va_P D vwCl (ws2 u) H1 → va_D A (ws2 u) → va_S A H0 H1 locs1 → W p l e R s m args below meth c H1 locs1 (cells + rm.cells) (slots + rm.slots) Q (F0 m (pc + 3) ls rest)) : W p l e R s m args below meth c H locs cells slots Q (F0 m pc ls st0) := by
  subst hst0
  exact gn_any (va_runIN (As := []) (rest := rest) (mc := rm.cells) (ms := rm.slots) (maxL := maxL) (bytes := bytes) ⟨hx, hb, hml, hown, hts⟩ (hM H.size) ⟨va_cnB 0 hts hg hw0 rfl rfl (hK.2.at ni hlk) hini hd hR, hyi, hins⟩ ⟨CPN_blind, cn_pre hK hO hP hD hp⟩ rfl rfl hls rfl (lv_room hroom) hdg hcells) hS hA hP hD hp h2 kk
end

