/-! Methods that throw: what a throw needs of the state; one form of contract for a method that always throws. -/
def cISE : String := "java/lang/IllegalStateException"
def cIAE : String := "java/lang/IllegalArgumentException"
def cIOB : String := "java/lang/IndexOutOfBoundsException"
def txW : List (Nat × String) := [(103, "the text is not a farm"), (145, "there is no such number"), (175, "there is no such number of a house"), (192, "there is no such number of a vegetable"), (204, "a place is 0 or more"), (209, "there is no room for a house"), (218, "there is no room for a vegetable"), (226, "the house does not owe so many crates"), (228, "the house does not have so many kilos"), (236, "no state is remembered"), (265, "the script has not the digits of so many commands"), (278, "nothing has been saved in this slot"), (285, "there is no such house"), (291, "there is no such vegetable"), (293, "there is no such save slot"), (295, "a number is out of its range"), (86, "the text is full")]
def dcW : List MethodName := [Bundle.initS "java/lang/RuntimeException", Bundle.initS "java/lang/Exception", Bundle.initS Bundle.tN]
def csW : List String := [cISE, cIAE, cIOB]
def ncW : List (String × String) := [(cISE, cIAE), (cIAE, cIOB), (cISE, cIOB)]
def nmsX : List String := ["java/lang/RuntimeException", "java/lang/Exception"]
def KX (A : Nat → Prop) (U : State) (H : Heap) : Prop := (vx_Zq Bundle.tN "UNASSIGNED_STACK" Bundle.steD A U H ∧ vx_Zq Bundle.tN "SUPPRESSED_SENTINEL" Bundle.listD A U H) ∧ (∀ q ∈ txW, ∃ sa, vk_R RX8 q.1 q.2 sa U) ∧ (∀ x ∈ dcW, va_Nw (.declares x) U) ∧ (∀ C ∈ csW, va_Nw (.castable C C) U) ∧ ∀ q ∈ ncW, va_Nc q.1 q.2 U
theorem KX.go {A B : Nat → Prop} {s U : State} {H0 H : Heap} {locs : List Loc} (h : KX A s H0) (hS : va_S A H0 H locs) (hW : s.WarmedH U.vm) (hAB : ∀ q, B q → A q) : KX B U H := by
  obtain ⟨⟨h1, h2⟩, h3, h4, h5, h6⟩ := h
  exact ⟨⟨(vx_Zq.moved hW.alike (h1.kept hS.2.1)).narrow hAB, (vx_Zq.moved hW.alike (h2.kept hS.2.1)).narrow hAB⟩, fun q hq => by
    obtain ⟨sa, h⟩ := h3 q hq
    exact ⟨sa, vk_R.warm hW h⟩, fun x hx => va_Nw.warmD hW (h4 x hx), fun C hC => va_Nw.warmC hW (h5 C hC), fun q hq => va_Nc.moved hW.alike (h6 q hq)⟩
/-- the start of a method that may need to throw -/
def CPX (D : va_G) (tys : List (ClassId × FieldType)) (av : List Value) (ws : va_W) (sz : Nat) : Array Value → State → Prop := va_Pc av (fun U => U.heap.size = sz ∧ va_P D vwCl ws U.heap ∧ KK D tys U ∧ va_D (fun _ => True) ws ∧ KX (va_A ws sz) U U.heap)
def NQ : Array Value → State → Outcome → State → Prop := fun _ _ _ _ => False
def XQ {S : Type} (D : va_G) (E : String) (ws' : S → va_W) (A : Nat → Prop) : String → State → State → Prop := fun E' st t => (E' = E ∧ ∃ u : S, va_P D vwCl (ws' u) t.heap) ∧ va_F A st t
def CTX {S : Type} (l : Launch) (D : va_G) (tys : List (ClassId × FieldType)) (y : MethodName) (w : List Cond) (rm : Room) (av : List Value) (ws : va_W) (E : String) (ws' : S → va_W) : Prop :=
  ∀ sz : Nat, vx_Met l y w rm (CPX D tys av ws sz) NQ (XQ D E ws' (va_A ws sz)) 1 6 (va_A ws sz)
theorem warm_same {s U : State} (hv : s.vm = U.vm) : s.WarmedH U.vm := hv ▸ State.WarmedH.refl s
theorem CPX_blind {D : va_G} {tys : List (ClassId × FieldType)} {av : List Value} {ws : va_W} {sz : Nat} : FrameBlind (CPX D tys av ws sz) := fun a U g mk q => by
  obtain ⟨q0, q1, qP, qK, qD, qX⟩ := q
  exact ⟨q0, q1, qP, KK.same (s := U) (U := U.calling g mk a) rfl qK, qD, KX.go qX va_S.rf (warm_same (s := U) (U := U.calling g mk a) rfl) (fun _ h => h)⟩
abbrev rmX (f lo : Nat) : Room := { frames := f, cells := 1, slots := 6, locals := lo }
theorem cx_in {S : Type} {l : Launch} {D : va_G} {tys : List (ClassId × FieldType)} {y : MethodName} {w w' : List Cond} {rm : Room} {av : List Value} {ws : va_W} {E : String} {ws' : S → va_W} {cc : ByteArray} {maxL : Nat} {ret : Option FieldType} {own : String} {lv : List (Nat × Value)}
    (hy : plainName y.cls = true) (hw : w = Cond.code y cc maxL ret :: w') (hown : y.cls = own) (hav : (lg_sl av).length ≤ maxL) (hlv : lv_args 0 av = lv)
    (body : ∀ (p : Program) (e : Env) (s : State) (m : MethodId) (args : Array Value) (below : List Frame) (meth : Method) (c : Code) (A : Nat → Prop) (ls : Array Slot), p.tables.exec = Jvm.exec → c.code = cc → meth.sig.returnType = ret → c.maxLocals = maxL → (∀ x ∈ w, x.before args s = true) → s.vm.findClass own = some m.cls → meth.locks = false → KK D tys s → (∀ q, s.heap.size ≤ q → A q) → va_P D vwCl ws s.heap → va_D A ws → va_S A s.heap s.heap [] → lv_has ls maxL lv → KX A s s.heap → (∀ x ∈ c.exceptionTable.toList, False) →
      W p l e rm s m args below meth c s.heap [] 0 0 (vx_MQ below NQ (XQ D E ws' A) args s 1 6 A) (F0 m 0 ls [])) : CTX l D tys y w rm av ws E ws' := by
  intro sz
  refine vx_ofW (cc := cc) (maxL := maxL) (ret := ret) hy hw ?_
  intro p e s m args below meth c s₁ B hml hno hv
  obtain ⟨rfl, hsz, hP, hK, hD0, hX⟩ := hv
  have hts := atoms_spec (ws := w) B.pre
  have hfc : s.vm.findClass y.cls = some m.cls := findClass_of_methodNamed B.named
  rw [hown] at hfc
  subst hsz
  have hl := lv_entry av (n := maxL) hav
  rw [hlv] at hl
  rw [lg_entry_eq]
  exact body p e s m av.toArray below meth c _ _ B.exec B.bytes B.returns hml hts hfc B.notSynchronized hK (fun q h => Or.inr h) hP (hD0.self (sz := s.heap.size)) va_S.rf hl hX hno
/-- the three kinds that are thrown: their words -/
def knW : List (String × Nat × Nat) := [(cISE, 84, 88), (cIAE, 143, 147), (cIOB, 283, 287)]
theorem kn_ot : knW.all (fun k => (Cond.classLink RX8 k.2.1 k.1 :: Cond.initialized k.1 :: vx_atS RX8 k.2.2 k.1 nmsX).all vx_ot) = true := by decide +kernel
theorem kn_fit : knW.all (fun k => Bundle.fit k.1) = true := by decide +kernel
theorem kn_nms : ∀ n ∈ nmsX, Bundle.fit n = true := by decide +kernel
theorem kn_bad : knW.all (fun k => ((vx_atS RX8 k.2.2 k.1 nmsX).filter (fun w => !goodWord w)).all (fun w => decide (w ∈ (dcW.map Cond.declares ++ [Cond.castable k.1 k.1])))) = true := by decide +kernel
theorem kn_cs : knW.all (fun k => decide (k.1 ∈ csW)) = true := by decide +kernel
theorem kn_good {k : String × Nat × Nat} (h : k ∈ knW) : ∀ w ∈ (vx_atS RX8 k.2.2 k.1 nmsX).filter goodWord, w ∈ wsL_law := by
  intro w hw
  unfold wsL_law
  simp only [knW, List.mem_cons, List.not_mem_nil, or_false] at h
  rcases h with rfl | rfl | rfl
  · exact List.mem_append_left _ (List.mem_append_left _ (List.mem_append_right _ hw))
  · exact List.mem_append_left _ (List.mem_append_right _ hw)
  · exact List.mem_append_right _ hw
theorem kn_hat {k : String × Nat × Nat} (h : k ∈ knW) {A : Nat → Prop} {s : State} {H : Heap} {args : Array Value} (hg : ∀ w ∈ wsL_law, w.before args s = true) (hX : KX A s H) : ∀ w ∈ vx_atS RX8 k.2.2 k.1 nmsX, w.before args s = true := by
  refine vx_hat (fun w hw => hg w (kn_good h w hw)) (fun w hw => of_decide_eq_true (List.all_eq_true.mp (List.all_eq_true.mp kn_bad k h) w hw)) (fun w hw => ?_)
  rcases List.mem_append.mp hw with q | q
  · obtain ⟨x, hx, rfl⟩ := List.mem_map.mp q
    exact va_Nw.use rfl (hX.2.2.1 x hx)
  · rcases List.mem_singleton.mp q with rfl
    exact va_Nw.use rfl (hX.2.2.2.1 _ (of_decide_eq_true (List.all_eq_true.mp kn_cs k h)))
section
variable {p : Program} {l : Launch} {e : Env} {R : Room} {s : State} {m : MethodId} {args : Array Value} {below : List Frame} {meth : Method} {c : Code} {H : Heap} {locs : List Loc} {pc : Nat} {D : va_G} {A : Nat → Prop} {cc : ByteArray} {ls : Array Slot} {rest : List Value} {Ts : List Cond}
theorem cx_throw {S : Type} (u : S) {ws' : S → va_W} (k : String × Nat × Nat) (hk : k ∈ knW) {tx : Nat × String} (htx : tx ∈ txW) (hst : l.stackTraces = false) (hx : p.tables.exec = Jvm.exec) (hb : c.code = cc) (hown : s.vm.findClass RX8 = some m.cls) (hg : ∀ w ∈ wsL_law, w.before args s = true) (hkl : Cond.classLink RX8 k.2.1 k.1 ∈ wsL_law) (hin : Cond.initialized k.1 ∈ wsL_law) (hX : KX A s s.heap) (hP : va_P D vwCl (ws' u) H) (hS : va_S A s.heap H locs) (hA : ∀ q, s.heap.size ≤ q → A q) (hsize : ls.size = c.maxLocals) (hlocks : meth.locks = false) (hno : ∀ x ∈ c.exceptionTable.toList, False)
    (d0 : decode cc pc = .ok (.new k.2.1, 3)) (d3 : decode cc (pc + 3) = .ok (.dup, 1)) (d4 : decode cc (pc + 4) = .ok (.ldc tx.1, 2)) (d6 : decode cc (pc + 6) = .ok (.invokespecial k.2.2, 3)) (d9 : decode cc (pc + 9) = .ok (.athrow, 1))
    (hR : 5 < R.frames ∧ (rest.map fun v => v.category).sum + 82 ≤ R.locals ∧ 0 + 1 ≤ R.cells ∧ 0 + 6 ≤ R.slots) :
    W p l e R s m args below meth c H locs 0 0 (vx_MQ below NQ (XQ D k.1 ws' A) args s 1 6 A) (F0 m pc ls rest) := by
  obtain ⟨sa, hsa⟩ := hX.2.1 tx htx
  refine vx_throwS (names := nmsX) hx hb hst hown (List.all_eq_true.mp kn_fit k hk) kn_nms (hg _ hkl) (hg _ hin) hsa (kn_hat hk hg hX) (List.all_eq_true.mp (List.all_eq_true.mp kn_ot k hk)) hX.1.1 hX.1.2 hS hsize d0 d3 d4 d6 d9 (fun x h => (hno x h).elim) hR.1 hR.2.1 hR.2.2.1 hR.2.2.2 hlocks (fun t _ h2 h3 => ⟨⟨rfl, u, va_P.kept hP (fun k q hq => h3 q.1 (hP k q hq).lt)⟩, Nat.le_trans hS.1 h2, fun q h4 h5 => by rw [h3 q (Nat.lt_of_lt_of_le h4 hS.1)]; exact hS.2.1 q h4 h5⟩) hS.2.2 (Nat.le_refl _) (Nat.le_refl _)
theorem cx_throwW {S : Type} (u : S) {ws' : S → va_W} (k : String × Nat × Nat) (hk : k ∈ knW) {tx : Nat × String} (htx : tx ∈ txW) (hst : l.stackTraces = false) (hx : p.tables.exec = Jvm.exec) (hb : c.code = cc) (hown : s.vm.findClass RX8 = some m.cls) (hg : ∀ w ∈ wsL_law, w.before args s = true) (hkl : Cond.classLink RX8 k.2.1 k.1 ∈ wsL_law) (hin : Cond.initialized k.1 ∈ wsL_law) (hX : KX A s s.heap) (hP : va_P D vwCl (ws' u) H) (hS : va_S A s.heap H locs) (hA : ∀ q, s.heap.size ≤ q → A q) (hsize : ls.size = c.maxLocals) (hlocks : meth.locks = false) (hno : ∀ x ∈ c.exceptionTable.toList, False)
    (d0 : decode cc pc = .ok (.new k.2.1, 3)) (d3 : decode cc (pc + 3) = .ok (.dup, 1)) (d4 : decode cc (pc + 4) = .ok (.ldc_w tx.1, 3)) (d7 : decode cc (pc + 7) = .ok (.invokespecial k.2.2, 3)) (d10 : decode cc (pc + 10) = .ok (.athrow, 1))
    (hR : 5 < R.frames ∧ (rest.map fun v => v.category).sum + 82 ≤ R.locals ∧ 0 + 1 ≤ R.cells ∧ 0 + 6 ≤ R.slots) :
    W p l e R s m args below meth c H locs 0 0 (vx_MQ below NQ (XQ D k.1 ws' A) args s 1 6 A) (F0 m pc ls rest) := by
  obtain ⟨sa, hsa⟩ := hX.2.1 tx htx
  refine vx_throwSW (names := nmsX) hx hb hst hown (List.all_eq_true.mp kn_fit k hk) kn_nms (hg _ hkl) (hg _ hin) hsa (kn_hat hk hg hX) (List.all_eq_true.mp (List.all_eq_true.mp kn_ot k hk)) hX.1.1 hX.1.2 hS hsize d0 d3 d4 d7 d10 (fun x h => (hno x h).elim) hR.1 hR.2.1 hR.2.2.1 hR.2.2.2 hlocks (fun t _ h2 h3 => ⟨⟨rfl, u, va_P.kept hP (fun k q hq => h3 q.1 (hP k q hq).lt)⟩, Nat.le_trans hS.1 h2, fun q h4 h5 => by rw [h3 q (Nat.lt_of_lt_of_le h4 hS.1)]; exact hS.2.1 q h4 h5⟩) hS.2.2 (Nat.le_refl _) (Nat.le_refl _)
end
