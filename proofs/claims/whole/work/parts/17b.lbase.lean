/-! Methods with a table of handlers of their own: what the law's helpers are. -/
abbrev lgH := List (Nat × Nat × Nat × Nat)
def wH (y : MethodName) (cc : ByteArray) (n : Nat) (r : Option FieldType) (hh : lgH) : List Cond := Cond.codeWith y cc n r hh :: wsL_law
theorem gH1 {y : MethodName} {c : ByteArray} {n : Nat} {r : Option FieldType} {hh : lgH} {w : Cond} (h : w ∈ wsL_law) : w ∈ wH y c n r hh ∧ ((w.onTables && w.keeps) = true ∨ ∃ ty, w = .arrayClass ty) := ⟨List.mem_cons_of_mem _ h, good_of_word (goodU _ h)⟩
theorem gHV {own C : String} {idx : Nat} {y y' : MethodName} {c c' : ByteArray} {n n' : Nat} {r r' : Option FieldType} {hh : lgH} (h1 : Cond.methodLink own idx y' ∈ wsL_law) (h2 : Cond.instanceMethod y' ∈ wsL_law) (h3 : Cond.selects C y' y' ∈ wsL_law) (h4 : Cond.initialized C ∈ wsL_law) (h : Cond.code y' c' n' r' ∈ wsL_law) : GoodIn (wH y c n r hh) (wsV own idx C y' (wA y' c' n' r')) := by
  intro w hw
  unfold wsV at hw
  simp only [List.cons_append, List.nil_append, List.mem_cons] at hw
  rcases hw with rfl | rfl | rfl | rfl | hw
  · exact gH1 h1
  · exact gH1 h2
  · exact gH1 h3
  · exact gH1 h4
  · rcases List.mem_cons.mp hw with rfl | hw
    · exact gH1 h
    · exact gH1 hw
theorem kH {y : MethodName} {c : ByteArray} {n : Nat} {r : Option FieldType} {hh : lgH} {w : Cond} (h : w ∈ wsL_law) : w ∈ wH y c n r hh := List.mem_cons_of_mem _ h
def XN : String → State → State → Prop := fun _ _ _ => False
/-- contract of a method with handlers: what it answers, and what cells a caught throw made -/
def CTL {S : Type} (l : Launch) (D : va_G) (tys : List (ClassId × FieldType)) (y : MethodName) (w : List Cond) (rm : Room) (av : List Value) (ws : va_W) (mc ms : Nat) (rv : Option Value) (ws' : S → va_W) : Prop :=
  ∀ sz : Nat, vx_Met l y w rm (CPX D tys av ws sz) (CQ D rv ws' (va_A ws sz)) XN mc ms (va_A ws sz)
theorem cl_in {S : Type} {l : Launch} {D : va_G} {tys : List (ClassId × FieldType)} {y : MethodName} {w w' : List Cond} {rm : Room} {av : List Value} {ws : va_W} {mc ms : Nat} {rv : Option Value} {ws' : S → va_W} {cc : ByteArray} {maxL : Nat} {ret : Option FieldType} {hh : lgH} {own : String} {lv : List (Nat × Value)}
    (hy : plainName y.cls = true) (hw : w = Cond.codeWith y cc maxL ret hh :: w') (hown : y.cls = own) (hav : (lg_sl av).length ≤ maxL) (hlv : lv_args 0 av = lv)
    (body : ∀ (p : Program) (e : Env) (s : State) (m : MethodId) (args : Array Value) (below : List Frame) (meth : Method) (c : Code) (A : Nat → Prop) (ls : Array Slot), p.tables.exec = Jvm.exec → c.code = cc → meth.sig.returnType = ret → c.maxLocals = maxL → (∀ x ∈ w, x.before args s = true) → s.vm.findClass own = some m.cls → meth.locks = false → KK D tys s → (∀ q, s.heap.size ≤ q → A q) → va_P D vwCl ws s.heap → va_D A ws → va_S A s.heap s.heap [] → lv_has ls maxL lv → KX A s s.heap → c.exceptionTable.toList = tableOf hh →
      W p l e rm s m args below meth c s.heap [] 0 0 (vx_MQ below (CQ D rv ws' A) XN args s mc ms A) (F0 m 0 ls [])) : CTL l D tys y w rm av ws mc ms rv ws' := by
  intro sz
  refine vx_ofWH (cc := cc) (maxL := maxL) (ret := ret) (hh := hh) hy hw ?_
  intro p e s m args below meth c s₁ B hml hv
  obtain ⟨rfl, hsz, hP, hK, hD0, hX⟩ := hv
  have hts := atoms_spec (ws := w) B.pre
  have htab := vx_table (x := y) B (hts _ (by rw [hw]; exact List.mem_cons_self))
  have hfc : s.vm.findClass y.cls = some m.cls := findClass_of_methodNamed B.named
  rw [hown] at hfc
  subst hsz
  have hl := lv_entry av (n := maxL) hav
  rw [hlv] at hl
  rw [lg_entry_eq]
  exact body p e s m av.toArray below meth c _ _ B.exec B.bytes B.returns hml hts hfc B.notSynchronized hK (fun q h => Or.inr h) hP (hD0.self (sz := s.heap.size)) va_S.rf hl hX htab
section
variable {p : Program} {l : Launch} {e : Env} {R : Room} {s : State} {m : MethodId} {args : Array Value} {below : List Frame} {meth : Method} {c : Code} {H H0 : Heap} {locs : List Loc} {pc cells slots : Nat} {D : va_G} {tys : List (ClassId × FieldType)} {A : Nat → Prop} {cc : ByteArray} {ls : Array Slot} {rest : List Value} {Ts : List Cond} {Q : State → Prop}
/-- what was thrown is caught by the row x of the table; the rows ahead name other classes -/
theorem cl_catch {E own : String} {q : Addr} {ce : Cell} (pre suf : lgH) (x : Nat × Nat × Nat × Nat) (htab : c.exceptionTable.toList = tableOf (pre ++ x :: suf)) (hts : ∀ w ∈ Ts, w.before args s = true) (hown : s.vm.findClass own = some m.cls) (hX : KX A s H0) (hE : E ∈ csW) (hpre : ∀ z ∈ pre, z.2.2.2 ≠ 0 ∧ ∃ nm, Cond.classLink own z.2.2.2 nm ∈ Ts ∧ (E, nm) ∈ ncW) (hpc : covers ⟨x.1, x.2.1, x.2.2.1, x.2.2.2⟩ pc = true) (h0 : x.2.2.2 ≠ 0) (hl : Cond.classLink own x.2.2.2 E ∈ Ts) (hce : H[q]? = some ce) (hcv : ce.vm = .none) (hcl : s.vm.findClass E = some ce.cls)
    (kk : W p l e R s m args below meth c H locs cells slots Q (F0 m x.2.2.1 ls [.ref q])) : vx_W p l e R s m args below meth c H locs cells slots Q (F0 m pc ls rest) q := by
  refine vx_catch hown (tableOf pre) ⟨x.1, x.2.1, x.2.2.1, x.2.2.2⟩ (tableOf suf) (by rw [htab]; unfold tableOf; rw [List.map_append, List.map_cons]) (fun z hz => ?_) hpc h0 (hts _ hl) (va_Nw.use rfl (hX.2.2.2.1 E hE)) hce hcv hcl kk
  unfold tableOf at hz
  obtain ⟨z0, hz0, rfl⟩ := List.mem_map.mp hz
  obtain ⟨a, nm, b, d⟩ := hpre z0 hz0
  exact Or.inr ⟨a, nm, hts _ b, hX.2.2.2.2 (E, nm) d⟩
/-- the helper's end -/
theorem cl_i {S : Type} (u : S) {v r : Int32} {ws' : S → va_W} (hx : p.tables.exec = Jvm.exec) (hb : c.code = cc) (hr : meth.sig.returnType = some .int) (hlocks : meth.locks = false) (hP : va_P D vwCl (ws' u) H) (hS : va_S A s.heap H locs) (hv : v = r) (hdg : decode cc pc = .ok (.ireturn, 1)) :
    W p l e R s m args below meth c H locs cells slots (vx_MQ below (CQ D (some (.int r)) ws' A) XN args s cells slots A) (F0 m pc ls [.int v]) := by
  subst hv
  exact vx_ret (W.iret hx hb hr (fun t ht hW => ⟨⟨rfl, u, by rw [ht]; exact hP⟩, hS.F ht⟩) hS.2.2 hdg hlocks)
end
