/-! THE CLAIM OUT OF ONE WALK OF THE LAW'S BODY. Your part is whole_start (and what it stands on); all else here is the same for every law, but numbers. -/
def R_law : String := "HarvestBoxesLaw"
def lw_P (b : Addr) (xs : List Int32) (args : Array Value) (s : State) : Prop := args = #[.ref b] ∧ s.IntsAt b xs ∧ xs.length ≤ 2048 ∧ (Jvm.Cond.and given_1 narrow_1).before args s = true
def lw_Q (_ : Array Value) (s : State) (o : Outcome) (t : State) : Prop := o = .returned (some (.int 1)) ∧ Framed s o t [] 601024 7293034
def lw_Z (below : List Frame) (a : Array Value) (s : State) : State → Prop := fun t => ∃ o, t.status = .running ∧ Ended t below o ∧ lw_Q a s o t
/-- the law's own end, with 1 on the stack, nothing written that was there before, its room as the claim has it -/
theorem lw_ret {p : Program} {l : Launch} {e : Env} {s : State} {m : MethodId} {below : List Frame} {meth : Method} {c : Code} {b : Nat} (hx : p.tables.exec = Jvm.exec) (hb : c.code = code) (hr : meth.sig.returnType = ret) (hlocks : meth.locks = false) {pc : Nat} {H : Heap} {ls : Array Slot} (hdg : decode code pc = .ok (.ireturn, 1)) : W p l e room_1 s m #[Value.ref b] below meth c H [] 601024 7293034 (lw_Z below #[Value.ref b] s) (F0 m pc ls [.int 1]) := by
  intro T hT X
  obtain ⟨fs, hret, hrun, hended, hW, hframe⟩ := X.leave (v := some (.int 1)) (hlocks := hlocks) (fun h => by rw [hr] at h; cases h)
  have hmeth' : T.vm.method? m = some meth := X.method'
  refine ⟨T.setFrames fs, ?_, .returned (some (.int 1)), hrun, hended, rfl, ⟨_, rfl⟩, hW, hframe⟩
  jvm_step X.here [X.here.top, hx, hb, hdg, hmeth', hr, ret, narrow_b1]
  (try refine ⟨rfl, ?_⟩); (try refine ⟨rfl, ?_⟩)
  first | (intro acts; rw [hret _ acts rfl rfl rfl]) | rw [hret _ _ rfl rfl rfl]
  exact Steps.refl _
/-- what holds at the law's entry: the machine, the code, the tables' words (any of lw_tbl by 'hts w (by decide +kernel)'), the script of L ints xs at the cell b, what the Statement gives of the start (any of its parts by flat_of_before) -/
def lw_At (p : Program) (s : State) (m : MethodId) (meth : Method) (c : Code) (b L : Nat) (xs : Nat → Int32) : Prop :=
  p.tables.exec = Jvm.exec ∧ c.code = code ∧ meth.sig.returnType = ret ∧ c.maxLocals = 7 ∧ s.vm.findClass R_law = some m.cls ∧ (∀ w ∈ lw_tbl, w.before #[Value.ref b] s = true) ∧ va_X b L xs s s.heap ∧ b < s.heap.size ∧ meth.locks = false ∧ (Jvm.Cond.and given_1 narrow_1).before #[Value.ref b] s = true
/-! The law's loop: what all its arms know and use. -/
theorem gL1 {w : Cond} (h : w ∈ wsL_law) : w ∈ wsL_law ∧ ((w.onTables && w.keeps) = true ∨ ∃ ty, w = .arrayClass ty) := ⟨h, good_of_word (goodU _ h)⟩
theorem gL0 {y' : MethodName} {c' : ByteArray} {n' : Nat} {r' : Option FieldType} (h : Cond.code y' c' n' r' ∈ wsL_law) : GoodIn wsL_law (wA y' c' n' r') := by
  intro w hw
  rcases List.mem_cons.mp hw with rfl | hw
  · exact gL1 h
  · exact gL1 hw
theorem gLS {own : String} {idx : Nat} {y' : MethodName} {c' : ByteArray} {n' : Nat} {r' : Option FieldType} {hh : lgH} (h1 : Cond.methodLink own idx y' ∈ wsL_law) (h2 : Cond.static y' ∈ wsL_law) (h3 : Cond.initialized y'.cls ∈ wsL_law) (h : Cond.codeWith y' c' n' r' hh ∈ wsL_law) : GoodIn wsL_law (va_wsS own idx y' (wH y' c' n' r' hh)) := by
  intro w hw
  unfold va_wsS at hw
  simp only [List.cons_append, List.nil_append, List.mem_cons] at hw
  rcases hw with rfl | rfl | rfl | hw
  · exact gL1 h1
  · exact gL1 h2
  · exact gL1 h3
  · rcases List.mem_cons.mp hw with rfl | hw
    · exact gL1 h
    · exact gL1 hw
theorem gLV {own C : String} {idx : Nat} {y' : MethodName} {c' : ByteArray} {n' : Nat} {r' : Option FieldType} (h1 : Cond.methodLink own idx y' ∈ wsL_law) (h2 : Cond.instanceMethod y' ∈ wsL_law) (h3 : Cond.selects C y' y' ∈ wsL_law) (h4 : Cond.initialized C ∈ wsL_law) (h : Cond.code y' c' n' r' ∈ wsL_law) : GoodIn wsL_law (wsV own idx C y' (wA y' c' n' r')) := by
  intro w hw
  unfold wsV at hw
  simp only [List.cons_append, List.nil_append, List.mem_cons] at hw
  rcases hw with rfl | rfl | rfl | rfl | hw
  · exact gL1 h1
  · exact gL1 h2
  · exact gL1 h3
  · exact gL1 h4
  · rcases List.mem_cons.mp hw with rfl | hw
    · exact gL1 h
    · exact gL1 hw
abbrev AS (s : State) : Nat → Prop := fun q => s.heap.size ≤ q
theorem AS_of (s : State) : ∀ q : Nat, s.heap.size ≤ q → AS s q := fun _ h => h
/-- what never changes while the law runs -/
def LC (p : Program) (l : Launch) (s : State) (m : MethodId) (c : Code) (sb sL : Nat) (sx : Nat → Int32) (D : va_G) (cI cZ cF cL : ClassId) : Prop :=
  p.tables.exec = Jvm.exec ∧ c.code = cL_law ∧ c.maxLocals = 7 ∧ s.vm.findClass RL = some m.cls ∧ (∀ w ∈ wsL_law, w.before #[Value.ref sb] s = true) ∧ va_X sb sL sx s s.heap ∧ sb < s.heap.size ∧ KK D (tysX cI cZ cF cL) s ∧ KX (AS s) s s.heap ∧ l.stackTraces = false ∧ sL ≤ 2048
abbrev WL (p : Program) (l : Launch) (e : Env) (s : State) (m : MethodId) (sb : Nat) (below : List Frame) (meth : Method) (c : Code) (H : Heap) (locs : List Loc) (cells slots : Nat) (f : JFrame) : Prop := W p l e room_1 s m #[Value.ref sb] below meth c H locs cells slots (lw_Z below #[Value.ref sb] s) f
def lvs (sb rx mr oq i : Nat) : List (Nat × Value) := [(4, .int (nI i)), (0, .ref sb), (1, .ref rx), (2, .ref mr), (3, .ref oq)]
/-- what always holds between the two sides -/
def INV (T : Nat → Nat → Nat) (cnt nx : Nat) (Ts : Nat → Nat → Nat → Nat) (zf : Nat → Nat) (Zs : Nat → Nat → Nat → Nat) (X : Nat → Nat) (Ln : Nat) (Q Sv : Nat → Nat → Nat) : Prop :=
  FI T ∧ HR cnt nx Ts Q ∧ SV zf Zs Sv ∧ (∀ k, k < 120 → X k < 256) ∧ Ln ≤ 120
section
variable {p : Program} {l : Launch} {e : Env} {s : State} {m : MethodId} {below : List Frame} {meth : Method} {c : Code} {sb sL : Nat} {sx : Nat → Int32} {D : va_G} {cI cZ cF cL : ClassId} {H : Heap} {locs : List Loc} {cells slots pc i : Nat} {ls : Array Slot} {rx mr oq : Nat} {ws wr : va_W}
/-- a word of the script is read -/
theorem la_arg {k : Nat} {n : Int} {st : List Value} (C : LC p l s m c sb sL sx D cI cZ cF cL) (hS : va_S (AS s) s.heap H locs) (h0 : ls[0]? = some (.val (.ref sb))) (h4 : ls[4]? = some (.val (.int (nI i)))) (hn : Int32.ofInt n = nI k) (hi : i + k < sL) (d1 : decode cL_law pc = .ok (.aload_n 0, 1)) (d2 : decode cL_law (pc + 1) = .ok (.iload 4, 2)) (d3 : decode cL_law (pc + 1 + 2) = .ok (.iconst n, 1)) (d4 : decode cL_law (pc + 1 + 2 + 1) = .ok (.iadd, 1)) (d5 : decode cL_law (pc + 1 + 2 + 1 + 1) = .ok (.iaload, 1))
    (kk : WL p l e s m sb below meth c H locs cells slots (F0 m (pc + 1 + 2 + 1 + 1 + 1) ls (.int (sx (i + k)) :: st))) : WL p l e s m sb below meth c H locs cells slots (F0 m pc ls st) := by
  obtain ⟨hx, hb, hml, hown, hts, hX, hbl, hK, hKX, hst, hsL⟩ := C
  refine lv_aload_n hx hb d1 rfl h0 ?_
  refine lv_iload hx hb d2 h4 ?_
  refine lv_iconst (v := nI k) hx hb d3 hn ?_
  refine lv_iadd hx hb d4 ?_
  rw [nI_add i k]
  refine va_sld hx hb hX hbl (Nat.not_le.mpr hbl) hS (vp_in_nI hi (by omega)) d5 ?_
  rw [nI_clamp (show i + k < 2 ^ 31 by omega)]
  exact kk
/-- a turn's end -/
theorem la_end (C : LC p l s m c sb sL sx D cI cZ cF cL) {lv : List (Nat × Value)} (hl : lv_has ls 7 lv) (h4 : ls[4]? = some (.val (.int (nI i)))) (h0 : ls[0]? = some (.val (.ref sb))) (h1 : ls[1]? = some (.val (.ref rx))) (h2 : ls[2]? = some (.val (.ref mr))) (h3 : ls[3]? = some (.val (.ref oq)))
    (kk : ∀ ls1 : Array Slot, lv_has ls1 7 (lvs sb rx mr oq (i + 4)) → WL p l e s m sb below meth c H locs cells slots (F0 m 23 ls1 [])) : WL p l e s m sb below meth c H locs cells slots (F0 m 1698 ls []) := by
  obtain ⟨hx, hb, hml, hown, hts, hX, hbl, hK, hKX, hst, hsL⟩ := C
  have hl2 : lv_has ls 7 (lvs sb rx mr oq i) := ⟨hl.1, hl.2.1, fun q hq => by
    simp only [lvs, List.mem_cons, List.not_mem_nil, or_false] at hq
    rcases hq with rfl | rfl | rfl | rfl | rfl
    · exact h4
    · exact h0
    · exact h1
    · exact h2
    · exact h3⟩
  refine lv_iinc (v := nI (i + 4)) (lv' := lvs sb rx mr oq (i + 4)) hx hb dL_law_1698 hl2 (k := 0) rfl (nI_add i 4) (by decide) rfl (fun ls hl => ?_)
  refine lv_goto (tgt := 23) hx hb dL_law_1701 (by decide) ?_
  exact kk ls hl
/-- a helper is called, its answer is kept -/
theorem la_H {S : Type} {y : MethodName} {cc : ByteArray} {n idx k mc ms : Nat} {hh : lgH} {rm : Room} {As : List Value} {wc : va_W} {w1 : S → va_W} {st0 : List Value} {lv : List (Nat × Value)} (C : LC p l s m c sb sL sx D cI cZ cF cL) (hM : CTL l D (tysX cI cZ cF cL) y (wH y cc n (some .int) hh) rm As wc mc ms (some (.int (nI k))) w1) (u1 : Cond.methodLink RL idx y ∈ wsL_law) (u2 : Cond.static y ∈ wsL_law) (u3 : Cond.initialized y.cls ∈ wsL_law) (u4 : Cond.codeWith y cc n (some .int) hh ∈ wsL_law) (hd : y.cls ≠ "java/lang/invoke/MethodHandle" ∧ y.cls ≠ "java/lang/invoke/VarHandle" ∧ (parseMethodDescriptor y.desc).map (fun d => d.parameters.length) = some As.length) (hR : rm.frames + 1 ≤ room_1.frames ∧ 8 + (n + 11) + rm.locals ≤ room_1.locals) (hrm : rm.cells = mc ∧ rm.slots = ms)
    (hP : va_P D vwCl ws H) (hD : va_D (AS s) ws) (hS : va_S (AS s) s.heap H locs) (hl : lv_has ls 7 lv) (hcells : cells + mc ≤ room_1.cells ∧ slots + ms ≤ room_1.slots) (hp : ws.Perm (wc ++ wr)) (hw : ∀ u, (w1 u).map Prod.fst = wc.map Prod.fst) (hst0 : st0 = As.reverse) (hdg : decode cL_law pc = .ok (.invokestatic idx, 3)) (hdg5 : decode cL_law (pc + 3) = .ok (.istore 5, 2)) {ws2 : S → va_W} (h2 : ∀ u, (w1 u ++ wr).Perm (ws2 u)) (hlv : lv = lvs sb rx mr oq i)
    (kk : ∀ (u : S) (H1 : Heap) (locs1 : List Loc) (ls1 : Array Slot), va_P D vwCl (ws2 u) H1 → va_D (AS s) (ws2 u) → va_S (AS s) s.heap H1 locs1 → lv_has ls1 7 ((5, .int (nI k)) :: lvs sb rx mr oq i) → WL p l e s m sb below meth c H1 locs1 (cells + mc) (slots + ms) (F0 m (pc + 3 + 2) ls1 [])) : WL p l e s m sb below meth c H locs cells slots (F0 m pc ls st0) := by
  obtain ⟨hx, hb, hml, hown, hts, hX, hbl, hK, hKX, hst, hsL⟩ := C
  subst hlv
  refine gl_S (rest := []) (st1 := [.int (nI k)]) hM (gLS u1 u2 u3 u4) rfl hd hR hrm hx hb hml hown hts hK hKX rfl (AS_of s) hP hD hS hl.1 hcells hp hw (by rw [hst0, List.append_nil]) rfl (Nat.zero_le _) hdg h2 (fun u H1 locs1 hP hD hS => ?_)
  refine lv_istore (lv' := (5, .int (nI k)) :: lvs sb rx mr oq i) hx hb hdg5 hl (by decide) rfl (fun ls hl => ?_)
  exact kk u H1 locs1 ls hP hD hS hl
/-- the reference (or the class itself) is called -/
theorem la_V {S : Type} {y : MethodName} {cc : ByteArray} {n idx : Nat} {r : Option FieldType} {rv : Option Value} {rm : Room} {b : Addr} {As rest st1 : List Value} {wc : va_W} {w1 : S → va_W} {st0 : List Value} {Cn : String} {ci : Nat} {cq : vw_C} {fs : List Value} {lv : List (Nat × Value)} (C : LC p l s m c sb sL sx D cI cZ cF cL) (hM : CT l D (tysX cI cZ cF cL) y (wA y cc n r) rm (.ref b :: As) wc rv w1) (u1 : Cond.methodLink RL idx y ∈ wsL_law) (u2 : Cond.instanceMethod y ∈ wsL_law) (u3 : Cond.selects Cn y y ∈ wsL_law) (u4 : Cond.initialized Cn ∈ wsL_law) (u5 : Cond.code y cc n r ∈ wsL_law) (hd : y.cls = Cn ∧ y.cls ≠ "java/lang/invoke/MethodHandle" ∧ y.cls ≠ "java/lang/invoke/VarHandle" ∧ (parseMethodDescriptor y.desc).map (fun d => d.parameters.length) = some As.length) (hR : rm.frames + 1 ≤ room_1.frames ∧ 8 + (n + 11) + rm.locals ≤ room_1.locals) (hrm : rm.cells = 0 ∧ rm.slots = 0)
    (hP : va_P D vwCl ws H) (hD : va_D (AS s) ws) (hS : va_S (AS s) s.heap H locs) (hl : lv_has ls 7 lv) (hcells : cells ≤ room_1.cells ∧ slots ≤ room_1.slots) (hc : vwCl[ci]? = some cq) (hcC : cq.1 = Cn) (he : wc[0]? = some (b, .inr (ci, fs))) (hp : ws.Perm (wc ++ wr)) (hw : ∀ u, (w1 u).map Prod.fst = wc.map Prod.fst) (hst0 : st0 = As.reverse ++ .ref b :: rest) (hst : rv.toList ++ rest = st1) (hroom : (rest.map fun v => v.category).sum ≤ 8) (hdg : decode cL_law pc = .ok (.invokevirtual idx, 3)) {ws2 : S → va_W} (h2 : ∀ u, (w1 u ++ wr).Perm (ws2 u))
    (kk : ∀ (u : S) (H1 : Heap) (locs1 : List Loc), va_P D vwCl (ws2 u) H1 → va_D (AS s) (ws2 u) → va_S (AS s) s.heap H1 locs1 → WL p l e s m sb below meth c H1 locs1 cells slots (F0 m (pc + 3) ls st1)) : WL p l e s m sb below meth c H locs cells slots (F0 m pc ls st0) := by
  obtain ⟨hx, hb, hml, hown, hts, hX, hbl, hK, hKX, hst9, hsL⟩ := C
  exact gp_V hM (gLV u1 u2 u3 u4 u5) rfl hd hR hrm hx hb hml hown hts hK (AS_of s) hP hD hS hl.1 hcells hc hcC he hp hw hst0 hst hroom hdg h2 kk
theorem la_f0 {f : Nat → Int64} {j : Nat} {v : Int64} : vp_updL f j v j = v := by simp [vp_updL]
set_option maxRecDepth 20000 in
theorem u_179 : Cond.methodLink RL 98 yX9_thrown ∈ wsL_law := List.mem_of_getElem? (i := 179) (by decide +kernel)
set_option maxRecDepth 20000 in
theorem u_180 : Cond.instanceMethod yX9_thrown ∈ wsL_law := List.mem_of_getElem? (i := 180) (by decide +kernel)
set_option maxRecDepth 20000 in
theorem u_181 : Cond.selects RX9 yX9_thrown yX9_thrown ∈ wsL_law := List.mem_of_getElem? (i := 181) (by decide +kernel)
set_option maxRecDepth 20000 in
theorem u_182 : Cond.code yX9_thrown cX9_thrown 1 (some .int) ∈ wsL_law := List.mem_of_getElem? (i := 182) (by decide +kernel)
set_option maxRecDepth 20000 in
theorem u_7 : Cond.constantLong RL 180 (4294967295) ∈ wsL_law := List.mem_of_getElem? (i := 7) (by decide +kernel)
theorem hdV_X9_thrown : yX9_thrown.cls = RX9 ∧ yX9_thrown.cls ≠ "java/lang/invoke/MethodHandle" ∧ yX9_thrown.cls ≠ "java/lang/invoke/VarHandle" ∧ (parseMethodDescriptor yX9_thrown.desc).map (fun d => d.parameters.length) = some 0 := by decide +kernel
/-- what both sides told is compared: the kind of refusal, and the answers -/
theorem la_tail {k : Nat} {V : Int32} {f : Nat → Int64} {off : Int} {rf : Nat → Nat} {st ln pl hs vs : Nat} {dg : Int32} {xx : Int64} (C : LC p l s m c sb sL sx D cI cZ cF cL)
    (d1 : decode cL_law pc = .ok (.istore 6, 2)) (d2 : decode cL_law (pc + 2) = .ok (.aload_n 2, 1)) (d3 : decode cL_law (pc + 3) = .ok (.invokevirtual 98, 3)) (d4 : decode cL_law (pc + 6) = .ok (.iload 5, 2)) (d5 : decode cL_law (pc + 8) = .ok (.if_icmp .eq 5, 3)) (d6 : decode cL_law (pc + 13) = .ok (.iload 5, 2)) (d7 : decode cL_law (pc + 15) = .ok (.ifCond .ne 15, 3)) (d8 : decode cL_law (pc + 18) = .ok (.aload_n 3, 1)) (d9 : decode cL_law (pc + 19) = .ok (.iconst 0, 1)) (d10 : decode cL_law (pc + 20) = .ok (.laload, 1)) (d11 : decode cL_law (pc + 21) = .ok (.iload 6, 2)) (d12 : decode cL_law (pc + 23) = .ok (.i2l, 1)) (d13 : decode cL_law (pc + 24) = .ok (.lcmp, 1)) (d14 : decode cL_law (pc + 25) = .ok (.ifCond .eq 5, 3)) (d15 : decode cL_law (pc + 30) = .ok (.goto off, 3)) (ht : ((pc + 30 : Nat) : Int) + off = ((1698 : Nat) : Int))
    (hk4 : k < 4) (hk : k = 0 → f (nI 0).toNatClampNeg = V.toInt64) (hP : va_P D vwCl ws H) (hD : va_D (AS s) ws) (hS : va_S (AS s) s.heap H locs) (hcells : cells ≤ room_1.cells ∧ slots ≤ room_1.slots) (ho : ((oq, .inl (cL, 1, .inr (.inl f))) : Nat × va_E) ∈ ws) (hp : ws.Perm (mX mr rf st ln k pl hs vs dg xx ++ wr)) (hl : lv_has ls 7 ((5, .int (nI k)) :: lvs sb rx mr oq i))
    (kk : ∀ (H1 : Heap) (locs1 : List Loc) (ls1 : Array Slot), va_P D vwCl ws H1 → va_D (AS s) ws → va_S (AS s) s.heap H1 locs1 → lv_has ls1 7 (lvs sb rx mr oq (i + 4)) → WL p l e s m sb below meth c H1 locs1 cells slots (F0 m 23 ls1 [])) : WL p l e s m sb below meth c H locs cells slots (F0 m pc ls [.int V]) := by
  obtain ⟨hx, hb, hml, hown, hts, hX, hbl, hK, hKX, hst, hsL⟩ := id C
  refine lv_istore (lv' := (6, .int V) :: (5, .int (nI k)) :: lvs sb rx mr oq i) hx hb d1 hl (by decide) rfl (fun ls hl => ?_)
  refine lv_aload_n hx hb d2 rfl (lv_at hl 5 rfl) ?_
  refine la_V C (ci := 9) (cq := (RX9, TX9, 15)) (rest := []) (wr := wr) (c_X9_thrown l D cI cZ cF cL mr rf st ln k pl hs vs dg xx) u_179 u_180 u_181 u_5 u_182 hdV_X9_thrown ⟨Nat.le_of_ble_eq_true rfl, Nat.le_of_ble_eq_true rfl⟩ ⟨rfl, rfl⟩ hP hD hS hl hcells rfl rfl rfl hp (fun _ => rfl) rfl rfl (Nat.zero_le _) d3 (ws2 := fun _ : Unit => ws) (fun _ => hp.symm) (fun _ H1 locs1 hP hD hS => ?_)
  refine lv_iload hx hb d4 (lv_at hl 1 rfl) ?_
  refine lv_icmp_eq (tgt := pc + 13) hx hb d5 (by omega) (fun _ => ?_) (fun q => absurd rfl q)
  refine lv_iload hx hb d6 (lv_at hl 1 rfl) ?_
  have hend : ∀ cells' slots', cells' = cells → slots' = slots → WL p l e s m sb below meth c H1 locs1 cells' slots' (F0 m (pc + 30) ls []) := by
    intro _ _ e1 e2
    subst e1 e2
    refine lv_goto (tgt := 1698) hx hb d15 ht ?_
    exact la_end C hl (lv_at hl 2 rfl) (lv_at hl 3 rfl) (lv_at hl 4 rfl) (lv_at hl 5 rfl) (lv_at hl 6 rfl) (fun ls hl => kk H1 locs1 ls hP hD hS hl)
  refine lv_if_ne (tgt := pc + 30) hx hb d7 (by omega) (fun _ => hend _ _ rfl rfl) (fun q => ?_)
  have hk0 : k = 0 ∨ ¬ k = 0 := Decidable.em _
  refine lv_aload_n hx hb d8 rfl (lv_at hl 6 rfl) ?_
  refine lv_iconst (v := nI 0) hx hb d9 (by decide) ?_
  obtain ⟨q0, hq0⟩ := List.getElem?_of_mem ho
  refine va_lald hx hb hK.1 hP q0 3 hq0 rfl cl_0 d10 ?_
  refine lv_iload hx hb d11 (lv_at hl 0 rfl) ?_
  refine t_i2l hx hb d12 rfl ?_
  refine W.lcmp hx hb d13 ?_
  refine lv_if_eq (tgt := pc + 30) hx hb d14 (by omega) (fun _ => hend _ _ rfl rfl) (fun z => absurd ((lg_cmp_eq _ _).mpr (hk (nI_ne (a := k) (b := 0) (by omega) (by decide) q))) z)
/-- a word of the script as a truth value -/
theorem la_bool {x : Int32} {st : List Value} {o1 o2 : Int} (C : LC p l s m c sb sL sx D cI cZ cF cL) (h1 : (pc : Int) + o1 = ((pc + 7 : Nat) : Int)) (h2 : ((pc + 3 + 1 : Nat) : Int) + o2 = ((pc + 8 : Nat) : Int)) (d1 : decode cL_law pc = .ok (.ifCond .eq o1, 3)) (d2 : decode cL_law (pc + 3) = .ok (.iconst 1, 1)) (d3 : decode cL_law (pc + 3 + 1) = .ok (.goto o2, 3)) (d4 : decode cL_law (pc + 7) = .ok (.iconst 0, 1))
    (kk : WL p l e s m sb below meth c H locs cells slots (F0 m (pc + 8) ls (.int (nI (if x = 0 then 0 else 1)) :: st))) : WL p l e s m sb below meth c H locs cells slots (F0 m pc ls (.int x :: st)) := by
  obtain ⟨hx, hb, hml, hown, hts, hX, hbl, hK, hKX, hst, hsL⟩ := C
  refine lv_if_eq (tgt := pc + 7) hx hb d1 h1 (fun q => ?_) (fun q => ?_)
  · rw [if_pos q] at kk
    exact lv_iconst (v := nI 0) hx hb d4 (by decide) kk
  · rw [if_neg q] at kk
    refine lv_iconst (v := nI 1) hx hb d2 (by decide) ?_
    exact lv_goto (tgt := pc + 8) hx hb d3 h2 kk
/-- two words of the script as a long -/
def hi64 (x : Int32) : Int64 := x.toInt64 <<< ((nI 32).toInt64 &&& 63)
def lgo (x y : Int32) : Int64 := hi64 x ||| (y.toInt64 &&& 4294967295)
theorem la_hi {x : Int32} {st : List Value} (C : LC p l s m c sb sL sx D cI cZ cF cL) (d1 : decode cL_law pc = .ok (.i2l, 1)) (d2 : decode cL_law (pc + 1) = .ok (.bipush 32, 2)) (d3 : decode cL_law (pc + 1 + 2) = .ok (.lshl, 1))
    (kk : WL p l e s m sb below meth c H locs cells slots (F0 m (pc + 1 + 2 + 1) ls (.long (hi64 x) :: st))) : WL p l e s m sb below meth c H locs cells slots (F0 m pc ls (.int x :: st)) := by
  obtain ⟨hx, hb, hml, hown, hts, hX, hbl, hK, hKX, hst, hsL⟩ := C
  refine t_i2l hx hb d1 rfl ?_
  refine lv_bipush (v := nI 32) hx hb d2 (by decide) ?_
  exact lv_lshl hx hb d3 rfl kk
theorem la_lo {x y : Int32} {st : List Value} (C : LC p l s m c sb sL sx D cI cZ cF cL) (d1 : decode cL_law pc = .ok (.i2l, 1)) (d2 : decode cL_law (pc + 1) = .ok (.ldc2_w 180, 3)) (d3 : decode cL_law (pc + 1 + 3) = .ok (.land, 1)) (d4 : decode cL_law (pc + 1 + 3 + 1) = .ok (.lor, 1))
    (kk : WL p l e s m sb below meth c H locs cells slots (F0 m (pc + 1 + 3 + 1 + 1) ls (.long (lgo x y) :: st))) : WL p l e s m sb below meth c H locs cells slots (F0 m pc ls (.int y :: .long (hi64 x) :: st)) := by
  obtain ⟨hx, hb, hml, hown, hts, hX, hbl, hK, hKX, hst, hsL⟩ := C
  refine t_i2l hx hb d1 rfl ?_
  refine lv_ldc2 (v := 4294967295) hx hb hown (hts _ u_7) d2 ?_
  refine lv_land hx hb d3 ?_
  exact lv_lor hx hb d4 kk
theorem hstOf (C : LC p l s m c sb sL sx D cI cZ cF cL) : l.stackTraces = false := C.2.2.2.2.2.2.2.2.2.1
end
