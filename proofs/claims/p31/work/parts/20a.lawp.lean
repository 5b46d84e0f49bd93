/-! The law: its script, its first houses, its loop's state. -/
set_option maxRecDepth 20000 in
theorem w_125 : Cond.constant RL 8 (2147483647) ∈ wsL_law := List.mem_of_getElem? (i := 125) (by decide +kernel)
set_option maxRecDepth 20000 in
theorem w_124 : Cond.constant RL 7 (15554513) ∈ wsL_law := List.mem_of_getElem? (i := 124) (by decide +kernel)
set_option maxRecDepth 20000 in
theorem w_120 : Cond.methodLink RL 65 yL_cell ∈ wsL_law := List.mem_of_getElem? (i := 120) (by decide +kernel)
set_option maxRecDepth 20000 in
theorem w_121 : Cond.static yL_cell ∈ wsL_law := List.mem_of_getElem? (i := 121) (by decide +kernel)
set_option maxRecDepth 20000 in
theorem w_122 : Cond.initialized RL ∈ wsL_law := List.mem_of_getElem? (i := 122) (by decide +kernel)
set_option maxRecDepth 20000 in
theorem w_123 : Cond.code yL_cell cL_cell 2 (some .int) ∈ wsL_law := List.mem_of_getElem? (i := 123) (by decide +kernel)
/-- the script's number k, or what stands for it behind its end -/
def cellN (L : Nat) (xs : Nat → Int32) (k : Nat) : Nat := (if k < L then xs k else nI (15554513 * k + 929)).toBitVec.toNat % 2 ^ 31
theorem cell_lt (L : Nat) (xs : Nat → Int32) (k : Nat) : cellN L xs k < 2 ^ 31 := Nat.mod_lt _ (Nat.two_pow_pos 31)
theorem cell_eq (L : Nat) (xs : Nat → Int32) (k : Nat) : (if k < L then xs k else nI (15554513 * k + 929)) &&& 2147483647 = nI (cellN L xs k) := pk_and _ 31 (by decide +kernel)
theorem cell_body {p : Program} {l : Launch} {e : Env} {s : State} {m : MethodId} {args : Array Value} {below : List Frame} {meth : Method} {c : Code} {D : va_G} {sb sL k : Nat} {sx : Nat → Int32} (hx : p.tables.exec = Jvm.exec) (hb : c.code = cL_cell) (hr : meth.sig.returnType = some .int) (hts : ∀ w ∈ wA yL_cell cL_cell 2 (some .int), w.before args s = true) (hown : s.vm.findClass RL = some m.cls) (hlocks : meth.locks = false)
    (hX : va_X sb sL sx s s.heap) (hbl : sb < s.heap.size) (hL : sL ≤ 260) (hk : k < 2 ^ 31) {A : Nat → Prop} (hbA : ¬ A sb) {ls : Array Slot} (hl : lv_has ls 2 [(0, .ref sb), (1, .int (nI k))]) :
    W p l e (rmF 0 0) s m args below meth c s.heap [] 0 0 (MQ below (CQ D (some (.int (nI (cellN sL sx k)))) (fun _ : Unit => ([] : va_W)) A) args s 0 0 A) (F0 m 0 ls []) := by
  have hS : va_S A s.heap s.heap [] := va_S.rf
  have hP : va_P D vwCl ((fun _ : Unit => ([] : va_W)) ()) s.heap := fun k q h => by simp at h
  have tl : ∀ v : Int32, v = (if k < sL then sx k else nI (15554513 * k + 929)) → W p l e (rmF 0 0) s m args below meth c s.heap [] 0 0 (MQ below (CQ D (some (.int (nI (cellN sL sx k)))) (fun _ : Unit => ([] : va_W)) A) args s 0 0 A) (F0 m 20 ls [.int v]) := by
    intro v hv
    refine lv_ldc (v := (2147483647)) hx hb hown (hts _ (kU w_125)) dL_cell_20 ?_
    refine lv_iand hx hb dL_cell_22 ?_
    exact ct_i () hx hb hr hlocks hP hS (by rw [hv]; exact cell_eq sL sx k) dL_cell_23
  refine lv_iload_n hx hb dL_cell_0 rfl (lv_at hl 1 rfl) ?_
  refine lv_aload_n hx hb dL_cell_1 rfl (lv_at hl 0 rfl) ?_
  refine va_slen hx hb hX hbl hbA hS dL_cell_2 ?_
  refine lv_icmp_ge (tgt := 12) hx hb dL_cell_3 (by decide) (fun c_3 => ?_) (fun c_3 => ?_)
  · have q : sL ≤ k := cn_le (by omega) (by omega) c_3
    refine lv_ldc (v := (15554513)) hx hb hown (hts _ (kU w_124)) dL_cell_12 ?_
    rw [show ((15554513) : Int32) = nI 15554513 from by decide +kernel]
    refine lv_iload_n hx hb dL_cell_14 rfl (lv_at hl 1 rfl) ?_
    refine lv_imul hx hb dL_cell_15 ?_
    rw [pk_mul 15554513 k]
    refine lv_sipush (v := nI 929) hx hb dL_cell_16 (by decide +kernel) ?_
    refine lv_iadd hx hb dL_cell_19 ?_
    rw [nI_add (15554513 * k) 929]
    exact tl _ (if_neg (by omega)).symm
  · have q : k < sL := cn_nle (by omega) (by omega) c_3
    refine lv_aload_n hx hb dL_cell_6 rfl (lv_at hl 0 rfl) ?_
    refine lv_iload_n hx hb dL_cell_7 rfl (lv_at hl 1 rfl) ?_
    refine va_sld hx hb hX hbl hbA hS (vp_in_nI q (by omega)) dL_cell_8 ?_
    rw [nI_clamp hk]
    refine lv_goto (tgt := 20) hx hb dL_cell_9 (by decide) ?_
    exact tl _ (if_pos q).symm
def CPS (sb sL : Nat) (sx : Nat → Int32) (k : Nat) (sz : Nat) : Array Value → State → Prop := va_Pc [.ref sb, .int (nI k)] (fun U => U.heap.size = sz ∧ va_X sb sL sx U U.heap ∧ sb < sz)
theorem CPS_blind {sb sL k sz : Nat} {sx : Nat → Int32} : FrameBlind (CPS sb sL sx k sz) := fun a U g mk q => by
  obtain ⟨q0, q1, qX, q3⟩ := q
  exact ⟨q0, q1, va_X.moved (u := U) (U := U.calling g mk a) (Vm.Alike.refl U.vm) qX, q3⟩
theorem c_L_cell (l : Launch) (D : va_G) {sb sL k : Nat} {sx : Nat → Int32} (hL : sL ≤ 260) (hk : k < 2 ^ 31) (sz : Nat) : Met l yL_cell (wA yL_cell cL_cell 2 (some .int)) (rmF 0 0) (CPS sb sL sx k sz) (CQ D (some (.int (nI (cellN sL sx k)))) (fun _ : Unit => ([] : va_W)) (va_A [] sz)) 0 0 (va_A [] sz) := by
  refine Met.ofW (cc := cL_cell) (maxL := 2) (ret := some .int) (by decide +kernel) rfl ?_
  intro p e s m args below meth c s₁ B hml hv
  obtain ⟨rfl, hsz, hX, hbl⟩ := hv
  have hts := atoms_spec (ws := wA yL_cell cL_cell 2 (some .int)) B.pre
  have hfc : s.vm.findClass RL = some m.cls := findClass_of_methodNamed B.named
  subst hsz
  have hl := lv_entry [.ref sb, .int (nI k)] (n := 2) (Nat.le_of_ble_eq_true rfl)
  rw [show lv_args 0 [.ref sb, .int (nI k)] = [(0, .ref sb), (1, .int (nI k))] from rfl] at hl
  rw [lg_entry_eq]
  exact cell_body B.exec B.bytes B.returns hts hfc B.notSynchronized hX hbl hL hk (A := va_A [] s.heap.size) (by
    rintro (⟨k, e, h⟩ | h)
    · simp at h
    · omega) hl
theorem gL1 {w : Cond} (h : w ∈ wsL_law) : w ∈ wsL_law ∧ ((w.onTables && w.keeps) = true ∨ ∃ ty, w = .arrayClass ty) := ⟨h, good_of_word (goodU _ h)⟩
theorem gL0 {y' : MethodName} {c' : ByteArray} {n' : Nat} {r' : Option FieldType} (h : Cond.code y' c' n' r' ∈ wsL_law) : GoodIn wsL_law (wA y' c' n' r') := by
  intro w hw
  rcases List.mem_cons.mp hw with rfl | hw
  · exact gL1 h
  · exact gL1 hw
theorem gLP {own : String} {idx : Nat} {y' : MethodName} {c' : ByteArray} {n' : Nat} {r' : Option FieldType} (h1 : Cond.methodLink own idx y' ∈ wsL_law) (h2 : Cond.static y' ∈ wsL_law) (h3 : Cond.initialized y'.cls ∈ wsL_law) (h : Cond.code y' c' n' r' ∈ wsL_law) : GoodIn wsL_law (va_wsS own idx y' (wA y' c' n' r')) := by
  intro w hw
  unfold va_wsS at hw
  simp only [List.cons_append, List.nil_append, List.mem_cons] at hw
  rcases hw with rfl | rfl | rfl | hw
  · exact gL1 h1
  · exact gL1 h2
  · exact gL1 h3
  · exact gL0 h w hw
theorem gLV {own C : String} {idx : Nat} {y' : MethodName} {c' : ByteArray} {n' : Nat} {r' : Option FieldType} (h1 : Cond.methodLink own idx y' ∈ wsL_law) (h2 : Cond.instanceMethod y' ∈ wsL_law) (h3 : Cond.selects C y' y' ∈ wsL_law) (h4 : Cond.initialized C ∈ wsL_law) (h : Cond.code y' c' n' r' ∈ wsL_law) : GoodIn wsL_law (wsV own idx C y' (wA y' c' n' r')) := by
  intro w hw
  unfold wsV at hw
  simp only [List.cons_append, List.nil_append, List.mem_cons] at hw
  rcases hw with rfl | rfl | rfl | rfl | hw
  · exact gL1 h1
  · exact gL1 h2
  · exact gL1 h3
  · exact gL1 h4
  · exact gL0 h w hw
theorem hdS_L_cell : yL_cell.cls ≠ "java/lang/invoke/MethodHandle" ∧ yL_cell.cls ≠ "java/lang/invoke/VarHandle" ∧ (parseMethodDescriptor yL_cell.desc).map (fun d => d.parameters.length) = some 2 := by decide +kernel
theorem go_cell {p : Program} {l : Launch} {e : Env} {R : Room} {s : State} {m : MethodId} {args : Array Value} {below : List Frame} {meth : Method} {c : Code} {H : Heap} {locs : List Loc} {cells slots pc : Nat} {Q : State → Prop} (D : va_G) {A : Nat → Prop} {ws : va_W} {ls : Array Slot} {sb sL k : Nat} {sx : Nat → Int32} {rest : List Value} (hx : p.tables.exec = Jvm.exec) (hb : c.code = cL_law) (hml : c.maxLocals = 7) (hown : s.vm.findClass RL = some m.cls) (hts : ∀ w ∈ wsL_law, w.before args s = true) (hA : ∀ q, s.heap.size ≤ q → A q) (hP : va_P D vwCl ws H) (hD : va_D A ws) (hS : va_S A s.heap H locs) (hls : ls.size = 7)
    (hX : va_X sb sL sx s s.heap) (hbl : sb < s.heap.size) (hbA : ¬ A sb) (hL : sL ≤ 260) (hk : k < 2 ^ 31) (hR : 1 ≤ R.frames ∧ 21 ≤ R.locals) (hcells : cells + 0 ≤ R.cells ∧ slots + 0 ≤ R.slots) (hroom : (rest.map fun v => v.category).sum ≤ 8) (hdg : decode cL_law pc = .ok (.invokestatic 65, 3))
    (kk : ∀ (H1 : Heap) (locs1 : List Loc), va_P D vwCl ws H1 → va_D A ws → va_S A s.heap H1 locs1 → W p l e R s m args below meth c H1 locs1 cells slots Q (F0 m (pc + 3) ls (.int (nI (cellN sL sx k)) :: rest))) : W p l e R s m args below meth c H locs cells slots Q (F0 m pc ls (.int (nI k) :: .ref sb :: rest)) := by
  refine go_any (S := Unit) (wc := ([] : va_W)) (w1 := fun _ => ([] : va_W)) (rv := some (.int (nI (cellN sL sx k)))) (va_runS (As := [.ref sb, .int (nI k)]) (rest := rest) (mc := 0) (ms := 0) (maxL := 2) (ret := some .int) (bytes := cL_cell) ⟨hx, hb, hml, hown, hts⟩ (c_L_cell l D (sb := sb) (sx := sx) hL hk H.size) (va_cwS 2 hts (gLP w_120 w_121 w_122 w_123) rfl rfl rfl hdS_L_cell hR) ⟨CPS_blind, fun U hU hW => ?_⟩ rfl rfl hls rfl (lv_room hroom) hdg hcells) hS hA hP hD [] rfl (fun _ => rfl) rfl (ws2 := fun _ => ws) (fun _ => rfl) (fun u H1 locs1 hP hD hS => kk H1 locs1 hP hD hS)
  refine ⟨rfl, by rw [hU], ?_, ?_⟩
  · rw [hU]
    exact (va_X.kept hX (hS.2.1 sb hbl hbA)).moved hW.alike
  · exact Nat.lt_of_lt_of_le hbl hS.1
/-! the first houses -/
def I1 (T : Nat → Nat → Nat) (k nv : Nat) : Prop := FI T ∧ T 0 0 = k ∧ T 0 1 = nv ∧ (∀ j, T 8 j = 0) ∧ (∀ v, T 6 v = 0) ∧ T 0 3 = 0 ∧ T 0 4 = 0
theorem FI_T0 : FI T0 := by
  refine ⟨⟨Nat.zero_le _, Nat.zero_le _⟩, fun j _ => ⟨Nat.zero_le _, Nat.zero_le _, Nat.zero_le _, Nat.zero_le _, fun h => absurd (show j < 0 from h) (Nat.not_lt_zero j), fun _ => ⟨rfl, rfl, rfl⟩⟩, fun v _ => ⟨Nat.zero_le _, fun _ => rfl⟩, fun k _ => ?_, ?_, fun _ _ => rfl⟩
  · show 5 ≤ 9
    omega
  · show sumN (fun _ => 0) 30 ≤ 200
    rw [sumN_zero]
    omega
theorem p0_sw : swT T0 = (0, fun _ => 0) := by
  have h : ¬ 0 < (bst (T0 7) (pkT T0).1 (T0 0 0) (T0 0 1) 900).2 := by
    intro q
    obtain ⟨a, b, v, w, ea, eb, ev, ew, q1, q2, -⟩ := bst_what q
    exact absurd (show b < 0 from q2) (Nat.not_lt_zero b)
  exact swR_z h 1801
theorem I1_0 : I1 (packT T0) 0 0 := by
  have e8 : packT T0 8 = fun _ => 0 := congrArg Prod.snd p0_sw
  exact ⟨FI_pack FI_T0, rfl, rfl, fun j => by rw [e8], fun v => rfl, rfl, rfl⟩
theorem p0_0 : packT T0 0 5 = 0 := congrArg Prod.fst p0_sw
theorem I1_ah {T : Nat → Nat → Nat} {k nv z : Nat} (h : I1 T k nv) (hk : k < 6) (h1 : 1 ≤ z) (h2 : z ≤ 4) : I1 (ahT T z 0) (k + 1) nv := by
  obtain ⟨hF, a, b, c, d, e, f⟩ := h
  subst a
  exact ⟨FI_ah hF hk h1 h2 (by omega), rfl, b, c, d, e, f⟩
theorem I1_av {T : Nat → Nat → Nat} {k nv y : Nat} (h : I1 T k nv) (hv : nv < 5) (hy : y ≤ 40) : I1 (avT T y) k (nv + 1) := by
  obtain ⟨hF, a, b, c, d, e, f⟩ := h
  subst b
  exact ⟨FI_av hF hv hy, a, rfl, c, d, e, f⟩
theorem I1_A {T : Nat → Nat → Nat} {k b z : Nat} (h : I1 T k (min k (2 + b))) (hb : 1 + b < k) (hk : k < 6) (h1 : 1 ≤ z) (h2 : z ≤ 4) : I1 (ahT T z 0) (k + 1) (min (k + 1) (2 + b)) := by
  have e : min k (2 + b) = min (k + 1) (2 + b) := by omega
  rw [e] at h
  exact I1_ah h hk h1 h2
theorem I1_B {T : Nat → Nat → Nat} {k b z y : Nat} (h : I1 T k (min k (2 + b))) (hb : k ≤ 1 + b) (hb1 : b ≤ 1) (h1 : 1 ≤ z) (h2 : z ≤ 4) (hy : y ≤ 40) : I1 (avT (ahT T z 0) y) (k + 1) (min (k + 1) (2 + b)) := by
  have e : min k (2 + b) + 1 = min (k + 1) (2 + b) := by omega
  rw [← e]
  exact I1_av (I1_ah h (by omega) h1 h2) (by omega) hy
theorem I1_nv {T : Nat → Nat → Nat} {k b z : Nat} (h : I1 T k (min k (2 + b))) (hb : k ≤ 1 + b) : ahT T z 0 0 1 = k := by
  have := h.2.2.1
  show T 0 1 = k
  omega
theorem I1_SI {T : Nat → Nat → Nat} {k nv : Nat} (h : I1 T k nv) : SI T 0 ∧ CI T := by
  obtain ⟨hF, a, b, c, d, e, f⟩ := h
  have e8 : T 8 = fun _ => 0 := funext c
  have e6 : T 6 = fun _ => 0 := funext d
  have kv : ∀ u n, kilV (T 8) n u = 0 := fun u n => by rw [e8]; exact sumN_zero n
  refine ⟨?_, fun v _ => by rw [kv]; omega⟩
  unfold SI
  rw [kilA_V, e6, sumN_zero, e, f, sumN_all0 _ (fun u _ => kv u _)]
theorem shr_k {n j : Nat} (hn : n < 2 ^ 31) (hj : j ≤ 15) : nI n >>> (nI j &&& 31) = nI (n / 2 ^ j) := by
  refine pk_shrN hn _ j ?_
  match j, hj with
  | 0, _ => decide +kernel
  | 1, _ => decide +kernel
  | 2, _ => decide +kernel
  | 3, _ => decide +kernel
  | 4, _ => decide +kernel
  | 5, _ => decide +kernel
  | 6, _ => decide +kernel
  | 7, _ => decide +kernel
  | 8, _ => decide +kernel
  | 9, _ => decide +kernel
  | 10, _ => decide +kernel
  | 11, _ => decide +kernel
  | 12, _ => decide +kernel
  | 13, _ => decide +kernel
  | 14, _ => decide +kernel
  | 15, _ => decide +kernel
  | j + 16, h => omega
theorem sw_bd (T : Nat → Nat → Nat) : packT T 0 5 < 2 ^ 31 := by
  have h : packT T 0 5 ≤ 1801 := swR_cnt _ _ _ 1801 _
  omega
theorem und_T {T : Nat → Nat → Nat} {Ts : Nat → Nat → Nat → Nat} {nx : Nat} (hn : nx < 14) : va_up Ts nx T (((nx + 1) % 14 + 14 - 1) % 14) = T := by
  have e : ((nx + 1) % 14 + 14 - 1) % 14 = nx := by omega
  rw [e]
  exact if_pos rfl
