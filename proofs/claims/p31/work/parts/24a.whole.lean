set_option maxHeartbeats 4000000 in
set_option maxRecDepth 100000 in
/-- YOUR PART: from the entry, for every script of at most 260 ints, the law comes to its end with true ('hflags': the launch's flags, for a law that throws: no stack traces) -/
theorem whole_start {p : Program} {e : Env} {s : State} {m : MethodId} {below : List Frame} {meth : Method} {c : Code} (l : Launch) (hflags : l.flags = flags0) {b L : Nat} {xs : Nat → Int32} (hL : L ≤ 260) (C0 : lw_At p s m meth c b L xs) : W p l e room_1 s m #[Value.ref b] below meth c s.heap [] 0 0 (lw_Z below #[Value.ref b] s) (entryFrame m ([Value.ref b] : List Value).toArray 7) := by
  obtain ⟨hx, hb, hr, hml, hown, hts, hXs, hbl, hlocks, hgv⟩ := id C0
  have ht2 : ∀ w ∈ wsL_law, w.before #[Value.ref b] s = true := fun w hw => hts w (wsL_law_in w hw)
  obtain ⟨D, cI, cZ, cF, cL, hK⟩ := st_K hts
  have hO : va_AO cFM s := va_AO.of (hts _ st_AO)
  have hS : va_S (AS s) s.heap s.heap [] := va_S.rf
  have hP : va_P D vwCl [] s.heap := fun k q h => by simp at h
  have hD : va_D (AS s) [] := ⟨fun i j p q h => by simp at h, fun k q h => by simp at h⟩
  have hl := lv_entry ([Value.ref b]) (n := 7) (Nat.le_of_ble_eq_true rfl)
  rw [lg_entry_eq]
  generalize (lg_sl ([Value.ref b]) ++ List.replicate (7 - (lg_sl ([Value.ref b])).length) Slot.unset).toArray = ls at hl ⊢
  have hl : lv_has ls 7 [(0, .ref b)] := hl
  refine va_new (ci := 8) (fs := [.null, .null, .null, .null, .null, .null, .null, .null, .null, .null, .null]) (C := RX8) (T := TX8) (N := 11) hx hb ht2 inlX8 tyX8 tyX8_ok hown (ht2 _ w_0) (ht2 _ w_1) (ht2 _ w_2) hK.1 hP hD hS (AS_of s) rfl (fun j hj => match j, hj with | 0, _ => rfl | 1, _ => rfl | 2, _ => rfl | 3, _ => rfl | 4, _ => rfl | 5, _ => rfl | 6, _ => rfl | 7, _ => rfl | 8, _ => rfl | 9, _ => rfl | 10, _ => rfl | k + 11, h => absurd h (by omega)) (Nat.le_of_ble_eq_true rfl) (Nat.le_of_ble_eq_true rfl) dL_law_0 (fun rx H hP hD hS => ?_)
  have hP : va_P D vwCl ([(rx, .inr (8, [.null, .null, .null, .null, .null, .null, .null, .null, .null, .null, .null]))] : va_W) H := hP
  have hD : va_D (AS s) ([(rx, .inr (8, [.null, .null, .null, .null, .null, .null, .null, .null, .null, .null, .null]))] : va_W) := hD
  refine lv_dup hx hb dL_law_3 rfl ?_
  refine gn_I (n_X8_init l D cI cZ cF cL rx) (gL0 w_5) rfl rfl hdI_X8_init ⟨(Nat.le_of_ble_eq_true rfl), (Nat.le_of_ble_eq_true rfl)⟩ (ht2 _ w_2) (ht2 _ w_3) (ht2 _ w_4) hx hb hml hown ht2 hK hO (AS_of s) hP hD hS hl.1 ⟨(Nat.le_of_ble_eq_true rfl), (Nat.le_of_ble_eq_true rfl)⟩ (wr := ([] : va_W)) (pm_cnt (fun _ => by simp only [List.countP_append, List.countP_nil] <;> omega)) (rest := [.ref rx]) rfl (Nat.le_of_ble_eq_true rfl) dL_law_4 (ws2 := fun u8 : (Nat → Nat) × (Nat → Nat) × (Nat → Nat) × (Nat → Nat) × (Nat → Nat) × (Nat → Nat) × (Nat → Nat) × (Nat → Nat) × Nat × Nat × Nat × Nat × Nat × Nat × Nat × Nat × (Nat → Nat → Nat) × (Nat → Nat → Nat) => (xX rx u8.1 u8.2.1 u8.2.2.1 u8.2.2.2.2.2.2.2.2.1 u8.2.2.2.2.2.2.2.2.2.2.1 u8.2.2.2.2.2.2.2.2.2.2.2.1 u8.2.2.2.1 u8.2.2.2.2.2.2.2.2.2.2.2.2.1 u8.2.2.2.2.2.2.2.2.2.2.2.2.2.1 u8.2.2.2.2.2.2.2.2.2.2.2.2.2.2.1 u8.2.2.2.2.2.2.2.2.2.2.2.2.2.2.2.1 ++ tX cI u8.1 (fun _ => 0) 0 0 ++ fT cI u8.2.1 T0 ++ fT cI u8.2.2.1 T0 ++ (hX cF u8.2.2.2.2.2.2.2.2.1 u8.2.2.2.2.2.2.2.2.2.1 u8.2.2.2.2.2.2.2.2.2.2.2.2.2.2.2.2.1 0 0 ++ fsB cI u8.2.2.2.2.2.2.2.2.2.2.2.2.2.2.2.2.1 (fun _ => T0) 14) ++ sgX cF u8.2.2.2.2.2.2.2.2.2.2.1 u8.2.2.2.2.2.2.2.2.2.2.2.2.2.2.2.2.2 2 ++ fsB cI u8.2.2.2.2.2.2.2.2.2.2.2.2.2.2.2.2.2 (fun _ => T0) 2 ++ zaX cZ u8.2.2.2.2.2.2.2.2.2.2.2.1 2 (fun _ => 0) ++ pX cI u8.2.2.2.1 (fun _ => 0) (fun _ => 0) (nI 0) (nI 0) 0 0 0 0 0 ++ bX u8.2.2.2.2.2.2.2.2.2.2.2.2.1 (nI 0) (nI 0) ++ sX u8.2.2.2.2.2.2.2.2.2.2.2.2.2.1 0 0 0 0 0 ++ (r5X u8.2.2.2.2.2.2.2.2.2.2.2.2.2.2.1 u8.2.2.2.2.1 u8.2.2.2.2.2.1 ++ fT cI u8.2.2.2.2.1 T0 ++ pX cI u8.2.2.2.2.2.1 (fun _ => 0) (fun _ => 0) (nI 0) (nI 0) 0 0 0 0 0) ++ (r6X u8.2.2.2.2.2.2.2.2.2.2.2.2.2.2.2.1 u8.2.2.2.2.2.2.1 u8.2.2.2.2.2.2.2.1 0 ++ fT cI u8.2.2.2.2.2.2.1 T0 ++ pX cI u8.2.2.2.2.2.2.2.1 (fun _ => 0) (fun _ => 0) (nI 0) (nI 0) 0 0 0 0 0))) (fun _ => (pm_cnt (fun _ => by simp only [List.countP_append, List.countP_nil] <;> omega))) (fun u8 H locs hP hD hS => ?_)
  refine lv_astore_n (lv' := [(1, .ref rx), (0, .ref b)]) hx hb dL_law_7 rfl hl (by decide) rfl (fun ls hl => ?_)
  have hpm : ((xX rx u8.1 u8.2.1 u8.2.2.1 u8.2.2.2.2.2.2.2.2.1 u8.2.2.2.2.2.2.2.2.2.2.1 u8.2.2.2.2.2.2.2.2.2.2.2.1 u8.2.2.2.1 u8.2.2.2.2.2.2.2.2.2.2.2.2.1 u8.2.2.2.2.2.2.2.2.2.2.2.2.2.1 u8.2.2.2.2.2.2.2.2.2.2.2.2.2.2.1 u8.2.2.2.2.2.2.2.2.2.2.2.2.2.2.2.1 ++ tX cI u8.1 (fun _ => 0) 0 0 ++ fT cI u8.2.1 T0 ++ fT cI u8.2.2.1 T0 ++ (hX cF u8.2.2.2.2.2.2.2.2.1 u8.2.2.2.2.2.2.2.2.2.1 u8.2.2.2.2.2.2.2.2.2.2.2.2.2.2.2.2.1 0 0 ++ fsB cI u8.2.2.2.2.2.2.2.2.2.2.2.2.2.2.2.2.1 (fun _ => T0) 14) ++ sgX cF u8.2.2.2.2.2.2.2.2.2.2.1 u8.2.2.2.2.2.2.2.2.2.2.2.2.2.2.2.2.2 2 ++ fsB cI u8.2.2.2.2.2.2.2.2.2.2.2.2.2.2.2.2.2 (fun _ => T0) 2 ++ zaX cZ u8.2.2.2.2.2.2.2.2.2.2.2.1 2 (fun _ => 0) ++ pX cI u8.2.2.2.1 (fun _ => 0) (fun _ => 0) (nI 0) (nI 0) 0 0 0 0 0 ++ bX u8.2.2.2.2.2.2.2.2.2.2.2.2.1 (nI 0) (nI 0) ++ sX u8.2.2.2.2.2.2.2.2.2.2.2.2.2.1 0 0 0 0 0 ++ (r5X u8.2.2.2.2.2.2.2.2.2.2.2.2.2.2.1 u8.2.2.2.2.1 u8.2.2.2.2.2.1 ++ fT cI u8.2.2.2.2.1 T0 ++ pX cI u8.2.2.2.2.2.1 (fun _ => 0) (fun _ => 0) (nI 0) (nI 0) 0 0 0 0 0) ++ (r6X u8.2.2.2.2.2.2.2.2.2.2.2.2.2.2.2.1 u8.2.2.2.2.2.2.1 u8.2.2.2.2.2.2.2.1 0 ++ fT cI u8.2.2.2.2.2.2.1 T0 ++ pX cI u8.2.2.2.2.2.2.2.1 (fun _ => 0) (fun _ => 0) (nI 0) (nI 0) 0 0 0 0 0)) : va_W).Perm ((xX rx u8.1 u8.2.1 u8.2.2.1 u8.2.2.2.2.2.2.2.2.1 u8.2.2.2.2.2.2.2.2.2.2.1 u8.2.2.2.2.2.2.2.2.2.2.2.1 u8.2.2.2.1 u8.2.2.2.2.2.2.2.2.2.2.2.2.1 u8.2.2.2.2.2.2.2.2.2.2.2.2.2.1 u8.2.2.2.2.2.2.2.2.2.2.2.2.2.2.1 u8.2.2.2.2.2.2.2.2.2.2.2.2.2.2.2.1 ++ hX cF u8.2.2.2.2.2.2.2.2.1 u8.2.2.2.2.2.2.2.2.2.1 u8.2.2.2.2.2.2.2.2.2.2.2.2.2.2.2.2.1 0 0 ++ fX cI u8.2.1 (T0 0 0) (T0 0 1) (T0 0 2) (T0 0 3) (T0 0 4) (T0 0 5) (T0 1) (T0 2) (T0 3) (T0 4) (T0 5) (T0 6) (T0 7) (T0 8) ++ fX cI u8.2.2.1 (T0 0 0) (T0 0 1) (T0 0 2) (T0 0 3) (T0 0 4) (T0 0 5) (T0 1) (T0 2) (T0 3) (T0 4) (T0 5) (T0 6) (T0 7) (T0 8) ++ pX cI u8.2.2.2.1 ((fun _ => 0)) ((fun _ => 0)) (nI 0) (nI 0) 0 0 0 0 0 ++ bX u8.2.2.2.2.2.2.2.2.2.2.2.2.1 (nI 0) (nI 0) ++ sX u8.2.2.2.2.2.2.2.2.2.2.2.2.2.1 0 0 0 0 0 ++ fsB cI u8.2.2.2.2.2.2.2.2.2.2.2.2.2.2.2.2.1 ((fun _ => T0)) 14 ++ sgX cF u8.2.2.2.2.2.2.2.2.2.2.1 u8.2.2.2.2.2.2.2.2.2.2.2.2.2.2.2.2.2 2 ++ zaX cZ u8.2.2.2.2.2.2.2.2.2.2.2.1 2 ((fun _ => 0)) ++ fsB cI u8.2.2.2.2.2.2.2.2.2.2.2.2.2.2.2.2.2 ((fun _ => T0)) 2) ++ (tX cI u8.1 (fun _ => 0) 0 0 ++ (r5X u8.2.2.2.2.2.2.2.2.2.2.2.2.2.2.1 u8.2.2.2.2.1 u8.2.2.2.2.2.1 ++ fT cI u8.2.2.2.2.1 T0 ++ pX cI u8.2.2.2.2.2.1 (fun _ => 0) (fun _ => 0) (nI 0) (nI 0) 0 0 0 0 0) ++ (r6X u8.2.2.2.2.2.2.2.2.2.2.2.2.2.2.2.1 u8.2.2.2.2.2.2.1 u8.2.2.2.2.2.2.2.1 0 ++ fT cI u8.2.2.2.2.2.2.1 T0 ++ pX cI u8.2.2.2.2.2.2.2.1 (fun _ => 0) (fun _ => 0) (nI 0) (nI 0) 0 0 0 0 0))) := (pm_cnt (fun _ => by simp only [List.countP_append, List.countP_nil, fT] <;> omega))
  have hP2 := pm_Pof hpm hP
  have hD2 := (pm_app (pm_Dof hpm hD)).1
  refine law_body l D cI cZ cF cL (A := AS s) (sx := xs) rx u8.1 u8.2.1 u8.2.2.1 u8.2.2.2.2.2.2.2.2.1 u8.2.2.2.2.2.2.2.2.2.2.1 u8.2.2.2.2.2.2.2.2.2.2.2.1 u8.2.2.2.1 u8.2.2.2.2.2.2.2.2.2.2.2.2.1 u8.2.2.2.2.2.2.2.2.2.2.2.2.2.1 u8.2.2.2.2.2.2.2.2.2.2.2.2.2.2.1 u8.2.2.2.2.2.2.2.2.2.2.2.2.2.2.2.1 u8.2.2.2.2.2.2.2.2.2.1 u8.2.2.2.2.2.2.2.2.2.2.2.2.2.2.2.2.1 u8.2.2.2.2.2.2.2.2.2.2.2.2.2.2.2.2.2 hx hb hml hown ht2 hK (AS_of s) hXs hbl (Nat.not_le.mpr hbl) hL (fun Hp locs ls hS => ?_) (pm_P.mpr (fun q hq => pm_P.mp hP2 q (List.mem_append_left _ hq))) hD2 hS hl
  refine va_forget (fun q hq => hS.2.2 q hq) ?_
  refine W.widen (k := 600130) (n := 7301080) (Nat.le_of_ble_eq_true rfl) (Nat.le_of_ble_eq_true rfl) ?_
  exact lw_ret hx hb hr hlocks dL_law_371
set_option maxHeartbeats 4000000 in
theorem lw_walk (l : Launch) (hflags : l.flags = flags0) (b : Addr) (xs : List Int32) : MetFree l x (headSpec (Jvm.Cond.code x code maxLocals ret :: tables_1) room_1) (lw_P b xs) (fun _ _ _ _ _ => True) lw_Q := by
  refine MetFree.of_bodyS (code := code) (maxLocals := maxLocals) (ret := ret) (by decide) ?_ ?_
  · intro args s m h hn
    obtain ⟨meth, c, h1, h2, h3, h4, h5, h6, -, -⟩ := Cond.code_spec hn (atoms_spec (ws := Jvm.Cond.code x code maxLocals ret :: tables_1) h _ List.mem_cons_self)
    exact ⟨meth, c, h1, h2, h3, h4, h5, h6⟩
  · intro p e s m args below meth c s₁ B hml0 hP _
    obtain ⟨rfl, hx, hbd, hgv⟩ := hP
    obtain ⟨scr, harrAt, hlist, hof, hsmall⟩ := hx
    obtain ⟨hcb, hkn, -, -⟩ := State.arrayAt?_spec harrAt
    have hown : s.vm.findClass R_law = some m.cls := findClass_of_methodNamed B.named
    have hts0 : ∀ c ∈ (Jvm.Cond.code x code maxLocals ret :: tables_1), c.before #[Value.ref b] s = true := atoms_spec (ws := Jvm.Cond.code x code maxLocals ret :: tables_1) B.pre
    have hts : ∀ w ∈ lw_tbl, w.before #[Value.ref b] s = true := k2_hts_sels lw_privs (fun w hw => hts0 w (List.mem_cons_of_mem _ hw)) lw_privs_ok
    have hml : c.maxLocals = 7 := B.maxLocals_eq (hts0 _ List.mem_cons_self)
    have X₀ : Stand p l e room_1 s m #[Value.ref b] below meth c s₁ [] 0 0 := Stand.of_body B
    have hh0 : s₁.heap = s.heap := by rw [B.state]; rfl
    have hsz : scr.slots.size = xs.length := by rw [← Array.length_toList, hlist, List.length_map]
    have hval : ∀ j : Nat, j < xs.length → scr.slots[j]? = some (.int (xs.getD j 0)) := fun j hj => by
      rw [← Array.getElem?_toList, hlist]
      simp [hj]
    have hbl : b < s.heap.size := (Array.getElem?_eq_some_iff.mp hcb).1
    have hX : va_X b xs.length (fun j => xs.getD j 0) s s.heap := ⟨scr, hcb, hof, hkn, hsz, hval⟩
    have K : W p l e room_1 s m #[Value.ref b] below meth c s₁.heap [] 0 0 (lw_Z below #[Value.ref b] s) (entryFrame m ([Value.ref b] : List Value).toArray 7) := by
      rw [hh0]
      exact whole_start l hflags hbd ⟨B.exec, B.bytes, B.returns, hml, hown, hts, hX, hbl, B.notSynchronized, hgv⟩
    obtain ⟨t, a1, o, b1, b2, b3⟩ := K s₁ rfl X₀
    exact ⟨t, o, a1, b1, b2, b3⟩
theorem lw_pre_spec {args : Array Value} {s : State} (h : (Jvm.Cond.and given_1 narrow_1).before args s = true) (hr : rest_1_c.before args s = true) : ∃ (b : Addr) (xs : List Int32), lw_P b xs args s := by
  have hs := flat_of_before _ h
  have hq := flat_of_before _ hr
  have hc : (Cond.count 1).before args s = true := hs _ (by decide +kernel)
  have harr : (Cond.arrayOf (.arg 0) .int).before args s = true := hs _ (by decide +kernel)
  have hle : (Cond.le (.length (.arg 0)) (.int 260)).before args s = true := hs _ (by decide +kernel)
  have hlen : (Cond.isInt (.length (.arg 0))).before args s = true := hq _ (by decide +kernel)
  have hall : (Cond.all (.arg 0) (.isInt (.elem (.arg 0) (.index 0)))).before args s = true := hq _ (by decide +kernel)
  obtain ⟨b, xs, hb, hx⟩ := State.ints_of_pre rfl harr hlen hall
  have hsm : xs.length < 2 ^ 31 := hx.choose_spec.2.2.2
  have hev : (Term.length (.arg 0)).eval args s none [] s = some (.int xs.length.toInt32) := hx.length_eval hb
  have hv := Cond.le_ints hev (show (Term.int 260).eval args s none [] s = some (.int 260) from rfl)
  have hd : xs.length.toInt32 ≤ 260 := by
    simpa [Cond.before, Cond.holds, hv] using hle
  have hN : xs.length ≤ 260 := (Int32.ofNat_le_ofNat hsm (by decide)).mp (show Int32.ofNat xs.length ≤ Int32.ofNat 260 from hd)
  exact ⟨b, xs, Cond.one_arg hc (show args[0]? = some (.ref b) from hb), hx, hN, h⟩
theorem lw_comes (l : Launch) (hflags : l.flags = flags0) : Comes l x (Jvm.Cond.code x code maxLocals ret :: tables_1) room_1 (fun tb e args s => Calls_1 tb e args s ∧ rest_1 tb e args s ∧ Pre_1 tb e args s)
    (fun _ _ args s o t => lw_Q args s o t) := by
  intro p e ha hc hk s m args below hf hfit hheap happ hpre
  obtain ⟨b, xs, hP⟩ := lw_pre_spec hpre.2.2 hpre.2.1
  obtain ⟨k, o, h1, h2, h3, hQ⟩ := lw_walk l hflags b xs p e ha hc hk s m args below hf ((Spec.applies_iff_loose hf).mp happ).1 hP trivial
  exact ⟨k, o, h1, h2, h3, hQ⟩
theorem lw_frame {s t : State} {o : Outcome} {args : Array Value} (h : Framed s o t [] 600130 7301080) :
    Framed s o t (fieldLocs frame_1_writes args s ++ arrayLocs frame_1_arrays args s ++ staticLocs frame_1_statics s) 600130 7301080 := h
theorem lw_limb (L : Cond) (hL : ∀ (args : Array Value) (s t : State), L.after args s (.returned (some (.int 1))) t = true) :
    ArmFor flags0 classFile x code maxLocals ret World_1 tables_1 room_1 Calls_1 rest_1 Pre_1
      (fun tb e a s o t => postC L tb e a s o t ∧ Framed s o t (fieldLocs frame_1_writes a s ++ arrayLocs frame_1_arrays a s ++ staticLocs frame_1_statics s) 600130 7301080) := by
  intro l hflags _ _ p e ha hc hk s m args below hf hfit hheap happ hpre
  obtain ⟨k, o, h1, h2, h3, rfl, hF⟩ := lw_comes l hflags p e ha hc hk s m args below hf hfit hheap happ hpre
  exact ⟨k, _, h1, h2, h3, hL args s _, lw_frame hF⟩
theorem i_vc : Claimed_1_1 ∧ Claimed_1_2 := ⟨lw_limb limb_1_1 (fun args s t => by simp [limb_1_1, Cond.after, Cond.holds, Cond.value]), lw_limb limb_1_2 (fun args s t => Cond.after_iff.mpr (by
  first | (rw [show limb_1_2 = Cond.eq .result (.int 1) from rfl, Cond.eq_ints (x := 1) (y := 1) rfl rfl]; simp; done) | (simp [limb_1_2, Cond.value, Term.eval]; done)))⟩
