/-! The law's own helpers that only read: toPack, sound, ordered. -/
theorem ho6 (T : Nat → Nat → Nat) (h : Nat) : hoV T h 6 = if getsB (T 2) (T 4) h then 1 else 0 := rfl
theorem bx_s (T : Nat → Nat → Nat) (h : Nat) : boxN (T 2) (T 4) h + hoV T h 6 = boxN (T 2) (T 4) (h + 1) := by
  rw [ho6]
  show _ = boxN (T 2) (T 4) h + (if decide (getsB (T 2) (T 4) h) = true then 1 else 0)
  by_cases q : getsB (T 2) (T 4) h
  · rw [if_pos q, if_pos (decide_eq_true q)]
  · rw [if_neg q, if_neg (fun r => q (of_decide_eq_true r))]
set_option maxRecDepth 20000 in
theorem w_323 : Cond.code yX8_about cX8_about 2 (some .int) ∈ wsL_law := List.mem_of_getElem? (i := 323) (by decide +kernel)
set_option maxRecDepth 20000 in
theorem w_320 : Cond.methodLink RL 9 yX8_about ∈ wsL_law := List.mem_of_getElem? (i := 320) (by decide +kernel)
set_option maxRecDepth 20000 in
theorem w_321 : Cond.instanceMethod yX8_about ∈ wsL_law := List.mem_of_getElem? (i := 321) (by decide +kernel)
set_option maxRecDepth 20000 in
theorem w_322 : Cond.selects RX8 yX8_about yX8_about ∈ wsL_law := List.mem_of_getElem? (i := 322) (by decide +kernel)
set_option maxRecDepth 20000 in
theorem w_2 : Cond.initialized RX8 ∈ wsL_law := List.mem_of_getElem? (i := 2) (by decide +kernel)
set_option maxRecDepth 20000 in
theorem w_344 : Cond.code yX8_vegetable cX8_vegetable 3 (some .int) ∈ wsL_law := List.mem_of_getElem? (i := 344) (by decide +kernel)
set_option maxRecDepth 20000 in
theorem w_341 : Cond.methodLink RL 25 yX8_vegetable ∈ wsL_law := List.mem_of_getElem? (i := 341) (by decide +kernel)
set_option maxRecDepth 20000 in
theorem w_342 : Cond.instanceMethod yX8_vegetable ∈ wsL_law := List.mem_of_getElem? (i := 342) (by decide +kernel)
set_option maxRecDepth 20000 in
theorem w_343 : Cond.selects RX8 yX8_vegetable yX8_vegetable ∈ wsL_law := List.mem_of_getElem? (i := 343) (by decide +kernel)
theorem hdV_X8_about : yX8_about.cls = RX8 ∧ yX8_about.cls ≠ "java/lang/invoke/MethodHandle" ∧ yX8_about.cls ≠ "java/lang/invoke/VarHandle" ∧ (parseMethodDescriptor yX8_about.desc).map (fun d => d.parameters.length) = some 1 := by decide +kernel
theorem hdV_X8_vegetable : yX8_vegetable.cls = RX8 ∧ yX8_vegetable.cls ≠ "java/lang/invoke/MethodHandle" ∧ yX8_vegetable.cls ≠ "java/lang/invoke/VarHandle" ∧ (parseMethodDescriptor yX8_vegetable.desc).map (fun d => d.parameters.length) = some 2 := by decide +kernel
set_option maxHeartbeats 4000000 in
set_option maxRecDepth 100000 in
theorem c_L_toPack (l : Launch) (D : va_G) (cI cZ cF cL : ClassId) (rx : Nat) (tt a tr : Nat → Nat) (r3 rs rz : Nat) (b : Nat → Nat) (b0 s0 r5 r6 : Nat) (T : Nat → Nat → Nat) (kn kw : Int32) (hT : FI T) : CT l D (tysX cI cZ cF cL) yL_toPack (wA yL_toPack cL_toPack 3 (some .int)) (rmF 4 87) [.ref rx] (xX rx tt a tr r3 rs rz b b0 s0 r5 r6 ++ fX cI a (T 0 0) (T 0 1) (T 0 2) (T 0 3) (T 0 4) (T 0 5) (T 1) (T 2) (T 3) (T 4) (T 5) (T 6) (T 7) (T 8) ++ bX b0 kn kw) (some (.int (nI (sumN (T 5) (T 0 1))))) (fun _ : Unit => (xX rx tt a tr r3 rs rz b b0 s0 r5 r6 ++ fX cI a (T 0 0) (T 0 1) (T 0 2) (T 0 3) (T 0 4) (T 0 5) (T 1) (T 2) (T 3) (T 4) (T 5) (T 6) (T 7) (T 8) ++ bX b0 kn kw)) := by
  refine ct_in (cc := cL_toPack) (maxL := 3) (ret := (some .int)) (own := RL) (lv := [(0, .ref rx)]) (by decide +kernel) rfl rfl (Nat.le_of_ble_eq_true rfl) rfl ?_
  intro p e s m args below meth c A ls hx hb hr hml hts hown hlocks hK hA hP hD hS hl
  refine lv_iconst (v := (nI 0)) hx hb dL_toPack_0 (by decide) ?_
  refine lv_istore_n (lv' := [(1, .int (nI 0)), (0, .ref rx)]) hx hb dL_toPack_1 rfl hl (by decide) rfl (fun ls hl => ?_)
  refine lv_iconst (v := (nI 0)) hx hb dL_toPack_2 (by decide) ?_
  refine lv_istore_n (lv' := [(2, .int (nI 0)), (1, .int (nI 0)), (0, .ref rx)]) hx hb dL_toPack_3 rfl hl (by decide) rfl (fun ls hl => ?_)
  have loop_4 : ∀ (dd : Nat) (i : Nat) (sm : Nat), (i ≤ T 0 1) → (sm = sumN (T 5) i) → (T 0 1 - i) < dd → ∀ (Hp : Heap) (locs : List Loc), va_P D vwCl (xX rx tt a tr r3 rs rz b b0 s0 r5 r6 ++ fX cI a (T 0 0) (T 0 1) (T 0 2) (T 0 3) (T 0 4) (T 0 5) (T 1) (T 2) (T 3) (T 4) (T 5) (T 6) (T 7) (T 8) ++ bX b0 kn kw) Hp → va_D A (xX rx tt a tr r3 rs rz b b0 s0 r5 r6 ++ fX cI a (T 0 0) (T 0 1) (T 0 2) (T 0 3) (T 0 4) (T 0 5) (T 1) (T 2) (T 3) (T 4) (T 5) (T 6) (T 7) (T 8) ++ bX b0 kn kw) → va_S A s.heap Hp locs → ∀ ls : Array Slot, lv_has ls 3 [(2, .int (nI i)), (1, .int (nI sm)), (0, .ref rx)] → W p l e (rmF 4 87) s m args below meth c Hp locs 0 0 (MQ below (CQ D (some (.int (nI (sumN (T 5) (T 0 1))))) (fun _ : Unit => (xX rx tt a tr r3 rs rz b b0 s0 r5 r6 ++ fX cI a (T 0 0) (T 0 1) (T 0 2) (T 0 3) (T 0 4) (T 0 5) (T 1) (T 2) (T 3) (T 4) (T 5) (T 6) (T 7) (T 8) ++ bX b0 kn kw)) A) args s 0 0 A) (F0 m 4 ls []) := by
    intro dd
    induction dd with
    | zero => intro i sm hi e1 hm; exact absurd hm (Nat.not_lt_zero _)
    | succ dd ih_4 =>
      intro i sm hi e1 hm Hp locs hP hD hS ls hl
      subst e1
      refine lv_iload_n hx hb dL_toPack_4 rfl (lv_at hl 0 rfl) ?_
      refine lv_aload_n hx hb dL_toPack_5 rfl (lv_at hl 2 rfl) ?_
      refine lv_iconst (v := (nI 1)) hx hb dL_toPack_6 (by decide) ?_
      refine gp_V (ci := 8) (q0 := 0) (cq := (RX8, TX8, 11)) (c_X8_about l D cI cZ cF cL rx tt a tr r3 rs rz b b0 s0 r5 r6 T 1 hT (by omega)) (gUV w_320 w_321 w_322 w_2 w_323) rfl hdV_X8_about ⟨Nat.le_of_ble_eq_true rfl, Nat.le_of_ble_eq_true rfl⟩ ⟨rfl, rfl⟩ hx hb hml hown hts hK hA hP hD hS hl.1 ⟨Nat.le_of_ble_eq_true rfl, Nat.le_of_ble_eq_true rfl⟩ rfl rfl rfl (wr := (bX b0 kn kw)) (pm_cnt (fun _ => by simp only [List.countP_append, List.countP_nil, fT] <;> omega)) (fun _ => by simp only [List.map_append, List.map_nil, fX_m, bX_m, sX_m, pX_m, iaX_m, r5X_m, r6X_m, fT_m, hX_m, tX_m, xX_m, sgX_m, zaX_m, fsB_a]) (rest := [.int (nI i)]) rfl rfl (Nat.le_of_ble_eq_true rfl) dL_toPack_7 (ws2 := (fun _ : Unit => (xX rx tt a tr r3 rs rz b b0 s0 r5 r6 ++ fX cI a (T 0 0) (T 0 1) (T 0 2) (T 0 3) (T 0 4) (T 0 5) (T 1) (T 2) (T 3) (T 4) (T 5) (T 6) (T 7) (T 8) ++ bX b0 kn kw))) (fun _ => (pm_cnt (fun _ => by simp only [List.countP_append, List.countP_nil, fT] <;> omega))) (fun _ Hp locs hP hD hS => ?_)
      rw [show (nI (abV T 1)) = (nI (T 0 1)) from rfl]
      refine lv_icmp_ge (tgt := 28) hx hb dL_toPack_10 (by decide) (fun c_10 => ?_) (fun c_10 => ?_)
      · skip
        replace c_10 := cn_le (by have := hT.1.2; omega) (by have := hT.1.2; omega) c_10
        refine lv_iload_n hx hb dL_toPack_28 rfl (lv_at hl 1 rfl) ?_
        exact ct_i () hx hb hr hlocks hP hS (congrArg nI (by rw [show i = T 0 1 by omega])) dL_toPack_29
      · skip
        replace c_10 := cn_nle (by have := hT.1.2; omega) (by have := hT.1.2; omega) c_10
        refine lv_iload_n hx hb dL_toPack_13 rfl (lv_at hl 1 rfl) ?_
        refine lv_aload_n hx hb dL_toPack_14 rfl (lv_at hl 2 rfl) ?_
        refine lv_iload_n hx hb dL_toPack_15 rfl (lv_at hl 0 rfl) ?_
        refine lv_iconst (v := (nI 0)) hx hb dL_toPack_16 (by decide) ?_
        refine gp_V (ci := 8) (q0 := 0) (cq := (RX8, TX8, 11)) (c_X8_vegetable l D cI cZ cF cL rx tt a tr r3 rs rz b b0 s0 r5 r6 T kn kw i 0 hT (by omega) (by omega)) (gUV w_341 w_342 w_343 w_2 w_344) rfl hdV_X8_vegetable ⟨Nat.le_of_ble_eq_true rfl, Nat.le_of_ble_eq_true rfl⟩ ⟨rfl, rfl⟩ hx hb hml hown hts hK hA hP hD hS hl.1 ⟨Nat.le_of_ble_eq_true rfl, Nat.le_of_ble_eq_true rfl⟩ rfl rfl rfl (wr := ([] : va_W)) (pm_cnt (fun _ => by simp only [List.countP_append, List.countP_nil, fT] <;> omega)) (fun _ => by simp only [List.map_append, List.map_nil, fX_m, bX_m, sX_m, pX_m, iaX_m, r5X_m, r6X_m, fT_m, hX_m, tX_m, xX_m, sgX_m, zaX_m, fsB_a]) (rest := [.int (nI (sumN (T 5) i))]) rfl rfl (Nat.le_of_ble_eq_true rfl) dL_toPack_17 (ws2 := (fun _ : Unit => (xX rx tt a tr r3 rs rz b b0 s0 r5 r6 ++ fX cI a (T 0 0) (T 0 1) (T 0 2) (T 0 3) (T 0 4) (T 0 5) (T 1) (T 2) (T 3) (T 4) (T 5) (T 6) (T 7) (T 8) ++ bX b0 (if 0 = 3 then (fonF T i kw (T 0 0)).1 else kn) (if 0 = 3 then (fonF T i kw (T 0 0)).2 else kw)))) (fun _ => (pm_cnt (fun _ => by simp only [List.countP_append, List.countP_nil, fT] <;> omega))) (fun _ Hp locs hP hD hS => ?_)
        rw [show (veV T i kw 0) = (nI (T 5 i)) from rfl]
        have hP : va_P D vwCl (xX rx tt a tr r3 rs rz b b0 s0 r5 r6 ++ fX cI a (T 0 0) (T 0 1) (T 0 2) (T 0 3) (T 0 4) (T 0 5) (T 1) (T 2) (T 3) (T 4) (T 5) (T 6) (T 7) (T 8) ++ bX b0 kn kw) _ := hP
        have hD : va_D A (xX rx tt a tr r3 rs rz b b0 s0 r5 r6 ++ fX cI a (T 0 0) (T 0 1) (T 0 2) (T 0 3) (T 0 4) (T 0 5) (T 1) (T 2) (T 3) (T 4) (T 5) (T 6) (T 7) (T 8) ++ bX b0 kn kw) := hD
        refine lv_iadd hx hb dL_toPack_20 ?_
        rw [nI_add (sumN (T 5) i) (T 5 i)]
        refine lv_istore_n (lv' := [(1, .int (nI ((sumN (T 5) i) + (T 5 i)))), (2, .int (nI i)), (0, .ref rx)]) hx hb dL_toPack_21 rfl hl (by decide) rfl (fun ls hl => ?_)
        refine lv_iinc (v := (nI (i + 1))) (lv' := [(2, .int (nI (i + 1))), (1, .int (nI ((sumN (T 5) i) + (T 5 i)))), (0, .ref rx)]) hx hb dL_toPack_22 hl (k := 1) rfl (nI_add i 1) (by decide) rfl (fun ls hl => ?_)
        refine lv_goto (tgt := 4) hx hb dL_toPack_25 (by decide) ?_
        exact ih_4 (i + 1) ((sumN (T 5) i) + (T 5 i)) (by omega) rfl (by omega) _ _ hP hD hS _ (lv_sub hl [0, 1, 2] rfl)
  exact loop_4 ((T 0 1 - 0) + 1) 0 0 (Nat.zero_le _) rfl (Nat.lt_succ_self _) _ _ hP hD hS _ (lv_sub hl [0, 1, 2] rfl)
set_option maxRecDepth 20000 in
theorem w_393 : Cond.code yX8_house cX8_house 3 (some .int) ∈ wsL_law := List.mem_of_getElem? (i := 393) (by decide +kernel)
set_option maxRecDepth 20000 in
theorem w_390 : Cond.methodLink RL 22 yX8_house ∈ wsL_law := List.mem_of_getElem? (i := 390) (by decide +kernel)
set_option maxRecDepth 20000 in
theorem w_391 : Cond.instanceMethod yX8_house ∈ wsL_law := List.mem_of_getElem? (i := 391) (by decide +kernel)
set_option maxRecDepth 20000 in
theorem w_392 : Cond.selects RX8 yX8_house yX8_house ∈ wsL_law := List.mem_of_getElem? (i := 392) (by decide +kernel)
set_option maxRecDepth 20000 in
theorem w_406 : Cond.code yX8_box cX8_box 3 (some .int) ∈ wsL_law := List.mem_of_getElem? (i := 406) (by decide +kernel)
set_option maxRecDepth 20000 in
theorem w_403 : Cond.methodLink RL 15 yX8_box ∈ wsL_law := List.mem_of_getElem? (i := 403) (by decide +kernel)
set_option maxRecDepth 20000 in
theorem w_404 : Cond.instanceMethod yX8_box ∈ wsL_law := List.mem_of_getElem? (i := 404) (by decide +kernel)
set_option maxRecDepth 20000 in
theorem w_405 : Cond.selects RX8 yX8_box yX8_box ∈ wsL_law := List.mem_of_getElem? (i := 405) (by decide +kernel)
set_option maxRecDepth 20000 in
theorem w_373 : Cond.code yX8_liking cX8_liking 3 (some .int) ∈ wsL_law := List.mem_of_getElem? (i := 373) (by decide +kernel)
set_option maxRecDepth 20000 in
theorem w_370 : Cond.methodLink RL 19 yX8_liking ∈ wsL_law := List.mem_of_getElem? (i := 370) (by decide +kernel)
set_option maxRecDepth 20000 in
theorem w_371 : Cond.instanceMethod yX8_liking ∈ wsL_law := List.mem_of_getElem? (i := 371) (by decide +kernel)
set_option maxRecDepth 20000 in
theorem w_372 : Cond.selects RX8 yX8_liking yX8_liking ∈ wsL_law := List.mem_of_getElem? (i := 372) (by decide +kernel)
theorem hdV_X8_house : yX8_house.cls = RX8 ∧ yX8_house.cls ≠ "java/lang/invoke/MethodHandle" ∧ yX8_house.cls ≠ "java/lang/invoke/VarHandle" ∧ (parseMethodDescriptor yX8_house.desc).map (fun d => d.parameters.length) = some 2 := by decide +kernel
theorem hdV_X8_box : yX8_box.cls = RX8 ∧ yX8_box.cls ≠ "java/lang/invoke/MethodHandle" ∧ yX8_box.cls ≠ "java/lang/invoke/VarHandle" ∧ (parseMethodDescriptor yX8_box.desc).map (fun d => d.parameters.length) = some 2 := by decide +kernel
theorem hdV_X8_liking : yX8_liking.cls = RX8 ∧ yX8_liking.cls ≠ "java/lang/invoke/MethodHandle" ∧ yX8_liking.cls ≠ "java/lang/invoke/VarHandle" ∧ (parseMethodDescriptor yX8_liking.desc).map (fun d => d.parameters.length) = some 2 := by decide +kernel
set_option maxHeartbeats 4000000 in
set_option maxRecDepth 100000 in
theorem c_L_sound (l : Launch) (D : va_G) (cI cZ cF cL : ClassId) (rx : Nat) (tt a tr : Nat → Nat) (r3 rs rz : Nat) (b : Nat → Nat) (b0 s0 r5 r6 : Nat) (T : Nat → Nat → Nat) (kn kw : Int32) (x : Nat) (hT : FI T) (hSI : SI T x) : CT l D (tysX cI cZ cF cL) yL_sound (wA yL_sound cL_sound 10 (some .boolean)) (rmF 4 87) [.ref rx, .int (nI x)] (xX rx tt a tr r3 rs rz b b0 s0 r5 r6 ++ fX cI a (T 0 0) (T 0 1) (T 0 2) (T 0 3) (T 0 4) (T 0 5) (T 1) (T 2) (T 3) (T 4) (T 5) (T 6) (T 7) (T 8) ++ bX b0 kn kw) (some (.int (if True then 1 else 0))) (fun _ : Unit => (xX rx tt a tr r3 rs rz b b0 s0 r5 r6 ++ fX cI a (T 0 0) (T 0 1) (T 0 2) (T 0 3) (T 0 4) (T 0 5) (T 1) (T 2) (T 3) (T 4) (T 5) (T 6) (T 7) (T 8) ++ bX b0 kn kw)) := by
  refine ct_in (cc := cL_sound) (maxL := 10) (ret := (some .boolean)) (own := RL) (lv := [(0, .ref rx), (1, .int (nI x))]) (by decide +kernel) rfl rfl (Nat.le_of_ble_eq_true rfl) rfl ?_
  intro p e s m args below meth c A ls hx hb hr hml hts hown hlocks hK hA hP hD hS hl
  refine lv_iconst (v := (nI 0)) hx hb dL_sound_0 (by decide) ?_
  refine lv_istore_n (lv' := [(2, .int (nI 0)), (0, .ref rx), (1, .int (nI x))]) hx hb dL_sound_1 rfl hl (by decide) rfl (fun ls hl => ?_)
  refine lv_iconst (v := (nI 0)) hx hb dL_sound_2 (by decide) ?_
  refine lv_istore_n (lv' := [(3, .int (nI 0)), (2, .int (nI 0)), (0, .ref rx), (1, .int (nI x))]) hx hb dL_sound_3 rfl hl (by decide) rfl (fun ls hl => ?_)
  refine lv_iconst (v := (nI 0)) hx hb dL_sound_4 (by decide) ?_
  refine lv_istore (lv' := [(4, .int (nI 0)), (3, .int (nI 0)), (2, .int (nI 0)), (0, .ref rx), (1, .int (nI x))]) hx hb dL_sound_5 hl (by decide) rfl (fun ls hl => ?_)
  refine lv_iconst (v := (nI 1)) hx hb dL_sound_7 (by decide) ?_
  refine lv_istore (lv' := [(5, .int (nI 1)), (4, .int (nI 0)), (3, .int (nI 0)), (2, .int (nI 0)), (0, .ref rx), (1, .int (nI x))]) hx hb dL_sound_8 hl (by decide) rfl (fun ls hl => ?_)
  refine lv_iconst (v := (nI 0)) hx hb dL_sound_10 (by decide) ?_
  refine lv_istore (lv' := [(6, .int (nI 0)), (5, .int (nI 1)), (4, .int (nI 0)), (3, .int (nI 0)), (2, .int (nI 0)), (0, .ref rx), (1, .int (nI x))]) hx hb dL_sound_11 hl (by decide) rfl (fun ls hl => ?_)
  have loop_13 : ∀ (dd : Nat) (bs : Nat) (ow : Nat) (wd : Nat) (h : Nat), (h ≤ T 0 0) → (bs = kilA (T 8) (T 0 1) h) → (ow = sumN (T 2) h) → (wd = boxN (T 2) (T 4) h) → (T 0 0 - h) < dd → ∀ (Hp : Heap) (locs : List Loc), va_P D vwCl (xX rx tt a tr r3 rs rz b b0 s0 r5 r6 ++ fX cI a (T 0 0) (T 0 1) (T 0 2) (T 0 3) (T 0 4) (T 0 5) (T 1) (T 2) (T 3) (T 4) (T 5) (T 6) (T 7) (T 8) ++ bX b0 kn kw) Hp → va_D A (xX rx tt a tr r3 rs rz b b0 s0 r5 r6 ++ fX cI a (T 0 0) (T 0 1) (T 0 2) (T 0 3) (T 0 4) (T 0 5) (T 1) (T 2) (T 3) (T 4) (T 5) (T 6) (T 7) (T 8) ++ bX b0 kn kw) → va_S A s.heap Hp locs → ∀ ls : Array Slot, lv_has ls 10 [(6, .int (nI h)), (5, .int (nI 1)), (4, .int (nI wd)), (3, .int (nI ow)), (2, .int (nI bs)), (0, .ref rx), (1, .int (nI x))] → W p l e (rmF 4 87) s m args below meth c Hp locs 0 0 (MQ below (CQ D (some (.int (if True then 1 else 0))) (fun _ : Unit => (xX rx tt a tr r3 rs rz b b0 s0 r5 r6 ++ fX cI a (T 0 0) (T 0 1) (T 0 2) (T 0 3) (T 0 4) (T 0 5) (T 1) (T 2) (T 3) (T 4) (T 5) (T 6) (T 7) (T 8) ++ bX b0 kn kw)) A) args s 0 0 A) (F0 m 13 ls []) := by
    intro dd
    induction dd with
    | zero => intro bs ow wd h hh e1 e2 e3 hm; exact absurd hm (Nat.not_lt_zero _)
    | succ dd ih_13 =>
      intro bs ow wd h hh e1 e2 e3 hm Hp locs hP hD hS ls hl
      subst e1
      subst e2
      subst e3
      refine lv_iload hx hb dL_sound_13 (lv_at hl 0 rfl) ?_
      refine lv_aload_n hx hb dL_sound_15 rfl (lv_at hl 5 rfl) ?_
      refine lv_iconst (v := (nI 0)) hx hb dL_sound_16 (by decide) ?_
      refine gp_V (ci := 8) (q0 := 0) (cq := (RX8, TX8, 11)) (c_X8_about l D cI cZ cF cL rx tt a tr r3 rs rz b b0 s0 r5 r6 T 0 hT (by omega)) (gUV w_320 w_321 w_322 w_2 w_323) rfl hdV_X8_about ⟨Nat.le_of_ble_eq_true rfl, Nat.le_of_ble_eq_true rfl⟩ ⟨rfl, rfl⟩ hx hb hml hown hts hK hA hP hD hS hl.1 ⟨Nat.le_of_ble_eq_true rfl, Nat.le_of_ble_eq_true rfl⟩ rfl rfl rfl (wr := (bX b0 kn kw)) (pm_cnt (fun _ => by simp only [List.countP_append, List.countP_nil, fT] <;> omega)) (fun _ => by simp only [List.map_append, List.map_nil, fX_m, bX_m, sX_m, pX_m, iaX_m, r5X_m, r6X_m, fT_m, hX_m, tX_m, xX_m, sgX_m, zaX_m, fsB_a]) (rest := [.int (nI h)]) rfl rfl (Nat.le_of_ble_eq_true rfl) dL_sound_17 (ws2 := (fun _ : Unit => (xX rx tt a tr r3 rs rz b b0 s0 r5 r6 ++ fX cI a (T 0 0) (T 0 1) (T 0 2) (T 0 3) (T 0 4) (T 0 5) (T 1) (T 2) (T 3) (T 4) (T 5) (T 6) (T 7) (T 8) ++ bX b0 kn kw))) (fun _ => (pm_cnt (fun _ => by simp only [List.countP_append, List.countP_nil, fT] <;> omega))) (fun _ Hp locs hP hD hS => ?_)
      rw [show (nI (abV T 0)) = (nI (T 0 0)) from rfl]
      refine lv_icmp_ge (tgt := 224) hx hb dL_sound_20 (by decide) (fun c_20 => ?_) (fun c_20 => ?_)
      · skip
        replace c_20 := cn_le (by have := hT.1.1; omega) (by have := hT.1.1; omega) c_20
        rw [show (nI (boxN (T 2) (T 4) h)) = (nI (boxN (T 2) (T 4) (T 0 0))) from congrArg nI (by rw [show h = T 0 0 by omega])] at hl
        rw [show (nI (sumN (T 2) h)) = (nI (sumN (T 2) (T 0 0))) from congrArg nI (by rw [show h = T 0 0 by omega])] at hl
        rw [show (nI (kilA (T 8) (T 0 1) h)) = (nI (kilA (T 8) (T 0 1) (T 0 0))) from congrArg nI (by rw [show h = T 0 0 by omega])] at hl
        refine lv_iconst (v := (nI 0)) hx hb dL_sound_224 (by decide) ?_
        refine lv_istore (lv' := [(6, .int (nI 0)), (5, .int (nI 1)), (4, .int (nI (boxN (T 2) (T 4) (T 0 0)))), (3, .int (nI (sumN (T 2) (T 0 0)))), (2, .int (nI (kilA (T 8) (T 0 1) (T 0 0)))), (0, .ref rx), (1, .int (nI x))]) hx hb dL_sound_225 hl (by decide) rfl (fun ls hl => ?_)
        refine lv_iconst (v := (nI 0)) hx hb dL_sound_227 (by decide) ?_
        refine lv_istore (lv' := [(7, .int (nI 0)), (6, .int (nI 0)), (5, .int (nI 1)), (4, .int (nI (boxN (T 2) (T 4) (T 0 0)))), (3, .int (nI (sumN (T 2) (T 0 0)))), (2, .int (nI (kilA (T 8) (T 0 1) (T 0 0)))), (0, .ref rx), (1, .int (nI x))]) hx hb dL_sound_228 hl (by decide) rfl (fun ls hl => ?_)
        refine lv_iconst (v := (nI 0)) hx hb dL_sound_230 (by decide) ?_
        refine lv_istore (lv' := [(8, .int (nI 0)), (7, .int (nI 0)), (6, .int (nI 0)), (5, .int (nI 1)), (4, .int (nI (boxN (T 2) (T 4) (T 0 0)))), (3, .int (nI (sumN (T 2) (T 0 0)))), (2, .int (nI (kilA (T 8) (T 0 1) (T 0 0)))), (0, .ref rx), (1, .int (nI x))]) hx hb dL_sound_231 hl (by decide) rfl (fun ls hl => ?_)
        have loop_233 : ∀ (dd : Nat) (co : Nat) (ib : Nat) (v : Nat), (v ≤ T 0 1) → (co = sumN (T 6) v) → (ib = sumN (kilV (T 8) (T 0 0)) v) → (T 0 1 - v) < dd → ∀ (Hp : Heap) (locs : List Loc), va_P D vwCl (xX rx tt a tr r3 rs rz b b0 s0 r5 r6 ++ fX cI a (T 0 0) (T 0 1) (T 0 2) (T 0 3) (T 0 4) (T 0 5) (T 1) (T 2) (T 3) (T 4) (T 5) (T 6) (T 7) (T 8) ++ bX b0 kn kw) Hp → va_D A (xX rx tt a tr r3 rs rz b b0 s0 r5 r6 ++ fX cI a (T 0 0) (T 0 1) (T 0 2) (T 0 3) (T 0 4) (T 0 5) (T 1) (T 2) (T 3) (T 4) (T 5) (T 6) (T 7) (T 8) ++ bX b0 kn kw) → va_S A s.heap Hp locs → ∀ ls : Array Slot, lv_has ls 10 [(8, .int (nI v)), (7, .int (nI ib)), (6, .int (nI co)), (5, .int (nI 1)), (4, .int (nI (boxN (T 2) (T 4) (T 0 0)))), (3, .int (nI (sumN (T 2) (T 0 0)))), (2, .int (nI (kilA (T 8) (T 0 1) (T 0 0)))), (0, .ref rx), (1, .int (nI x))] → W p l e (rmF 4 87) s m args below meth c Hp locs 0 0 (MQ below (CQ D (some (.int (if True then 1 else 0))) (fun _ : Unit => (xX rx tt a tr r3 rs rz b b0 s0 r5 r6 ++ fX cI a (T 0 0) (T 0 1) (T 0 2) (T 0 3) (T 0 4) (T 0 5) (T 1) (T 2) (T 3) (T 4) (T 5) (T 6) (T 7) (T 8) ++ bX b0 kn kw)) A) args s 0 0 A) (F0 m 233 ls []) := by
          intro dd
          induction dd with
          | zero => intro co ib v hv f1 f2 hm; exact absurd hm (Nat.not_lt_zero _)
          | succ dd ih_233 =>
            intro co ib v hv f1 f2 hm Hp locs hP hD hS ls hl
            subst f1
            subst f2
            refine lv_iload hx hb dL_sound_233 (lv_at hl 0 rfl) ?_
            refine lv_aload_n hx hb dL_sound_235 rfl (lv_at hl 7 rfl) ?_
            refine lv_iconst (v := (nI 1)) hx hb dL_sound_236 (by decide) ?_
            refine gp_V (ci := 8) (q0 := 0) (cq := (RX8, TX8, 11)) (c_X8_about l D cI cZ cF cL rx tt a tr r3 rs rz b b0 s0 r5 r6 T 1 hT (by omega)) (gUV w_320 w_321 w_322 w_2 w_323) rfl hdV_X8_about ⟨Nat.le_of_ble_eq_true rfl, Nat.le_of_ble_eq_true rfl⟩ ⟨rfl, rfl⟩ hx hb hml hown hts hK hA hP hD hS hl.1 ⟨Nat.le_of_ble_eq_true rfl, Nat.le_of_ble_eq_true rfl⟩ rfl rfl rfl (wr := (bX b0 kn kw)) (pm_cnt (fun _ => by simp only [List.countP_append, List.countP_nil, fT] <;> omega)) (fun _ => by simp only [List.map_append, List.map_nil, fX_m, bX_m, sX_m, pX_m, iaX_m, r5X_m, r6X_m, fT_m, hX_m, tX_m, xX_m, sgX_m, zaX_m, fsB_a]) (rest := [.int (nI v)]) rfl rfl (Nat.le_of_ble_eq_true rfl) dL_sound_237 (ws2 := (fun _ : Unit => (xX rx tt a tr r3 rs rz b b0 s0 r5 r6 ++ fX cI a (T 0 0) (T 0 1) (T 0 2) (T 0 3) (T 0 4) (T 0 5) (T 1) (T 2) (T 3) (T 4) (T 5) (T 6) (T 7) (T 8) ++ bX b0 kn kw))) (fun _ => (pm_cnt (fun _ => by simp only [List.countP_append, List.countP_nil, fT] <;> omega))) (fun _ Hp locs hP hD hS => ?_)
            rw [show (nI (abV T 1)) = (nI (T 0 1)) from rfl]
            refine lv_icmp_ge (tgt := 273) hx hb dL_sound_240 (by decide) (fun c_240 => ?_) (fun c_240 => ?_)
            · skip
              replace c_240 := cn_le (by have := hT.1.2; omega) (by have := hT.1.2; omega) c_240
              rw [show (nI (sumN (kilV (T 8) (T 0 0)) v)) = (nI (sumN (kilV (T 8) (T 0 0)) (T 0 1))) from congrArg nI (by rw [show v = T 0 1 by omega])] at hl
              rw [show (nI (sumN (T 6) v)) = (nI (sumN (T 6) (T 0 1))) from congrArg nI (by rw [show v = T 0 1 by omega])] at hl
              refine lv_iload hx hb dL_sound_273 (lv_at hl 3 rfl) ?_
              refine lv_if_eq (tgt := 329) hx hb dL_sound_275 (by decide) (fun c_275 => absurd c_275 (by decide +kernel)) (fun _ => ?_)
              refine lv_aload_n hx hb dL_sound_278 rfl (lv_at hl 7 rfl) ?_
              refine lv_iconst (v := (nI 3)) hx hb dL_sound_279 (by decide) ?_
              refine gp_V (ci := 8) (q0 := 0) (cq := (RX8, TX8, 11)) (c_X8_about l D cI cZ cF cL rx tt a tr r3 rs rz b b0 s0 r5 r6 T 3 hT (by omega)) (gUV w_320 w_321 w_322 w_2 w_323) rfl hdV_X8_about ⟨Nat.le_of_ble_eq_true rfl, Nat.le_of_ble_eq_true rfl⟩ ⟨rfl, rfl⟩ hx hb hml hown hts hK hA hP hD hS hl.1 ⟨Nat.le_of_ble_eq_true rfl, Nat.le_of_ble_eq_true rfl⟩ rfl rfl rfl (wr := (bX b0 kn kw)) (pm_cnt (fun _ => by simp only [List.countP_append, List.countP_nil, fT] <;> omega)) (fun _ => by simp only [List.map_append, List.map_nil, fX_m, bX_m, sX_m, pX_m, iaX_m, r5X_m, r6X_m, fT_m, hX_m, tX_m, xX_m, sgX_m, zaX_m, fsB_a]) (rest := []) rfl rfl (Nat.le_of_ble_eq_true rfl) dL_sound_280 (ws2 := (fun _ : Unit => (xX rx tt a tr r3 rs rz b b0 s0 r5 r6 ++ fX cI a (T 0 0) (T 0 1) (T 0 2) (T 0 3) (T 0 4) (T 0 5) (T 1) (T 2) (T 3) (T 4) (T 5) (T 6) (T 7) (T 8) ++ bX b0 kn kw))) (fun _ => (pm_cnt (fun _ => by simp only [List.countP_append, List.countP_nil, fT] <;> omega))) (fun _ Hp locs hP hD hS => ?_)
              rw [show (nI (abV T 3)) = (nI (kilA (T 8) (T 0 1) (T 0 0))) from rfl]
              refine lv_iload_n hx hb dL_sound_283 rfl (lv_at hl 6 rfl) ?_
              refine lv_icmp_ne (tgt := 329) hx hb dL_sound_284 (by decide) (fun c_284 => ?_) (fun c_284 => ?_)
              · skip
                exact absurd rfl c_284
              · skip
                refine lv_iload hx hb dL_sound_287 (lv_at hl 1 rfl) ?_
                refine lv_iload_n hx hb dL_sound_289 rfl (lv_at hl 6 rfl) ?_
                refine lv_icmp_ne (tgt := 329) hx hb dL_sound_290 (by decide) (fun c_290 => ?_) (fun c_290 => ?_)
                · skip
                  exact absurd (congrArg nI (kilA_V (T 8) (T 0 1) (T 0 0)).symm) c_290
                · skip
                  refine lv_aload_n hx hb dL_sound_293 rfl (lv_at hl 7 rfl) ?_
                  refine lv_bipush (v := (nI 6)) hx hb dL_sound_294 (by decide) ?_
                  refine gp_V (ci := 8) (q0 := 0) (cq := (RX8, TX8, 11)) (c_X8_about l D cI cZ cF cL rx tt a tr r3 rs rz b b0 s0 r5 r6 T 6 hT (by omega)) (gUV w_320 w_321 w_322 w_2 w_323) rfl hdV_X8_about ⟨Nat.le_of_ble_eq_true rfl, Nat.le_of_ble_eq_true rfl⟩ ⟨rfl, rfl⟩ hx hb hml hown hts hK hA hP hD hS hl.1 ⟨Nat.le_of_ble_eq_true rfl, Nat.le_of_ble_eq_true rfl⟩ rfl rfl rfl (wr := (bX b0 kn kw)) (pm_cnt (fun _ => by simp only [List.countP_append, List.countP_nil, fT] <;> omega)) (fun _ => by simp only [List.map_append, List.map_nil, fX_m, bX_m, sX_m, pX_m, iaX_m, r5X_m, r6X_m, fT_m, hX_m, tX_m, xX_m, sgX_m, zaX_m, fsB_a]) (rest := []) rfl rfl (Nat.le_of_ble_eq_true rfl) dL_sound_296 (ws2 := (fun _ : Unit => (xX rx tt a tr r3 rs rz b b0 s0 r5 r6 ++ fX cI a (T 0 0) (T 0 1) (T 0 2) (T 0 3) (T 0 4) (T 0 5) (T 1) (T 2) (T 3) (T 4) (T 5) (T 6) (T 7) (T 8) ++ bX b0 kn kw))) (fun _ => (pm_cnt (fun _ => by simp only [List.countP_append, List.countP_nil, fT] <;> omega))) (fun _ Hp locs hP hD hS => ?_)
                  rw [show (nI (abV T 6)) = (nI (sumN (T 6) (T 0 1))) from rfl]
                  refine lv_iload hx hb dL_sound_299 (lv_at hl 2 rfl) ?_
                  refine lv_icmp_ne (tgt := 329) hx hb dL_sound_301 (by decide) (fun c_301 => ?_) (fun c_301 => ?_)
                  · skip
                    exact absurd rfl c_301
                  · skip
                    refine lv_aload_n hx hb dL_sound_304 rfl (lv_at hl 7 rfl) ?_
                    refine lv_bipush (v := (nI 7)) hx hb dL_sound_305 (by decide) ?_
                    refine gp_V (ci := 8) (q0 := 0) (cq := (RX8, TX8, 11)) (c_X8_about l D cI cZ cF cL rx tt a tr r3 rs rz b b0 s0 r5 r6 T 7 hT (by omega)) (gUV w_320 w_321 w_322 w_2 w_323) rfl hdV_X8_about ⟨Nat.le_of_ble_eq_true rfl, Nat.le_of_ble_eq_true rfl⟩ ⟨rfl, rfl⟩ hx hb hml hown hts hK hA hP hD hS hl.1 ⟨Nat.le_of_ble_eq_true rfl, Nat.le_of_ble_eq_true rfl⟩ rfl rfl rfl (wr := (bX b0 kn kw)) (pm_cnt (fun _ => by simp only [List.countP_append, List.countP_nil, fT] <;> omega)) (fun _ => by simp only [List.map_append, List.map_nil, fX_m, bX_m, sX_m, pX_m, iaX_m, r5X_m, r6X_m, fT_m, hX_m, tX_m, xX_m, sgX_m, zaX_m, fsB_a]) (rest := []) rfl rfl (Nat.le_of_ble_eq_true rfl) dL_sound_307 (ws2 := (fun _ : Unit => (xX rx tt a tr r3 rs rz b b0 s0 r5 r6 ++ fX cI a (T 0 0) (T 0 1) (T 0 2) (T 0 3) (T 0 4) (T 0 5) (T 1) (T 2) (T 3) (T 4) (T 5) (T 6) (T 7) (T 8) ++ bX b0 kn kw))) (fun _ => (pm_cnt (fun _ => by simp only [List.countP_append, List.countP_nil, fT] <;> omega))) (fun _ Hp locs hP hD hS => ?_)
                    rw [show (nI (abV T 7)) = (nI (sumN (T 2) (T 0 0))) from rfl]
                    refine lv_iload_n hx hb dL_sound_310 rfl (lv_at hl 5 rfl) ?_
                    refine lv_icmp_ne (tgt := 329) hx hb dL_sound_311 (by decide) (fun c_311 => ?_) (fun c_311 => ?_)
                    · skip
                      exact absurd rfl c_311
                    · skip
                      refine lv_aload_n hx hb dL_sound_314 rfl (lv_at hl 7 rfl) ?_
                      refine lv_bipush (v := (nI 9)) hx hb dL_sound_315 (by decide) ?_
                      refine gp_V (ci := 8) (q0 := 0) (cq := (RX8, TX8, 11)) (c_X8_about l D cI cZ cF cL rx tt a tr r3 rs rz b b0 s0 r5 r6 T 9 hT (by omega)) (gUV w_320 w_321 w_322 w_2 w_323) rfl hdV_X8_about ⟨Nat.le_of_ble_eq_true rfl, Nat.le_of_ble_eq_true rfl⟩ ⟨rfl, rfl⟩ hx hb hml hown hts hK hA hP hD hS hl.1 ⟨Nat.le_of_ble_eq_true rfl, Nat.le_of_ble_eq_true rfl⟩ rfl rfl rfl (wr := (bX b0 kn kw)) (pm_cnt (fun _ => by simp only [List.countP_append, List.countP_nil, fT] <;> omega)) (fun _ => by simp only [List.map_append, List.map_nil, fX_m, bX_m, sX_m, pX_m, iaX_m, r5X_m, r6X_m, fT_m, hX_m, tX_m, xX_m, sgX_m, zaX_m, fsB_a]) (rest := []) rfl rfl (Nat.le_of_ble_eq_true rfl) dL_sound_317 (ws2 := (fun _ : Unit => (xX rx tt a tr r3 rs rz b b0 s0 r5 r6 ++ fX cI a (T 0 0) (T 0 1) (T 0 2) (T 0 3) (T 0 4) (T 0 5) (T 1) (T 2) (T 3) (T 4) (T 5) (T 6) (T 7) (T 8) ++ bX b0 kn kw))) (fun _ => (pm_cnt (fun _ => by simp only [List.countP_append, List.countP_nil, fT] <;> omega))) (fun _ Hp locs hP hD hS => ?_)
                      rw [show (nI (abV T 9)) = (nI (boxN (T 2) (T 4) (T 0 0))) from rfl]
                      refine lv_iload hx hb dL_sound_320 (lv_at hl 4 rfl) ?_
                      refine lv_icmp_ne (tgt := 329) hx hb dL_sound_322 (by decide) (fun c_322 => ?_) (fun c_322 => ?_)
                      · skip
                        exact absurd rfl c_322
                      · skip
                        refine lv_iconst (v := (nI 1)) hx hb dL_sound_325 (by decide) ?_
                        refine lv_goto (tgt := 330) hx hb dL_sound_326 (by decide) ?_
                        refine lv_istore (lv' := [(5, .int (nI 1)), (8, .int (nI v)), (7, .int (nI (sumN (kilV (T 8) (T 0 0)) (T 0 1)))), (6, .int (nI (sumN (T 6) (T 0 1)))), (4, .int (nI (boxN (T 2) (T 4) (T 0 0)))), (3, .int (nI (sumN (T 2) (T 0 0)))), (2, .int (nI (kilA (T 8) (T 0 1) (T 0 0)))), (0, .ref rx), (1, .int (nI x))]) hx hb dL_sound_330 hl (by decide) rfl (fun ls hl => ?_)
                        refine lv_iload hx hb dL_sound_332 (lv_at hl 0 rfl) ?_
                        refine lv_if_eq (tgt := 361) hx hb dL_sound_334 (by decide) (fun c_334 => absurd c_334 (by decide +kernel)) (fun _ => ?_)
                        refine lv_iload_n hx hb dL_sound_337 rfl (lv_at hl 6 rfl) ?_
                        refine lv_aload_n hx hb dL_sound_338 rfl (lv_at hl 7 rfl) ?_
                        refine lv_iconst (v := (nI 4)) hx hb dL_sound_339 (by decide) ?_
                        refine gp_V (ci := 8) (q0 := 0) (cq := (RX8, TX8, 11)) (c_X8_about l D cI cZ cF cL rx tt a tr r3 rs rz b b0 s0 r5 r6 T 4 hT (by omega)) (gUV w_320 w_321 w_322 w_2 w_323) rfl hdV_X8_about ⟨Nat.le_of_ble_eq_true rfl, Nat.le_of_ble_eq_true rfl⟩ ⟨rfl, rfl⟩ hx hb hml hown hts hK hA hP hD hS hl.1 ⟨Nat.le_of_ble_eq_true rfl, Nat.le_of_ble_eq_true rfl⟩ rfl rfl rfl (wr := (bX b0 kn kw)) (pm_cnt (fun _ => by simp only [List.countP_append, List.countP_nil, fT] <;> omega)) (fun _ => by simp only [List.map_append, List.map_nil, fX_m, bX_m, sX_m, pX_m, iaX_m, r5X_m, r6X_m, fT_m, hX_m, tX_m, xX_m, sgX_m, zaX_m, fsB_a]) (rest := [.int (nI (kilA (T 8) (T 0 1) (T 0 0)))]) rfl rfl (Nat.le_of_ble_eq_true rfl) dL_sound_340 (ws2 := (fun _ : Unit => (xX rx tt a tr r3 rs rz b b0 s0 r5 r6 ++ fX cI a (T 0 0) (T 0 1) (T 0 2) (T 0 3) (T 0 4) (T 0 5) (T 1) (T 2) (T 3) (T 4) (T 5) (T 6) (T 7) (T 8) ++ bX b0 kn kw))) (fun _ => (pm_cnt (fun _ => by simp only [List.countP_append, List.countP_nil, fT] <;> omega))) (fun _ Hp locs hP hD hS => ?_)
                        rw [show (nI (abV T 4)) = (nI (T 0 3)) from rfl]
                        refine lv_iadd hx hb dL_sound_343 ?_
                        rw [nI_add (kilA (T 8) (T 0 1) (T 0 0)) (T 0 3)]
                        refine lv_aload_n hx hb dL_sound_344 rfl (lv_at hl 7 rfl) ?_
                        refine lv_iconst (v := (nI 5)) hx hb dL_sound_345 (by decide) ?_
                        refine gp_V (ci := 8) (q0 := 0) (cq := (RX8, TX8, 11)) (c_X8_about l D cI cZ cF cL rx tt a tr r3 rs rz b b0 s0 r5 r6 T 5 hT (by omega)) (gUV w_320 w_321 w_322 w_2 w_323) rfl hdV_X8_about ⟨Nat.le_of_ble_eq_true rfl, Nat.le_of_ble_eq_true rfl⟩ ⟨rfl, rfl⟩ hx hb hml hown hts hK hA hP hD hS hl.1 ⟨Nat.le_of_ble_eq_true rfl, Nat.le_of_ble_eq_true rfl⟩ rfl rfl rfl (wr := (bX b0 kn kw)) (pm_cnt (fun _ => by simp only [List.countP_append, List.countP_nil, fT] <;> omega)) (fun _ => by simp only [List.map_append, List.map_nil, fX_m, bX_m, sX_m, pX_m, iaX_m, r5X_m, r6X_m, fT_m, hX_m, tX_m, xX_m, sgX_m, zaX_m, fsB_a]) (rest := [.int (nI ((kilA (T 8) (T 0 1) (T 0 0)) + (T 0 3)))]) rfl rfl (Nat.le_of_ble_eq_true rfl) dL_sound_346 (ws2 := (fun _ : Unit => (xX rx tt a tr r3 rs rz b b0 s0 r5 r6 ++ fX cI a (T 0 0) (T 0 1) (T 0 2) (T 0 3) (T 0 4) (T 0 5) (T 1) (T 2) (T 3) (T 4) (T 5) (T 6) (T 7) (T 8) ++ bX b0 kn kw))) (fun _ => (pm_cnt (fun _ => by simp only [List.countP_append, List.countP_nil, fT] <;> omega))) (fun _ Hp locs hP hD hS => ?_)
                        rw [show (nI (abV T 5)) = (nI (T 0 4)) from rfl]
                        refine lv_iadd hx hb dL_sound_349 ?_
                        rw [nI_add ((kilA (T 8) (T 0 1) (T 0 0)) + (T 0 3)) (T 0 4)]
                        refine lv_iload hx hb dL_sound_350 (lv_at hl 3 rfl) ?_
                        refine lv_iadd hx hb dL_sound_352 ?_
                        rw [nI_add (((kilA (T 8) (T 0 1) (T 0 0)) + (T 0 3)) + (T 0 4)) (sumN (T 6) (T 0 1))]
                        refine lv_iload_n hx hb dL_sound_353 rfl (lv_at hl 8 rfl) ?_
                        refine lv_icmp_ne (tgt := 361) hx hb dL_sound_354 (by decide) (fun c_354 => ?_) (fun c_354 => ?_)
                        · skip
                          exact absurd (congrArg nI (show kilA (T 8) (T 0 1) (T 0 0) + T 0 3 + T 0 4 + sumN (T 6) (T 0 1) = x from hSI)) c_354
                        · skip
                          refine lv_iconst (v := (nI 1)) hx hb dL_sound_357 (by decide) ?_
                          refine lv_goto (tgt := 362) hx hb dL_sound_358 (by decide) ?_
                          exact ct_z () hx hb hr hlocks hP hS (z_t trivial) dL_sound_362
            · skip
              replace c_240 := cn_nle (by have := hT.1.2; omega) (by have := hT.1.2; omega) c_240
              refine lv_iload hx hb dL_sound_243 (lv_at hl 1 rfl) ?_
              refine lv_aload_n hx hb dL_sound_245 rfl (lv_at hl 7 rfl) ?_
              refine lv_iload hx hb dL_sound_246 (lv_at hl 0 rfl) ?_
              refine lv_iconst (v := (nI 1)) hx hb dL_sound_248 (by decide) ?_
              refine gp_V (ci := 8) (q0 := 0) (cq := (RX8, TX8, 11)) (c_X8_vegetable l D cI cZ cF cL rx tt a tr r3 rs rz b b0 s0 r5 r6 T kn kw v 1 hT (by omega) (by omega)) (gUV w_341 w_342 w_343 w_2 w_344) rfl hdV_X8_vegetable ⟨Nat.le_of_ble_eq_true rfl, Nat.le_of_ble_eq_true rfl⟩ ⟨rfl, rfl⟩ hx hb hml hown hts hK hA hP hD hS hl.1 ⟨Nat.le_of_ble_eq_true rfl, Nat.le_of_ble_eq_true rfl⟩ rfl rfl rfl (wr := ([] : va_W)) (pm_cnt (fun _ => by simp only [List.countP_append, List.countP_nil, fT] <;> omega)) (fun _ => by simp only [List.map_append, List.map_nil, fX_m, bX_m, sX_m, pX_m, iaX_m, r5X_m, r6X_m, fT_m, hX_m, tX_m, xX_m, sgX_m, zaX_m, fsB_a]) (rest := [.int (nI (sumN (kilV (T 8) (T 0 0)) v))]) rfl rfl (Nat.le_of_ble_eq_true rfl) dL_sound_249 (ws2 := (fun _ : Unit => (xX rx tt a tr r3 rs rz b b0 s0 r5 r6 ++ fX cI a (T 0 0) (T 0 1) (T 0 2) (T 0 3) (T 0 4) (T 0 5) (T 1) (T 2) (T 3) (T 4) (T 5) (T 6) (T 7) (T 8) ++ bX b0 (if 1 = 3 then (fonF T v kw (T 0 0)).1 else kn) (if 1 = 3 then (fonF T v kw (T 0 0)).2 else kw)))) (fun _ => (pm_cnt (fun _ => by simp only [List.countP_append, List.countP_nil, fT] <;> omega))) (fun _ Hp locs hP hD hS => ?_)
              rw [show (veV T v kw 1) = (nI (kilV (T 8) (T 0 0) v)) from rfl]
              have hP : va_P D vwCl (xX rx tt a tr r3 rs rz b b0 s0 r5 r6 ++ fX cI a (T 0 0) (T 0 1) (T 0 2) (T 0 3) (T 0 4) (T 0 5) (T 1) (T 2) (T 3) (T 4) (T 5) (T 6) (T 7) (T 8) ++ bX b0 kn kw) _ := hP
              have hD : va_D A (xX rx tt a tr r3 rs rz b b0 s0 r5 r6 ++ fX cI a (T 0 0) (T 0 1) (T 0 2) (T 0 3) (T 0 4) (T 0 5) (T 1) (T 2) (T 3) (T 4) (T 5) (T 6) (T 7) (T 8) ++ bX b0 kn kw) := hD
              refine lv_iadd hx hb dL_sound_252 ?_
              rw [nI_add (sumN (kilV (T 8) (T 0 0)) v) (kilV (T 8) (T 0 0) v)]
              refine lv_istore (lv' := [(7, .int (nI ((sumN (kilV (T 8) (T 0 0)) v) + (kilV (T 8) (T 0 0) v)))), (8, .int (nI v)), (6, .int (nI (sumN (T 6) v))), (5, .int (nI 1)), (4, .int (nI (boxN (T 2) (T 4) (T 0 0)))), (3, .int (nI (sumN (T 2) (T 0 0)))), (2, .int (nI (kilA (T 8) (T 0 1) (T 0 0)))), (0, .ref rx), (1, .int (nI x))]) hx hb dL_sound_253 hl (by decide) rfl (fun ls hl => ?_)
              refine lv_iload hx hb dL_sound_255 (lv_at hl 2 rfl) ?_
              refine lv_aload_n hx hb dL_sound_257 rfl (lv_at hl 7 rfl) ?_
              refine lv_iload hx hb dL_sound_258 (lv_at hl 1 rfl) ?_
              refine lv_iconst (v := (nI 2)) hx hb dL_sound_260 (by decide) ?_
              refine gp_V (ci := 8) (q0 := 0) (cq := (RX8, TX8, 11)) (c_X8_vegetable l D cI cZ cF cL rx tt a tr r3 rs rz b b0 s0 r5 r6 T kn kw v 2 hT (by omega) (by omega)) (gUV w_341 w_342 w_343 w_2 w_344) rfl hdV_X8_vegetable ⟨Nat.le_of_ble_eq_true rfl, Nat.le_of_ble_eq_true rfl⟩ ⟨rfl, rfl⟩ hx hb hml hown hts hK hA hP hD hS hl.1 ⟨Nat.le_of_ble_eq_true rfl, Nat.le_of_ble_eq_true rfl⟩ rfl rfl rfl (wr := ([] : va_W)) (pm_cnt (fun _ => by simp only [List.countP_append, List.countP_nil, fT] <;> omega)) (fun _ => by simp only [List.map_append, List.map_nil, fX_m, bX_m, sX_m, pX_m, iaX_m, r5X_m, r6X_m, fT_m, hX_m, tX_m, xX_m, sgX_m, zaX_m, fsB_a]) (rest := [.int (nI (sumN (T 6) v))]) rfl rfl (Nat.le_of_ble_eq_true rfl) dL_sound_261 (ws2 := (fun _ : Unit => (xX rx tt a tr r3 rs rz b b0 s0 r5 r6 ++ fX cI a (T 0 0) (T 0 1) (T 0 2) (T 0 3) (T 0 4) (T 0 5) (T 1) (T 2) (T 3) (T 4) (T 5) (T 6) (T 7) (T 8) ++ bX b0 (if 2 = 3 then (fonF T v kw (T 0 0)).1 else kn) (if 2 = 3 then (fonF T v kw (T 0 0)).2 else kw)))) (fun _ => (pm_cnt (fun _ => by simp only [List.countP_append, List.countP_nil, fT] <;> omega))) (fun _ Hp locs hP hD hS => ?_)
              rw [show (veV T v kw 2) = (nI (T 6 v)) from rfl]
              have hP : va_P D vwCl (xX rx tt a tr r3 rs rz b b0 s0 r5 r6 ++ fX cI a (T 0 0) (T 0 1) (T 0 2) (T 0 3) (T 0 4) (T 0 5) (T 1) (T 2) (T 3) (T 4) (T 5) (T 6) (T 7) (T 8) ++ bX b0 kn kw) _ := hP
              have hD : va_D A (xX rx tt a tr r3 rs rz b b0 s0 r5 r6 ++ fX cI a (T 0 0) (T 0 1) (T 0 2) (T 0 3) (T 0 4) (T 0 5) (T 1) (T 2) (T 3) (T 4) (T 5) (T 6) (T 7) (T 8) ++ bX b0 kn kw) := hD
              refine lv_iadd hx hb dL_sound_264 ?_
              rw [nI_add (sumN (T 6) v) (T 6 v)]
              refine lv_istore (lv' := [(6, .int (nI ((sumN (T 6) v) + (T 6 v)))), (7, .int (nI ((sumN (kilV (T 8) (T 0 0)) v) + (kilV (T 8) (T 0 0) v)))), (8, .int (nI v)), (5, .int (nI 1)), (4, .int (nI (boxN (T 2) (T 4) (T 0 0)))), (3, .int (nI (sumN (T 2) (T 0 0)))), (2, .int (nI (kilA (T 8) (T 0 1) (T 0 0)))), (0, .ref rx), (1, .int (nI x))]) hx hb dL_sound_265 hl (by decide) rfl (fun ls hl => ?_)
              refine lv_iinc (v := (nI (v + 1))) (lv' := [(8, .int (nI (v + 1))), (6, .int (nI ((sumN (T 6) v) + (T 6 v)))), (7, .int (nI ((sumN (kilV (T 8) (T 0 0)) v) + (kilV (T 8) (T 0 0) v)))), (5, .int (nI 1)), (4, .int (nI (boxN (T 2) (T 4) (T 0 0)))), (3, .int (nI (sumN (T 2) (T 0 0)))), (2, .int (nI (kilA (T 8) (T 0 1) (T 0 0)))), (0, .ref rx), (1, .int (nI x))]) hx hb dL_sound_267 hl (k := 2) rfl (nI_add v 1) (by decide) rfl (fun ls hl => ?_)
              refine lv_goto (tgt := 233) hx hb dL_sound_270 (by decide) ?_
              exact ih_233 ((sumN (T 6) v) + (T 6 v)) ((sumN (kilV (T 8) (T 0 0)) v) + (kilV (T 8) (T 0 0) v)) (v + 1) (by omega) rfl rfl (by omega) _ _ hP hD hS _ (lv_sub hl [0, 2, 1, 3, 4, 5, 6, 7, 8] rfl)
        exact loop_233 ((T 0 1 - 0) + 1) 0 0 0 (Nat.zero_le _) rfl rfl (Nat.lt_succ_self _) _ _ hP hD hS _ (lv_sub hl [0, 1, 2, 3, 4, 5, 6, 7, 8] rfl)
      · skip
        replace c_20 := cn_nle (by have := hT.1.1; omega) (by have := hT.1.1; omega) c_20
        refine lv_iload hx hb dL_sound_23 (lv_at hl 1 rfl) ?_
        refine lv_if_eq (tgt := 224) hx hb dL_sound_25 (by decide) (fun c_25 => absurd c_25 (by decide +kernel)) (fun _ => ?_)
        refine lv_iconst (v := (nI 0)) hx hb dL_sound_28 (by decide) ?_
        refine lv_istore (lv' := [(7, .int (nI 0)), (6, .int (nI h)), (5, .int (nI 1)), (4, .int (nI (boxN (T 2) (T 4) h))), (3, .int (nI (sumN (T 2) h))), (2, .int (nI (kilA (T 8) (T 0 1) h))), (0, .ref rx), (1, .int (nI x))]) hx hb dL_sound_29 hl (by decide) rfl (fun ls hl => ?_)
        refine lv_iconst (v := (nI 0)) hx hb dL_sound_31 (by decide) ?_
        refine lv_istore (lv' := [(8, .int (nI 0)), (7, .int (nI 0)), (6, .int (nI h)), (5, .int (nI 1)), (4, .int (nI (boxN (T 2) (T 4) h))), (3, .int (nI (sumN (T 2) h))), (2, .int (nI (kilA (T 8) (T 0 1) h))), (0, .ref rx), (1, .int (nI x))]) hx hb dL_sound_32 hl (by decide) rfl (fun ls hl => ?_)
        refine lv_iconst (v := (nI 0)) hx hb dL_sound_34 (by decide) ?_
        refine lv_istore (lv' := [(9, .int (nI 0)), (8, .int (nI 0)), (7, .int (nI 0)), (6, .int (nI h)), (5, .int (nI 1)), (4, .int (nI (boxN (T 2) (T 4) h))), (3, .int (nI (sumN (T 2) h))), (2, .int (nI (kilA (T 8) (T 0 1) h))), (0, .ref rx), (1, .int (nI x))]) hx hb dL_sound_35 hl (by decide) rfl (fun ls hl => ?_)
        have loop_37 : ∀ (dd : Nat) (ki : Nat) (hp : Nat) (v : Nat), (v ≤ T 0 1) → (ki = kilH (T 8) v h) → (hp = hap (T 7) (T 8) v h) → (T 0 1 - v) < dd → ∀ (Hp : Heap) (locs : List Loc), va_P D vwCl (xX rx tt a tr r3 rs rz b b0 s0 r5 r6 ++ fX cI a (T 0 0) (T 0 1) (T 0 2) (T 0 3) (T 0 4) (T 0 5) (T 1) (T 2) (T 3) (T 4) (T 5) (T 6) (T 7) (T 8) ++ bX b0 kn kw) Hp → va_D A (xX rx tt a tr r3 rs rz b b0 s0 r5 r6 ++ fX cI a (T 0 0) (T 0 1) (T 0 2) (T 0 3) (T 0 4) (T 0 5) (T 1) (T 2) (T 3) (T 4) (T 5) (T 6) (T 7) (T 8) ++ bX b0 kn kw) → va_S A s.heap Hp locs → ∀ ls : Array Slot, lv_has ls 10 [(9, .int (nI v)), (8, .int (nI hp)), (7, .int (nI ki)), (6, .int (nI h)), (5, .int (nI 1)), (4, .int (nI (boxN (T 2) (T 4) h))), (3, .int (nI (sumN (T 2) h))), (2, .int (nI (kilA (T 8) (T 0 1) h))), (0, .ref rx), (1, .int (nI x))] → W p l e (rmF 4 87) s m args below meth c Hp locs 0 0 (MQ below (CQ D (some (.int (if True then 1 else 0))) (fun _ : Unit => (xX rx tt a tr r3 rs rz b b0 s0 r5 r6 ++ fX cI a (T 0 0) (T 0 1) (T 0 2) (T 0 3) (T 0 4) (T 0 5) (T 1) (T 2) (T 3) (T 4) (T 5) (T 6) (T 7) (T 8) ++ bX b0 kn kw)) A) args s 0 0 A) (F0 m 37 ls []) := by
          intro dd
          induction dd with
          | zero => intro ki hp v hv f1 f2 hm; exact absurd hm (Nat.not_lt_zero _)
          | succ dd ih_37 =>
            intro ki hp v hv f1 f2 hm Hp locs hP hD hS ls hl
            subst f1
            subst f2
            refine lv_iload hx hb dL_sound_37 (lv_at hl 0 rfl) ?_
            refine lv_aload_n hx hb dL_sound_39 rfl (lv_at hl 8 rfl) ?_
            refine lv_iconst (v := (nI 1)) hx hb dL_sound_40 (by decide) ?_
            refine gp_V (ci := 8) (q0 := 0) (cq := (RX8, TX8, 11)) (c_X8_about l D cI cZ cF cL rx tt a tr r3 rs rz b b0 s0 r5 r6 T 1 hT (by omega)) (gUV w_320 w_321 w_322 w_2 w_323) rfl hdV_X8_about ⟨Nat.le_of_ble_eq_true rfl, Nat.le_of_ble_eq_true rfl⟩ ⟨rfl, rfl⟩ hx hb hml hown hts hK hA hP hD hS hl.1 ⟨Nat.le_of_ble_eq_true rfl, Nat.le_of_ble_eq_true rfl⟩ rfl rfl rfl (wr := (bX b0 kn kw)) (pm_cnt (fun _ => by simp only [List.countP_append, List.countP_nil, fT] <;> omega)) (fun _ => by simp only [List.map_append, List.map_nil, fX_m, bX_m, sX_m, pX_m, iaX_m, r5X_m, r6X_m, fT_m, hX_m, tX_m, xX_m, sgX_m, zaX_m, fsB_a]) (rest := [.int (nI v)]) rfl rfl (Nat.le_of_ble_eq_true rfl) dL_sound_41 (ws2 := (fun _ : Unit => (xX rx tt a tr r3 rs rz b b0 s0 r5 r6 ++ fX cI a (T 0 0) (T 0 1) (T 0 2) (T 0 3) (T 0 4) (T 0 5) (T 1) (T 2) (T 3) (T 4) (T 5) (T 6) (T 7) (T 8) ++ bX b0 kn kw))) (fun _ => (pm_cnt (fun _ => by simp only [List.countP_append, List.countP_nil, fT] <;> omega))) (fun _ Hp locs hP hD hS => ?_)
            rw [show (nI (abV T 1)) = (nI (T 0 1)) from rfl]
            refine lv_icmp_ge (tgt := 88) hx hb dL_sound_44 (by decide) (fun c_44 => ?_) (fun c_44 => ?_)
            · skip
              replace c_44 := cn_le (by have := hT.1.2; omega) (by have := hT.1.2; omega) c_44
              obtain ⟨g1, g2, g3, g4, g5, g6⟩ := hT.2.1 h (by have := hT.1.1; omega)
              rw [show (nI (hap (T 7) (T 8) v h)) = (nI (hap (T 7) (T 8) (T 0 1) h)) from congrArg nI (by rw [show v = T 0 1 by omega])] at hl
              rw [show (nI (kilH (T 8) v h)) = (nI (kilH (T 8) (T 0 1) h)) from congrArg nI (by rw [show v = T 0 1 by omega])] at hl
              refine lv_iload_n hx hb dL_sound_88 rfl (lv_at hl 7 rfl) ?_
              refine lv_iload hx hb dL_sound_89 (lv_at hl 2 rfl) ?_
              refine lv_iadd hx hb dL_sound_91 ?_
              rw [nI_add (kilA (T 8) (T 0 1) h) (kilH (T 8) (T 0 1) h)]
              refine lv_istore_n (lv' := [(2, .int (nI ((kilA (T 8) (T 0 1) h) + (kilH (T 8) (T 0 1) h)))), (9, .int (nI v)), (8, .int (nI (hap (T 7) (T 8) (T 0 1) h))), (7, .int (nI (kilH (T 8) (T 0 1) h))), (6, .int (nI h)), (5, .int (nI 1)), (4, .int (nI (boxN (T 2) (T 4) h))), (3, .int (nI (sumN (T 2) h))), (0, .ref rx), (1, .int (nI x))]) hx hb dL_sound_92 rfl hl (by decide) rfl (fun ls hl => ?_)
              refine lv_iload_n hx hb dL_sound_93 rfl (lv_at hl 7 rfl) ?_
              refine lv_aload_n hx hb dL_sound_94 rfl (lv_at hl 8 rfl) ?_
              refine lv_iload hx hb dL_sound_95 (lv_at hl 4 rfl) ?_
              refine lv_iconst (v := (nI 1)) hx hb dL_sound_97 (by decide) ?_
              refine gp_V (ci := 8) (q0 := 0) (cq := (RX8, TX8, 11)) (c_X8_house l D cI cZ cF cL rx tt a tr r3 rs rz b b0 s0 r5 r6 T h 1 hT (by omega) (by omega)) (gUV w_390 w_391 w_392 w_2 w_393) rfl hdV_X8_house ⟨Nat.le_of_ble_eq_true rfl, Nat.le_of_ble_eq_true rfl⟩ ⟨rfl, rfl⟩ hx hb hml hown hts hK hA hP hD hS hl.1 ⟨Nat.le_of_ble_eq_true rfl, Nat.le_of_ble_eq_true rfl⟩ rfl rfl rfl (wr := (bX b0 kn kw)) (pm_cnt (fun _ => by simp only [List.countP_append, List.countP_nil, fT] <;> omega)) (fun _ => by simp only [List.map_append, List.map_nil, fX_m, bX_m, sX_m, pX_m, iaX_m, r5X_m, r6X_m, fT_m, hX_m, tX_m, xX_m, sgX_m, zaX_m, fsB_a]) (rest := [.int (nI (sumN (T 2) h))]) rfl rfl (Nat.le_of_ble_eq_true rfl) dL_sound_98 (ws2 := (fun _ : Unit => (xX rx tt a tr r3 rs rz b b0 s0 r5 r6 ++ fX cI a (T 0 0) (T 0 1) (T 0 2) (T 0 3) (T 0 4) (T 0 5) (T 1) (T 2) (T 3) (T 4) (T 5) (T 6) (T 7) (T 8) ++ bX b0 kn kw))) (fun _ => (pm_cnt (fun _ => by simp only [List.countP_append, List.countP_nil, fT] <;> omega))) (fun _ Hp locs hP hD hS => ?_)
              rw [show (nI (hoV T h 1)) = (nI (T 2 h)) from rfl]
              refine lv_iadd hx hb dL_sound_101 ?_
              rw [nI_add (sumN (T 2) h) (T 2 h)]
              refine lv_istore_n (lv' := [(3, .int (nI ((sumN (T 2) h) + (T 2 h)))), (2, .int (nI ((kilA (T 8) (T 0 1) h) + (kilH (T 8) (T 0 1) h)))), (9, .int (nI v)), (8, .int (nI (hap (T 7) (T 8) (T 0 1) h))), (7, .int (nI (kilH (T 8) (T 0 1) h))), (6, .int (nI h)), (5, .int (nI 1)), (4, .int (nI (boxN (T 2) (T 4) h))), (0, .ref rx), (1, .int (nI x))]) hx hb dL_sound_102 rfl hl (by decide) rfl (fun ls hl => ?_)
              refine lv_iload hx hb dL_sound_103 (lv_at hl 7 rfl) ?_
              refine lv_aload_n hx hb dL_sound_105 rfl (lv_at hl 8 rfl) ?_
              refine lv_iload hx hb dL_sound_106 (lv_at hl 5 rfl) ?_
              refine lv_bipush (v := (nI 6)) hx hb dL_sound_108 (by decide) ?_
              refine gp_V (ci := 8) (q0 := 0) (cq := (RX8, TX8, 11)) (c_X8_house l D cI cZ cF cL rx tt a tr r3 rs rz b b0 s0 r5 r6 T h 6 hT (by omega) (by omega)) (gUV w_390 w_391 w_392 w_2 w_393) rfl hdV_X8_house ⟨Nat.le_of_ble_eq_true rfl, Nat.le_of_ble_eq_true rfl⟩ ⟨rfl, rfl⟩ hx hb hml hown hts hK hA hP hD hS hl.1 ⟨Nat.le_of_ble_eq_true rfl, Nat.le_of_ble_eq_true rfl⟩ rfl rfl rfl (wr := (bX b0 kn kw)) (pm_cnt (fun _ => by simp only [List.countP_append, List.countP_nil, fT] <;> omega)) (fun _ => by simp only [List.map_append, List.map_nil, fX_m, bX_m, sX_m, pX_m, iaX_m, r5X_m, r6X_m, fT_m, hX_m, tX_m, xX_m, sgX_m, zaX_m, fsB_a]) (rest := [.int (nI (boxN (T 2) (T 4) h))]) rfl rfl (Nat.le_of_ble_eq_true rfl) dL_sound_110 (ws2 := (fun _ : Unit => (xX rx tt a tr r3 rs rz b b0 s0 r5 r6 ++ fX cI a (T 0 0) (T 0 1) (T 0 2) (T 0 3) (T 0 4) (T 0 5) (T 1) (T 2) (T 3) (T 4) (T 5) (T 6) (T 7) (T 8) ++ bX b0 kn kw))) (fun _ => (pm_cnt (fun _ => by simp only [List.countP_append, List.countP_nil, fT] <;> omega))) (fun _ Hp locs hP hD hS => ?_)
              refine lv_iadd hx hb dL_sound_113 ?_
              rw [nI_add (boxN (T 2) (T 4) h) (hoV T h 6)]
              refine lv_istore (lv' := [(4, .int (nI ((boxN (T 2) (T 4) h) + (hoV T h 6)))), (3, .int (nI ((sumN (T 2) h) + (T 2 h)))), (2, .int (nI ((kilA (T 8) (T 0 1) h) + (kilH (T 8) (T 0 1) h)))), (9, .int (nI v)), (8, .int (nI (hap (T 7) (T 8) (T 0 1) h))), (7, .int (nI (kilH (T 8) (T 0 1) h))), (6, .int (nI h)), (5, .int (nI 1)), (0, .ref rx), (1, .int (nI x))]) hx hb dL_sound_114 hl (by decide) rfl (fun ls hl => ?_)
              refine lv_aload_n hx hb dL_sound_116 rfl (lv_at hl 8 rfl) ?_
              refine lv_iload hx hb dL_sound_117 (lv_at hl 6 rfl) ?_
              refine lv_iconst (v := (nI 4)) hx hb dL_sound_119 (by decide) ?_
              refine gp_V (ci := 8) (q0 := 0) (cq := (RX8, TX8, 11)) (c_X8_house l D cI cZ cF cL rx tt a tr r3 rs rz b b0 s0 r5 r6 T h 4 hT (by omega) (by omega)) (gUV w_390 w_391 w_392 w_2 w_393) rfl hdV_X8_house ⟨Nat.le_of_ble_eq_true rfl, Nat.le_of_ble_eq_true rfl⟩ ⟨rfl, rfl⟩ hx hb hml hown hts hK hA hP hD hS hl.1 ⟨Nat.le_of_ble_eq_true rfl, Nat.le_of_ble_eq_true rfl⟩ rfl rfl rfl (wr := (bX b0 kn kw)) (pm_cnt (fun _ => by simp only [List.countP_append, List.countP_nil, fT] <;> omega)) (fun _ => by simp only [List.map_append, List.map_nil, fX_m, bX_m, sX_m, pX_m, iaX_m, r5X_m, r6X_m, fT_m, hX_m, tX_m, xX_m, sgX_m, zaX_m, fsB_a]) (rest := []) rfl rfl (Nat.le_of_ble_eq_true rfl) dL_sound_120 (ws2 := (fun _ : Unit => (xX rx tt a tr r3 rs rz b b0 s0 r5 r6 ++ fX cI a (T 0 0) (T 0 1) (T 0 2) (T 0 3) (T 0 4) (T 0 5) (T 1) (T 2) (T 3) (T 4) (T 5) (T 6) (T 7) (T 8) ++ bX b0 kn kw))) (fun _ => (pm_cnt (fun _ => by simp only [List.countP_append, List.countP_nil, fT] <;> omega))) (fun _ Hp locs hP hD hS => ?_)
              rw [show (nI (hoV T h 4)) = (nI (kilH (T 8) (T 0 1) h)) from rfl]
              refine lv_iload hx hb dL_sound_123 (lv_at hl 5 rfl) ?_
              refine lv_icmp_ne (tgt := 181) hx hb dL_sound_125 (by decide) (fun c_125 => ?_) (fun c_125 => ?_)
              · skip
                exact absurd rfl c_125
              · skip
                refine lv_aload_n hx hb dL_sound_128 rfl (lv_at hl 8 rfl) ?_
                refine lv_iload hx hb dL_sound_129 (lv_at hl 6 rfl) ?_
                refine lv_iconst (v := (nI 5)) hx hb dL_sound_131 (by decide) ?_
                refine gp_V (ci := 8) (q0 := 0) (cq := (RX8, TX8, 11)) (c_X8_house l D cI cZ cF cL rx tt a tr r3 rs rz b b0 s0 r5 r6 T h 5 hT (by omega) (by omega)) (gUV w_390 w_391 w_392 w_2 w_393) rfl hdV_X8_house ⟨Nat.le_of_ble_eq_true rfl, Nat.le_of_ble_eq_true rfl⟩ ⟨rfl, rfl⟩ hx hb hml hown hts hK hA hP hD hS hl.1 ⟨Nat.le_of_ble_eq_true rfl, Nat.le_of_ble_eq_true rfl⟩ rfl rfl rfl (wr := (bX b0 kn kw)) (pm_cnt (fun _ => by simp only [List.countP_append, List.countP_nil, fT] <;> omega)) (fun _ => by simp only [List.map_append, List.map_nil, fX_m, bX_m, sX_m, pX_m, iaX_m, r5X_m, r6X_m, fT_m, hX_m, tX_m, xX_m, sgX_m, zaX_m, fsB_a]) (rest := []) rfl rfl (Nat.le_of_ble_eq_true rfl) dL_sound_132 (ws2 := (fun _ : Unit => (xX rx tt a tr r3 rs rz b b0 s0 r5 r6 ++ fX cI a (T 0 0) (T 0 1) (T 0 2) (T 0 3) (T 0 4) (T 0 5) (T 1) (T 2) (T 3) (T 4) (T 5) (T 6) (T 7) (T 8) ++ bX b0 kn kw))) (fun _ => (pm_cnt (fun _ => by simp only [List.countP_append, List.countP_nil, fT] <;> omega))) (fun _ Hp locs hP hD hS => ?_)
                rw [show (nI (hoV T h 5)) = (nI (hap (T 7) (T 8) (T 0 1) h)) from rfl]
                refine lv_iload hx hb dL_sound_135 (lv_at hl 4 rfl) ?_
                refine lv_icmp_ne (tgt := 181) hx hb dL_sound_137 (by decide) (fun c_137 => ?_) (fun c_137 => ?_)
                · skip
                  exact absurd rfl c_137
                · skip
                  refine lv_aload_n hx hb dL_sound_140 rfl (lv_at hl 8 rfl) ?_
                  refine lv_iload hx hb dL_sound_141 (lv_at hl 6 rfl) ?_
                  refine lv_bipush (v := (nI 6)) hx hb dL_sound_143 (by decide) ?_
                  refine gp_V (ci := 8) (q0 := 0) (cq := (RX8, TX8, 11)) (c_X8_house l D cI cZ cF cL rx tt a tr r3 rs rz b b0 s0 r5 r6 T h 6 hT (by omega) (by omega)) (gUV w_390 w_391 w_392 w_2 w_393) rfl hdV_X8_house ⟨Nat.le_of_ble_eq_true rfl, Nat.le_of_ble_eq_true rfl⟩ ⟨rfl, rfl⟩ hx hb hml hown hts hK hA hP hD hS hl.1 ⟨Nat.le_of_ble_eq_true rfl, Nat.le_of_ble_eq_true rfl⟩ rfl rfl rfl (wr := (bX b0 kn kw)) (pm_cnt (fun _ => by simp only [List.countP_append, List.countP_nil, fT] <;> omega)) (fun _ => by simp only [List.map_append, List.map_nil, fX_m, bX_m, sX_m, pX_m, iaX_m, r5X_m, r6X_m, fT_m, hX_m, tX_m, xX_m, sgX_m, zaX_m, fsB_a]) (rest := []) rfl rfl (Nat.le_of_ble_eq_true rfl) dL_sound_145 (ws2 := (fun _ : Unit => (xX rx tt a tr r3 rs rz b b0 s0 r5 r6 ++ fX cI a (T 0 0) (T 0 1) (T 0 2) (T 0 3) (T 0 4) (T 0 5) (T 1) (T 2) (T 3) (T 4) (T 5) (T 6) (T 7) (T 8) ++ bX b0 kn kw))) (fun _ => (pm_cnt (fun _ => by simp only [List.countP_append, List.countP_nil, fT] <;> omega))) (fun _ Hp locs hP hD hS => ?_)
                  refine lv_aload_n hx hb dL_sound_148 rfl (lv_at hl 8 rfl) ?_
                  refine lv_iload hx hb dL_sound_149 (lv_at hl 6 rfl) ?_
                  refine lv_iconst (v := (nI 3)) hx hb dL_sound_151 (by decide) ?_
                  refine gp_V (ci := 8) (q0 := 0) (cq := (RX8, TX8, 11)) (c_X8_house l D cI cZ cF cL rx tt a tr r3 rs rz b b0 s0 r5 r6 T h 3 hT (by omega) (by omega)) (gUV w_390 w_391 w_392 w_2 w_393) rfl hdV_X8_house ⟨Nat.le_of_ble_eq_true rfl, Nat.le_of_ble_eq_true rfl⟩ ⟨rfl, rfl⟩ hx hb hml hown hts hK hA hP hD hS hl.1 ⟨Nat.le_of_ble_eq_true rfl, Nat.le_of_ble_eq_true rfl⟩ rfl rfl rfl (wr := (bX b0 kn kw)) (pm_cnt (fun _ => by simp only [List.countP_append, List.countP_nil, fT] <;> omega)) (fun _ => by simp only [List.map_append, List.map_nil, fX_m, bX_m, sX_m, pX_m, iaX_m, r5X_m, r6X_m, fT_m, hX_m, tX_m, xX_m, sgX_m, zaX_m, fsB_a]) (rest := [.int (nI (hoV T h 6))]) rfl rfl (Nat.le_of_ble_eq_true rfl) dL_sound_152 (ws2 := (fun _ : Unit => (xX rx tt a tr r3 rs rz b b0 s0 r5 r6 ++ fX cI a (T 0 0) (T 0 1) (T 0 2) (T 0 3) (T 0 4) (T 0 5) (T 1) (T 2) (T 3) (T 4) (T 5) (T 6) (T 7) (T 8) ++ bX b0 kn kw))) (fun _ => (pm_cnt (fun _ => by simp only [List.countP_append, List.countP_nil, fT] <;> omega))) (fun _ Hp locs hP hD hS => ?_)
                  rw [show (nI (hoV T h 3)) = (nI (T 4 h)) from rfl]
                  refine lv_if_ne (tgt := 173) hx hb dL_sound_155 (by decide) (fun c_155 => ?_) (fun c_155 => ?_)
                  · skip
                    replace c_155 := cn_ne (b := 0) c_155
                    refine lv_iconst (v := (nI 0)) hx hb dL_sound_173 (by decide) ?_
                    refine lv_icmp_ne (tgt := 181) hx hb dL_sound_174 (by decide) (fun c_174 => ?_) (fun c_174 => ?_)
                    · skip
                      first | exact absurd (congrArg nI ((ho6 T h).trans (if_pos ⟨c_155, c_166⟩))) c_174 | exact absurd (congrArg nI ((ho6 T h).trans (if_neg (fun q => c_155 q.1)))) c_174 | exact absurd (congrArg nI ((ho6 T h).trans (if_neg (fun q => Nat.not_lt.mpr c_166 q.2)))) c_174
                    · skip
                      refine lv_iconst (v := (nI 1)) hx hb dL_sound_177 (by decide) ?_
                      refine lv_goto (tgt := 182) hx hb dL_sound_178 (by decide) ?_
                      refine lv_istore (lv' := [(5, .int (nI 1)), (4, .int (nI ((boxN (T 2) (T 4) h) + (hoV T h 6)))), (3, .int (nI ((sumN (T 2) h) + (T 2 h)))), (2, .int (nI ((kilA (T 8) (T 0 1) h) + (kilH (T 8) (T 0 1) h)))), (9, .int (nI v)), (8, .int (nI (hap (T 7) (T 8) (T 0 1) h))), (7, .int (nI (kilH (T 8) (T 0 1) h))), (6, .int (nI h)), (0, .ref rx), (1, .int (nI x))]) hx hb dL_sound_182 hl (by decide) rfl (fun ls hl => ?_)
                      refine lv_iload hx hb dL_sound_184 (lv_at hl 0 rfl) ?_
                      refine lv_if_eq (tgt := 215) hx hb dL_sound_186 (by decide) (fun c_186 => absurd c_186 (by decide +kernel)) (fun _ => ?_)
                      refine lv_aload_n hx hb dL_sound_189 rfl (lv_at hl 8 rfl) ?_
                      refine lv_iload hx hb dL_sound_190 (lv_at hl 7 rfl) ?_
                      refine lv_iconst (v := (nI 2)) hx hb dL_sound_192 (by decide) ?_
                      refine gp_V (ci := 8) (q0 := 0) (cq := (RX8, TX8, 11)) (c_X8_house l D cI cZ cF cL rx tt a tr r3 rs rz b b0 s0 r5 r6 T h 2 hT (by omega) (by omega)) (gUV w_390 w_391 w_392 w_2 w_393) rfl hdV_X8_house ⟨Nat.le_of_ble_eq_true rfl, Nat.le_of_ble_eq_true rfl⟩ ⟨rfl, rfl⟩ hx hb hml hown hts hK hA hP hD hS hl.1 ⟨Nat.le_of_ble_eq_true rfl, Nat.le_of_ble_eq_true rfl⟩ rfl rfl rfl (wr := (bX b0 kn kw)) (pm_cnt (fun _ => by simp only [List.countP_append, List.countP_nil, fT] <;> omega)) (fun _ => by simp only [List.map_append, List.map_nil, fX_m, bX_m, sX_m, pX_m, iaX_m, r5X_m, r6X_m, fT_m, hX_m, tX_m, xX_m, sgX_m, zaX_m, fsB_a]) (rest := []) rfl rfl (Nat.le_of_ble_eq_true rfl) dL_sound_193 (ws2 := (fun _ : Unit => (xX rx tt a tr r3 rs rz b b0 s0 r5 r6 ++ fX cI a (T 0 0) (T 0 1) (T 0 2) (T 0 3) (T 0 4) (T 0 5) (T 1) (T 2) (T 3) (T 4) (T 5) (T 6) (T 7) (T 8) ++ bX b0 kn kw))) (fun _ => (pm_cnt (fun _ => by simp only [List.countP_append, List.countP_nil, fT] <;> omega))) (fun _ Hp locs hP hD hS => ?_)
                      rw [show (nI (hoV T h 2)) = (nI (T 3 h)) from rfl]
                      refine lv_if_lt (tgt := 215) hx hb dL_sound_196 (by decide) (fun c_196 => ?_) (fun c_196 => ?_)
                      · skip
                        replace c_196 := cn_lt (b := 0) (by omega) (by omega) c_196
                        exact absurd c_196 (Nat.not_lt_zero _)
                      · skip
                        replace c_196 := cn_nlt (b := 0) (by omega) (by omega) c_196
                        refine lv_aload_n hx hb dL_sound_199 rfl (lv_at hl 8 rfl) ?_
                        refine lv_iload hx hb dL_sound_200 (lv_at hl 7 rfl) ?_
                        refine lv_iconst (v := (nI 2)) hx hb dL_sound_202 (by decide) ?_
                        refine gp_V (ci := 8) (q0 := 0) (cq := (RX8, TX8, 11)) (c_X8_house l D cI cZ cF cL rx tt a tr r3 rs rz b b0 s0 r5 r6 T h 2 hT (by omega) (by omega)) (gUV w_390 w_391 w_392 w_2 w_393) rfl hdV_X8_house ⟨Nat.le_of_ble_eq_true rfl, Nat.le_of_ble_eq_true rfl⟩ ⟨rfl, rfl⟩ hx hb hml hown hts hK hA hP hD hS hl.1 ⟨Nat.le_of_ble_eq_true rfl, Nat.le_of_ble_eq_true rfl⟩ rfl rfl rfl (wr := (bX b0 kn kw)) (pm_cnt (fun _ => by simp only [List.countP_append, List.countP_nil, fT] <;> omega)) (fun _ => by simp only [List.map_append, List.map_nil, fX_m, bX_m, sX_m, pX_m, iaX_m, r5X_m, r6X_m, fT_m, hX_m, tX_m, xX_m, sgX_m, zaX_m, fsB_a]) (rest := []) rfl rfl (Nat.le_of_ble_eq_true rfl) dL_sound_203 (ws2 := (fun _ : Unit => (xX rx tt a tr r3 rs rz b b0 s0 r5 r6 ++ fX cI a (T 0 0) (T 0 1) (T 0 2) (T 0 3) (T 0 4) (T 0 5) (T 1) (T 2) (T 3) (T 4) (T 5) (T 6) (T 7) (T 8) ++ bX b0 kn kw))) (fun _ => (pm_cnt (fun _ => by simp only [List.countP_append, List.countP_nil, fT] <;> omega))) (fun _ Hp locs hP hD hS => ?_)
                        rw [show (nI (hoV T h 2)) = (nI (T 3 h)) from rfl]
                        refine lv_bipush (v := (nI 9)) hx hb dL_sound_206 (by decide) ?_
                        refine lv_icmp_gt (tgt := 215) hx hb dL_sound_208 (by decide) (fun c_208 => ?_) (fun c_208 => ?_)
                        · skip
                          replace c_208 := cn_lt (by omega) (by omega) c_208
                          exact absurd g3 (Nat.not_le.mpr c_208)
                        · skip
                          replace c_208 := cn_nlt (by omega) (by omega) c_208
                          refine lv_iconst (v := (nI 1)) hx hb dL_sound_211 (by decide) ?_
                          refine lv_goto (tgt := 216) hx hb dL_sound_212 (by decide) ?_
                          refine lv_istore (lv' := [(5, .int (nI 1)), (4, .int (nI ((boxN (T 2) (T 4) h) + (hoV T h 6)))), (3, .int (nI ((sumN (T 2) h) + (T 2 h)))), (2, .int (nI ((kilA (T 8) (T 0 1) h) + (kilH (T 8) (T 0 1) h)))), (9, .int (nI v)), (8, .int (nI (hap (T 7) (T 8) (T 0 1) h))), (7, .int (nI (kilH (T 8) (T 0 1) h))), (6, .int (nI h)), (0, .ref rx), (1, .int (nI x))]) hx hb dL_sound_216 hl (by decide) rfl (fun ls hl => ?_)
                          refine lv_iinc (v := (nI (h + 1))) (lv' := [(6, .int (nI (h + 1))), (5, .int (nI 1)), (4, .int (nI ((boxN (T 2) (T 4) h) + (hoV T h 6)))), (3, .int (nI ((sumN (T 2) h) + (T 2 h)))), (2, .int (nI ((kilA (T 8) (T 0 1) h) + (kilH (T 8) (T 0 1) h)))), (9, .int (nI v)), (8, .int (nI (hap (T 7) (T 8) (T 0 1) h))), (7, .int (nI (kilH (T 8) (T 0 1) h))), (0, .ref rx), (1, .int (nI x))]) hx hb dL_sound_218 hl (k := 7) rfl (nI_add h 1) (by decide) rfl (fun ls hl => ?_)
                          refine lv_goto (tgt := 13) hx hb dL_sound_221 (by decide) ?_
                          exact ih_13 ((kilA (T 8) (T 0 1) h) + (kilH (T 8) (T 0 1) h)) ((sumN (T 2) h) + (T 2 h)) ((boxN (T 2) (T 4) h) + (hoV T h 6)) (h + 1) (by omega) rfl rfl (bx_s T h) (by omega) _ _ hP hD hS _ (lv_sub hl [0, 1, 2, 3, 4, 8, 9] rfl)
                  · skip
                    replace c_155 := cn_eq (b := 0) (by omega) (by omega) c_155
                    refine lv_aload_n hx hb dL_sound_158 rfl (lv_at hl 8 rfl) ?_
                    refine lv_iload hx hb dL_sound_159 (lv_at hl 6 rfl) ?_
                    refine lv_iconst (v := (nI 1)) hx hb dL_sound_161 (by decide) ?_
                    refine gp_V (ci := 8) (q0 := 0) (cq := (RX8, TX8, 11)) (c_X8_house l D cI cZ cF cL rx tt a tr r3 rs rz b b0 s0 r5 r6 T h 1 hT (by omega) (by omega)) (gUV w_390 w_391 w_392 w_2 w_393) rfl hdV_X8_house ⟨Nat.le_of_ble_eq_true rfl, Nat.le_of_ble_eq_true rfl⟩ ⟨rfl, rfl⟩ hx hb hml hown hts hK hA hP hD hS hl.1 ⟨Nat.le_of_ble_eq_true rfl, Nat.le_of_ble_eq_true rfl⟩ rfl rfl rfl (wr := (bX b0 kn kw)) (pm_cnt (fun _ => by simp only [List.countP_append, List.countP_nil, fT] <;> omega)) (fun _ => by simp only [List.map_append, List.map_nil, fX_m, bX_m, sX_m, pX_m, iaX_m, r5X_m, r6X_m, fT_m, hX_m, tX_m, xX_m, sgX_m, zaX_m, fsB_a]) (rest := [.int (nI (hoV T h 6))]) rfl rfl (Nat.le_of_ble_eq_true rfl) dL_sound_162 (ws2 := (fun _ : Unit => (xX rx tt a tr r3 rs rz b b0 s0 r5 r6 ++ fX cI a (T 0 0) (T 0 1) (T 0 2) (T 0 3) (T 0 4) (T 0 5) (T 1) (T 2) (T 3) (T 4) (T 5) (T 6) (T 7) (T 8) ++ bX b0 kn kw))) (fun _ => (pm_cnt (fun _ => by simp only [List.countP_append, List.countP_nil, fT] <;> omega))) (fun _ Hp locs hP hD hS => ?_)
                    rw [show (nI (hoV T h 1)) = (nI (T 2 h)) from rfl]
                    refine lv_iconst (v := (nI 3)) hx hb dL_sound_165 (by decide) ?_
                    refine lv_icmp_ge (tgt := 173) hx hb dL_sound_166 (by decide) (fun c_166 => ?_) (fun c_166 => ?_)
                    · skip
                      replace c_166 := cn_le (by omega) (by omega) c_166
                      refine lv_iconst (v := (nI 0)) hx hb dL_sound_173 (by decide) ?_
                      refine lv_icmp_ne (tgt := 181) hx hb dL_sound_174 (by decide) (fun c_174 => ?_) (fun c_174 => ?_)
                      · skip
                        first | exact absurd (congrArg nI ((ho6 T h).trans (if_pos ⟨c_155, c_166⟩))) c_174 | exact absurd (congrArg nI ((ho6 T h).trans (if_neg (fun q => c_155 q.1)))) c_174 | exact absurd (congrArg nI ((ho6 T h).trans (if_neg (fun q => Nat.not_lt.mpr c_166 q.2)))) c_174
                      · skip
                        refine lv_iconst (v := (nI 1)) hx hb dL_sound_177 (by decide) ?_
                        refine lv_goto (tgt := 182) hx hb dL_sound_178 (by decide) ?_
                        refine lv_istore (lv' := [(5, .int (nI 1)), (4, .int (nI ((boxN (T 2) (T 4) h) + (hoV T h 6)))), (3, .int (nI ((sumN (T 2) h) + (T 2 h)))), (2, .int (nI ((kilA (T 8) (T 0 1) h) + (kilH (T 8) (T 0 1) h)))), (9, .int (nI v)), (8, .int (nI (hap (T 7) (T 8) (T 0 1) h))), (7, .int (nI (kilH (T 8) (T 0 1) h))), (6, .int (nI h)), (0, .ref rx), (1, .int (nI x))]) hx hb dL_sound_182 hl (by decide) rfl (fun ls hl => ?_)
                        refine lv_iload hx hb dL_sound_184 (lv_at hl 0 rfl) ?_
                        refine lv_if_eq (tgt := 215) hx hb dL_sound_186 (by decide) (fun c_186 => absurd c_186 (by decide +kernel)) (fun _ => ?_)
                        refine lv_aload_n hx hb dL_sound_189 rfl (lv_at hl 8 rfl) ?_
                        refine lv_iload hx hb dL_sound_190 (lv_at hl 7 rfl) ?_
                        refine lv_iconst (v := (nI 2)) hx hb dL_sound_192 (by decide) ?_
                        refine gp_V (ci := 8) (q0 := 0) (cq := (RX8, TX8, 11)) (c_X8_house l D cI cZ cF cL rx tt a tr r3 rs rz b b0 s0 r5 r6 T h 2 hT (by omega) (by omega)) (gUV w_390 w_391 w_392 w_2 w_393) rfl hdV_X8_house ⟨Nat.le_of_ble_eq_true rfl, Nat.le_of_ble_eq_true rfl⟩ ⟨rfl, rfl⟩ hx hb hml hown hts hK hA hP hD hS hl.1 ⟨Nat.le_of_ble_eq_true rfl, Nat.le_of_ble_eq_true rfl⟩ rfl rfl rfl (wr := (bX b0 kn kw)) (pm_cnt (fun _ => by simp only [List.countP_append, List.countP_nil, fT] <;> omega)) (fun _ => by simp only [List.map_append, List.map_nil, fX_m, bX_m, sX_m, pX_m, iaX_m, r5X_m, r6X_m, fT_m, hX_m, tX_m, xX_m, sgX_m, zaX_m, fsB_a]) (rest := []) rfl rfl (Nat.le_of_ble_eq_true rfl) dL_sound_193 (ws2 := (fun _ : Unit => (xX rx tt a tr r3 rs rz b b0 s0 r5 r6 ++ fX cI a (T 0 0) (T 0 1) (T 0 2) (T 0 3) (T 0 4) (T 0 5) (T 1) (T 2) (T 3) (T 4) (T 5) (T 6) (T 7) (T 8) ++ bX b0 kn kw))) (fun _ => (pm_cnt (fun _ => by simp only [List.countP_append, List.countP_nil, fT] <;> omega))) (fun _ Hp locs hP hD hS => ?_)
                        rw [show (nI (hoV T h 2)) = (nI (T 3 h)) from rfl]
                        refine lv_if_lt (tgt := 215) hx hb dL_sound_196 (by decide) (fun c_196 => ?_) (fun c_196 => ?_)
                        · skip
                          replace c_196 := cn_lt (b := 0) (by omega) (by omega) c_196
                          exact absurd c_196 (Nat.not_lt_zero _)
                        · skip
                          replace c_196 := cn_nlt (b := 0) (by omega) (by omega) c_196
                          refine lv_aload_n hx hb dL_sound_199 rfl (lv_at hl 8 rfl) ?_
                          refine lv_iload hx hb dL_sound_200 (lv_at hl 7 rfl) ?_
                          refine lv_iconst (v := (nI 2)) hx hb dL_sound_202 (by decide) ?_
                          refine gp_V (ci := 8) (q0 := 0) (cq := (RX8, TX8, 11)) (c_X8_house l D cI cZ cF cL rx tt a tr r3 rs rz b b0 s0 r5 r6 T h 2 hT (by omega) (by omega)) (gUV w_390 w_391 w_392 w_2 w_393) rfl hdV_X8_house ⟨Nat.le_of_ble_eq_true rfl, Nat.le_of_ble_eq_true rfl⟩ ⟨rfl, rfl⟩ hx hb hml hown hts hK hA hP hD hS hl.1 ⟨Nat.le_of_ble_eq_true rfl, Nat.le_of_ble_eq_true rfl⟩ rfl rfl rfl (wr := (bX b0 kn kw)) (pm_cnt (fun _ => by simp only [List.countP_append, List.countP_nil, fT] <;> omega)) (fun _ => by simp only [List.map_append, List.map_nil, fX_m, bX_m, sX_m, pX_m, iaX_m, r5X_m, r6X_m, fT_m, hX_m, tX_m, xX_m, sgX_m, zaX_m, fsB_a]) (rest := []) rfl rfl (Nat.le_of_ble_eq_true rfl) dL_sound_203 (ws2 := (fun _ : Unit => (xX rx tt a tr r3 rs rz b b0 s0 r5 r6 ++ fX cI a (T 0 0) (T 0 1) (T 0 2) (T 0 3) (T 0 4) (T 0 5) (T 1) (T 2) (T 3) (T 4) (T 5) (T 6) (T 7) (T 8) ++ bX b0 kn kw))) (fun _ => (pm_cnt (fun _ => by simp only [List.countP_append, List.countP_nil, fT] <;> omega))) (fun _ Hp locs hP hD hS => ?_)
                          rw [show (nI (hoV T h 2)) = (nI (T 3 h)) from rfl]
                          refine lv_bipush (v := (nI 9)) hx hb dL_sound_206 (by decide) ?_
                          refine lv_icmp_gt (tgt := 215) hx hb dL_sound_208 (by decide) (fun c_208 => ?_) (fun c_208 => ?_)
                          · skip
                            replace c_208 := cn_lt (by omega) (by omega) c_208
                            exact absurd g3 (Nat.not_le.mpr c_208)
                          · skip
                            replace c_208 := cn_nlt (by omega) (by omega) c_208
                            refine lv_iconst (v := (nI 1)) hx hb dL_sound_211 (by decide) ?_
                            refine lv_goto (tgt := 216) hx hb dL_sound_212 (by decide) ?_
                            refine lv_istore (lv' := [(5, .int (nI 1)), (4, .int (nI ((boxN (T 2) (T 4) h) + (hoV T h 6)))), (3, .int (nI ((sumN (T 2) h) + (T 2 h)))), (2, .int (nI ((kilA (T 8) (T 0 1) h) + (kilH (T 8) (T 0 1) h)))), (9, .int (nI v)), (8, .int (nI (hap (T 7) (T 8) (T 0 1) h))), (7, .int (nI (kilH (T 8) (T 0 1) h))), (6, .int (nI h)), (0, .ref rx), (1, .int (nI x))]) hx hb dL_sound_216 hl (by decide) rfl (fun ls hl => ?_)
                            refine lv_iinc (v := (nI (h + 1))) (lv' := [(6, .int (nI (h + 1))), (5, .int (nI 1)), (4, .int (nI ((boxN (T 2) (T 4) h) + (hoV T h 6)))), (3, .int (nI ((sumN (T 2) h) + (T 2 h)))), (2, .int (nI ((kilA (T 8) (T 0 1) h) + (kilH (T 8) (T 0 1) h)))), (9, .int (nI v)), (8, .int (nI (hap (T 7) (T 8) (T 0 1) h))), (7, .int (nI (kilH (T 8) (T 0 1) h))), (0, .ref rx), (1, .int (nI x))]) hx hb dL_sound_218 hl (k := 7) rfl (nI_add h 1) (by decide) rfl (fun ls hl => ?_)
                            refine lv_goto (tgt := 13) hx hb dL_sound_221 (by decide) ?_
                            exact ih_13 ((kilA (T 8) (T 0 1) h) + (kilH (T 8) (T 0 1) h)) ((sumN (T 2) h) + (T 2 h)) ((boxN (T 2) (T 4) h) + (hoV T h 6)) (h + 1) (by omega) rfl rfl (bx_s T h) (by omega) _ _ hP hD hS _ (lv_sub hl [0, 1, 2, 3, 4, 8, 9] rfl)
                    · skip
                      replace c_166 := cn_nle (by omega) (by omega) c_166
                      refine lv_iconst (v := (nI 1)) hx hb dL_sound_169 (by decide) ?_
                      refine lv_goto (tgt := 174) hx hb dL_sound_170 (by decide) ?_
                      refine lv_icmp_ne (tgt := 181) hx hb dL_sound_174 (by decide) (fun c_174 => ?_) (fun c_174 => ?_)
                      · skip
                        first | exact absurd (congrArg nI ((ho6 T h).trans (if_pos ⟨c_155, c_166⟩))) c_174 | exact absurd (congrArg nI ((ho6 T h).trans (if_neg (fun q => c_155 q.1)))) c_174 | exact absurd (congrArg nI ((ho6 T h).trans (if_neg (fun q => Nat.not_lt.mpr c_166 q.2)))) c_174
                      · skip
                        refine lv_iconst (v := (nI 1)) hx hb dL_sound_177 (by decide) ?_
                        refine lv_goto (tgt := 182) hx hb dL_sound_178 (by decide) ?_
                        refine lv_istore (lv' := [(5, .int (nI 1)), (4, .int (nI ((boxN (T 2) (T 4) h) + (hoV T h 6)))), (3, .int (nI ((sumN (T 2) h) + (T 2 h)))), (2, .int (nI ((kilA (T 8) (T 0 1) h) + (kilH (T 8) (T 0 1) h)))), (9, .int (nI v)), (8, .int (nI (hap (T 7) (T 8) (T 0 1) h))), (7, .int (nI (kilH (T 8) (T 0 1) h))), (6, .int (nI h)), (0, .ref rx), (1, .int (nI x))]) hx hb dL_sound_182 hl (by decide) rfl (fun ls hl => ?_)
                        refine lv_iload hx hb dL_sound_184 (lv_at hl 0 rfl) ?_
                        refine lv_if_eq (tgt := 215) hx hb dL_sound_186 (by decide) (fun c_186 => absurd c_186 (by decide +kernel)) (fun _ => ?_)
                        refine lv_aload_n hx hb dL_sound_189 rfl (lv_at hl 8 rfl) ?_
                        refine lv_iload hx hb dL_sound_190 (lv_at hl 7 rfl) ?_
                        refine lv_iconst (v := (nI 2)) hx hb dL_sound_192 (by decide) ?_
                        refine gp_V (ci := 8) (q0 := 0) (cq := (RX8, TX8, 11)) (c_X8_house l D cI cZ cF cL rx tt a tr r3 rs rz b b0 s0 r5 r6 T h 2 hT (by omega) (by omega)) (gUV w_390 w_391 w_392 w_2 w_393) rfl hdV_X8_house ⟨Nat.le_of_ble_eq_true rfl, Nat.le_of_ble_eq_true rfl⟩ ⟨rfl, rfl⟩ hx hb hml hown hts hK hA hP hD hS hl.1 ⟨Nat.le_of_ble_eq_true rfl, Nat.le_of_ble_eq_true rfl⟩ rfl rfl rfl (wr := (bX b0 kn kw)) (pm_cnt (fun _ => by simp only [List.countP_append, List.countP_nil, fT] <;> omega)) (fun _ => by simp only [List.map_append, List.map_nil, fX_m, bX_m, sX_m, pX_m, iaX_m, r5X_m, r6X_m, fT_m, hX_m, tX_m, xX_m, sgX_m, zaX_m, fsB_a]) (rest := []) rfl rfl (Nat.le_of_ble_eq_true rfl) dL_sound_193 (ws2 := (fun _ : Unit => (xX rx tt a tr r3 rs rz b b0 s0 r5 r6 ++ fX cI a (T 0 0) (T 0 1) (T 0 2) (T 0 3) (T 0 4) (T 0 5) (T 1) (T 2) (T 3) (T 4) (T 5) (T 6) (T 7) (T 8) ++ bX b0 kn kw))) (fun _ => (pm_cnt (fun _ => by simp only [List.countP_append, List.countP_nil, fT] <;> omega))) (fun _ Hp locs hP hD hS => ?_)
                        rw [show (nI (hoV T h 2)) = (nI (T 3 h)) from rfl]
                        refine lv_if_lt (tgt := 215) hx hb dL_sound_196 (by decide) (fun c_196 => ?_) (fun c_196 => ?_)
                        · skip
                          replace c_196 := cn_lt (b := 0) (by omega) (by omega) c_196
                          exact absurd c_196 (Nat.not_lt_zero _)
                        · skip
                          replace c_196 := cn_nlt (b := 0) (by omega) (by omega) c_196
                          refine lv_aload_n hx hb dL_sound_199 rfl (lv_at hl 8 rfl) ?_
                          refine lv_iload hx hb dL_sound_200 (lv_at hl 7 rfl) ?_
                          refine lv_iconst (v := (nI 2)) hx hb dL_sound_202 (by decide) ?_
                          refine gp_V (ci := 8) (q0 := 0) (cq := (RX8, TX8, 11)) (c_X8_house l D cI cZ cF cL rx tt a tr r3 rs rz b b0 s0 r5 r6 T h 2 hT (by omega) (by omega)) (gUV w_390 w_391 w_392 w_2 w_393) rfl hdV_X8_house ⟨Nat.le_of_ble_eq_true rfl, Nat.le_of_ble_eq_true rfl⟩ ⟨rfl, rfl⟩ hx hb hml hown hts hK hA hP hD hS hl.1 ⟨Nat.le_of_ble_eq_true rfl, Nat.le_of_ble_eq_true rfl⟩ rfl rfl rfl (wr := (bX b0 kn kw)) (pm_cnt (fun _ => by simp only [List.countP_append, List.countP_nil, fT] <;> omega)) (fun _ => by simp only [List.map_append, List.map_nil, fX_m, bX_m, sX_m, pX_m, iaX_m, r5X_m, r6X_m, fT_m, hX_m, tX_m, xX_m, sgX_m, zaX_m, fsB_a]) (rest := []) rfl rfl (Nat.le_of_ble_eq_true rfl) dL_sound_203 (ws2 := (fun _ : Unit => (xX rx tt a tr r3 rs rz b b0 s0 r5 r6 ++ fX cI a (T 0 0) (T 0 1) (T 0 2) (T 0 3) (T 0 4) (T 0 5) (T 1) (T 2) (T 3) (T 4) (T 5) (T 6) (T 7) (T 8) ++ bX b0 kn kw))) (fun _ => (pm_cnt (fun _ => by simp only [List.countP_append, List.countP_nil, fT] <;> omega))) (fun _ Hp locs hP hD hS => ?_)
                          rw [show (nI (hoV T h 2)) = (nI (T 3 h)) from rfl]
                          refine lv_bipush (v := (nI 9)) hx hb dL_sound_206 (by decide) ?_
                          refine lv_icmp_gt (tgt := 215) hx hb dL_sound_208 (by decide) (fun c_208 => ?_) (fun c_208 => ?_)
                          · skip
                            replace c_208 := cn_lt (by omega) (by omega) c_208
                            exact absurd g3 (Nat.not_le.mpr c_208)
                          · skip
                            replace c_208 := cn_nlt (by omega) (by omega) c_208
                            refine lv_iconst (v := (nI 1)) hx hb dL_sound_211 (by decide) ?_
                            refine lv_goto (tgt := 216) hx hb dL_sound_212 (by decide) ?_
                            refine lv_istore (lv' := [(5, .int (nI 1)), (4, .int (nI ((boxN (T 2) (T 4) h) + (hoV T h 6)))), (3, .int (nI ((sumN (T 2) h) + (T 2 h)))), (2, .int (nI ((kilA (T 8) (T 0 1) h) + (kilH (T 8) (T 0 1) h)))), (9, .int (nI v)), (8, .int (nI (hap (T 7) (T 8) (T 0 1) h))), (7, .int (nI (kilH (T 8) (T 0 1) h))), (6, .int (nI h)), (0, .ref rx), (1, .int (nI x))]) hx hb dL_sound_216 hl (by decide) rfl (fun ls hl => ?_)
                            refine lv_iinc (v := (nI (h + 1))) (lv' := [(6, .int (nI (h + 1))), (5, .int (nI 1)), (4, .int (nI ((boxN (T 2) (T 4) h) + (hoV T h 6)))), (3, .int (nI ((sumN (T 2) h) + (T 2 h)))), (2, .int (nI ((kilA (T 8) (T 0 1) h) + (kilH (T 8) (T 0 1) h)))), (9, .int (nI v)), (8, .int (nI (hap (T 7) (T 8) (T 0 1) h))), (7, .int (nI (kilH (T 8) (T 0 1) h))), (0, .ref rx), (1, .int (nI x))]) hx hb dL_sound_218 hl (k := 7) rfl (nI_add h 1) (by decide) rfl (fun ls hl => ?_)
                            refine lv_goto (tgt := 13) hx hb dL_sound_221 (by decide) ?_
                            exact ih_13 ((kilA (T 8) (T 0 1) h) + (kilH (T 8) (T 0 1) h)) ((sumN (T 2) h) + (T 2 h)) ((boxN (T 2) (T 4) h) + (hoV T h 6)) (h + 1) (by omega) rfl rfl (bx_s T h) (by omega) _ _ hP hD hS _ (lv_sub hl [0, 1, 2, 3, 4, 8, 9] rfl)
            · skip
              replace c_44 := cn_nle (by have := hT.1.2; omega) (by have := hT.1.2; omega) c_44
              refine lv_iload hx hb dL_sound_47 (lv_at hl 2 rfl) ?_
              refine lv_aload_n hx hb dL_sound_49 rfl (lv_at hl 8 rfl) ?_
              refine lv_iload hx hb dL_sound_50 (lv_at hl 3 rfl) ?_
              refine lv_iload hx hb dL_sound_52 (lv_at hl 0 rfl) ?_
              refine gp_V (ci := 8) (q0 := 0) (cq := (RX8, TX8, 11)) (c_X8_box l D cI cZ cF cL rx tt a tr r3 rs rz b b0 s0 r5 r6 T h v hT (by omega) (by omega)) (gUV w_403 w_404 w_405 w_2 w_406) rfl hdV_X8_box ⟨Nat.le_of_ble_eq_true rfl, Nat.le_of_ble_eq_true rfl⟩ ⟨rfl, rfl⟩ hx hb hml hown hts hK hA hP hD hS hl.1 ⟨Nat.le_of_ble_eq_true rfl, Nat.le_of_ble_eq_true rfl⟩ rfl rfl rfl (wr := (bX b0 kn kw)) (pm_cnt (fun _ => by simp only [List.countP_append, List.countP_nil, fT] <;> omega)) (fun _ => by simp only [List.map_append, List.map_nil, fX_m, bX_m, sX_m, pX_m, iaX_m, r5X_m, r6X_m, fT_m, hX_m, tX_m, xX_m, sgX_m, zaX_m, fsB_a]) (rest := [.int (nI (kilH (T 8) v h))]) rfl rfl (Nat.le_of_ble_eq_true rfl) dL_sound_54 (ws2 := (fun _ : Unit => (xX rx tt a tr r3 rs rz b b0 s0 r5 r6 ++ fX cI a (T 0 0) (T 0 1) (T 0 2) (T 0 3) (T 0 4) (T 0 5) (T 1) (T 2) (T 3) (T 4) (T 5) (T 6) (T 7) (T 8) ++ bX b0 kn kw))) (fun _ => (pm_cnt (fun _ => by simp only [List.countP_append, List.countP_nil, fT] <;> omega))) (fun _ Hp locs hP hD hS => ?_)
              refine lv_iadd hx hb dL_sound_57 ?_
              rw [nI_add (kilH (T 8) v h) (T 8 (h * 5 + v))]
              refine lv_istore (lv' := [(7, .int (nI ((kilH (T 8) v h) + (T 8 (h * 5 + v))))), (9, .int (nI v)), (8, .int (nI (hap (T 7) (T 8) v h))), (6, .int (nI h)), (5, .int (nI 1)), (4, .int (nI (boxN (T 2) (T 4) h))), (3, .int (nI (sumN (T 2) h))), (2, .int (nI (kilA (T 8) (T 0 1) h))), (0, .ref rx), (1, .int (nI x))]) hx hb dL_sound_58 hl (by decide) rfl (fun ls hl => ?_)
              refine lv_iload hx hb dL_sound_60 (lv_at hl 2 rfl) ?_
              refine lv_aload_n hx hb dL_sound_62 rfl (lv_at hl 8 rfl) ?_
              refine lv_iload hx hb dL_sound_63 (lv_at hl 3 rfl) ?_
              refine lv_iload hx hb dL_sound_65 (lv_at hl 1 rfl) ?_
              refine gp_V (ci := 8) (q0 := 0) (cq := (RX8, TX8, 11)) (c_X8_box l D cI cZ cF cL rx tt a tr r3 rs rz b b0 s0 r5 r6 T h v hT (by omega) (by omega)) (gUV w_403 w_404 w_405 w_2 w_406) rfl hdV_X8_box ⟨Nat.le_of_ble_eq_true rfl, Nat.le_of_ble_eq_true rfl⟩ ⟨rfl, rfl⟩ hx hb hml hown hts hK hA hP hD hS hl.1 ⟨Nat.le_of_ble_eq_true rfl, Nat.le_of_ble_eq_true rfl⟩ rfl rfl rfl (wr := (bX b0 kn kw)) (pm_cnt (fun _ => by simp only [List.countP_append, List.countP_nil, fT] <;> omega)) (fun _ => by simp only [List.map_append, List.map_nil, fX_m, bX_m, sX_m, pX_m, iaX_m, r5X_m, r6X_m, fT_m, hX_m, tX_m, xX_m, sgX_m, zaX_m, fsB_a]) (rest := [.int (nI (hap (T 7) (T 8) v h))]) rfl rfl (Nat.le_of_ble_eq_true rfl) dL_sound_67 (ws2 := (fun _ : Unit => (xX rx tt a tr r3 rs rz b b0 s0 r5 r6 ++ fX cI a (T 0 0) (T 0 1) (T 0 2) (T 0 3) (T 0 4) (T 0 5) (T 1) (T 2) (T 3) (T 4) (T 5) (T 6) (T 7) (T 8) ++ bX b0 kn kw))) (fun _ => (pm_cnt (fun _ => by simp only [List.countP_append, List.countP_nil, fT] <;> omega))) (fun _ Hp locs hP hD hS => ?_)
              refine lv_aload_n hx hb dL_sound_70 rfl (lv_at hl 8 rfl) ?_
              refine lv_iload hx hb dL_sound_71 (lv_at hl 3 rfl) ?_
              refine lv_iload hx hb dL_sound_73 (lv_at hl 1 rfl) ?_
              refine gp_V (ci := 8) (q0 := 0) (cq := (RX8, TX8, 11)) (c_X8_liking l D cI cZ cF cL rx tt a tr r3 rs rz b b0 s0 r5 r6 T h v hT (by omega) (by omega)) (gUV w_370 w_371 w_372 w_2 w_373) rfl hdV_X8_liking ⟨Nat.le_of_ble_eq_true rfl, Nat.le_of_ble_eq_true rfl⟩ ⟨rfl, rfl⟩ hx hb hml hown hts hK hA hP hD hS hl.1 ⟨Nat.le_of_ble_eq_true rfl, Nat.le_of_ble_eq_true rfl⟩ rfl rfl rfl (wr := (bX b0 kn kw)) (pm_cnt (fun _ => by simp only [List.countP_append, List.countP_nil, fT] <;> omega)) (fun _ => by simp only [List.map_append, List.map_nil, fX_m, bX_m, sX_m, pX_m, iaX_m, r5X_m, r6X_m, fT_m, hX_m, tX_m, xX_m, sgX_m, zaX_m, fsB_a]) (rest := [.int (nI (T 8 (h * 5 + v))), .int (nI (hap (T 7) (T 8) v h))]) rfl rfl (Nat.le_of_ble_eq_true rfl) dL_sound_75 (ws2 := (fun _ : Unit => (xX rx tt a tr r3 rs rz b b0 s0 r5 r6 ++ fX cI a (T 0 0) (T 0 1) (T 0 2) (T 0 3) (T 0 4) (T 0 5) (T 1) (T 2) (T 3) (T 4) (T 5) (T 6) (T 7) (T 8) ++ bX b0 kn kw))) (fun _ => (pm_cnt (fun _ => by simp only [List.countP_append, List.countP_nil, fT] <;> omega))) (fun _ Hp locs hP hD hS => ?_)
              refine lv_imul hx hb dL_sound_78 ?_
              rw [pk_mul (T 8 (h * 5 + v)) (T 7 (h * 5 + v))]
              refine lv_iadd hx hb dL_sound_79 ?_
              rw [nI_add (hap (T 7) (T 8) v h) ((T 8 (h * 5 + v)) * (T 7 (h * 5 + v)))]
              refine lv_istore (lv' := [(8, .int (nI ((hap (T 7) (T 8) v h) + ((T 8 (h * 5 + v)) * (T 7 (h * 5 + v)))))), (7, .int (nI ((kilH (T 8) v h) + (T 8 (h * 5 + v))))), (9, .int (nI v)), (6, .int (nI h)), (5, .int (nI 1)), (4, .int (nI (boxN (T 2) (T 4) h))), (3, .int (nI (sumN (T 2) h))), (2, .int (nI (kilA (T 8) (T 0 1) h))), (0, .ref rx), (1, .int (nI x))]) hx hb dL_sound_80 hl (by decide) rfl (fun ls hl => ?_)
              refine lv_iinc (v := (nI (v + 1))) (lv' := [(9, .int (nI (v + 1))), (8, .int (nI ((hap (T 7) (T 8) v h) + ((T 8 (h * 5 + v)) * (T 7 (h * 5 + v)))))), (7, .int (nI ((kilH (T 8) v h) + (T 8 (h * 5 + v))))), (6, .int (nI h)), (5, .int (nI 1)), (4, .int (nI (boxN (T 2) (T 4) h))), (3, .int (nI (sumN (T 2) h))), (2, .int (nI (kilA (T 8) (T 0 1) h))), (0, .ref rx), (1, .int (nI x))]) hx hb dL_sound_82 hl (k := 2) rfl (nI_add v 1) (by decide) rfl (fun ls hl => ?_)
              refine lv_goto (tgt := 37) hx hb dL_sound_85 (by decide) ?_
              exact ih_37 ((kilH (T 8) v h) + (T 8 (h * 5 + v))) ((hap (T 7) (T 8) v h) + ((T 8 (h * 5 + v)) * (T 7 (h * 5 + v)))) (v + 1) (by omega) rfl (by show _ = hap (T 7) (T 8) v h + T 7 (h * 5 + v) * T 8 (h * 5 + v); rw [Nat.mul_comm]) (by omega) _ _ hP hD hS _ (lv_sub hl [0, 1, 2, 3, 4, 5, 6, 7, 8, 9] rfl)
        exact loop_37 ((T 0 1 - 0) + 1) 0 0 0 (Nat.zero_le _) rfl rfl (Nat.lt_succ_self _) _ _ hP hD hS _ (lv_sub hl [0, 1, 2, 3, 4, 5, 6, 7, 8, 9] rfl)
  exact loop_13 ((T 0 0 - 0) + 1) 0 0 0 0 (Nat.zero_le _) rfl rfl rfl (Nat.lt_succ_self _) _ _ hP hD hS _ (lv_sub hl [0, 1, 2, 3, 4, 5, 6] rfl)
theorem ord_pr {T : Nat → Nat → Nat} (hT : FI T) {k g : Nat} (hk : k < T 0 0) (hg : (k = 0 ∧ g = oH T k) ∨ (0 < k ∧ g = oH T (k - 1))) : g < T 0 0 ∧ oH T k < T 0 0 ∧ hoV T g 5 < 2 ^ 31 ∧ hoV T (oH T k) 5 < 2 ^ 31 ∧ (hoV T (oH T k) 5 < hoV T g 5 ∨ hoV T g 5 = hoV T (oH T k) 5 ∧ g ≤ oH T k) := by
  have o1 := (ord_at T hk).2.1
  have hH := hT.1.1
  have f : ∀ j, j < T 0 0 → hoV T j 5 < 2 ^ 31 := fun j hj => by
    have := FI_hap hT (j := j) (by omega)
    show hap (T 7) (T 8) (T 0 1) j < 2 ^ 31
    omega
  rcases hg with ⟨h1, rfl⟩ | ⟨h1, rfl⟩
  · exact ⟨o1, o1, f _ o1, f _ o1, Or.inr ⟨rfl, Nat.le_refl _⟩⟩
  · have o2 := (ord_at T (p := k - 1) (by omega)).2.1
    have b := ord_bfr T (k := k - 1) (by omega)
    rw [show k - 1 + 1 = k by omega] at b
    refine ⟨o2, o1, f _ o2, f _ o1, ?_⟩
    rcases b with b | b
    · exact Or.inl b
    · exact Or.inr ⟨b.1, Nat.le_of_lt b.2⟩
set_option maxRecDepth 20000 in
theorem w_289 : Cond.code yX8_order cX8_order 3 (some .int) ∈ wsL_law := List.mem_of_getElem? (i := 289) (by decide +kernel)
set_option maxRecDepth 20000 in
theorem w_286 : Cond.methodLink RL 28 yX8_order ∈ wsL_law := List.mem_of_getElem? (i := 286) (by decide +kernel)
set_option maxRecDepth 20000 in
theorem w_287 : Cond.instanceMethod yX8_order ∈ wsL_law := List.mem_of_getElem? (i := 287) (by decide +kernel)
set_option maxRecDepth 20000 in
theorem w_288 : Cond.selects RX8 yX8_order yX8_order ∈ wsL_law := List.mem_of_getElem? (i := 288) (by decide +kernel)
theorem hdV_X8_order : yX8_order.cls = RX8 ∧ yX8_order.cls ≠ "java/lang/invoke/MethodHandle" ∧ yX8_order.cls ≠ "java/lang/invoke/VarHandle" ∧ (parseMethodDescriptor yX8_order.desc).map (fun d => d.parameters.length) = some 1 := by decide +kernel
set_option maxHeartbeats 4000000 in
set_option maxRecDepth 100000 in
theorem c_L_ordered (l : Launch) (D : va_G) (cI cZ cF cL : ClassId) (rx : Nat) (tt a tr : Nat → Nat) (r3 rs rz : Nat) (b : Nat → Nat) (b0 s0 r5 r6 : Nat) (T : Nat → Nat → Nat) (hT : FI T) : CT l D (tysX cI cZ cF cL) yL_ordered (wA yL_ordered cL_ordered 7 (some .boolean)) (rmF 4 91) [.ref rx] (xX rx tt a tr r3 rs rz b b0 s0 r5 r6 ++ fX cI a (T 0 0) (T 0 1) (T 0 2) (T 0 3) (T 0 4) (T 0 5) (T 1) (T 2) (T 3) (T 4) (T 5) (T 6) (T 7) (T 8)) (some (.int (if True then 1 else 0))) (fun _ : Unit => (xX rx tt a tr r3 rs rz b b0 s0 r5 r6 ++ fX cI a (T 0 0) (T 0 1) (T 0 2) (T 0 3) (T 0 4) (T 0 5) (T 1) (T 2) (T 3) (T 4) (T 5) (T 6) (T 7) (T 8))) := by
  refine ct_in (cc := cL_ordered) (maxL := 7) (ret := (some .boolean)) (own := RL) (lv := [(0, .ref rx)]) (by decide +kernel) rfl rfl (Nat.le_of_ble_eq_true rfl) rfl ?_
  intro p e s m args below meth c A ls hx hb hr hml hts hown hlocks hK hA hP hD hS hl
  refine lv_aload_n hx hb dL_ordered_0 rfl (lv_at hl 0 rfl) ?_
  refine lv_iconst (v := (nI 0)) hx hb dL_ordered_1 (by decide) ?_
  refine gp_V (ci := 8) (q0 := 0) (cq := (RX8, TX8, 11)) (c_X8_about l D cI cZ cF cL rx tt a tr r3 rs rz b b0 s0 r5 r6 T 0 hT (by omega)) (gUV w_320 w_321 w_322 w_2 w_323) rfl hdV_X8_about ⟨Nat.le_of_ble_eq_true rfl, Nat.le_of_ble_eq_true rfl⟩ ⟨rfl, rfl⟩ hx hb hml hown hts hK hA hP hD hS hl.1 ⟨Nat.le_of_ble_eq_true rfl, Nat.le_of_ble_eq_true rfl⟩ rfl rfl rfl (wr := ([] : va_W)) (pm_cnt (fun _ => by simp only [List.countP_append, List.countP_nil, fT] <;> omega)) (fun _ => by simp only [List.map_append, List.map_nil, fX_m, bX_m, sX_m, pX_m, iaX_m, r5X_m, r6X_m, fT_m, hX_m, tX_m, xX_m, sgX_m, zaX_m, fsB_a]) (rest := []) rfl rfl (Nat.le_of_ble_eq_true rfl) dL_ordered_2 (ws2 := (fun _ : Unit => (xX rx tt a tr r3 rs rz b b0 s0 r5 r6 ++ fX cI a (T 0 0) (T 0 1) (T 0 2) (T 0 3) (T 0 4) (T 0 5) (T 1) (T 2) (T 3) (T 4) (T 5) (T 6) (T 7) (T 8)))) (fun _ => (pm_cnt (fun _ => by simp only [List.countP_append, List.countP_nil, fT] <;> omega))) (fun _ Hp locs hP hD hS => ?_)
  rw [show (nI (abV T 0)) = (nI (T 0 0)) from rfl]
  refine lv_istore_n (lv' := [(1, .int (nI (T 0 0))), (0, .ref rx)]) hx hb dL_ordered_5 rfl hl (by decide) rfl (fun ls hl => ?_)
  refine lv_iconst (v := (nI 0)) hx hb dL_ordered_6 (by decide) ?_
  refine lv_istore_n (lv' := [(2, .int (nI 0)), (1, .int (nI (T 0 0))), (0, .ref rx)]) hx hb dL_ordered_7 rfl hl (by decide) rfl (fun ls hl => ?_)
  refine lv_aload_n hx hb dL_ordered_8 rfl (lv_at hl 2 rfl) ?_
  refine lv_iload_n hx hb dL_ordered_9 rfl (lv_at hl 1 rfl) ?_
  refine gp_V (ci := 8) (q0 := 0) (cq := (RX8, TX8, 11)) (c_X8_order l D cI cZ cF cL rx tt a tr r3 rs rz b b0 s0 r5 r6 T (T 0 0) hT (by have := hT.1.1; omega)) (gUV w_286 w_287 w_288 w_2 w_289) rfl hdV_X8_order ⟨Nat.le_of_ble_eq_true rfl, Nat.le_of_ble_eq_true rfl⟩ ⟨rfl, rfl⟩ hx hb hml hown hts hK hA hP hD hS hl.1 ⟨Nat.le_of_ble_eq_true rfl, Nat.le_of_ble_eq_true rfl⟩ rfl rfl rfl (wr := ([] : va_W)) (pm_cnt (fun _ => by simp only [List.countP_append, List.countP_nil, fT] <;> omega)) (fun _ => by simp only [List.map_append, List.map_nil, fX_m, bX_m, sX_m, pX_m, iaX_m, r5X_m, r6X_m, fT_m, hX_m, tX_m, xX_m, sgX_m, zaX_m, fsB_a]) (rest := []) rfl rfl (Nat.le_of_ble_eq_true rfl) dL_ordered_10 (ws2 := (fun _ : Unit => (xX rx tt a tr r3 rs rz b b0 s0 r5 r6 ++ fX cI a (T 0 0) (T 0 1) (T 0 2) (T 0 3) (T 0 4) (T 0 5) (T 1) (T 2) (T 3) (T 4) (T 5) (T 6) (T 7) (T 8)))) (fun _ => (pm_cnt (fun _ => by simp only [List.countP_append, List.countP_nil, fT] <;> omega))) (fun _ Hp locs hP hD hS => ?_)
  rw [show (ordF T (T 0 0) (T 0 0) 0) = ((-9)) from ord_out (Nat.le_refl _) _ 0 (by omega)]
  refine lv_bipush (v := ((-9))) hx hb dL_ordered_13 (by decide) ?_
  refine lv_icmp_ne (tgt := 22) hx hb dL_ordered_15 (by decide) (fun c_15 => absurd c_15 (by decide +kernel)) (fun _ => ?_)
  refine lv_iconst (v := (nI 1)) hx hb dL_ordered_18 (by decide) ?_
  refine lv_goto (tgt := 23) hx hb dL_ordered_19 (by decide) ?_
  refine lv_istore_n (lv' := [(3, .int (nI 1)), (2, .int (nI 0)), (1, .int (nI (T 0 0))), (0, .ref rx)]) hx hb dL_ordered_23 rfl hl (by decide) rfl (fun ls hl => ?_)
  refine lv_iconst (v := (nI 0)) hx hb dL_ordered_24 (by decide) ?_
  refine lv_istore (lv' := [(4, .int (nI 0)), (3, .int (nI 1)), (2, .int (nI 0)), (1, .int (nI (T 0 0))), (0, .ref rx)]) hx hb dL_ordered_25 hl (by decide) rfl (fun ls hl => ?_)
  have loop_27 : ∀ (dd : Nat) (se : Int32) (k : Nat), (k ≤ T 0 0) → (se = nI (bitN T k)) → (T 0 0 - k) < dd → ∀ (Hp : Heap) (locs : List Loc), va_P D vwCl (xX rx tt a tr r3 rs rz b b0 s0 r5 r6 ++ fX cI a (T 0 0) (T 0 1) (T 0 2) (T 0 3) (T 0 4) (T 0 5) (T 1) (T 2) (T 3) (T 4) (T 5) (T 6) (T 7) (T 8)) Hp → va_D A (xX rx tt a tr r3 rs rz b b0 s0 r5 r6 ++ fX cI a (T 0 0) (T 0 1) (T 0 2) (T 0 3) (T 0 4) (T 0 5) (T 1) (T 2) (T 3) (T 4) (T 5) (T 6) (T 7) (T 8)) → va_S A s.heap Hp locs → ∀ ls : Array Slot, lv_has ls 7 [(4, .int (nI k)), (3, .int (nI 1)), (2, .int se), (1, .int (nI (T 0 0))), (0, .ref rx)] → W p l e (rmF 4 91) s m args below meth c Hp locs 0 0 (MQ below (CQ D (some (.int (if True then 1 else 0))) (fun _ : Unit => (xX rx tt a tr r3 rs rz b b0 s0 r5 r6 ++ fX cI a (T 0 0) (T 0 1) (T 0 2) (T 0 3) (T 0 4) (T 0 5) (T 1) (T 2) (T 3) (T 4) (T 5) (T 6) (T 7) (T 8))) A) args s 0 0 A) (F0 m 27 ls []) := by
    intro dd
    induction dd with
    | zero => intro se k hk e1 hm; exact absurd hm (Nat.not_lt_zero _)
    | succ dd ih_27 =>
      intro se k hk e1 hm Hp locs hP hD hS ls hl
      subst e1
      refine lv_iload hx hb dL_ordered_27 (lv_at hl 0 rfl) ?_
      refine lv_iload_n hx hb dL_ordered_29 rfl (lv_at hl 3 rfl) ?_
      refine lv_icmp_ge (tgt := 125) hx hb dL_ordered_30 (by decide) (fun c_30 => ?_) (fun c_30 => ?_)
      · skip
        replace c_30 := cn_le (by have := hT.1.1; omega) (by have := hT.1.1; omega) c_30
        rw [show (nI (bitN T k)) = (nI (bitN T (T 0 0))) from congrArg nI (by rw [show k = T 0 0 by omega])] at hl
        refine lv_iload_n hx hb dL_ordered_125 rfl (lv_at hl 1 rfl) ?_
        refine lv_if_eq (tgt := 142) hx hb dL_ordered_126 (by decide) (fun c_126 => absurd c_126 (by decide +kernel)) (fun _ => ?_)
        refine lv_iload_n hx hb dL_ordered_129 rfl (lv_at hl 2 rfl) ?_
        refine lv_iconst (v := (nI 1)) hx hb dL_ordered_130 (by decide) ?_
        refine lv_iload_n hx hb dL_ordered_131 rfl (lv_at hl 3 rfl) ?_
        refine lv_ishl hx hb dL_ordered_132 ?_
        refine lv_iconst (v := (nI 1)) hx hb dL_ordered_133 (by decide) ?_
        refine lv_isub hx hb dL_ordered_134 ?_
        refine lv_icmp_ne (tgt := 142) hx hb dL_ordered_135 (by decide) (fun c_135 => ?_) (fun c_135 => ?_)
        · skip
          exact absurd (seen_e hT.1.1) c_135
        · skip
          refine lv_iconst (v := (nI 1)) hx hb dL_ordered_138 (by decide) ?_
          refine lv_goto (tgt := 143) hx hb dL_ordered_139 (by decide) ?_
          exact ct_z () hx hb hr hlocks hP hS (z_t trivial) dL_ordered_143
      · skip
        replace c_30 := cn_nle (by have := hT.1.1; omega) (by have := hT.1.1; omega) c_30
        refine lv_iload_n hx hb dL_ordered_33 rfl (lv_at hl 1 rfl) ?_
        refine lv_if_eq (tgt := 125) hx hb dL_ordered_34 (by decide) (fun c_34 => absurd c_34 (by decide +kernel)) (fun _ => ?_)
        refine lv_aload_n hx hb dL_ordered_37 rfl (lv_at hl 4 rfl) ?_
        refine lv_iload hx hb dL_ordered_38 (lv_at hl 0 rfl) ?_
        refine gp_V (ci := 8) (q0 := 0) (cq := (RX8, TX8, 11)) (c_X8_order l D cI cZ cF cL rx tt a tr r3 rs rz b b0 s0 r5 r6 T k hT (by have := hT.1.1; omega)) (gUV w_286 w_287 w_288 w_2 w_289) rfl hdV_X8_order ⟨Nat.le_of_ble_eq_true rfl, Nat.le_of_ble_eq_true rfl⟩ ⟨rfl, rfl⟩ hx hb hml hown hts hK hA hP hD hS hl.1 ⟨Nat.le_of_ble_eq_true rfl, Nat.le_of_ble_eq_true rfl⟩ rfl rfl rfl (wr := ([] : va_W)) (pm_cnt (fun _ => by simp only [List.countP_append, List.countP_nil, fT] <;> omega)) (fun _ => by simp only [List.map_append, List.map_nil, fX_m, bX_m, sX_m, pX_m, iaX_m, r5X_m, r6X_m, fT_m, hX_m, tX_m, xX_m, sgX_m, zaX_m, fsB_a]) (rest := []) rfl rfl (Nat.le_of_ble_eq_true rfl) dL_ordered_40 (ws2 := (fun _ : Unit => (xX rx tt a tr r3 rs rz b b0 s0 r5 r6 ++ fX cI a (T 0 0) (T 0 1) (T 0 2) (T 0 3) (T 0 4) (T 0 5) (T 1) (T 2) (T 3) (T 4) (T 5) (T 6) (T 7) (T 8)))) (fun _ => (pm_cnt (fun _ => by simp only [List.countP_append, List.countP_nil, fT] <;> omega))) (fun _ Hp locs hP hD hS => ?_)
        rw [show (ordF T k (T 0 0) 0) = (nI (oH T k)) from (ord_at T (by omega)).1]
        obtain ⟨-, o1, o2⟩ := ord_at T (p := k) (by omega)
        refine lv_istore (lv' := [(5, .int (nI (oH T k))), (4, .int (nI k)), (3, .int (nI 1)), (2, .int (nI (bitN T k))), (1, .int (nI (T 0 0))), (0, .ref rx)]) hx hb dL_ordered_43 hl (by decide) rfl (fun ls hl => ?_)
        refine lv_iload hx hb dL_ordered_45 (lv_at hl 1 rfl) ?_
        refine lv_if_le (tgt := 61) hx hb dL_ordered_47 (by decide) (fun c_47 => ?_) (fun c_47 => ?_)
        · skip
          replace c_47 := cn_le (b := 0) (by have := hT.1.1; omega) (by omega) c_47
          refine lv_iload hx hb dL_ordered_61 (lv_at hl 0 rfl) ?_
          obtain ⟨p1, p2, p3, p4, p5⟩ := ord_pr hT (k := k) (by omega) (by first | exact Or.inr ⟨c_47, rfl⟩ | exact Or.inl ⟨Nat.le_zero.mp c_47, rfl⟩)
          refine lv_istore (lv' := [(6, .int (nI (oH T k))), (5, .int (nI (oH T k))), (4, .int (nI k)), (3, .int (nI 1)), (2, .int (nI (bitN T k))), (1, .int (nI (T 0 0))), (0, .ref rx)]) hx hb dL_ordered_63 hl (by decide) rfl (fun ls hl => ?_)
          refine lv_iload_n hx hb dL_ordered_65 rfl (lv_at hl 4 rfl) ?_
          refine lv_iconst (v := (nI 1)) hx hb dL_ordered_66 (by decide) ?_
          refine lv_iload hx hb dL_ordered_67 (lv_at hl 1 rfl) ?_
          refine lv_ishl hx hb dL_ordered_69 ?_
          refine lv_ior hx hb dL_ordered_70 ?_
          refine lv_istore_n (lv' := [(2, .int ((nI (bitN T k)) ||| ((nI 1) <<< ((nI (oH T k)) &&& 31)))), (6, .int (nI (oH T k))), (5, .int (nI (oH T k))), (4, .int (nI k)), (3, .int (nI 1)), (1, .int (nI (T 0 0))), (0, .ref rx)]) hx hb dL_ordered_71 rfl hl (by decide) rfl (fun ls hl => ?_)
          refine lv_aload_n hx hb dL_ordered_72 rfl (lv_at hl 6 rfl) ?_
          refine lv_iload hx hb dL_ordered_73 (lv_at hl 1 rfl) ?_
          refine lv_iconst (v := (nI 5)) hx hb dL_ordered_75 (by decide) ?_
          refine gp_V (ci := 8) (q0 := 0) (cq := (RX8, TX8, 11)) (c_X8_house l D cI cZ cF cL rx tt a tr r3 rs rz b b0 s0 r5 r6 T (oH T k) 5 hT p1 (by omega)) (gUV w_390 w_391 w_392 w_2 w_393) rfl hdV_X8_house ⟨Nat.le_of_ble_eq_true rfl, Nat.le_of_ble_eq_true rfl⟩ ⟨rfl, rfl⟩ hx hb hml hown hts hK hA hP hD hS hl.1 ⟨Nat.le_of_ble_eq_true rfl, Nat.le_of_ble_eq_true rfl⟩ rfl rfl rfl (wr := ([] : va_W)) (pm_cnt (fun _ => by simp only [List.countP_append, List.countP_nil, fT] <;> omega)) (fun _ => by simp only [List.map_append, List.map_nil, fX_m, bX_m, sX_m, pX_m, iaX_m, r5X_m, r6X_m, fT_m, hX_m, tX_m, xX_m, sgX_m, zaX_m, fsB_a]) (rest := []) rfl rfl (Nat.le_of_ble_eq_true rfl) dL_ordered_76 (ws2 := (fun _ : Unit => (xX rx tt a tr r3 rs rz b b0 s0 r5 r6 ++ fX cI a (T 0 0) (T 0 1) (T 0 2) (T 0 3) (T 0 4) (T 0 5) (T 1) (T 2) (T 3) (T 4) (T 5) (T 6) (T 7) (T 8)))) (fun _ => (pm_cnt (fun _ => by simp only [List.countP_append, List.countP_nil, fT] <;> omega))) (fun _ Hp locs hP hD hS => ?_)
          refine lv_aload_n hx hb dL_ordered_79 rfl (lv_at hl 6 rfl) ?_
          refine lv_iload hx hb dL_ordered_80 (lv_at hl 2 rfl) ?_
          refine lv_iconst (v := (nI 5)) hx hb dL_ordered_82 (by decide) ?_
          refine gp_V (ci := 8) (q0 := 0) (cq := (RX8, TX8, 11)) (c_X8_house l D cI cZ cF cL rx tt a tr r3 rs rz b b0 s0 r5 r6 T (oH T k) 5 hT p2 (by omega)) (gUV w_390 w_391 w_392 w_2 w_393) rfl hdV_X8_house ⟨Nat.le_of_ble_eq_true rfl, Nat.le_of_ble_eq_true rfl⟩ ⟨rfl, rfl⟩ hx hb hml hown hts hK hA hP hD hS hl.1 ⟨Nat.le_of_ble_eq_true rfl, Nat.le_of_ble_eq_true rfl⟩ rfl rfl rfl (wr := ([] : va_W)) (pm_cnt (fun _ => by simp only [List.countP_append, List.countP_nil, fT] <;> omega)) (fun _ => by simp only [List.map_append, List.map_nil, fX_m, bX_m, sX_m, pX_m, iaX_m, r5X_m, r6X_m, fT_m, hX_m, tX_m, xX_m, sgX_m, zaX_m, fsB_a]) (rest := [.int (nI (hoV T (oH T k) 5))]) rfl rfl (Nat.le_of_ble_eq_true rfl) dL_ordered_83 (ws2 := (fun _ : Unit => (xX rx tt a tr r3 rs rz b b0 s0 r5 r6 ++ fX cI a (T 0 0) (T 0 1) (T 0 2) (T 0 3) (T 0 4) (T 0 5) (T 1) (T 2) (T 3) (T 4) (T 5) (T 6) (T 7) (T 8)))) (fun _ => (pm_cnt (fun _ => by simp only [List.countP_append, List.countP_nil, fT] <;> omega))) (fun _ Hp locs hP hD hS => ?_)
          refine lv_icmp_gt (tgt := 113) hx hb dL_ordered_86 (by decide) (fun c_86 => ?_) (fun c_86 => ?_)
          · skip
            replace c_86 := cn_lt p4 p3 c_86
            refine lv_iconst (v := (nI 1)) hx hb dL_ordered_113 (by decide) ?_
            refine lv_goto (tgt := 118) hx hb dL_ordered_114 (by decide) ?_
            refine lv_istore_n (lv' := [(3, .int (nI 1)), (2, .int ((nI (bitN T k)) ||| ((nI 1) <<< ((nI (oH T k)) &&& 31)))), (6, .int (nI (oH T k))), (5, .int (nI (oH T k))), (4, .int (nI k)), (1, .int (nI (T 0 0))), (0, .ref rx)]) hx hb dL_ordered_118 rfl hl (by decide) rfl (fun ls hl => ?_)
            refine lv_iinc (v := (nI (k + 1))) (lv' := [(4, .int (nI (k + 1))), (3, .int (nI 1)), (2, .int ((nI (bitN T k)) ||| ((nI 1) <<< ((nI (oH T k)) &&& 31)))), (6, .int (nI (oH T k))), (5, .int (nI (oH T k))), (1, .int (nI (T 0 0))), (0, .ref rx)]) hx hb dL_ordered_119 hl (k := 4) rfl (nI_add k 1) (by decide) rfl (fun ls hl => ?_)
            refine lv_goto (tgt := 27) hx hb dL_ordered_122 (by decide) ?_
            exact ih_27 (((nI (bitN T k)) ||| ((nI 1) <<< ((nI (oH T k)) &&& 31)))) (k + 1) (by omega) (seen_s hT.1.1 (by omega)) (by omega) _ _ hP hD hS _ (lv_sub hl [0, 1, 2, 5, 6] rfl)
          · skip
            replace c_86 := cn_nlt p4 p3 c_86
            refine lv_aload_n hx hb dL_ordered_89 rfl (lv_at hl 6 rfl) ?_
            refine lv_iload hx hb dL_ordered_90 (lv_at hl 1 rfl) ?_
            refine lv_iconst (v := (nI 5)) hx hb dL_ordered_92 (by decide) ?_
            refine gp_V (ci := 8) (q0 := 0) (cq := (RX8, TX8, 11)) (c_X8_house l D cI cZ cF cL rx tt a tr r3 rs rz b b0 s0 r5 r6 T (oH T k) 5 hT p1 (by omega)) (gUV w_390 w_391 w_392 w_2 w_393) rfl hdV_X8_house ⟨Nat.le_of_ble_eq_true rfl, Nat.le_of_ble_eq_true rfl⟩ ⟨rfl, rfl⟩ hx hb hml hown hts hK hA hP hD hS hl.1 ⟨Nat.le_of_ble_eq_true rfl, Nat.le_of_ble_eq_true rfl⟩ rfl rfl rfl (wr := ([] : va_W)) (pm_cnt (fun _ => by simp only [List.countP_append, List.countP_nil, fT] <;> omega)) (fun _ => by simp only [List.map_append, List.map_nil, fX_m, bX_m, sX_m, pX_m, iaX_m, r5X_m, r6X_m, fT_m, hX_m, tX_m, xX_m, sgX_m, zaX_m, fsB_a]) (rest := []) rfl rfl (Nat.le_of_ble_eq_true rfl) dL_ordered_93 (ws2 := (fun _ : Unit => (xX rx tt a tr r3 rs rz b b0 s0 r5 r6 ++ fX cI a (T 0 0) (T 0 1) (T 0 2) (T 0 3) (T 0 4) (T 0 5) (T 1) (T 2) (T 3) (T 4) (T 5) (T 6) (T 7) (T 8)))) (fun _ => (pm_cnt (fun _ => by simp only [List.countP_append, List.countP_nil, fT] <;> omega))) (fun _ Hp locs hP hD hS => ?_)
            refine lv_aload_n hx hb dL_ordered_96 rfl (lv_at hl 6 rfl) ?_
            refine lv_iload hx hb dL_ordered_97 (lv_at hl 2 rfl) ?_
            refine lv_iconst (v := (nI 5)) hx hb dL_ordered_99 (by decide) ?_
            refine gp_V (ci := 8) (q0 := 0) (cq := (RX8, TX8, 11)) (c_X8_house l D cI cZ cF cL rx tt a tr r3 rs rz b b0 s0 r5 r6 T (oH T k) 5 hT p2 (by omega)) (gUV w_390 w_391 w_392 w_2 w_393) rfl hdV_X8_house ⟨Nat.le_of_ble_eq_true rfl, Nat.le_of_ble_eq_true rfl⟩ ⟨rfl, rfl⟩ hx hb hml hown hts hK hA hP hD hS hl.1 ⟨Nat.le_of_ble_eq_true rfl, Nat.le_of_ble_eq_true rfl⟩ rfl rfl rfl (wr := ([] : va_W)) (pm_cnt (fun _ => by simp only [List.countP_append, List.countP_nil, fT] <;> omega)) (fun _ => by simp only [List.map_append, List.map_nil, fX_m, bX_m, sX_m, pX_m, iaX_m, r5X_m, r6X_m, fT_m, hX_m, tX_m, xX_m, sgX_m, zaX_m, fsB_a]) (rest := [.int (nI (hoV T (oH T k) 5))]) rfl rfl (Nat.le_of_ble_eq_true rfl) dL_ordered_100 (ws2 := (fun _ : Unit => (xX rx tt a tr r3 rs rz b b0 s0 r5 r6 ++ fX cI a (T 0 0) (T 0 1) (T 0 2) (T 0 3) (T 0 4) (T 0 5) (T 1) (T 2) (T 3) (T 4) (T 5) (T 6) (T 7) (T 8)))) (fun _ => (pm_cnt (fun _ => by simp only [List.countP_append, List.countP_nil, fT] <;> omega))) (fun _ Hp locs hP hD hS => ?_)
            refine lv_icmp_ne (tgt := 117) hx hb dL_ordered_103 (by decide) (fun c_103 => ?_) (fun c_103 => ?_)
            · skip
              replace c_103 := cn_ne c_103
              (exfalso; omega)
            · skip
              replace c_103 := cn_eq p3 p4 c_103
              refine lv_iload hx hb dL_ordered_106 (lv_at hl 1 rfl) ?_
              refine lv_iload hx hb dL_ordered_108 (lv_at hl 2 rfl) ?_
              refine lv_icmp_gt (tgt := 117) hx hb dL_ordered_110 (by decide) (fun c_110 => ?_) (fun c_110 => ?_)
              · skip
                replace c_110 := cn_lt (by have := hT.1.1; omega) (by have := hT.1.1; omega) c_110
                (exfalso; omega)
              · skip
                replace c_110 := cn_nlt (by have := hT.1.1; omega) (by have := hT.1.1; omega) c_110
                refine lv_iconst (v := (nI 1)) hx hb dL_ordered_113 (by decide) ?_
                refine lv_goto (tgt := 118) hx hb dL_ordered_114 (by decide) ?_
                refine lv_istore_n (lv' := [(3, .int (nI 1)), (2, .int ((nI (bitN T k)) ||| ((nI 1) <<< ((nI (oH T k)) &&& 31)))), (6, .int (nI (oH T k))), (5, .int (nI (oH T k))), (4, .int (nI k)), (1, .int (nI (T 0 0))), (0, .ref rx)]) hx hb dL_ordered_118 rfl hl (by decide) rfl (fun ls hl => ?_)
                refine lv_iinc (v := (nI (k + 1))) (lv' := [(4, .int (nI (k + 1))), (3, .int (nI 1)), (2, .int ((nI (bitN T k)) ||| ((nI 1) <<< ((nI (oH T k)) &&& 31)))), (6, .int (nI (oH T k))), (5, .int (nI (oH T k))), (1, .int (nI (T 0 0))), (0, .ref rx)]) hx hb dL_ordered_119 hl (k := 4) rfl (nI_add k 1) (by decide) rfl (fun ls hl => ?_)
                refine lv_goto (tgt := 27) hx hb dL_ordered_122 (by decide) ?_
                exact ih_27 (((nI (bitN T k)) ||| ((nI 1) <<< ((nI (oH T k)) &&& 31)))) (k + 1) (by omega) (seen_s hT.1.1 (by omega)) (by omega) _ _ hP hD hS _ (lv_sub hl [0, 1, 2, 5, 6] rfl)
        · skip
          replace c_47 := cn_nle (b := 0) (by have := hT.1.1; omega) (by omega) c_47
          refine lv_aload_n hx hb dL_ordered_50 rfl (lv_at hl 5 rfl) ?_
          refine lv_iload hx hb dL_ordered_51 (lv_at hl 1 rfl) ?_
          refine lv_iconst (v := (nI 1)) hx hb dL_ordered_53 (by decide) ?_
          refine lv_isub hx hb dL_ordered_54 ?_
          rw [pk_sub (a := k) (b := 1) (by omega)]
          refine gp_V (ci := 8) (q0 := 0) (cq := (RX8, TX8, 11)) (c_X8_order l D cI cZ cF cL rx tt a tr r3 rs rz b b0 s0 r5 r6 T (k - 1) hT (by have := hT.1.1; omega)) (gUV w_286 w_287 w_288 w_2 w_289) rfl hdV_X8_order ⟨Nat.le_of_ble_eq_true rfl, Nat.le_of_ble_eq_true rfl⟩ ⟨rfl, rfl⟩ hx hb hml hown hts hK hA hP hD hS hl.1 ⟨Nat.le_of_ble_eq_true rfl, Nat.le_of_ble_eq_true rfl⟩ rfl rfl rfl (wr := ([] : va_W)) (pm_cnt (fun _ => by simp only [List.countP_append, List.countP_nil, fT] <;> omega)) (fun _ => by simp only [List.map_append, List.map_nil, fX_m, bX_m, sX_m, pX_m, iaX_m, r5X_m, r6X_m, fT_m, hX_m, tX_m, xX_m, sgX_m, zaX_m, fsB_a]) (rest := []) rfl rfl (Nat.le_of_ble_eq_true rfl) dL_ordered_55 (ws2 := (fun _ : Unit => (xX rx tt a tr r3 rs rz b b0 s0 r5 r6 ++ fX cI a (T 0 0) (T 0 1) (T 0 2) (T 0 3) (T 0 4) (T 0 5) (T 1) (T 2) (T 3) (T 4) (T 5) (T 6) (T 7) (T 8)))) (fun _ => (pm_cnt (fun _ => by simp only [List.countP_append, List.countP_nil, fT] <;> omega))) (fun _ Hp locs hP hD hS => ?_)
          rw [show (ordF T (k - 1) (T 0 0) 0) = (nI (oH T (k - 1))) from (ord_at T (by omega)).1]
          refine lv_goto (tgt := 63) hx hb dL_ordered_58 (by decide) ?_
          obtain ⟨p1, p2, p3, p4, p5⟩ := ord_pr hT (k := k) (by omega) (by first | exact Or.inr ⟨c_47, rfl⟩ | exact Or.inl ⟨Nat.le_zero.mp c_47, rfl⟩)
          refine lv_istore (lv' := [(6, .int (nI (oH T (k - 1)))), (5, .int (nI (oH T k))), (4, .int (nI k)), (3, .int (nI 1)), (2, .int (nI (bitN T k))), (1, .int (nI (T 0 0))), (0, .ref rx)]) hx hb dL_ordered_63 hl (by decide) rfl (fun ls hl => ?_)
          refine lv_iload_n hx hb dL_ordered_65 rfl (lv_at hl 4 rfl) ?_
          refine lv_iconst (v := (nI 1)) hx hb dL_ordered_66 (by decide) ?_
          refine lv_iload hx hb dL_ordered_67 (lv_at hl 1 rfl) ?_
          refine lv_ishl hx hb dL_ordered_69 ?_
          refine lv_ior hx hb dL_ordered_70 ?_
          refine lv_istore_n (lv' := [(2, .int ((nI (bitN T k)) ||| ((nI 1) <<< ((nI (oH T k)) &&& 31)))), (6, .int (nI (oH T (k - 1)))), (5, .int (nI (oH T k))), (4, .int (nI k)), (3, .int (nI 1)), (1, .int (nI (T 0 0))), (0, .ref rx)]) hx hb dL_ordered_71 rfl hl (by decide) rfl (fun ls hl => ?_)
          refine lv_aload_n hx hb dL_ordered_72 rfl (lv_at hl 6 rfl) ?_
          refine lv_iload hx hb dL_ordered_73 (lv_at hl 1 rfl) ?_
          refine lv_iconst (v := (nI 5)) hx hb dL_ordered_75 (by decide) ?_
          refine gp_V (ci := 8) (q0 := 0) (cq := (RX8, TX8, 11)) (c_X8_house l D cI cZ cF cL rx tt a tr r3 rs rz b b0 s0 r5 r6 T (oH T (k - 1)) 5 hT p1 (by omega)) (gUV w_390 w_391 w_392 w_2 w_393) rfl hdV_X8_house ⟨Nat.le_of_ble_eq_true rfl, Nat.le_of_ble_eq_true rfl⟩ ⟨rfl, rfl⟩ hx hb hml hown hts hK hA hP hD hS hl.1 ⟨Nat.le_of_ble_eq_true rfl, Nat.le_of_ble_eq_true rfl⟩ rfl rfl rfl (wr := ([] : va_W)) (pm_cnt (fun _ => by simp only [List.countP_append, List.countP_nil, fT] <;> omega)) (fun _ => by simp only [List.map_append, List.map_nil, fX_m, bX_m, sX_m, pX_m, iaX_m, r5X_m, r6X_m, fT_m, hX_m, tX_m, xX_m, sgX_m, zaX_m, fsB_a]) (rest := []) rfl rfl (Nat.le_of_ble_eq_true rfl) dL_ordered_76 (ws2 := (fun _ : Unit => (xX rx tt a tr r3 rs rz b b0 s0 r5 r6 ++ fX cI a (T 0 0) (T 0 1) (T 0 2) (T 0 3) (T 0 4) (T 0 5) (T 1) (T 2) (T 3) (T 4) (T 5) (T 6) (T 7) (T 8)))) (fun _ => (pm_cnt (fun _ => by simp only [List.countP_append, List.countP_nil, fT] <;> omega))) (fun _ Hp locs hP hD hS => ?_)
          refine lv_aload_n hx hb dL_ordered_79 rfl (lv_at hl 6 rfl) ?_
          refine lv_iload hx hb dL_ordered_80 (lv_at hl 2 rfl) ?_
          refine lv_iconst (v := (nI 5)) hx hb dL_ordered_82 (by decide) ?_
          refine gp_V (ci := 8) (q0 := 0) (cq := (RX8, TX8, 11)) (c_X8_house l D cI cZ cF cL rx tt a tr r3 rs rz b b0 s0 r5 r6 T (oH T k) 5 hT p2 (by omega)) (gUV w_390 w_391 w_392 w_2 w_393) rfl hdV_X8_house ⟨Nat.le_of_ble_eq_true rfl, Nat.le_of_ble_eq_true rfl⟩ ⟨rfl, rfl⟩ hx hb hml hown hts hK hA hP hD hS hl.1 ⟨Nat.le_of_ble_eq_true rfl, Nat.le_of_ble_eq_true rfl⟩ rfl rfl rfl (wr := ([] : va_W)) (pm_cnt (fun _ => by simp only [List.countP_append, List.countP_nil, fT] <;> omega)) (fun _ => by simp only [List.map_append, List.map_nil, fX_m, bX_m, sX_m, pX_m, iaX_m, r5X_m, r6X_m, fT_m, hX_m, tX_m, xX_m, sgX_m, zaX_m, fsB_a]) (rest := [.int (nI (hoV T (oH T (k - 1)) 5))]) rfl rfl (Nat.le_of_ble_eq_true rfl) dL_ordered_83 (ws2 := (fun _ : Unit => (xX rx tt a tr r3 rs rz b b0 s0 r5 r6 ++ fX cI a (T 0 0) (T 0 1) (T 0 2) (T 0 3) (T 0 4) (T 0 5) (T 1) (T 2) (T 3) (T 4) (T 5) (T 6) (T 7) (T 8)))) (fun _ => (pm_cnt (fun _ => by simp only [List.countP_append, List.countP_nil, fT] <;> omega))) (fun _ Hp locs hP hD hS => ?_)
          refine lv_icmp_gt (tgt := 113) hx hb dL_ordered_86 (by decide) (fun c_86 => ?_) (fun c_86 => ?_)
          · skip
            replace c_86 := cn_lt p4 p3 c_86
            refine lv_iconst (v := (nI 1)) hx hb dL_ordered_113 (by decide) ?_
            refine lv_goto (tgt := 118) hx hb dL_ordered_114 (by decide) ?_
            refine lv_istore_n (lv' := [(3, .int (nI 1)), (2, .int ((nI (bitN T k)) ||| ((nI 1) <<< ((nI (oH T k)) &&& 31)))), (6, .int (nI (oH T (k - 1)))), (5, .int (nI (oH T k))), (4, .int (nI k)), (1, .int (nI (T 0 0))), (0, .ref rx)]) hx hb dL_ordered_118 rfl hl (by decide) rfl (fun ls hl => ?_)
            refine lv_iinc (v := (nI (k + 1))) (lv' := [(4, .int (nI (k + 1))), (3, .int (nI 1)), (2, .int ((nI (bitN T k)) ||| ((nI 1) <<< ((nI (oH T k)) &&& 31)))), (6, .int (nI (oH T (k - 1)))), (5, .int (nI (oH T k))), (1, .int (nI (T 0 0))), (0, .ref rx)]) hx hb dL_ordered_119 hl (k := 4) rfl (nI_add k 1) (by decide) rfl (fun ls hl => ?_)
            refine lv_goto (tgt := 27) hx hb dL_ordered_122 (by decide) ?_
            exact ih_27 (((nI (bitN T k)) ||| ((nI 1) <<< ((nI (oH T k)) &&& 31)))) (k + 1) (by omega) (seen_s hT.1.1 (by omega)) (by omega) _ _ hP hD hS _ (lv_sub hl [0, 1, 2, 5, 6] rfl)
          · skip
            replace c_86 := cn_nlt p4 p3 c_86
            refine lv_aload_n hx hb dL_ordered_89 rfl (lv_at hl 6 rfl) ?_
            refine lv_iload hx hb dL_ordered_90 (lv_at hl 1 rfl) ?_
            refine lv_iconst (v := (nI 5)) hx hb dL_ordered_92 (by decide) ?_
            refine gp_V (ci := 8) (q0 := 0) (cq := (RX8, TX8, 11)) (c_X8_house l D cI cZ cF cL rx tt a tr r3 rs rz b b0 s0 r5 r6 T (oH T (k - 1)) 5 hT p1 (by omega)) (gUV w_390 w_391 w_392 w_2 w_393) rfl hdV_X8_house ⟨Nat.le_of_ble_eq_true rfl, Nat.le_of_ble_eq_true rfl⟩ ⟨rfl, rfl⟩ hx hb hml hown hts hK hA hP hD hS hl.1 ⟨Nat.le_of_ble_eq_true rfl, Nat.le_of_ble_eq_true rfl⟩ rfl rfl rfl (wr := ([] : va_W)) (pm_cnt (fun _ => by simp only [List.countP_append, List.countP_nil, fT] <;> omega)) (fun _ => by simp only [List.map_append, List.map_nil, fX_m, bX_m, sX_m, pX_m, iaX_m, r5X_m, r6X_m, fT_m, hX_m, tX_m, xX_m, sgX_m, zaX_m, fsB_a]) (rest := []) rfl rfl (Nat.le_of_ble_eq_true rfl) dL_ordered_93 (ws2 := (fun _ : Unit => (xX rx tt a tr r3 rs rz b b0 s0 r5 r6 ++ fX cI a (T 0 0) (T 0 1) (T 0 2) (T 0 3) (T 0 4) (T 0 5) (T 1) (T 2) (T 3) (T 4) (T 5) (T 6) (T 7) (T 8)))) (fun _ => (pm_cnt (fun _ => by simp only [List.countP_append, List.countP_nil, fT] <;> omega))) (fun _ Hp locs hP hD hS => ?_)
            refine lv_aload_n hx hb dL_ordered_96 rfl (lv_at hl 6 rfl) ?_
            refine lv_iload hx hb dL_ordered_97 (lv_at hl 2 rfl) ?_
            refine lv_iconst (v := (nI 5)) hx hb dL_ordered_99 (by decide) ?_
            refine gp_V (ci := 8) (q0 := 0) (cq := (RX8, TX8, 11)) (c_X8_house l D cI cZ cF cL rx tt a tr r3 rs rz b b0 s0 r5 r6 T (oH T k) 5 hT p2 (by omega)) (gUV w_390 w_391 w_392 w_2 w_393) rfl hdV_X8_house ⟨Nat.le_of_ble_eq_true rfl, Nat.le_of_ble_eq_true rfl⟩ ⟨rfl, rfl⟩ hx hb hml hown hts hK hA hP hD hS hl.1 ⟨Nat.le_of_ble_eq_true rfl, Nat.le_of_ble_eq_true rfl⟩ rfl rfl rfl (wr := ([] : va_W)) (pm_cnt (fun _ => by simp only [List.countP_append, List.countP_nil, fT] <;> omega)) (fun _ => by simp only [List.map_append, List.map_nil, fX_m, bX_m, sX_m, pX_m, iaX_m, r5X_m, r6X_m, fT_m, hX_m, tX_m, xX_m, sgX_m, zaX_m, fsB_a]) (rest := [.int (nI (hoV T (oH T (k - 1)) 5))]) rfl rfl (Nat.le_of_ble_eq_true rfl) dL_ordered_100 (ws2 := (fun _ : Unit => (xX rx tt a tr r3 rs rz b b0 s0 r5 r6 ++ fX cI a (T 0 0) (T 0 1) (T 0 2) (T 0 3) (T 0 4) (T 0 5) (T 1) (T 2) (T 3) (T 4) (T 5) (T 6) (T 7) (T 8)))) (fun _ => (pm_cnt (fun _ => by simp only [List.countP_append, List.countP_nil, fT] <;> omega))) (fun _ Hp locs hP hD hS => ?_)
            refine lv_icmp_ne (tgt := 117) hx hb dL_ordered_103 (by decide) (fun c_103 => ?_) (fun c_103 => ?_)
            · skip
              replace c_103 := cn_ne c_103
              (exfalso; omega)
            · skip
              replace c_103 := cn_eq p3 p4 c_103
              refine lv_iload hx hb dL_ordered_106 (lv_at hl 1 rfl) ?_
              refine lv_iload hx hb dL_ordered_108 (lv_at hl 2 rfl) ?_
              refine lv_icmp_gt (tgt := 117) hx hb dL_ordered_110 (by decide) (fun c_110 => ?_) (fun c_110 => ?_)
              · skip
                replace c_110 := cn_lt (by have := hT.1.1; omega) (by have := hT.1.1; omega) c_110
                (exfalso; omega)
              · skip
                replace c_110 := cn_nlt (by have := hT.1.1; omega) (by have := hT.1.1; omega) c_110
                refine lv_iconst (v := (nI 1)) hx hb dL_ordered_113 (by decide) ?_
                refine lv_goto (tgt := 118) hx hb dL_ordered_114 (by decide) ?_
                refine lv_istore_n (lv' := [(3, .int (nI 1)), (2, .int ((nI (bitN T k)) ||| ((nI 1) <<< ((nI (oH T k)) &&& 31)))), (6, .int (nI (oH T (k - 1)))), (5, .int (nI (oH T k))), (4, .int (nI k)), (1, .int (nI (T 0 0))), (0, .ref rx)]) hx hb dL_ordered_118 rfl hl (by decide) rfl (fun ls hl => ?_)
                refine lv_iinc (v := (nI (k + 1))) (lv' := [(4, .int (nI (k + 1))), (3, .int (nI 1)), (2, .int ((nI (bitN T k)) ||| ((nI 1) <<< ((nI (oH T k)) &&& 31)))), (6, .int (nI (oH T (k - 1)))), (5, .int (nI (oH T k))), (1, .int (nI (T 0 0))), (0, .ref rx)]) hx hb dL_ordered_119 hl (k := 4) rfl (nI_add k 1) (by decide) rfl (fun ls hl => ?_)
                refine lv_goto (tgt := 27) hx hb dL_ordered_122 (by decide) ?_
                exact ih_27 (((nI (bitN T k)) ||| ((nI 1) <<< ((nI (oH T k)) &&& 31)))) (k + 1) (by omega) (seen_s hT.1.1 (by omega)) (by omega) _ _ hP hD hS _ (lv_sub hl [0, 1, 2, 5, 6] rfl)
  exact loop_27 ((T 0 0 - 0) + 1) ((nI 0)) 0 (Nat.zero_le _) rfl (Nat.lt_succ_self _) _ _ hP hD hS _ (lv_sub hl [0, 1, 2, 3, 4] rfl)
