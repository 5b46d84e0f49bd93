set_option maxRecDepth 20000 in
theorem u_576 : Cond.fieldLink RX4 32 "HarvestBoxes$Farm" "eaten" "I" ∈ wsL_law := List.mem_of_getElem? (i := 149) (by decide +kernel)
set_option maxRecDepth 20000 in
theorem u_325 : Cond.code yX1_kilosInBoxes cX1_kilosInBoxes 3 (some .int) ∈ wsL_law := List.mem_of_getElem? (i := 156) (by decide +kernel)
set_option maxRecDepth 20000 in
theorem u_580 : Cond.methodLink RX4 38 yX1_kilosInBoxes ∈ wsL_law := List.mem_of_getElem? (i := 153) (by decide +kernel)
set_option maxRecDepth 20000 in
theorem u_323 : Cond.instanceMethod yX1_kilosInBoxes ∈ wsL_law := List.mem_of_getElem? (i := 154) (by decide +kernel)
set_option maxRecDepth 20000 in
theorem u_324 : Cond.selects RX1 yX1_kilosInBoxes yX1_kilosInBoxes ∈ wsL_law := List.mem_of_getElem? (i := 155) (by decide +kernel)
set_option maxRecDepth 20000 in
theorem u_585 : Cond.code yX4_tellParts cX4_tellParts 4 (some .int) ∈ wsL_law := List.mem_of_getElem? (i := 167) (by decide +kernel)
set_option maxRecDepth 20000 in
theorem u_582 : Cond.methodLink RX4 51 yX4_tellParts ∈ wsL_law := List.mem_of_getElem? (i := 164) (by decide +kernel)
set_option maxRecDepth 20000 in
theorem u_583 : Cond.instanceMethod yX4_tellParts ∈ wsL_law := List.mem_of_getElem? (i := 165) (by decide +kernel)
set_option maxRecDepth 20000 in
theorem u_584 : Cond.selects RX4 yX4_tellParts yX4_tellParts ∈ wsL_law := List.mem_of_getElem? (i := 166) (by decide +kernel)
set_option maxRecDepth 20000 in
theorem u_578 : Cond.fieldLink RX4 55 "HarvestBoxes$Farm" "vegetables" "I" ∈ wsL_law := List.mem_of_getElem? (i := 151) (by decide +kernel)
set_option maxRecDepth 20000 in
theorem u_611 : Cond.code yX4_makeSwaps cX4_makeSwaps 3 (some .int) ∈ wsL_law := List.mem_of_getElem? (i := 207) (by decide +kernel)
set_option maxRecDepth 20000 in
theorem u_608 : Cond.methodLink RX4 66 yX4_makeSwaps ∈ wsL_law := List.mem_of_getElem? (i := 204) (by decide +kernel)
set_option maxRecDepth 20000 in
theorem u_609 : Cond.instanceMethod yX4_makeSwaps ∈ wsL_law := List.mem_of_getElem? (i := 205) (by decide +kernel)
set_option maxRecDepth 20000 in
theorem u_610 : Cond.selects RX4 yX4_makeSwaps yX4_makeSwaps ∈ wsL_law := List.mem_of_getElem? (i := 206) (by decide +kernel)
set_option maxRecDepth 20000 in
theorem u_579 : Cond.fieldLink RX4 69 "HarvestBoxes$Farm" "swaps" "I" ∈ wsL_law := List.mem_of_getElem? (i := 152) (by decide +kernel)
set_option maxRecDepth 20000 in
theorem u_637 : Cond.code yX4_closeWeek cX4_closeWeek 3 none ∈ wsL_law := List.mem_of_getElem? (i := 233) (by decide +kernel)
set_option maxRecDepth 20000 in
theorem u_634 : Cond.methodLink RX4 72 yX4_closeWeek ∈ wsL_law := List.mem_of_getElem? (i := 230) (by decide +kernel)
set_option maxRecDepth 20000 in
theorem u_635 : Cond.instanceMethod yX4_closeWeek ∈ wsL_law := List.mem_of_getElem? (i := 231) (by decide +kernel)
set_option maxRecDepth 20000 in
theorem u_636 : Cond.selects RX4 yX4_closeWeek yX4_closeWeek ∈ wsL_law := List.mem_of_getElem? (i := 232) (by decide +kernel)
set_option maxRecDepth 20000 in
theorem u_593 : Cond.code yX4_dealShares cX4_dealShares 7 (some .int) ∈ wsL_law := List.mem_of_getElem? (i := 178) (by decide +kernel)
set_option maxRecDepth 20000 in
theorem u_590 : Cond.methodLink RX4 58 yX4_dealShares ∈ wsL_law := List.mem_of_getElem? (i := 175) (by decide +kernel)
set_option maxRecDepth 20000 in
theorem u_591 : Cond.instanceMethod yX4_dealShares ∈ wsL_law := List.mem_of_getElem? (i := 176) (by decide +kernel)
set_option maxRecDepth 20000 in
theorem u_592 : Cond.selects RX4 yX4_dealShares yX4_dealShares ∈ wsL_law := List.mem_of_getElem? (i := 177) (by decide +kernel)
set_option maxRecDepth 20000 in
theorem u_598 : Cond.code yX4_giveGlut cX4_giveGlut 6 none ∈ wsL_law := List.mem_of_getElem? (i := 183) (by decide +kernel)
set_option maxRecDepth 20000 in
theorem u_595 : Cond.methodLink RX4 62 yX4_giveGlut ∈ wsL_law := List.mem_of_getElem? (i := 180) (by decide +kernel)
set_option maxRecDepth 20000 in
theorem u_596 : Cond.instanceMethod yX4_giveGlut ∈ wsL_law := List.mem_of_getElem? (i := 181) (by decide +kernel)
set_option maxRecDepth 20000 in
theorem u_597 : Cond.selects RX4 yX4_giveGlut yX4_giveGlut ∈ wsL_law := List.mem_of_getElem? (i := 182) (by decide +kernel)
theorem hdV_X1_kilosInBoxes : yX1_kilosInBoxes.cls = RX1 ∧ yX1_kilosInBoxes.cls ≠ "java/lang/invoke/MethodHandle" ∧ yX1_kilosInBoxes.cls ≠ "java/lang/invoke/VarHandle" ∧ (parseMethodDescriptor yX1_kilosInBoxes.desc).map (fun d => d.parameters.length) = some 0 := by decide +kernel
theorem hdV_X4_tellParts : yX4_tellParts.cls = RX4 ∧ yX4_tellParts.cls ≠ "java/lang/invoke/MethodHandle" ∧ yX4_tellParts.cls ≠ "java/lang/invoke/VarHandle" ∧ (parseMethodDescriptor yX4_tellParts.desc).map (fun d => d.parameters.length) = some 1 := by decide +kernel
theorem hdV_X4_makeSwaps : yX4_makeSwaps.cls = RX4 ∧ yX4_makeSwaps.cls ≠ "java/lang/invoke/MethodHandle" ∧ yX4_makeSwaps.cls ≠ "java/lang/invoke/VarHandle" ∧ (parseMethodDescriptor yX4_makeSwaps.desc).map (fun d => d.parameters.length) = some 1 := by decide +kernel
theorem hdV_X4_closeWeek : yX4_closeWeek.cls = RX4 ∧ yX4_closeWeek.cls ≠ "java/lang/invoke/MethodHandle" ∧ yX4_closeWeek.cls ≠ "java/lang/invoke/VarHandle" ∧ (parseMethodDescriptor yX4_closeWeek.desc).map (fun d => d.parameters.length) = some 1 := by decide +kernel
theorem hdV_X4_dealShares : yX4_dealShares.cls = RX4 ∧ yX4_dealShares.cls ≠ "java/lang/invoke/MethodHandle" ∧ yX4_dealShares.cls ≠ "java/lang/invoke/VarHandle" ∧ (parseMethodDescriptor yX4_dealShares.desc).map (fun d => d.parameters.length) = some 3 := by decide +kernel
theorem hdV_X4_giveGlut : yX4_giveGlut.cls = RX4 ∧ yX4_giveGlut.cls ≠ "java/lang/invoke/MethodHandle" ∧ yX4_giveGlut.cls ≠ "java/lang/invoke/VarHandle" ∧ (parseMethodDescriptor yX4_giveGlut.desc).map (fun d => d.parameters.length) = some 3 := by decide +kernel
set_option maxHeartbeats 4000000 in
set_option maxRecDepth 100000 in
theorem c_X4_packWeek (l : Launch) (D : va_G) (cI cZ cF cL : ClassId) (b : Nat → Nat) (g1 g2 : Nat → Nat) (kn kw : Int32) (x1 x2 x3 x4 x5 : Nat) (a : Nat → Nat) (nH nV wk ea gi sw : Nat) (f1 f2 f3 f4 f5 f6 f7 f8 : Nat → Nat) (hH : nH ≤ 6) (hV : nV ≤ 5) (b1 : ∀ h, h < 6 → f1 h ≤ 4) (b2 : ∀ h, h < 6 → f2 h ≤ 9) (b3 : ∀ h, h < 6 → f3 h ≤ 9) (b4 : ∀ h, h < 6 → f4 h ≤ 1) (b5 : ∀ v, v < 5 → f5 v ≤ 40) (b7 : ∀ k, k < 30 → f7 k ≤ 9) : CT l D (tysX cI cZ cF cL) yX4_packWeek (wA yX4_packWeek cX4_packWeek 5 none) (rmF 3 75) [.ref (b 0), .ref (a 0)] (pX cI b g1 g2 kn kw x1 x2 x3 x4 x5 ++ fX cI a nH nV wk ea gi sw f1 f2 f3 f4 f5 f6 f7 f8) (none : Option Value) (fun u : (Nat → Nat) × (Nat → Nat) × Int32 × Int32 × Nat × Nat × Nat × Nat × Nat => (pX cI b u.1 u.2.1 u.2.2.1 u.2.2.2.1 u.2.2.2.2.1 u.2.2.2.2.2.1 u.2.2.2.2.2.2.1 u.2.2.2.2.2.2.2.1 u.2.2.2.2.2.2.2.2 ++ fX cI a nH nV (wk + 1) (ea + kilA f8 nV nH) gi ((swR f7 nH nV 1801 (pkS f5 f6 f7 (partN f1 f2 f3 f4) (sumN (partN f1 f2 f3 f4) nH) nH nV).1).1) f1 (clO (partN f1 f2 f3 f4) f2 nH) (clC (partN f1 f2 f3 f4) f1 f3 f4 nH) ((fun _ => 0)) ((fun _ => 0)) ((pkS f5 f6 f7 (partN f1 f2 f3 f4) (sumN (partN f1 f2 f3 f4) nH) nH nV).2) f7 ((swR f7 nH nV 1801 (pkS f5 f6 f7 (partN f1 f2 f3 f4) (sumN (partN f1 f2 f3 f4) nH) nH nV).1).2))) := by
  refine ct_in (cc := cX4_packWeek) (maxL := 5) (ret := none) (own := RX4) (lv := [(0, .ref (b 0)), (1, .ref (a 0))]) (by decide +kernel) rfl rfl (Nat.le_of_ble_eq_true rfl) rfl ?_
  intro p e s m args below meth c A ls hx hb hr hml hts hown hlocks hK hA hP hD hS hl
  have hpt : ∀ h, h < nH → partN f1 f2 f3 f4 h ≤ 5 := fun h hh => partN_le (b1 h (by omega))
  have hPP : (sumN (partN f1 f2 f3 f4) nH) < 2 ^ 31 := Nat.lt_of_le_of_lt (sumN_c nH hpt) (by omega)
  refine lv_aload_n hx hb dX4_packWeek_0 rfl (lv_at hl 1 rfl) ?_
  refine lv_dup hx hb dX4_packWeek_1 rfl ?_
  refine gf_n (C := RX1) (T := TX1) (N := 14) (ci := 1) (q0 := 5) (v := .int (nI ea)) hx hb hts (iU inlX1) hown hK hP rfl rfl 3 (by decide) (kU u_576) rfl rfl dX4_packWeek_2 ?_
  refine lv_aload_n hx hb dX4_packWeek_5 rfl (lv_at hl 1 rfl) ?_
  refine go_V (ci := 1) (q0 := 5) (cq := (RX1, TX1, 14)) (c_X1_kilosInBoxes l D cI cZ cF cL a nH nV wk ea gi sw f1 f2 f3 f4 f5 f6 f7 f8 (by omega) (by omega)) (gUV u_580 u_323 u_324 u_20 u_325) rfl hdV_X1_kilosInBoxes ⟨Nat.le_of_ble_eq_true rfl, Nat.le_of_ble_eq_true rfl⟩ ⟨rfl, rfl⟩ hx hb hml hown hts hK hA hP hD hS hl.1 ⟨Nat.le_of_ble_eq_true rfl, Nat.le_of_ble_eq_true rfl⟩ rfl rfl rfl [5, 6, 7, 8, 9, 10, 11, 12, 13] rfl rfl (fun _ => rfl) (rest := [.int (nI ea), .ref (a 0)]) rfl rfl (Nat.le_of_ble_eq_true rfl) dX4_packWeek_6 (ws2 := (fun _ : Unit => (pX cI b g1 g2 kn kw x1 x2 x3 x4 x5 ++ fX cI a nH nV wk ea gi sw f1 f2 f3 f4 f5 f6 f7 f8))) (fun _ => rfl) (fun _ Hp locs hP hD hS => ?_)
  refine lv_iadd hx hb dX4_packWeek_9 ?_
  rw [nI_add ea (kilA f8 nV nH)]
  refine pf_n (C := RX1) (T := TX1) (N := 14) (ci := 1) (q0 := 5) (ty := .int) (v := .int (nI (ea + (kilA f8 nV nH)))) (ws2 := (pX cI b g1 g2 kn kw x1 x2 x3 x4 x5 ++ fX cI a nH nV wk (ea + (kilA f8 nV nH)) gi sw f1 f2 f3 f4 f5 f6 f7 f8)) hx hb hts (iU inlX1) tyX1 tyX1_ok nmX1 hown hK hP hD hS rfl rfl 3 (by decide) (kU u_576) rfl rfl (tyX1_ok 3 (by decide)) rfl rfl (Nat.le_of_ble_eq_true rfl) dX4_packWeek_10 rfl (fun Hp locs hP hD hS => ?_)
  refine lv_aload_n hx hb dX4_packWeek_13 rfl (lv_at hl 1 rfl) ?_
  refine gf_n (C := RX1) (T := TX1) (N := 14) (ci := 1) (q0 := 5) (v := .ref (a 8)) hx hb hts (iU inlX1) hown hK hP rfl rfl 13 (by decide) (kU u_577) rfl rfl dX4_packWeek_14 ?_
  refine lv_iconst (v := (nI 0)) hx hb dX4_packWeek_17 (by decide) ?_
  refine go_S (c_J7_fill_53178 l D cI cZ cF cL (a 8) 30 0 f8 (by omega)) (gUS u_581 u_79 u_80 u_81) rfl hdS_J7_fill_53178 ⟨Nat.le_of_ble_eq_true rfl, Nat.le_of_ble_eq_true rfl⟩ ⟨rfl, rfl⟩ hx hb hml hown hts hK hA hP hD hS hl.1 ⟨Nat.le_of_ble_eq_true rfl, Nat.le_of_ble_eq_true rfl⟩ [13] rfl rfl (fun _ => rfl) (rest := []) rfl rfl (Nat.le_of_ble_eq_true rfl) dX4_packWeek_18 (ws2 := (fun _ : Unit => (pX cI b g1 g2 kn kw x1 x2 x3 x4 x5 ++ fX cI a nH nV wk (ea + (kilA f8 nV nH)) gi sw f1 f2 f3 f4 f5 f6 f7 (filN 0 30 f8)))) (fun _ => rfl) (fun _ Hp locs hP hD hS => ?_)
  obtain ⟨hP, hD⟩ := cg_n (g := nF ((fun _ => 0))) (ws2 := (pX cI b g1 g2 kn kw x1 x2 x3 x4 x5 ++ fX cI a nH nV wk (ea + (kilA f8 nV nH)) gi sw f1 f2 f3 f4 f5 f6 f7 ((fun _ => 0)))) hP hD 13 rfl (fun j hj => congrArg nI (filN_in j hj)) rfl
  refine lv_aload_n hx hb dX4_packWeek_21 rfl (lv_at hl 0 rfl) ?_
  refine lv_aload_n hx hb dX4_packWeek_22 rfl (lv_at hl 1 rfl) ?_
  refine go_V (ci := 4) (q0 := 0) (cq := (RX4, TX4, 4)) (c_X4_tellParts l D cI cZ cF cL b g1 g2 kn kw x1 x2 x3 x4 x5 a nH nV wk (ea + (kilA f8 nV nH)) gi sw f1 f2 f3 f4 f5 f6 f7 ((fun _ => 0)) (by omega) b1 b2 b3 b4) (gUV u_582 u_583 u_584 u_32 u_585) rfl hdV_X4_tellParts ⟨Nat.le_of_ble_eq_true rfl, Nat.le_of_ble_eq_true rfl⟩ ⟨rfl, rfl⟩ hx hb hml hown hts hK hA hP hD hS hl.1 ⟨Nat.le_of_ble_eq_true rfl, Nat.le_of_ble_eq_true rfl⟩ rfl rfl rfl [0, 1, 2, 3, 4, 5, 6, 7, 8, 9, 10, 11, 12, 13] rfl rfl (fun _ => rfl) (rest := []) rfl rfl (Nat.le_of_ble_eq_true rfl) dX4_packWeek_23 (ws2 := (fun _ : Unit => (pX cI b (tabN (partN f1 f2 f3 f4) nH g1) g2 kn kw x1 x2 x3 x4 x5 ++ fX cI a nH nV wk (ea + (kilA f8 nV nH)) gi sw f1 f2 f3 f4 f5 f6 f7 ((fun _ => 0))))) (fun _ => rfl) (fun _ Hp locs hP hD hS => ?_)
  refine lv_istore_n (lv' := [(2, .int (nI (sumN (partN f1 f2 f3 f4) nH))), (0, .ref (b 0)), (1, .ref (a 0))]) hx hb dX4_packWeek_26 rfl hl (by decide) rfl (fun ls hl => ?_)
  refine lv_iconst (v := (nI 0)) hx hb dX4_packWeek_27 (by decide) ?_
  refine lv_istore_n (lv' := [(3, .int (nI 0)), (2, .int (nI (sumN (partN f1 f2 f3 f4) nH))), (0, .ref (b 0)), (1, .ref (a 0))]) hx hb dX4_packWeek_28 rfl hl (by decide) rfl (fun ls hl => ?_)
  have loop_29 : ∀ (dd : Nat) (i : Nat) (h8 : Nat → Nat) (h6 : Nat → Nat) (q2 : Nat → Nat) (k1 : Int32) (k2 : Int32), (i ≤ nV) → (h8 = (pkS f5 f6 f7 (partN f1 f2 f3 f4) (sumN (partN f1 f2 f3 f4) nH) nH i).1) → (h6 = (pkS f5 f6 f7 (partN f1 f2 f3 f4) (sumN (partN f1 f2 f3 f4) nH) nH i).2) → (nV - i) < dd → ∀ (Hp : Heap) (locs : List Loc), va_P D vwCl (pX cI b (tabN (partN f1 f2 f3 f4) nH g1) q2 k1 k2 x1 x2 x3 x4 x5 ++ fX cI a nH nV wk (ea + (kilA f8 nV nH)) gi sw f1 f2 f3 f4 f5 h6 f7 h8) Hp → va_D A (pX cI b (tabN (partN f1 f2 f3 f4) nH g1) q2 k1 k2 x1 x2 x3 x4 x5 ++ fX cI a nH nV wk (ea + (kilA f8 nV nH)) gi sw f1 f2 f3 f4 f5 h6 f7 h8) → va_S A s.heap Hp locs → ∀ ls : Array Slot, lv_has ls 5 [(3, .int (nI i)), (2, .int (nI (sumN (partN f1 f2 f3 f4) nH))), (0, .ref (b 0)), (1, .ref (a 0))] → W p l e (rmF 3 75) s m args below meth c Hp locs 0 0 (MQ below (CQ D (none : Option Value) (fun u : (Nat → Nat) × (Nat → Nat) × Int32 × Int32 × Nat × Nat × Nat × Nat × Nat => (pX cI b u.1 u.2.1 u.2.2.1 u.2.2.2.1 u.2.2.2.2.1 u.2.2.2.2.2.1 u.2.2.2.2.2.2.1 u.2.2.2.2.2.2.2.1 u.2.2.2.2.2.2.2.2 ++ fX cI a nH nV (wk + 1) (ea + kilA f8 nV nH) gi ((swR f7 nH nV 1801 (pkS f5 f6 f7 (partN f1 f2 f3 f4) (sumN (partN f1 f2 f3 f4) nH) nH nV).1).1) f1 (clO (partN f1 f2 f3 f4) f2 nH) (clC (partN f1 f2 f3 f4) f1 f3 f4 nH) ((fun _ => 0)) ((fun _ => 0)) ((pkS f5 f6 f7 (partN f1 f2 f3 f4) (sumN (partN f1 f2 f3 f4) nH) nH nV).2) f7 ((swR f7 nH nV 1801 (pkS f5 f6 f7 (partN f1 f2 f3 f4) (sumN (partN f1 f2 f3 f4) nH) nH nV).1).2))) A) args s 0 0 A) (F0 m 29 ls []) := by
    intro dd
    induction dd with
    | zero => intro i h8 h6 q2 k1 k2 hi e8 e6 hm; exact absurd hm (Nat.not_lt_zero _)
    | succ dd ih_29 =>
      intro i h8 h6 q2 k1 k2 hi e8 e6 hm Hp locs hP hD hS ls hl
      refine lv_iload_n hx hb dX4_packWeek_29 rfl (lv_at hl 0 rfl) ?_
      refine lv_aload_n hx hb dX4_packWeek_30 rfl (lv_at hl 3 rfl) ?_
      refine gf_n (C := RX1) (T := TX1) (N := 14) (ci := 1) (q0 := 5) (v := .int (nI nV)) hx hb hts (iU inlX1) hown hK hP rfl rfl 1 (by decide) (kU u_578) rfl rfl dX4_packWeek_31 ?_
      refine lv_icmp_ge (tgt := 60) hx hb dX4_packWeek_34 (by decide) (fun c_34 => ?_) (fun c_34 => ?_)
      · skip
        replace c_34 := cn_le (by omega) (by omega) c_34
        refine lv_aload_n hx hb dX4_packWeek_60 rfl (lv_at hl 3 rfl) ?_
        refine lv_aload_n hx hb dX4_packWeek_61 rfl (lv_at hl 2 rfl) ?_
        refine lv_aload_n hx hb dX4_packWeek_62 rfl (lv_at hl 3 rfl) ?_
        refine go_V (ci := 4) (q0 := 0) (cq := (RX4, TX4, 4)) (c_X4_makeSwaps l D cI cZ cF cL b (tabN (partN f1 f2 f3 f4) nH g1) q2 k1 k2 x1 x2 x3 x4 x5 a nH nV wk (ea + (kilA f8 nV nH)) gi sw f1 f2 f3 f4 f5 h6 f7 h8 (by omega) (by omega) b7 (by rw [e8]; exact Nat.le_trans (pkS_sum f5 f6 f7 _ _ nH (Nat.le_refl _) i (by omega)) (Nat.le_trans (sumN_c i (fun k hk => b5 k (by omega))) (by omega)))) (gUV u_608 u_609 u_610 u_32 u_611) rfl hdV_X4_makeSwaps ⟨Nat.le_of_ble_eq_true rfl, Nat.le_of_ble_eq_true rfl⟩ ⟨rfl, rfl⟩ hx hb hml hown hts hK hA hP hD hS hl.1 ⟨Nat.le_of_ble_eq_true rfl, Nat.le_of_ble_eq_true rfl⟩ rfl rfl rfl [0, 1, 2, 3, 4, 5, 6, 7, 8, 9, 10, 11, 12, 13] rfl rfl (fun _ => rfl) (rest := [.ref (a 0)]) rfl rfl (Nat.le_of_ble_eq_true rfl) dX4_packWeek_63 (ws2 := (fun u_63 : Nat × Nat × Nat × Nat × Nat => (pX cI b (tabN (partN f1 f2 f3 f4) nH g1) q2 k1 k2 u_63.1 u_63.2.1 u_63.2.2.1 u_63.2.2.2.1 u_63.2.2.2.2 ++ fX cI a nH nV wk (ea + (kilA f8 nV nH)) gi sw f1 f2 f3 f4 f5 h6 f7 ((swR f7 nH nV 1801 h8).2)))) (fun _ => rfl) (fun u_63 Hp locs hP hD hS => ?_)
        refine pf_n (C := RX1) (T := TX1) (N := 14) (ci := 1) (q0 := 5) (ty := .int) (v := .int (nI ((swR f7 nH nV 1801 h8).1))) (ws2 := (pX cI b (tabN (partN f1 f2 f3 f4) nH g1) q2 k1 k2 u_63.1 u_63.2.1 u_63.2.2.1 u_63.2.2.2.1 u_63.2.2.2.2 ++ fX cI a nH nV wk (ea + (kilA f8 nV nH)) gi ((swR f7 nH nV 1801 h8).1) f1 f2 f3 f4 f5 h6 f7 ((swR f7 nH nV 1801 h8).2))) hx hb hts (iU inlX1) tyX1 tyX1_ok nmX1 hown hK hP hD hS rfl rfl 5 (by decide) (kU u_579) rfl rfl (tyX1_ok 5 (by decide)) rfl rfl (Nat.le_of_ble_eq_true rfl) dX4_packWeek_66 rfl (fun Hp locs hP hD hS => ?_)
        refine lv_aload_n hx hb dX4_packWeek_69 rfl (lv_at hl 2 rfl) ?_
        refine lv_aload_n hx hb dX4_packWeek_70 rfl (lv_at hl 3 rfl) ?_
        refine go_V (ci := 4) (q0 := 0) (cq := (RX4, TX4, 4)) (c_X4_closeWeek l D cI cZ cF cL b (tabN (partN f1 f2 f3 f4) nH g1) q2 k1 k2 u_63.1 u_63.2.1 u_63.2.2.1 u_63.2.2.2.1 u_63.2.2.2.2 a nH nV wk (ea + (kilA f8 nV nH)) gi ((swR f7 nH nV 1801 h8).1) f1 f2 f3 f4 f5 h6 f7 ((swR f7 nH nV 1801 h8).2) (partN f1 f2 f3 f4) (by omega) (fun h hh => tabN_in hh) hpt b1 b2 b3 b4) (gUV u_634 u_635 u_636 u_32 u_637) rfl hdV_X4_closeWeek ⟨Nat.le_of_ble_eq_true rfl, Nat.le_of_ble_eq_true rfl⟩ ⟨rfl, rfl⟩ hx hb hml hown hts hK hA hP hD hS hl.1 ⟨Nat.le_of_ble_eq_true rfl, Nat.le_of_ble_eq_true rfl⟩ rfl rfl rfl [0, 1, 2, 3, 4, 5, 6, 7, 8, 9, 10, 11, 12, 13] rfl rfl (fun _ => rfl) (rest := []) rfl rfl (Nat.le_of_ble_eq_true rfl) dX4_packWeek_71 (ws2 := (fun _ : Unit => (pX cI b (tabN (partN f1 f2 f3 f4) nH g1) q2 k1 k2 u_63.1 u_63.2.1 u_63.2.2.1 u_63.2.2.2.1 u_63.2.2.2.2 ++ fX cI a nH nV (wk + 1) (ea + (kilA f8 nV nH)) gi ((swR f7 nH nV 1801 h8).1) f1 (clO (partN f1 f2 f3 f4) f2 nH) (clC (partN f1 f2 f3 f4) f1 f3 f4 nH) ((fun _ => 0)) ((fun _ => 0)) h6 f7 ((swR f7 nH nV 1801 h8).2)))) (fun _ => rfl) (fun _ Hp locs hP hD hS => ?_)
        exact ct_v (tabN (partN f1 f2 f3 f4) nH g1, q2, k1, k2, u_63.1, u_63.2.1, u_63.2.2.1, u_63.2.2.2.1, u_63.2.2.2.2) hx hb hr hlocks (by rw [e8, e6, show i = nV by omega] at hP; exact hP) hS dX4_packWeek_74
      · skip
        replace c_34 := cn_nle (by omega) (by omega) c_34
        refine lv_aload_n hx hb dX4_packWeek_37 rfl (lv_at hl 2 rfl) ?_
        refine lv_aload_n hx hb dX4_packWeek_38 rfl (lv_at hl 3 rfl) ?_
        refine lv_iload_n hx hb dX4_packWeek_39 rfl (lv_at hl 0 rfl) ?_
        refine lv_iload_n hx hb dX4_packWeek_40 rfl (lv_at hl 1 rfl) ?_
        refine go_V (ci := 4) (q0 := 0) (cq := (RX4, TX4, 4)) (c_X4_dealShares l D cI cZ cF cL b (tabN (partN f1 f2 f3 f4) nH g1) q2 k1 k2 x1 x2 x3 x4 x5 a nH nV wk (ea + (kilA f8 nV nH)) gi sw f1 f2 f3 f4 f5 h6 f7 h8 (partN f1 f2 f3 f4) i (sumN (partN f1 f2 f3 f4) nH) (by omega) (by omega) (b5 _ (by omega)) (fun h hh => tabN_in hh) hpt hPP (Nat.le_refl _)) (gUV u_590 u_591 u_592 u_32 u_593) rfl hdV_X4_dealShares ⟨Nat.le_of_ble_eq_true rfl, Nat.le_of_ble_eq_true rfl⟩ ⟨rfl, rfl⟩ hx hb hml hown hts hK hA hP hD hS hl.1 ⟨Nat.le_of_ble_eq_true rfl, Nat.le_of_ble_eq_true rfl⟩ rfl rfl rfl [0, 1, 2, 3, 4, 5, 6, 7, 8, 9, 10, 11, 12, 13] rfl rfl (fun _ => rfl) (rest := []) rfl rfl (Nat.le_of_ble_eq_true rfl) dX4_packWeek_41 (ws2 := (fun _ : Unit => (pX cI b (tabN (partN f1 f2 f3 f4) nH g1) q2 k1 k2 x1 x2 x3 x4 x5 ++ fX cI a nH nV wk (ea + (kilA f8 nV nH)) gi sw f1 f2 f3 f4 f5 h6 f7 (dlK h8 (f5 i) (partN f1 f2 f3 f4) (sumN (partN f1 f2 f3 f4) nH) i nH)))) (fun _ => rfl) (fun _ Hp locs hP hD hS => ?_)
        refine lv_istore (lv' := [(4, .int (nI (f5 i - shS (f5 i) (partN f1 f2 f3 f4) (sumN (partN f1 f2 f3 f4) nH) nH))), (3, .int (nI i)), (2, .int (nI (sumN (partN f1 f2 f3 f4) nH))), (0, .ref (b 0)), (1, .ref (a 0))]) hx hb dX4_packWeek_44 hl (by decide) rfl (fun ls hl => ?_)
        refine lv_aload_n hx hb dX4_packWeek_46 rfl (lv_at hl 3 rfl) ?_
        refine lv_aload_n hx hb dX4_packWeek_47 rfl (lv_at hl 4 rfl) ?_
        refine lv_iload_n hx hb dX4_packWeek_48 rfl (lv_at hl 1 rfl) ?_
        refine lv_iload hx hb dX4_packWeek_49 (lv_at hl 0 rfl) ?_
        refine go_V (ci := 4) (q0 := 0) (cq := (RX4, TX4, 4)) (c_X4_giveGlut l D cI cZ cF cL b (tabN (partN f1 f2 f3 f4) nH g1) q2 k1 k2 x1 x2 x3 x4 x5 a nH nV wk (ea + (kilA f8 nV nH)) gi sw f1 f2 f3 f4 f5 h6 f7 (dlK h8 (f5 i) (partN f1 f2 f3 f4) (sumN (partN f1 f2 f3 f4) nH) i nH) (partN f1 f2 f3 f4) i (f5 i - shS (f5 i) (partN f1 f2 f3 f4) (sumN (partN f1 f2 f3 f4) nH) nH) (by omega) (by omega) (fun h hh => tabN_in hh) hpt b7 (by have := b5 i (by omega); omega)) (gUV u_595 u_596 u_597 u_32 u_598) rfl hdV_X4_giveGlut ⟨Nat.le_of_ble_eq_true rfl, Nat.le_of_ble_eq_true rfl⟩ ⟨rfl, rfl⟩ hx hb hml hown hts hK hA hP hD hS hl.1 ⟨Nat.le_of_ble_eq_true rfl, Nat.le_of_ble_eq_true rfl⟩ rfl rfl rfl [0, 1, 2, 3, 4, 5, 6, 7, 8, 9, 10, 11, 12, 13] rfl rfl (fun _ => rfl) (rest := []) rfl rfl (Nat.le_of_ble_eq_true rfl) dX4_packWeek_51 (ws2 := (fun u_51 : (Nat → Nat) × Int32 × Int32 => (pX cI b (tabN (partN f1 f2 f3 f4) nH g1) u_51.1 u_51.2.1 u_51.2.2 x1 x2 x3 x4 x5 ++ fX cI a nH nV wk (ea + (kilA f8 nV nH)) gi sw f1 f2 f3 f4 f5 (va_up h6 i (glN f7 (partN f1 f2 f3 f4) i nH (dlK h8 (f5 i) (partN f1 f2 f3 f4) (sumN (partN f1 f2 f3 f4) nH) i nH) (h6 i) (f5 i - shS (f5 i) (partN f1 f2 f3 f4) (sumN (partN f1 f2 f3 f4) nH) nH)).2.2) f7 ((glN f7 (partN f1 f2 f3 f4) i nH (dlK h8 (f5 i) (partN f1 f2 f3 f4) (sumN (partN f1 f2 f3 f4) nH) i nH) (h6 i) (f5 i - shS (f5 i) (partN f1 f2 f3 f4) (sumN (partN f1 f2 f3 f4) nH) nH)).1)))) (fun _ => rfl) (fun u_51 Hp locs hP hD hS => ?_)
        refine lv_iinc (v := (nI (i + 1))) (lv' := [(3, .int (nI (i + 1))), (4, .int (nI (f5 i - shS (f5 i) (partN f1 f2 f3 f4) (sumN (partN f1 f2 f3 f4) nH) nH))), (2, .int (nI (sumN (partN f1 f2 f3 f4) nH))), (0, .ref (b 0)), (1, .ref (a 0))]) hx hb dX4_packWeek_54 hl (k := 1) rfl (nI_add i 1) (by decide) rfl (fun ls hl => ?_)
        refine lv_goto (tgt := 29) hx hb dX4_packWeek_57 (by decide) ?_
        exact ih_29 (i + 1) ((glN f7 (partN f1 f2 f3 f4) i nH (dlK h8 (f5 i) (partN f1 f2 f3 f4) (sumN (partN f1 f2 f3 f4) nH) i nH) (h6 i) (f5 i - shS (f5 i) (partN f1 f2 f3 f4) (sumN (partN f1 f2 f3 f4) nH) nH)).1) (va_up h6 i (glN f7 (partN f1 f2 f3 f4) i nH (dlK h8 (f5 i) (partN f1 f2 f3 f4) (sumN (partN f1 f2 f3 f4) nH) i nH) (h6 i) (f5 i - shS (f5 i) (partN f1 f2 f3 f4) (sumN (partN f1 f2 f3 f4) nH) nH)).2.2) u_51.1 u_51.2.1 u_51.2.2 (by omega) (by rw [e8, e6]; rfl) (by rw [e8, e6]; rfl) (by omega) _ _ hP hD hS _ (lv_sub hl [0, 2, 3, 4] rfl)
  exact loop_29 ((nV - 0) + 1) 0 ((fun _ => 0)) f6 g2 kn kw (by omega) rfl rfl (Nat.lt_succ_self _) _ _ hP hD hS _ (lv_sub hl [0, 1, 2, 3] rfl)

