def harvT (T : Nat → Nat → Nat) (x : Int64) : Nat → Nat → Nat := va_up T 5 (tabN (fun i => drR (itX x (i + 1)) % 20) (T 0 1) (T 5))
def housT (T : Nat → Nat → Nat) (x : Int64) : Nat → Nat → Nat := va_up (va_up T 4 (tabN (fun h => if drR (itX x (h + 1)) % 4 = 0 then 1 else 0) (T 0 0) (T 4))) 2 (tabN (fun h => if drR (itX x (h + 1)) % 4 = 1 then 0 else T 2 h) (T 0 0) (T 2))
def weekT (T : Nat → Nat → Nat) (x : Int64) : Nat → Nat → Nat := packT (housT (harvT T x) (itX x (T 0 1)))
def smN (T : Nat → Nat → Nat) (x : Int64) : Nat → (Nat → Nat → Nat) × Int64 × Nat
  | 0 => (T, x, 0)
  | n + 1 => (weekT (smN T x n).1 (smN T x n).2.1, itX (itX (smN T x n).2.1 ((smN T x n).1 0 1)) ((smN T x n).1 0 0), (smN T x n).2.2 + weekT (smN T x n).1 (smN T x n).2.1 0 5)
def mn9 (c : Int32) : Int32 := if c < nI 999 then c else nI 999
def smR (T : Nat → Nat → Nat) (x : Int64) (n : Nat) : Int32 := nI 1000 * mn9 (nI (sumN ((smN T x n).1 6) ((smN T x n).1 0 1)) - nI (sumN (T 6) (T 0 1))) + mn9 (nI (smN T x n).2.2)
theorem uq_s {α : Type} {f : Nat → α} {k : Nat} {x : α} : va_up f k x k = x := if_pos rfl
theorem uq_n {α : Type} {f : Nat → α} {k j : Nat} {x : α} (h : j ≠ k) : va_up f k x j = f j := if_neg h
theorem harvT_5 (T : Nat → Nat → Nat) (x : Int64) : harvT T x 5 = tabN (fun i => drR (itX x (i + 1)) % 20) (T 0 1) (T 5) := uq_s
theorem housT_2 (T : Nat → Nat → Nat) (x : Int64) : housT T x 2 = tabN (fun h => if drR (itX x (h + 1)) % 4 = 1 then 0 else T 2 h) (T 0 0) (T 2) := uq_s
theorem housT_4 (T : Nat → Nat → Nat) (x : Int64) : housT T x 4 = tabN (fun h => if drR (itX x (h + 1)) % 4 = 0 then 1 else 0) (T 0 0) (T 4) := (uq_n (by decide)).trans uq_s
theorem FI_harv {T : Nat → Nat → Nat} {x : Int64} (h : FI T) : FI (harvT T x) := by
  obtain ⟨h0, h1, h5, h7, h8, h9⟩ := id h
  refine ⟨h0, h1, fun v hv => ⟨?_, fun hv2 => ?_⟩, h7, h8, h9⟩
  · rw [harvT_5]
    exact tabN_all (P := fun z => z ≤ 40) (fun _ => by omega) (fun _ => (h5 v hv).1)
  · rw [harvT_5]
    have hv3 : T 0 1 ≤ v := hv2
    rw [tabN_out hv3]
    exact (h5 v hv).2 hv3
theorem FI_hous {T : Nat → Nat → Nat} {x : Int64} (h : FI T) : FI (housT T x) := by
  obtain ⟨h0, h1, h5, h7, h8, h9⟩ := id h
  refine ⟨h0, fun j hj => ?_, h5, h7, h8, h9⟩
  obtain ⟨a1, a2, a3, a4, a5, a6⟩ := h1 j hj
  refine ⟨a1, ?_, a3, ?_, a5, fun hj2 => ?_⟩
  · rw [housT_2]
    refine tabN_all (P := fun z => z ≤ 9) (fun _ => ?_) (fun _ => a2)
    split <;> omega
  · rw [housT_4]
    refine tabN_all (P := fun z => z ≤ 1) (fun _ => ?_) (fun _ => a4)
    split <;> omega
  · have hj3 : T 0 0 ≤ j := hj2
    refine ⟨?_, (a6 hj3).2.1, ?_⟩
    · rw [housT_2]
      rw [tabN_out hj3]
      exact (a6 hj3).1
    · rw [housT_4]
      rw [tabN_out hj3]
      exact (a6 hj3).2.2
theorem FI_week {T : Nat → Nat → Nat} {x : Int64} (h : FI T) : FI (weekT T x) := FI_pack (FI_hous (FI_harv h))
set_option maxRecDepth 20000 in
theorem u_295 : Cond.code yX1_copyFrom cX1_copyFrom 2 none ∈ wsL_law := List.mem_of_getElem? (i := 295) (by decide +kernel)
set_option maxRecDepth 20000 in
theorem u_884 : Cond.methodLink RX6 25 yX1_copyFrom ∈ wsL_law := List.mem_of_getElem? (i := 884) (by decide +kernel)
set_option maxRecDepth 20000 in
theorem u_293 : Cond.instanceMethod yX1_copyFrom ∈ wsL_law := List.mem_of_getElem? (i := 293) (by decide +kernel)
set_option maxRecDepth 20000 in
theorem u_294 : Cond.selects RX1 yX1_copyFrom yX1_copyFrom ∈ wsL_law := List.mem_of_getElem? (i := 294) (by decide +kernel)
set_option maxRecDepth 20000 in
theorem u_333 : Cond.code yX1_compostedOfAll cX1_compostedOfAll 3 (some .int) ∈ wsL_law := List.mem_of_getElem? (i := 333) (by decide +kernel)
set_option maxRecDepth 20000 in
theorem u_885 : Cond.methodLink RX6 33 yX1_compostedOfAll ∈ wsL_law := List.mem_of_getElem? (i := 885) (by decide +kernel)
set_option maxRecDepth 20000 in
theorem u_331 : Cond.instanceMethod yX1_compostedOfAll ∈ wsL_law := List.mem_of_getElem? (i := 331) (by decide +kernel)
set_option maxRecDepth 20000 in
theorem u_332 : Cond.selects RX1 yX1_compostedOfAll yX1_compostedOfAll ∈ wsL_law := List.mem_of_getElem? (i := 332) (by decide +kernel)
set_option maxRecDepth 20000 in
theorem u_883 : Cond.methodLink RX6 50 Lib.Math.min.name ∈ wsL_law := List.mem_of_getElem? (i := 883) (by decide +kernel)
set_option maxRecDepth 20000 in
theorem u_889 : Cond.code yX6_drawHarvests cX6_drawHarvests 2 none ∈ wsL_law := List.mem_of_getElem? (i := 889) (by decide +kernel)
set_option maxRecDepth 20000 in
theorem u_886 : Cond.methodLink RX6 37 yX6_drawHarvests ∈ wsL_law := List.mem_of_getElem? (i := 886) (by decide +kernel)
set_option maxRecDepth 20000 in
theorem u_887 : Cond.instanceMethod yX6_drawHarvests ∈ wsL_law := List.mem_of_getElem? (i := 887) (by decide +kernel)
set_option maxRecDepth 20000 in
theorem u_888 : Cond.selects RX6 yX6_drawHarvests yX6_drawHarvests ∈ wsL_law := List.mem_of_getElem? (i := 888) (by decide +kernel)
set_option maxRecDepth 20000 in
theorem u_901 : Cond.code yX6_drawHouses cX6_drawHouses 3 none ∈ wsL_law := List.mem_of_getElem? (i := 901) (by decide +kernel)
set_option maxRecDepth 20000 in
theorem u_898 : Cond.methodLink RX6 40 yX6_drawHouses ∈ wsL_law := List.mem_of_getElem? (i := 898) (by decide +kernel)
set_option maxRecDepth 20000 in
theorem u_899 : Cond.instanceMethod yX6_drawHouses ∈ wsL_law := List.mem_of_getElem? (i := 899) (by decide +kernel)
set_option maxRecDepth 20000 in
theorem u_900 : Cond.selects RX6 yX6_drawHouses yX6_drawHouses ∈ wsL_law := List.mem_of_getElem? (i := 900) (by decide +kernel)
set_option maxRecDepth 20000 in
theorem u_122 : Cond.fieldLink RX6 21 "HarvestBoxes$Simulation" "packer" "LHarvestBoxes$Packer;" ∈ wsL_law := List.mem_of_getElem? (i := 122) (by decide +kernel)
set_option maxRecDepth 20000 in
theorem u_575 : Cond.code yX4_packWeek cX4_packWeek 5 none ∈ wsL_law := List.mem_of_getElem? (i := 575) (by decide +kernel)
set_option maxRecDepth 20000 in
theorem u_905 : Cond.methodLink RX6 43 yX4_packWeek ∈ wsL_law := List.mem_of_getElem? (i := 905) (by decide +kernel)
set_option maxRecDepth 20000 in
theorem u_573 : Cond.instanceMethod yX4_packWeek ∈ wsL_law := List.mem_of_getElem? (i := 573) (by decide +kernel)
set_option maxRecDepth 20000 in
theorem u_574 : Cond.selects RX4 yX4_packWeek yX4_packWeek ∈ wsL_law := List.mem_of_getElem? (i := 574) (by decide +kernel)
set_option maxRecDepth 20000 in
theorem u_882 : Cond.fieldLink RX6 46 "HarvestBoxes$Farm" "swaps" "I" ∈ wsL_law := List.mem_of_getElem? (i := 882) (by decide +kernel)
theorem hdV_X1_copyFrom : yX1_copyFrom.cls = RX1 ∧ yX1_copyFrom.cls ≠ "java/lang/invoke/MethodHandle" ∧ yX1_copyFrom.cls ≠ "java/lang/invoke/VarHandle" ∧ (parseMethodDescriptor yX1_copyFrom.desc).map (fun d => d.parameters.length) = some 1 := by decide +kernel
theorem hdV_X1_compostedOfAll : yX1_compostedOfAll.cls = RX1 ∧ yX1_compostedOfAll.cls ≠ "java/lang/invoke/MethodHandle" ∧ yX1_compostedOfAll.cls ≠ "java/lang/invoke/VarHandle" ∧ (parseMethodDescriptor yX1_compostedOfAll.desc).map (fun d => d.parameters.length) = some 0 := by decide +kernel
theorem hdV_X6_drawHarvests : yX6_drawHarvests.cls = RX6 ∧ yX6_drawHarvests.cls ≠ "java/lang/invoke/MethodHandle" ∧ yX6_drawHarvests.cls ≠ "java/lang/invoke/VarHandle" ∧ (parseMethodDescriptor yX6_drawHarvests.desc).map (fun d => d.parameters.length) = some 0 := by decide +kernel
theorem hdV_X6_drawHouses : yX6_drawHouses.cls = RX6 ∧ yX6_drawHouses.cls ≠ "java/lang/invoke/MethodHandle" ∧ yX6_drawHouses.cls ≠ "java/lang/invoke/VarHandle" ∧ (parseMethodDescriptor yX6_drawHouses.desc).map (fun d => d.parameters.length) = some 0 := by decide +kernel
theorem hdV_X4_packWeek : yX4_packWeek.cls = RX4 ∧ yX4_packWeek.cls ≠ "java/lang/invoke/MethodHandle" ∧ yX4_packWeek.cls ≠ "java/lang/invoke/VarHandle" ∧ (parseMethodDescriptor yX4_packWeek.desc).map (fun d => d.parameters.length) = some 1 := by decide +kernel
set_option maxHeartbeats 4000000 in
set_option maxRecDepth 100000 in
theorem c_X6_runWeeks (l : Launch) (D : va_G) (cI cZ cF cL : ClassId) (r0 : Nat) (x0 : Int64) (a : Nat → Nat) (U : Nat → Nat → Nat) (b : Nat → Nat) (g1 g2 : Nat → Nat) (kn kw : Int32) (x1 x2 x3 x4 x5 : Nat) (d : Nat → Nat) (T : Nat → Nat → Nat) (sd : Int64) (n : Nat) (hT : FI T) (hn : n < 2 ^ 20) : CT l D (tysX cI cZ cF cL) yX6_runWeeks (wA yX6_runWeeks cX6_runWeeks 8 (some .int)) (rmF 4 99) [.ref r0, .ref (d 0), .long sd, .int (nI n)] (r6X r0 a b x0 ++ fX cI a (U 0 0) (U 0 1) (U 0 2) (U 0 3) (U 0 4) (U 0 5) (U 1) (U 2) (U 3) (U 4) (U 5) (U 6) (U 7) (U 8) ++ pX cI b g1 g2 kn kw x1 x2 x3 x4 x5 ++ fX cI d (T 0 0) (T 0 1) (T 0 2) (T 0 3) (T 0 4) (T 0 5) (T 1) (T 2) (T 3) (T 4) (T 5) (T 6) (T 7) (T 8)) (some (.int (smR T sd n))) (fun u : (Nat → Nat) × (Nat → Nat) × Int32 × Int32 × Nat × Nat × Nat × Nat × Nat => (r6X r0 a b ((smN T sd n).2.1) ++ fX cI a (((smN T sd n).1) 0 0) (((smN T sd n).1) 0 1) (((smN T sd n).1) 0 2) (((smN T sd n).1) 0 3) (((smN T sd n).1) 0 4) (((smN T sd n).1) 0 5) (((smN T sd n).1) 1) (((smN T sd n).1) 2) (((smN T sd n).1) 3) (((smN T sd n).1) 4) (((smN T sd n).1) 5) (((smN T sd n).1) 6) (((smN T sd n).1) 7) (((smN T sd n).1) 8) ++ pX cI b u.1 u.2.1 u.2.2.1 u.2.2.2.1 u.2.2.2.2.1 u.2.2.2.2.2.1 u.2.2.2.2.2.2.1 u.2.2.2.2.2.2.2.1 u.2.2.2.2.2.2.2.2 ++ fX cI d (T 0 0) (T 0 1) (T 0 2) (T 0 3) (T 0 4) (T 0 5) (T 1) (T 2) (T 3) (T 4) (T 5) (T 6) (T 7) (T 8))) := by
  refine ct_in (cc := cX6_runWeeks) (maxL := 8) (ret := (some .int)) (own := RX6) (lv := [(0, .ref r0), (1, .ref (d 0)), (2, .long sd), (4, .int (nI n))]) (by decide +kernel) rfl rfl (Nat.le_of_ble_eq_true rfl) rfl ?_
  intro p e s m args below meth c A ls hx hb hr hml hts hown hlocks hK hA hP hD hS hl
  refine lv_aload_n hx hb dX6_runWeeks_0 rfl (lv_at hl 0 rfl) ?_
  refine gf_n (C := RX6) (T := TX6) (N := 3) (ci := 6) (q0 := 0) (v := .ref (a 0)) hx hb hts (iU inlX6) hown hK hP rfl rfl 0 (by decide) (kU u_120) rfl rfl dX6_runWeeks_1 ?_
  refine lv_aload_n hx hb dX6_runWeeks_4 rfl (lv_at hl 1 rfl) ?_
  refine gp_V (ci := 1) (q0 := 0) (cq := (RX1, TX1, 14)) (c_X1_copyFrom l D cI cZ cF cL a (U 0 0) (U 0 1) (U 0 2) (U 0 3) (U 0 4) (U 0 5) (U 1) (U 2) (U 3) (U 4) (U 5) (U 6) (U 7) (U 8) d (T 0 0) (T 0 1) (T 0 2) (T 0 3) (T 0 4) (T 0 5) (T 1) (T 2) (T 3) (T 4) (T 5) (T 6) (T 7) (T 8) ) (gUV u_884 u_293 u_294 u_20 u_295) rfl hdV_X1_copyFrom ⟨Nat.le_of_ble_eq_true rfl, Nat.le_of_ble_eq_true rfl⟩ ⟨rfl, rfl⟩ hx hb hml hown hts hK hA hP hD hS hl.1 ⟨Nat.le_of_ble_eq_true rfl, Nat.le_of_ble_eq_true rfl⟩ rfl rfl rfl (wr := (r6X r0 a b x0 ++ pX cI b g1 g2 kn kw x1 x2 x3 x4 x5)) (pm_cnt (fun _ => by simp only [List.countP_append, List.countP_nil, fT]; omega)) (fun _ => by simp only [List.map_append, List.map_nil, fX_m, bX_m, sX_m, pX_m, iaX_m, r5X_m, r6X_m, fT_m, hX_m]) (rest := []) rfl rfl (Nat.le_of_ble_eq_true rfl) dX6_runWeeks_5 (ws2 := (fun _ : Unit => (r6X r0 a b x0 ++ fX cI a (T 0 0) (T 0 1) (T 0 2) (T 0 3) (T 0 4) (T 0 5) (T 1) (T 2) (T 3) (T 4) (T 5) (T 6) (T 7) (T 8) ++ pX cI b g1 g2 kn kw x1 x2 x3 x4 x5 ++ fX cI d (T 0 0) (T 0 1) (T 0 2) (T 0 3) (T 0 4) (T 0 5) (T 1) (T 2) (T 3) (T 4) (T 5) (T 6) (T 7) (T 8)))) (fun _ => (pm_cnt (fun _ => by simp only [List.countP_append, List.countP_nil, fT]; omega))) (fun _ Hp locs hP hD hS => ?_)
  refine lv_aload_n hx hb dX6_runWeeks_8 rfl (lv_at hl 0 rfl) ?_
  refine lv_lload_n hx hb dX6_runWeeks_9 rfl (lv_at hl 2 rfl) ?_
  refine pf_n (C := RX6) (T := TX6) (N := 3) (ci := 6) (q0 := 0) (ty := .long) (v := .long sd) (ws2 := (r6X r0 a b sd ++ fX cI a (T 0 0) (T 0 1) (T 0 2) (T 0 3) (T 0 4) (T 0 5) (T 1) (T 2) (T 3) (T 4) (T 5) (T 6) (T 7) (T 8) ++ pX cI b g1 g2 kn kw x1 x2 x3 x4 x5 ++ fX cI d (T 0 0) (T 0 1) (T 0 2) (T 0 3) (T 0 4) (T 0 5) (T 1) (T 2) (T 3) (T 4) (T 5) (T 6) (T 7) (T 8))) hx hb hts (iU inlX6) tyX6 tyX6_ok nmX6 hown hK hP hD hS rfl rfl 2 (by decide) (kU u_881) rfl rfl (tyX6_ok 2 (by decide)) rfl rfl (Nat.le_of_ble_eq_true rfl) dX6_runWeeks_10 rfl (fun Hp locs hP hD hS => ?_)
  refine lv_aload_n hx hb dX6_runWeeks_13 rfl (lv_at hl 0 rfl) ?_
  refine gf_n (C := RX6) (T := TX6) (N := 3) (ci := 6) (q0 := 0) (v := .ref (a 0)) hx hb hts (iU inlX6) hown hK hP rfl rfl 0 (by decide) (kU u_120) rfl rfl dX6_runWeeks_14 ?_
  refine gp_V (ci := 1) (q0 := 0) (cq := (RX1, TX1, 14)) (c_X1_compostedOfAll l D cI cZ cF cL a (T 0 0) (T 0 1) (T 0 2) (T 0 3) (T 0 4) (T 0 5) (T 1) (T 2) (T 3) (T 4) (T 5) (T 6) (T 7) (T 8) hT.1.2) (gUV u_885 u_331 u_332 u_20 u_333) rfl hdV_X1_compostedOfAll ⟨Nat.le_of_ble_eq_true rfl, Nat.le_of_ble_eq_true rfl⟩ ⟨rfl, rfl⟩ hx hb hml hown hts hK hA hP hD hS hl.1 ⟨Nat.le_of_ble_eq_true rfl, Nat.le_of_ble_eq_true rfl⟩ rfl rfl rfl (wr := (r6X r0 a b sd ++ pX cI b g1 g2 kn kw x1 x2 x3 x4 x5 ++ fX cI d (T 0 0) (T 0 1) (T 0 2) (T 0 3) (T 0 4) (T 0 5) (T 1) (T 2) (T 3) (T 4) (T 5) (T 6) (T 7) (T 8))) (pm_cnt (fun _ => by simp only [List.countP_append, List.countP_nil, fT]; omega)) (fun _ => by simp only [List.map_append, List.map_nil, fX_m, bX_m, sX_m, pX_m, iaX_m, r5X_m, r6X_m, fT_m, hX_m]) (rest := []) rfl rfl (Nat.le_of_ble_eq_true rfl) dX6_runWeeks_17 (ws2 := (fun _ : Unit => (r6X r0 a b sd ++ fX cI a (T 0 0) (T 0 1) (T 0 2) (T 0 3) (T 0 4) (T 0 5) (T 1) (T 2) (T 3) (T 4) (T 5) (T 6) (T 7) (T 8) ++ pX cI b g1 g2 kn kw x1 x2 x3 x4 x5 ++ fX cI d (T 0 0) (T 0 1) (T 0 2) (T 0 3) (T 0 4) (T 0 5) (T 1) (T 2) (T 3) (T 4) (T 5) (T 6) (T 7) (T 8)))) (fun _ => (pm_cnt (fun _ => by simp only [List.countP_append, List.countP_nil, fT]; omega))) (fun _ Hp locs hP hD hS => ?_)
  refine lv_istore (lv' := [(5, .int (nI (sumN (T 6) (T 0 1)))), (0, .ref r0), (1, .ref (d 0)), (2, .long sd), (4, .int (nI n))]) hx hb dX6_runWeeks_20 hl (by decide) rfl (fun ls hl => ?_)
  refine lv_iconst (v := (nI 0)) hx hb dX6_runWeeks_22 (by decide) ?_
  refine lv_istore (lv' := [(6, .int (nI 0)), (5, .int (nI (sumN (T 6) (T 0 1)))), (0, .ref r0), (1, .ref (d 0)), (2, .long sd), (4, .int (nI n))]) hx hb dX6_runWeeks_23 hl (by decide) rfl (fun ls hl => ?_)
  refine lv_iconst (v := (nI 0)) hx hb dX6_runWeeks_25 (by decide) ?_
  refine lv_istore (lv' := [(7, .int (nI 0)), (6, .int (nI 0)), (5, .int (nI (sumN (T 6) (T 0 1)))), (0, .ref r0), (1, .ref (d 0)), (2, .long sd), (4, .int (nI n))]) hx hb dX6_runWeeks_26 hl (by decide) rfl (fun ls hl => ?_)
  have loop_28 : ∀ (dd : Nat) (i : Nat) (k : Nat) (y : Int64) (t : Nat → Nat → Nat) (q1 : Nat → Nat) (q2 : Nat → Nat) (k1 : Int32) (k2 : Int32) (z1 : Nat) (z2 : Nat) (z3 : Nat) (z4 : Nat) (z5 : Nat), (i ≤ n) → (t = (smN T sd i).1) → (y = (smN T sd i).2.1) → (k = (smN T sd i).2.2) → (FI t) → (n - i) < dd → ∀ (Hp : Heap) (locs : List Loc), va_P D vwCl (r6X r0 a b y ++ fX cI a (t 0 0) (t 0 1) (t 0 2) (t 0 3) (t 0 4) (t 0 5) (t 1) (t 2) (t 3) (t 4) (t 5) (t 6) (t 7) (t 8) ++ pX cI b q1 q2 k1 k2 z1 z2 z3 z4 z5 ++ fX cI d (T 0 0) (T 0 1) (T 0 2) (T 0 3) (T 0 4) (T 0 5) (T 1) (T 2) (T 3) (T 4) (T 5) (T 6) (T 7) (T 8)) Hp → va_D A (r6X r0 a b y ++ fX cI a (t 0 0) (t 0 1) (t 0 2) (t 0 3) (t 0 4) (t 0 5) (t 1) (t 2) (t 3) (t 4) (t 5) (t 6) (t 7) (t 8) ++ pX cI b q1 q2 k1 k2 z1 z2 z3 z4 z5 ++ fX cI d (T 0 0) (T 0 1) (T 0 2) (T 0 3) (T 0 4) (T 0 5) (T 1) (T 2) (T 3) (T 4) (T 5) (T 6) (T 7) (T 8)) → va_S A s.heap Hp locs → ∀ ls : Array Slot, lv_has ls 8 [(7, .int (nI i)), (6, .int (nI k)), (5, .int (nI (sumN (T 6) (T 0 1)))), (0, .ref r0), (1, .ref (d 0)), (2, .long sd), (4, .int (nI n))] → W p l e (rmF 4 99) s m args below meth c Hp locs 0 0 (MQ below (CQ D (some (.int (smR T sd n))) (fun u : (Nat → Nat) × (Nat → Nat) × Int32 × Int32 × Nat × Nat × Nat × Nat × Nat => (r6X r0 a b ((smN T sd n).2.1) ++ fX cI a (((smN T sd n).1) 0 0) (((smN T sd n).1) 0 1) (((smN T sd n).1) 0 2) (((smN T sd n).1) 0 3) (((smN T sd n).1) 0 4) (((smN T sd n).1) 0 5) (((smN T sd n).1) 1) (((smN T sd n).1) 2) (((smN T sd n).1) 3) (((smN T sd n).1) 4) (((smN T sd n).1) 5) (((smN T sd n).1) 6) (((smN T sd n).1) 7) (((smN T sd n).1) 8) ++ pX cI b u.1 u.2.1 u.2.2.1 u.2.2.2.1 u.2.2.2.2.1 u.2.2.2.2.2.1 u.2.2.2.2.2.2.1 u.2.2.2.2.2.2.2.1 u.2.2.2.2.2.2.2.2 ++ fX cI d (T 0 0) (T 0 1) (T 0 2) (T 0 3) (T 0 4) (T 0 5) (T 1) (T 2) (T 3) (T 4) (T 5) (T 6) (T 7) (T 8))) A) args s 0 0 A) (F0 m 28 ls []) := by
    intro dd
    induction dd with
    | zero => intro i k y t q1 q2 k1 k2 z1 z2 z3 z4 z5 hi eT ey ek hF hm; exact absurd hm (Nat.not_lt_zero _)
    | succ dd ih_28 =>
      intro i k y t q1 q2 k1 k2 z1 z2 z3 z4 z5 hi eT ey ek hF hm Hp locs hP hD hS ls hl
      refine lv_iload hx hb dX6_runWeeks_28 (lv_at hl 0 rfl) ?_
      refine lv_iload hx hb dX6_runWeeks_30 (lv_at hl 6 rfl) ?_
      refine lv_icmp_ge (tgt := 72) hx hb dX6_runWeeks_32 (by decide) (fun c_32 => ?_) (fun c_32 => ?_)
      · skip
        replace c_32 := cn_le (by omega) (by omega) c_32
        refine lv_aload_n hx hb dX6_runWeeks_72 rfl (lv_at hl 3 rfl) ?_
        refine gf_n (C := RX6) (T := TX6) (N := 3) (ci := 6) (q0 := 0) (v := .ref (a 0)) hx hb hts (iU inlX6) hown hK hP rfl rfl 0 (by decide) (kU u_120) rfl rfl dX6_runWeeks_73 ?_
        refine gp_V (ci := 1) (q0 := 0) (cq := (RX1, TX1, 14)) (c_X1_compostedOfAll l D cI cZ cF cL a (t 0 0) (t 0 1) (t 0 2) (t 0 3) (t 0 4) (t 0 5) (t 1) (t 2) (t 3) (t 4) (t 5) (t 6) (t 7) (t 8) hF.1.2) (gUV u_885 u_331 u_332 u_20 u_333) rfl hdV_X1_compostedOfAll ⟨Nat.le_of_ble_eq_true rfl, Nat.le_of_ble_eq_true rfl⟩ ⟨rfl, rfl⟩ hx hb hml hown hts hK hA hP hD hS hl.1 ⟨Nat.le_of_ble_eq_true rfl, Nat.le_of_ble_eq_true rfl⟩ rfl rfl rfl (wr := (r6X r0 a b y ++ pX cI b q1 q2 k1 k2 z1 z2 z3 z4 z5 ++ fX cI d (T 0 0) (T 0 1) (T 0 2) (T 0 3) (T 0 4) (T 0 5) (T 1) (T 2) (T 3) (T 4) (T 5) (T 6) (T 7) (T 8))) (pm_cnt (fun _ => by simp only [List.countP_append, List.countP_nil, fT]; omega)) (fun _ => by simp only [List.map_append, List.map_nil, fX_m, bX_m, sX_m, pX_m, iaX_m, r5X_m, r6X_m, fT_m, hX_m]) (rest := []) rfl rfl (Nat.le_of_ble_eq_true rfl) dX6_runWeeks_76 (ws2 := (fun _ : Unit => (r6X r0 a b y ++ fX cI a (t 0 0) (t 0 1) (t 0 2) (t 0 3) (t 0 4) (t 0 5) (t 1) (t 2) (t 3) (t 4) (t 5) (t 6) (t 7) (t 8) ++ pX cI b q1 q2 k1 k2 z1 z2 z3 z4 z5 ++ fX cI d (T 0 0) (T 0 1) (T 0 2) (T 0 3) (T 0 4) (T 0 5) (T 1) (T 2) (T 3) (T 4) (T 5) (T 6) (T 7) (T 8)))) (fun _ => (pm_cnt (fun _ => by simp only [List.countP_append, List.countP_nil, fT]; omega))) (fun _ Hp locs hP hD hS => ?_)
        refine lv_iload hx hb dX6_runWeeks_79 (lv_at hl 2 rfl) ?_
        refine lv_isub hx hb dX6_runWeeks_81 ?_
        refine lv_istore (lv' := [(7, .int ((nI (sumN (t 6) (t 0 1))) - (nI (sumN (T 6) (T 0 1))))), (6, .int (nI k)), (5, .int (nI (sumN (T 6) (T 0 1)))), (0, .ref r0), (1, .ref (d 0)), (2, .long sd), (4, .int (nI n))]) hx hb dX6_runWeeks_82 hl (by decide) rfl (fun ls hl => ?_)
        refine lv_sipush (v := (nI 1000)) hx hb dX6_runWeeks_84 (by decide +kernel) ?_
        refine lv_sipush (v := (nI 999)) hx hb dX6_runWeeks_87 (by decide +kernel) ?_
        refine lv_iload hx hb dX6_runWeeks_90 (lv_at hl 0 rfl) ?_
        refine va_mmin hx hb (by rw [hml]; exact hl.1.symm) hown (hts _ (kU u_883)) (hts _ (kU u_232)) (hts _ (kU u_233)) (hts _ (kU u_234)) (Nat.le_of_ble_eq_true rfl) (Nat.le_of_ble_eq_true rfl) (Nat.le_of_ble_eq_true rfl) (Nat.le_of_ble_eq_true rfl) dX6_runWeeks_92 ?_
        refine lv_imul hx hb dX6_runWeeks_95 ?_
        refine lv_sipush (v := (nI 999)) hx hb dX6_runWeeks_96 (by decide +kernel) ?_
        refine lv_iload hx hb dX6_runWeeks_99 (lv_at hl 1 rfl) ?_
        refine va_mmin hx hb (by rw [hml]; exact hl.1.symm) hown (hts _ (kU u_883)) (hts _ (kU u_232)) (hts _ (kU u_233)) (hts _ (kU u_234)) (Nat.le_of_ble_eq_true rfl) (Nat.le_of_ble_eq_true rfl) (Nat.le_of_ble_eq_true rfl) (Nat.le_of_ble_eq_true rfl) dX6_runWeeks_101 ?_
        refine lv_iadd hx hb dX6_runWeeks_104 ?_
        exact ct_i (q1, q2, k1, k2, z1, z2, z3, z4, z5) hx hb hr hlocks (by rw [eT, ey, show i = n by omega] at hP; exact hP) hS (by rw [eT, ek, show i = n by omega]; rfl) dX6_runWeeks_105
      · skip
        replace c_32 := cn_nle (by omega) (by omega) c_32
        refine lv_aload_n hx hb dX6_runWeeks_35 rfl (lv_at hl 3 rfl) ?_
        refine gp_V (ci := 6) (q0 := 0) (cq := (RX6, TX6, 3)) (c_X6_drawHarvests l D cI cZ cF cL r0 b y a (t 0 0) (t 0 1) (t 0 2) (t 0 3) (t 0 4) (t 0 5) (t 1) (t 2) (t 3) (t 4) (t 5) (t 6) (t 7) (t 8) hF.1.2) (gUV u_886 u_887 u_888 u_48 u_889) rfl hdV_X6_drawHarvests ⟨Nat.le_of_ble_eq_true rfl, Nat.le_of_ble_eq_true rfl⟩ ⟨rfl, rfl⟩ hx hb hml hown hts hK hA hP hD hS hl.1 ⟨Nat.le_of_ble_eq_true rfl, Nat.le_of_ble_eq_true rfl⟩ rfl rfl rfl (wr := (pX cI b q1 q2 k1 k2 z1 z2 z3 z4 z5 ++ fX cI d (T 0 0) (T 0 1) (T 0 2) (T 0 3) (T 0 4) (T 0 5) (T 1) (T 2) (T 3) (T 4) (T 5) (T 6) (T 7) (T 8))) (pm_cnt (fun _ => by simp only [List.countP_append, List.countP_nil, fT]; omega)) (fun _ => by simp only [List.map_append, List.map_nil, fX_m, bX_m, sX_m, pX_m, iaX_m, r5X_m, r6X_m, fT_m, hX_m]) (rest := []) rfl rfl (Nat.le_of_ble_eq_true rfl) dX6_runWeeks_36 (ws2 := (fun _ : Unit => (r6X r0 a b (itX y (t 0 1)) ++ fX cI a (t 0 0) (t 0 1) (t 0 2) (t 0 3) (t 0 4) (t 0 5) (t 1) (t 2) (t 3) (t 4) (tabN (fun i => drR (itX y (i + 1)) % 20) (t 0 1) (t 5)) (t 6) (t 7) (t 8) ++ pX cI b q1 q2 k1 k2 z1 z2 z3 z4 z5 ++ fX cI d (T 0 0) (T 0 1) (T 0 2) (T 0 3) (T 0 4) (T 0 5) (T 1) (T 2) (T 3) (T 4) (T 5) (T 6) (T 7) (T 8)))) (fun _ => (pm_cnt (fun _ => by simp only [List.countP_append, List.countP_nil, fT]; omega))) (fun _ Hp locs hP hD hS => ?_)
        refine lv_aload_n hx hb dX6_runWeeks_39 rfl (lv_at hl 3 rfl) ?_
        refine gp_V (ci := 6) (q0 := 0) (cq := (RX6, TX6, 3)) (c_X6_drawHouses l D cI cZ cF cL r0 b ((itX y (t 0 1))) a (t 0 0) (t 0 1) (t 0 2) (t 0 3) (t 0 4) (t 0 5) (t 1) (t 2) (t 3) (t 4) (tabN (fun i => drR (itX y (i + 1)) % 20) (t 0 1) (t 5)) (t 6) (t 7) (t 8) hF.1.1) (gUV u_898 u_899 u_900 u_48 u_901) rfl hdV_X6_drawHouses ⟨Nat.le_of_ble_eq_true rfl, Nat.le_of_ble_eq_true rfl⟩ ⟨rfl, rfl⟩ hx hb hml hown hts hK hA hP hD hS hl.1 ⟨Nat.le_of_ble_eq_true rfl, Nat.le_of_ble_eq_true rfl⟩ rfl rfl rfl (wr := (pX cI b q1 q2 k1 k2 z1 z2 z3 z4 z5 ++ fX cI d (T 0 0) (T 0 1) (T 0 2) (T 0 3) (T 0 4) (T 0 5) (T 1) (T 2) (T 3) (T 4) (T 5) (T 6) (T 7) (T 8))) (pm_cnt (fun _ => by simp only [List.countP_append, List.countP_nil, fT]; omega)) (fun _ => by simp only [List.map_append, List.map_nil, fX_m, bX_m, sX_m, pX_m, iaX_m, r5X_m, r6X_m, fT_m, hX_m]) (rest := []) rfl rfl (Nat.le_of_ble_eq_true rfl) dX6_runWeeks_40 (ws2 := (fun _ : Unit => (r6X r0 a b (itX ((itX y (t 0 1))) (t 0 0)) ++ fX cI a (t 0 0) (t 0 1) (t 0 2) (t 0 3) (t 0 4) (t 0 5) (t 1) (tabN (fun h => if drR (itX ((itX y (t 0 1))) (h + 1)) % 4 = 1 then 0 else (t 2) h) (t 0 0) (t 2)) (t 3) (tabN (fun h => if drR (itX ((itX y (t 0 1))) (h + 1)) % 4 = 0 then 1 else 0) (t 0 0) (t 4)) (tabN (fun i => drR (itX y (i + 1)) % 20) (t 0 1) (t 5)) (t 6) (t 7) (t 8) ++ pX cI b q1 q2 k1 k2 z1 z2 z3 z4 z5 ++ fX cI d (T 0 0) (T 0 1) (T 0 2) (T 0 3) (T 0 4) (T 0 5) (T 1) (T 2) (T 3) (T 4) (T 5) (T 6) (T 7) (T 8)))) (fun _ => (pm_cnt (fun _ => by simp only [List.countP_append, List.countP_nil, fT]; omega))) (fun _ Hp locs hP hD hS => ?_)
        have hP : va_P D vwCl (r6X r0 a b (itX ((itX y (t 0 1))) (t 0 0)) ++ fX cI a ((housT (harvT t y) (itX y (t 0 1))) 0 0) ((housT (harvT t y) (itX y (t 0 1))) 0 1) ((housT (harvT t y) (itX y (t 0 1))) 0 2) ((housT (harvT t y) (itX y (t 0 1))) 0 3) ((housT (harvT t y) (itX y (t 0 1))) 0 4) ((housT (harvT t y) (itX y (t 0 1))) 0 5) ((housT (harvT t y) (itX y (t 0 1))) 1) ((housT (harvT t y) (itX y (t 0 1))) 2) ((housT (harvT t y) (itX y (t 0 1))) 3) ((housT (harvT t y) (itX y (t 0 1))) 4) ((housT (harvT t y) (itX y (t 0 1))) 5) ((housT (harvT t y) (itX y (t 0 1))) 6) ((housT (harvT t y) (itX y (t 0 1))) 7) ((housT (harvT t y) (itX y (t 0 1))) 8) ++ pX cI b q1 q2 k1 k2 z1 z2 z3 z4 z5 ++ fX cI d (T 0 0) (T 0 1) (T 0 2) (T 0 3) (T 0 4) (T 0 5) (T 1) (T 2) (T 3) (T 4) (T 5) (T 6) (T 7) (T 8)) Hp := hP
        have hD : va_D A (r6X r0 a b (itX ((itX y (t 0 1))) (t 0 0)) ++ fX cI a ((housT (harvT t y) (itX y (t 0 1))) 0 0) ((housT (harvT t y) (itX y (t 0 1))) 0 1) ((housT (harvT t y) (itX y (t 0 1))) 0 2) ((housT (harvT t y) (itX y (t 0 1))) 0 3) ((housT (harvT t y) (itX y (t 0 1))) 0 4) ((housT (harvT t y) (itX y (t 0 1))) 0 5) ((housT (harvT t y) (itX y (t 0 1))) 1) ((housT (harvT t y) (itX y (t 0 1))) 2) ((housT (harvT t y) (itX y (t 0 1))) 3) ((housT (harvT t y) (itX y (t 0 1))) 4) ((housT (harvT t y) (itX y (t 0 1))) 5) ((housT (harvT t y) (itX y (t 0 1))) 6) ((housT (harvT t y) (itX y (t 0 1))) 7) ((housT (harvT t y) (itX y (t 0 1))) 8) ++ pX cI b q1 q2 k1 k2 z1 z2 z3 z4 z5 ++ fX cI d (T 0 0) (T 0 1) (T 0 2) (T 0 3) (T 0 4) (T 0 5) (T 1) (T 2) (T 3) (T 4) (T 5) (T 6) (T 7) (T 8)) := hD
        refine lv_aload_n hx hb dX6_runWeeks_43 rfl (lv_at hl 3 rfl) ?_
        refine gf_n (C := RX6) (T := TX6) (N := 3) (ci := 6) (q0 := 0) (v := .ref (b 0)) hx hb hts (iU inlX6) hown hK hP rfl rfl 1 (by decide) (kU u_122) rfl rfl dX6_runWeeks_44 ?_
        refine lv_aload_n hx hb dX6_runWeeks_47 rfl (lv_at hl 3 rfl) ?_
        refine gf_n (C := RX6) (T := TX6) (N := 3) (ci := 6) (q0 := 0) (v := .ref (a 0)) hx hb hts (iU inlX6) hown hK hP rfl rfl 0 (by decide) (kU u_120) rfl rfl dX6_runWeeks_48 ?_
        refine gp_V (ci := 4) (q0 := 0) (cq := (RX4, TX4, 4)) (c_X4_packWeekT l D cI cZ cF cL b q1 q2 k1 k2 z1 z2 z3 z4 z5 a (housT (harvT t y) (itX y (t 0 1))) (FI_hous (FI_harv hF))) (gUV u_905 u_573 u_574 u_32 u_575) rfl hdV_X4_packWeek ⟨Nat.le_of_ble_eq_true rfl, Nat.le_of_ble_eq_true rfl⟩ ⟨rfl, rfl⟩ hx hb hml hown hts hK hA hP hD hS hl.1 ⟨Nat.le_of_ble_eq_true rfl, Nat.le_of_ble_eq_true rfl⟩ rfl rfl rfl (wr := (r6X r0 a b (itX ((itX y (t 0 1))) (t 0 0)) ++ fX cI d (T 0 0) (T 0 1) (T 0 2) (T 0 3) (T 0 4) (T 0 5) (T 1) (T 2) (T 3) (T 4) (T 5) (T 6) (T 7) (T 8))) (pm_cnt (fun _ => by simp only [List.countP_append, List.countP_nil, fT]; omega)) (fun _ => by simp only [List.map_append, List.map_nil, fX_m, bX_m, sX_m, pX_m, iaX_m, r5X_m, r6X_m, fT_m, hX_m]) (rest := []) rfl rfl (Nat.le_of_ble_eq_true rfl) dX6_runWeeks_51 (ws2 := (fun u_51 : (Nat → Nat) × (Nat → Nat) × Int32 × Int32 × Nat × Nat × Nat × Nat × Nat => (r6X r0 a b (itX ((itX y (t 0 1))) (t 0 0)) ++ fX cI a ((packT (housT (harvT t y) (itX y (t 0 1)))) 0 0) ((packT (housT (harvT t y) (itX y (t 0 1)))) 0 1) ((packT (housT (harvT t y) (itX y (t 0 1)))) 0 2) ((packT (housT (harvT t y) (itX y (t 0 1)))) 0 3) ((packT (housT (harvT t y) (itX y (t 0 1)))) 0 4) ((packT (housT (harvT t y) (itX y (t 0 1)))) 0 5) ((packT (housT (harvT t y) (itX y (t 0 1)))) 1) ((packT (housT (harvT t y) (itX y (t 0 1)))) 2) ((packT (housT (harvT t y) (itX y (t 0 1)))) 3) ((packT (housT (harvT t y) (itX y (t 0 1)))) 4) ((packT (housT (harvT t y) (itX y (t 0 1)))) 5) ((packT (housT (harvT t y) (itX y (t 0 1)))) 6) ((packT (housT (harvT t y) (itX y (t 0 1)))) 7) ((packT (housT (harvT t y) (itX y (t 0 1)))) 8) ++ pX cI b u_51.1 u_51.2.1 u_51.2.2.1 u_51.2.2.2.1 u_51.2.2.2.2.1 u_51.2.2.2.2.2.1 u_51.2.2.2.2.2.2.1 u_51.2.2.2.2.2.2.2.1 u_51.2.2.2.2.2.2.2.2 ++ fX cI d (T 0 0) (T 0 1) (T 0 2) (T 0 3) (T 0 4) (T 0 5) (T 1) (T 2) (T 3) (T 4) (T 5) (T 6) (T 7) (T 8)))) (fun _ => (pm_cnt (fun _ => by simp only [List.countP_append, List.countP_nil, fT]; omega))) (fun u_51 Hp locs hP hD hS => ?_)
        have hP : va_P D vwCl (r6X r0 a b (itX ((itX y (t 0 1))) (t 0 0)) ++ fX cI a ((weekT t y) 0 0) ((weekT t y) 0 1) ((weekT t y) 0 2) ((weekT t y) 0 3) ((weekT t y) 0 4) ((weekT t y) 0 5) ((weekT t y) 1) ((weekT t y) 2) ((weekT t y) 3) ((weekT t y) 4) ((weekT t y) 5) ((weekT t y) 6) ((weekT t y) 7) ((weekT t y) 8) ++ pX cI b u_51.1 u_51.2.1 u_51.2.2.1 u_51.2.2.2.1 u_51.2.2.2.2.1 u_51.2.2.2.2.2.1 u_51.2.2.2.2.2.2.1 u_51.2.2.2.2.2.2.2.1 u_51.2.2.2.2.2.2.2.2 ++ fX cI d (T 0 0) (T 0 1) (T 0 2) (T 0 3) (T 0 4) (T 0 5) (T 1) (T 2) (T 3) (T 4) (T 5) (T 6) (T 7) (T 8)) Hp := hP
        have hD : va_D A (r6X r0 a b (itX ((itX y (t 0 1))) (t 0 0)) ++ fX cI a ((weekT t y) 0 0) ((weekT t y) 0 1) ((weekT t y) 0 2) ((weekT t y) 0 3) ((weekT t y) 0 4) ((weekT t y) 0 5) ((weekT t y) 1) ((weekT t y) 2) ((weekT t y) 3) ((weekT t y) 4) ((weekT t y) 5) ((weekT t y) 6) ((weekT t y) 7) ((weekT t y) 8) ++ pX cI b u_51.1 u_51.2.1 u_51.2.2.1 u_51.2.2.2.1 u_51.2.2.2.2.1 u_51.2.2.2.2.2.1 u_51.2.2.2.2.2.2.1 u_51.2.2.2.2.2.2.2.1 u_51.2.2.2.2.2.2.2.2 ++ fX cI d (T 0 0) (T 0 1) (T 0 2) (T 0 3) (T 0 4) (T 0 5) (T 1) (T 2) (T 3) (T 4) (T 5) (T 6) (T 7) (T 8)) := hD
        refine lv_iload hx hb dX6_runWeeks_54 (lv_at hl 1 rfl) ?_
        refine lv_aload_n hx hb dX6_runWeeks_56 rfl (lv_at hl 3 rfl) ?_
        refine gf_n (C := RX6) (T := TX6) (N := 3) (ci := 6) (q0 := 0) (v := .ref (a 0)) hx hb hts (iU inlX6) hown hK hP rfl rfl 0 (by decide) (kU u_120) rfl rfl dX6_runWeeks_57 ?_
        refine gf_n (C := RX1) (T := TX1) (N := 14) (ci := 1) (q0 := 1) (v := .int (nI ((weekT t y) 0 5))) hx hb hts (iU inlX1) hown hK hP rfl rfl 5 (by decide) (kU u_882) rfl rfl dX6_runWeeks_60 ?_
        refine lv_iadd hx hb dX6_runWeeks_63 ?_
        rw [nI_add k ((weekT t y) 0 5)]
        refine lv_istore (lv' := [(6, .int (nI (k + ((weekT t y) 0 5)))), (7, .int (nI i)), (5, .int (nI (sumN (T 6) (T 0 1)))), (0, .ref r0), (1, .ref (d 0)), (2, .long sd), (4, .int (nI n))]) hx hb dX6_runWeeks_64 hl (by decide) rfl (fun ls hl => ?_)
        refine lv_iinc (v := (nI (i + 1))) (lv' := [(7, .int (nI (i + 1))), (6, .int (nI (k + ((weekT t y) 0 5)))), (5, .int (nI (sumN (T 6) (T 0 1)))), (0, .ref r0), (1, .ref (d 0)), (2, .long sd), (4, .int (nI n))]) hx hb dX6_runWeeks_66 hl (k := 1) rfl (nI_add i 1) (by decide) rfl (fun ls hl => ?_)
        refine lv_goto (tgt := 28) hx hb dX6_runWeeks_69 (by decide) ?_
        exact ih_28 (i + 1) (k + ((weekT t y) 0 5)) ((itX ((itX y (t 0 1))) (t 0 0))) (weekT t y) u_51.1 u_51.2.1 u_51.2.2.1 u_51.2.2.2.1 u_51.2.2.2.2.1 u_51.2.2.2.2.2.1 u_51.2.2.2.2.2.2.1 u_51.2.2.2.2.2.2.2.1 u_51.2.2.2.2.2.2.2.2 (by omega) (by rw [eT, ey]; rfl) (by rw [eT, ey]; rfl) (by rw [ek, eT, ey]; rfl) (FI_week hF) (by omega) _ _ hP hD hS _ (lv_sub hl [0, 1, 2, 3, 4, 5, 6] rfl)
  exact loop_28 ((n - 0) + 1) 0 0 sd T g1 g2 kn kw x1 x2 x3 x4 x5 (by omega) rfl rfl rfl hT (Nat.lt_succ_self _) _ _ hP hD hS _ (lv_sub hl [0, 1, 2, 3, 4, 5, 6] rfl)
