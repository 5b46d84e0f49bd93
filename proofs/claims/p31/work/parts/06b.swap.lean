set_option maxRecDepth 20000 in
theorem u_618 : Cond.fieldLink RX7 15 "HarvestBoxes$Farm" "houses" "I" ∈ wsL_law := List.mem_of_getElem? (i := 214) (by decide +kernel)
set_option maxRecDepth 20000 in
theorem u_622 : Cond.code yX7_findBetween cX7_findBetween 11 none ∈ wsL_law := List.mem_of_getElem? (i := 218) (by decide +kernel)
set_option maxRecDepth 20000 in
theorem u_619 : Cond.methodLink RX7 20 yX7_findBetween ∈ wsL_law := List.mem_of_getElem? (i := 215) (by decide +kernel)
set_option maxRecDepth 20000 in
theorem u_620 : Cond.instanceMethod yX7_findBetween ∈ wsL_law := List.mem_of_getElem? (i := 216) (by decide +kernel)
set_option maxRecDepth 20000 in
theorem u_621 : Cond.selects RX7 yX7_findBetween yX7_findBetween ∈ wsL_law := List.mem_of_getElem? (i := 217) (by decide +kernel)
set_option maxRecDepth 20000 in
theorem u_40 : Cond.initialized RX7 ∈ wsL_law := List.mem_of_getElem? (i := 35) (by decide +kernel)
theorem hdV_X7_findBetween : yX7_findBetween.cls = RX7 ∧ yX7_findBetween.cls ≠ "java/lang/invoke/MethodHandle" ∧ yX7_findBetween.cls ≠ "java/lang/invoke/VarHandle" ∧ (parseMethodDescriptor yX7_findBetween.desc).map (fun d => d.parameters.length) = some 3 := by decide +kernel
set_option maxHeartbeats 4000000 in
set_option maxRecDepth 100000 in
theorem c_X7_findFirst (l : Launch) (D : va_G) (cI cZ cF cL : ClassId) (s0 : Nat) (y1 y2 y3 y4 y5 : Nat) (a : Nat → Nat) (nH nV wk ea gi sw : Nat) (f1 f2 f3 f4 f5 f6 f7 f8 : Nat → Nat) (hH : nH ≤ 6) (hV : nV ≤ 5) (b7 : ∀ k, k < 30 → f7 k ≤ 9) (b8 : ∀ k, k < 30 → f8 k < 2 ^ 31) : CT l D (tysX cI cZ cF cL) yX7_findFirst (wA yX7_findFirst cX7_findFirst 4 (some .boolean)) (rmF 1 30) [.ref s0, .ref (a 0)] (sX s0 y1 y2 y3 y4 y5 ++ fX cI a nH nV wk ea gi sw f1 f2 f3 f4 f5 f6 f7 f8) (some (.int (if (0 < (bst f7 f8 nH nV 900).2) then 1 else 0))) (fun _ : Unit => (sX s0 (slA y1 (bst f7 f8 nH nV (900))) (slB y2 (bst f7 f8 nH nV (900))) (slV y3 (bst f7 f8 nH nV (900))) (slW y4 (bst f7 f8 nH nV (900))) ((bst f7 f8 nH nV (900)).2) ++ fX cI a nH nV wk ea gi sw f1 f2 f3 f4 f5 f6 f7 f8)) := by
  refine ct_in (cc := cX7_findFirst) (maxL := 4) (ret := (some .boolean)) (own := RX7) (lv := [(0, .ref s0), (1, .ref (a 0))]) (by decide +kernel) rfl rfl (Nat.le_of_ble_eq_true rfl) rfl ?_
  intro p e s m args below meth c A ls hx hb hr hml hts hown hlocks hK hA hP hD hS hl
  refine lv_aload_n hx hb dX7_findFirst_0 rfl (lv_at hl 0 rfl) ?_
  refine lv_iconst (v := (nI 0)) hx hb dX7_findFirst_1 (by decide) ?_
  refine pf_n (C := RX7) (T := TX7) (N := 5) (ci := 7) (q0 := 0) (ty := .int) (v := .int (nI 0)) (ws2 := (sX s0 y1 y2 y3 y4 0 ++ fX cI a nH nV wk ea gi sw f1 f2 f3 f4 f5 f6 f7 f8)) hx hb hts (iU inlX7) tyX7 tyX7_ok nmX7 hown hK hP hD hS rfl rfl 4 (by decide) (kU u_617) rfl rfl (tyX7_ok 4 (by decide)) rfl rfl (Nat.le_of_ble_eq_true rfl) dX7_findFirst_2 rfl (fun Hp locs hP hD hS => ?_)
  refine lv_iconst (v := (nI 0)) hx hb dX7_findFirst_5 (by decide) ?_
  refine lv_istore_n (lv' := [(2, .int (nI 0)), (0, .ref s0), (1, .ref (a 0))]) hx hb dX7_findFirst_6 rfl hl (by decide) rfl (fun ls hl => ?_)
  have loop_7 : ∀ (dd : Nat) (i : Nat) (z1 : Nat) (z2 : Nat) (z3 : Nat) (z4 : Nat) (z5 : Nat), (i ≤ nH) → (z1 = slA y1 (bst f7 f8 nH nV (150 * i))) → (z2 = slB y2 (bst f7 f8 nH nV (150 * i))) → (z3 = slV y3 (bst f7 f8 nH nV (150 * i))) → (z4 = slW y4 (bst f7 f8 nH nV (150 * i))) → (z5 = (bst f7 f8 nH nV (150 * i)).2) → (nH - i) < dd → ∀ (Hp : Heap) (locs : List Loc), va_P D vwCl (sX s0 z1 z2 z3 z4 z5 ++ fX cI a nH nV wk ea gi sw f1 f2 f3 f4 f5 f6 f7 f8) Hp → va_D A (sX s0 z1 z2 z3 z4 z5 ++ fX cI a nH nV wk ea gi sw f1 f2 f3 f4 f5 f6 f7 f8) → va_S A s.heap Hp locs → ∀ ls : Array Slot, lv_has ls 4 [(2, .int (nI i)), (0, .ref s0), (1, .ref (a 0))] → W p l e (rmF 1 30) s m args below meth c Hp locs 0 0 (MQ below (CQ D (some (.int (if (0 < (bst f7 f8 nH nV 900).2) then 1 else 0))) (fun _ : Unit => (sX s0 (slA y1 (bst f7 f8 nH nV (900))) (slB y2 (bst f7 f8 nH nV (900))) (slV y3 (bst f7 f8 nH nV (900))) (slW y4 (bst f7 f8 nH nV (900))) ((bst f7 f8 nH nV (900)).2) ++ fX cI a nH nV wk ea gi sw f1 f2 f3 f4 f5 f6 f7 f8)) A) args s 0 0 A) (F0 m 7 ls []) := by
    intro dd
    induction dd with
    | zero => intro i z1 z2 z3 z4 z5 hi p1 p2 p3 p4 p5 hm; exact absurd hm (Nat.not_lt_zero _)
    | succ dd ih_7 =>
      intro i z1 z2 z3 z4 z5 hi p1 p2 p3 p4 p5 hm Hp locs hP hD hS ls hl
      subst p1
      subst p2
      subst p3
      subst p4
      subst p5
      refine lv_iload_n hx hb dX7_findFirst_7 rfl (lv_at hl 0 rfl) ?_
      refine lv_aload_n hx hb dX7_findFirst_8 rfl (lv_at hl 2 rfl) ?_
      refine gf_n (C := RX1) (T := TX1) (N := 14) (ci := 1) (q0 := 1) (v := .int (nI nH)) hx hb hts (iU inlX1) hown hK hP rfl rfl 0 (by decide) (kU u_618) rfl rfl dX7_findFirst_9 ?_
      refine lv_icmp_ge (tgt := 46) hx hb dX7_findFirst_12 (by decide) (fun c_12 => ?_) (fun c_12 => ?_)
      · skip
        replace c_12 := cn_le (by omega) (by omega) c_12
        refine lv_aload_n hx hb dX7_findFirst_46 rfl (lv_at hl 1 rfl) ?_
        refine gf_n (C := RX7) (T := TX7) (N := 5) (ci := 7) (q0 := 0) (v := .int (nI ((bst f7 f8 nH nV (150 * i)).2))) hx hb hts (iU inlX7) hown hK hP rfl rfl 4 (by decide) (kU u_617) rfl rfl dX7_findFirst_47 ?_
        refine lv_if_le (tgt := 57) hx hb dX7_findFirst_50 (by decide) (fun c_50 => ?_) (fun c_50 => ?_)
        · skip
          replace c_50 := cn_le (b := 0) (Nat.lt_of_le_of_lt (bst_le hH hV b7 _) (by decide)) (by decide) c_50
          refine lv_iconst (v := (nI 0)) hx hb dX7_findFirst_57 (by decide) ?_
          exact ct_z () hx hb hr hlocks (by rw [bst_a c_12 (by omega)]; exact hP) hS (by first | exact z_t (by rw [bst_a c_12 (by omega)]; exact c_50) | exact z_f (by rw [bst_a c_12 (by omega)]; exact Nat.not_lt.mpr c_50)) dX7_findFirst_58
        · skip
          replace c_50 := cn_nle (b := 0) (Nat.lt_of_le_of_lt (bst_le hH hV b7 _) (by decide)) (by decide) c_50
          refine lv_iconst (v := (nI 1)) hx hb dX7_findFirst_53 (by decide) ?_
          refine lv_goto (tgt := 58) hx hb dX7_findFirst_54 (by decide) ?_
          exact ct_z () hx hb hr hlocks (by rw [bst_a c_12 (by omega)]; exact hP) hS (by first | exact z_t (by rw [bst_a c_12 (by omega)]; exact c_50) | exact z_f (by rw [bst_a c_12 (by omega)]; exact Nat.not_lt.mpr c_50)) dX7_findFirst_58
      · skip
        replace c_12 := cn_nle (by omega) (by omega) c_12
        refine lv_iload_n hx hb dX7_findFirst_15 rfl (lv_at hl 0 rfl) ?_
        refine lv_iconst (v := (nI 1)) hx hb dX7_findFirst_16 (by decide) ?_
        refine lv_iadd hx hb dX7_findFirst_17 ?_
        rw [nI_add i 1]
        refine lv_istore_n (lv' := [(3, .int (nI (i + 1))), (2, .int (nI i)), (0, .ref s0), (1, .ref (a 0))]) hx hb dX7_findFirst_18 rfl hl (by decide) rfl (fun ls hl => ?_)
        have loop_19 : ∀ (dd : Nat) (j : Nat) (w1 : Nat) (w2 : Nat) (w3 : Nat) (w4 : Nat) (w5 : Nat), (i + 1 ≤ j ∧ j ≤ 6) → (w1 = slA y1 (bst f7 f8 nH nV (150 * i + 25 * j))) → (w2 = slB y2 (bst f7 f8 nH nV (150 * i + 25 * j))) → (w3 = slV y3 (bst f7 f8 nH nV (150 * i + 25 * j))) → (w4 = slW y4 (bst f7 f8 nH nV (150 * i + 25 * j))) → (w5 = (bst f7 f8 nH nV (150 * i + 25 * j)).2) → (nH - j) < dd → ∀ (Hp : Heap) (locs : List Loc), va_P D vwCl (sX s0 w1 w2 w3 w4 w5 ++ fX cI a nH nV wk ea gi sw f1 f2 f3 f4 f5 f6 f7 f8) Hp → va_D A (sX s0 w1 w2 w3 w4 w5 ++ fX cI a nH nV wk ea gi sw f1 f2 f3 f4 f5 f6 f7 f8) → va_S A s.heap Hp locs → ∀ ls : Array Slot, lv_has ls 4 [(3, .int (nI j)), (2, .int (nI i)), (0, .ref s0), (1, .ref (a 0))] → W p l e (rmF 1 30) s m args below meth c Hp locs 0 0 (MQ below (CQ D (some (.int (if (0 < (bst f7 f8 nH nV 900).2) then 1 else 0))) (fun _ : Unit => (sX s0 (slA y1 (bst f7 f8 nH nV (900))) (slB y2 (bst f7 f8 nH nV (900))) (slV y3 (bst f7 f8 nH nV (900))) (slW y4 (bst f7 f8 nH nV (900))) ((bst f7 f8 nH nV (900)).2) ++ fX cI a nH nV wk ea gi sw f1 f2 f3 f4 f5 f6 f7 f8)) A) args s 0 0 A) (F0 m 19 ls []) := by
          intro dd
          induction dd with
          | zero => intro j w1 w2 w3 w4 w5 hj q1 q2 q3 q4 q5 hm; exact absurd hm (Nat.not_lt_zero _)
          | succ dd ih_19 =>
            intro j w1 w2 w3 w4 w5 hj q1 q2 q3 q4 q5 hm Hp locs hP hD hS ls hl
            subst q1
            subst q2
            subst q3
            subst q4
            subst q5
            refine lv_iload_n hx hb dX7_findFirst_19 rfl (lv_at hl 0 rfl) ?_
            refine lv_aload_n hx hb dX7_findFirst_20 rfl (lv_at hl 3 rfl) ?_
            refine gf_n (C := RX1) (T := TX1) (N := 14) (ci := 1) (q0 := 1) (v := .int (nI nH)) hx hb hts (iU inlX1) hown hK hP rfl rfl 0 (by decide) (kU u_618) rfl rfl dX7_findFirst_21 ?_
            refine lv_icmp_ge (tgt := 40) hx hb dX7_findFirst_24 (by decide) (fun c_24 => ?_) (fun c_24 => ?_)
            · skip
              replace c_24 := cn_le (by omega) (by omega) c_24
              refine lv_iinc (v := (nI (i + 1))) (lv' := [(2, .int (nI (i + 1))), (3, .int (nI j)), (0, .ref s0), (1, .ref (a 0))]) hx hb dX7_findFirst_40 hl (k := 1) rfl (nI_add i 1) (by decide) rfl (fun ls hl => ?_)
              refine lv_goto (tgt := 7) hx hb dX7_findFirst_43 (by decide) ?_
              exact ih_7 (i + 1) (slA y1 (bst f7 f8 nH nV (150 * i + 25 * j))) (slB y2 (bst f7 f8 nH nV (150 * i + 25 * j))) (slV y3 (bst f7 f8 nH nV (150 * i + 25 * j))) (slW y4 (bst f7 f8 nH nV (150 * i + 25 * j))) ((bst f7 f8 nH nV (150 * i + 25 * j)).2) (by omega) (congrArg (fun z => slA y1 z) (bst_b c_24 hj.2)) (congrArg (fun z => slB y2 z) (bst_b c_24 hj.2)) (congrArg (fun z => slV y3 z) (bst_b c_24 hj.2)) (congrArg (fun z => slW y4 z) (bst_b c_24 hj.2)) (congrArg (fun z => Prod.snd z) (bst_b c_24 hj.2)) (by omega) _ _ hP hD hS _ (lv_sub hl [0, 2, 3] rfl)
            · skip
              replace c_24 := cn_nle (by omega) (by omega) c_24
              refine lv_aload_n hx hb dX7_findFirst_27 rfl (lv_at hl 2 rfl) ?_
              refine lv_aload_n hx hb dX7_findFirst_28 rfl (lv_at hl 3 rfl) ?_
              refine lv_iload_n hx hb dX7_findFirst_29 rfl (lv_at hl 1 rfl) ?_
              refine lv_iload_n hx hb dX7_findFirst_30 rfl (lv_at hl 0 rfl) ?_
              refine go_V (ci := 7) (q0 := 0) (cq := (RX7, TX7, 5)) (c_X7_findBetween l D cI cZ cF cL s0 (slA y1 (bst f7 f8 nH nV (150 * i + 25 * j))) (slB y2 (bst f7 f8 nH nV (150 * i + 25 * j))) (slV y3 (bst f7 f8 nH nV (150 * i + 25 * j))) (slW y4 (bst f7 f8 nH nV (150 * i + 25 * j))) ((bst f7 f8 nH nV (150 * i + 25 * j)).2) a nH nV wk ea gi sw f1 f2 f3 f4 f5 f6 f7 f8 y1 y2 y3 y4 i j (by omega) (by omega) (by omega) (by omega) b7 b8 rfl rfl rfl rfl rfl) (gUV u_619 u_620 u_621 u_40 u_622) rfl hdV_X7_findBetween ⟨Nat.le_of_ble_eq_true rfl, Nat.le_of_ble_eq_true rfl⟩ ⟨rfl, rfl⟩ hx hb hml hown hts hK hA hP hD hS hl.1 ⟨Nat.le_of_ble_eq_true rfl, Nat.le_of_ble_eq_true rfl⟩ rfl rfl rfl [0, 1, 2, 3, 4, 5, 6, 7, 8, 9] rfl rfl (fun _ => rfl) (rest := []) rfl rfl (Nat.le_of_ble_eq_true rfl) dX7_findFirst_31 (ws2 := (fun _ : Unit => (sX s0 (slA y1 (bst f7 f8 nH nV (150 * i + 25 * j + 25))) (slB y2 (bst f7 f8 nH nV (150 * i + 25 * j + 25))) (slV y3 (bst f7 f8 nH nV (150 * i + 25 * j + 25))) (slW y4 (bst f7 f8 nH nV (150 * i + 25 * j + 25))) ((bst f7 f8 nH nV (150 * i + 25 * j + 25)).2) ++ fX cI a nH nV wk ea gi sw f1 f2 f3 f4 f5 f6 f7 f8))) (fun _ => rfl) (fun _ Hp locs hP hD hS => ?_)
              refine lv_iinc (v := (nI (j + 1))) (lv' := [(3, .int (nI (j + 1))), (2, .int (nI i)), (0, .ref s0), (1, .ref (a 0))]) hx hb dX7_findFirst_34 hl (k := 0) rfl (nI_add j 1) (by decide) rfl (fun ls hl => ?_)
              refine lv_goto (tgt := 19) hx hb dX7_findFirst_37 (by decide) ?_
              exact ih_19 (j + 1) (slA y1 (bst f7 f8 nH nV (150 * i + 25 * j + 25))) (slB y2 (bst f7 f8 nH nV (150 * i + 25 * j + 25))) (slV y3 (bst f7 f8 nH nV (150 * i + 25 * j + 25))) (slW y4 (bst f7 f8 nH nV (150 * i + 25 * j + 25))) ((bst f7 f8 nH nV (150 * i + 25 * j + 25)).2) (by omega) (congrArg (fun n => slA y1 (bst f7 f8 nH nV n)) (show 150 * i + 25 * j + 25 = 150 * i + 25 * (j + 1) by omega)) (congrArg (fun n => slB y2 (bst f7 f8 nH nV n)) (show 150 * i + 25 * j + 25 = 150 * i + 25 * (j + 1) by omega)) (congrArg (fun n => slV y3 (bst f7 f8 nH nV n)) (show 150 * i + 25 * j + 25 = 150 * i + 25 * (j + 1) by omega)) (congrArg (fun n => slW y4 (bst f7 f8 nH nV n)) (show 150 * i + 25 * j + 25 = 150 * i + 25 * (j + 1) by omega)) (congrArg (fun n => (bst f7 f8 nH nV n).2) (show 150 * i + 25 * j + 25 = 150 * i + 25 * (j + 1) by omega)) (by omega) _ _ hP hD hS _ (lv_sub hl [0, 1, 2, 3] rfl)
        exact loop_19 ((nH - (i + 1)) + 1) (i + 1) (slA y1 (bst f7 f8 nH nV (150 * i))) (slB y2 (bst f7 f8 nH nV (150 * i))) (slV y3 (bst f7 f8 nH nV (150 * i))) (slW y4 (bst f7 f8 nH nV (150 * i))) ((bst f7 f8 nH nV (150 * i)).2) (by omega) (congrArg (fun z => slA y1 z) (bst_ab (by omega))) (congrArg (fun z => slB y2 z) (bst_ab (by omega))) (congrArg (fun z => slV y3 z) (bst_ab (by omega))) (congrArg (fun z => slW y4 z) (bst_ab (by omega))) (congrArg (fun z => Prod.snd z) (bst_ab (by omega))) (Nat.lt_succ_self _) _ _ hP hD hS _ (lv_sub hl [0, 1, 2, 3] rfl)
  exact loop_7 ((nH - 0) + 1) 0 y1 y2 y3 y4 0 (by omega) (congrArg (fun z => slA y1 z) bst_0.symm) (congrArg (fun z => slB y2 z) bst_0.symm) (congrArg (fun z => slV y3 z) bst_0.symm) (congrArg (fun z => slW y4 z) bst_0.symm) (congrArg (fun z => Prod.snd z) bst_0.symm) (Nat.lt_succ_self _) _ _ hP hD hS _ (lv_sub hl [0, 1, 2] rfl)

