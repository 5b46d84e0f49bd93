set_option maxRecDepth 20000 in
theorem u_612 : Cond.constant RX4 116 (1000000) ∈ wsL_law := List.mem_of_getElem? (i := 208) (by decide +kernel)
set_option maxRecDepth 20000 in
theorem u_98 : Cond.fieldLink RX4 28 "HarvestBoxes$Packer" "swap" "LHarvestBoxes$Swap;" ∈ wsL_law := List.mem_of_getElem? (i := 93) (by decide +kernel)
set_option maxRecDepth 20000 in
theorem u_616 : Cond.code yX7_findFirst cX7_findFirst 4 (some .boolean) ∈ wsL_law := List.mem_of_getElem? (i := 212) (by decide +kernel)
set_option maxRecDepth 20000 in
theorem u_613 : Cond.methodLink RX4 117 yX7_findFirst ∈ wsL_law := List.mem_of_getElem? (i := 209) (by decide +kernel)
set_option maxRecDepth 20000 in
theorem u_614 : Cond.instanceMethod yX7_findFirst ∈ wsL_law := List.mem_of_getElem? (i := 210) (by decide +kernel)
set_option maxRecDepth 20000 in
theorem u_615 : Cond.selects RX7 yX7_findFirst yX7_findFirst ∈ wsL_law := List.mem_of_getElem? (i := 211) (by decide +kernel)
set_option maxRecDepth 20000 in
theorem u_633 : Cond.code yX7_makeIn cX7_makeIn 2 none ∈ wsL_law := List.mem_of_getElem? (i := 229) (by decide +kernel)
set_option maxRecDepth 20000 in
theorem u_630 : Cond.methodLink RX4 121 yX7_makeIn ∈ wsL_law := List.mem_of_getElem? (i := 226) (by decide +kernel)
set_option maxRecDepth 20000 in
theorem u_631 : Cond.instanceMethod yX7_makeIn ∈ wsL_law := List.mem_of_getElem? (i := 227) (by decide +kernel)
set_option maxRecDepth 20000 in
theorem u_632 : Cond.selects RX7 yX7_makeIn yX7_makeIn ∈ wsL_law := List.mem_of_getElem? (i := 228) (by decide +kernel)
theorem hdV_X7_findFirst : yX7_findFirst.cls = RX7 ∧ yX7_findFirst.cls ≠ "java/lang/invoke/MethodHandle" ∧ yX7_findFirst.cls ≠ "java/lang/invoke/VarHandle" ∧ (parseMethodDescriptor yX7_findFirst.desc).map (fun d => d.parameters.length) = some 1 := by decide +kernel
theorem hdV_X7_makeIn : yX7_makeIn.cls = RX7 ∧ yX7_makeIn.cls ≠ "java/lang/invoke/MethodHandle" ∧ yX7_makeIn.cls ≠ "java/lang/invoke/VarHandle" ∧ (parseMethodDescriptor yX7_makeIn.desc).map (fun d => d.parameters.length) = some 1 := by decide +kernel
set_option maxHeartbeats 4000000 in
set_option maxRecDepth 100000 in
theorem c_X4_makeSwaps (l : Launch) (D : va_G) (cI cZ cF cL : ClassId) (b : Nat → Nat) (g1 g2 : Nat → Nat) (kn kw : Int32) (x1 x2 x3 x4 x5 : Nat) (a : Nat → Nat) (nH nV wk ea gi sw : Nat) (f1 f2 f3 f4 f5 f6 f7 f8 : Nat → Nat) (hH : nH ≤ 6) (hV : nV ≤ 5) (b7 : ∀ k, k < 30 → f7 k ≤ 9) (hsum : sumN f8 30 ≤ 200) : CT l D (tysX cI cZ cF cL) yX4_makeSwaps (wA yX4_makeSwaps cX4_makeSwaps 3 (some .int)) (rmF 2 53) [.ref (b 0), .ref (a 0)] (pX cI b g1 g2 kn kw x1 x2 x3 x4 x5 ++ fX cI a nH nV wk ea gi sw f1 f2 f3 f4 f5 f6 f7 f8) (some (.int (nI ((swR f7 nH nV 1801 f8).1)))) (fun u : Nat × Nat × Nat × Nat × Nat => (pX cI b g1 g2 kn kw u.1 u.2.1 u.2.2.1 u.2.2.2.1 u.2.2.2.2 ++ fX cI a nH nV wk ea gi sw f1 f2 f3 f4 f5 f6 f7 ((swR f7 nH nV 1801 f8).2))) := by
  refine ct_in (cc := cX4_makeSwaps) (maxL := 3) (ret := (some .int)) (own := RX4) (lv := [(0, .ref (b 0)), (1, .ref (a 0))]) (by decide +kernel) rfl rfl (Nat.le_of_ble_eq_true rfl) rfl ?_
  intro p e s m args below meth c A ls hx hb hr hml hts hown hlocks hK hA hP hD hS hl
  refine lv_iconst (v := (nI 0)) hx hb dX4_makeSwaps_0 (by decide) ?_
  refine lv_istore_n (lv' := [(2, .int (nI 0)), (0, .ref (b 0)), (1, .ref (a 0))]) hx hb dX4_makeSwaps_1 rfl hl (by decide) rfl (fun ls hl => ?_)
  have loop_2 : ∀ (dd : Nat) (mm : Nat) (h0 : Nat → Nat) (z1 : Nat) (z2 : Nat) (z3 : Nat) (z4 : Nat) (z5 : Nat) (d : Nat), (mm + d = 1801) → (swD f7 nH nV d h0) → (sumN h0 30 ≤ 200) → (swR f7 nH nV 1801 f8 = (mm + (swR f7 nH nV d h0).1, (swR f7 nH nV d h0).2)) → d < dd → ∀ (Hp : Heap) (locs : List Loc), va_P D vwCl (pX cI b g1 g2 kn kw z1 z2 z3 z4 z5 ++ fX cI a nH nV wk ea gi sw f1 f2 f3 f4 f5 f6 f7 h0) Hp → va_D A (pX cI b g1 g2 kn kw z1 z2 z3 z4 z5 ++ fX cI a nH nV wk ea gi sw f1 f2 f3 f4 f5 f6 f7 h0) → va_S A s.heap Hp locs → ∀ ls : Array Slot, lv_has ls 3 [(2, .int (nI mm)), (0, .ref (b 0)), (1, .ref (a 0))] → W p l e (rmF 2 53) s m args below meth c Hp locs 0 0 (MQ below (CQ D (some (.int (nI ((swR f7 nH nV 1801 f8).1)))) (fun u : Nat × Nat × Nat × Nat × Nat => (pX cI b g1 g2 kn kw u.1 u.2.1 u.2.2.1 u.2.2.2.1 u.2.2.2.2 ++ fX cI a nH nV wk ea gi sw f1 f2 f3 f4 f5 f6 f7 ((swR f7 nH nV 1801 f8).2))) A) args s 0 0 A) (F0 m 2 ls []) := by
    intro dd
    induction dd with
    | zero => intro mm h0 z1 z2 z3 z4 z5 d hm1 hDD hs hRR hm; exact absurd hm (Nat.not_lt_zero _)
    | succ dd ih_2 =>
      intro mm h0 z1 z2 z3 z4 z5 d hm1 hDD hs hRR hm Hp locs hP hD hS ls hl
      refine lv_iload_n hx hb dX4_makeSwaps_2 rfl (lv_at hl 0 rfl) ?_
      refine lv_ldc (v := (1000000)) hx hb hown (hts _ (kU u_612)) dX4_makeSwaps_3 ?_
      rw [show ((1000000) : Int32) = nI 1000000 from by decide +kernel]
      refine lv_icmp_ge (tgt := 33) hx hb dX4_makeSwaps_5 (by decide) (fun c_5 => ?_) (fun c_5 => ?_)
      · skip
        replace c_5 := cn_le (by omega) (by omega) c_5
        (exfalso; omega)
      · skip
        replace c_5 := cn_nle (by omega) (by omega) c_5
        refine lv_aload_n hx hb dX4_makeSwaps_8 rfl (lv_at hl 1 rfl) ?_
        refine gf_n (C := RX4) (T := TX4) (N := 4) (ci := 4) (q0 := 0) (v := .ref (b 4)) hx hb hts (iU inlX4) hown hK hP rfl rfl 3 (by decide) (kU u_98) rfl rfl dX4_makeSwaps_9 ?_
        refine lv_aload_n hx hb dX4_makeSwaps_12 rfl (lv_at hl 2 rfl) ?_
        refine go_V (ci := 7) (q0 := 4) (cq := (RX7, TX7, 5)) (c_X7_findFirst l D cI cZ cF cL (b 4) z1 z2 z3 z4 z5 a nH nV wk ea gi sw f1 f2 f3 f4 f5 f6 f7 h0 (by omega) (by omega) b7 (fun k hk => by have := sumN_le1 h0 30 hk; omega)) (gUV u_613 u_614 u_615 u_40 u_616) rfl hdV_X7_findFirst ⟨Nat.le_of_ble_eq_true rfl, Nat.le_of_ble_eq_true rfl⟩ ⟨rfl, rfl⟩ hx hb hml hown hts hK hA hP hD hS hl.1 ⟨Nat.le_of_ble_eq_true rfl, Nat.le_of_ble_eq_true rfl⟩ rfl rfl rfl [4, 5, 6, 7, 8, 9, 10, 11, 12, 13] rfl rfl (fun _ => rfl) (rest := []) rfl rfl (Nat.le_of_ble_eq_true rfl) dX4_makeSwaps_13 (ws2 := (fun _ : Unit => (pX cI b g1 g2 kn kw (slA z1 (bst f7 h0 nH nV (900))) (slB z2 (bst f7 h0 nH nV (900))) (slV z3 (bst f7 h0 nH nV (900))) (slW z4 (bst f7 h0 nH nV (900))) ((bst f7 h0 nH nV (900)).2) ++ fX cI a nH nV wk ea gi sw f1 f2 f3 f4 f5 f6 f7 h0))) (fun _ => rfl) (fun _ Hp locs hP hD hS => ?_)
        refine lv_if_eq (tgt := 33) hx hb dX4_makeSwaps_16 (by decide) (fun c_16 => ?_) (fun c_16 => ?_)
        · skip
          replace c_16 := cb_z c_16
          refine lv_iload_n hx hb dX4_makeSwaps_33 rfl (lv_at hl 0 rfl) ?_
          exact ct_i (slA z1 (bst f7 h0 nH nV (900)), slB z2 (bst f7 h0 nH nV (900)), slV z3 (bst f7 h0 nH nV (900)), slW z4 (bst f7 h0 nH nV (900)), (bst f7 h0 nH nV (900)).2) hx hb hr hlocks (by rw [hRR, swR_z c_16]; exact hP) hS (by rw [hRR, swR_z c_16]; rfl) dX4_makeSwaps_34
        · skip
          replace c_16 := cb_nz c_16
          obtain ⟨d0, rfl⟩ : ∃ d0, d = d0 + 1 := by
            cases d with
            | zero => exact absurd c_16 (by rw [swD_0.mp hDD]; exact Nat.lt_irrefl 0)
            | succ d0 => exact ⟨d0, rfl⟩
          obtain ⟨xa, xb, xv, xw, ja, jb, jv, jw, t1, t2, t3, t4, t5, t6, t7, t8⟩ := bst_what c_16
          have eA : slA z1 (bst f7 h0 nH nV 900) = xa := by rw [ja]; exact if_pos c_16
          have eB : slB z2 (bst f7 h0 nH nV 900) = xb := by rw [jb]; exact if_pos c_16
          have eV : slV z3 (bst f7 h0 nH nV 900) = xv := by rw [jv]; exact if_pos c_16
          have eW : slW z4 (bst f7 h0 nH nV 900) = xw := by rw [jw]; exact if_pos c_16
          have eK : swK h0 (slA z1 (bst f7 h0 nH nV 900)) (slB z2 (bst f7 h0 nH nV 900)) (slV z3 (bst f7 h0 nH nV 900)) (slW z4 (bst f7 h0 nH nV 900)) = swP h0 (bst f7 h0 nH nV 900).1 := by
            unfold swP
            rw [eA, eB, eV, eW, ja, jb, jv, jw]
          have eR : swR f7 nH nV (d0 + 1) h0 = ((swR f7 nH nV d0 (swP h0 (bst f7 h0 nH nV 900).1)).1 + 1, (swR f7 nH nV d0 (swP h0 (bst f7 h0 nH nV 900).1)).2) := by rw [swR, if_pos c_16]
          have t9 : xv ≠ xw := fun q => by subst q; omega
          refine lv_aload_n hx hb dX4_makeSwaps_19 rfl (lv_at hl 1 rfl) ?_
          refine gf_n (C := RX4) (T := TX4) (N := 4) (ci := 4) (q0 := 0) (v := .ref (b 4)) hx hb hts (iU inlX4) hown hK hP rfl rfl 3 (by decide) (kU u_98) rfl rfl dX4_makeSwaps_20 ?_
          refine lv_aload_n hx hb dX4_makeSwaps_23 rfl (lv_at hl 2 rfl) ?_
          refine go_V (ci := 7) (q0 := 4) (cq := (RX7, TX7, 5)) (c_X7_makeIn l D cI cZ cF cL (b 4) (slA z1 (bst f7 h0 nH nV (900))) (slB z2 (bst f7 h0 nH nV (900))) (slV z3 (bst f7 h0 nH nV (900))) (slW z4 (bst f7 h0 nH nV (900))) ((bst f7 h0 nH nV (900)).2) a nH nV wk ea gi sw f1 f2 f3 f4 f5 f6 f7 h0 (by rw [eA, eB]; exact t1) (by rw [eB]; omega) (by rw [eV]; omega) (by rw [eW]; omega) (by rw [eV, eW]; exact t9) (by rw [eA, eV]; exact t5) (by rw [eB, eW]; exact t6)) (gUV u_630 u_631 u_632 u_40 u_633) rfl hdV_X7_makeIn ⟨Nat.le_of_ble_eq_true rfl, Nat.le_of_ble_eq_true rfl⟩ ⟨rfl, rfl⟩ hx hb hml hown hts hK hA hP hD hS hl.1 ⟨Nat.le_of_ble_eq_true rfl, Nat.le_of_ble_eq_true rfl⟩ rfl rfl rfl [4, 5, 6, 7, 8, 9, 10, 11, 12, 13] rfl rfl (fun _ => rfl) (rest := []) rfl rfl (Nat.le_of_ble_eq_true rfl) dX4_makeSwaps_24 (ws2 := (fun _ : Unit => (pX cI b g1 g2 kn kw (slA z1 (bst f7 h0 nH nV (900))) (slB z2 (bst f7 h0 nH nV (900))) (slV z3 (bst f7 h0 nH nV (900))) (slW z4 (bst f7 h0 nH nV (900))) ((bst f7 h0 nH nV (900)).2) ++ fX cI a nH nV wk ea gi sw f1 f2 f3 f4 f5 f6 f7 (swK h0 (slA z1 (bst f7 h0 nH nV (900))) (slB z2 (bst f7 h0 nH nV (900))) (slV z3 (bst f7 h0 nH nV (900))) (slW z4 (bst f7 h0 nH nV (900))))))) (fun _ => rfl) (fun _ Hp locs hP hD hS => ?_)
          refine lv_iinc (v := (nI (mm + 1))) (lv' := [(2, .int (nI (mm + 1))), (0, .ref (b 0)), (1, .ref (a 0))]) hx hb dX4_makeSwaps_27 hl (k := 0) rfl (nI_add mm 1) (by decide) rfl (fun ls hl => ?_)
          refine lv_goto (tgt := 2) hx hb dX4_makeSwaps_30 (by decide) ?_
          exact ih_2 (mm + 1) (swK h0 (slA z1 (bst f7 h0 nH nV (900))) (slB z2 (bst f7 h0 nH nV (900))) (slV z3 (bst f7 h0 nH nV (900))) (slW z4 (bst f7 h0 nH nV (900)))) (slA z1 (bst f7 h0 nH nV (900))) (slB z2 (bst f7 h0 nH nV (900))) (slV z3 (bst f7 h0 nH nV (900))) (slW z4 (bst f7 h0 nH nV (900))) ((bst f7 h0 nH nV (900)).2) d0 (by omega) (by rw [eK]; exact swD_s.mp hDD c_16) (by rw [eK, swP_sum hH hV c_16]; exact hs) (by rw [eK, hRR, eR]; exact Prod.ext (by dsimp only; omega) rfl) (by omega) _ _ hP hD hS _ (lv_sub hl [0, 1, 2] rfl)
  exact loop_2 (1801 + 1) 0 f8 x1 x2 x3 x4 x5 1801 (by omega) (swD_of hH hV b7 1801 f8 hsum (by omega)) hsum (by rw [Nat.zero_add]) (Nat.lt_succ_self _) _ _ hP hD hS _ (lv_sub hl [0, 1, 2] rfl)

