/-- the swap that is made first, as the system tells it -/
def firT (T : Nat → Nat → Nat) (y1 y2 y3 y4 : Nat) : Int32 := if 0 < (bst (T 7) (T 8) (T 0 0) (T 0 1) 900).2 then nI (1000 * (slA y1 (bst (T 7) (T 8) (T 0 0) (T 0 1) 900)) + 100 * (slB y2 (bst (T 7) (T 8) (T 0 0) (T 0 1) 900)) + 10 * (slV y3 (bst (T 7) (T 8) (T 0 0) (T 0 1) 900)) + slW y4 (bst (T 7) (T 8) (T 0 0) (T 0 1) 900)) else -9
set_option maxRecDepth 20000 in
theorem u_41 : Cond.fieldLink RX8 58 "HarvestBoxes" "swap" "LHarvestBoxes$Swap;" ∈ wsL_law := List.mem_of_getElem? (i := 36) (by decide +kernel)
set_option maxRecDepth 20000 in
theorem u_792 : Cond.methodLink RX8 256 yX7_findFirst ∈ wsL_law := List.mem_of_getElem? (i := 248) (by decide +kernel)
set_option maxRecDepth 20000 in
theorem u_796 : Cond.code yX7_number cX7_number 1 (some .int) ∈ wsL_law := List.mem_of_getElem? (i := 252) (by decide +kernel)
set_option maxRecDepth 20000 in
theorem u_793 : Cond.methodLink RX8 260 yX7_number ∈ wsL_law := List.mem_of_getElem? (i := 249) (by decide +kernel)
set_option maxRecDepth 20000 in
theorem u_794 : Cond.instanceMethod yX7_number ∈ wsL_law := List.mem_of_getElem? (i := 250) (by decide +kernel)
set_option maxRecDepth 20000 in
theorem u_795 : Cond.selects RX7 yX7_number yX7_number ∈ wsL_law := List.mem_of_getElem? (i := 251) (by decide +kernel)
theorem hdV_X7_number : yX7_number.cls = RX7 ∧ yX7_number.cls ≠ "java/lang/invoke/MethodHandle" ∧ yX7_number.cls ≠ "java/lang/invoke/VarHandle" ∧ (parseMethodDescriptor yX7_number.desc).map (fun d => d.parameters.length) = some 0 := by decide +kernel
set_option maxHeartbeats 4000000 in
set_option maxRecDepth 100000 in
theorem c_X8_firstSwap (l : Launch) (D : va_G) (cI cZ cF cL : ClassId) (rx : Nat) (tt a tr : Nat → Nat) (r3 rs rz : Nat) (b : Nat → Nat) (b0 s0 r5 r6 : Nat) (T : Nat → Nat → Nat) (y1 y2 y3 y4 y5 : Nat) (hT : FI T) : CT l D (tysX cI cZ cF cL) yX8_firstSwap (wA yX8_firstSwap cX8_firstSwap 1 (some .int)) (rmF 2 53) [.ref rx] (xX rx tt a tr r3 rs rz b b0 s0 r5 r6 ++ fX cI a (T 0 0) (T 0 1) (T 0 2) (T 0 3) (T 0 4) (T 0 5) (T 1) (T 2) (T 3) (T 4) (T 5) (T 6) (T 7) (T 8) ++ sX s0 y1 y2 y3 y4 y5) (some (.int (firT T y1 y2 y3 y4))) (fun _ : Unit => (xX rx tt a tr r3 rs rz b b0 s0 r5 r6 ++ fX cI a (T 0 0) (T 0 1) (T 0 2) (T 0 3) (T 0 4) (T 0 5) (T 1) (T 2) (T 3) (T 4) (T 5) (T 6) (T 7) (T 8) ++ sX s0 (slA y1 (bst (T 7) (T 8) (T 0 0) (T 0 1) 900)) (slB y2 (bst (T 7) (T 8) (T 0 0) (T 0 1) 900)) (slV y3 (bst (T 7) (T 8) (T 0 0) (T 0 1) 900)) (slW y4 (bst (T 7) (T 8) (T 0 0) (T 0 1) 900)) ((bst (T 7) (T 8) (T 0 0) (T 0 1) 900).2))) := by
  refine ct_in (cc := cX8_firstSwap) (maxL := 1) (ret := (some .int)) (own := RX8) (lv := [(0, .ref rx)]) (by decide +kernel) rfl rfl (Nat.le_of_ble_eq_true rfl) rfl ?_
  intro p e s m args below meth c A ls hx hb hr hml hts hown hlocks hK hA hP hD hS hl
  refine lv_aload_n hx hb dX8_firstSwap_0 rfl (lv_at hl 0 rfl) ?_
  refine gf_n (C := RX8) (T := TX8) (N := 11) (ci := 8) (q0 := 0) (v := .ref s0) hx hb hts (iU inlX8) hown hK hP rfl rfl 8 (by decide) (kU u_41) rfl rfl dX8_firstSwap_1 ?_
  refine lv_aload_n hx hb dX8_firstSwap_4 rfl (lv_at hl 0 rfl) ?_
  refine gf_n (C := RX8) (T := TX8) (N := 11) (ci := 8) (q0 := 0) (v := .ref (a 0)) hx hb hts (iU inlX8) hown hK hP rfl rfl 1 (by decide) (kU u_21) rfl rfl dX8_firstSwap_5 ?_
  refine gp_V (ci := 7) (q0 := 0) (cq := (RX7, TX7, 5)) (c_X7_findFirst l D cI cZ cF cL s0 y1 y2 y3 y4 y5 a (T 0 0) (T 0 1) (T 0 2) (T 0 3) (T 0 4) (T 0 5) (T 1) (T 2) (T 3) (T 4) (T 5) (T 6) (T 7) (T 8) hT.1.1 hT.1.2 hT.2.2.2.1 (fun k hk => by have := FI_8 hT hk; omega)) (gUV u_792 u_614 u_615 u_40 u_616) rfl hdV_X7_findFirst ⟨Nat.le_of_ble_eq_true rfl, Nat.le_of_ble_eq_true rfl⟩ ⟨rfl, rfl⟩ hx hb hml hown hts hK hA hP hD hS hl.1 ⟨Nat.le_of_ble_eq_true rfl, Nat.le_of_ble_eq_true rfl⟩ rfl rfl rfl (wr := (xX rx tt a tr r3 rs rz b b0 s0 r5 r6)) (pm_cnt (fun _ => by simp only [List.countP_append, List.countP_nil, fT] <;> omega)) (fun _ => by simp only [List.map_append, List.map_nil, fX_m, bX_m, sX_m, pX_m, iaX_m, r5X_m, r6X_m, fT_m, hX_m, tX_m, xX_m, sgX_m, zaX_m, fsB_a]) (rest := []) rfl rfl (Nat.le_of_ble_eq_true rfl) dX8_firstSwap_8 (ws2 := (fun _ : Unit => (xX rx tt a tr r3 rs rz b b0 s0 r5 r6 ++ fX cI a (T 0 0) (T 0 1) (T 0 2) (T 0 3) (T 0 4) (T 0 5) (T 1) (T 2) (T 3) (T 4) (T 5) (T 6) (T 7) (T 8) ++ sX s0 (slA y1 (bst (T 7) (T 8) (T 0 0) (T 0 1) (900))) (slB y2 (bst (T 7) (T 8) (T 0 0) (T 0 1) (900))) (slV y3 (bst (T 7) (T 8) (T 0 0) (T 0 1) (900))) (slW y4 (bst (T 7) (T 8) (T 0 0) (T 0 1) (900))) ((bst (T 7) (T 8) (T 0 0) (T 0 1) (900)).2)))) (fun _ => (pm_cnt (fun _ => by simp only [List.countP_append, List.countP_nil, fT] <;> omega))) (fun _ Hp locs hP hD hS => ?_)
  refine lv_if_eq (tgt := 24) hx hb dX8_firstSwap_11 (by decide) (fun c_11 => ?_) (fun c_11 => ?_)
  · skip
    replace c_11 := cb_z c_11
    refine lv_bipush (v := ((-9))) hx hb dX8_firstSwap_24 (by decide) ?_
    exact ct_i () hx hb hr hlocks hP hS (by first | exact (if_pos c_11).symm | exact (if_neg c_11).symm) dX8_firstSwap_26
  · skip
    replace c_11 := cb_nz c_11
    refine lv_aload_n hx hb dX8_firstSwap_14 rfl (lv_at hl 0 rfl) ?_
    refine gf_n (C := RX8) (T := TX8) (N := 11) (ci := 8) (q0 := 0) (v := .ref s0) hx hb hts (iU inlX8) hown hK hP rfl rfl 8 (by decide) (kU u_41) rfl rfl dX8_firstSwap_15 ?_
    refine gp_V (ci := 7) (q0 := 0) (cq := (RX7, TX7, 5)) (c_X7_number l D cI cZ cF cL s0 (slA y1 (bst (T 7) (T 8) (T 0 0) (T 0 1) (900))) (slB y2 (bst (T 7) (T 8) (T 0 0) (T 0 1) (900))) (slV y3 (bst (T 7) (T 8) (T 0 0) (T 0 1) (900))) (slW y4 (bst (T 7) (T 8) (T 0 0) (T 0 1) (900))) ((bst (T 7) (T 8) (T 0 0) (T 0 1) (900)).2) ) (gUV u_793 u_794 u_795 u_40 u_796) rfl hdV_X7_number ⟨Nat.le_of_ble_eq_true rfl, Nat.le_of_ble_eq_true rfl⟩ ⟨rfl, rfl⟩ hx hb hml hown hts hK hA hP hD hS hl.1 ⟨Nat.le_of_ble_eq_true rfl, Nat.le_of_ble_eq_true rfl⟩ rfl rfl rfl (wr := (xX rx tt a tr r3 rs rz b b0 s0 r5 r6 ++ fX cI a (T 0 0) (T 0 1) (T 0 2) (T 0 3) (T 0 4) (T 0 5) (T 1) (T 2) (T 3) (T 4) (T 5) (T 6) (T 7) (T 8))) (pm_cnt (fun _ => by simp only [List.countP_append, List.countP_nil, fT] <;> omega)) (fun _ => by simp only [List.map_append, List.map_nil, fX_m, bX_m, sX_m, pX_m, iaX_m, r5X_m, r6X_m, fT_m, hX_m, tX_m, xX_m, sgX_m, zaX_m, fsB_a]) (rest := []) rfl rfl (Nat.le_of_ble_eq_true rfl) dX8_firstSwap_18 (ws2 := (fun _ : Unit => (xX rx tt a tr r3 rs rz b b0 s0 r5 r6 ++ fX cI a (T 0 0) (T 0 1) (T 0 2) (T 0 3) (T 0 4) (T 0 5) (T 1) (T 2) (T 3) (T 4) (T 5) (T 6) (T 7) (T 8) ++ sX s0 (slA y1 (bst (T 7) (T 8) (T 0 0) (T 0 1) (900))) (slB y2 (bst (T 7) (T 8) (T 0 0) (T 0 1) (900))) (slV y3 (bst (T 7) (T 8) (T 0 0) (T 0 1) (900))) (slW y4 (bst (T 7) (T 8) (T 0 0) (T 0 1) (900))) ((bst (T 7) (T 8) (T 0 0) (T 0 1) (900)).2)))) (fun _ => (pm_cnt (fun _ => by simp only [List.countP_append, List.countP_nil, fT] <;> omega))) (fun _ Hp locs hP hD hS => ?_)
    refine lv_goto (tgt := 26) hx hb dX8_firstSwap_21 (by decide) ?_
    exact ct_i () hx hb hr hlocks hP hS (by first | exact (if_pos c_11).symm | exact (if_neg c_11).symm) dX8_firstSwap_26
set_option maxRecDepth 20000 in
theorem u_45 : Cond.fieldLink RX8 65 "HarvestBoxes" "scriptRunner" "LHarvestBoxes$ScriptRunner;" ∈ wsL_law := List.mem_of_getElem? (i := 40) (by decide +kernel)
set_option maxRecDepth 20000 in
theorem u_49 : Cond.fieldLink RX8 72 "HarvestBoxes" "simulation" "LHarvestBoxes$Simulation;" ∈ wsL_law := List.mem_of_getElem? (i := 44) (by decide +kernel)
