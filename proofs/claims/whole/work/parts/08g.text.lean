theorem rpP_pl {X : Nat → Nat} {L p nH nV : Nat} {f1 f2 f4 f5 f7 : Nat → Nat} : (rpP X L p nH nV f1 f2 f4 f5 f7).2.1 ≤ p + 6 := by
  have e1 : p ≤ p + 6 := by omega
  have e2 : p + 1 ≤ p + 6 := by omega
  have e3 : p + 1 + 1 ≤ p + 6 := by omega
  have e4 : p + 1 + 1 + 1 ≤ p + 6 := by omega
  have e5 : p + 1 + 1 + 1 + 1 ≤ p + 6 := by omega
  unfold rpP
  by_cases h1 : X p = 104 ∧ nH < 6
  · rw [if_pos h1]
    unfold rpH
    split
    · exact e2
    · split
      · exact e3
      · exact e4
  · rw [if_neg h1]
    by_cases h2 : X p = 118 ∧ nV < 5
    · rw [if_pos h2]
      unfold rpV
      split
      · exact e2
      · split
        · exact e3
        · exact e4
    · rw [if_neg h2]
      by_cases h3 : X p = 108 ∧ 0 < nH ∧ 0 < nV
      · rw [if_pos h3]
        unfold rpL
        split
        · exact e2
        · split
          · exact e3
          · split
            · exact e4
            · exact e5
      · rw [if_neg h3]
        by_cases h4 : X p = 115 ∧ 0 < nH
        · rw [if_pos h4]
          unfold rpS
          split
          · exact e2
          · exact e3
        · rw [if_neg h4]
          exact e1
set_option maxRecDepth 20000 in
theorem u_71 : Cond.code yX1_clear cX1_clear 1 none ∈ wsL_law := List.mem_of_getElem? (i := 71) (by decide +kernel)
set_option maxRecDepth 20000 in
theorem u_204 : Cond.methodLink RX2 19 yX1_clear ∈ wsL_law := List.mem_of_getElem? (i := 204) (by decide +kernel)
set_option maxRecDepth 20000 in
theorem u_69 : Cond.instanceMethod yX1_clear ∈ wsL_law := List.mem_of_getElem? (i := 69) (by decide +kernel)
set_option maxRecDepth 20000 in
theorem u_70 : Cond.selects RX1 yX1_clear yX1_clear ∈ wsL_law := List.mem_of_getElem? (i := 70) (by decide +kernel)
set_option maxRecDepth 20000 in
theorem u_212 : Cond.code yX2_readsPart cX2_readsPart 2 (some .boolean) ∈ wsL_law := List.mem_of_getElem? (i := 212) (by decide +kernel)
set_option maxRecDepth 20000 in
theorem u_209 : Cond.methodLink RX2 31 yX2_readsPart ∈ wsL_law := List.mem_of_getElem? (i := 209) (by decide +kernel)
set_option maxRecDepth 20000 in
theorem u_210 : Cond.instanceMethod yX2_readsPart ∈ wsL_law := List.mem_of_getElem? (i := 210) (by decide +kernel)
set_option maxRecDepth 20000 in
theorem u_211 : Cond.selects RX2 yX2_readsPart yX2_readsPart ∈ wsL_law := List.mem_of_getElem? (i := 211) (by decide +kernel)
theorem hdV_X1_clear : yX1_clear.cls = RX1 ∧ yX1_clear.cls ≠ "java/lang/invoke/MethodHandle" ∧ yX1_clear.cls ≠ "java/lang/invoke/VarHandle" ∧ (parseMethodDescriptor yX1_clear.desc).map (fun d => d.parameters.length) = some 0 := by decide +kernel
theorem hdV_X2_readsPart : yX2_readsPart.cls = RX2 ∧ yX2_readsPart.cls ≠ "java/lang/invoke/MethodHandle" ∧ yX2_readsPart.cls ≠ "java/lang/invoke/VarHandle" ∧ (parseMethodDescriptor yX2_readsPart.desc).map (fun d => d.parameters.length) = some 1 := by decide +kernel
set_option maxHeartbeats 4000000 in
set_option maxRecDepth 100000 in
theorem c_X2_readInto (l : Launch) (D : va_G) (cI cZ cF cL : ClassId) (a : Nat → Nat) (nH nV wk ea gi sw : Nat) (f1 f2 f3 f4 f5 f6 f7 f8 : Nat → Nat) (t : Nat → Nat) (X : Nat → Nat) (L pl : Nat) (hL : L ≤ 120) (hX : ∀ k, k < 120 → X k < 256) : CT l D (tysX cI cZ cF cL) yX2_readInto (wA yX2_readInto cX2_readInto 3 (some .int)) (rmF 4 88) [.ref (t 0), .ref (a 0)] (tX cI t X L pl ++ fX cI a nH nV wk ea gi sw f1 f2 f3 f4 f5 f6 f7 f8) (some (.int (if (rdI X L).1 = true then (-9) else nI (rdI X L).2.1))) (fun _ : Unit => (tX cI t X L ((rdI X L).2.1) ++ fX cI a ((rdI X L).2.2.1) ((rdI X L).2.2.2.1) 0 0 0 0 ((rdI X L).2.2.2.2.1) ((rdI X L).2.2.2.2.2.1) ((fun _ => 0)) ((rdI X L).2.2.2.2.2.2.1) ((rdI X L).2.2.2.2.2.2.2.1) ((fun _ => 0)) ((rdI X L).2.2.2.2.2.2.2.2) ((fun _ => 0)))) := by
  refine ct_in (cc := cX2_readInto) (maxL := 3) (ret := (some .int)) (own := RX2) (lv := [(0, .ref (t 0)), (1, .ref (a 0))]) (by decide +kernel) rfl rfl (Nat.le_of_ble_eq_true rfl) rfl ?_
  intro p e s m args below meth c A ls hx hb hr hml hts hown hlocks hK hA hP hD hS hl
  refine lv_aload_n hx hb dX2_readInto_0 rfl (lv_at hl 1 rfl) ?_
  refine go_V (ci := 1) (q0 := 2) (cq := (RX1, TX1, 14)) (c_X1_clear l D cI cZ cF cL a nH nV wk ea gi sw f1 f2 f3 f4 f5 f6 f7 f8 ) (gUV u_204 u_69 u_70 u_20 u_71) rfl hdV_X1_clear ⟨Nat.le_of_ble_eq_true rfl, Nat.le_of_ble_eq_true rfl⟩ ⟨rfl, rfl⟩ hx hb hml hown hts hK hA hP hD hS hl.1 ⟨Nat.le_of_ble_eq_true rfl, Nat.le_of_ble_eq_true rfl⟩ rfl rfl rfl [2, 3, 4, 5, 6, 7, 8, 9, 10] rfl rfl (fun _ => rfl) (rest := []) rfl rfl (Nat.le_of_ble_eq_true rfl) dX2_readInto_1 (ws2 := (fun _ : Unit => (tX cI t X L pl ++ fX cI a 0 0 0 0 0 0 ((fun _ => 0)) ((fun _ => 0)) ((fun _ => 0)) ((fun _ => 0)) ((fun _ => 0)) ((fun _ => 0)) ((fun _ => 5)) ((fun _ => 0))))) (fun _ => rfl) (fun _ Hp locs hP hD hS => ?_)
  refine lv_aload_n hx hb dX2_readInto_4 rfl (lv_at hl 0 rfl) ?_
  refine lv_iconst (v := (nI 0)) hx hb dX2_readInto_5 (by decide) ?_
  refine pf_n (C := RX2) (T := TX2) (N := 3) (ci := 2) (q0 := 0) (ty := .int) (v := .int (nI 0)) (ws2 := (tX cI t X L 0 ++ fX cI a 0 0 0 0 0 0 ((fun _ => 0)) ((fun _ => 0)) ((fun _ => 0)) ((fun _ => 0)) ((fun _ => 0)) ((fun _ => 0)) ((fun _ => 5)) ((fun _ => 0)))) hx hb hts (iU inlX2) tyX2 tyX2_ok nmX2 hown hK hP hD hS rfl rfl 2 (by decide) (kU u_203) rfl rfl (tyX2_ok 2 (by decide)) rfl rfl (Nat.le_of_ble_eq_true rfl) dX2_readInto_6 rfl (fun Hp locs hP hD hS => ?_)
  refine lv_aload_n hx hb dX2_readInto_9 rfl (lv_at hl 0 rfl) ?_
  refine go_V (ci := 2) (q0 := 0) (cq := (RX2, TX2, 3)) (c_X2_nextSign l D cI cZ cF cL t X L 0 (by omega) (by omega)) (gUV u_205 u_206 u_207 u_16 u_208) rfl hdV_X2_nextSign ⟨Nat.le_of_ble_eq_true rfl, Nat.le_of_ble_eq_true rfl⟩ ⟨rfl, rfl⟩ hx hb hml hown hts hK hA hP hD hS hl.1 ⟨Nat.le_of_ble_eq_true rfl, Nat.le_of_ble_eq_true rfl⟩ rfl rfl rfl [0, 1] rfl rfl (fun _ => rfl) (rest := []) rfl rfl (Nat.le_of_ble_eq_true rfl) dX2_readInto_10 (ws2 := (fun _ : Unit => (tX cI t X L 0 ++ fX cI a 0 0 0 0 0 0 ((fun _ => 0)) ((fun _ => 0)) ((fun _ => 0)) ((fun _ => 0)) ((fun _ => 0)) ((fun _ => 0)) ((fun _ => 5)) ((fun _ => 0))))) (fun _ => rfl) (fun _ Hp locs hP hD hS => ?_)
  by_cases hpL : 0 < L
  · skip
    rw [if_pos hpL]
    have hx8 := hX 0 (by omega)
    refine lv_bipush (v := (nI 70)) hx hb dX2_readInto_13 (by decide) ?_
    refine lv_icmp_eq (tgt := 23) hx hb dX2_readInto_15 (by decide) (fun c_15 => ?_) (fun c_15 => ?_)
    · skip
      replace c_15 := cn_eq (by omega) (by omega) c_15
      have hI : rdI X L = rdN X L 120 1 0 0 (fun _ => 0) (fun _ => 0) (fun _ => 0) (fun _ => 0) (fun _ => 5) := by unfold rdI; rw [if_pos ⟨hpL, c_15⟩]
      refine lv_aload_n hx hb dX2_readInto_23 rfl (lv_at hl 0 rfl) ?_
      refine lv_dup hx hb dX2_readInto_24 rfl ?_
      refine gf_n (C := RX2) (T := TX2) (N := 3) (ci := 2) (q0 := 0) (v := .int (nI 0)) hx hb hts (iU inlX2) hown hK hP rfl rfl 2 (by decide) (kU u_203) rfl rfl dX2_readInto_25 ?_
      refine lv_iconst (v := (nI 1)) hx hb dX2_readInto_28 (by decide) ?_
      refine lv_iadd hx hb dX2_readInto_29 ?_
      rw [nI_add 0 1]
      refine pf_n (C := RX2) (T := TX2) (N := 3) (ci := 2) (q0 := 0) (ty := .int) (v := .int (nI (0 + 1))) (ws2 := (tX cI t X L (0 + 1) ++ fX cI a 0 0 0 0 0 0 ((fun _ => 0)) ((fun _ => 0)) ((fun _ => 0)) ((fun _ => 0)) ((fun _ => 0)) ((fun _ => 0)) ((fun _ => 5)) ((fun _ => 0)))) hx hb hts (iU inlX2) tyX2 tyX2_ok nmX2 hown hK hP hD hS rfl rfl 2 (by decide) (kU u_203) rfl rfl (tyX2_ok 2 (by decide)) rfl rfl (Nat.le_of_ble_eq_true rfl) dX2_readInto_30 rfl (fun Hp locs hP hD hS => ?_)
      refine lv_iconst (v := (nI 0)) hx hb dX2_readInto_33 (by decide) ?_
      refine lv_istore_n (lv' := [(2, .int (nI 0)), (0, .ref (t 0)), (1, .ref (a 0))]) hx hb dX2_readInto_34 rfl hl (by decide) rfl (fun ls hl => ?_)
      have loop_35 : ∀ (dd : Nat) (mm : Nat) (q : Nat) (h : Nat) (v : Nat) (g1 : Nat → Nat) (g2 : Nat → Nat) (g4 : Nat → Nat) (g5 : Nat → Nat) (g7 : Nat → Nat), (mm ≤ 120) → (q ≤ 1 + 6 * mm) → (h ≤ 6) → (v ≤ 5) → (rdN X L (120 - mm) q h v g1 g2 g4 g5 g7 = rdI X L) → (120 - mm) < dd → ∀ (Hp : Heap) (locs : List Loc), va_P D vwCl (tX cI t X L q ++ fX cI a h v 0 0 0 0 g1 g2 ((fun _ => 0)) g4 g5 ((fun _ => 0)) g7 ((fun _ => 0))) Hp → va_D A (tX cI t X L q ++ fX cI a h v 0 0 0 0 g1 g2 ((fun _ => 0)) g4 g5 ((fun _ => 0)) g7 ((fun _ => 0))) → va_S A s.heap Hp locs → ∀ ls : Array Slot, lv_has ls 3 [(2, .int (nI mm)), (0, .ref (t 0)), (1, .ref (a 0))] → W p l e (rmF 4 88) s m args below meth c Hp locs 0 0 (MQ below (CQ D (some (.int (if (rdI X L).1 = true then (-9) else nI (rdI X L).2.1))) (fun _ : Unit => (tX cI t X L ((rdI X L).2.1) ++ fX cI a ((rdI X L).2.2.1) ((rdI X L).2.2.2.1) 0 0 0 0 ((rdI X L).2.2.2.2.1) ((rdI X L).2.2.2.2.2.1) ((fun _ => 0)) ((rdI X L).2.2.2.2.2.2.1) ((rdI X L).2.2.2.2.2.2.2.1) ((fun _ => 0)) ((rdI X L).2.2.2.2.2.2.2.2) ((fun _ => 0)))) A) args s 0 0 A) (F0 m 35 ls []) := by
        intro dd
        induction dd with
        | zero => intro mm q h v g1 g2 g4 g5 g7 hm1 hq hH hV hR hm; exact absurd hm (Nat.not_lt_zero _)
        | succ dd ih_35 =>
          intro mm q h v g1 g2 g4 g5 g7 hm1 hq hH hV hR hm Hp locs hP hD hS ls hl
          refine lv_iload_n hx hb dX2_readInto_35 rfl (lv_at hl 0 rfl) ?_
          refine lv_bipush (v := (nI 120)) hx hb dX2_readInto_36 (by decide) ?_
          refine lv_icmp_ge (tgt := 71) hx hb dX2_readInto_38 (by decide) (fun c_38 => ?_) (fun c_38 => ?_)
          · skip
            replace c_38 := cn_le (by omega) (by omega) c_38
            have hE : rdI X L = (true, q, h, v, g1, g2, g4, g5, g7) := by rw [← hR, rdN_x (by omega)]
            refine lv_bipush (v := ((-9))) hx hb dX2_readInto_71 (by decide) ?_
            exact ct_i () hx hb hr hlocks (by rw [hE]; exact hP) hS (by rw [hE]; rfl) dX2_readInto_73
          · skip
            replace c_38 := cn_nle (by omega) (by omega) c_38
            refine lv_aload_n hx hb dX2_readInto_41 rfl (lv_at hl 1 rfl) ?_
            refine gf_n (C := RX2) (T := TX2) (N := 3) (ci := 2) (q0 := 0) (v := .int (nI q)) hx hb hts (iU inlX2) hown hK hP rfl rfl 2 (by decide) (kU u_203) rfl rfl dX2_readInto_42 ?_
            refine lv_aload_n hx hb dX2_readInto_45 rfl (lv_at hl 1 rfl) ?_
            refine gf_n (C := RX2) (T := TX2) (N := 3) (ci := 2) (q0 := 0) (v := .int (nI L)) hx hb hts (iU inlX2) hown hK hP rfl rfl 1 (by decide) (kU u_164) rfl rfl dX2_readInto_46 ?_
            refine lv_icmp_ge (tgt := 71) hx hb dX2_readInto_49 (by decide) (fun c_49 => ?_) (fun c_49 => ?_)
            · skip
              replace c_49 := cn_le (by omega) (by omega) c_49
              have hE : rdI X L = (true, q, h, v, g1, g2, g4, g5, g7) := by rw [← hR, rdN_x (by omega)]
              refine lv_bipush (v := ((-9))) hx hb dX2_readInto_71 (by decide) ?_
              exact ct_i () hx hb hr hlocks (by rw [hE]; exact hP) hS (by rw [hE]; rfl) dX2_readInto_73
            · skip
              replace c_49 := cn_nle (by omega) (by omega) c_49
              refine lv_aload_n hx hb dX2_readInto_52 rfl (lv_at hl 1 rfl) ?_
              refine lv_aload_n hx hb dX2_readInto_53 rfl (lv_at hl 2 rfl) ?_
              refine go_V (ci := 2) (q0 := 0) (cq := (RX2, TX2, 3)) (c_X2_readsPart l D cI cZ cF cL a h v 0 0 0 0 g1 g2 ((fun _ => 0)) g4 g5 ((fun _ => 0)) g7 ((fun _ => 0)) t X L q (by omega) hX (by omega) (by omega) (by omega) (by omega)) (gUV u_209 u_210 u_211 u_16 u_212) rfl hdV_X2_readsPart ⟨Nat.le_of_ble_eq_true rfl, Nat.le_of_ble_eq_true rfl⟩ ⟨rfl, rfl⟩ hx hb hml hown hts hK hA hP hD hS hl.1 ⟨Nat.le_of_ble_eq_true rfl, Nat.le_of_ble_eq_true rfl⟩ rfl rfl rfl [0, 1, 2, 3, 4, 5, 6, 7, 8, 9, 10] rfl rfl (fun _ => rfl) (rest := []) rfl rfl (Nat.le_of_ble_eq_true rfl) dX2_readInto_54 (ws2 := (fun _ : Unit => (tX cI t X L ((rpP X L q h v g1 g2 g4 g5 g7).2.1) ++ fX cI a ((rpP X L q h v g1 g2 g4 g5 g7).2.2.1) ((rpP X L q h v g1 g2 g4 g5 g7).2.2.2.1) 0 0 0 0 ((rpP X L q h v g1 g2 g4 g5 g7).2.2.2.2.1) ((rpP X L q h v g1 g2 g4 g5 g7).2.2.2.2.2.1) ((fun _ => 0)) ((rpP X L q h v g1 g2 g4 g5 g7).2.2.2.2.2.2.1) ((rpP X L q h v g1 g2 g4 g5 g7).2.2.2.2.2.2.2.1) ((fun _ => 0)) ((rpP X L q h v g1 g2 g4 g5 g7).2.2.2.2.2.2.2.2) ((fun _ => 0))))) (fun _ => rfl) (fun _ Hp locs hP hD hS => ?_)
              refine lv_if_ne (tgt := 65) hx hb dX2_readInto_57 (by decide) (fun c_57 => ?_) (fun c_57 => ?_)
              · skip
                replace c_57 := cb_nz c_57
                refine lv_iinc (v := (nI (mm + 1))) (lv' := [(2, .int (nI (mm + 1))), (0, .ref (t 0)), (1, .ref (a 0))]) hx hb dX2_readInto_65 hl (k := 0) rfl (nI_add mm 1) (by decide) rfl (fun ls hl => ?_)
                refine lv_goto (tgt := 35) hx hb dX2_readInto_68 (by decide) ?_
                exact ih_35 (mm + 1) ((rpP X L q h v g1 g2 g4 g5 g7).2.1) ((rpP X L q h v g1 g2 g4 g5 g7).2.2.1) ((rpP X L q h v g1 g2 g4 g5 g7).2.2.2.1) ((rpP X L q h v g1 g2 g4 g5 g7).2.2.2.2.1) ((rpP X L q h v g1 g2 g4 g5 g7).2.2.2.2.2.1) ((rpP X L q h v g1 g2 g4 g5 g7).2.2.2.2.2.2.1) ((rpP X L q h v g1 g2 g4 g5 g7).2.2.2.2.2.2.2.1) ((rpP X L q h v g1 g2 g4 g5 g7).2.2.2.2.2.2.2.2) (by omega) (by have := rpP_pl (X := X) (L := L) (p := q) (nH := h) (nV := v) (f1 := g1) (f2 := g2) (f4 := g4) (f5 := g5) (f7 := g7); omega) (rpP_b hH hV).1 (rpP_b hH hV).2 (by rw [← hR, show 120 - mm = (120 - (mm + 1)) + 1 by omega, rdN_t c_49 c_57]) (by omega) _ _ hP hD hS _ (lv_sub hl [0, 1, 2] rfl)
              · skip
                replace c_57 := cb_z c_57
                have hE : rdI X L = rpP X L q h v g1 g2 g4 g5 g7 := by rw [← hR, rdN_f (by omega) c_49 c_57]
                refine lv_aload_n hx hb dX2_readInto_60 rfl (lv_at hl 1 rfl) ?_
                refine gf_n (C := RX2) (T := TX2) (N := 3) (ci := 2) (q0 := 0) (v := .int (nI ((rpP X L q h v g1 g2 g4 g5 g7).2.1))) hx hb hts (iU inlX2) hown hK hP rfl rfl 2 (by decide) (kU u_203) rfl rfl dX2_readInto_61 ?_
                exact ct_i () hx hb hr hlocks (by rw [hE]; exact hP) hS (by rw [hE, if_neg c_57]) dX2_readInto_64
      exact loop_35 ((120 - 0) + 1) 0 (0 + 1) 0 0 ((fun _ => 0)) ((fun _ => 0)) ((fun _ => 0)) ((fun _ => 0)) ((fun _ => 5)) (by omega) (by omega) (by omega) (by omega) hI.symm (Nat.lt_succ_self _) _ _ hP hD hS _ (lv_sub hl [0, 1, 2] rfl)
    · skip
      replace c_15 := cn_ne c_15
      have hE : rdI X L = (false, 0, 0, 0, (fun _ => 0), (fun _ => 0), (fun _ => 0), (fun _ => 0), (fun _ => 5)) := by unfold rdI; rw [if_neg (fun q => c_15 q.2)]
      refine lv_aload_n hx hb dX2_readInto_18 rfl (lv_at hl 0 rfl) ?_
      refine gf_n (C := RX2) (T := TX2) (N := 3) (ci := 2) (q0 := 0) (v := .int (nI 0)) hx hb hts (iU inlX2) hown hK hP rfl rfl 2 (by decide) (kU u_203) rfl rfl dX2_readInto_19 ?_
      exact ct_i () hx hb hr hlocks (by first | (rw [hE]; exact hP) | (have hE : rdI X L = (false, 0, 0, 0, (fun _ => 0), (fun _ => 0), (fun _ => 0), (fun _ => 0), (fun _ => 5)) := (by unfold rdI; rw [if_neg (fun q => hpL q.1)]); rw [hE]; exact hP)) hS (by first | (rw [hE]; rfl) | (have hE : rdI X L = (false, 0, 0, 0, (fun _ => 0), (fun _ => 0), (fun _ => 0), (fun _ => 0), (fun _ => 5)) := (by unfold rdI; rw [if_neg (fun q => hpL q.1)]); rw [hE]; rfl)) dX2_readInto_22
  · skip
    rw [if_neg hpL]
    refine lv_bipush (v := (nI 70)) hx hb dX2_readInto_13 (by decide) ?_
    refine lv_icmp_eq (tgt := 23) hx hb dX2_readInto_15 (by decide) (fun c_15 => absurd c_15 (by decide +kernel)) (fun _ => ?_)
    refine lv_aload_n hx hb dX2_readInto_18 rfl (lv_at hl 0 rfl) ?_
    refine gf_n (C := RX2) (T := TX2) (N := 3) (ci := 2) (q0 := 0) (v := .int (nI 0)) hx hb hts (iU inlX2) hown hK hP rfl rfl 2 (by decide) (kU u_203) rfl rfl dX2_readInto_19 ?_
    exact ct_i () hx hb hr hlocks (by first | (rw [hE]; exact hP) | (have hE : rdI X L = (false, 0, 0, 0, (fun _ => 0), (fun _ => 0), (fun _ => 0), (fun _ => 0), (fun _ => 5)) := (by unfold rdI; rw [if_neg (fun q => hpL q.1)]); rw [hE]; exact hP)) hS (by first | (rw [hE]; rfl) | (have hE : rdI X L = (false, 0, 0, 0, (fun _ => 0), (fun _ => 0), (fun _ => 0), (fun _ => 0), (fun _ => 5)) := (by unfold rdI; rw [if_neg (fun q => hpL q.1)]); rw [hE]; rfl)) dX2_readInto_22
