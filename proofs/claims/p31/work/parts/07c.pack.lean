set_option maxRecDepth 20000 in
theorem u_96 : Cond.fieldLink RX4 21 "HarvestBoxes$Packer" "keenest" "LHarvestBoxes$Best;" ∈ wsL_law := List.mem_of_getElem? (i := 91) (by decide +kernel)
set_option maxRecDepth 20000 in
theorem u_434 : Cond.code yX0_startAnew cX0_startAnew 1 none ∈ wsL_law := List.mem_of_getElem? (i := 193) (by decide +kernel)
set_option maxRecDepth 20000 in
theorem u_605 : Cond.methodLink RX4 103 yX0_startAnew ∈ wsL_law := List.mem_of_getElem? (i := 190) (by decide +kernel)
set_option maxRecDepth 20000 in
theorem u_432 : Cond.instanceMethod yX0_startAnew ∈ wsL_law := List.mem_of_getElem? (i := 191) (by decide +kernel)
set_option maxRecDepth 20000 in
theorem u_433 : Cond.selects RX0 yX0_startAnew yX0_startAnew ∈ wsL_law := List.mem_of_getElem? (i := 192) (by decide +kernel)
set_option maxRecDepth 20000 in
theorem u_36 : Cond.initialized RX0 ∈ wsL_law := List.mem_of_getElem? (i := 31) (by decide +kernel)
set_option maxRecDepth 20000 in
theorem u_445 : Cond.code yX0_number cX0_number 1 (some .int) ∈ wsL_law := List.mem_of_getElem? (i := 203) (by decide +kernel)
set_option maxRecDepth 20000 in
theorem u_607 : Cond.methodLink RX4 113 yX0_number ∈ wsL_law := List.mem_of_getElem? (i := 200) (by decide +kernel)
set_option maxRecDepth 20000 in
theorem u_443 : Cond.instanceMethod yX0_number ∈ wsL_law := List.mem_of_getElem? (i := 201) (by decide +kernel)
set_option maxRecDepth 20000 in
theorem u_444 : Cond.selects RX0 yX0_number yX0_number ∈ wsL_law := List.mem_of_getElem? (i := 202) (by decide +kernel)
set_option maxRecDepth 20000 in
theorem u_604 : Cond.fieldLink RX4 106 "HarvestBoxes$Farm" "likings" "[I" ∈ wsL_law := List.mem_of_getElem? (i := 189) (by decide +kernel)
set_option maxRecDepth 20000 in
theorem u_94 : Cond.fieldLink RX4 15 "HarvestBoxes$Packer" "gotOfGlut" "[I" ∈ wsL_law := List.mem_of_getElem? (i := 89) (by decide +kernel)
set_option maxRecDepth 20000 in
theorem u_440 : Cond.code yX0_offer cX0_offer 3 none ∈ wsL_law := List.mem_of_getElem? (i := 198) (by decide +kernel)
set_option maxRecDepth 20000 in
theorem u_606 : Cond.methodLink RX4 109 yX0_offer ∈ wsL_law := List.mem_of_getElem? (i := 195) (by decide +kernel)
set_option maxRecDepth 20000 in
theorem u_438 : Cond.instanceMethod yX0_offer ∈ wsL_law := List.mem_of_getElem? (i := 196) (by decide +kernel)
set_option maxRecDepth 20000 in
theorem u_439 : Cond.selects RX0 yX0_offer yX0_offer ∈ wsL_law := List.mem_of_getElem? (i := 197) (by decide +kernel)
theorem hdV_X0_startAnew : yX0_startAnew.cls = RX0 ∧ yX0_startAnew.cls ≠ "java/lang/invoke/MethodHandle" ∧ yX0_startAnew.cls ≠ "java/lang/invoke/VarHandle" ∧ (parseMethodDescriptor yX0_startAnew.desc).map (fun d => d.parameters.length) = some 0 := by decide +kernel
theorem hdV_X0_number : yX0_number.cls = RX0 ∧ yX0_number.cls ≠ "java/lang/invoke/MethodHandle" ∧ yX0_number.cls ≠ "java/lang/invoke/VarHandle" ∧ (parseMethodDescriptor yX0_number.desc).map (fun d => d.parameters.length) = some 0 := by decide +kernel
theorem hdV_X0_offer : yX0_offer.cls = RX0 ∧ yX0_offer.cls ≠ "java/lang/invoke/MethodHandle" ∧ yX0_offer.cls ≠ "java/lang/invoke/VarHandle" ∧ (parseMethodDescriptor yX0_offer.desc).map (fun d => d.parameters.length) = some 2 := by decide +kernel
set_option maxHeartbeats 4000000 in
set_option maxRecDepth 100000 in
theorem c_X4_keenestOn (l : Launch) (D : va_G) (cI cZ cF cL : ClassId) (b : Nat → Nat) (g1 g2 : Nat → Nat) (kn kw : Int32) (x1 x2 x3 x4 x5 : Nat) (a : Nat → Nat) (nH nV wk ea gi sw : Nat) (f1 f2 f3 f4 f5 f6 f7 f8 : Nat → Nat) (pt : Nat → Nat) (v : Nat) (hH : nH ≤ 6) (hv : v < 5) (hg : ∀ h, h < nH → g1 h = pt h) (hp5 : ∀ h, h < nH → pt h ≤ 5) (b7 : ∀ k, k < 30 → f7 k ≤ 9) (bg : ∀ h, h < 6 → g2 h ≤ 1000) : CT l D (tysX cI cZ cF cL) yX4_keenestOn (wA yX4_keenestOn cX4_keenestOn 5 (some .int)) (rmF 1 22) [.ref (b 0), .ref (a 0), .int (nI v)] (pX cI b g1 g2 kn kw x1 x2 x3 x4 x5 ++ fX cI a nH nV wk ea gi sw f1 f2 f3 f4 f5 f6 f7 f8) (some (.int (encK (kz f7 pt g2 v nH)))) (fun u : Int32 × Int32 => (pX cI b g1 g2 u.1 u.2 x1 x2 x3 x4 x5 ++ fX cI a nH nV wk ea gi sw f1 f2 f3 f4 f5 f6 f7 f8)) := by
  refine ct_in (cc := cX4_keenestOn) (maxL := 5) (ret := (some .int)) (own := RX4) (lv := [(0, .ref (b 0)), (1, .ref (a 0)), (2, .int (nI v))]) (by decide +kernel) rfl rfl (Nat.le_of_ble_eq_true rfl) rfl ?_
  intro p e s m args below meth c A ls hx hb hr hml hts hown hlocks hK hA hP hD hS hl
  refine lv_aload_n hx hb dX4_keenestOn_0 rfl (lv_at hl 0 rfl) ?_
  refine gf_n (C := RX4) (T := TX4) (N := 4) (ci := 4) (q0 := 0) (v := .ref (b 3)) hx hb hts (iU inlX4) hown hK hP rfl rfl 2 (by decide) (kU u_96) rfl rfl dX4_keenestOn_1 ?_
  refine go_V (ci := 0) (q0 := 3) (cq := (RX0, TX0, 2)) (c_X0_startAnew l D cI cZ cF cL (b 3) kn kw ) (gUV u_605 u_432 u_433 u_36 u_434) rfl hdV_X0_startAnew ⟨Nat.le_of_ble_eq_true rfl, Nat.le_of_ble_eq_true rfl⟩ ⟨rfl, rfl⟩ hx hb hml hown hts hK hA hP hD hS hl.1 ⟨Nat.le_of_ble_eq_true rfl, Nat.le_of_ble_eq_true rfl⟩ rfl rfl rfl [3] rfl rfl (fun _ => rfl) (rest := []) rfl rfl (Nat.le_of_ble_eq_true rfl) dX4_keenestOn_4 (ws2 := (fun _ : Unit => (pX cI b g1 g2 ((-9)) kw x1 x2 x3 x4 x5 ++ fX cI a nH nV wk ea gi sw f1 f2 f3 f4 f5 f6 f7 f8))) (fun _ => rfl) (fun _ Hp locs hP hD hS => ?_)
  refine lv_iconst (v := (nI 0)) hx hb dX4_keenestOn_7 (by decide) ?_
  refine lv_istore_n (lv' := [(3, .int (nI 0)), (0, .ref (b 0)), (1, .ref (a 0)), (2, .int (nI v))]) hx hb dX4_keenestOn_8 rfl hl (by decide) rfl (fun ls hl => ?_)
  have loop_9 : ∀ (dd : Nat) (i : Nat) (k1 : Int32) (k2 : Int32), (i ≤ nH) → (k1 = encK (kz f7 pt g2 v i)) → (∀ b, kz f7 pt g2 v i = some b → k2.toInt = wz f7 g2 v b) → (nH - i) < dd → ∀ (Hp : Heap) (locs : List Loc), va_P D vwCl (pX cI b g1 g2 k1 k2 x1 x2 x3 x4 x5 ++ fX cI a nH nV wk ea gi sw f1 f2 f3 f4 f5 f6 f7 f8) Hp → va_D A (pX cI b g1 g2 k1 k2 x1 x2 x3 x4 x5 ++ fX cI a nH nV wk ea gi sw f1 f2 f3 f4 f5 f6 f7 f8) → va_S A s.heap Hp locs → ∀ ls : Array Slot, lv_has ls 5 [(3, .int (nI i)), (0, .ref (b 0)), (1, .ref (a 0)), (2, .int (nI v))] → W p l e (rmF 1 22) s m args below meth c Hp locs 0 0 (MQ below (CQ D (some (.int (encK (kz f7 pt g2 v nH)))) (fun u : Int32 × Int32 => (pX cI b g1 g2 u.1 u.2 x1 x2 x3 x4 x5 ++ fX cI a nH nV wk ea gi sw f1 f2 f3 f4 f5 f6 f7 f8)) A) args s 0 0 A) (F0 m 9 ls []) := by
    intro dd
    induction dd with
    | zero => intro i k1 k2 hi ek ew hm; exact absurd hm (Nat.not_lt_zero _)
    | succ dd ih_9 =>
      intro i k1 k2 hi ek ew hm Hp locs hP hD hS ls hl
      refine lv_iload_n hx hb dX4_keenestOn_9 rfl (lv_at hl 0 rfl) ?_
      refine lv_aload_n hx hb dX4_keenestOn_10 rfl (lv_at hl 2 rfl) ?_
      refine gf_n (C := RX1) (T := TX1) (N := 14) (ci := 1) (q0 := 5) (v := .int (nI nH)) hx hb hts (iU inlX1) hown hK hP rfl rfl 0 (by decide) (kU u_586) rfl rfl dX4_keenestOn_11 ?_
      refine lv_icmp_ge (tgt := 68) hx hb dX4_keenestOn_14 (by decide) (fun c_14 => ?_) (fun c_14 => ?_)
      · skip
        replace c_14 := cn_le (by omega) (by omega) c_14
        refine lv_aload_n hx hb dX4_keenestOn_68 rfl (lv_at hl 1 rfl) ?_
        refine gf_n (C := RX4) (T := TX4) (N := 4) (ci := 4) (q0 := 0) (v := .ref (b 3)) hx hb hts (iU inlX4) hown hK hP rfl rfl 2 (by decide) (kU u_96) rfl rfl dX4_keenestOn_69 ?_
        refine go_V (ci := 0) (q0 := 3) (cq := (RX0, TX0, 2)) (c_X0_number l D cI cZ cF cL (b 3) k1 k2 ) (gUV u_607 u_443 u_444 u_36 u_445) rfl hdV_X0_number ⟨Nat.le_of_ble_eq_true rfl, Nat.le_of_ble_eq_true rfl⟩ ⟨rfl, rfl⟩ hx hb hml hown hts hK hA hP hD hS hl.1 ⟨Nat.le_of_ble_eq_true rfl, Nat.le_of_ble_eq_true rfl⟩ rfl rfl rfl [3] rfl rfl (fun _ => rfl) (rest := []) rfl rfl (Nat.le_of_ble_eq_true rfl) dX4_keenestOn_72 (ws2 := (fun _ : Unit => (pX cI b g1 g2 k1 k2 x1 x2 x3 x4 x5 ++ fX cI a nH nV wk ea gi sw f1 f2 f3 f4 f5 f6 f7 f8))) (fun _ => rfl) (fun _ Hp locs hP hD hS => ?_)
        exact ct_i (k1, k2) hx hb hr hlocks hP hS (by rw [ek, show i = nH by omega]) dX4_keenestOn_75
      · skip
        replace c_14 := cn_nle (by omega) (by omega) c_14
        refine lv_aload_n hx hb dX4_keenestOn_17 rfl (lv_at hl 2 rfl) ?_
        refine gf_n (C := RX1) (T := TX1) (N := 14) (ci := 1) (q0 := 5) (v := .ref (a 7)) hx hb hts (iU inlX1) hown hK hP rfl rfl 12 (by decide) (kU u_604) rfl rfl dX4_keenestOn_18 ?_
        refine lv_iload_n hx hb dX4_keenestOn_21 rfl (lv_at hl 0 rfl) ?_
        refine lv_iload_n hx hb dX4_keenestOn_22 rfl (lv_at hl 3 rfl) ?_
        refine go_SN (ni := 6) (c_X8_cell l D cI cZ cF cL i v ) (gU u_245) rfl hdS_X8_cell ⟨Nat.le_of_ble_eq_true rfl, Nat.le_of_ble_eq_true rfl⟩ ⟨rfl, rfl⟩ rfl (hts _ (kU u_2)) (hts _ (kU u_244)) hx hb hml hown hts hK hA hP hD hS hl.1 ⟨Nat.le_of_ble_eq_true rfl, Nat.le_of_ble_eq_true rfl⟩ [] rfl rfl (fun _ => rfl) (rest := [.ref (a 7)]) rfl rfl (Nat.le_of_ble_eq_true rfl) dX4_keenestOn_23 (ws2 := (fun _ : Unit => (pX cI b g1 g2 k1 k2 x1 x2 x3 x4 x5 ++ fX cI a nH nV wk ea gi sw f1 f2 f3 f4 f5 f6 f7 f8))) (fun _ => rfl) (fun _ Hp locs hP hD hS => ?_)
        refine ia_n (q0 := 12) (t0 := 0) hx hb hK hP rfl rfl (by omega) (by decide) dX4_keenestOn_26 ?_
        refine lv_istore (lv' := [(4, .int (nI (f7 (i * 5 + v)))), (3, .int (nI i)), (0, .ref (b 0)), (1, .ref (a 0)), (2, .int (nI v))]) hx hb dX4_keenestOn_27 hl (by decide) rfl (fun ls hl => ?_)
        refine lv_aload_n hx hb dX4_keenestOn_29 rfl (lv_at hl 2 rfl) ?_
        refine gf_n (C := RX4) (T := TX4) (N := 4) (ci := 4) (q0 := 0) (v := .ref (b 1)) hx hb hts (iU inlX4) hown hK hP rfl rfl 0 (by decide) (kU u_93) rfl rfl dX4_keenestOn_30 ?_
        refine lv_iload_n hx hb dX4_keenestOn_33 rfl (lv_at hl 1 rfl) ?_
        refine ia_n (q0 := 1) (t0 := 0) hx hb hK hP rfl rfl (by omega) (by decide) dX4_keenestOn_34 ?_
        rw [show (nI (g1 i)) = (nI (pt i)) from (by rw [hg i (by omega)])]
        refine lv_if_le (tgt := 62) hx hb dX4_keenestOn_35 (by decide) (fun c_35 => ?_) (fun c_35 => ?_)
        · skip
          replace c_35 := cn_le (b := 0) (Nat.lt_of_le_of_lt (hp5 _ (by omega)) (by decide)) (by decide) c_35
          refine lv_iinc (v := (nI (i + 1))) (lv' := [(3, .int (nI (i + 1))), (4, .int (nI (f7 (i * 5 + v)))), (0, .ref (b 0)), (1, .ref (a 0)), (2, .int (nI v))]) hx hb dX4_keenestOn_62 hl (k := 1) rfl (nI_add i 1) (by decide) rfl (fun ls hl => ?_)
          refine lv_goto (tgt := 9) hx hb dX4_keenestOn_65 (by decide) ?_
          exact ih_9 (i + 1) k1 k2 (by omega) (by first | exact (kz_step ⟨c_35, c_40⟩ (by omega) ek ew (wz_at (Nat.lt_of_le_of_lt (b7 _ (by omega)) (by decide)) (Nat.lt_of_le_of_lt (bg _ (by omega)) (by decide)))).1 | (rw [kz, if_neg (by omega)]; exact ek)) (by first | exact (kz_step ⟨c_35, c_40⟩ (by omega) ek ew (wz_at (Nat.lt_of_le_of_lt (b7 _ (by omega)) (by decide)) (Nat.lt_of_le_of_lt (bg _ (by omega)) (by decide)))).2 | (rw [kz, if_neg (by omega)]; exact ew)) (by omega) _ _ hP hD hS _ (lv_sub hl [0, 2, 3, 4] rfl)
        · skip
          replace c_35 := cn_nle (b := 0) (Nat.lt_of_le_of_lt (hp5 _ (by omega)) (by decide)) (by decide) c_35
          refine lv_iload hx hb dX4_keenestOn_38 (lv_at hl 0 rfl) ?_
          refine lv_if_le (tgt := 62) hx hb dX4_keenestOn_40 (by decide) (fun c_40 => ?_) (fun c_40 => ?_)
          · skip
            replace c_40 := cn_le (b := 0) (Nat.lt_of_le_of_lt (b7 _ (by omega)) (by decide)) (by decide) c_40
            refine lv_iinc (v := (nI (i + 1))) (lv' := [(3, .int (nI (i + 1))), (4, .int (nI (f7 (i * 5 + v)))), (0, .ref (b 0)), (1, .ref (a 0)), (2, .int (nI v))]) hx hb dX4_keenestOn_62 hl (k := 1) rfl (nI_add i 1) (by decide) rfl (fun ls hl => ?_)
            refine lv_goto (tgt := 9) hx hb dX4_keenestOn_65 (by decide) ?_
            exact ih_9 (i + 1) k1 k2 (by omega) (by first | exact (kz_step ⟨c_35, c_40⟩ (by omega) ek ew (wz_at (Nat.lt_of_le_of_lt (b7 _ (by omega)) (by decide)) (Nat.lt_of_le_of_lt (bg _ (by omega)) (by decide)))).1 | (rw [kz, if_neg (by omega)]; exact ek)) (by first | exact (kz_step ⟨c_35, c_40⟩ (by omega) ek ew (wz_at (Nat.lt_of_le_of_lt (b7 _ (by omega)) (by decide)) (Nat.lt_of_le_of_lt (bg _ (by omega)) (by decide)))).2 | (rw [kz, if_neg (by omega)]; exact ew)) (by omega) _ _ hP hD hS _ (lv_sub hl [0, 2, 3, 4] rfl)
          · skip
            replace c_40 := cn_nle (b := 0) (Nat.lt_of_le_of_lt (b7 _ (by omega)) (by decide)) (by decide) c_40
            refine lv_aload_n hx hb dX4_keenestOn_43 rfl (lv_at hl 2 rfl) ?_
            refine gf_n (C := RX4) (T := TX4) (N := 4) (ci := 4) (q0 := 0) (v := .ref (b 3)) hx hb hts (iU inlX4) hown hK hP rfl rfl 2 (by decide) (kU u_96) rfl rfl dX4_keenestOn_44 ?_
            refine lv_iload_n hx hb dX4_keenestOn_47 rfl (lv_at hl 1 rfl) ?_
            refine lv_iload hx hb dX4_keenestOn_48 (lv_at hl 0 rfl) ?_
            refine lv_iconst (v := (nI 2)) hx hb dX4_keenestOn_50 (by decide) ?_
            refine lv_aload_n hx hb dX4_keenestOn_51 rfl (lv_at hl 2 rfl) ?_
            refine gf_n (C := RX4) (T := TX4) (N := 4) (ci := 4) (q0 := 0) (v := .ref (b 2)) hx hb hts (iU inlX4) hown hK hP rfl rfl 1 (by decide) (kU u_94) rfl rfl dX4_keenestOn_52 ?_
            refine lv_iload_n hx hb dX4_keenestOn_55 rfl (lv_at hl 1 rfl) ?_
            refine ia_n (q0 := 2) (t0 := 0) hx hb hK hP rfl rfl (by omega) (by decide) dX4_keenestOn_56 ?_
            refine lv_imul hx hb dX4_keenestOn_57 ?_
            rw [pk_mul 2 (g2 i)]
            refine lv_isub hx hb dX4_keenestOn_58 ?_
            refine go_V (ci := 0) (q0 := 3) (cq := (RX0, TX0, 2)) (c_X0_offer l D cI cZ cF cL (b 3) k1 k2 i (((nI (f7 (i * 5 + v))) - (nI (2 * (g2 i))))) ) (gUV u_606 u_438 u_439 u_36 u_440) rfl hdV_X0_offer ⟨Nat.le_of_ble_eq_true rfl, Nat.le_of_ble_eq_true rfl⟩ ⟨rfl, rfl⟩ hx hb hml hown hts hK hA hP hD hS hl.1 ⟨Nat.le_of_ble_eq_true rfl, Nat.le_of_ble_eq_true rfl⟩ rfl rfl rfl [3] rfl rfl (fun _ => rfl) (rest := []) rfl rfl (Nat.le_of_ble_eq_true rfl) dX4_keenestOn_59 (ws2 := (fun _ : Unit => (pX cI b g1 g2 (if (k1 = (-9) ∨ k2 < (((nI (f7 (i * 5 + v))) - (nI (2 * (g2 i)))))) then nI i else k1) (if (k1 = (-9) ∨ k2 < (((nI (f7 (i * 5 + v))) - (nI (2 * (g2 i)))))) then (((nI (f7 (i * 5 + v))) - (nI (2 * (g2 i))))) else k2) x1 x2 x3 x4 x5 ++ fX cI a nH nV wk ea gi sw f1 f2 f3 f4 f5 f6 f7 f8))) (fun _ => rfl) (fun _ Hp locs hP hD hS => ?_)
            refine lv_iinc (v := (nI (i + 1))) (lv' := [(3, .int (nI (i + 1))), (4, .int (nI (f7 (i * 5 + v)))), (0, .ref (b 0)), (1, .ref (a 0)), (2, .int (nI v))]) hx hb dX4_keenestOn_62 hl (k := 1) rfl (nI_add i 1) (by decide) rfl (fun ls hl => ?_)
            refine lv_goto (tgt := 9) hx hb dX4_keenestOn_65 (by decide) ?_
            exact ih_9 (i + 1) ((if (k1 = (-9) ∨ k2 < (((nI (f7 (i * 5 + v))) - (nI (2 * (g2 i)))))) then nI i else k1)) ((if (k1 = (-9) ∨ k2 < (((nI (f7 (i * 5 + v))) - (nI (2 * (g2 i)))))) then (((nI (f7 (i * 5 + v))) - (nI (2 * (g2 i))))) else k2)) (by omega) (by first | exact (kz_step ⟨c_35, c_40⟩ (by omega) ek ew (wz_at (Nat.lt_of_le_of_lt (b7 _ (by omega)) (by decide)) (Nat.lt_of_le_of_lt (bg _ (by omega)) (by decide)))).1 | (rw [kz, if_neg (by omega)]; exact ek)) (by first | exact (kz_step ⟨c_35, c_40⟩ (by omega) ek ew (wz_at (Nat.lt_of_le_of_lt (b7 _ (by omega)) (by decide)) (Nat.lt_of_le_of_lt (bg _ (by omega)) (by decide)))).2 | (rw [kz, if_neg (by omega)]; exact ew)) (by omega) _ _ hP hD hS _ (lv_sub hl [0, 2, 3, 4] rfl)
  exact loop_9 ((nH - 0) + 1) 0 (((-9))) kw (by omega) rfl (fun b h => by cases h) (Nat.lt_succ_self _) _ _ hP hD hS _ (lv_sub hl [0, 1, 2, 3] rfl)

