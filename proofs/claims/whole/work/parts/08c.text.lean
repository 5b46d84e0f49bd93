set_option maxRecDepth 20000 in
theorem u_231 : Cond.methodLink RX2 61 Lib.Math.min.name ∈ wsL_law := List.mem_of_getElem? (i := 231) (by decide +kernel)
set_option maxRecDepth 20000 in
theorem u_238 : Cond.code yX1_putVegetable cX1_putVegetable 2 none ∈ wsL_law := List.mem_of_getElem? (i := 238) (by decide +kernel)
set_option maxRecDepth 20000 in
theorem u_235 : Cond.methodLink RX2 66 yX1_putVegetable ∈ wsL_law := List.mem_of_getElem? (i := 235) (by decide +kernel)
set_option maxRecDepth 20000 in
theorem u_236 : Cond.instanceMethod yX1_putVegetable ∈ wsL_law := List.mem_of_getElem? (i := 236) (by decide +kernel)
set_option maxRecDepth 20000 in
theorem u_237 : Cond.selects RX1 yX1_putVegetable yX1_putVegetable ∈ wsL_law := List.mem_of_getElem? (i := 237) (by decide +kernel)
theorem hdV_X1_putVegetable : yX1_putVegetable.cls = RX1 ∧ yX1_putVegetable.cls ≠ "java/lang/invoke/MethodHandle" ∧ yX1_putVegetable.cls ≠ "java/lang/invoke/VarHandle" ∧ (parseMethodDescriptor yX1_putVegetable.desc).map (fun d => d.parameters.length) = some 1 := by decide +kernel
set_option maxHeartbeats 4000000 in
set_option maxRecDepth 100000 in
theorem c_X2_readsVegetable (l : Launch) (D : va_G) (cI cZ cF cL : ClassId) (a : Nat → Nat) (nH nV wk ea gi sw : Nat) (f1 f2 f3 f4 f5 f6 f7 f8 : Nat → Nat) (t : Nat → Nat) (X : Nat → Nat) (L pl : Nat) (hL : L ≤ 120) (hX : ∀ k, k < 120 → X k < 256) (hp : pl < 120) (hH : nH ≤ 6) (hV : nV ≤ 5) (h5 : nV < 5) : CT l D (tysX cI cZ cF cL) yX2_readsVegetable (wA yX2_readsVegetable cX2_readsVegetable 4 (some .boolean)) (rmF 2 43) [.ref (t 0), .ref (a 0)] (tX cI t X L pl ++ fX cI a nH nV wk ea gi sw f1 f2 f3 f4 f5 f6 f7 f8) (some (.int (if ((rpV X L pl nH nV f1 f2 f4 f5 f7).1 = true) then 1 else 0))) (fun _ : Unit => (tX cI t X L ((rpV X L pl nH nV f1 f2 f4 f5 f7).2.1) ++ fX cI a ((rpV X L pl nH nV f1 f2 f4 f5 f7).2.2.1) ((rpV X L pl nH nV f1 f2 f4 f5 f7).2.2.2.1) wk ea gi sw ((rpV X L pl nH nV f1 f2 f4 f5 f7).2.2.2.2.1) ((rpV X L pl nH nV f1 f2 f4 f5 f7).2.2.2.2.2.1) f3 ((rpV X L pl nH nV f1 f2 f4 f5 f7).2.2.2.2.2.2.1) ((rpV X L pl nH nV f1 f2 f4 f5 f7).2.2.2.2.2.2.2.1) f6 ((rpV X L pl nH nV f1 f2 f4 f5 f7).2.2.2.2.2.2.2.2) f8)) := by
  refine ct_in (cc := cX2_readsVegetable) (maxL := 4) (ret := (some .boolean)) (own := RX2) (lv := [(0, .ref (t 0)), (1, .ref (a 0))]) (by decide +kernel) rfl rfl (Nat.le_of_ble_eq_true rfl) rfl ?_
  intro p e s m args below meth c A ls hx hb hr hml hts hown hlocks hK hA hP hD hS hl
  refine lv_aload_n hx hb dX2_readsVegetable_0 rfl (lv_at hl 0 rfl) ?_
  refine lv_dup hx hb dX2_readsVegetable_1 rfl ?_
  refine gf_n (C := RX2) (T := TX2) (N := 3) (ci := 2) (q0 := 0) (v := .int (nI pl)) hx hb hts (iU inlX2) hown hK hP rfl rfl 2 (by decide) (kU u_203) rfl rfl dX2_readsVegetable_2 ?_
  refine lv_iconst (v := (nI 1)) hx hb dX2_readsVegetable_5 (by decide) ?_
  refine lv_iadd hx hb dX2_readsVegetable_6 ?_
  rw [nI_add pl 1]
  refine pf_n (C := RX2) (T := TX2) (N := 3) (ci := 2) (q0 := 0) (ty := .int) (v := .int (nI (pl + 1))) (ws2 := (tX cI t X L (pl + 1) ++ fX cI a nH nV wk ea gi sw f1 f2 f3 f4 f5 f6 f7 f8)) hx hb hts (iU inlX2) tyX2 tyX2_ok nmX2 hown hK hP hD hS rfl rfl 2 (by decide) (kU u_203) rfl rfl (tyX2_ok 2 (by decide)) rfl rfl (Nat.le_of_ble_eq_true rfl) dX2_readsVegetable_7 rfl (fun Hp locs hP hD hS => ?_)
  refine lv_aload_n hx hb dX2_readsVegetable_10 rfl (lv_at hl 0 rfl) ?_
  refine lv_iconst (v := (nI 0)) hx hb dX2_readsVegetable_11 (by decide) ?_
  refine lv_iconst (v := (nI 4)) hx hb dX2_readsVegetable_12 (by decide) ?_
  refine go_V (ci := 2) (q0 := 0) (cq := (RX2, TX2, 3)) (c_X2_readDigit l D cI cZ cF cL t X L (pl + 1) 0 4 (by omega) hX (by omega) (by omega) (by omega)) (gUV u_219 u_220 u_221 u_16 u_222) rfl hdV_X2_readDigit ⟨Nat.le_of_ble_eq_true rfl, Nat.le_of_ble_eq_true rfl⟩ ⟨rfl, rfl⟩ hx hb hml hown hts hK hA hP hD hS hl.1 ⟨Nat.le_of_ble_eq_true rfl, Nat.le_of_ble_eq_true rfl⟩ rfl rfl rfl [0, 1] rfl rfl (fun _ => rfl) (rest := []) rfl rfl (Nat.le_of_ble_eq_true rfl) dX2_readsVegetable_13 (ws2 := (fun _ : Unit => (tX cI t X L (plD X L (pl + 1) 0 4) ++ fX cI a nH nV wk ea gi sw f1 f2 f3 f4 f5 f6 f7 f8))) (fun _ => rfl) (fun _ Hp locs hP hD hS => ?_)
  rcases k1 : dg X L (pl + 1) 0 4 with _ | d1
  · skip
    rw [plD_n k1] at hP hD
    have hE := rpV_1 (nH := nH) (nV := nV) (f1 := f1) (f2 := f2) (f4 := f4) (f5 := f5) (f7 := f7) k1
    refine lv_istore_n (lv' := [(2, .int ((-9))), (0, .ref (t 0)), (1, .ref (a 0))]) hx hb dX2_readsVegetable_16 rfl hl (by decide) rfl (fun ls hl => ?_)
    refine lv_iload_n hx hb dX2_readsVegetable_17 rfl (lv_at hl 0 rfl) ?_
    refine lv_bipush (v := ((-9))) hx hb dX2_readsVegetable_18 (by decide) ?_
    refine lv_icmp_ne (tgt := 28) hx hb dX2_readsVegetable_20 (by decide) (fun c_20 => absurd c_20 (by decide +kernel)) (fun _ => ?_)
    refine lv_bipush (v := ((-9))) hx hb dX2_readsVegetable_23 (by decide) ?_
    refine lv_goto (tgt := 45) hx hb dX2_readsVegetable_25 (by decide) ?_
    refine lv_istore_n (lv' := [(3, .int ((-9))), (2, .int ((-9))), (0, .ref (t 0)), (1, .ref (a 0))]) hx hb dX2_readsVegetable_45 rfl hl (by decide) rfl (fun ls hl => ?_)
    refine lv_iload_n hx hb dX2_readsVegetable_46 rfl (lv_at hl 0 rfl) ?_
    refine lv_bipush (v := ((-9))) hx hb dX2_readsVegetable_47 (by decide) ?_
    refine lv_icmp_ne (tgt := 54) hx hb dX2_readsVegetable_49 (by decide) (fun c_49 => absurd c_49 (by decide +kernel)) (fun _ => ?_)
    refine lv_iconst (v := (nI 0)) hx hb dX2_readsVegetable_52 (by decide) ?_
    exact ct_z () hx hb hr hlocks (by rw [hE]; exact hP) hS (z_f (by rw [hE]; exact Bool.false_ne_true)) dX2_readsVegetable_53
  · skip
    rw [plD_s k1] at hP hD
    have e1 := dg_le k1
    refine lv_istore_n (lv' := [(2, .int (nI d1)), (0, .ref (t 0)), (1, .ref (a 0))]) hx hb dX2_readsVegetable_16 rfl hl (by decide) rfl (fun ls hl => ?_)
    refine lv_iload_n hx hb dX2_readsVegetable_17 rfl (lv_at hl 0 rfl) ?_
    refine lv_bipush (v := ((-9))) hx hb dX2_readsVegetable_18 (by decide) ?_
    refine lv_icmp_ne (tgt := 28) hx hb dX2_readsVegetable_20 (by decide) (fun c_20 => ?_) (fun c_20 => ?_)
    · skip
      refine lv_aload_n hx hb dX2_readsVegetable_28 rfl (lv_at hl 1 rfl) ?_
      refine lv_iconst (v := (nI 0)) hx hb dX2_readsVegetable_29 (by decide) ?_
      refine lv_bipush (v := (nI 9)) hx hb dX2_readsVegetable_30 (by decide) ?_
      refine lv_bipush (v := (nI 40)) hx hb dX2_readsVegetable_32 (by decide) ?_
      refine lv_bipush (v := (nI 10)) hx hb dX2_readsVegetable_34 (by decide) ?_
      refine lv_iload_n hx hb dX2_readsVegetable_36 rfl (lv_at hl 0 rfl) ?_
      refine lv_imul hx hb dX2_readsVegetable_37 ?_
      rw [pk_mul 10 d1]
      refine lv_isub hx hb dX2_readsVegetable_38 ?_
      rw [pk_sub (a := 40) (b := 10 * d1) (by omega)]
      refine va_mmin hx hb (by rw [hml]; exact hl.1.symm) hown (hts _ (kU u_231)) (hts _ (kU u_232)) (hts _ (kU u_233)) (hts _ (kU u_234)) (Nat.le_of_ble_eq_true rfl) (Nat.le_of_ble_eq_true rfl) (Nat.le_of_ble_eq_true rfl) (Nat.le_of_ble_eq_true rfl) dX2_readsVegetable_39 ?_
      rw [show (if (nI (40 - (10 * d1))) < (nI 9) then (nI (40 - (10 * d1))) else (nI 9)) = (nI (min 9 (40 - 10 * d1))) from (mm_min (by decide) (by omega))]
      refine go_V (ci := 2) (q0 := 0) (cq := (RX2, TX2, 3)) (c_X2_readDigit l D cI cZ cF cL t X L (pl + 1 + 1) 0 (min 9 (40 - 10 * d1)) (by omega) hX (by omega) (by omega) (by omega)) (gUV u_219 u_220 u_221 u_16 u_222) rfl hdV_X2_readDigit ⟨Nat.le_of_ble_eq_true rfl, Nat.le_of_ble_eq_true rfl⟩ ⟨rfl, rfl⟩ hx hb hml hown hts hK hA hP hD hS hl.1 ⟨Nat.le_of_ble_eq_true rfl, Nat.le_of_ble_eq_true rfl⟩ rfl rfl rfl [0, 1] rfl rfl (fun _ => rfl) (rest := []) rfl rfl (Nat.le_of_ble_eq_true rfl) dX2_readsVegetable_42 (ws2 := (fun _ : Unit => (tX cI t X L (plD X L (pl + 1 + 1) 0 (min 9 (40 - 10 * d1))) ++ fX cI a nH nV wk ea gi sw f1 f2 f3 f4 f5 f6 f7 f8))) (fun _ => rfl) (fun _ Hp locs hP hD hS => ?_)
      rcases k2 : dg X L (pl + 1 + 1) 0 (min 9 (40 - 10 * d1)) with _ | d2
      · skip
        rw [plD_n k2] at hP hD
        have hE := rpV_2 (nH := nH) (nV := nV) (f1 := f1) (f2 := f2) (f4 := f4) (f5 := f5) (f7 := f7) k1 k2
        refine lv_istore_n (lv' := [(3, .int ((-9))), (2, .int (nI d1)), (0, .ref (t 0)), (1, .ref (a 0))]) hx hb dX2_readsVegetable_45 rfl hl (by decide) rfl (fun ls hl => ?_)
        refine lv_iload_n hx hb dX2_readsVegetable_46 rfl (lv_at hl 0 rfl) ?_
        refine lv_bipush (v := ((-9))) hx hb dX2_readsVegetable_47 (by decide) ?_
        refine lv_icmp_ne (tgt := 54) hx hb dX2_readsVegetable_49 (by decide) (fun c_49 => absurd c_49 (by decide +kernel)) (fun _ => ?_)
        refine lv_iconst (v := (nI 0)) hx hb dX2_readsVegetable_52 (by decide) ?_
        exact ct_z () hx hb hr hlocks (by rw [hE]; exact hP) hS (z_f (by rw [hE]; exact Bool.false_ne_true)) dX2_readsVegetable_53
      · skip
        rw [plD_s k2] at hP hD
        have e2 := dg_le k2
        have hE := rpV_3 (nH := nH) (nV := nV) (f1 := f1) (f2 := f2) (f4 := f4) (f5 := f5) (f7 := f7) k1 k2
        refine lv_istore_n (lv' := [(3, .int (nI d2)), (2, .int (nI d1)), (0, .ref (t 0)), (1, .ref (a 0))]) hx hb dX2_readsVegetable_45 rfl hl (by decide) rfl (fun ls hl => ?_)
        refine lv_iload_n hx hb dX2_readsVegetable_46 rfl (lv_at hl 0 rfl) ?_
        refine lv_bipush (v := ((-9))) hx hb dX2_readsVegetable_47 (by decide) ?_
        refine lv_icmp_ne (tgt := 54) hx hb dX2_readsVegetable_49 (by decide) (fun c_49 => ?_) (fun c_49 => ?_)
        · skip
          refine lv_aload_n hx hb dX2_readsVegetable_54 rfl (lv_at hl 3 rfl) ?_
          refine lv_bipush (v := (nI 10)) hx hb dX2_readsVegetable_55 (by decide) ?_
          refine lv_iload_n hx hb dX2_readsVegetable_57 rfl (lv_at hl 1 rfl) ?_
          refine lv_imul hx hb dX2_readsVegetable_58 ?_
          rw [pk_mul 10 d1]
          refine lv_iload_n hx hb dX2_readsVegetable_59 rfl (lv_at hl 0 rfl) ?_
          refine lv_iadd hx hb dX2_readsVegetable_60 ?_
          rw [nI_add (10 * d1) d2]
          refine go_V (ci := 1) (q0 := 2) (cq := (RX1, TX1, 14)) (c_X1_putVegetable l D cI cZ cF cL a nH nV wk ea gi sw f1 f2 f3 f4 f5 f6 f7 f8 ((10 * d1) + d2) (by omega)) (gUV u_235 u_236 u_237 u_20 u_238) rfl hdV_X1_putVegetable ⟨Nat.le_of_ble_eq_true rfl, Nat.le_of_ble_eq_true rfl⟩ ⟨rfl, rfl⟩ hx hb hml hown hts hK hA hP hD hS hl.1 ⟨Nat.le_of_ble_eq_true rfl, Nat.le_of_ble_eq_true rfl⟩ rfl rfl rfl [2, 3, 4, 5, 6, 7, 8, 9, 10] rfl rfl (fun _ => rfl) (rest := []) rfl rfl (Nat.le_of_ble_eq_true rfl) dX2_readsVegetable_61 (ws2 := (fun _ : Unit => (tX cI t X L (pl + 1 + 1 + 1) ++ fX cI a nH (nV + 1) wk ea gi sw f1 f2 f3 f4 (va_up f5 nV ((10 * d1) + d2)) f6 f7 f8))) (fun _ => rfl) (fun _ Hp locs hP hD hS => ?_)
          refine lv_iconst (v := (nI 1)) hx hb dX2_readsVegetable_64 (by decide) ?_
          exact ct_z () hx hb hr hlocks (by rw [hE]; exact hP) hS (z_t (by rw [hE])) dX2_readsVegetable_65
        · skip
          exact absurd c_49 (encK_ne (n := 99) (by omega) (by omega))
    · skip
      exact absurd c_20 (encK_ne (n := 99) (by omega) (by omega))
