set_option maxRecDepth 20000 in
theorem u_222 : Cond.code yX2_readDigit cX2_readDigit 4 (some .int) ∈ wsL_law := List.mem_of_getElem? (i := 222) (by decide +kernel)
set_option maxRecDepth 20000 in
theorem u_219 : Cond.methodLink RX2 53 yX2_readDigit ∈ wsL_law := List.mem_of_getElem? (i := 219) (by decide +kernel)
set_option maxRecDepth 20000 in
theorem u_220 : Cond.instanceMethod yX2_readDigit ∈ wsL_law := List.mem_of_getElem? (i := 220) (by decide +kernel)
set_option maxRecDepth 20000 in
theorem u_221 : Cond.selects RX2 yX2_readDigit yX2_readDigit ∈ wsL_law := List.mem_of_getElem? (i := 221) (by decide +kernel)
set_option maxRecDepth 20000 in
theorem u_226 : Cond.code yX1_putHouse cX1_putHouse 3 none ∈ wsL_law := List.mem_of_getElem? (i := 226) (by decide +kernel)
set_option maxRecDepth 20000 in
theorem u_223 : Cond.methodLink RX2 57 yX1_putHouse ∈ wsL_law := List.mem_of_getElem? (i := 223) (by decide +kernel)
set_option maxRecDepth 20000 in
theorem u_224 : Cond.instanceMethod yX1_putHouse ∈ wsL_law := List.mem_of_getElem? (i := 224) (by decide +kernel)
set_option maxRecDepth 20000 in
theorem u_225 : Cond.selects RX1 yX1_putHouse yX1_putHouse ∈ wsL_law := List.mem_of_getElem? (i := 225) (by decide +kernel)
theorem hdV_X2_readDigit : yX2_readDigit.cls = RX2 ∧ yX2_readDigit.cls ≠ "java/lang/invoke/MethodHandle" ∧ yX2_readDigit.cls ≠ "java/lang/invoke/VarHandle" ∧ (parseMethodDescriptor yX2_readDigit.desc).map (fun d => d.parameters.length) = some 2 := by decide +kernel
theorem hdV_X1_putHouse : yX1_putHouse.cls = RX1 ∧ yX1_putHouse.cls ≠ "java/lang/invoke/MethodHandle" ∧ yX1_putHouse.cls ≠ "java/lang/invoke/VarHandle" ∧ (parseMethodDescriptor yX1_putHouse.desc).map (fun d => d.parameters.length) = some 2 := by decide +kernel
set_option maxHeartbeats 4000000 in
set_option maxRecDepth 100000 in
theorem c_X2_readsHouse (l : Launch) (D : va_G) (cI cZ cF cL : ClassId) (a : Nat → Nat) (nH nV wk ea gi sw : Nat) (f1 f2 f3 f4 f5 f6 f7 f8 : Nat → Nat) (t : Nat → Nat) (X : Nat → Nat) (L pl : Nat) (hL : L ≤ 120) (hX : ∀ k, k < 120 → X k < 256) (hp : pl < 120) (hH : nH ≤ 6) (hV : nV ≤ 5) (h6 : nH < 6) : CT l D (tysX cI cZ cF cL) yX2_readsHouse (wA yX2_readsHouse cX2_readsHouse 4 (some .boolean)) (rmF 2 43) [.ref (t 0), .ref (a 0)] (tX cI t X L pl ++ fX cI a nH nV wk ea gi sw f1 f2 f3 f4 f5 f6 f7 f8) (some (.int (if ((rpH X L pl nH nV f1 f2 f4 f5 f7).1 = true) then 1 else 0))) (fun _ : Unit => (tX cI t X L ((rpH X L pl nH nV f1 f2 f4 f5 f7).2.1) ++ fX cI a ((rpH X L pl nH nV f1 f2 f4 f5 f7).2.2.1) ((rpH X L pl nH nV f1 f2 f4 f5 f7).2.2.2.1) wk ea gi sw ((rpH X L pl nH nV f1 f2 f4 f5 f7).2.2.2.2.1) ((rpH X L pl nH nV f1 f2 f4 f5 f7).2.2.2.2.2.1) f3 ((rpH X L pl nH nV f1 f2 f4 f5 f7).2.2.2.2.2.2.1) ((rpH X L pl nH nV f1 f2 f4 f5 f7).2.2.2.2.2.2.2.1) f6 ((rpH X L pl nH nV f1 f2 f4 f5 f7).2.2.2.2.2.2.2.2) f8)) := by
  refine ct_in (cc := cX2_readsHouse) (maxL := 4) (ret := (some .boolean)) (own := RX2) (lv := [(0, .ref (t 0)), (1, .ref (a 0))]) (by decide +kernel) rfl rfl (Nat.le_of_ble_eq_true rfl) rfl ?_
  intro p e s m args below meth c A ls hx hb hr hml hts hown hlocks hK hA hP hD hS hl
  refine lv_aload_n hx hb dX2_readsHouse_0 rfl (lv_at hl 0 rfl) ?_
  refine lv_dup hx hb dX2_readsHouse_1 rfl ?_
  refine gf_n (C := RX2) (T := TX2) (N := 3) (ci := 2) (q0 := 0) (v := .int (nI pl)) hx hb hts (iU inlX2) hown hK hP rfl rfl 2 (by decide) (kU u_203) rfl rfl dX2_readsHouse_2 ?_
  refine lv_iconst (v := (nI 1)) hx hb dX2_readsHouse_5 (by decide) ?_
  refine lv_iadd hx hb dX2_readsHouse_6 ?_
  rw [nI_add pl 1]
  refine pf_n (C := RX2) (T := TX2) (N := 3) (ci := 2) (q0 := 0) (ty := .int) (v := .int (nI (pl + 1))) (ws2 := (tX cI t X L (pl + 1) ++ fX cI a nH nV wk ea gi sw f1 f2 f3 f4 f5 f6 f7 f8)) hx hb hts (iU inlX2) tyX2 tyX2_ok nmX2 hown hK hP hD hS rfl rfl 2 (by decide) (kU u_203) rfl rfl (tyX2_ok 2 (by decide)) rfl rfl (Nat.le_of_ble_eq_true rfl) dX2_readsHouse_7 rfl (fun Hp locs hP hD hS => ?_)
  refine lv_aload_n hx hb dX2_readsHouse_10 rfl (lv_at hl 0 rfl) ?_
  refine lv_iconst (v := (nI 1)) hx hb dX2_readsHouse_11 (by decide) ?_
  refine lv_iconst (v := (nI 4)) hx hb dX2_readsHouse_12 (by decide) ?_
  refine go_V (ci := 2) (q0 := 0) (cq := (RX2, TX2, 3)) (c_X2_readDigit l D cI cZ cF cL t X L (pl + 1) 1 4 (by omega) hX (by omega) (by omega) (by omega)) (gUV u_219 u_220 u_221 u_16 u_222) rfl hdV_X2_readDigit ⟨Nat.le_of_ble_eq_true rfl, Nat.le_of_ble_eq_true rfl⟩ ⟨rfl, rfl⟩ hx hb hml hown hts hK hA hP hD hS hl.1 ⟨Nat.le_of_ble_eq_true rfl, Nat.le_of_ble_eq_true rfl⟩ rfl rfl rfl [0, 1] rfl rfl (fun _ => rfl) (rest := []) rfl rfl (Nat.le_of_ble_eq_true rfl) dX2_readsHouse_13 (ws2 := (fun _ : Unit => (tX cI t X L (plD X L (pl + 1) 1 4) ++ fX cI a nH nV wk ea gi sw f1 f2 f3 f4 f5 f6 f7 f8))) (fun _ => rfl) (fun _ Hp locs hP hD hS => ?_)
  rcases k1 : dg X L (pl + 1) 1 4 with _ | d1
  · skip
    rw [plD_n k1] at hP hD
    have hE := rpH_1 (nH := nH) (nV := nV) (f1 := f1) (f2 := f2) (f4 := f4) (f5 := f5) (f7 := f7) k1
    refine lv_istore_n (lv' := [(2, .int ((-9))), (0, .ref (t 0)), (1, .ref (a 0))]) hx hb dX2_readsHouse_16 rfl hl (by decide) rfl (fun ls hl => ?_)
    refine lv_iload_n hx hb dX2_readsHouse_17 rfl (lv_at hl 0 rfl) ?_
    refine lv_bipush (v := ((-9))) hx hb dX2_readsHouse_18 (by decide) ?_
    refine lv_icmp_ne (tgt := 28) hx hb dX2_readsHouse_20 (by decide) (fun c_20 => absurd c_20 (by decide +kernel)) (fun _ => ?_)
    refine lv_bipush (v := ((-9))) hx hb dX2_readsHouse_23 (by decide) ?_
    refine lv_goto (tgt := 35) hx hb dX2_readsHouse_25 (by decide) ?_
    refine lv_istore_n (lv' := [(3, .int ((-9))), (2, .int ((-9))), (0, .ref (t 0)), (1, .ref (a 0))]) hx hb dX2_readsHouse_35 rfl hl (by decide) rfl (fun ls hl => ?_)
    refine lv_iload_n hx hb dX2_readsHouse_36 rfl (lv_at hl 0 rfl) ?_
    refine lv_bipush (v := ((-9))) hx hb dX2_readsHouse_37 (by decide) ?_
    refine lv_icmp_ne (tgt := 44) hx hb dX2_readsHouse_39 (by decide) (fun c_39 => absurd c_39 (by decide +kernel)) (fun _ => ?_)
    refine lv_iconst (v := (nI 0)) hx hb dX2_readsHouse_42 (by decide) ?_
    exact ct_z () hx hb hr hlocks (by rw [hE]; exact hP) hS (z_f (by rw [hE]; exact Bool.false_ne_true)) dX2_readsHouse_43
  · skip
    rw [plD_s k1] at hP hD
    have e1 := dg_le k1
    refine lv_istore_n (lv' := [(2, .int (nI d1)), (0, .ref (t 0)), (1, .ref (a 0))]) hx hb dX2_readsHouse_16 rfl hl (by decide) rfl (fun ls hl => ?_)
    refine lv_iload_n hx hb dX2_readsHouse_17 rfl (lv_at hl 0 rfl) ?_
    refine lv_bipush (v := ((-9))) hx hb dX2_readsHouse_18 (by decide) ?_
    refine lv_icmp_ne (tgt := 28) hx hb dX2_readsHouse_20 (by decide) (fun c_20 => ?_) (fun c_20 => ?_)
    · skip
      refine lv_aload_n hx hb dX2_readsHouse_28 rfl (lv_at hl 1 rfl) ?_
      refine lv_iconst (v := (nI 0)) hx hb dX2_readsHouse_29 (by decide) ?_
      refine lv_bipush (v := (nI 9)) hx hb dX2_readsHouse_30 (by decide) ?_
      refine go_V (ci := 2) (q0 := 0) (cq := (RX2, TX2, 3)) (c_X2_readDigit l D cI cZ cF cL t X L (pl + 1 + 1) 0 9 (by omega) hX (by omega) (by omega) (by omega)) (gUV u_219 u_220 u_221 u_16 u_222) rfl hdV_X2_readDigit ⟨Nat.le_of_ble_eq_true rfl, Nat.le_of_ble_eq_true rfl⟩ ⟨rfl, rfl⟩ hx hb hml hown hts hK hA hP hD hS hl.1 ⟨Nat.le_of_ble_eq_true rfl, Nat.le_of_ble_eq_true rfl⟩ rfl rfl rfl [0, 1] rfl rfl (fun _ => rfl) (rest := []) rfl rfl (Nat.le_of_ble_eq_true rfl) dX2_readsHouse_32 (ws2 := (fun _ : Unit => (tX cI t X L (plD X L (pl + 1 + 1) 0 9) ++ fX cI a nH nV wk ea gi sw f1 f2 f3 f4 f5 f6 f7 f8))) (fun _ => rfl) (fun _ Hp locs hP hD hS => ?_)
      rcases k2 : dg X L (pl + 1 + 1) 0 9 with _ | d2
      · skip
        rw [plD_n k2] at hP hD
        have hE := rpH_2 (nH := nH) (nV := nV) (f1 := f1) (f2 := f2) (f4 := f4) (f5 := f5) (f7 := f7) k1 k2
        refine lv_istore_n (lv' := [(3, .int ((-9))), (2, .int (nI d1)), (0, .ref (t 0)), (1, .ref (a 0))]) hx hb dX2_readsHouse_35 rfl hl (by decide) rfl (fun ls hl => ?_)
        refine lv_iload_n hx hb dX2_readsHouse_36 rfl (lv_at hl 0 rfl) ?_
        refine lv_bipush (v := ((-9))) hx hb dX2_readsHouse_37 (by decide) ?_
        refine lv_icmp_ne (tgt := 44) hx hb dX2_readsHouse_39 (by decide) (fun c_39 => absurd c_39 (by decide +kernel)) (fun _ => ?_)
        refine lv_iconst (v := (nI 0)) hx hb dX2_readsHouse_42 (by decide) ?_
        exact ct_z () hx hb hr hlocks (by rw [hE]; exact hP) hS (z_f (by rw [hE]; exact Bool.false_ne_true)) dX2_readsHouse_43
      · skip
        rw [plD_s k2] at hP hD
        have e2 := dg_le k2
        have hE := rpH_3 (nH := nH) (nV := nV) (f1 := f1) (f2 := f2) (f4 := f4) (f5 := f5) (f7 := f7) k1 k2
        refine lv_istore_n (lv' := [(3, .int (nI d2)), (2, .int (nI d1)), (0, .ref (t 0)), (1, .ref (a 0))]) hx hb dX2_readsHouse_35 rfl hl (by decide) rfl (fun ls hl => ?_)
        refine lv_iload_n hx hb dX2_readsHouse_36 rfl (lv_at hl 0 rfl) ?_
        refine lv_bipush (v := ((-9))) hx hb dX2_readsHouse_37 (by decide) ?_
        refine lv_icmp_ne (tgt := 44) hx hb dX2_readsHouse_39 (by decide) (fun c_39 => ?_) (fun c_39 => ?_)
        · skip
          refine lv_aload_n hx hb dX2_readsHouse_44 rfl (lv_at hl 3 rfl) ?_
          refine lv_iload_n hx hb dX2_readsHouse_45 rfl (lv_at hl 1 rfl) ?_
          refine lv_iload_n hx hb dX2_readsHouse_46 rfl (lv_at hl 0 rfl) ?_
          refine go_V (ci := 1) (q0 := 2) (cq := (RX1, TX1, 14)) (c_X1_putHouse l D cI cZ cF cL a nH nV wk ea gi sw f1 f2 f3 f4 f5 f6 f7 f8 d1 d2 (by omega)) (gUV u_223 u_224 u_225 u_20 u_226) rfl hdV_X1_putHouse ⟨Nat.le_of_ble_eq_true rfl, Nat.le_of_ble_eq_true rfl⟩ ⟨rfl, rfl⟩ hx hb hml hown hts hK hA hP hD hS hl.1 ⟨Nat.le_of_ble_eq_true rfl, Nat.le_of_ble_eq_true rfl⟩ rfl rfl rfl [2, 3, 4, 5, 6, 7, 8, 9, 10] rfl rfl (fun _ => rfl) (rest := []) rfl rfl (Nat.le_of_ble_eq_true rfl) dX2_readsHouse_47 (ws2 := (fun _ : Unit => (tX cI t X L (pl + 1 + 1 + 1) ++ fX cI a (nH + 1) nV wk ea gi sw (va_up f1 nH d1) (va_up f2 nH d2) f3 f4 f5 f6 f7 f8))) (fun _ => rfl) (fun _ Hp locs hP hD hS => ?_)
          refine lv_iconst (v := (nI 1)) hx hb dX2_readsHouse_50 (by decide) ?_
          exact ct_z () hx hb hr hlocks (by rw [hE]; exact hP) hS (z_t (by rw [hE])) dX2_readsHouse_51
        · skip
          exact absurd c_39 (encK_ne (n := 99) (by omega) (by omega))
    · skip
      exact absurd c_20 (encK_ne (n := 99) (by omega) (by omega))
