set_option maxRecDepth 20000 in
theorem u_250 : Cond.fieldLink RX2 76 "HarvestBoxes$Farm" "skipping" "[I" ∈ wsL_law := List.mem_of_getElem? (i := 250) (by decide +kernel)
set_option maxHeartbeats 4000000 in
set_option maxRecDepth 100000 in
theorem c_X2_readsSkip (l : Launch) (D : va_G) (cI cZ cF cL : ClassId) (a : Nat → Nat) (nH nV wk ea gi sw : Nat) (f1 f2 f3 f4 f5 f6 f7 f8 : Nat → Nat) (t : Nat → Nat) (X : Nat → Nat) (L pl : Nat) (hL : L ≤ 120) (hX : ∀ k, k < 120 → X k < 256) (hp : pl < 120) (hH : nH ≤ 6) (hV : nV ≤ 5) (h0 : 0 < nH) : CT l D (tysX cI cZ cF cL) yX2_readsSkip (wA yX2_readsSkip cX2_readsSkip 3 (some .boolean)) (rmF 2 43) [.ref (t 0), .ref (a 0)] (tX cI t X L pl ++ fX cI a nH nV wk ea gi sw f1 f2 f3 f4 f5 f6 f7 f8) (some (.int (if ((rpS X L pl nH nV f1 f2 f4 f5 f7).1 = true) then 1 else 0))) (fun _ : Unit => (tX cI t X L ((rpS X L pl nH nV f1 f2 f4 f5 f7).2.1) ++ fX cI a ((rpS X L pl nH nV f1 f2 f4 f5 f7).2.2.1) ((rpS X L pl nH nV f1 f2 f4 f5 f7).2.2.2.1) wk ea gi sw ((rpS X L pl nH nV f1 f2 f4 f5 f7).2.2.2.2.1) ((rpS X L pl nH nV f1 f2 f4 f5 f7).2.2.2.2.2.1) f3 ((rpS X L pl nH nV f1 f2 f4 f5 f7).2.2.2.2.2.2.1) ((rpS X L pl nH nV f1 f2 f4 f5 f7).2.2.2.2.2.2.2.1) f6 ((rpS X L pl nH nV f1 f2 f4 f5 f7).2.2.2.2.2.2.2.2) f8)) := by
  refine ct_in (cc := cX2_readsSkip) (maxL := 3) (ret := (some .boolean)) (own := RX2) (lv := [(0, .ref (t 0)), (1, .ref (a 0))]) (by decide +kernel) rfl rfl (Nat.le_of_ble_eq_true rfl) rfl ?_
  intro p e s m args below meth c A ls hx hb hr hml hts hown hlocks hK hA hP hD hS hl
  refine lv_aload_n hx hb dX2_readsSkip_0 rfl (lv_at hl 0 rfl) ?_
  refine lv_dup hx hb dX2_readsSkip_1 rfl ?_
  refine gf_n (C := RX2) (T := TX2) (N := 3) (ci := 2) (q0 := 0) (v := .int (nI pl)) hx hb hts (iU inlX2) hown hK hP rfl rfl 2 (by decide) (kU u_203) rfl rfl dX2_readsSkip_2 ?_
  refine lv_iconst (v := (nI 1)) hx hb dX2_readsSkip_5 (by decide) ?_
  refine lv_iadd hx hb dX2_readsSkip_6 ?_
  rw [nI_add pl 1]
  refine pf_n (C := RX2) (T := TX2) (N := 3) (ci := 2) (q0 := 0) (ty := .int) (v := .int (nI (pl + 1))) (ws2 := (tX cI t X L (pl + 1) ++ fX cI a nH nV wk ea gi sw f1 f2 f3 f4 f5 f6 f7 f8)) hx hb hts (iU inlX2) tyX2 tyX2_ok nmX2 hown hK hP hD hS rfl rfl 2 (by decide) (kU u_203) rfl rfl (tyX2_ok 2 (by decide)) rfl rfl (Nat.le_of_ble_eq_true rfl) dX2_readsSkip_7 rfl (fun Hp locs hP hD hS => ?_)
  refine lv_aload_n hx hb dX2_readsSkip_10 rfl (lv_at hl 0 rfl) ?_
  refine lv_iconst (v := (nI 0)) hx hb dX2_readsSkip_11 (by decide) ?_
  refine lv_aload_n hx hb dX2_readsSkip_12 rfl (lv_at hl 1 rfl) ?_
  refine gf_n (C := RX1) (T := TX1) (N := 14) (ci := 1) (q0 := 2) (v := .int (nI nH)) hx hb hts (iU inlX1) hown hK hP rfl rfl 0 (by decide) (kU u_213) rfl rfl dX2_readsSkip_13 ?_
  refine lv_iconst (v := (nI 1)) hx hb dX2_readsSkip_16 (by decide) ?_
  refine lv_isub hx hb dX2_readsSkip_17 ?_
  rw [pk_sub (a := nH) (b := 1) (by omega)]
  refine go_V (ci := 2) (q0 := 0) (cq := (RX2, TX2, 3)) (c_X2_readDigit l D cI cZ cF cL t X L (pl + 1) 0 (nH - 1) (by omega) hX (by omega) (by omega) (by omega)) (gUV u_219 u_220 u_221 u_16 u_222) rfl hdV_X2_readDigit ⟨Nat.le_of_ble_eq_true rfl, Nat.le_of_ble_eq_true rfl⟩ ⟨rfl, rfl⟩ hx hb hml hown hts hK hA hP hD hS hl.1 ⟨Nat.le_of_ble_eq_true rfl, Nat.le_of_ble_eq_true rfl⟩ rfl rfl rfl [0, 1] rfl rfl (fun _ => rfl) (rest := []) rfl rfl (Nat.le_of_ble_eq_true rfl) dX2_readsSkip_18 (ws2 := (fun _ : Unit => (tX cI t X L (plD X L (pl + 1) 0 (nH - 1)) ++ fX cI a nH nV wk ea gi sw f1 f2 f3 f4 f5 f6 f7 f8))) (fun _ => rfl) (fun _ Hp locs hP hD hS => ?_)
  rcases k1 : dg X L (pl + 1) 0 (nH - 1) with _ | d1
  · skip
    rw [plD_n k1] at hP hD
    have hE := rpS_1 (nH := nH) (nV := nV) (f1 := f1) (f2 := f2) (f4 := f4) (f5 := f5) (f7 := f7) k1
    refine lv_istore_n (lv' := [(2, .int ((-9))), (0, .ref (t 0)), (1, .ref (a 0))]) hx hb dX2_readsSkip_21 rfl hl (by decide) rfl (fun ls hl => ?_)
    refine lv_iload_n hx hb dX2_readsSkip_22 rfl (lv_at hl 0 rfl) ?_
    refine lv_bipush (v := ((-9))) hx hb dX2_readsSkip_23 (by decide) ?_
    refine lv_icmp_ne (tgt := 30) hx hb dX2_readsSkip_25 (by decide) (fun c_25 => absurd c_25 (by decide +kernel)) (fun _ => ?_)
    refine lv_iconst (v := (nI 0)) hx hb dX2_readsSkip_28 (by decide) ?_
    exact ct_z () hx hb hr hlocks (by rw [hE]; exact hP) hS (z_f (by rw [hE]; exact Bool.false_ne_true)) dX2_readsSkip_29
  · skip
    rw [plD_s k1] at hP hD
    have e1 := dg_le k1
    have hE := rpS_2 (nH := nH) (nV := nV) (f1 := f1) (f2 := f2) (f4 := f4) (f5 := f5) (f7 := f7) k1
    refine lv_istore_n (lv' := [(2, .int (nI d1)), (0, .ref (t 0)), (1, .ref (a 0))]) hx hb dX2_readsSkip_21 rfl hl (by decide) rfl (fun ls hl => ?_)
    refine lv_iload_n hx hb dX2_readsSkip_22 rfl (lv_at hl 0 rfl) ?_
    refine lv_bipush (v := ((-9))) hx hb dX2_readsSkip_23 (by decide) ?_
    refine lv_icmp_ne (tgt := 30) hx hb dX2_readsSkip_25 (by decide) (fun c_25 => ?_) (fun c_25 => ?_)
    · skip
      refine lv_aload_n hx hb dX2_readsSkip_30 rfl (lv_at hl 2 rfl) ?_
      refine gf_n (C := RX1) (T := TX1) (N := 14) (ci := 1) (q0 := 2) (v := .ref (a 4)) hx hb hts (iU inlX1) hown hK hP rfl rfl 9 (by decide) (kU u_250) rfl rfl dX2_readsSkip_31 ?_
      refine lv_iload_n hx hb dX2_readsSkip_34 rfl (lv_at hl 0 rfl) ?_
      refine lv_iconst (v := (nI 1)) hx hb dX2_readsSkip_35 (by decide) ?_
      refine is_n (q0 := 6) (t0 := 0) (ws2 := (tX cI t X L (pl + 1 + 1) ++ fX cI a nH nV wk ea gi sw f1 f2 f3 (va_up f4 d1 1) f5 f6 f7 f8)) hx hb hK hP hD hS rfl rfl (by omega) (by decide) dX2_readsSkip_36 rfl (fun Hp locs hP hD hS => ?_)
      refine lv_iconst (v := (nI 1)) hx hb dX2_readsSkip_37 (by decide) ?_
      exact ct_z () hx hb hr hlocks (by rw [hE]; exact hP) hS (z_t (by rw [hE])) dX2_readsSkip_38
    · skip
      exact absurd c_25 (encK_ne (n := 99) (by omega) (by omega))
