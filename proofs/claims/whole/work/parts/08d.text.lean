set_option maxRecDepth 20000 in
theorem u_213 : Cond.fieldLink RX2 35 "HarvestBoxes$Farm" "houses" "I" ∈ wsL_law := List.mem_of_getElem? (i := 213) (by decide +kernel)
set_option maxRecDepth 20000 in
theorem u_214 : Cond.fieldLink RX2 41 "HarvestBoxes$Farm" "vegetables" "I" ∈ wsL_law := List.mem_of_getElem? (i := 214) (by decide +kernel)
set_option maxRecDepth 20000 in
theorem u_243 : Cond.fieldLink RX2 70 "HarvestBoxes$Farm" "likings" "[I" ∈ wsL_law := List.mem_of_getElem? (i := 243) (by decide +kernel)
set_option maxHeartbeats 4000000 in
set_option maxRecDepth 100000 in
theorem c_X2_readsLiking (l : Launch) (D : va_G) (cI cZ cF cL : ClassId) (a : Nat → Nat) (nH nV wk ea gi sw : Nat) (f1 f2 f3 f4 f5 f6 f7 f8 : Nat → Nat) (t : Nat → Nat) (X : Nat → Nat) (L pl : Nat) (hL : L ≤ 120) (hX : ∀ k, k < 120 → X k < 256) (hp : pl < 120) (hH : nH ≤ 6) (hV : nV ≤ 5) (h0 : 0 < nH) (h1 : 0 < nV) : CT l D (tysX cI cZ cF cL) yX2_readsLiking (wA yX2_readsLiking cX2_readsLiking 5 (some .boolean)) (rmF 2 43) [.ref (t 0), .ref (a 0)] (tX cI t X L pl ++ fX cI a nH nV wk ea gi sw f1 f2 f3 f4 f5 f6 f7 f8) (some (.int (if ((rpL X L pl nH nV f1 f2 f4 f5 f7).1 = true) then 1 else 0))) (fun _ : Unit => (tX cI t X L ((rpL X L pl nH nV f1 f2 f4 f5 f7).2.1) ++ fX cI a ((rpL X L pl nH nV f1 f2 f4 f5 f7).2.2.1) ((rpL X L pl nH nV f1 f2 f4 f5 f7).2.2.2.1) wk ea gi sw ((rpL X L pl nH nV f1 f2 f4 f5 f7).2.2.2.2.1) ((rpL X L pl nH nV f1 f2 f4 f5 f7).2.2.2.2.2.1) f3 ((rpL X L pl nH nV f1 f2 f4 f5 f7).2.2.2.2.2.2.1) ((rpL X L pl nH nV f1 f2 f4 f5 f7).2.2.2.2.2.2.2.1) f6 ((rpL X L pl nH nV f1 f2 f4 f5 f7).2.2.2.2.2.2.2.2) f8)) := by
  refine ct_in (cc := cX2_readsLiking) (maxL := 5) (ret := (some .boolean)) (own := RX2) (lv := [(0, .ref (t 0)), (1, .ref (a 0))]) (by decide +kernel) rfl rfl (Nat.le_of_ble_eq_true rfl) rfl ?_
  intro p e s m args below meth c A ls hx hb hr hml hts hown hlocks hK hA hP hD hS hl
  refine lv_aload_n hx hb dX2_readsLiking_0 rfl (lv_at hl 0 rfl) ?_
  refine lv_dup hx hb dX2_readsLiking_1 rfl ?_
  refine gf_n (C := RX2) (T := TX2) (N := 3) (ci := 2) (q0 := 0) (v := .int (nI pl)) hx hb hts (iU inlX2) hown hK hP rfl rfl 2 (by decide) (kU u_203) rfl rfl dX2_readsLiking_2 ?_
  refine lv_iconst (v := (nI 1)) hx hb dX2_readsLiking_5 (by decide) ?_
  refine lv_iadd hx hb dX2_readsLiking_6 ?_
  rw [nI_add pl 1]
  refine pf_n (C := RX2) (T := TX2) (N := 3) (ci := 2) (q0 := 0) (ty := .int) (v := .int (nI (pl + 1))) (ws2 := (tX cI t X L (pl + 1) ++ fX cI a nH nV wk ea gi sw f1 f2 f3 f4 f5 f6 f7 f8)) hx hb hts (iU inlX2) tyX2 tyX2_ok nmX2 hown hK hP hD hS rfl rfl 2 (by decide) (kU u_203) rfl rfl (tyX2_ok 2 (by decide)) rfl rfl (Nat.le_of_ble_eq_true rfl) dX2_readsLiking_7 rfl (fun Hp locs hP hD hS => ?_)
  refine lv_aload_n hx hb dX2_readsLiking_10 rfl (lv_at hl 0 rfl) ?_
  refine lv_iconst (v := (nI 0)) hx hb dX2_readsLiking_11 (by decide) ?_
  refine lv_aload_n hx hb dX2_readsLiking_12 rfl (lv_at hl 1 rfl) ?_
  refine gf_n (C := RX1) (T := TX1) (N := 14) (ci := 1) (q0 := 2) (v := .int (nI nH)) hx hb hts (iU inlX1) hown hK hP rfl rfl 0 (by decide) (kU u_213) rfl rfl dX2_readsLiking_13 ?_
  refine lv_iconst (v := (nI 1)) hx hb dX2_readsLiking_16 (by decide) ?_
  refine lv_isub hx hb dX2_readsLiking_17 ?_
  rw [pk_sub (a := nH) (b := 1) (by omega)]
  refine go_V (ci := 2) (q0 := 0) (cq := (RX2, TX2, 3)) (c_X2_readDigit l D cI cZ cF cL t X L (pl + 1) 0 (nH - 1) (by omega) hX (by omega) (by omega) (by omega)) (gUV u_219 u_220 u_221 u_16 u_222) rfl hdV_X2_readDigit ⟨Nat.le_of_ble_eq_true rfl, Nat.le_of_ble_eq_true rfl⟩ ⟨rfl, rfl⟩ hx hb hml hown hts hK hA hP hD hS hl.1 ⟨Nat.le_of_ble_eq_true rfl, Nat.le_of_ble_eq_true rfl⟩ rfl rfl rfl [0, 1] rfl rfl (fun _ => rfl) (rest := []) rfl rfl (Nat.le_of_ble_eq_true rfl) dX2_readsLiking_18 (ws2 := (fun _ : Unit => (tX cI t X L (plD X L (pl + 1) 0 (nH - 1)) ++ fX cI a nH nV wk ea gi sw f1 f2 f3 f4 f5 f6 f7 f8))) (fun _ => rfl) (fun _ Hp locs hP hD hS => ?_)
  rcases k1 : dg X L (pl + 1) 0 (nH - 1) with _ | d1
  · skip
    rw [plD_n k1] at hP hD
    have hE := rpL_1 (nH := nH) (nV := nV) (f1 := f1) (f2 := f2) (f4 := f4) (f5 := f5) (f7 := f7) k1
    refine lv_istore_n (lv' := [(2, .int ((-9))), (0, .ref (t 0)), (1, .ref (a 0))]) hx hb dX2_readsLiking_21 rfl hl (by decide) rfl (fun ls hl => ?_)
    refine lv_iload_n hx hb dX2_readsLiking_22 rfl (lv_at hl 0 rfl) ?_
    refine lv_bipush (v := ((-9))) hx hb dX2_readsLiking_23 (by decide) ?_
    refine lv_icmp_ne (tgt := 33) hx hb dX2_readsLiking_25 (by decide) (fun c_25 => absurd c_25 (by decide +kernel)) (fun _ => ?_)
    refine lv_bipush (v := ((-9))) hx hb dX2_readsLiking_28 (by decide) ?_
    refine lv_goto (tgt := 44) hx hb dX2_readsLiking_30 (by decide) ?_
    refine lv_istore_n (lv' := [(3, .int ((-9))), (2, .int ((-9))), (0, .ref (t 0)), (1, .ref (a 0))]) hx hb dX2_readsLiking_44 rfl hl (by decide) rfl (fun ls hl => ?_)
    refine lv_iload_n hx hb dX2_readsLiking_45 rfl (lv_at hl 0 rfl) ?_
    refine lv_bipush (v := ((-9))) hx hb dX2_readsLiking_46 (by decide) ?_
    refine lv_icmp_ne (tgt := 56) hx hb dX2_readsLiking_48 (by decide) (fun c_48 => absurd c_48 (by decide +kernel)) (fun _ => ?_)
    refine lv_bipush (v := ((-9))) hx hb dX2_readsLiking_51 (by decide) ?_
    refine lv_goto (tgt := 63) hx hb dX2_readsLiking_53 (by decide) ?_
    refine lv_istore (lv' := [(4, .int ((-9))), (3, .int ((-9))), (2, .int ((-9))), (0, .ref (t 0)), (1, .ref (a 0))]) hx hb dX2_readsLiking_63 hl (by decide) rfl (fun ls hl => ?_)
    refine lv_iload hx hb dX2_readsLiking_65 (lv_at hl 0 rfl) ?_
    refine lv_bipush (v := ((-9))) hx hb dX2_readsLiking_67 (by decide) ?_
    refine lv_icmp_ne (tgt := 74) hx hb dX2_readsLiking_69 (by decide) (fun c_69 => absurd c_69 (by decide +kernel)) (fun _ => ?_)
    refine lv_iconst (v := (nI 0)) hx hb dX2_readsLiking_72 (by decide) ?_
    exact ct_z () hx hb hr hlocks (by rw [hE]; exact hP) hS (z_f (by rw [hE]; exact Bool.false_ne_true)) dX2_readsLiking_73
  · skip
    rw [plD_s k1] at hP hD
    have e1 := dg_le k1
    refine lv_istore_n (lv' := [(2, .int (nI d1)), (0, .ref (t 0)), (1, .ref (a 0))]) hx hb dX2_readsLiking_21 rfl hl (by decide) rfl (fun ls hl => ?_)
    refine lv_iload_n hx hb dX2_readsLiking_22 rfl (lv_at hl 0 rfl) ?_
    refine lv_bipush (v := ((-9))) hx hb dX2_readsLiking_23 (by decide) ?_
    refine lv_icmp_ne (tgt := 33) hx hb dX2_readsLiking_25 (by decide) (fun c_25 => ?_) (fun c_25 => ?_)
    · skip
      refine lv_aload_n hx hb dX2_readsLiking_33 rfl (lv_at hl 1 rfl) ?_
      refine lv_iconst (v := (nI 0)) hx hb dX2_readsLiking_34 (by decide) ?_
      refine lv_aload_n hx hb dX2_readsLiking_35 rfl (lv_at hl 2 rfl) ?_
      refine gf_n (C := RX1) (T := TX1) (N := 14) (ci := 1) (q0 := 2) (v := .int (nI nV)) hx hb hts (iU inlX1) hown hK hP rfl rfl 1 (by decide) (kU u_214) rfl rfl dX2_readsLiking_36 ?_
      refine lv_iconst (v := (nI 1)) hx hb dX2_readsLiking_39 (by decide) ?_
      refine lv_isub hx hb dX2_readsLiking_40 ?_
      rw [pk_sub (a := nV) (b := 1) (by omega)]
      refine go_V (ci := 2) (q0 := 0) (cq := (RX2, TX2, 3)) (c_X2_readDigit l D cI cZ cF cL t X L (pl + 1 + 1) 0 (nV - 1) (by omega) hX (by omega) (by omega) (by omega)) (gUV u_219 u_220 u_221 u_16 u_222) rfl hdV_X2_readDigit ⟨Nat.le_of_ble_eq_true rfl, Nat.le_of_ble_eq_true rfl⟩ ⟨rfl, rfl⟩ hx hb hml hown hts hK hA hP hD hS hl.1 ⟨Nat.le_of_ble_eq_true rfl, Nat.le_of_ble_eq_true rfl⟩ rfl rfl rfl [0, 1] rfl rfl (fun _ => rfl) (rest := []) rfl rfl (Nat.le_of_ble_eq_true rfl) dX2_readsLiking_41 (ws2 := (fun _ : Unit => (tX cI t X L (plD X L (pl + 1 + 1) 0 (nV - 1)) ++ fX cI a nH nV wk ea gi sw f1 f2 f3 f4 f5 f6 f7 f8))) (fun _ => rfl) (fun _ Hp locs hP hD hS => ?_)
      rcases k2 : dg X L (pl + 1 + 1) 0 (nV - 1) with _ | d2
      · skip
        rw [plD_n k2] at hP hD
        have hE := rpL_2 (nH := nH) (nV := nV) (f1 := f1) (f2 := f2) (f4 := f4) (f5 := f5) (f7 := f7) k1 k2
        refine lv_istore_n (lv' := [(3, .int ((-9))), (2, .int (nI d1)), (0, .ref (t 0)), (1, .ref (a 0))]) hx hb dX2_readsLiking_44 rfl hl (by decide) rfl (fun ls hl => ?_)
        refine lv_iload_n hx hb dX2_readsLiking_45 rfl (lv_at hl 0 rfl) ?_
        refine lv_bipush (v := ((-9))) hx hb dX2_readsLiking_46 (by decide) ?_
        refine lv_icmp_ne (tgt := 56) hx hb dX2_readsLiking_48 (by decide) (fun c_48 => absurd c_48 (by decide +kernel)) (fun _ => ?_)
        refine lv_bipush (v := ((-9))) hx hb dX2_readsLiking_51 (by decide) ?_
        refine lv_goto (tgt := 63) hx hb dX2_readsLiking_53 (by decide) ?_
        refine lv_istore (lv' := [(4, .int ((-9))), (3, .int ((-9))), (2, .int (nI d1)), (0, .ref (t 0)), (1, .ref (a 0))]) hx hb dX2_readsLiking_63 hl (by decide) rfl (fun ls hl => ?_)
        refine lv_iload hx hb dX2_readsLiking_65 (lv_at hl 0 rfl) ?_
        refine lv_bipush (v := ((-9))) hx hb dX2_readsLiking_67 (by decide) ?_
        refine lv_icmp_ne (tgt := 74) hx hb dX2_readsLiking_69 (by decide) (fun c_69 => absurd c_69 (by decide +kernel)) (fun _ => ?_)
        refine lv_iconst (v := (nI 0)) hx hb dX2_readsLiking_72 (by decide) ?_
        exact ct_z () hx hb hr hlocks (by rw [hE]; exact hP) hS (z_f (by rw [hE]; exact Bool.false_ne_true)) dX2_readsLiking_73
      · skip
        rw [plD_s k2] at hP hD
        have e2 := dg_le k2
        refine lv_istore_n (lv' := [(3, .int (nI d2)), (2, .int (nI d1)), (0, .ref (t 0)), (1, .ref (a 0))]) hx hb dX2_readsLiking_44 rfl hl (by decide) rfl (fun ls hl => ?_)
        refine lv_iload_n hx hb dX2_readsLiking_45 rfl (lv_at hl 0 rfl) ?_
        refine lv_bipush (v := ((-9))) hx hb dX2_readsLiking_46 (by decide) ?_
        refine lv_icmp_ne (tgt := 56) hx hb dX2_readsLiking_48 (by decide) (fun c_48 => ?_) (fun c_48 => ?_)
        · skip
          refine lv_aload_n hx hb dX2_readsLiking_56 rfl (lv_at hl 2 rfl) ?_
          refine lv_iconst (v := (nI 0)) hx hb dX2_readsLiking_57 (by decide) ?_
          refine lv_bipush (v := (nI 9)) hx hb dX2_readsLiking_58 (by decide) ?_
          refine go_V (ci := 2) (q0 := 0) (cq := (RX2, TX2, 3)) (c_X2_readDigit l D cI cZ cF cL t X L (pl + 1 + 1 + 1) 0 9 (by omega) hX (by omega) (by omega) (by omega)) (gUV u_219 u_220 u_221 u_16 u_222) rfl hdV_X2_readDigit ⟨Nat.le_of_ble_eq_true rfl, Nat.le_of_ble_eq_true rfl⟩ ⟨rfl, rfl⟩ hx hb hml hown hts hK hA hP hD hS hl.1 ⟨Nat.le_of_ble_eq_true rfl, Nat.le_of_ble_eq_true rfl⟩ rfl rfl rfl [0, 1] rfl rfl (fun _ => rfl) (rest := []) rfl rfl (Nat.le_of_ble_eq_true rfl) dX2_readsLiking_60 (ws2 := (fun _ : Unit => (tX cI t X L (plD X L (pl + 1 + 1 + 1) 0 9) ++ fX cI a nH nV wk ea gi sw f1 f2 f3 f4 f5 f6 f7 f8))) (fun _ => rfl) (fun _ Hp locs hP hD hS => ?_)
          rcases k3 : dg X L (pl + 1 + 1 + 1) 0 9 with _ | d3
          · skip
            rw [plD_n k3] at hP hD
            have hE := rpL_3 (nH := nH) (nV := nV) (f1 := f1) (f2 := f2) (f4 := f4) (f5 := f5) (f7 := f7) k1 k2 k3
            refine lv_istore (lv' := [(4, .int ((-9))), (3, .int (nI d2)), (2, .int (nI d1)), (0, .ref (t 0)), (1, .ref (a 0))]) hx hb dX2_readsLiking_63 hl (by decide) rfl (fun ls hl => ?_)
            refine lv_iload hx hb dX2_readsLiking_65 (lv_at hl 0 rfl) ?_
            refine lv_bipush (v := ((-9))) hx hb dX2_readsLiking_67 (by decide) ?_
            refine lv_icmp_ne (tgt := 74) hx hb dX2_readsLiking_69 (by decide) (fun c_69 => absurd c_69 (by decide +kernel)) (fun _ => ?_)
            refine lv_iconst (v := (nI 0)) hx hb dX2_readsLiking_72 (by decide) ?_
            exact ct_z () hx hb hr hlocks (by rw [hE]; exact hP) hS (z_f (by rw [hE]; exact Bool.false_ne_true)) dX2_readsLiking_73
          · skip
            rw [plD_s k3] at hP hD
            have e3 := dg_le k3
            have hE := rpL_4 (nH := nH) (nV := nV) (f1 := f1) (f2 := f2) (f4 := f4) (f5 := f5) (f7 := f7) k1 k2 k3
            refine lv_istore (lv' := [(4, .int (nI d3)), (3, .int (nI d2)), (2, .int (nI d1)), (0, .ref (t 0)), (1, .ref (a 0))]) hx hb dX2_readsLiking_63 hl (by decide) rfl (fun ls hl => ?_)
            refine lv_iload hx hb dX2_readsLiking_65 (lv_at hl 0 rfl) ?_
            refine lv_bipush (v := ((-9))) hx hb dX2_readsLiking_67 (by decide) ?_
            refine lv_icmp_ne (tgt := 74) hx hb dX2_readsLiking_69 (by decide) (fun c_69 => ?_) (fun c_69 => ?_)
            · skip
              refine lv_aload_n hx hb dX2_readsLiking_74 rfl (lv_at hl 4 rfl) ?_
              refine gf_n (C := RX1) (T := TX1) (N := 14) (ci := 1) (q0 := 2) (v := .ref (a 7)) hx hb hts (iU inlX1) hown hK hP rfl rfl 12 (by decide) (kU u_243) rfl rfl dX2_readsLiking_75 ?_
              refine lv_iload_n hx hb dX2_readsLiking_78 rfl (lv_at hl 2 rfl) ?_
              refine lv_iload_n hx hb dX2_readsLiking_79 rfl (lv_at hl 1 rfl) ?_
              refine go_SN (ni := 3) (c_X8_cell l D cI cZ cF cL d1 d2 ) (gU u_245) rfl hdS_X8_cell ⟨Nat.le_of_ble_eq_true rfl, Nat.le_of_ble_eq_true rfl⟩ ⟨rfl, rfl⟩ rfl (hts _ (kU u_2)) (hts _ (kU u_244)) hx hb hml hown hts hK hA hP hD hS hl.1 ⟨Nat.le_of_ble_eq_true rfl, Nat.le_of_ble_eq_true rfl⟩ [] rfl rfl (fun _ => rfl) (rest := [.ref (a 7)]) rfl rfl (Nat.le_of_ble_eq_true rfl) dX2_readsLiking_80 (ws2 := (fun _ : Unit => (tX cI t X L (pl + 1 + 1 + 1 + 1) ++ fX cI a nH nV wk ea gi sw f1 f2 f3 f4 f5 f6 f7 f8))) (fun _ => rfl) (fun _ Hp locs hP hD hS => ?_)
              refine lv_iload hx hb dX2_readsLiking_83 (lv_at hl 0 rfl) ?_
              refine is_n (q0 := 9) (t0 := 0) (ws2 := (tX cI t X L (pl + 1 + 1 + 1 + 1) ++ fX cI a nH nV wk ea gi sw f1 f2 f3 f4 f5 f6 (va_up f7 (d1 * 5 + d2) d3) f8)) hx hb hK hP hD hS rfl rfl (by omega) (by decide) dX2_readsLiking_85 rfl (fun Hp locs hP hD hS => ?_)
              refine lv_iconst (v := (nI 1)) hx hb dX2_readsLiking_86 (by decide) ?_
              exact ct_z () hx hb hr hlocks (by rw [hE]; exact hP) hS (z_t (by rw [hE])) dX2_readsLiking_87
            · skip
              exact absurd c_69 (encK_ne (n := 99) (by omega) (by omega))
        · skip
          exact absurd c_48 (encK_ne (n := 99) (by omega) (by omega))
    · skip
      exact absurd c_25 (encK_ne (n := 99) (by omega) (by omega))
