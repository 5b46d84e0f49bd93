set_option maxRecDepth 20000 in
theorem u_594 : Cond.fieldLink RX4 89 "HarvestBoxes$Farm" "harvest" "[I" ∈ wsL_law := List.mem_of_getElem? (i := 179) (by decide +kernel)
set_option maxRecDepth 20000 in
theorem u_577 : Cond.fieldLink RX4 42 "HarvestBoxes$Farm" "kilos" "[I" ∈ wsL_law := List.mem_of_getElem? (i := 150) (by decide +kernel)
set_option maxHeartbeats 4000000 in
set_option maxRecDepth 100000 in
theorem c_X4_dealShares (l : Launch) (D : va_G) (cI cZ cF cL : ClassId) (b : Nat → Nat) (g1 g2 : Nat → Nat) (kn kw : Int32) (x1 x2 x3 x4 x5 : Nat) (a : Nat → Nat) (nH nV wk ea gi sw : Nat) (f1 f2 f3 f4 f5 f6 f7 f8 : Nat → Nat) (pt : Nat → Nat) (v P : Nat) (hH : nH ≤ 6) (hv : v < 5) (hL : f5 v ≤ 40) (hg : ∀ h, h < nH → g1 h = pt h) (hp5 : ∀ h, h < nH → pt h ≤ 5) (hP3 : P < 2 ^ 31) (hsum : sumN pt nH ≤ P) : CT l D (tysX cI cZ cF cL) yX4_dealShares (wA yX4_dealShares cX4_dealShares 7 (some .int)) (rmF 1 21) [.ref (b 0), .ref (a 0), .int (nI v), .int (nI P)] (pX cI b g1 g2 kn kw x1 x2 x3 x4 x5 ++ fX cI a nH nV wk ea gi sw f1 f2 f3 f4 f5 f6 f7 f8) (some (.int (nI (f5 v - shS (f5 v) pt P nH)))) (fun _ : Unit => (pX cI b g1 g2 kn kw x1 x2 x3 x4 x5 ++ fX cI a nH nV wk ea gi sw f1 f2 f3 f4 f5 f6 f7 (dlK f8 (f5 v) pt P v nH))) := by
  refine ct_in (cc := cX4_dealShares) (maxL := 7) (ret := (some .int)) (own := RX4) (lv := [(0, .ref (b 0)), (1, .ref (a 0)), (2, .int (nI v)), (3, .int (nI P))]) (by decide +kernel) rfl rfl (Nat.le_of_ble_eq_true rfl) rfl ?_
  intro p e s m args below meth c A ls hx hb hr hml hts hown hlocks hK hA hP hD hS hl
  refine lv_aload_n hx hb dX4_dealShares_0 rfl (lv_at hl 1 rfl) ?_
  refine gf_n (C := RX1) (T := TX1) (N := 14) (ci := 1) (q0 := 5) (v := .ref (a 5)) hx hb hts (iU inlX1) hown hK hP rfl rfl 10 (by decide) (kU u_594) rfl rfl dX4_dealShares_1 ?_
  refine lv_iload_n hx hb dX4_dealShares_4 rfl (lv_at hl 2 rfl) ?_
  refine ia_n (q0 := 10) (t0 := 0) hx hb hK hP rfl rfl (by omega) (by decide) dX4_dealShares_5 ?_
  refine lv_istore (lv' := [(4, .int (nI (f5 v))), (0, .ref (b 0)), (1, .ref (a 0)), (2, .int (nI v)), (3, .int (nI P))]) hx hb dX4_dealShares_6 hl (by decide) rfl (fun ls hl => ?_)
  refine lv_iload_n hx hb dX4_dealShares_8 rfl (lv_at hl 4 rfl) ?_
  refine lv_if_le (tgt := 68) hx hb dX4_dealShares_9 (by decide) (fun c_9 => ?_) (fun c_9 => ?_)
  · skip
    replace c_9 := cn_le (b := 0) hP3 (by decide) c_9
    refine lv_iload hx hb dX4_dealShares_68 (lv_at hl 0 rfl) ?_
    exact ct_i () hx hb hr hlocks (by first | (rw [ef, show i = nH by omega] at hP; exact hP) | (rw [show P = 0 by omega, dlK_z]; exact hP)) hS (by first | rw [ek, show i = nH by omega] | (rw [show P = 0 by omega, shS_z]; rfl)) dX4_dealShares_70
  · skip
    replace c_9 := cn_nle (b := 0) hP3 (by decide) c_9
    refine lv_iconst (v := (nI 0)) hx hb dX4_dealShares_12 (by decide) ?_
    refine lv_istore (lv' := [(5, .int (nI 0)), (4, .int (nI (f5 v))), (0, .ref (b 0)), (1, .ref (a 0)), (2, .int (nI v)), (3, .int (nI P))]) hx hb dX4_dealShares_13 hl (by decide) rfl (fun ls hl => ?_)
    have loop_15 : ∀ (dd : Nat) (i : Nat) (k : Nat) (f0 : Nat → Nat), (i ≤ nH) → (k = f5 v - shS (f5 v) pt P i) → (f0 = dlK f8 (f5 v) pt P v i) → (nH - i) < dd → ∀ (Hp : Heap) (locs : List Loc), va_P D vwCl (pX cI b g1 g2 kn kw x1 x2 x3 x4 x5 ++ fX cI a nH nV wk ea gi sw f1 f2 f3 f4 f5 f6 f7 f0) Hp → va_D A (pX cI b g1 g2 kn kw x1 x2 x3 x4 x5 ++ fX cI a nH nV wk ea gi sw f1 f2 f3 f4 f5 f6 f7 f0) → va_S A s.heap Hp locs → ∀ ls : Array Slot, lv_has ls 7 [(5, .int (nI i)), (4, .int (nI k)), (0, .ref (b 0)), (1, .ref (a 0)), (2, .int (nI v)), (3, .int (nI P))] → W p l e (rmF 1 21) s m args below meth c Hp locs 0 0 (MQ below (CQ D (some (.int (nI (f5 v - shS (f5 v) pt P nH)))) (fun _ : Unit => (pX cI b g1 g2 kn kw x1 x2 x3 x4 x5 ++ fX cI a nH nV wk ea gi sw f1 f2 f3 f4 f5 f6 f7 (dlK f8 (f5 v) pt P v nH))) A) args s 0 0 A) (F0 m 15 ls []) := by
      intro dd
      induction dd with
      | zero => intro i k f0 hi ek ef hm; exact absurd hm (Nat.not_lt_zero _)
      | succ dd ih_15 =>
        intro i k f0 hi ek ef hm Hp locs hP hD hS ls hl
        refine lv_iload hx hb dX4_dealShares_15 (lv_at hl 0 rfl) ?_
        refine lv_aload_n hx hb dX4_dealShares_17 rfl (lv_at hl 3 rfl) ?_
        refine gf_n (C := RX1) (T := TX1) (N := 14) (ci := 1) (q0 := 5) (v := .int (nI nH)) hx hb hts (iU inlX1) hown hK hP rfl rfl 0 (by decide) (kU u_586) rfl rfl dX4_dealShares_18 ?_
        refine lv_icmp_ge (tgt := 68) hx hb dX4_dealShares_21 (by decide) (fun c_21 => ?_) (fun c_21 => ?_)
        · skip
          replace c_21 := cn_le (by omega) (by omega) c_21
          refine lv_iload hx hb dX4_dealShares_68 (lv_at hl 1 rfl) ?_
          exact ct_i () hx hb hr hlocks (by first | (rw [ef, show i = nH by omega] at hP; exact hP) | (rw [show P = 0 by omega, dlK_z]; exact hP)) hS (by first | rw [ek, show i = nH by omega] | (rw [show P = 0 by omega, shS_z]; rfl)) dX4_dealShares_70
        · skip
          replace c_21 := cn_nle (by omega) (by omega) c_21
          refine lv_aload_n hx hb dX4_dealShares_24 rfl (lv_at hl 3 rfl) ?_
          refine gf_n (C := RX1) (T := TX1) (N := 14) (ci := 1) (q0 := 5) (v := .ref (a 5)) hx hb hts (iU inlX1) hown hK hP rfl rfl 10 (by decide) (kU u_594) rfl rfl dX4_dealShares_25 ?_
          refine lv_iload_n hx hb dX4_dealShares_28 rfl (lv_at hl 4 rfl) ?_
          refine ia_n (q0 := 10) (t0 := 0) hx hb hK hP rfl rfl (by omega) (by decide) dX4_dealShares_29 ?_
          refine lv_aload_n hx hb dX4_dealShares_30 rfl (lv_at hl 2 rfl) ?_
          refine gf_n (C := RX4) (T := TX4) (N := 4) (ci := 4) (q0 := 0) (v := .ref (b 1)) hx hb hts (iU inlX4) hown hK hP rfl rfl 0 (by decide) (kU u_93) rfl rfl dX4_dealShares_31 ?_
          refine lv_iload hx hb dX4_dealShares_34 (lv_at hl 0 rfl) ?_
          refine ia_n (q0 := 1) (t0 := 0) hx hb hK hP rfl rfl (by omega) (by decide) dX4_dealShares_36 ?_
          rw [show (nI (g1 i)) = (nI (pt i)) from (by rw [hg i (by omega)])]
          refine lv_imul hx hb dX4_dealShares_37 ?_
          rw [pk_mul (f5 v) (pt i)]
          refine lv_iload_n hx hb dX4_dealShares_38 rfl (lv_at hl 5 rfl) ?_
          refine lv_idiv hx hb dX4_dealShares_39 (nI_ne0 c_9 hP3) ?_
          rw [pk_div (a := (f5 v) * (pt i)) (d := P) (by have := Nat.mul_le_mul hL (hp5 i (by omega)); omega) c_9 hP3]
          refine lv_istore (lv' := [(6, .int (nI (((f5 v) * (pt i)) / P))), (5, .int (nI i)), (4, .int (nI k)), (0, .ref (b 0)), (1, .ref (a 0)), (2, .int (nI v)), (3, .int (nI P))]) hx hb dX4_dealShares_40 hl (by decide) rfl (fun ls hl => ?_)
          refine lv_aload_n hx hb dX4_dealShares_42 rfl (lv_at hl 4 rfl) ?_
          refine gf_n (C := RX1) (T := TX1) (N := 14) (ci := 1) (q0 := 5) (v := .ref (a 8)) hx hb hts (iU inlX1) hown hK hP rfl rfl 13 (by decide) (kU u_577) rfl rfl dX4_dealShares_43 ?_
          refine lv_iload hx hb dX4_dealShares_46 (lv_at hl 1 rfl) ?_
          refine lv_iload_n hx hb dX4_dealShares_48 rfl (lv_at hl 5 rfl) ?_
          refine go_SN (ni := 6) (c_X8_cell l D cI cZ cF cL i v ) (gU u_245) rfl hdS_X8_cell ⟨Nat.le_of_ble_eq_true rfl, Nat.le_of_ble_eq_true rfl⟩ ⟨rfl, rfl⟩ rfl (hts _ (kU u_2)) (hts _ (kU u_244)) hx hb hml hown hts hK hA hP hD hS hl.1 ⟨Nat.le_of_ble_eq_true rfl, Nat.le_of_ble_eq_true rfl⟩ [] rfl rfl (fun _ => rfl) (rest := [.ref (a 8)]) rfl rfl (Nat.le_of_ble_eq_true rfl) dX4_dealShares_49 (ws2 := (fun _ : Unit => (pX cI b g1 g2 kn kw x1 x2 x3 x4 x5 ++ fX cI a nH nV wk ea gi sw f1 f2 f3 f4 f5 f6 f7 f0))) (fun _ => rfl) (fun _ Hp locs hP hD hS => ?_)
          refine lv_iload hx hb dX4_dealShares_52 (lv_at hl 0 rfl) ?_
          refine is_n (q0 := 13) (t0 := 0) (ws2 := (pX cI b g1 g2 kn kw x1 x2 x3 x4 x5 ++ fX cI a nH nV wk ea gi sw f1 f2 f3 f4 f5 f6 f7 (va_up f0 (i * 5 + v) (((f5 v) * (pt i)) / P)))) hx hb hK hP hD hS rfl rfl (by omega) (by decide) dX4_dealShares_54 rfl (fun Hp locs hP hD hS => ?_)
          refine lv_iload hx hb dX4_dealShares_55 (lv_at hl 2 rfl) ?_
          refine lv_iload hx hb dX4_dealShares_57 (lv_at hl 0 rfl) ?_
          refine lv_isub hx hb dX4_dealShares_59 ?_
          rw [pk_sub (a := k) (b := ((f5 v) * (pt i)) / P) (by have := shS_lei (L := f5 v) hsum (i + 1) (by omega); rw [show shS (f5 v) pt P (i + 1) = shS (f5 v) pt P i + f5 v * pt i / P from rfl] at this; omega)]
          refine lv_istore (lv' := [(4, .int (nI (k - (((f5 v) * (pt i)) / P)))), (6, .int (nI (((f5 v) * (pt i)) / P))), (5, .int (nI i)), (0, .ref (b 0)), (1, .ref (a 0)), (2, .int (nI v)), (3, .int (nI P))]) hx hb dX4_dealShares_60 hl (by decide) rfl (fun ls hl => ?_)
          refine lv_iinc (v := (nI (i + 1))) (lv' := [(5, .int (nI (i + 1))), (4, .int (nI (k - (((f5 v) * (pt i)) / P)))), (6, .int (nI (((f5 v) * (pt i)) / P))), (0, .ref (b 0)), (1, .ref (a 0)), (2, .int (nI v)), (3, .int (nI P))]) hx hb dX4_dealShares_62 hl (k := 2) rfl (nI_add i 1) (by decide) rfl (fun ls hl => ?_)
          refine lv_goto (tgt := 15) hx hb dX4_dealShares_65 (by decide) ?_
          exact ih_15 (i + 1) (k - (((f5 v) * (pt i)) / P)) (va_up f0 (i * 5 + v) (((f5 v) * (pt i)) / P)) (by omega) (by rw [show shS (f5 v) pt P (i + 1) = shS (f5 v) pt P i + f5 v * pt i / P from rfl, ek, Nat.sub_sub]) (by rw [ef]; exact dlK_s f8 (f5 v) pt c_9 hv i) (by omega) _ _ hP hD hS _ (lv_sub hl [0, 1, 3, 4, 5, 6] rfl)
    exact loop_15 ((nH - 0) + 1) 0 (f5 v) f8 (by omega) rfl (dlK_0 _ _ _ _ _).symm (Nat.lt_succ_self _) _ _ hP hD hS _ (lv_sub hl [0, 1, 2, 3, 4, 5] rfl)

