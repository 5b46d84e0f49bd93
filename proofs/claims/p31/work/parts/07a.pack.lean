theorem part_at {f1 f2 f3 f4 : Nat → Nat} {h : Nat} (c : getsB f2 f4 h) (d : 0 < f3 h) : f1 h + 1 = partN f1 f2 f3 f4 h := by unfold partN; rw [if_pos c, if_pos d]
theorem part_at0 {f1 f2 f3 f4 : Nat → Nat} {h : Nat} (c : getsB f2 f4 h) (d : f3 h ≤ 0) : f1 h + 0 = partN f1 f2 f3 f4 h := by unfold partN; rw [if_pos c, if_neg (by omega)]
theorem part_no {f1 f2 f3 f4 : Nat → Nat} {h : Nat} (c : ¬ getsB f2 f4 h) : 0 = partN f1 f2 f3 f4 h := by unfold partN; rw [if_neg c]
theorem glN_y1 {f7 pt : Nat → Nat} {v nH : Nat} {f8 : Nat → Nat} {c n b : Nat} {h0 h1 : Nat → Nat} (e8 : h0 = (glN f7 pt v nH f8 c n).1) (e2 : h1 = (glN f7 pt v nH f8 c n).2.1) (h : kz f7 pt h1 v nH = some b) : glN f7 pt v nH f8 c (n + 1) = (va_up h0 (b * 5 + v) (h0 (b * 5 + v) + 1), va_up h1 b (h1 b + 1), (glN f7 pt v nH f8 c n).2.2) := by
  subst e8 e2
  exact glN_y h
theorem glN_n1 {f7 pt : Nat → Nat} {v nH : Nat} {f8 : Nat → Nat} {c n : Nat} {h0 h1 : Nat → Nat} (e8 : h0 = (glN f7 pt v nH f8 c n).1) (e2 : h1 = (glN f7 pt v nH f8 c n).2.1) (h : kz f7 pt h1 v nH = none) : glN f7 pt v nH f8 c (n + 1) = (h0, h1, (glN f7 pt v nH f8 c n).2.2 + 1) := by
  subst e8 e2
  exact glN_n h
set_option maxRecDepth 20000 in
theorem u_586 : Cond.fieldLink RX4 76 "HarvestBoxes$Farm" "houses" "I" ∈ wsL_law := List.mem_of_getElem? (i := 168) (by decide +kernel)
set_option maxRecDepth 20000 in
theorem u_93 : Cond.fieldLink RX4 9 "HarvestBoxes$Packer" "part" "[I" ∈ wsL_law := List.mem_of_getElem? (i := 88) (by decide +kernel)
set_option maxRecDepth 20000 in
theorem u_589 : Cond.methodLink RX4 79 yX1_getsBoxNext ∈ wsL_law := List.mem_of_getElem? (i := 171) (by decide +kernel)
set_option maxRecDepth 20000 in
theorem u_587 : Cond.fieldLink RX4 83 "HarvestBoxes$Farm" "size" "[I" ∈ wsL_law := List.mem_of_getElem? (i := 169) (by decide +kernel)
set_option maxRecDepth 20000 in
theorem u_588 : Cond.fieldLink RX4 86 "HarvestBoxes$Farm" "credit" "[I" ∈ wsL_law := List.mem_of_getElem? (i := 170) (by decide +kernel)
set_option maxHeartbeats 4000000 in
set_option maxRecDepth 100000 in
theorem c_X4_tellParts (l : Launch) (D : va_G) (cI cZ cF cL : ClassId) (b : Nat → Nat) (g1 g2 : Nat → Nat) (kn kw : Int32) (x1 x2 x3 x4 x5 : Nat) (a : Nat → Nat) (nH nV wk ea gi sw : Nat) (f1 f2 f3 f4 f5 f6 f7 f8 : Nat → Nat) (hH : nH ≤ 6) (b1 : ∀ h, h < 6 → f1 h ≤ 4) (b2 : ∀ h, h < 6 → f2 h ≤ 9) (b3 : ∀ h, h < 6 → f3 h ≤ 9) (b4 : ∀ h, h < 6 → f4 h ≤ 1) : CT l D (tysX cI cZ cF cL) yX4_tellParts (wA yX4_tellParts cX4_tellParts 4 (some .int)) (rmF 1 21) [.ref (b 0), .ref (a 0)] (pX cI b g1 g2 kn kw x1 x2 x3 x4 x5 ++ fX cI a nH nV wk ea gi sw f1 f2 f3 f4 f5 f6 f7 f8) (some (.int (nI (sumN (partN f1 f2 f3 f4) nH)))) (fun _ : Unit => (pX cI b (tabN (partN f1 f2 f3 f4) nH g1) g2 kn kw x1 x2 x3 x4 x5 ++ fX cI a nH nV wk ea gi sw f1 f2 f3 f4 f5 f6 f7 f8)) := by
  refine ct_in (cc := cX4_tellParts) (maxL := 4) (ret := (some .int)) (own := RX4) (lv := [(0, .ref (b 0)), (1, .ref (a 0))]) (by decide +kernel) rfl rfl (Nat.le_of_ble_eq_true rfl) rfl ?_
  intro p e s m args below meth c A ls hx hb hr hml hts hown hlocks hK hA hP hD hS hl
  refine lv_iconst (v := (nI 0)) hx hb dX4_tellParts_0 (by decide) ?_
  refine lv_istore_n (lv' := [(2, .int (nI 0)), (0, .ref (b 0)), (1, .ref (a 0))]) hx hb dX4_tellParts_1 rfl hl (by decide) rfl (fun ls hl => ?_)
  refine lv_iconst (v := (nI 0)) hx hb dX4_tellParts_2 (by decide) ?_
  refine lv_istore_n (lv' := [(3, .int (nI 0)), (2, .int (nI 0)), (0, .ref (b 0)), (1, .ref (a 0))]) hx hb dX4_tellParts_3 rfl hl (by decide) rfl (fun ls hl => ?_)
  have loop_4 : ∀ (dd : Nat) (i : Nat) (k : Nat) (g0 : Nat → Nat), (i ≤ nH) → (k = sumN (partN f1 f2 f3 f4) i) → (g0 = tabN (partN f1 f2 f3 f4) i g1) → (nH - i) < dd → ∀ (Hp : Heap) (locs : List Loc), va_P D vwCl (pX cI b g0 g2 kn kw x1 x2 x3 x4 x5 ++ fX cI a nH nV wk ea gi sw f1 f2 f3 f4 f5 f6 f7 f8) Hp → va_D A (pX cI b g0 g2 kn kw x1 x2 x3 x4 x5 ++ fX cI a nH nV wk ea gi sw f1 f2 f3 f4 f5 f6 f7 f8) → va_S A s.heap Hp locs → ∀ ls : Array Slot, lv_has ls 4 [(3, .int (nI i)), (2, .int (nI k)), (0, .ref (b 0)), (1, .ref (a 0))] → W p l e (rmF 1 21) s m args below meth c Hp locs 0 0 (MQ below (CQ D (some (.int (nI (sumN (partN f1 f2 f3 f4) nH)))) (fun _ : Unit => (pX cI b (tabN (partN f1 f2 f3 f4) nH g1) g2 kn kw x1 x2 x3 x4 x5 ++ fX cI a nH nV wk ea gi sw f1 f2 f3 f4 f5 f6 f7 f8)) A) args s 0 0 A) (F0 m 4 ls []) := by
    intro dd
    induction dd with
    | zero => intro i k g0 hi ek eg hm; exact absurd hm (Nat.not_lt_zero _)
    | succ dd ih_4 =>
      intro i k g0 hi ek eg hm Hp locs hP hD hS ls hl
      refine lv_iload_n hx hb dX4_tellParts_4 rfl (lv_at hl 0 rfl) ?_
      refine lv_aload_n hx hb dX4_tellParts_5 rfl (lv_at hl 3 rfl) ?_
      refine gf_n (C := RX1) (T := TX1) (N := 14) (ci := 1) (q0 := 5) (v := .int (nI nH)) hx hb hts (iU inlX1) hown hK hP rfl rfl 0 (by decide) (kU u_586) rfl rfl dX4_tellParts_6 ?_
      refine lv_icmp_ge (tgt := 66) hx hb dX4_tellParts_9 (by decide) (fun c_9 => ?_) (fun c_9 => ?_)
      · skip
        replace c_9 := cn_le (by omega) (by omega) c_9
        refine lv_iload_n hx hb dX4_tellParts_66 rfl (lv_at hl 1 rfl) ?_
        exact ct_i () hx hb hr hlocks (by rw [eg, show i = nH by omega] at hP; exact hP) hS (by rw [ek, show i = nH by omega]) dX4_tellParts_67
      · skip
        replace c_9 := cn_nle (by omega) (by omega) c_9
        refine lv_aload_n hx hb dX4_tellParts_12 rfl (lv_at hl 2 rfl) ?_
        refine gf_n (C := RX4) (T := TX4) (N := 4) (ci := 4) (q0 := 0) (v := .ref (b 1)) hx hb hts (iU inlX4) hown hK hP rfl rfl 0 (by decide) (kU u_93) rfl rfl dX4_tellParts_13 ?_
        refine lv_iload_n hx hb dX4_tellParts_16 rfl (lv_at hl 0 rfl) ?_
        refine lv_aload_n hx hb dX4_tellParts_17 rfl (lv_at hl 3 rfl) ?_
        refine lv_iload_n hx hb dX4_tellParts_18 rfl (lv_at hl 0 rfl) ?_
        refine go_V (ci := 1) (q0 := 5) (cq := (RX1, TX1, 14)) (c_X1_getsBoxNext l D cI cZ cF cL a nH nV wk ea gi sw f1 f2 f3 f4 f5 f6 f7 f8 i (by omega) (Nat.lt_of_le_of_lt (b2 _ (by omega)) (by decide)) (Nat.lt_of_le_of_lt (b4 _ (by omega)) (by decide))) (gUV u_589 u_343 u_344 u_20 u_345) rfl hdV_X1_getsBoxNext ⟨Nat.le_of_ble_eq_true rfl, Nat.le_of_ble_eq_true rfl⟩ ⟨rfl, rfl⟩ hx hb hml hown hts hK hA hP hD hS hl.1 ⟨Nat.le_of_ble_eq_true rfl, Nat.le_of_ble_eq_true rfl⟩ rfl rfl rfl [5, 6, 7, 8, 9, 10, 11, 12, 13] rfl rfl (fun _ => rfl) (rest := [.int (nI i), .ref (b 1)]) rfl rfl (Nat.le_of_ble_eq_true rfl) dX4_tellParts_19 (ws2 := (fun _ : Unit => (pX cI b g0 g2 kn kw x1 x2 x3 x4 x5 ++ fX cI a nH nV wk ea gi sw f1 f2 f3 f4 f5 f6 f7 f8))) (fun _ => rfl) (fun _ Hp locs hP hD hS => ?_)
        refine lv_if_eq (tgt := 49) hx hb dX4_tellParts_22 (by decide) (fun c_22 => ?_) (fun c_22 => ?_)
        · skip
          replace c_22 := cb_z c_22
          refine lv_iconst (v := (nI 0)) hx hb dX4_tellParts_49 (by decide) ?_
          refine is_n (q0 := 1) (t0 := 0) (ws2 := (pX cI b (va_up g0 i 0) g2 kn kw x1 x2 x3 x4 x5 ++ fX cI a nH nV wk ea gi sw f1 f2 f3 f4 f5 f6 f7 f8)) hx hb hK hP hD hS rfl rfl (by omega) (by decide) dX4_tellParts_50 rfl (fun Hp locs hP hD hS => ?_)
          refine lv_iload_n hx hb dX4_tellParts_51 rfl (lv_at hl 1 rfl) ?_
          refine lv_aload_n hx hb dX4_tellParts_52 rfl (lv_at hl 2 rfl) ?_
          refine gf_n (C := RX4) (T := TX4) (N := 4) (ci := 4) (q0 := 0) (v := .ref (b 1)) hx hb hts (iU inlX4) hown hK hP rfl rfl 0 (by decide) (kU u_93) rfl rfl dX4_tellParts_53 ?_
          refine lv_iload_n hx hb dX4_tellParts_56 rfl (lv_at hl 0 rfl) ?_
          refine ia_n (q0 := 1) (t0 := 0) hx hb hK hP rfl rfl (by omega) (by decide) dX4_tellParts_57 ?_
          refine lv_iadd hx hb dX4_tellParts_58 ?_
          rw [nI_add k ((va_up g0 i 0) i)]
          refine lv_istore_n (lv' := [(2, .int (nI (k + ((va_up g0 i 0) i)))), (3, .int (nI i)), (0, .ref (b 0)), (1, .ref (a 0))]) hx hb dX4_tellParts_59 rfl hl (by decide) rfl (fun ls hl => ?_)
          refine lv_iinc (v := (nI (i + 1))) (lv' := [(3, .int (nI (i + 1))), (2, .int (nI (k + ((va_up g0 i 0) i)))), (0, .ref (b 0)), (1, .ref (a 0))]) hx hb dX4_tellParts_60 hl (k := 1) rfl (nI_add i 1) (by decide) rfl (fun ls hl => ?_)
          refine lv_goto (tgt := 4) hx hb dX4_tellParts_63 (by decide) ?_
          exact ih_4 (i + 1) (k + ((va_up g0 i 0) i)) (va_up g0 i 0) (by omega) (by first | (rw [ek, up_s, part_at c_22 c_37, sumN_s]) | (rw [ek, up_s, part_at0 (f1 := f1) c_22 c_37, sumN_s]) | (rw [ek, up_s, sumN_s, ← part_no (f1 := f1) (f3 := f3) c_22])) (by first | (rw [eg, part_at c_22 c_37, tabN_s]) | (rw [eg, part_at0 (f1 := f1) c_22 c_37, tabN_s]) | (rw [eg, ← tabN_s, ← part_no (f1 := f1) (f3 := f3) c_22])) (by omega) _ _ hP hD hS _ (lv_sub hl [0, 1, 2, 3] rfl)
        · skip
          replace c_22 := cb_nz c_22
          refine lv_aload_n hx hb dX4_tellParts_25 rfl (lv_at hl 3 rfl) ?_
          refine gf_n (C := RX1) (T := TX1) (N := 14) (ci := 1) (q0 := 5) (v := .ref (a 1)) hx hb hts (iU inlX1) hown hK hP rfl rfl 6 (by decide) (kU u_587) rfl rfl dX4_tellParts_26 ?_
          refine lv_iload_n hx hb dX4_tellParts_29 rfl (lv_at hl 0 rfl) ?_
          refine ia_n (q0 := 6) (t0 := 0) hx hb hK hP rfl rfl (by omega) (by decide) dX4_tellParts_30 ?_
          refine lv_aload_n hx hb dX4_tellParts_31 rfl (lv_at hl 3 rfl) ?_
          refine gf_n (C := RX1) (T := TX1) (N := 14) (ci := 1) (q0 := 5) (v := .ref (a 3)) hx hb hts (iU inlX1) hown hK hP rfl rfl 8 (by decide) (kU u_588) rfl rfl dX4_tellParts_32 ?_
          refine lv_iload_n hx hb dX4_tellParts_35 rfl (lv_at hl 0 rfl) ?_
          refine ia_n (q0 := 8) (t0 := 0) hx hb hK hP rfl rfl (by omega) (by decide) dX4_tellParts_36 ?_
          refine lv_if_le (tgt := 44) hx hb dX4_tellParts_37 (by decide) (fun c_37 => ?_) (fun c_37 => ?_)
          · skip
            replace c_37 := cn_le (b := 0) (Nat.lt_of_le_of_lt (b3 _ (by omega)) (by decide)) (by decide) c_37
            refine lv_iconst (v := (nI 0)) hx hb dX4_tellParts_44 (by decide) ?_
            refine lv_iadd hx hb dX4_tellParts_45 ?_
            rw [nI_add (f1 i) 0]
            refine lv_goto (tgt := 50) hx hb dX4_tellParts_46 (by decide) ?_
            refine is_n (q0 := 1) (t0 := 0) (ws2 := (pX cI b (va_up g0 i ((f1 i) + 0)) g2 kn kw x1 x2 x3 x4 x5 ++ fX cI a nH nV wk ea gi sw f1 f2 f3 f4 f5 f6 f7 f8)) hx hb hK hP hD hS rfl rfl (by omega) (by decide) dX4_tellParts_50 rfl (fun Hp locs hP hD hS => ?_)
            refine lv_iload_n hx hb dX4_tellParts_51 rfl (lv_at hl 1 rfl) ?_
            refine lv_aload_n hx hb dX4_tellParts_52 rfl (lv_at hl 2 rfl) ?_
            refine gf_n (C := RX4) (T := TX4) (N := 4) (ci := 4) (q0 := 0) (v := .ref (b 1)) hx hb hts (iU inlX4) hown hK hP rfl rfl 0 (by decide) (kU u_93) rfl rfl dX4_tellParts_53 ?_
            refine lv_iload_n hx hb dX4_tellParts_56 rfl (lv_at hl 0 rfl) ?_
            refine ia_n (q0 := 1) (t0 := 0) hx hb hK hP rfl rfl (by omega) (by decide) dX4_tellParts_57 ?_
            refine lv_iadd hx hb dX4_tellParts_58 ?_
            rw [nI_add k ((va_up g0 i ((f1 i) + 0)) i)]
            refine lv_istore_n (lv' := [(2, .int (nI (k + ((va_up g0 i ((f1 i) + 0)) i)))), (3, .int (nI i)), (0, .ref (b 0)), (1, .ref (a 0))]) hx hb dX4_tellParts_59 rfl hl (by decide) rfl (fun ls hl => ?_)
            refine lv_iinc (v := (nI (i + 1))) (lv' := [(3, .int (nI (i + 1))), (2, .int (nI (k + ((va_up g0 i ((f1 i) + 0)) i)))), (0, .ref (b 0)), (1, .ref (a 0))]) hx hb dX4_tellParts_60 hl (k := 1) rfl (nI_add i 1) (by decide) rfl (fun ls hl => ?_)
            refine lv_goto (tgt := 4) hx hb dX4_tellParts_63 (by decide) ?_
            exact ih_4 (i + 1) (k + ((va_up g0 i ((f1 i) + 0)) i)) (va_up g0 i ((f1 i) + 0)) (by omega) (by first | (rw [ek, up_s, part_at c_22 c_37, sumN_s]) | (rw [ek, up_s, part_at0 (f1 := f1) c_22 c_37, sumN_s]) | (rw [ek, up_s, sumN_s, ← part_no (f1 := f1) (f3 := f3) c_22])) (by first | (rw [eg, part_at c_22 c_37, tabN_s]) | (rw [eg, part_at0 (f1 := f1) c_22 c_37, tabN_s]) | (rw [eg, ← tabN_s, ← part_no (f1 := f1) (f3 := f3) c_22])) (by omega) _ _ hP hD hS _ (lv_sub hl [0, 1, 2, 3] rfl)
          · skip
            replace c_37 := cn_nle (b := 0) (Nat.lt_of_le_of_lt (b3 _ (by omega)) (by decide)) (by decide) c_37
            refine lv_iconst (v := (nI 1)) hx hb dX4_tellParts_40 (by decide) ?_
            refine lv_goto (tgt := 45) hx hb dX4_tellParts_41 (by decide) ?_
            refine lv_iadd hx hb dX4_tellParts_45 ?_
            rw [nI_add (f1 i) 1]
            refine lv_goto (tgt := 50) hx hb dX4_tellParts_46 (by decide) ?_
            refine is_n (q0 := 1) (t0 := 0) (ws2 := (pX cI b (va_up g0 i ((f1 i) + 1)) g2 kn kw x1 x2 x3 x4 x5 ++ fX cI a nH nV wk ea gi sw f1 f2 f3 f4 f5 f6 f7 f8)) hx hb hK hP hD hS rfl rfl (by omega) (by decide) dX4_tellParts_50 rfl (fun Hp locs hP hD hS => ?_)
            refine lv_iload_n hx hb dX4_tellParts_51 rfl (lv_at hl 1 rfl) ?_
            refine lv_aload_n hx hb dX4_tellParts_52 rfl (lv_at hl 2 rfl) ?_
            refine gf_n (C := RX4) (T := TX4) (N := 4) (ci := 4) (q0 := 0) (v := .ref (b 1)) hx hb hts (iU inlX4) hown hK hP rfl rfl 0 (by decide) (kU u_93) rfl rfl dX4_tellParts_53 ?_
            refine lv_iload_n hx hb dX4_tellParts_56 rfl (lv_at hl 0 rfl) ?_
            refine ia_n (q0 := 1) (t0 := 0) hx hb hK hP rfl rfl (by omega) (by decide) dX4_tellParts_57 ?_
            refine lv_iadd hx hb dX4_tellParts_58 ?_
            rw [nI_add k ((va_up g0 i ((f1 i) + 1)) i)]
            refine lv_istore_n (lv' := [(2, .int (nI (k + ((va_up g0 i ((f1 i) + 1)) i)))), (3, .int (nI i)), (0, .ref (b 0)), (1, .ref (a 0))]) hx hb dX4_tellParts_59 rfl hl (by decide) rfl (fun ls hl => ?_)
            refine lv_iinc (v := (nI (i + 1))) (lv' := [(3, .int (nI (i + 1))), (2, .int (nI (k + ((va_up g0 i ((f1 i) + 1)) i)))), (0, .ref (b 0)), (1, .ref (a 0))]) hx hb dX4_tellParts_60 hl (k := 1) rfl (nI_add i 1) (by decide) rfl (fun ls hl => ?_)
            refine lv_goto (tgt := 4) hx hb dX4_tellParts_63 (by decide) ?_
            exact ih_4 (i + 1) (k + ((va_up g0 i ((f1 i) + 1)) i)) (va_up g0 i ((f1 i) + 1)) (by omega) (by first | (rw [ek, up_s, part_at c_22 c_37, sumN_s]) | (rw [ek, up_s, part_at0 (f1 := f1) c_22 c_37, sumN_s]) | (rw [ek, up_s, sumN_s, ← part_no (f1 := f1) (f3 := f3) c_22])) (by first | (rw [eg, part_at c_22 c_37, tabN_s]) | (rw [eg, part_at0 (f1 := f1) c_22 c_37, tabN_s]) | (rw [eg, ← tabN_s, ← part_no (f1 := f1) (f3 := f3) c_22])) (by omega) _ _ hP hD hS _ (lv_sub hl [0, 1, 2, 3] rfl)
  exact loop_4 ((nH - 0) + 1) 0 0 g1 (by omega) rfl (tabN_0 _ _).symm (Nat.lt_succ_self _) _ _ hP hD hS _ (lv_sub hl [0, 1, 2, 3] rfl)

