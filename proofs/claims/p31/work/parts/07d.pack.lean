set_option maxRecDepth 20000 in
theorem u_581 : Cond.methodLink RX4 45 yJ7_fill_53178 ∈ wsL_law := List.mem_of_getElem? (i := 163) (by decide +kernel)
set_option maxRecDepth 20000 in
theorem u_603 : Cond.code yX4_keenestOn cX4_keenestOn 5 (some .int) ∈ wsL_law := List.mem_of_getElem? (i := 188) (by decide +kernel)
set_option maxRecDepth 20000 in
theorem u_600 : Cond.methodLink RX4 96 yX4_keenestOn ∈ wsL_law := List.mem_of_getElem? (i := 185) (by decide +kernel)
set_option maxRecDepth 20000 in
theorem u_601 : Cond.instanceMethod yX4_keenestOn ∈ wsL_law := List.mem_of_getElem? (i := 186) (by decide +kernel)
set_option maxRecDepth 20000 in
theorem u_602 : Cond.selects RX4 yX4_keenestOn yX4_keenestOn ∈ wsL_law := List.mem_of_getElem? (i := 187) (by decide +kernel)
set_option maxRecDepth 20000 in
theorem u_32 : Cond.initialized RX4 ∈ wsL_law := List.mem_of_getElem? (i := 27) (by decide +kernel)
set_option maxRecDepth 20000 in
theorem u_599 : Cond.fieldLink RX4 100 "HarvestBoxes$Farm" "composted" "[I" ∈ wsL_law := List.mem_of_getElem? (i := 184) (by decide +kernel)
theorem hdV_X4_keenestOn : yX4_keenestOn.cls = RX4 ∧ yX4_keenestOn.cls ≠ "java/lang/invoke/MethodHandle" ∧ yX4_keenestOn.cls ≠ "java/lang/invoke/VarHandle" ∧ (parseMethodDescriptor yX4_keenestOn.desc).map (fun d => d.parameters.length) = some 2 := by decide +kernel
set_option maxHeartbeats 4000000 in
set_option maxRecDepth 100000 in
theorem c_X4_giveGlut (l : Launch) (D : va_G) (cI cZ cF cL : ClassId) (b : Nat → Nat) (g1 g2 : Nat → Nat) (kn kw : Int32) (x1 x2 x3 x4 x5 : Nat) (a : Nat → Nat) (nH nV wk ea gi sw : Nat) (f1 f2 f3 f4 f5 f6 f7 f8 : Nat → Nat) (pt : Nat → Nat) (v n : Nat) (hH : nH ≤ 6) (hv : v < 5) (hg : ∀ h, h < nH → g1 h = pt h) (hp5 : ∀ h, h < nH → pt h ≤ 5) (b7 : ∀ k, k < 30 → f7 k ≤ 9) (hn : n ≤ 1000) : CT l D (tysX cI cZ cF cL) yX4_giveGlut (wA yX4_giveGlut cX4_giveGlut 6 none) (rmF 2 46) [.ref (b 0), .ref (a 0), .int (nI v), .int (nI n)] (pX cI b g1 g2 kn kw x1 x2 x3 x4 x5 ++ fX cI a nH nV wk ea gi sw f1 f2 f3 f4 f5 f6 f7 f8) (none : Option Value) (fun u : (Nat → Nat) × Int32 × Int32 => (pX cI b g1 u.1 u.2.1 u.2.2 x1 x2 x3 x4 x5 ++ fX cI a nH nV wk ea gi sw f1 f2 f3 f4 f5 (va_up f6 v (glN f7 pt v nH f8 (f6 v) n).2.2) f7 ((glN f7 pt v nH f8 (f6 v) n).1))) := by
  refine ct_in (cc := cX4_giveGlut) (maxL := 6) (ret := none) (own := RX4) (lv := [(0, .ref (b 0)), (1, .ref (a 0)), (2, .int (nI v)), (3, .int (nI n))]) (by decide +kernel) rfl rfl (Nat.le_of_ble_eq_true rfl) rfl ?_
  intro p e s m args below meth c A ls hx hb hr hml hts hown hlocks hK hA hP hD hS hl
  refine lv_aload_n hx hb dX4_giveGlut_0 rfl (lv_at hl 0 rfl) ?_
  refine gf_n (C := RX4) (T := TX4) (N := 4) (ci := 4) (q0 := 0) (v := .ref (b 2)) hx hb hts (iU inlX4) hown hK hP rfl rfl 1 (by decide) (kU u_94) rfl rfl dX4_giveGlut_1 ?_
  refine lv_iconst (v := (nI 0)) hx hb dX4_giveGlut_4 (by decide) ?_
  refine go_S (c_J7_fill_53178 l D cI cZ cF cL (b 2) 6 0 g2 (by omega)) (gUS u_581 u_79 u_80 u_81) rfl hdS_J7_fill_53178 ⟨Nat.le_of_ble_eq_true rfl, Nat.le_of_ble_eq_true rfl⟩ ⟨rfl, rfl⟩ hx hb hml hown hts hK hA hP hD hS hl.1 ⟨Nat.le_of_ble_eq_true rfl, Nat.le_of_ble_eq_true rfl⟩ [2] rfl rfl (fun _ => rfl) (rest := []) rfl rfl (Nat.le_of_ble_eq_true rfl) dX4_giveGlut_5 (ws2 := (fun _ : Unit => (pX cI b g1 (filN 0 6 g2) kn kw x1 x2 x3 x4 x5 ++ fX cI a nH nV wk ea gi sw f1 f2 f3 f4 f5 f6 f7 f8))) (fun _ => rfl) (fun _ Hp locs hP hD hS => ?_)
  obtain ⟨hP, hD⟩ := cg_n (g := nF ((fun _ => 0))) (ws2 := (pX cI b g1 ((fun _ => 0)) kn kw x1 x2 x3 x4 x5 ++ fX cI a nH nV wk ea gi sw f1 f2 f3 f4 f5 f6 f7 f8)) hP hD 2 rfl (fun j hj => congrArg nI (filN_in j hj)) rfl
  refine lv_iconst (v := (nI 0)) hx hb dX4_giveGlut_8 (by decide) ?_
  refine lv_istore (lv' := [(4, .int (nI 0)), (0, .ref (b 0)), (1, .ref (a 0)), (2, .int (nI v)), (3, .int (nI n))]) hx hb dX4_giveGlut_9 hl (by decide) rfl (fun ls hl => ?_)
  have loop_11 : ∀ (dd : Nat) (i : Nat) (h0 : Nat → Nat) (h1 : Nat → Nat) (h2 : Nat → Nat) (k1 : Int32) (k2 : Int32), (i ≤ n) → (h0 = (glN f7 pt v nH f8 (f6 v) i).1) → (h1 = (glN f7 pt v nH f8 (f6 v) i).2.1) → (h2 = va_up f6 v (glN f7 pt v nH f8 (f6 v) i).2.2) → (n - i) < dd → ∀ (Hp : Heap) (locs : List Loc), va_P D vwCl (pX cI b g1 h1 k1 k2 x1 x2 x3 x4 x5 ++ fX cI a nH nV wk ea gi sw f1 f2 f3 f4 f5 h2 f7 h0) Hp → va_D A (pX cI b g1 h1 k1 k2 x1 x2 x3 x4 x5 ++ fX cI a nH nV wk ea gi sw f1 f2 f3 f4 f5 h2 f7 h0) → va_S A s.heap Hp locs → ∀ ls : Array Slot, lv_has ls 6 [(4, .int (nI i)), (0, .ref (b 0)), (1, .ref (a 0)), (2, .int (nI v)), (3, .int (nI n))] → W p l e (rmF 2 46) s m args below meth c Hp locs 0 0 (MQ below (CQ D (none : Option Value) (fun u : (Nat → Nat) × Int32 × Int32 => (pX cI b g1 u.1 u.2.1 u.2.2 x1 x2 x3 x4 x5 ++ fX cI a nH nV wk ea gi sw f1 f2 f3 f4 f5 (va_up f6 v (glN f7 pt v nH f8 (f6 v) n).2.2) f7 ((glN f7 pt v nH f8 (f6 v) n).1))) A) args s 0 0 A) (F0 m 11 ls []) := by
    intro dd
    induction dd with
    | zero => intro i h0 h1 h2 k1 k2 hi e8 e2 e6 hm; exact absurd hm (Nat.not_lt_zero _)
    | succ dd ih_11 =>
      intro i h0 h1 h2 k1 k2 hi e8 e2 e6 hm Hp locs hP hD hS ls hl
      refine lv_iload hx hb dX4_giveGlut_11 (lv_at hl 0 rfl) ?_
      refine lv_iload_n hx hb dX4_giveGlut_13 rfl (lv_at hl 4 rfl) ?_
      refine lv_icmp_ge (tgt := 77) hx hb dX4_giveGlut_14 (by decide) (fun c_14 => ?_) (fun c_14 => ?_)
      · skip
        replace c_14 := cn_le (by omega) (by omega) c_14
        exact ct_v (h1, k1, k2) hx hb hr hlocks (by rw [e8, e6, show i = n by omega] at hP; exact hP) hS dX4_giveGlut_77
      · skip
        replace c_14 := cn_nle (by omega) (by omega) c_14
        refine lv_aload_n hx hb dX4_giveGlut_17 rfl (lv_at hl 1 rfl) ?_
        refine lv_aload_n hx hb dX4_giveGlut_18 rfl (lv_at hl 2 rfl) ?_
        refine lv_iload_n hx hb dX4_giveGlut_19 rfl (lv_at hl 3 rfl) ?_
        refine go_V (ci := 4) (q0 := 0) (cq := (RX4, TX4, 4)) (c_X4_keenestOn l D cI cZ cF cL b g1 h1 k1 k2 x1 x2 x3 x4 x5 a nH nV wk ea gi sw f1 f2 f3 f4 f5 h2 f7 h0 pt v (by omega) (by omega) hg hp5 b7 (fun h hh => by rw [e2]; exact Nat.le_trans (glN_g f7 pt v nH f8 (f6 v) i h) (by omega))) (gUV u_600 u_601 u_602 u_32 u_603) rfl hdV_X4_keenestOn ⟨Nat.le_of_ble_eq_true rfl, Nat.le_of_ble_eq_true rfl⟩ ⟨rfl, rfl⟩ hx hb hml hown hts hK hA hP hD hS hl.1 ⟨Nat.le_of_ble_eq_true rfl, Nat.le_of_ble_eq_true rfl⟩ rfl rfl rfl [0, 1, 2, 3, 4, 5, 6, 7, 8, 9, 10, 11, 12, 13] rfl rfl (fun _ => rfl) (rest := []) rfl rfl (Nat.le_of_ble_eq_true rfl) dX4_giveGlut_20 (ws2 := (fun u_20 : Int32 × Int32 => (pX cI b g1 h1 u_20.1 u_20.2 x1 x2 x3 x4 x5 ++ fX cI a nH nV wk ea gi sw f1 f2 f3 f4 f5 h2 f7 h0))) (fun _ => rfl) (fun u_20 Hp locs hP hD hS => ?_)
        rcases hk : kz f7 pt h1 v nH with _ | q
        · skip
          refine lv_istore (lv' := [(5, .int ((-9))), (4, .int (nI i)), (0, .ref (b 0)), (1, .ref (a 0)), (2, .int (nI v)), (3, .int (nI n))]) hx hb dX4_giveGlut_23 hl (by decide) rfl (fun ls hl => ?_)
          refine lv_iload hx hb dX4_giveGlut_25 (lv_at hl 0 rfl) ?_
          refine lv_bipush (v := ((-9))) hx hb dX4_giveGlut_27 (by decide) ?_
          refine lv_icmp_ne (tgt := 45) hx hb dX4_giveGlut_29 (by decide) (fun c_29 => absurd c_29 (by decide +kernel)) (fun _ => ?_)
          refine lv_aload_n hx hb dX4_giveGlut_32 rfl (lv_at hl 3 rfl) ?_
          refine gf_n (C := RX1) (T := TX1) (N := 14) (ci := 1) (q0 := 5) (v := .ref (a 6)) hx hb hts (iU inlX1) hown hK hP rfl rfl 11 (by decide) (kU u_599) rfl rfl dX4_giveGlut_33 ?_
          refine lv_iload_n hx hb dX4_giveGlut_36 rfl (lv_at hl 4 rfl) ?_
          refine lv_dup2_11 hx hb dX4_giveGlut_37 rfl rfl ?_
          refine ia_n (q0 := 11) (t0 := 0) hx hb hK hP rfl rfl (by omega) (by decide) dX4_giveGlut_38 ?_
          refine lv_iconst (v := (nI 1)) hx hb dX4_giveGlut_39 (by decide) ?_
          refine lv_iadd hx hb dX4_giveGlut_40 ?_
          rw [nI_add (h2 v) 1]
          refine is_n (q0 := 11) (t0 := 0) (ws2 := (pX cI b g1 h1 u_20.1 u_20.2 x1 x2 x3 x4 x5 ++ fX cI a nH nV wk ea gi sw f1 f2 f3 f4 f5 (va_up h2 v ((h2 v) + 1)) f7 h0)) hx hb hK hP hD hS rfl rfl (by omega) (by decide) dX4_giveGlut_41 rfl (fun Hp locs hP hD hS => ?_)
          refine lv_goto (tgt := 71) hx hb dX4_giveGlut_42 (by decide) ?_
          refine lv_iinc (v := (nI (i + 1))) (lv' := [(4, .int (nI (i + 1))), (5, .int ((-9))), (0, .ref (b 0)), (1, .ref (a 0)), (2, .int (nI v)), (3, .int (nI n))]) hx hb dX4_giveGlut_71 hl (k := 1) rfl (nI_add i 1) (by decide) rfl (fun ls hl => ?_)
          refine lv_goto (tgt := 11) hx hb dX4_giveGlut_74 (by decide) ?_
          exact ih_11 (i + 1) h0 h1 (va_up h2 v ((h2 v) + 1)) u_20.1 u_20.2 (by omega) (by first | (rw [glN_n1 e8 e2 hk]) | (rw [glN_y1 e8 e2 hk])) (by first | (rw [glN_n1 e8 e2 hk]) | (rw [glN_y1 e8 e2 hk])) (by first | (rw [glN_n1 e8 e2 hk, e6, up_s, up_up]) | (rw [glN_y1 e8 e2 hk]; exact e6)) (by omega) _ _ hP hD hS _ (lv_sub hl [0, 2, 3, 4, 5] rfl)
        · skip
          have hq := kz_lt nH q hk
          refine lv_istore (lv' := [(5, .int (nI q)), (4, .int (nI i)), (0, .ref (b 0)), (1, .ref (a 0)), (2, .int (nI v)), (3, .int (nI n))]) hx hb dX4_giveGlut_23 hl (by decide) rfl (fun ls hl => ?_)
          refine lv_iload hx hb dX4_giveGlut_25 (lv_at hl 0 rfl) ?_
          refine lv_bipush (v := ((-9))) hx hb dX4_giveGlut_27 (by decide) ?_
          refine lv_icmp_ne (tgt := 45) hx hb dX4_giveGlut_29 (by decide) (fun c_29 => ?_) (fun c_29 => ?_)
          · skip
            refine lv_aload_n hx hb dX4_giveGlut_45 rfl (lv_at hl 3 rfl) ?_
            refine gf_n (C := RX1) (T := TX1) (N := 14) (ci := 1) (q0 := 5) (v := .ref (a 8)) hx hb hts (iU inlX1) hown hK hP rfl rfl 13 (by decide) (kU u_577) rfl rfl dX4_giveGlut_46 ?_
            refine lv_iload hx hb dX4_giveGlut_49 (lv_at hl 0 rfl) ?_
            refine lv_iload_n hx hb dX4_giveGlut_51 rfl (lv_at hl 4 rfl) ?_
            refine go_SN (ni := 6) (c_X8_cell l D cI cZ cF cL q v ) (gU u_245) rfl hdS_X8_cell ⟨Nat.le_of_ble_eq_true rfl, Nat.le_of_ble_eq_true rfl⟩ ⟨rfl, rfl⟩ rfl (hts _ (kU u_2)) (hts _ (kU u_244)) hx hb hml hown hts hK hA hP hD hS hl.1 ⟨Nat.le_of_ble_eq_true rfl, Nat.le_of_ble_eq_true rfl⟩ [] rfl rfl (fun _ => rfl) (rest := [.ref (a 8)]) rfl rfl (Nat.le_of_ble_eq_true rfl) dX4_giveGlut_52 (ws2 := (fun _ : Unit => (pX cI b g1 h1 u_20.1 u_20.2 x1 x2 x3 x4 x5 ++ fX cI a nH nV wk ea gi sw f1 f2 f3 f4 f5 h2 f7 h0))) (fun _ => rfl) (fun _ Hp locs hP hD hS => ?_)
            refine lv_dup2_11 hx hb dX4_giveGlut_55 rfl rfl ?_
            refine ia_n (q0 := 13) (t0 := 0) hx hb hK hP rfl rfl (by omega) (by decide) dX4_giveGlut_56 ?_
            refine lv_iconst (v := (nI 1)) hx hb dX4_giveGlut_57 (by decide) ?_
            refine lv_iadd hx hb dX4_giveGlut_58 ?_
            rw [nI_add (h0 (q * 5 + v)) 1]
            refine is_n (q0 := 13) (t0 := 0) (ws2 := (pX cI b g1 h1 u_20.1 u_20.2 x1 x2 x3 x4 x5 ++ fX cI a nH nV wk ea gi sw f1 f2 f3 f4 f5 h2 f7 (va_up h0 (q * 5 + v) ((h0 (q * 5 + v)) + 1)))) hx hb hK hP hD hS rfl rfl (by omega) (by decide) dX4_giveGlut_59 rfl (fun Hp locs hP hD hS => ?_)
            refine lv_aload_n hx hb dX4_giveGlut_60 rfl (lv_at hl 2 rfl) ?_
            refine gf_n (C := RX4) (T := TX4) (N := 4) (ci := 4) (q0 := 0) (v := .ref (b 2)) hx hb hts (iU inlX4) hown hK hP rfl rfl 1 (by decide) (kU u_94) rfl rfl dX4_giveGlut_61 ?_
            refine lv_iload hx hb dX4_giveGlut_64 (lv_at hl 0 rfl) ?_
            refine lv_dup2_11 hx hb dX4_giveGlut_66 rfl rfl ?_
            refine ia_n (q0 := 2) (t0 := 0) hx hb hK hP rfl rfl (by omega) (by decide) dX4_giveGlut_67 ?_
            refine lv_iconst (v := (nI 1)) hx hb dX4_giveGlut_68 (by decide) ?_
            refine lv_iadd hx hb dX4_giveGlut_69 ?_
            rw [nI_add (h1 q) 1]
            refine is_n (q0 := 2) (t0 := 0) (ws2 := (pX cI b g1 (va_up h1 q ((h1 q) + 1)) u_20.1 u_20.2 x1 x2 x3 x4 x5 ++ fX cI a nH nV wk ea gi sw f1 f2 f3 f4 f5 h2 f7 (va_up h0 (q * 5 + v) ((h0 (q * 5 + v)) + 1)))) hx hb hK hP hD hS rfl rfl (by omega) (by decide) dX4_giveGlut_70 rfl (fun Hp locs hP hD hS => ?_)
            refine lv_iinc (v := (nI (i + 1))) (lv' := [(4, .int (nI (i + 1))), (5, .int (nI q)), (0, .ref (b 0)), (1, .ref (a 0)), (2, .int (nI v)), (3, .int (nI n))]) hx hb dX4_giveGlut_71 hl (k := 1) rfl (nI_add i 1) (by decide) rfl (fun ls hl => ?_)
            refine lv_goto (tgt := 11) hx hb dX4_giveGlut_74 (by decide) ?_
            exact ih_11 (i + 1) (va_up h0 (q * 5 + v) ((h0 (q * 5 + v)) + 1)) (va_up h1 q ((h1 q) + 1)) h2 u_20.1 u_20.2 (by omega) (by first | (rw [glN_n1 e8 e2 hk]) | (rw [glN_y1 e8 e2 hk])) (by first | (rw [glN_n1 e8 e2 hk]) | (rw [glN_y1 e8 e2 hk])) (by first | (rw [glN_n1 e8 e2 hk, e6, up_s, up_up]) | (rw [glN_y1 e8 e2 hk]; exact e6)) (by omega) _ _ hP hD hS _ (lv_sub hl [0, 2, 3, 4, 5] rfl)
          · skip
            exact absurd c_29 (encK_ne hq (by omega))
  exact loop_11 ((n - 0) + 1) 0 f8 ((fun _ => 0)) f6 kn kw (by omega) rfl rfl (up_same f6 v).symm (Nat.lt_succ_self _) _ _ hP hD hS _ (lv_sub hl [0, 1, 2, 3, 4] rfl)

