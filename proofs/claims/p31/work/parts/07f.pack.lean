set_option maxRecDepth 20000 in
theorem u_643 : Cond.fieldLink RX4 135 "HarvestBoxes$Farm" "skipping" "[I" ∈ wsL_law := List.mem_of_getElem? (i := 242) (by decide +kernel)
set_option maxRecDepth 20000 in
theorem u_644 : Cond.fieldLink RX4 138 "HarvestBoxes$Farm" "weeks" "I" ∈ wsL_law := List.mem_of_getElem? (i := 243) (by decide +kernel)
set_option maxRecDepth 20000 in
theorem u_639 : Cond.methodLink RX4 127 Lib.Math.min.name ∈ wsL_law := List.mem_of_getElem? (i := 235) (by decide +kernel)
set_option maxRecDepth 20000 in
theorem u_232 : Cond.static Lib.Math.min.name ∈ wsL_law := List.mem_of_getElem? (i := 236) (by decide +kernel)
set_option maxRecDepth 20000 in
theorem u_233 : Cond.initialized "java/lang/Math" ∈ wsL_law := List.mem_of_getElem? (i := 237) (by decide +kernel)
set_option maxRecDepth 20000 in
theorem u_234 : Cond.code Lib.Math.min.name Lib.Math.min.code 2 (some .int) ∈ wsL_law := List.mem_of_getElem? (i := 238) (by decide +kernel)
set_option maxRecDepth 20000 in
theorem u_638 : Cond.fieldLink RX4 124 "HarvestBoxes$Farm" "owed" "[I" ∈ wsL_law := List.mem_of_getElem? (i := 234) (by decide +kernel)
set_option maxRecDepth 20000 in
theorem u_640 : Cond.methodLink RX4 132 Lib.Math.max.name ∈ wsL_law := List.mem_of_getElem? (i := 239) (by decide +kernel)
set_option maxRecDepth 20000 in
theorem u_641 : Cond.static Lib.Math.max.name ∈ wsL_law := List.mem_of_getElem? (i := 240) (by decide +kernel)
set_option maxRecDepth 20000 in
theorem u_642 : Cond.code Lib.Math.max.name Lib.Math.max.code 2 (some .int) ∈ wsL_law := List.mem_of_getElem? (i := 241) (by decide +kernel)
set_option maxHeartbeats 4000000 in
set_option maxRecDepth 100000 in
theorem c_X4_closeWeek (l : Launch) (D : va_G) (cI cZ cF cL : ClassId) (b : Nat → Nat) (g1 g2 : Nat → Nat) (kn kw : Int32) (x1 x2 x3 x4 x5 : Nat) (a : Nat → Nat) (nH nV wk ea gi sw : Nat) (f1 f2 f3 f4 f5 f6 f7 f8 : Nat → Nat) (pt : Nat → Nat) (hH : nH ≤ 6) (hg : ∀ h, h < nH → g1 h = pt h) (hp5 : ∀ h, h < nH → pt h ≤ 5) (b1 : ∀ h, h < 6 → f1 h ≤ 4) (b2 : ∀ h, h < 6 → f2 h ≤ 9) (b3 : ∀ h, h < 6 → f3 h ≤ 9) (b4 : ∀ h, h < 6 → f4 h ≤ 1) : CT l D (tysX cI cZ cF cL) yX4_closeWeek (wA yX4_closeWeek cX4_closeWeek 3 none) (rmF 1 40) [.ref (b 0), .ref (a 0)] (pX cI b g1 g2 kn kw x1 x2 x3 x4 x5 ++ fX cI a nH nV wk ea gi sw f1 f2 f3 f4 f5 f6 f7 f8) (none : Option Value) (fun _ : Unit => (pX cI b g1 g2 kn kw x1 x2 x3 x4 x5 ++ fX cI a nH nV (wk + 1) ea gi sw f1 (clO pt f2 nH) (clC pt f1 f3 f4 nH) ((fun _ => 0)) ((fun _ => 0)) f6 f7 f8)) := by
  refine ct_in (cc := cX4_closeWeek) (maxL := 3) (ret := none) (own := RX4) (lv := [(0, .ref (b 0)), (1, .ref (a 0))]) (by decide +kernel) rfl rfl (Nat.le_of_ble_eq_true rfl) rfl ?_
  intro p e s m args below meth c A ls hx hb hr hml hts hown hlocks hK hA hP hD hS hl
  refine lv_iconst (v := (nI 0)) hx hb dX4_closeWeek_0 (by decide) ?_
  refine lv_istore_n (lv' := [(2, .int (nI 0)), (0, .ref (b 0)), (1, .ref (a 0))]) hx hb dX4_closeWeek_1 rfl hl (by decide) rfl (fun ls hl => ?_)
  have loop_2 : ∀ (dd : Nat) (i : Nat) (h2 : Nat → Nat) (h3 : Nat → Nat), (i ≤ nH) → (h2 = tabN (fun h => if 0 < pt h then min 9 (f2 h + 1) else f2 h) i f2) → (h3 = tabN (fun h => if 0 < pt h then f3 h - 1 else if f4 h = 1 then min 9 (f3 h + f1 h) else f3 h) i f3) → (nH - i) < dd → ∀ (Hp : Heap) (locs : List Loc), va_P D vwCl (pX cI b g1 g2 kn kw x1 x2 x3 x4 x5 ++ fX cI a nH nV wk ea gi sw f1 h2 h3 f4 f5 f6 f7 f8) Hp → va_D A (pX cI b g1 g2 kn kw x1 x2 x3 x4 x5 ++ fX cI a nH nV wk ea gi sw f1 h2 h3 f4 f5 f6 f7 f8) → va_S A s.heap Hp locs → ∀ ls : Array Slot, lv_has ls 3 [(2, .int (nI i)), (0, .ref (b 0)), (1, .ref (a 0))] → W p l e (rmF 1 40) s m args below meth c Hp locs 0 0 (MQ below (CQ D (none : Option Value) (fun _ : Unit => (pX cI b g1 g2 kn kw x1 x2 x3 x4 x5 ++ fX cI a nH nV (wk + 1) ea gi sw f1 (clO pt f2 nH) (clC pt f1 f3 f4 nH) ((fun _ => 0)) ((fun _ => 0)) f6 f7 f8)) A) args s 0 0 A) (F0 m 2 ls []) := by
    intro dd
    induction dd with
    | zero => intro i h2 h3 hi e2 e3 hm; exact absurd hm (Nat.not_lt_zero _)
    | succ dd ih_2 =>
      intro i h2 h3 hi e2 e3 hm Hp locs hP hD hS ls hl
      refine lv_iload_n hx hb dX4_closeWeek_2 rfl (lv_at hl 0 rfl) ?_
      refine lv_aload_n hx hb dX4_closeWeek_3 rfl (lv_at hl 2 rfl) ?_
      refine gf_n (C := RX1) (T := TX1) (N := 14) (ci := 1) (q0 := 5) (v := .int (nI nH)) hx hb hts (iU inlX1) hown hK hP rfl rfl 0 (by decide) (kU u_586) rfl rfl dX4_closeWeek_4 ?_
      refine lv_icmp_ge (tgt := 99) hx hb dX4_closeWeek_7 (by decide) (fun c_7 => ?_) (fun c_7 => ?_)
      · skip
        replace c_7 := cn_le (by omega) (by omega) c_7
        refine lv_aload_n hx hb dX4_closeWeek_99 rfl (lv_at hl 2 rfl) ?_
        refine gf_n (C := RX1) (T := TX1) (N := 14) (ci := 1) (q0 := 5) (v := .ref (a 4)) hx hb hts (iU inlX1) hown hK hP rfl rfl 9 (by decide) (kU u_643) rfl rfl dX4_closeWeek_100 ?_
        refine lv_iconst (v := (nI 0)) hx hb dX4_closeWeek_103 (by decide) ?_
        refine go_S (c_J7_fill_53178 l D cI cZ cF cL (a 4) 6 0 f4 (by omega)) (gUS u_581 u_79 u_80 u_81) rfl hdS_J7_fill_53178 ⟨Nat.le_of_ble_eq_true rfl, Nat.le_of_ble_eq_true rfl⟩ ⟨rfl, rfl⟩ hx hb hml hown hts hK hA hP hD hS hl.1 ⟨Nat.le_of_ble_eq_true rfl, Nat.le_of_ble_eq_true rfl⟩ [9] rfl rfl (fun _ => rfl) (rest := []) rfl rfl (Nat.le_of_ble_eq_true rfl) dX4_closeWeek_104 (ws2 := (fun _ : Unit => (pX cI b g1 g2 kn kw x1 x2 x3 x4 x5 ++ fX cI a nH nV wk ea gi sw f1 h2 h3 (filN 0 6 f4) f5 f6 f7 f8))) (fun _ => rfl) (fun _ Hp locs hP hD hS => ?_)
        obtain ⟨hP, hD⟩ := cg_n (g := nF ((fun _ => 0))) (ws2 := (pX cI b g1 g2 kn kw x1 x2 x3 x4 x5 ++ fX cI a nH nV wk ea gi sw f1 h2 h3 ((fun _ => 0)) f5 f6 f7 f8)) hP hD 9 rfl (fun j hj => congrArg nI (filN_in j hj)) rfl
        refine lv_aload_n hx hb dX4_closeWeek_107 rfl (lv_at hl 2 rfl) ?_
        refine gf_n (C := RX1) (T := TX1) (N := 14) (ci := 1) (q0 := 5) (v := .ref (a 5)) hx hb hts (iU inlX1) hown hK hP rfl rfl 10 (by decide) (kU u_594) rfl rfl dX4_closeWeek_108 ?_
        refine lv_iconst (v := (nI 0)) hx hb dX4_closeWeek_111 (by decide) ?_
        refine go_S (c_J7_fill_53178 l D cI cZ cF cL (a 5) 5 0 f5 (by omega)) (gUS u_581 u_79 u_80 u_81) rfl hdS_J7_fill_53178 ⟨Nat.le_of_ble_eq_true rfl, Nat.le_of_ble_eq_true rfl⟩ ⟨rfl, rfl⟩ hx hb hml hown hts hK hA hP hD hS hl.1 ⟨Nat.le_of_ble_eq_true rfl, Nat.le_of_ble_eq_true rfl⟩ [10] rfl rfl (fun _ => rfl) (rest := []) rfl rfl (Nat.le_of_ble_eq_true rfl) dX4_closeWeek_112 (ws2 := (fun _ : Unit => (pX cI b g1 g2 kn kw x1 x2 x3 x4 x5 ++ fX cI a nH nV wk ea gi sw f1 h2 h3 ((fun _ => 0)) (filN 0 5 f5) f6 f7 f8))) (fun _ => rfl) (fun _ Hp locs hP hD hS => ?_)
        obtain ⟨hP, hD⟩ := cg_n (g := nF ((fun _ => 0))) (ws2 := (pX cI b g1 g2 kn kw x1 x2 x3 x4 x5 ++ fX cI a nH nV wk ea gi sw f1 h2 h3 ((fun _ => 0)) ((fun _ => 0)) f6 f7 f8)) hP hD 10 rfl (fun j hj => congrArg nI (filN_in j hj)) rfl
        refine lv_aload_n hx hb dX4_closeWeek_115 rfl (lv_at hl 2 rfl) ?_
        refine lv_dup hx hb dX4_closeWeek_116 rfl ?_
        refine gf_n (C := RX1) (T := TX1) (N := 14) (ci := 1) (q0 := 5) (v := .int (nI wk)) hx hb hts (iU inlX1) hown hK hP rfl rfl 2 (by decide) (kU u_644) rfl rfl dX4_closeWeek_117 ?_
        refine lv_iconst (v := (nI 1)) hx hb dX4_closeWeek_120 (by decide) ?_
        refine lv_iadd hx hb dX4_closeWeek_121 ?_
        rw [nI_add wk 1]
        refine pf_n (C := RX1) (T := TX1) (N := 14) (ci := 1) (q0 := 5) (ty := .int) (v := .int (nI (wk + 1))) (ws2 := (pX cI b g1 g2 kn kw x1 x2 x3 x4 x5 ++ fX cI a nH nV (wk + 1) ea gi sw f1 h2 h3 ((fun _ => 0)) ((fun _ => 0)) f6 f7 f8)) hx hb hts (iU inlX1) tyX1 tyX1_ok nmX1 hown hK hP hD hS rfl rfl 2 (by decide) (kU u_644) rfl rfl (tyX1_ok 2 (by decide)) rfl rfl (Nat.le_of_ble_eq_true rfl) dX4_closeWeek_122 rfl (fun Hp locs hP hD hS => ?_)
        exact ct_v () hx hb hr hlocks (by rw [e2, e3, show i = nH by omega] at hP; exact hP) hS dX4_closeWeek_125
      · skip
        replace c_7 := cn_nle (by omega) (by omega) c_7
        refine lv_aload_n hx hb dX4_closeWeek_10 rfl (lv_at hl 1 rfl) ?_
        refine gf_n (C := RX4) (T := TX4) (N := 4) (ci := 4) (q0 := 0) (v := .ref (b 1)) hx hb hts (iU inlX4) hown hK hP rfl rfl 0 (by decide) (kU u_93) rfl rfl dX4_closeWeek_11 ?_
        refine lv_iload_n hx hb dX4_closeWeek_14 rfl (lv_at hl 0 rfl) ?_
        refine ia_n (q0 := 1) (t0 := 0) hx hb hK hP rfl rfl (by omega) (by decide) dX4_closeWeek_15 ?_
        rw [show (nI (g1 i)) = (nI (pt i)) from (by rw [hg i (by omega)])]
        refine lv_if_le (tgt := 59) hx hb dX4_closeWeek_16 (by decide) (fun c_16 => ?_) (fun c_16 => ?_)
        · skip
          replace c_16 := cn_le (b := 0) (Nat.lt_of_le_of_lt (hp5 _ (by omega)) (by decide)) (by decide) c_16
          refine lv_aload_n hx hb dX4_closeWeek_59 rfl (lv_at hl 2 rfl) ?_
          refine gf_n (C := RX1) (T := TX1) (N := 14) (ci := 1) (q0 := 5) (v := .ref (a 4)) hx hb hts (iU inlX1) hown hK hP rfl rfl 9 (by decide) (kU u_643) rfl rfl dX4_closeWeek_60 ?_
          refine lv_iload_n hx hb dX4_closeWeek_63 rfl (lv_at hl 0 rfl) ?_
          refine ia_n (q0 := 9) (t0 := 0) hx hb hK hP rfl rfl (by omega) (by decide) dX4_closeWeek_64 ?_
          refine lv_iconst (v := (nI 1)) hx hb dX4_closeWeek_65 (by decide) ?_
          refine lv_icmp_ne (tgt := 93) hx hb dX4_closeWeek_66 (by decide) (fun c_66 => ?_) (fun c_66 => ?_)
          · skip
            replace c_66 := cn_ne c_66
            refine lv_iinc (v := (nI (i + 1))) (lv' := [(2, .int (nI (i + 1))), (0, .ref (b 0)), (1, .ref (a 0))]) hx hb dX4_closeWeek_93 hl (k := 0) rfl (nI_add i 1) (by decide) rfl (fun ls hl => ?_)
            refine lv_goto (tgt := 2) hx hb dX4_closeWeek_96 (by decide) ?_
            exact ih_2 (i + 1) h2 h3 (by omega) (by first | (rw [e2, show min 9 (f2 i + 1) = (fun h => if 0 < pt h then min 9 (f2 h + 1) else f2 h) i from (if_pos c_16).symm, tabN_s]) | (rw [e2]; exact (tabN_k (if_neg (by omega))).symm)) (by first | (rw [e3, show f3 i - 1 = (fun h => if 0 < pt h then f3 h - 1 else if f4 h = 1 then min 9 (f3 h + f1 h) else f3 h) i from (if_pos c_16).symm, tabN_s]) | (rw [e3, show min 9 (f3 i + f1 i) = (fun h => if 0 < pt h then f3 h - 1 else if f4 h = 1 then min 9 (f3 h + f1 h) else f3 h) i from ((if_neg (by omega)).trans (if_pos c_66)).symm, tabN_s]) | (rw [e3]; exact (tabN_k (show (fun h => if 0 < pt h then f3 h - 1 else if f4 h = 1 then min 9 (f3 h + f1 h) else f3 h) i = f3 i by dsimp only; rw [if_neg (by omega), if_neg c_66])).symm)) (by omega) _ _ hP hD hS _ (lv_sub hl [0, 1, 2] rfl)
          · skip
            replace c_66 := cn_eq (Nat.lt_of_le_of_lt (b4 _ (by omega)) (by decide)) (by decide) c_66
            refine lv_aload_n hx hb dX4_closeWeek_69 rfl (lv_at hl 2 rfl) ?_
            refine gf_n (C := RX1) (T := TX1) (N := 14) (ci := 1) (q0 := 5) (v := .ref (a 3)) hx hb hts (iU inlX1) hown hK hP rfl rfl 8 (by decide) (kU u_588) rfl rfl dX4_closeWeek_70 ?_
            refine lv_iload_n hx hb dX4_closeWeek_73 rfl (lv_at hl 0 rfl) ?_
            refine lv_bipush (v := (nI 9)) hx hb dX4_closeWeek_74 (by decide) ?_
            refine lv_aload_n hx hb dX4_closeWeek_76 rfl (lv_at hl 2 rfl) ?_
            refine gf_n (C := RX1) (T := TX1) (N := 14) (ci := 1) (q0 := 5) (v := .ref (a 3)) hx hb hts (iU inlX1) hown hK hP rfl rfl 8 (by decide) (kU u_588) rfl rfl dX4_closeWeek_77 ?_
            refine lv_iload_n hx hb dX4_closeWeek_80 rfl (lv_at hl 0 rfl) ?_
            refine ia_n (q0 := 8) (t0 := 0) hx hb hK hP rfl rfl (by omega) (by decide) dX4_closeWeek_81 ?_
            rw [show (nI (h3 i)) = (nI (f3 i)) from (by rw [e3, tabN_out (Nat.le_refl i)])]
            refine lv_aload_n hx hb dX4_closeWeek_82 rfl (lv_at hl 2 rfl) ?_
            refine gf_n (C := RX1) (T := TX1) (N := 14) (ci := 1) (q0 := 5) (v := .ref (a 1)) hx hb hts (iU inlX1) hown hK hP rfl rfl 6 (by decide) (kU u_587) rfl rfl dX4_closeWeek_83 ?_
            refine lv_iload_n hx hb dX4_closeWeek_86 rfl (lv_at hl 0 rfl) ?_
            refine ia_n (q0 := 6) (t0 := 0) hx hb hK hP rfl rfl (by omega) (by decide) dX4_closeWeek_87 ?_
            refine lv_iadd hx hb dX4_closeWeek_88 ?_
            rw [nI_add (f3 i) (f1 i)]
            refine va_mmin hx hb (by rw [hml]; exact hl.1.symm) hown (hts _ (kU u_639)) (hts _ (kU u_232)) (hts _ (kU u_233)) (hts _ (kU u_234)) (Nat.le_of_ble_eq_true rfl) (Nat.le_of_ble_eq_true rfl) (Nat.le_of_ble_eq_true rfl) (Nat.le_of_ble_eq_true rfl) dX4_closeWeek_89 ?_
            rw [show (if (nI ((f3 i) + (f1 i))) < (nI 9) then (nI ((f3 i) + (f1 i))) else (nI 9)) = (nI (min 9 (f3 i + f1 i))) from (mm_min (by decide) (by have := b3 i (by omega); have := b1 i (by omega); omega))]
            refine is_n (q0 := 8) (t0 := 0) (ws2 := (pX cI b g1 g2 kn kw x1 x2 x3 x4 x5 ++ fX cI a nH nV wk ea gi sw f1 h2 (va_up h3 i (min 9 (f3 i + f1 i))) f4 f5 f6 f7 f8)) hx hb hK hP hD hS rfl rfl (by omega) (by decide) dX4_closeWeek_92 rfl (fun Hp locs hP hD hS => ?_)
            refine lv_iinc (v := (nI (i + 1))) (lv' := [(2, .int (nI (i + 1))), (0, .ref (b 0)), (1, .ref (a 0))]) hx hb dX4_closeWeek_93 hl (k := 0) rfl (nI_add i 1) (by decide) rfl (fun ls hl => ?_)
            refine lv_goto (tgt := 2) hx hb dX4_closeWeek_96 (by decide) ?_
            exact ih_2 (i + 1) h2 (va_up h3 i (min 9 (f3 i + f1 i))) (by omega) (by first | (rw [e2, show min 9 (f2 i + 1) = (fun h => if 0 < pt h then min 9 (f2 h + 1) else f2 h) i from (if_pos c_16).symm, tabN_s]) | (rw [e2]; exact (tabN_k (if_neg (by omega))).symm)) (by first | (rw [e3, show f3 i - 1 = (fun h => if 0 < pt h then f3 h - 1 else if f4 h = 1 then min 9 (f3 h + f1 h) else f3 h) i from (if_pos c_16).symm, tabN_s]) | (rw [e3, show min 9 (f3 i + f1 i) = (fun h => if 0 < pt h then f3 h - 1 else if f4 h = 1 then min 9 (f3 h + f1 h) else f3 h) i from ((if_neg (by omega)).trans (if_pos c_66)).symm, tabN_s]) | (rw [e3]; exact (tabN_k (show (fun h => if 0 < pt h then f3 h - 1 else if f4 h = 1 then min 9 (f3 h + f1 h) else f3 h) i = f3 i by dsimp only; rw [if_neg (by omega), if_neg c_66])).symm)) (by omega) _ _ hP hD hS _ (lv_sub hl [0, 1, 2] rfl)
        · skip
          replace c_16 := cn_nle (b := 0) (Nat.lt_of_le_of_lt (hp5 _ (by omega)) (by decide)) (by decide) c_16
          refine lv_aload_n hx hb dX4_closeWeek_19 rfl (lv_at hl 2 rfl) ?_
          refine gf_n (C := RX1) (T := TX1) (N := 14) (ci := 1) (q0 := 5) (v := .ref (a 2)) hx hb hts (iU inlX1) hown hK hP rfl rfl 7 (by decide) (kU u_638) rfl rfl dX4_closeWeek_20 ?_
          refine lv_iload_n hx hb dX4_closeWeek_23 rfl (lv_at hl 0 rfl) ?_
          refine lv_bipush (v := (nI 9)) hx hb dX4_closeWeek_24 (by decide) ?_
          refine lv_aload_n hx hb dX4_closeWeek_26 rfl (lv_at hl 2 rfl) ?_
          refine gf_n (C := RX1) (T := TX1) (N := 14) (ci := 1) (q0 := 5) (v := .ref (a 2)) hx hb hts (iU inlX1) hown hK hP rfl rfl 7 (by decide) (kU u_638) rfl rfl dX4_closeWeek_27 ?_
          refine lv_iload_n hx hb dX4_closeWeek_30 rfl (lv_at hl 0 rfl) ?_
          refine ia_n (q0 := 7) (t0 := 0) hx hb hK hP rfl rfl (by omega) (by decide) dX4_closeWeek_31 ?_
          rw [show (nI (h2 i)) = (nI (f2 i)) from (by rw [e2, tabN_out (Nat.le_refl i)])]
          refine lv_iconst (v := (nI 1)) hx hb dX4_closeWeek_32 (by decide) ?_
          refine lv_iadd hx hb dX4_closeWeek_33 ?_
          rw [nI_add (f2 i) 1]
          refine va_mmin hx hb (by rw [hml]; exact hl.1.symm) hown (hts _ (kU u_639)) (hts _ (kU u_232)) (hts _ (kU u_233)) (hts _ (kU u_234)) (Nat.le_of_ble_eq_true rfl) (Nat.le_of_ble_eq_true rfl) (Nat.le_of_ble_eq_true rfl) (Nat.le_of_ble_eq_true rfl) dX4_closeWeek_34 ?_
          rw [show (if (nI ((f2 i) + 1)) < (nI 9) then (nI ((f2 i) + 1)) else (nI 9)) = (nI (min 9 (f2 i + 1))) from (mm_min (by decide) (by have := b2 i (by omega); omega))]
          refine is_n (q0 := 7) (t0 := 0) (ws2 := (pX cI b g1 g2 kn kw x1 x2 x3 x4 x5 ++ fX cI a nH nV wk ea gi sw f1 (va_up h2 i (min 9 (f2 i + 1))) h3 f4 f5 f6 f7 f8)) hx hb hK hP hD hS rfl rfl (by omega) (by decide) dX4_closeWeek_37 rfl (fun Hp locs hP hD hS => ?_)
          refine lv_aload_n hx hb dX4_closeWeek_38 rfl (lv_at hl 2 rfl) ?_
          refine gf_n (C := RX1) (T := TX1) (N := 14) (ci := 1) (q0 := 5) (v := .ref (a 3)) hx hb hts (iU inlX1) hown hK hP rfl rfl 8 (by decide) (kU u_588) rfl rfl dX4_closeWeek_39 ?_
          refine lv_iload_n hx hb dX4_closeWeek_42 rfl (lv_at hl 0 rfl) ?_
          refine lv_iconst (v := (nI 0)) hx hb dX4_closeWeek_43 (by decide) ?_
          refine lv_aload_n hx hb dX4_closeWeek_44 rfl (lv_at hl 2 rfl) ?_
          refine gf_n (C := RX1) (T := TX1) (N := 14) (ci := 1) (q0 := 5) (v := .ref (a 3)) hx hb hts (iU inlX1) hown hK hP rfl rfl 8 (by decide) (kU u_588) rfl rfl dX4_closeWeek_45 ?_
          refine lv_iload_n hx hb dX4_closeWeek_48 rfl (lv_at hl 0 rfl) ?_
          refine ia_n (q0 := 8) (t0 := 0) hx hb hK hP rfl rfl (by omega) (by decide) dX4_closeWeek_49 ?_
          rw [show (nI (h3 i)) = (nI (f3 i)) from (by rw [e3, tabN_out (Nat.le_refl i)])]
          refine lv_iconst (v := (nI 1)) hx hb dX4_closeWeek_50 (by decide) ?_
          refine lv_isub hx hb dX4_closeWeek_51 ?_
          refine va_mmax hx hb (by rw [hml]; exact hl.1.symm) hown (hts _ (kU u_640)) (hts _ (kU u_641)) (hts _ (kU u_233)) (hts _ (kU u_642)) (Nat.le_of_ble_eq_true rfl) (Nat.le_of_ble_eq_true rfl) (Nat.le_of_ble_eq_true rfl) (Nat.le_of_ble_eq_true rfl) dX4_closeWeek_52 ?_
          rw [show (if (nI 0) < ((nI (f3 i)) - (nI 1)) then ((nI (f3 i)) - (nI 1)) else (nI 0)) = (nI (f3 i - 1)) from (mm_max (by have := b3 i (by omega); omega))]
          refine is_n (q0 := 8) (t0 := 0) (ws2 := (pX cI b g1 g2 kn kw x1 x2 x3 x4 x5 ++ fX cI a nH nV wk ea gi sw f1 (va_up h2 i (min 9 (f2 i + 1))) (va_up h3 i (f3 i - 1)) f4 f5 f6 f7 f8)) hx hb hK hP hD hS rfl rfl (by omega) (by decide) dX4_closeWeek_55 rfl (fun Hp locs hP hD hS => ?_)
          refine lv_goto (tgt := 93) hx hb dX4_closeWeek_56 (by decide) ?_
          refine lv_iinc (v := (nI (i + 1))) (lv' := [(2, .int (nI (i + 1))), (0, .ref (b 0)), (1, .ref (a 0))]) hx hb dX4_closeWeek_93 hl (k := 0) rfl (nI_add i 1) (by decide) rfl (fun ls hl => ?_)
          refine lv_goto (tgt := 2) hx hb dX4_closeWeek_96 (by decide) ?_
          exact ih_2 (i + 1) (va_up h2 i (min 9 (f2 i + 1))) (va_up h3 i (f3 i - 1)) (by omega) (by first | (rw [e2, show min 9 (f2 i + 1) = (fun h => if 0 < pt h then min 9 (f2 h + 1) else f2 h) i from (if_pos c_16).symm, tabN_s]) | (rw [e2]; exact (tabN_k (if_neg (by omega))).symm)) (by first | (rw [e3, show f3 i - 1 = (fun h => if 0 < pt h then f3 h - 1 else if f4 h = 1 then min 9 (f3 h + f1 h) else f3 h) i from (if_pos c_16).symm, tabN_s]) | (rw [e3, show min 9 (f3 i + f1 i) = (fun h => if 0 < pt h then f3 h - 1 else if f4 h = 1 then min 9 (f3 h + f1 h) else f3 h) i from ((if_neg (by omega)).trans (if_pos c_66)).symm, tabN_s]) | (rw [e3]; exact (tabN_k (show (fun h => if 0 < pt h then f3 h - 1 else if f4 h = 1 then min 9 (f3 h + f1 h) else f3 h) i = f3 i by dsimp only; rw [if_neg (by omega), if_neg c_66])).symm)) (by omega) _ _ hP hD hS _ (lv_sub hl [0, 1, 2] rfl)
  exact loop_2 ((nH - 0) + 1) 0 f2 f3 (by omega) (tabN_0 _ _).symm (tabN_0 _ _).symm (Nat.lt_succ_self _) _ _ hP hD hS _ (lv_sub hl [0, 1, 2] rfl)

