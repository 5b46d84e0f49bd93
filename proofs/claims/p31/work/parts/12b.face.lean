set_option maxRecDepth 20000 in
theorem u_157 : Cond.code yX8_needWithin cX8_needWithin 3 none ∈ wsL_law := List.mem_of_getElem? (i := 304) (by decide +kernel)
set_option maxRecDepth 20000 in
theorem u_155 : Cond.methodLink RX8 76 yX8_needWithin ∈ wsL_law := List.mem_of_getElem? (i := 302) (by decide +kernel)
set_option maxRecDepth 20000 in
theorem u_156 : Cond.static yX8_needWithin ∈ wsL_law := List.mem_of_getElem? (i := 303) (by decide +kernel)
set_option maxRecDepth 20000 in
theorem u_17 : Cond.fieldLink RX8 12 "HarvestBoxes" "text" "LHarvestBoxes$FarmText;" ∈ wsL_law := List.mem_of_getElem? (i := 12) (by decide +kernel)
theorem hdS_X8_needWithin : yX8_needWithin.cls ≠ "java/lang/invoke/MethodHandle" ∧ yX8_needWithin.cls ≠ "java/lang/invoke/VarHandle" ∧ (parseMethodDescriptor yX8_needWithin.desc).map (fun d => d.parameters.length) = some 3 := by decide +kernel
set_option maxRecDepth 20000 in
theorem u_291 : Cond.fieldLink RX8 112 "HarvestBoxes$Farm" "houses" "I" ∈ wsL_law := List.mem_of_getElem? (i := 257) (by decide +kernel)
set_option maxRecDepth 20000 in
theorem u_317 : Cond.fieldLink RX8 116 "HarvestBoxes$Farm" "vegetables" "I" ∈ wsL_law := List.mem_of_getElem? (i := 280) (by decide +kernel)
set_option maxRecDepth 20000 in
theorem u_318 : Cond.fieldLink RX8 119 "HarvestBoxes$Farm" "weeks" "I" ∈ wsL_law := List.mem_of_getElem? (i := 324) (by decide +kernel)
set_option maxRecDepth 20000 in
theorem u_322 : Cond.methodLink RX8 122 yX1_kilosInBoxes ∈ wsL_law := List.mem_of_getElem? (i := 327) (by decide +kernel)
set_option maxRecDepth 20000 in
theorem u_319 : Cond.fieldLink RX8 125 "HarvestBoxes$Farm" "eaten" "I" ∈ wsL_law := List.mem_of_getElem? (i := 325) (by decide +kernel)
set_option maxRecDepth 20000 in
theorem u_320 : Cond.fieldLink RX8 128 "HarvestBoxes$Farm" "given" "I" ∈ wsL_law := List.mem_of_getElem? (i := 326) (by decide +kernel)
set_option maxRecDepth 20000 in
theorem u_330 : Cond.methodLink RX8 131 yX1_compostedOfAll ∈ wsL_law := List.mem_of_getElem? (i := 328) (by decide +kernel)
set_option maxRecDepth 20000 in
theorem u_337 : Cond.code yX1_owedByAll cX1_owedByAll 3 (some .int) ∈ wsL_law := List.mem_of_getElem? (i := 335) (by decide +kernel)
set_option maxRecDepth 20000 in
theorem u_334 : Cond.methodLink RX8 134 yX1_owedByAll ∈ wsL_law := List.mem_of_getElem? (i := 332) (by decide +kernel)
set_option maxRecDepth 20000 in
theorem u_335 : Cond.instanceMethod yX1_owedByAll ∈ wsL_law := List.mem_of_getElem? (i := 333) (by decide +kernel)
set_option maxRecDepth 20000 in
theorem u_336 : Cond.selects RX1 yX1_owedByAll yX1_owedByAll ∈ wsL_law := List.mem_of_getElem? (i := 334) (by decide +kernel)
set_option maxRecDepth 20000 in
theorem u_321 : Cond.fieldLink RX8 137 "HarvestBoxes$Farm" "swaps" "I" ∈ wsL_law := List.mem_of_getElem? (i := 130) (by decide +kernel)
set_option maxRecDepth 20000 in
theorem u_338 : Cond.methodLink RX8 140 yX1_housesWithBoxNext ∈ wsL_law := List.mem_of_getElem? (i := 336) (by decide +kernel)
theorem hdV_X1_owedByAll : yX1_owedByAll.cls = RX1 ∧ yX1_owedByAll.cls ≠ "java/lang/invoke/MethodHandle" ∧ yX1_owedByAll.cls ≠ "java/lang/invoke/VarHandle" ∧ (parseMethodDescriptor yX1_owedByAll.desc).map (fun d => d.parameters.length) = some 0 := by decide +kernel
set_option maxHeartbeats 4000000 in
set_option maxRecDepth 100000 in
theorem c_X8_about (l : Launch) (D : va_G) (cI cZ cF cL : ClassId) (rx : Nat) (tt a tr : Nat → Nat) (r3 rs rz : Nat) (b : Nat → Nat) (b0 s0 r5 r6 : Nat) (T : Nat → Nat → Nat) (w : Nat) (hT : FI T) (hw : w < 10) : CT l D (tysX cI cZ cF cL) yX8_about (wA yX8_about cX8_about 2 (some .int)) (rmF 3 66) [.ref rx, .int (nI w)] (xX rx tt a tr r3 rs rz b b0 s0 r5 r6 ++ fX cI a (T 0 0) (T 0 1) (T 0 2) (T 0 3) (T 0 4) (T 0 5) (T 1) (T 2) (T 3) (T 4) (T 5) (T 6) (T 7) (T 8)) (some (.int (nI (abV T w)))) (fun _ : Unit => (xX rx tt a tr r3 rs rz b b0 s0 r5 r6 ++ fX cI a (T 0 0) (T 0 1) (T 0 2) (T 0 3) (T 0 4) (T 0 5) (T 1) (T 2) (T 3) (T 4) (T 5) (T 6) (T 7) (T 8))) := by
  refine ct_in (cc := cX8_about) (maxL := 2) (ret := (some .int)) (own := RX8) (lv := [(0, .ref rx), (1, .int (nI w))]) (by decide +kernel) rfl rfl (Nat.le_of_ble_eq_true rfl) rfl ?_
  intro p e s m args below meth c A ls hx hb hr hml hts hown hlocks hK hA hP hD hS hl
  refine lv_iload_n hx hb dX8_about_0 rfl (lv_at hl 1 rfl) ?_
  by_cases c_1_0 : (nI w) = nI 0
  · skip
    refine lv_tableIn (off := 55) (tgt := 56) hx hb dX8_about_1 (by rw [c_1_0]; decide +kernel) (by rw [c_1_0]; decide +kernel) (by rw [c_1_0]; decide +kernel) (by decide) ?_
    have c_w : w = 0 := cn_eq (by omega) (by omega) c_1_0
    refine lv_aload_n hx hb dX8_about_56 rfl (lv_at hl 0 rfl) ?_
    refine gf_n (C := RX8) (T := TX8) (N := 11) (ci := 8) (q0 := 0) (v := .ref (a 0)) hx hb hts (iU inlX8) hown hK hP rfl rfl 1 (by decide) (kU u_21) rfl rfl dX8_about_57 ?_
    refine gf_n (C := RX1) (T := TX1) (N := 14) (ci := 1) (q0 := 1) (v := .int (nI (T 0 0))) hx hb hts (iU inlX1) hown hK hP rfl rfl 0 (by decide) (kU u_291) rfl rfl dX8_about_60 ?_
    exact ct_i () hx hb hr hlocks hP hS (congrArg nI (by rw [abV, if_pos c_w])) dX8_about_63
  by_cases c_1_1 : (nI w) = nI 1
  · skip
    refine lv_tableIn (off := 63) (tgt := 64) hx hb dX8_about_1 (by rw [c_1_1]; decide +kernel) (by rw [c_1_1]; decide +kernel) (by rw [c_1_1]; decide +kernel) (by decide) ?_
    have c_w : w = 1 := cn_eq (by omega) (by omega) c_1_1
    refine lv_aload_n hx hb dX8_about_64 rfl (lv_at hl 0 rfl) ?_
    refine gf_n (C := RX8) (T := TX8) (N := 11) (ci := 8) (q0 := 0) (v := .ref (a 0)) hx hb hts (iU inlX8) hown hK hP rfl rfl 1 (by decide) (kU u_21) rfl rfl dX8_about_65 ?_
    refine gf_n (C := RX1) (T := TX1) (N := 14) (ci := 1) (q0 := 1) (v := .int (nI (T 0 1))) hx hb hts (iU inlX1) hown hK hP rfl rfl 1 (by decide) (kU u_317) rfl rfl dX8_about_68 ?_
    exact ct_i () hx hb hr hlocks hP hS (congrArg nI (by rw [abV, if_neg (show ¬ w = 0 by omega), if_pos c_w])) dX8_about_71
  by_cases c_1_2 : (nI w) = nI 2
  · skip
    refine lv_tableIn (off := 71) (tgt := 72) hx hb dX8_about_1 (by rw [c_1_2]; decide +kernel) (by rw [c_1_2]; decide +kernel) (by rw [c_1_2]; decide +kernel) (by decide) ?_
    have c_w : w = 2 := cn_eq (by omega) (by omega) c_1_2
    refine lv_aload_n hx hb dX8_about_72 rfl (lv_at hl 0 rfl) ?_
    refine gf_n (C := RX8) (T := TX8) (N := 11) (ci := 8) (q0 := 0) (v := .ref (a 0)) hx hb hts (iU inlX8) hown hK hP rfl rfl 1 (by decide) (kU u_21) rfl rfl dX8_about_73 ?_
    refine gf_n (C := RX1) (T := TX1) (N := 14) (ci := 1) (q0 := 1) (v := .int (nI (T 0 2))) hx hb hts (iU inlX1) hown hK hP rfl rfl 2 (by decide) (kU u_318) rfl rfl dX8_about_76 ?_
    exact ct_i () hx hb hr hlocks hP hS (congrArg nI (by rw [abV, if_neg (show ¬ w = 0 by omega), if_neg (show ¬ w = 1 by omega), if_pos c_w])) dX8_about_79
  by_cases c_1_3 : (nI w) = nI 3
  · skip
    refine lv_tableIn (off := 79) (tgt := 80) hx hb dX8_about_1 (by rw [c_1_3]; decide +kernel) (by rw [c_1_3]; decide +kernel) (by rw [c_1_3]; decide +kernel) (by decide) ?_
    have c_w : w = 3 := cn_eq (by omega) (by omega) c_1_3
    refine lv_aload_n hx hb dX8_about_80 rfl (lv_at hl 0 rfl) ?_
    refine gf_n (C := RX8) (T := TX8) (N := 11) (ci := 8) (q0 := 0) (v := .ref (a 0)) hx hb hts (iU inlX8) hown hK hP rfl rfl 1 (by decide) (kU u_21) rfl rfl dX8_about_81 ?_
    refine gp_V (ci := 1) (q0 := 0) (cq := (RX1, TX1, 14)) (c_X1_kilosInBoxes l D cI cZ cF cL a (T 0 0) (T 0 1) (T 0 2) (T 0 3) (T 0 4) (T 0 5) (T 1) (T 2) (T 3) (T 4) (T 5) (T 6) (T 7) (T 8) hT.1.1 hT.1.2) (gUV u_322 u_323 u_324 u_20 u_325) rfl hdV_X1_kilosInBoxes ⟨Nat.le_of_ble_eq_true rfl, Nat.le_of_ble_eq_true rfl⟩ ⟨rfl, rfl⟩ hx hb hml hown hts hK hA hP hD hS hl.1 ⟨Nat.le_of_ble_eq_true rfl, Nat.le_of_ble_eq_true rfl⟩ rfl rfl rfl (wr := (xX rx tt a tr r3 rs rz b b0 s0 r5 r6)) (pm_cnt (fun _ => by simp only [List.countP_append, List.countP_nil, fT] <;> omega)) (fun _ => by simp only [List.map_append, List.map_nil, fX_m, bX_m, sX_m, pX_m, iaX_m, r5X_m, r6X_m, fT_m, hX_m, tX_m, xX_m, sgX_m, zaX_m, fsB_a]) (rest := []) rfl rfl (Nat.le_of_ble_eq_true rfl) dX8_about_84 (ws2 := (fun _ : Unit => (xX rx tt a tr r3 rs rz b b0 s0 r5 r6 ++ fX cI a (T 0 0) (T 0 1) (T 0 2) (T 0 3) (T 0 4) (T 0 5) (T 1) (T 2) (T 3) (T 4) (T 5) (T 6) (T 7) (T 8)))) (fun _ => (pm_cnt (fun _ => by simp only [List.countP_append, List.countP_nil, fT] <;> omega))) (fun _ Hp locs hP hD hS => ?_)
    exact ct_i () hx hb hr hlocks hP hS (congrArg nI (by rw [abV, if_neg (show ¬ w = 0 by omega), if_neg (show ¬ w = 1 by omega), if_neg (show ¬ w = 2 by omega), if_pos c_w])) dX8_about_87
  by_cases c_1_4 : (nI w) = nI 4
  · skip
    refine lv_tableIn (off := 87) (tgt := 88) hx hb dX8_about_1 (by rw [c_1_4]; decide +kernel) (by rw [c_1_4]; decide +kernel) (by rw [c_1_4]; decide +kernel) (by decide) ?_
    have c_w : w = 4 := cn_eq (by omega) (by omega) c_1_4
    refine lv_aload_n hx hb dX8_about_88 rfl (lv_at hl 0 rfl) ?_
    refine gf_n (C := RX8) (T := TX8) (N := 11) (ci := 8) (q0 := 0) (v := .ref (a 0)) hx hb hts (iU inlX8) hown hK hP rfl rfl 1 (by decide) (kU u_21) rfl rfl dX8_about_89 ?_
    refine gf_n (C := RX1) (T := TX1) (N := 14) (ci := 1) (q0 := 1) (v := .int (nI (T 0 3))) hx hb hts (iU inlX1) hown hK hP rfl rfl 3 (by decide) (kU u_319) rfl rfl dX8_about_92 ?_
    exact ct_i () hx hb hr hlocks hP hS (congrArg nI (by rw [abV, if_neg (show ¬ w = 0 by omega), if_neg (show ¬ w = 1 by omega), if_neg (show ¬ w = 2 by omega), if_neg (show ¬ w = 3 by omega), if_pos c_w])) dX8_about_95
  by_cases c_1_5 : (nI w) = nI 5
  · skip
    refine lv_tableIn (off := 95) (tgt := 96) hx hb dX8_about_1 (by rw [c_1_5]; decide +kernel) (by rw [c_1_5]; decide +kernel) (by rw [c_1_5]; decide +kernel) (by decide) ?_
    have c_w : w = 5 := cn_eq (by omega) (by omega) c_1_5
    refine lv_aload_n hx hb dX8_about_96 rfl (lv_at hl 0 rfl) ?_
    refine gf_n (C := RX8) (T := TX8) (N := 11) (ci := 8) (q0 := 0) (v := .ref (a 0)) hx hb hts (iU inlX8) hown hK hP rfl rfl 1 (by decide) (kU u_21) rfl rfl dX8_about_97 ?_
    refine gf_n (C := RX1) (T := TX1) (N := 14) (ci := 1) (q0 := 1) (v := .int (nI (T 0 4))) hx hb hts (iU inlX1) hown hK hP rfl rfl 4 (by decide) (kU u_320) rfl rfl dX8_about_100 ?_
    exact ct_i () hx hb hr hlocks hP hS (congrArg nI (by rw [abV, if_neg (show ¬ w = 0 by omega), if_neg (show ¬ w = 1 by omega), if_neg (show ¬ w = 2 by omega), if_neg (show ¬ w = 3 by omega), if_neg (show ¬ w = 4 by omega), if_pos c_w])) dX8_about_103
  by_cases c_1_6 : (nI w) = nI 6
  · skip
    refine lv_tableIn (off := 103) (tgt := 104) hx hb dX8_about_1 (by rw [c_1_6]; decide +kernel) (by rw [c_1_6]; decide +kernel) (by rw [c_1_6]; decide +kernel) (by decide) ?_
    have c_w : w = 6 := cn_eq (by omega) (by omega) c_1_6
    refine lv_aload_n hx hb dX8_about_104 rfl (lv_at hl 0 rfl) ?_
    refine gf_n (C := RX8) (T := TX8) (N := 11) (ci := 8) (q0 := 0) (v := .ref (a 0)) hx hb hts (iU inlX8) hown hK hP rfl rfl 1 (by decide) (kU u_21) rfl rfl dX8_about_105 ?_
    refine gp_V (ci := 1) (q0 := 0) (cq := (RX1, TX1, 14)) (c_X1_compostedOfAll l D cI cZ cF cL a (T 0 0) (T 0 1) (T 0 2) (T 0 3) (T 0 4) (T 0 5) (T 1) (T 2) (T 3) (T 4) (T 5) (T 6) (T 7) (T 8) hT.1.2) (gUV u_330 u_331 u_332 u_20 u_333) rfl hdV_X1_compostedOfAll ⟨Nat.le_of_ble_eq_true rfl, Nat.le_of_ble_eq_true rfl⟩ ⟨rfl, rfl⟩ hx hb hml hown hts hK hA hP hD hS hl.1 ⟨Nat.le_of_ble_eq_true rfl, Nat.le_of_ble_eq_true rfl⟩ rfl rfl rfl (wr := (xX rx tt a tr r3 rs rz b b0 s0 r5 r6)) (pm_cnt (fun _ => by simp only [List.countP_append, List.countP_nil, fT] <;> omega)) (fun _ => by simp only [List.map_append, List.map_nil, fX_m, bX_m, sX_m, pX_m, iaX_m, r5X_m, r6X_m, fT_m, hX_m, tX_m, xX_m, sgX_m, zaX_m, fsB_a]) (rest := []) rfl rfl (Nat.le_of_ble_eq_true rfl) dX8_about_108 (ws2 := (fun _ : Unit => (xX rx tt a tr r3 rs rz b b0 s0 r5 r6 ++ fX cI a (T 0 0) (T 0 1) (T 0 2) (T 0 3) (T 0 4) (T 0 5) (T 1) (T 2) (T 3) (T 4) (T 5) (T 6) (T 7) (T 8)))) (fun _ => (pm_cnt (fun _ => by simp only [List.countP_append, List.countP_nil, fT] <;> omega))) (fun _ Hp locs hP hD hS => ?_)
    exact ct_i () hx hb hr hlocks hP hS (congrArg nI (by rw [abV, if_neg (show ¬ w = 0 by omega), if_neg (show ¬ w = 1 by omega), if_neg (show ¬ w = 2 by omega), if_neg (show ¬ w = 3 by omega), if_neg (show ¬ w = 4 by omega), if_neg (show ¬ w = 5 by omega), if_pos c_w])) dX8_about_111
  by_cases c_1_7 : (nI w) = nI 7
  · skip
    refine lv_tableIn (off := 111) (tgt := 112) hx hb dX8_about_1 (by rw [c_1_7]; decide +kernel) (by rw [c_1_7]; decide +kernel) (by rw [c_1_7]; decide +kernel) (by decide) ?_
    have c_w : w = 7 := cn_eq (by omega) (by omega) c_1_7
    refine lv_aload_n hx hb dX8_about_112 rfl (lv_at hl 0 rfl) ?_
    refine gf_n (C := RX8) (T := TX8) (N := 11) (ci := 8) (q0 := 0) (v := .ref (a 0)) hx hb hts (iU inlX8) hown hK hP rfl rfl 1 (by decide) (kU u_21) rfl rfl dX8_about_113 ?_
    refine gp_V (ci := 1) (q0 := 0) (cq := (RX1, TX1, 14)) (c_X1_owedByAll l D cI cZ cF cL a (T 0 0) (T 0 1) (T 0 2) (T 0 3) (T 0 4) (T 0 5) (T 1) (T 2) (T 3) (T 4) (T 5) (T 6) (T 7) (T 8) hT.1.1) (gUV u_334 u_335 u_336 u_20 u_337) rfl hdV_X1_owedByAll ⟨Nat.le_of_ble_eq_true rfl, Nat.le_of_ble_eq_true rfl⟩ ⟨rfl, rfl⟩ hx hb hml hown hts hK hA hP hD hS hl.1 ⟨Nat.le_of_ble_eq_true rfl, Nat.le_of_ble_eq_true rfl⟩ rfl rfl rfl (wr := (xX rx tt a tr r3 rs rz b b0 s0 r5 r6)) (pm_cnt (fun _ => by simp only [List.countP_append, List.countP_nil, fT] <;> omega)) (fun _ => by simp only [List.map_append, List.map_nil, fX_m, bX_m, sX_m, pX_m, iaX_m, r5X_m, r6X_m, fT_m, hX_m, tX_m, xX_m, sgX_m, zaX_m, fsB_a]) (rest := []) rfl rfl (Nat.le_of_ble_eq_true rfl) dX8_about_116 (ws2 := (fun _ : Unit => (xX rx tt a tr r3 rs rz b b0 s0 r5 r6 ++ fX cI a (T 0 0) (T 0 1) (T 0 2) (T 0 3) (T 0 4) (T 0 5) (T 1) (T 2) (T 3) (T 4) (T 5) (T 6) (T 7) (T 8)))) (fun _ => (pm_cnt (fun _ => by simp only [List.countP_append, List.countP_nil, fT] <;> omega))) (fun _ Hp locs hP hD hS => ?_)
    exact ct_i () hx hb hr hlocks hP hS (congrArg nI (by rw [abV, if_neg (show ¬ w = 0 by omega), if_neg (show ¬ w = 1 by omega), if_neg (show ¬ w = 2 by omega), if_neg (show ¬ w = 3 by omega), if_neg (show ¬ w = 4 by omega), if_neg (show ¬ w = 5 by omega), if_neg (show ¬ w = 6 by omega), if_pos c_w])) dX8_about_119
  by_cases c_1_8 : (nI w) = nI 8
  · skip
    refine lv_tableIn (off := 119) (tgt := 120) hx hb dX8_about_1 (by rw [c_1_8]; decide +kernel) (by rw [c_1_8]; decide +kernel) (by rw [c_1_8]; decide +kernel) (by decide) ?_
    have c_w : w = 8 := cn_eq (by omega) (by omega) c_1_8
    refine lv_aload_n hx hb dX8_about_120 rfl (lv_at hl 0 rfl) ?_
    refine gf_n (C := RX8) (T := TX8) (N := 11) (ci := 8) (q0 := 0) (v := .ref (a 0)) hx hb hts (iU inlX8) hown hK hP rfl rfl 1 (by decide) (kU u_21) rfl rfl dX8_about_121 ?_
    refine gf_n (C := RX1) (T := TX1) (N := 14) (ci := 1) (q0 := 1) (v := .int (nI (T 0 5))) hx hb hts (iU inlX1) hown hK hP rfl rfl 5 (by decide) (kU u_321) rfl rfl dX8_about_124 ?_
    exact ct_i () hx hb hr hlocks hP hS (congrArg nI (by rw [abV, if_neg (show ¬ w = 0 by omega), if_neg (show ¬ w = 1 by omega), if_neg (show ¬ w = 2 by omega), if_neg (show ¬ w = 3 by omega), if_neg (show ¬ w = 4 by omega), if_neg (show ¬ w = 5 by omega), if_neg (show ¬ w = 6 by omega), if_neg (show ¬ w = 7 by omega), if_pos c_w])) dX8_about_127
  by_cases c_1_9 : (nI w) = nI 9
  · skip
    refine lv_tableIn (off := 127) (tgt := 128) hx hb dX8_about_1 (by rw [c_1_9]; decide +kernel) (by rw [c_1_9]; decide +kernel) (by rw [c_1_9]; decide +kernel) (by decide) ?_
    have c_w : w = 9 := cn_eq (by omega) (by omega) c_1_9
    refine lv_aload_n hx hb dX8_about_128 rfl (lv_at hl 0 rfl) ?_
    refine gf_n (C := RX8) (T := TX8) (N := 11) (ci := 8) (q0 := 0) (v := .ref (a 0)) hx hb hts (iU inlX8) hown hK hP rfl rfl 1 (by decide) (kU u_21) rfl rfl dX8_about_129 ?_
    refine gp_V (ci := 1) (q0 := 0) (cq := (RX1, TX1, 14)) (c_X1_housesWithBoxNext l D cI cZ cF cL a (T 0 0) (T 0 1) (T 0 2) (T 0 3) (T 0 4) (T 0 5) (T 1) (T 2) (T 3) (T 4) (T 5) (T 6) (T 7) (T 8) hT.1.1 (fun h hh => by have := (hT.2.1 h hh).2.1; omega) (fun h hh => by have := (hT.2.1 h hh).2.2.2.1; omega)) (gUV u_338 u_339 u_340 u_20 u_341) rfl hdV_X1_housesWithBoxNext ⟨Nat.le_of_ble_eq_true rfl, Nat.le_of_ble_eq_true rfl⟩ ⟨rfl, rfl⟩ hx hb hml hown hts hK hA hP hD hS hl.1 ⟨Nat.le_of_ble_eq_true rfl, Nat.le_of_ble_eq_true rfl⟩ rfl rfl rfl (wr := (xX rx tt a tr r3 rs rz b b0 s0 r5 r6)) (pm_cnt (fun _ => by simp only [List.countP_append, List.countP_nil, fT] <;> omega)) (fun _ => by simp only [List.map_append, List.map_nil, fX_m, bX_m, sX_m, pX_m, iaX_m, r5X_m, r6X_m, fT_m, hX_m, tX_m, xX_m, sgX_m, zaX_m, fsB_a]) (rest := []) rfl rfl (Nat.le_of_ble_eq_true rfl) dX8_about_132 (ws2 := (fun _ : Unit => (xX rx tt a tr r3 rs rz b b0 s0 r5 r6 ++ fX cI a (T 0 0) (T 0 1) (T 0 2) (T 0 3) (T 0 4) (T 0 5) (T 1) (T 2) (T 3) (T 4) (T 5) (T 6) (T 7) (T 8)))) (fun _ => (pm_cnt (fun _ => by simp only [List.countP_append, List.countP_nil, fT] <;> omega))) (fun _ Hp locs hP hD hS => ?_)
    exact ct_i () hx hb hr hlocks hP hS (congrArg nI (by rw [abV, if_neg (show ¬ w = 0 by omega), if_neg (show ¬ w = 1 by omega), if_neg (show ¬ w = 2 by omega), if_neg (show ¬ w = 3 by omega), if_neg (show ¬ w = 4 by omega), if_neg (show ¬ w = 5 by omega), if_neg (show ¬ w = 6 by omega), if_neg (show ¬ w = 7 by omega), if_neg (show ¬ w = 8 by omega)]; rfl)) dX8_about_135
  exfalso; have n0 := cn_ne c_1_0; have n1 := cn_ne c_1_1; have n2 := cn_ne c_1_2; have n3 := cn_ne c_1_3; have n4 := cn_ne c_1_4; have n5 := cn_ne c_1_5; have n6 := cn_ne c_1_6; have n7 := cn_ne c_1_7; have n8 := cn_ne c_1_8; have n9 := cn_ne c_1_9; omega
set_option maxRecDepth 20000 in
theorem u_380 : Cond.code yX8_needHouse cX8_needHouse 2 none ∈ wsL_law := List.mem_of_getElem? (i := 377) (by decide +kernel)
set_option maxRecDepth 20000 in
theorem u_377 : Cond.methodLink RX8 148 yX8_needHouse ∈ wsL_law := List.mem_of_getElem? (i := 374) (by decide +kernel)
set_option maxRecDepth 20000 in
theorem u_378 : Cond.instanceMethod yX8_needHouse ∈ wsL_law := List.mem_of_getElem? (i := 375) (by decide +kernel)
set_option maxRecDepth 20000 in
theorem u_379 : Cond.selects RX8 yX8_needHouse yX8_needHouse ∈ wsL_law := List.mem_of_getElem? (i := 376) (by decide +kernel)
set_option maxRecDepth 20000 in
theorem u_373 : Cond.fieldLink RX8 152 "HarvestBoxes$Farm" "size" "[I" ∈ wsL_law := List.mem_of_getElem? (i := 394) (by decide +kernel)
set_option maxRecDepth 20000 in
theorem u_374 : Cond.fieldLink RX8 156 "HarvestBoxes$Farm" "owed" "[I" ∈ wsL_law := List.mem_of_getElem? (i := 395) (by decide +kernel)
set_option maxRecDepth 20000 in
theorem u_375 : Cond.fieldLink RX8 159 "HarvestBoxes$Farm" "credit" "[I" ∈ wsL_law := List.mem_of_getElem? (i := 396) (by decide +kernel)
set_option maxRecDepth 20000 in
theorem u_376 : Cond.fieldLink RX8 162 "HarvestBoxes$Farm" "skipping" "[I" ∈ wsL_law := List.mem_of_getElem? (i := 264) (by decide +kernel)
set_option maxRecDepth 20000 in
theorem u_387 : Cond.methodLink RX8 165 yX1_kilosOfHouse ∈ wsL_law := List.mem_of_getElem? (i := 397) (by decide +kernel)
set_option maxRecDepth 20000 in
theorem u_388 : Cond.methodLink RX8 168 yX1_happinessOf ∈ wsL_law := List.mem_of_getElem? (i := 398) (by decide +kernel)
set_option maxRecDepth 20000 in
theorem u_392 : Cond.methodLink RX8 171 yX1_getsBoxNext ∈ wsL_law := List.mem_of_getElem? (i := 259) (by decide +kernel)
theorem hdV_X8_needHouse : yX8_needHouse.cls = RX8 ∧ yX8_needHouse.cls ≠ "java/lang/invoke/MethodHandle" ∧ yX8_needHouse.cls ≠ "java/lang/invoke/VarHandle" ∧ (parseMethodDescriptor yX8_needHouse.desc).map (fun d => d.parameters.length) = some 1 := by decide +kernel
set_option maxHeartbeats 4000000 in
set_option maxRecDepth 100000 in
theorem c_X8_house (l : Launch) (D : va_G) (cI cZ cF cL : ClassId) (rx : Nat) (tt a tr : Nat → Nat) (r3 rs rz : Nat) (b : Nat → Nat) (b0 s0 r5 r6 : Nat) (T : Nat → Nat → Nat) (h w : Nat) (hT : FI T) (hh : h < T 0 0) (hw : w < 7) : CT l D (tysX cI cZ cF cL) yX8_house (wA yX8_house cX8_house 3 (some .int)) (rmF 2 44) [.ref rx, .int (nI h), .int (nI w)] (xX rx tt a tr r3 rs rz b b0 s0 r5 r6 ++ fX cI a (T 0 0) (T 0 1) (T 0 2) (T 0 3) (T 0 4) (T 0 5) (T 1) (T 2) (T 3) (T 4) (T 5) (T 6) (T 7) (T 8)) (some (.int (nI (hoV T h w)))) (fun _ : Unit => (xX rx tt a tr r3 rs rz b b0 s0 r5 r6 ++ fX cI a (T 0 0) (T 0 1) (T 0 2) (T 0 3) (T 0 4) (T 0 5) (T 1) (T 2) (T 3) (T 4) (T 5) (T 6) (T 7) (T 8))) := by
  refine ct_in (cc := cX8_house) (maxL := 3) (ret := (some .int)) (own := RX8) (lv := [(0, .ref rx), (1, .int (nI h)), (2, .int (nI w))]) (by decide +kernel) rfl rfl (Nat.le_of_ble_eq_true rfl) rfl ?_
  intro p e s m args below meth c A ls hx hb hr hml hts hown hlocks hK hA hP hD hS hl
  refine lv_aload_n hx hb dX8_house_0 rfl (lv_at hl 0 rfl) ?_
  refine lv_iload_n hx hb dX8_house_1 rfl (lv_at hl 1 rfl) ?_
  refine gp_V (ci := 8) (q0 := 0) (cq := (RX8, TX8, 11)) (c_X8_needHouse l D cI cZ cF cL rx tt a tr r3 rs rz b b0 s0 r5 r6 T h hT hh) (gUV u_377 u_378 u_379 u_2 u_380) rfl hdV_X8_needHouse ⟨Nat.le_of_ble_eq_true rfl, Nat.le_of_ble_eq_true rfl⟩ ⟨rfl, rfl⟩ hx hb hml hown hts hK hA hP hD hS hl.1 ⟨Nat.le_of_ble_eq_true rfl, Nat.le_of_ble_eq_true rfl⟩ rfl rfl rfl (wr := ([] : va_W)) (pm_cnt (fun _ => by simp only [List.countP_append, List.countP_nil, fT] <;> omega)) (fun _ => by simp only [List.map_append, List.map_nil, fX_m, bX_m, sX_m, pX_m, iaX_m, r5X_m, r6X_m, fT_m, hX_m, tX_m, xX_m, sgX_m, zaX_m, fsB_a]) (rest := []) rfl rfl (Nat.le_of_ble_eq_true rfl) dX8_house_2 (ws2 := (fun _ : Unit => (xX rx tt a tr r3 rs rz b b0 s0 r5 r6 ++ fX cI a (T 0 0) (T 0 1) (T 0 2) (T 0 3) (T 0 4) (T 0 5) (T 1) (T 2) (T 3) (T 4) (T 5) (T 6) (T 7) (T 8)))) (fun _ => (pm_cnt (fun _ => by simp only [List.countP_append, List.countP_nil, fT] <;> omega))) (fun _ Hp locs hP hD hS => ?_)
  refine lv_iload_n hx hb dX8_house_5 rfl (lv_at hl 2 rfl) ?_
  by_cases c_6_0 : (nI w) = nI 0
  · skip
    refine lv_tableIn (off := 42) (tgt := 48) hx hb dX8_house_6 (by rw [c_6_0]; decide +kernel) (by rw [c_6_0]; decide +kernel) (by rw [c_6_0]; decide +kernel) (by decide) ?_
    have c_w : w = 0 := cn_eq (by omega) (by omega) c_6_0
    refine lv_aload_n hx hb dX8_house_48 rfl (lv_at hl 0 rfl) ?_
    refine gf_n (C := RX8) (T := TX8) (N := 11) (ci := 8) (q0 := 0) (v := .ref (a 0)) hx hb hts (iU inlX8) hown hK hP rfl rfl 1 (by decide) (kU u_21) rfl rfl dX8_house_49 ?_
    refine gf_n (C := RX1) (T := TX1) (N := 14) (ci := 1) (q0 := 1) (v := .ref (a 1)) hx hb hts (iU inlX1) hown hK hP rfl rfl 6 (by decide) (kU u_373) rfl rfl dX8_house_52 ?_
    refine lv_iload_n hx hb dX8_house_55 rfl (lv_at hl 1 rfl) ?_
    refine ia_n (q0 := 2) (t0 := 0) hx hb hK hP rfl rfl (by have := hT.1.1; omega) (by decide) dX8_house_56 ?_
    exact ct_i () hx hb hr hlocks hP hS (congrArg nI (by rw [hoV, if_pos c_w])) dX8_house_57
  by_cases c_6_1 : (nI w) = nI 1
  · skip
    refine lv_tableIn (off := 52) (tgt := 58) hx hb dX8_house_6 (by rw [c_6_1]; decide +kernel) (by rw [c_6_1]; decide +kernel) (by rw [c_6_1]; decide +kernel) (by decide) ?_
    have c_w : w = 1 := cn_eq (by omega) (by omega) c_6_1
    refine lv_aload_n hx hb dX8_house_58 rfl (lv_at hl 0 rfl) ?_
    refine gf_n (C := RX8) (T := TX8) (N := 11) (ci := 8) (q0 := 0) (v := .ref (a 0)) hx hb hts (iU inlX8) hown hK hP rfl rfl 1 (by decide) (kU u_21) rfl rfl dX8_house_59 ?_
    refine gf_n (C := RX1) (T := TX1) (N := 14) (ci := 1) (q0 := 1) (v := .ref (a 2)) hx hb hts (iU inlX1) hown hK hP rfl rfl 7 (by decide) (kU u_374) rfl rfl dX8_house_62 ?_
    refine lv_iload_n hx hb dX8_house_65 rfl (lv_at hl 1 rfl) ?_
    refine ia_n (q0 := 3) (t0 := 0) hx hb hK hP rfl rfl (by have := hT.1.1; omega) (by decide) dX8_house_66 ?_
    exact ct_i () hx hb hr hlocks hP hS (congrArg nI (by rw [hoV, if_neg (show ¬ w = 0 by omega), if_pos c_w])) dX8_house_67
  by_cases c_6_2 : (nI w) = nI 2
  · skip
    refine lv_tableIn (off := 62) (tgt := 68) hx hb dX8_house_6 (by rw [c_6_2]; decide +kernel) (by rw [c_6_2]; decide +kernel) (by rw [c_6_2]; decide +kernel) (by decide) ?_
    have c_w : w = 2 := cn_eq (by omega) (by omega) c_6_2
    refine lv_aload_n hx hb dX8_house_68 rfl (lv_at hl 0 rfl) ?_
    refine gf_n (C := RX8) (T := TX8) (N := 11) (ci := 8) (q0 := 0) (v := .ref (a 0)) hx hb hts (iU inlX8) hown hK hP rfl rfl 1 (by decide) (kU u_21) rfl rfl dX8_house_69 ?_
    refine gf_n (C := RX1) (T := TX1) (N := 14) (ci := 1) (q0 := 1) (v := .ref (a 3)) hx hb hts (iU inlX1) hown hK hP rfl rfl 8 (by decide) (kU u_375) rfl rfl dX8_house_72 ?_
    refine lv_iload_n hx hb dX8_house_75 rfl (lv_at hl 1 rfl) ?_
    refine ia_n (q0 := 4) (t0 := 0) hx hb hK hP rfl rfl (by have := hT.1.1; omega) (by decide) dX8_house_76 ?_
    exact ct_i () hx hb hr hlocks hP hS (congrArg nI (by rw [hoV, if_neg (show ¬ w = 0 by omega), if_neg (show ¬ w = 1 by omega), if_pos c_w])) dX8_house_77
  by_cases c_6_3 : (nI w) = nI 3
  · skip
    refine lv_tableIn (off := 72) (tgt := 78) hx hb dX8_house_6 (by rw [c_6_3]; decide +kernel) (by rw [c_6_3]; decide +kernel) (by rw [c_6_3]; decide +kernel) (by decide) ?_
    have c_w : w = 3 := cn_eq (by omega) (by omega) c_6_3
    refine lv_aload_n hx hb dX8_house_78 rfl (lv_at hl 0 rfl) ?_
    refine gf_n (C := RX8) (T := TX8) (N := 11) (ci := 8) (q0 := 0) (v := .ref (a 0)) hx hb hts (iU inlX8) hown hK hP rfl rfl 1 (by decide) (kU u_21) rfl rfl dX8_house_79 ?_
    refine gf_n (C := RX1) (T := TX1) (N := 14) (ci := 1) (q0 := 1) (v := .ref (a 4)) hx hb hts (iU inlX1) hown hK hP rfl rfl 9 (by decide) (kU u_376) rfl rfl dX8_house_82 ?_
    refine lv_iload_n hx hb dX8_house_85 rfl (lv_at hl 1 rfl) ?_
    refine ia_n (q0 := 5) (t0 := 0) hx hb hK hP rfl rfl (by have := hT.1.1; omega) (by decide) dX8_house_86 ?_
    exact ct_i () hx hb hr hlocks hP hS (congrArg nI (by rw [hoV, if_neg (show ¬ w = 0 by omega), if_neg (show ¬ w = 1 by omega), if_neg (show ¬ w = 2 by omega), if_pos c_w])) dX8_house_87
  by_cases c_6_4 : (nI w) = nI 4
  · skip
    refine lv_tableIn (off := 82) (tgt := 88) hx hb dX8_house_6 (by rw [c_6_4]; decide +kernel) (by rw [c_6_4]; decide +kernel) (by rw [c_6_4]; decide +kernel) (by decide) ?_
    have c_w : w = 4 := cn_eq (by omega) (by omega) c_6_4
    refine lv_aload_n hx hb dX8_house_88 rfl (lv_at hl 0 rfl) ?_
    refine gf_n (C := RX8) (T := TX8) (N := 11) (ci := 8) (q0 := 0) (v := .ref (a 0)) hx hb hts (iU inlX8) hown hK hP rfl rfl 1 (by decide) (kU u_21) rfl rfl dX8_house_89 ?_
    refine lv_iload_n hx hb dX8_house_92 rfl (lv_at hl 1 rfl) ?_
    refine gp_V (ci := 1) (q0 := 0) (cq := (RX1, TX1, 14)) (c_X1_kilosOfHouse l D cI cZ cF cL a (T 0 0) (T 0 1) (T 0 2) (T 0 3) (T 0 4) (T 0 5) (T 1) (T 2) (T 3) (T 4) (T 5) (T 6) (T 7) (T 8) h hT.1.2 (by have := hT.1.1; omega)) (gUV u_387 u_327 u_328 u_20 u_329) rfl hdV_X1_kilosOfHouse ⟨Nat.le_of_ble_eq_true rfl, Nat.le_of_ble_eq_true rfl⟩ ⟨rfl, rfl⟩ hx hb hml hown hts hK hA hP hD hS hl.1 ⟨Nat.le_of_ble_eq_true rfl, Nat.le_of_ble_eq_true rfl⟩ rfl rfl rfl (wr := (xX rx tt a tr r3 rs rz b b0 s0 r5 r6)) (pm_cnt (fun _ => by simp only [List.countP_append, List.countP_nil, fT] <;> omega)) (fun _ => by simp only [List.map_append, List.map_nil, fX_m, bX_m, sX_m, pX_m, iaX_m, r5X_m, r6X_m, fT_m, hX_m, tX_m, xX_m, sgX_m, zaX_m, fsB_a]) (rest := []) rfl rfl (Nat.le_of_ble_eq_true rfl) dX8_house_93 (ws2 := (fun _ : Unit => (xX rx tt a tr r3 rs rz b b0 s0 r5 r6 ++ fX cI a (T 0 0) (T 0 1) (T 0 2) (T 0 3) (T 0 4) (T 0 5) (T 1) (T 2) (T 3) (T 4) (T 5) (T 6) (T 7) (T 8)))) (fun _ => (pm_cnt (fun _ => by simp only [List.countP_append, List.countP_nil, fT] <;> omega))) (fun _ Hp locs hP hD hS => ?_)
    exact ct_i () hx hb hr hlocks hP hS (congrArg nI (by rw [hoV, if_neg (show ¬ w = 0 by omega), if_neg (show ¬ w = 1 by omega), if_neg (show ¬ w = 2 by omega), if_neg (show ¬ w = 3 by omega), if_pos c_w])) dX8_house_96
  by_cases c_6_5 : (nI w) = nI 5
  · skip
    refine lv_tableIn (off := 91) (tgt := 97) hx hb dX8_house_6 (by rw [c_6_5]; decide +kernel) (by rw [c_6_5]; decide +kernel) (by rw [c_6_5]; decide +kernel) (by decide) ?_
    have c_w : w = 5 := cn_eq (by omega) (by omega) c_6_5
    refine lv_aload_n hx hb dX8_house_97 rfl (lv_at hl 0 rfl) ?_
    refine gf_n (C := RX8) (T := TX8) (N := 11) (ci := 8) (q0 := 0) (v := .ref (a 0)) hx hb hts (iU inlX8) hown hK hP rfl rfl 1 (by decide) (kU u_21) rfl rfl dX8_house_98 ?_
    refine lv_iload_n hx hb dX8_house_101 rfl (lv_at hl 1 rfl) ?_
    refine gp_V (ci := 1) (q0 := 0) (cq := (RX1, TX1, 14)) (c_X1_happinessOf l D cI cZ cF cL a (T 0 0) (T 0 1) (T 0 2) (T 0 3) (T 0 4) (T 0 5) (T 1) (T 2) (T 3) (T 4) (T 5) (T 6) (T 7) (T 8) h hT.1.2 (by have := hT.1.1; omega)) (gUV u_388 u_389 u_390 u_20 u_391) rfl hdV_X1_happinessOf ⟨Nat.le_of_ble_eq_true rfl, Nat.le_of_ble_eq_true rfl⟩ ⟨rfl, rfl⟩ hx hb hml hown hts hK hA hP hD hS hl.1 ⟨Nat.le_of_ble_eq_true rfl, Nat.le_of_ble_eq_true rfl⟩ rfl rfl rfl (wr := (xX rx tt a tr r3 rs rz b b0 s0 r5 r6)) (pm_cnt (fun _ => by simp only [List.countP_append, List.countP_nil, fT] <;> omega)) (fun _ => by simp only [List.map_append, List.map_nil, fX_m, bX_m, sX_m, pX_m, iaX_m, r5X_m, r6X_m, fT_m, hX_m, tX_m, xX_m, sgX_m, zaX_m, fsB_a]) (rest := []) rfl rfl (Nat.le_of_ble_eq_true rfl) dX8_house_102 (ws2 := (fun _ : Unit => (xX rx tt a tr r3 rs rz b b0 s0 r5 r6 ++ fX cI a (T 0 0) (T 0 1) (T 0 2) (T 0 3) (T 0 4) (T 0 5) (T 1) (T 2) (T 3) (T 4) (T 5) (T 6) (T 7) (T 8)))) (fun _ => (pm_cnt (fun _ => by simp only [List.countP_append, List.countP_nil, fT] <;> omega))) (fun _ Hp locs hP hD hS => ?_)
    exact ct_i () hx hb hr hlocks hP hS (congrArg nI (by rw [hoV, if_neg (show ¬ w = 0 by omega), if_neg (show ¬ w = 1 by omega), if_neg (show ¬ w = 2 by omega), if_neg (show ¬ w = 3 by omega), if_neg (show ¬ w = 4 by omega), if_pos c_w])) dX8_house_105
  by_cases c_6_6 : (nI w) = nI 6
  · skip
    refine lv_tableIn (off := 100) (tgt := 106) hx hb dX8_house_6 (by rw [c_6_6]; decide +kernel) (by rw [c_6_6]; decide +kernel) (by rw [c_6_6]; decide +kernel) (by decide) ?_
    have c_w : w = 6 := cn_eq (by omega) (by omega) c_6_6
    refine lv_aload_n hx hb dX8_house_106 rfl (lv_at hl 0 rfl) ?_
    refine gf_n (C := RX8) (T := TX8) (N := 11) (ci := 8) (q0 := 0) (v := .ref (a 0)) hx hb hts (iU inlX8) hown hK hP rfl rfl 1 (by decide) (kU u_21) rfl rfl dX8_house_107 ?_
    refine lv_iload_n hx hb dX8_house_110 rfl (lv_at hl 1 rfl) ?_
    refine gp_V (ci := 1) (q0 := 0) (cq := (RX1, TX1, 14)) (c_X1_getsBoxNext l D cI cZ cF cL a (T 0 0) (T 0 1) (T 0 2) (T 0 3) (T 0 4) (T 0 5) (T 1) (T 2) (T 3) (T 4) (T 5) (T 6) (T 7) (T 8) h (by have := hT.1.1; omega) (by have := (hT.2.1 h (by have := hT.1.1; omega)).2.1; omega) (by have := (hT.2.1 h (by have := hT.1.1; omega)).2.2.2.1; omega)) (gUV u_392 u_343 u_344 u_20 u_345) rfl hdV_X1_getsBoxNext ⟨Nat.le_of_ble_eq_true rfl, Nat.le_of_ble_eq_true rfl⟩ ⟨rfl, rfl⟩ hx hb hml hown hts hK hA hP hD hS hl.1 ⟨Nat.le_of_ble_eq_true rfl, Nat.le_of_ble_eq_true rfl⟩ rfl rfl rfl (wr := (xX rx tt a tr r3 rs rz b b0 s0 r5 r6)) (pm_cnt (fun _ => by simp only [List.countP_append, List.countP_nil, fT] <;> omega)) (fun _ => by simp only [List.map_append, List.map_nil, fX_m, bX_m, sX_m, pX_m, iaX_m, r5X_m, r6X_m, fT_m, hX_m, tX_m, xX_m, sgX_m, zaX_m, fsB_a]) (rest := []) rfl rfl (Nat.le_of_ble_eq_true rfl) dX8_house_111 (ws2 := (fun _ : Unit => (xX rx tt a tr r3 rs rz b b0 s0 r5 r6 ++ fX cI a (T 0 0) (T 0 1) (T 0 2) (T 0 3) (T 0 4) (T 0 5) (T 1) (T 2) (T 3) (T 4) (T 5) (T 6) (T 7) (T 8)))) (fun _ => (pm_cnt (fun _ => by simp only [List.countP_append, List.countP_nil, fT] <;> omega))) (fun _ Hp locs hP hD hS => ?_)
    refine lv_if_eq (tgt := 121) hx hb dX8_house_114 (by decide) (fun c_114 => ?_) (fun c_114 => ?_)
    · skip
      replace c_114 := cb_z c_114
      refine lv_iconst (v := (nI 0)) hx hb dX8_house_121 (by decide) ?_
      exact ct_i () hx hb hr hlocks hP hS (by first | exact congrArg nI (by rw [hoV, if_neg (show ¬ w = 0 by omega), if_neg (show ¬ w = 1 by omega), if_neg (show ¬ w = 2 by omega), if_neg (show ¬ w = 3 by omega), if_neg (show ¬ w = 4 by omega), if_neg (show ¬ w = 5 by omega), if_pos c_114]) | exact congrArg nI (by rw [hoV, if_neg (show ¬ w = 0 by omega), if_neg (show ¬ w = 1 by omega), if_neg (show ¬ w = 2 by omega), if_neg (show ¬ w = 3 by omega), if_neg (show ¬ w = 4 by omega), if_neg (show ¬ w = 5 by omega), if_neg c_114])) dX8_house_122
    · skip
      replace c_114 := cb_nz c_114
      refine lv_iconst (v := (nI 1)) hx hb dX8_house_117 (by decide) ?_
      refine lv_goto (tgt := 122) hx hb dX8_house_118 (by decide) ?_
      exact ct_i () hx hb hr hlocks hP hS (by first | exact congrArg nI (by rw [hoV, if_neg (show ¬ w = 0 by omega), if_neg (show ¬ w = 1 by omega), if_neg (show ¬ w = 2 by omega), if_neg (show ¬ w = 3 by omega), if_neg (show ¬ w = 4 by omega), if_neg (show ¬ w = 5 by omega), if_pos c_114]) | exact congrArg nI (by rw [hoV, if_neg (show ¬ w = 0 by omega), if_neg (show ¬ w = 1 by omega), if_neg (show ¬ w = 2 by omega), if_neg (show ¬ w = 3 by omega), if_neg (show ¬ w = 4 by omega), if_neg (show ¬ w = 5 by omega), if_neg c_114])) dX8_house_122
  exfalso; have n0 := cn_ne c_6_0; have n1 := cn_ne c_6_1; have n2 := cn_ne c_6_2; have n3 := cn_ne c_6_3; have n4 := cn_ne c_6_4; have n5 := cn_ne c_6_5; have n6 := cn_ne c_6_6; omega
set_option maxRecDepth 20000 in
theorem u_37 : Cond.fieldLink RX8 51 "HarvestBoxes" "best" "LHarvestBoxes$Best;" ∈ wsL_law := List.mem_of_getElem? (i := 32) (by decide +kernel)
set_option maxRecDepth 20000 in
theorem u_431 : Cond.methodLink RX8 241 yX0_startAnew ∈ wsL_law := List.mem_of_getElem? (i := 258) (by decide +kernel)
set_option maxRecDepth 20000 in
theorem u_442 : Cond.methodLink RX8 250 yX0_number ∈ wsL_law := List.mem_of_getElem? (i := 275) (by decide +kernel)
set_option maxRecDepth 20000 in
theorem u_430 : Cond.fieldLink RX8 201 "HarvestBoxes$Farm" "likings" "[I" ∈ wsL_law := List.mem_of_getElem? (i := 364) (by decide +kernel)
set_option maxRecDepth 20000 in
theorem u_436 : Cond.methodLink RX8 197 yX8_cell ∈ wsL_law := List.mem_of_getElem? (i := 365) (by decide +kernel)
set_option maxRecDepth 20000 in
theorem u_437 : Cond.methodLink RX8 247 yX0_offer ∈ wsL_law := List.mem_of_getElem? (i := 274) (by decide +kernel)
set_option maxHeartbeats 4000000 in
set_option maxRecDepth 100000 in
theorem c_X8_fondestOf (l : Launch) (D : va_G) (cI cZ cF cL : ClassId) (rx : Nat) (tt a tr : Nat → Nat) (r3 rs rz : Nat) (b : Nat → Nat) (b0 s0 r5 r6 : Nat) (T : Nat → Nat → Nat) (kn kw : Int32) (v : Nat) (hT : FI T) (hv : v < T 0 1) : CT l D (tysX cI cZ cF cL) yX8_fondestOf (wA yX8_fondestOf cX8_fondestOf 3 (some .int)) (rmF 1 22) [.ref rx, .int (nI v)] (xX rx tt a tr r3 rs rz b b0 s0 r5 r6 ++ fX cI a (T 0 0) (T 0 1) (T 0 2) (T 0 3) (T 0 4) (T 0 5) (T 1) (T 2) (T 3) (T 4) (T 5) (T 6) (T 7) (T 8) ++ bX b0 kn kw) (some (.int ((fonF T v kw (T 0 0)).1))) (fun _ : Unit => (xX rx tt a tr r3 rs rz b b0 s0 r5 r6 ++ fX cI a (T 0 0) (T 0 1) (T 0 2) (T 0 3) (T 0 4) (T 0 5) (T 1) (T 2) (T 3) (T 4) (T 5) (T 6) (T 7) (T 8) ++ bX b0 ((fonF T v kw (T 0 0)).1) ((fonF T v kw (T 0 0)).2))) := by
  refine ct_in (cc := cX8_fondestOf) (maxL := 3) (ret := (some .int)) (own := RX8) (lv := [(0, .ref rx), (1, .int (nI v))]) (by decide +kernel) rfl rfl (Nat.le_of_ble_eq_true rfl) rfl ?_
  intro p e s m args below meth c A ls hx hb hr hml hts hown hlocks hK hA hP hD hS hl
  refine lv_aload_n hx hb dX8_fondestOf_0 rfl (lv_at hl 0 rfl) ?_
  refine gf_n (C := RX8) (T := TX8) (N := 11) (ci := 8) (q0 := 0) (v := .ref b0) hx hb hts (iU inlX8) hown hK hP rfl rfl 7 (by decide) (kU u_37) rfl rfl dX8_fondestOf_1 ?_
  refine gp_V (ci := 0) (q0 := 0) (cq := (RX0, TX0, 2)) (c_X0_startAnew l D cI cZ cF cL b0 kn kw ) (gUV u_431 u_432 u_433 u_36 u_434) rfl hdV_X0_startAnew ⟨Nat.le_of_ble_eq_true rfl, Nat.le_of_ble_eq_true rfl⟩ ⟨rfl, rfl⟩ hx hb hml hown hts hK hA hP hD hS hl.1 ⟨Nat.le_of_ble_eq_true rfl, Nat.le_of_ble_eq_true rfl⟩ rfl rfl rfl (wr := (xX rx tt a tr r3 rs rz b b0 s0 r5 r6 ++ fX cI a (T 0 0) (T 0 1) (T 0 2) (T 0 3) (T 0 4) (T 0 5) (T 1) (T 2) (T 3) (T 4) (T 5) (T 6) (T 7) (T 8))) (pm_cnt (fun _ => by simp only [List.countP_append, List.countP_nil, fT] <;> omega)) (fun _ => by simp only [List.map_append, List.map_nil, fX_m, bX_m, sX_m, pX_m, iaX_m, r5X_m, r6X_m, fT_m, hX_m, tX_m, xX_m, sgX_m, zaX_m, fsB_a]) (rest := []) rfl rfl (Nat.le_of_ble_eq_true rfl) dX8_fondestOf_4 (ws2 := (fun _ : Unit => (xX rx tt a tr r3 rs rz b b0 s0 r5 r6 ++ fX cI a (T 0 0) (T 0 1) (T 0 2) (T 0 3) (T 0 4) (T 0 5) (T 1) (T 2) (T 3) (T 4) (T 5) (T 6) (T 7) (T 8) ++ bX b0 ((-9)) kw))) (fun _ => (pm_cnt (fun _ => by simp only [List.countP_append, List.countP_nil, fT] <;> omega))) (fun _ Hp locs hP hD hS => ?_)
  refine lv_iconst (v := (nI 0)) hx hb dX8_fondestOf_7 (by decide) ?_
  refine lv_istore_n (lv' := [(2, .int (nI 0)), (0, .ref rx), (1, .int (nI v))]) hx hb dX8_fondestOf_8 rfl hl (by decide) rfl (fun ls hl => ?_)
  have loop_9 : ∀ (dd : Nat) (i : Nat) (m1 : Int32) (m2 : Int32), (i ≤ T 0 0) → (m1 = (fonF T v kw i).1) → (m2 = (fonF T v kw i).2) → (T 0 0 - i) < dd → ∀ (Hp : Heap) (locs : List Loc), va_P D vwCl (xX rx tt a tr r3 rs rz b b0 s0 r5 r6 ++ fX cI a (T 0 0) (T 0 1) (T 0 2) (T 0 3) (T 0 4) (T 0 5) (T 1) (T 2) (T 3) (T 4) (T 5) (T 6) (T 7) (T 8) ++ bX b0 m1 m2) Hp → va_D A (xX rx tt a tr r3 rs rz b b0 s0 r5 r6 ++ fX cI a (T 0 0) (T 0 1) (T 0 2) (T 0 3) (T 0 4) (T 0 5) (T 1) (T 2) (T 3) (T 4) (T 5) (T 6) (T 7) (T 8) ++ bX b0 m1 m2) → va_S A s.heap Hp locs → ∀ ls : Array Slot, lv_has ls 3 [(2, .int (nI i)), (0, .ref rx), (1, .int (nI v))] → W p l e (rmF 1 22) s m args below meth c Hp locs 0 0 (MQ below (CQ D (some (.int ((fonF T v kw (T 0 0)).1))) (fun _ : Unit => (xX rx tt a tr r3 rs rz b b0 s0 r5 r6 ++ fX cI a (T 0 0) (T 0 1) (T 0 2) (T 0 3) (T 0 4) (T 0 5) (T 1) (T 2) (T 3) (T 4) (T 5) (T 6) (T 7) (T 8) ++ bX b0 ((fonF T v kw (T 0 0)).1) ((fonF T v kw (T 0 0)).2))) A) args s 0 0 A) (F0 m 9 ls []) := by
    intro dd
    induction dd with
    | zero => intro i m1 m2 hi e1 e2 hm; exact absurd hm (Nat.not_lt_zero _)
    | succ dd ih_9 =>
      intro i m1 m2 hi e1 e2 hm Hp locs hP hD hS ls hl
      refine lv_iload_n hx hb dX8_fondestOf_9 rfl (lv_at hl 0 rfl) ?_
      refine lv_aload_n hx hb dX8_fondestOf_10 rfl (lv_at hl 1 rfl) ?_
      refine gf_n (C := RX8) (T := TX8) (N := 11) (ci := 8) (q0 := 0) (v := .ref (a 0)) hx hb hts (iU inlX8) hown hK hP rfl rfl 1 (by decide) (kU u_21) rfl rfl dX8_fondestOf_11 ?_
      refine gf_n (C := RX1) (T := TX1) (N := 14) (ci := 1) (q0 := 1) (v := .int (nI (T 0 0))) hx hb hts (iU inlX1) hown hK hP rfl rfl 0 (by decide) (kU u_291) rfl rfl dX8_fondestOf_14 ?_
      refine lv_icmp_ge (tgt := 47) hx hb dX8_fondestOf_17 (by decide) (fun c_17 => ?_) (fun c_17 => ?_)
      · skip
        replace c_17 := cn_le (by have := hT.1.1; omega) (by have := hT.1.1; omega) c_17
        refine lv_aload_n hx hb dX8_fondestOf_47 rfl (lv_at hl 1 rfl) ?_
        refine gf_n (C := RX8) (T := TX8) (N := 11) (ci := 8) (q0 := 0) (v := .ref b0) hx hb hts (iU inlX8) hown hK hP rfl rfl 7 (by decide) (kU u_37) rfl rfl dX8_fondestOf_48 ?_
        refine gp_V (ci := 0) (q0 := 0) (cq := (RX0, TX0, 2)) (c_X0_number l D cI cZ cF cL b0 m1 m2 ) (gUV u_442 u_443 u_444 u_36 u_445) rfl hdV_X0_number ⟨Nat.le_of_ble_eq_true rfl, Nat.le_of_ble_eq_true rfl⟩ ⟨rfl, rfl⟩ hx hb hml hown hts hK hA hP hD hS hl.1 ⟨Nat.le_of_ble_eq_true rfl, Nat.le_of_ble_eq_true rfl⟩ rfl rfl rfl (wr := (xX rx tt a tr r3 rs rz b b0 s0 r5 r6 ++ fX cI a (T 0 0) (T 0 1) (T 0 2) (T 0 3) (T 0 4) (T 0 5) (T 1) (T 2) (T 3) (T 4) (T 5) (T 6) (T 7) (T 8))) (pm_cnt (fun _ => by simp only [List.countP_append, List.countP_nil, fT] <;> omega)) (fun _ => by simp only [List.map_append, List.map_nil, fX_m, bX_m, sX_m, pX_m, iaX_m, r5X_m, r6X_m, fT_m, hX_m, tX_m, xX_m, sgX_m, zaX_m, fsB_a]) (rest := []) rfl rfl (Nat.le_of_ble_eq_true rfl) dX8_fondestOf_51 (ws2 := (fun _ : Unit => (xX rx tt a tr r3 rs rz b b0 s0 r5 r6 ++ fX cI a (T 0 0) (T 0 1) (T 0 2) (T 0 3) (T 0 4) (T 0 5) (T 1) (T 2) (T 3) (T 4) (T 5) (T 6) (T 7) (T 8) ++ bX b0 m1 m2))) (fun _ => (pm_cnt (fun _ => by simp only [List.countP_append, List.countP_nil, fT] <;> omega))) (fun _ Hp locs hP hD hS => ?_)
        exact ct_i () hx hb hr hlocks (by rw [e1, e2, show i = T 0 0 by omega] at hP; exact hP) hS (by rw [e1, show i = T 0 0 by omega]) dX8_fondestOf_54
      · skip
        replace c_17 := cn_nle (by have := hT.1.1; omega) (by have := hT.1.1; omega) c_17
        refine lv_aload_n hx hb dX8_fondestOf_20 rfl (lv_at hl 1 rfl) ?_
        refine gf_n (C := RX8) (T := TX8) (N := 11) (ci := 8) (q0 := 0) (v := .ref b0) hx hb hts (iU inlX8) hown hK hP rfl rfl 7 (by decide) (kU u_37) rfl rfl dX8_fondestOf_21 ?_
        refine lv_iload_n hx hb dX8_fondestOf_24 rfl (lv_at hl 0 rfl) ?_
        refine lv_aload_n hx hb dX8_fondestOf_25 rfl (lv_at hl 1 rfl) ?_
        refine gf_n (C := RX8) (T := TX8) (N := 11) (ci := 8) (q0 := 0) (v := .ref (a 0)) hx hb hts (iU inlX8) hown hK hP rfl rfl 1 (by decide) (kU u_21) rfl rfl dX8_fondestOf_26 ?_
        refine gf_n (C := RX1) (T := TX1) (N := 14) (ci := 1) (q0 := 1) (v := .ref (a 7)) hx hb hts (iU inlX1) hown hK hP rfl rfl 12 (by decide) (kU u_430) rfl rfl dX8_fondestOf_29 ?_
        refine lv_iload_n hx hb dX8_fondestOf_32 rfl (lv_at hl 0 rfl) ?_
        refine lv_iload_n hx hb dX8_fondestOf_33 rfl (lv_at hl 2 rfl) ?_
        refine gp_S (c_X8_cell l D cI cZ cF cL i v ) (gUS u_436 u_244 u_2 u_245) rfl hdS_X8_cell ⟨Nat.le_of_ble_eq_true rfl, Nat.le_of_ble_eq_true rfl⟩ ⟨rfl, rfl⟩ hx hb hml hown hts hK hA hP hD hS hl.1 ⟨Nat.le_of_ble_eq_true rfl, Nat.le_of_ble_eq_true rfl⟩ (wr := (xX rx tt a tr r3 rs rz b b0 s0 r5 r6 ++ fX cI a (T 0 0) (T 0 1) (T 0 2) (T 0 3) (T 0 4) (T 0 5) (T 1) (T 2) (T 3) (T 4) (T 5) (T 6) (T 7) (T 8) ++ bX b0 m1 m2)) (pm_cnt (fun _ => by simp only [List.countP_append, List.countP_nil, fT] <;> omega)) (fun _ => by simp only [List.map_append, List.map_nil, fX_m, bX_m, sX_m, pX_m, iaX_m, r5X_m, r6X_m, fT_m, hX_m, tX_m, xX_m, sgX_m, zaX_m, fsB_a]) (rest := [.ref (a 7), .int (nI i), .ref b0]) rfl rfl (Nat.le_of_ble_eq_true rfl) dX8_fondestOf_34 (ws2 := (fun _ : Unit => (xX rx tt a tr r3 rs rz b b0 s0 r5 r6 ++ fX cI a (T 0 0) (T 0 1) (T 0 2) (T 0 3) (T 0 4) (T 0 5) (T 1) (T 2) (T 3) (T 4) (T 5) (T 6) (T 7) (T 8) ++ bX b0 m1 m2))) (fun _ => (pm_cnt (fun _ => by simp only [List.countP_append, List.countP_nil, fT] <;> omega))) (fun _ Hp locs hP hD hS => ?_)
        refine ia_n (q0 := 8) (t0 := 0) hx hb hK hP rfl rfl (by have := hT.1; omega) (by decide) dX8_fondestOf_37 ?_
        refine gp_V (ci := 0) (q0 := 0) (cq := (RX0, TX0, 2)) (c_X0_offer l D cI cZ cF cL b0 m1 m2 i ((nI ((T 7) (i * 5 + v)))) ) (gUV u_437 u_438 u_439 u_36 u_440) rfl hdV_X0_offer ⟨Nat.le_of_ble_eq_true rfl, Nat.le_of_ble_eq_true rfl⟩ ⟨rfl, rfl⟩ hx hb hml hown hts hK hA hP hD hS hl.1 ⟨Nat.le_of_ble_eq_true rfl, Nat.le_of_ble_eq_true rfl⟩ rfl rfl rfl (wr := (xX rx tt a tr r3 rs rz b b0 s0 r5 r6 ++ fX cI a (T 0 0) (T 0 1) (T 0 2) (T 0 3) (T 0 4) (T 0 5) (T 1) (T 2) (T 3) (T 4) (T 5) (T 6) (T 7) (T 8))) (pm_cnt (fun _ => by simp only [List.countP_append, List.countP_nil, fT] <;> omega)) (fun _ => by simp only [List.map_append, List.map_nil, fX_m, bX_m, sX_m, pX_m, iaX_m, r5X_m, r6X_m, fT_m, hX_m, tX_m, xX_m, sgX_m, zaX_m, fsB_a]) (rest := []) rfl rfl (Nat.le_of_ble_eq_true rfl) dX8_fondestOf_38 (ws2 := (fun _ : Unit => (xX rx tt a tr r3 rs rz b b0 s0 r5 r6 ++ fX cI a (T 0 0) (T 0 1) (T 0 2) (T 0 3) (T 0 4) (T 0 5) (T 1) (T 2) (T 3) (T 4) (T 5) (T 6) (T 7) (T 8) ++ bX b0 (if (m1 = (-9) ∨ m2 < ((nI ((T 7) (i * 5 + v))))) then nI i else m1) (if (m1 = (-9) ∨ m2 < ((nI ((T 7) (i * 5 + v))))) then ((nI ((T 7) (i * 5 + v)))) else m2)))) (fun _ => (pm_cnt (fun _ => by simp only [List.countP_append, List.countP_nil, fT] <;> omega))) (fun _ Hp locs hP hD hS => ?_)
        refine lv_iinc (v := (nI (i + 1))) (lv' := [(2, .int (nI (i + 1))), (0, .ref rx), (1, .int (nI v))]) hx hb dX8_fondestOf_41 hl (k := 0) rfl (nI_add i 1) (by decide) rfl (fun ls hl => ?_)
        refine lv_goto (tgt := 9) hx hb dX8_fondestOf_44 (by decide) ?_
        exact ih_9 (i + 1) ((if (m1 = (-9) ∨ m2 < ((nI ((T 7) (i * 5 + v))))) then nI i else m1)) ((if (m1 = (-9) ∨ m2 < ((nI ((T 7) (i * 5 + v))))) then ((nI ((T 7) (i * 5 + v)))) else m2)) (by omega) (by rw [e1, e2]; rfl) (by rw [e1, e2]; rfl) (by omega) _ _ hP hD hS _ (lv_sub hl [0, 1, 2] rfl)
  exact loop_9 ((T 0 0 - 0) + 1) 0 (((-9))) kw (Nat.zero_le _) rfl rfl (Nat.lt_succ_self _) _ _ hP hD hS _ (lv_sub hl [0, 1, 2] rfl)
set_option maxRecDepth 20000 in
theorem u_417 : Cond.code yX8_needVegetable cX8_needVegetable 2 none ∈ wsL_law := List.mem_of_getElem? (i := 349) (by decide +kernel)
set_option maxRecDepth 20000 in
theorem u_414 : Cond.methodLink RX8 177 yX8_needVegetable ∈ wsL_law := List.mem_of_getElem? (i := 346) (by decide +kernel)
set_option maxRecDepth 20000 in
theorem u_415 : Cond.instanceMethod yX8_needVegetable ∈ wsL_law := List.mem_of_getElem? (i := 347) (by decide +kernel)
set_option maxRecDepth 20000 in
theorem u_416 : Cond.selects RX8 yX8_needVegetable yX8_needVegetable ∈ wsL_law := List.mem_of_getElem? (i := 348) (by decide +kernel)
set_option maxRecDepth 20000 in
theorem u_412 : Cond.fieldLink RX8 180 "HarvestBoxes$Farm" "harvest" "[I" ∈ wsL_law := List.mem_of_getElem? (i := 281) (by decide +kernel)
set_option maxRecDepth 20000 in
theorem u_425 : Cond.code yX1_kilosOfVegetable cX1_kilosOfVegetable 4 (some .int) ∈ wsL_law := List.mem_of_getElem? (i := 359) (by decide +kernel)
set_option maxRecDepth 20000 in
theorem u_422 : Cond.methodLink RX8 183 yX1_kilosOfVegetable ∈ wsL_law := List.mem_of_getElem? (i := 356) (by decide +kernel)
set_option maxRecDepth 20000 in
theorem u_423 : Cond.instanceMethod yX1_kilosOfVegetable ∈ wsL_law := List.mem_of_getElem? (i := 357) (by decide +kernel)
set_option maxRecDepth 20000 in
theorem u_424 : Cond.selects RX1 yX1_kilosOfVegetable yX1_kilosOfVegetable ∈ wsL_law := List.mem_of_getElem? (i := 358) (by decide +kernel)
set_option maxRecDepth 20000 in
theorem u_413 : Cond.fieldLink RX8 186 "HarvestBoxes$Farm" "composted" "[I" ∈ wsL_law := List.mem_of_getElem? (i := 345) (by decide +kernel)
set_option maxRecDepth 20000 in
theorem u_429 : Cond.code yX8_fondestOf cX8_fondestOf 3 (some .int) ∈ wsL_law := List.mem_of_getElem? (i := 363) (by decide +kernel)
set_option maxRecDepth 20000 in
theorem u_426 : Cond.methodLink RX8 189 yX8_fondestOf ∈ wsL_law := List.mem_of_getElem? (i := 360) (by decide +kernel)
set_option maxRecDepth 20000 in
theorem u_427 : Cond.instanceMethod yX8_fondestOf ∈ wsL_law := List.mem_of_getElem? (i := 361) (by decide +kernel)
set_option maxRecDepth 20000 in
theorem u_428 : Cond.selects RX8 yX8_fondestOf yX8_fondestOf ∈ wsL_law := List.mem_of_getElem? (i := 362) (by decide +kernel)
theorem hdV_X8_needVegetable : yX8_needVegetable.cls = RX8 ∧ yX8_needVegetable.cls ≠ "java/lang/invoke/MethodHandle" ∧ yX8_needVegetable.cls ≠ "java/lang/invoke/VarHandle" ∧ (parseMethodDescriptor yX8_needVegetable.desc).map (fun d => d.parameters.length) = some 1 := by decide +kernel
theorem hdV_X1_kilosOfVegetable : yX1_kilosOfVegetable.cls = RX1 ∧ yX1_kilosOfVegetable.cls ≠ "java/lang/invoke/MethodHandle" ∧ yX1_kilosOfVegetable.cls ≠ "java/lang/invoke/VarHandle" ∧ (parseMethodDescriptor yX1_kilosOfVegetable.desc).map (fun d => d.parameters.length) = some 1 := by decide +kernel
theorem hdV_X8_fondestOf : yX8_fondestOf.cls = RX8 ∧ yX8_fondestOf.cls ≠ "java/lang/invoke/MethodHandle" ∧ yX8_fondestOf.cls ≠ "java/lang/invoke/VarHandle" ∧ (parseMethodDescriptor yX8_fondestOf.desc).map (fun d => d.parameters.length) = some 1 := by decide +kernel
set_option maxHeartbeats 4000000 in
set_option maxRecDepth 100000 in
theorem c_X8_vegetable (l : Launch) (D : va_G) (cI cZ cF cL : ClassId) (rx : Nat) (tt a tr : Nat → Nat) (r3 rs rz : Nat) (b : Nat → Nat) (b0 s0 r5 r6 : Nat) (T : Nat → Nat → Nat) (kn kw : Int32) (v w : Nat) (hT : FI T) (hv : v < T 0 1) (hw : w < 4) : CT l D (tysX cI cZ cF cL) yX8_vegetable (wA yX8_vegetable cX8_vegetable 3 (some .int)) (rmF 2 44) [.ref rx, .int (nI v), .int (nI w)] (xX rx tt a tr r3 rs rz b b0 s0 r5 r6 ++ fX cI a (T 0 0) (T 0 1) (T 0 2) (T 0 3) (T 0 4) (T 0 5) (T 1) (T 2) (T 3) (T 4) (T 5) (T 6) (T 7) (T 8) ++ bX b0 kn kw) (some (.int (veV T v kw w))) (fun _ : Unit => (xX rx tt a tr r3 rs rz b b0 s0 r5 r6 ++ fX cI a (T 0 0) (T 0 1) (T 0 2) (T 0 3) (T 0 4) (T 0 5) (T 1) (T 2) (T 3) (T 4) (T 5) (T 6) (T 7) (T 8) ++ bX b0 (if w = 3 then (fonF T v kw (T 0 0)).1 else kn) (if w = 3 then (fonF T v kw (T 0 0)).2 else kw))) := by
  refine ct_in (cc := cX8_vegetable) (maxL := 3) (ret := (some .int)) (own := RX8) (lv := [(0, .ref rx), (1, .int (nI v)), (2, .int (nI w))]) (by decide +kernel) rfl rfl (Nat.le_of_ble_eq_true rfl) rfl ?_
  intro p e s m args below meth c A ls hx hb hr hml hts hown hlocks hK hA hP hD hS hl
  refine lv_aload_n hx hb dX8_vegetable_0 rfl (lv_at hl 0 rfl) ?_
  refine lv_iload_n hx hb dX8_vegetable_1 rfl (lv_at hl 1 rfl) ?_
  refine gp_V (ci := 8) (q0 := 0) (cq := (RX8, TX8, 11)) (c_X8_needVegetable l D cI cZ cF cL rx tt a tr r3 rs rz b b0 s0 r5 r6 T v hT hv) (gUV u_414 u_415 u_416 u_2 u_417) rfl hdV_X8_needVegetable ⟨Nat.le_of_ble_eq_true rfl, Nat.le_of_ble_eq_true rfl⟩ ⟨rfl, rfl⟩ hx hb hml hown hts hK hA hP hD hS hl.1 ⟨Nat.le_of_ble_eq_true rfl, Nat.le_of_ble_eq_true rfl⟩ rfl rfl rfl (wr := (bX b0 kn kw)) (pm_cnt (fun _ => by simp only [List.countP_append, List.countP_nil, fT] <;> omega)) (fun _ => by simp only [List.map_append, List.map_nil, fX_m, bX_m, sX_m, pX_m, iaX_m, r5X_m, r6X_m, fT_m, hX_m, tX_m, xX_m, sgX_m, zaX_m, fsB_a]) (rest := []) rfl rfl (Nat.le_of_ble_eq_true rfl) dX8_vegetable_2 (ws2 := (fun _ : Unit => (xX rx tt a tr r3 rs rz b b0 s0 r5 r6 ++ fX cI a (T 0 0) (T 0 1) (T 0 2) (T 0 3) (T 0 4) (T 0 5) (T 1) (T 2) (T 3) (T 4) (T 5) (T 6) (T 7) (T 8) ++ bX b0 kn kw))) (fun _ => (pm_cnt (fun _ => by simp only [List.countP_append, List.countP_nil, fT] <;> omega))) (fun _ Hp locs hP hD hS => ?_)
  refine lv_iload_n hx hb dX8_vegetable_5 rfl (lv_at hl 2 rfl) ?_
  by_cases c_6_0 : (nI w) = nI 0
  · skip
    refine lv_tableIn (off := 30) (tgt := 36) hx hb dX8_vegetable_6 (by rw [c_6_0]; decide +kernel) (by rw [c_6_0]; decide +kernel) (by rw [c_6_0]; decide +kernel) (by decide) ?_
    have c_w : w = 0 := cn_eq (by omega) (by omega) c_6_0
    refine lv_aload_n hx hb dX8_vegetable_36 rfl (lv_at hl 0 rfl) ?_
    refine gf_n (C := RX8) (T := TX8) (N := 11) (ci := 8) (q0 := 0) (v := .ref (a 0)) hx hb hts (iU inlX8) hown hK hP rfl rfl 1 (by decide) (kU u_21) rfl rfl dX8_vegetable_37 ?_
    refine gf_n (C := RX1) (T := TX1) (N := 14) (ci := 1) (q0 := 1) (v := .ref (a 5)) hx hb hts (iU inlX1) hown hK hP rfl rfl 10 (by decide) (kU u_412) rfl rfl dX8_vegetable_40 ?_
    refine lv_iload_n hx hb dX8_vegetable_43 rfl (lv_at hl 1 rfl) ?_
    refine ia_n (q0 := 6) (t0 := 0) hx hb hK hP rfl rfl (by have := hT.1.2; omega) (by decide) dX8_vegetable_44 ?_
    exact ct_i () hx hb hr hlocks (by rw [if_neg (show ¬ w = 3 by omega), if_neg (show ¬ w = 3 by omega)]; exact hP) hS (by rw [veV, if_pos c_w]) dX8_vegetable_45
  by_cases c_6_1 : (nI w) = nI 1
  · skip
    refine lv_tableIn (off := 40) (tgt := 46) hx hb dX8_vegetable_6 (by rw [c_6_1]; decide +kernel) (by rw [c_6_1]; decide +kernel) (by rw [c_6_1]; decide +kernel) (by decide) ?_
    have c_w : w = 1 := cn_eq (by omega) (by omega) c_6_1
    refine lv_aload_n hx hb dX8_vegetable_46 rfl (lv_at hl 0 rfl) ?_
    refine gf_n (C := RX8) (T := TX8) (N := 11) (ci := 8) (q0 := 0) (v := .ref (a 0)) hx hb hts (iU inlX8) hown hK hP rfl rfl 1 (by decide) (kU u_21) rfl rfl dX8_vegetable_47 ?_
    refine lv_iload_n hx hb dX8_vegetable_50 rfl (lv_at hl 1 rfl) ?_
    refine gp_V (ci := 1) (q0 := 0) (cq := (RX1, TX1, 14)) (c_X1_kilosOfVegetable l D cI cZ cF cL a (T 0 0) (T 0 1) (T 0 2) (T 0 3) (T 0 4) (T 0 5) (T 1) (T 2) (T 3) (T 4) (T 5) (T 6) (T 7) (T 8) v hT.1.1 (by have := hT.1.2; omega)) (gUV u_422 u_423 u_424 u_20 u_425) rfl hdV_X1_kilosOfVegetable ⟨Nat.le_of_ble_eq_true rfl, Nat.le_of_ble_eq_true rfl⟩ ⟨rfl, rfl⟩ hx hb hml hown hts hK hA hP hD hS hl.1 ⟨Nat.le_of_ble_eq_true rfl, Nat.le_of_ble_eq_true rfl⟩ rfl rfl rfl (wr := (xX rx tt a tr r3 rs rz b b0 s0 r5 r6 ++ bX b0 kn kw)) (pm_cnt (fun _ => by simp only [List.countP_append, List.countP_nil, fT] <;> omega)) (fun _ => by simp only [List.map_append, List.map_nil, fX_m, bX_m, sX_m, pX_m, iaX_m, r5X_m, r6X_m, fT_m, hX_m, tX_m, xX_m, sgX_m, zaX_m, fsB_a]) (rest := []) rfl rfl (Nat.le_of_ble_eq_true rfl) dX8_vegetable_51 (ws2 := (fun _ : Unit => (xX rx tt a tr r3 rs rz b b0 s0 r5 r6 ++ fX cI a (T 0 0) (T 0 1) (T 0 2) (T 0 3) (T 0 4) (T 0 5) (T 1) (T 2) (T 3) (T 4) (T 5) (T 6) (T 7) (T 8) ++ bX b0 kn kw))) (fun _ => (pm_cnt (fun _ => by simp only [List.countP_append, List.countP_nil, fT] <;> omega))) (fun _ Hp locs hP hD hS => ?_)
    exact ct_i () hx hb hr hlocks (by rw [if_neg (show ¬ w = 3 by omega), if_neg (show ¬ w = 3 by omega)]; exact hP) hS (by rw [veV, if_neg (show ¬ w = 0 by omega), if_pos c_w]) dX8_vegetable_54
  by_cases c_6_2 : (nI w) = nI 2
  · skip
    refine lv_tableIn (off := 49) (tgt := 55) hx hb dX8_vegetable_6 (by rw [c_6_2]; decide +kernel) (by rw [c_6_2]; decide +kernel) (by rw [c_6_2]; decide +kernel) (by decide) ?_
    have c_w : w = 2 := cn_eq (by omega) (by omega) c_6_2
    refine lv_aload_n hx hb dX8_vegetable_55 rfl (lv_at hl 0 rfl) ?_
    refine gf_n (C := RX8) (T := TX8) (N := 11) (ci := 8) (q0 := 0) (v := .ref (a 0)) hx hb hts (iU inlX8) hown hK hP rfl rfl 1 (by decide) (kU u_21) rfl rfl dX8_vegetable_56 ?_
    refine gf_n (C := RX1) (T := TX1) (N := 14) (ci := 1) (q0 := 1) (v := .ref (a 6)) hx hb hts (iU inlX1) hown hK hP rfl rfl 11 (by decide) (kU u_413) rfl rfl dX8_vegetable_59 ?_
    refine lv_iload_n hx hb dX8_vegetable_62 rfl (lv_at hl 1 rfl) ?_
    refine ia_n (q0 := 7) (t0 := 0) hx hb hK hP rfl rfl (by have := hT.1.2; omega) (by decide) dX8_vegetable_63 ?_
    exact ct_i () hx hb hr hlocks (by rw [if_neg (show ¬ w = 3 by omega), if_neg (show ¬ w = 3 by omega)]; exact hP) hS (by rw [veV, if_neg (show ¬ w = 0 by omega), if_neg (show ¬ w = 1 by omega), if_pos c_w]) dX8_vegetable_64
  by_cases c_6_3 : (nI w) = nI 3
  · skip
    refine lv_tableIn (off := 59) (tgt := 65) hx hb dX8_vegetable_6 (by rw [c_6_3]; decide +kernel) (by rw [c_6_3]; decide +kernel) (by rw [c_6_3]; decide +kernel) (by decide) ?_
    have c_w : w = 3 := cn_eq (by omega) (by omega) c_6_3
    refine lv_aload_n hx hb dX8_vegetable_65 rfl (lv_at hl 0 rfl) ?_
    refine lv_iload_n hx hb dX8_vegetable_66 rfl (lv_at hl 1 rfl) ?_
    refine gp_V (ci := 8) (q0 := 0) (cq := (RX8, TX8, 11)) (c_X8_fondestOf l D cI cZ cF cL rx tt a tr r3 rs rz b b0 s0 r5 r6 T kn kw v hT hv) (gUV u_426 u_427 u_428 u_2 u_429) rfl hdV_X8_fondestOf ⟨Nat.le_of_ble_eq_true rfl, Nat.le_of_ble_eq_true rfl⟩ ⟨rfl, rfl⟩ hx hb hml hown hts hK hA hP hD hS hl.1 ⟨Nat.le_of_ble_eq_true rfl, Nat.le_of_ble_eq_true rfl⟩ rfl rfl rfl (wr := ([] : va_W)) (pm_cnt (fun _ => by simp only [List.countP_append, List.countP_nil, fT] <;> omega)) (fun _ => by simp only [List.map_append, List.map_nil, fX_m, bX_m, sX_m, pX_m, iaX_m, r5X_m, r6X_m, fT_m, hX_m, tX_m, xX_m, sgX_m, zaX_m, fsB_a]) (rest := []) rfl rfl (Nat.le_of_ble_eq_true rfl) dX8_vegetable_67 (ws2 := (fun _ : Unit => (xX rx tt a tr r3 rs rz b b0 s0 r5 r6 ++ fX cI a (T 0 0) (T 0 1) (T 0 2) (T 0 3) (T 0 4) (T 0 5) (T 1) (T 2) (T 3) (T 4) (T 5) (T 6) (T 7) (T 8) ++ bX b0 ((fonF T v kw (T 0 0)).1) ((fonF T v kw (T 0 0)).2)))) (fun _ => (pm_cnt (fun _ => by simp only [List.countP_append, List.countP_nil, fT] <;> omega))) (fun _ Hp locs hP hD hS => ?_)
    exact ct_i () hx hb hr hlocks (by rw [if_pos c_w, if_pos c_w]; exact hP) hS (by rw [veV, if_neg (show ¬ w = 0 by omega), if_neg (show ¬ w = 1 by omega), if_neg (show ¬ w = 2 by omega)]) dX8_vegetable_70
  exfalso; have n0 := cn_ne c_6_0; have n1 := cn_ne c_6_1; have n2 := cn_ne c_6_2; have n3 := cn_ne c_6_3; omega
set_option maxRecDepth 20000 in
theorem u_465 : Cond.fieldLink RX8 194 "HarvestBoxes$Farm" "kilos" "[I" ∈ wsL_law := List.mem_of_getElem? (i := 407) (by decide +kernel)
set_option maxHeartbeats 4000000 in
set_option maxRecDepth 100000 in
theorem c_X8_box (l : Launch) (D : va_G) (cI cZ cF cL : ClassId) (rx : Nat) (tt a tr : Nat → Nat) (r3 rs rz : Nat) (b : Nat → Nat) (b0 s0 r5 r6 : Nat) (T : Nat → Nat → Nat) (h v : Nat) (hT : FI T) (hh : h < T 0 0) (hv : v < T 0 1) : CT l D (tysX cI cZ cF cL) yX8_box (wA yX8_box cX8_box 3 (some .int)) (rmF 2 42) [.ref rx, .int (nI h), .int (nI v)] (xX rx tt a tr r3 rs rz b b0 s0 r5 r6 ++ fX cI a (T 0 0) (T 0 1) (T 0 2) (T 0 3) (T 0 4) (T 0 5) (T 1) (T 2) (T 3) (T 4) (T 5) (T 6) (T 7) (T 8)) (some (.int (nI (T 8 (h * 5 + v))))) (fun _ : Unit => (xX rx tt a tr r3 rs rz b b0 s0 r5 r6 ++ fX cI a (T 0 0) (T 0 1) (T 0 2) (T 0 3) (T 0 4) (T 0 5) (T 1) (T 2) (T 3) (T 4) (T 5) (T 6) (T 7) (T 8))) := by
  refine ct_in (cc := cX8_box) (maxL := 3) (ret := (some .int)) (own := RX8) (lv := [(0, .ref rx), (1, .int (nI h)), (2, .int (nI v))]) (by decide +kernel) rfl rfl (Nat.le_of_ble_eq_true rfl) rfl ?_
  intro p e s m args below meth c A ls hx hb hr hml hts hown hlocks hK hA hP hD hS hl
  refine lv_aload_n hx hb dX8_box_0 rfl (lv_at hl 0 rfl) ?_
  refine lv_iload_n hx hb dX8_box_1 rfl (lv_at hl 1 rfl) ?_
  refine gp_V (ci := 8) (q0 := 0) (cq := (RX8, TX8, 11)) (c_X8_needHouse l D cI cZ cF cL rx tt a tr r3 rs rz b b0 s0 r5 r6 T h hT hh) (gUV u_377 u_378 u_379 u_2 u_380) rfl hdV_X8_needHouse ⟨Nat.le_of_ble_eq_true rfl, Nat.le_of_ble_eq_true rfl⟩ ⟨rfl, rfl⟩ hx hb hml hown hts hK hA hP hD hS hl.1 ⟨Nat.le_of_ble_eq_true rfl, Nat.le_of_ble_eq_true rfl⟩ rfl rfl rfl (wr := ([] : va_W)) (pm_cnt (fun _ => by simp only [List.countP_append, List.countP_nil, fT] <;> omega)) (fun _ => by simp only [List.map_append, List.map_nil, fX_m, bX_m, sX_m, pX_m, iaX_m, r5X_m, r6X_m, fT_m, hX_m, tX_m, xX_m, sgX_m, zaX_m, fsB_a]) (rest := []) rfl rfl (Nat.le_of_ble_eq_true rfl) dX8_box_2 (ws2 := (fun _ : Unit => (xX rx tt a tr r3 rs rz b b0 s0 r5 r6 ++ fX cI a (T 0 0) (T 0 1) (T 0 2) (T 0 3) (T 0 4) (T 0 5) (T 1) (T 2) (T 3) (T 4) (T 5) (T 6) (T 7) (T 8)))) (fun _ => (pm_cnt (fun _ => by simp only [List.countP_append, List.countP_nil, fT] <;> omega))) (fun _ Hp locs hP hD hS => ?_)
  refine lv_aload_n hx hb dX8_box_5 rfl (lv_at hl 0 rfl) ?_
  refine lv_iload_n hx hb dX8_box_6 rfl (lv_at hl 2 rfl) ?_
  refine gp_V (ci := 8) (q0 := 0) (cq := (RX8, TX8, 11)) (c_X8_needVegetable l D cI cZ cF cL rx tt a tr r3 rs rz b b0 s0 r5 r6 T v hT hv) (gUV u_414 u_415 u_416 u_2 u_417) rfl hdV_X8_needVegetable ⟨Nat.le_of_ble_eq_true rfl, Nat.le_of_ble_eq_true rfl⟩ ⟨rfl, rfl⟩ hx hb hml hown hts hK hA hP hD hS hl.1 ⟨Nat.le_of_ble_eq_true rfl, Nat.le_of_ble_eq_true rfl⟩ rfl rfl rfl (wr := ([] : va_W)) (pm_cnt (fun _ => by simp only [List.countP_append, List.countP_nil, fT] <;> omega)) (fun _ => by simp only [List.map_append, List.map_nil, fX_m, bX_m, sX_m, pX_m, iaX_m, r5X_m, r6X_m, fT_m, hX_m, tX_m, xX_m, sgX_m, zaX_m, fsB_a]) (rest := []) rfl rfl (Nat.le_of_ble_eq_true rfl) dX8_box_7 (ws2 := (fun _ : Unit => (xX rx tt a tr r3 rs rz b b0 s0 r5 r6 ++ fX cI a (T 0 0) (T 0 1) (T 0 2) (T 0 3) (T 0 4) (T 0 5) (T 1) (T 2) (T 3) (T 4) (T 5) (T 6) (T 7) (T 8)))) (fun _ => (pm_cnt (fun _ => by simp only [List.countP_append, List.countP_nil, fT] <;> omega))) (fun _ Hp locs hP hD hS => ?_)
  refine lv_aload_n hx hb dX8_box_10 rfl (lv_at hl 0 rfl) ?_
  refine gf_n (C := RX8) (T := TX8) (N := 11) (ci := 8) (q0 := 0) (v := .ref (a 0)) hx hb hts (iU inlX8) hown hK hP rfl rfl 1 (by decide) (kU u_21) rfl rfl dX8_box_11 ?_
  refine gf_n (C := RX1) (T := TX1) (N := 14) (ci := 1) (q0 := 1) (v := .ref (a 8)) hx hb hts (iU inlX1) hown hK hP rfl rfl 13 (by decide) (kU u_465) rfl rfl dX8_box_14 ?_
  refine lv_iload_n hx hb dX8_box_17 rfl (lv_at hl 1 rfl) ?_
  refine lv_iload_n hx hb dX8_box_18 rfl (lv_at hl 2 rfl) ?_
  refine gp_S (c_X8_cell l D cI cZ cF cL h v ) (gUS u_436 u_244 u_2 u_245) rfl hdS_X8_cell ⟨Nat.le_of_ble_eq_true rfl, Nat.le_of_ble_eq_true rfl⟩ ⟨rfl, rfl⟩ hx hb hml hown hts hK hA hP hD hS hl.1 ⟨Nat.le_of_ble_eq_true rfl, Nat.le_of_ble_eq_true rfl⟩ (wr := (xX rx tt a tr r3 rs rz b b0 s0 r5 r6 ++ fX cI a (T 0 0) (T 0 1) (T 0 2) (T 0 3) (T 0 4) (T 0 5) (T 1) (T 2) (T 3) (T 4) (T 5) (T 6) (T 7) (T 8))) (pm_cnt (fun _ => by simp only [List.countP_append, List.countP_nil, fT] <;> omega)) (fun _ => by simp only [List.map_append, List.map_nil, fX_m, bX_m, sX_m, pX_m, iaX_m, r5X_m, r6X_m, fT_m, hX_m, tX_m, xX_m, sgX_m, zaX_m, fsB_a]) (rest := [.ref (a 8)]) rfl rfl (Nat.le_of_ble_eq_true rfl) dX8_box_19 (ws2 := (fun _ : Unit => (xX rx tt a tr r3 rs rz b b0 s0 r5 r6 ++ fX cI a (T 0 0) (T 0 1) (T 0 2) (T 0 3) (T 0 4) (T 0 5) (T 1) (T 2) (T 3) (T 4) (T 5) (T 6) (T 7) (T 8)))) (fun _ => (pm_cnt (fun _ => by simp only [List.countP_append, List.countP_nil, fT] <;> omega))) (fun _ Hp locs hP hD hS => ?_)
  refine ia_n (q0 := 9) (t0 := 0) hx hb hK hP rfl rfl (by have := hT.1; omega) (by decide) dX8_box_22 ?_
  exact ct_i () hx hb hr hlocks hP hS rfl dX8_box_23
set_option maxHeartbeats 4000000 in
set_option maxRecDepth 100000 in
theorem c_X8_liking (l : Launch) (D : va_G) (cI cZ cF cL : ClassId) (rx : Nat) (tt a tr : Nat → Nat) (r3 rs rz : Nat) (b : Nat → Nat) (b0 s0 r5 r6 : Nat) (T : Nat → Nat → Nat) (h v : Nat) (hT : FI T) (hh : h < T 0 0) (hv : v < T 0 1) : CT l D (tysX cI cZ cF cL) yX8_liking (wA yX8_liking cX8_liking 3 (some .int)) (rmF 2 42) [.ref rx, .int (nI h), .int (nI v)] (xX rx tt a tr r3 rs rz b b0 s0 r5 r6 ++ fX cI a (T 0 0) (T 0 1) (T 0 2) (T 0 3) (T 0 4) (T 0 5) (T 1) (T 2) (T 3) (T 4) (T 5) (T 6) (T 7) (T 8)) (some (.int (nI (T 7 (h * 5 + v))))) (fun _ : Unit => (xX rx tt a tr r3 rs rz b b0 s0 r5 r6 ++ fX cI a (T 0 0) (T 0 1) (T 0 2) (T 0 3) (T 0 4) (T 0 5) (T 1) (T 2) (T 3) (T 4) (T 5) (T 6) (T 7) (T 8))) := by
  refine ct_in (cc := cX8_liking) (maxL := 3) (ret := (some .int)) (own := RX8) (lv := [(0, .ref rx), (1, .int (nI h)), (2, .int (nI v))]) (by decide +kernel) rfl rfl (Nat.le_of_ble_eq_true rfl) rfl ?_
  intro p e s m args below meth c A ls hx hb hr hml hts hown hlocks hK hA hP hD hS hl
  refine lv_aload_n hx hb dX8_liking_0 rfl (lv_at hl 0 rfl) ?_
  refine lv_iload_n hx hb dX8_liking_1 rfl (lv_at hl 1 rfl) ?_
  refine gp_V (ci := 8) (q0 := 0) (cq := (RX8, TX8, 11)) (c_X8_needHouse l D cI cZ cF cL rx tt a tr r3 rs rz b b0 s0 r5 r6 T h hT hh) (gUV u_377 u_378 u_379 u_2 u_380) rfl hdV_X8_needHouse ⟨Nat.le_of_ble_eq_true rfl, Nat.le_of_ble_eq_true rfl⟩ ⟨rfl, rfl⟩ hx hb hml hown hts hK hA hP hD hS hl.1 ⟨Nat.le_of_ble_eq_true rfl, Nat.le_of_ble_eq_true rfl⟩ rfl rfl rfl (wr := ([] : va_W)) (pm_cnt (fun _ => by simp only [List.countP_append, List.countP_nil, fT] <;> omega)) (fun _ => by simp only [List.map_append, List.map_nil, fX_m, bX_m, sX_m, pX_m, iaX_m, r5X_m, r6X_m, fT_m, hX_m, tX_m, xX_m, sgX_m, zaX_m, fsB_a]) (rest := []) rfl rfl (Nat.le_of_ble_eq_true rfl) dX8_liking_2 (ws2 := (fun _ : Unit => (xX rx tt a tr r3 rs rz b b0 s0 r5 r6 ++ fX cI a (T 0 0) (T 0 1) (T 0 2) (T 0 3) (T 0 4) (T 0 5) (T 1) (T 2) (T 3) (T 4) (T 5) (T 6) (T 7) (T 8)))) (fun _ => (pm_cnt (fun _ => by simp only [List.countP_append, List.countP_nil, fT] <;> omega))) (fun _ Hp locs hP hD hS => ?_)
  refine lv_aload_n hx hb dX8_liking_5 rfl (lv_at hl 0 rfl) ?_
  refine lv_iload_n hx hb dX8_liking_6 rfl (lv_at hl 2 rfl) ?_
  refine gp_V (ci := 8) (q0 := 0) (cq := (RX8, TX8, 11)) (c_X8_needVegetable l D cI cZ cF cL rx tt a tr r3 rs rz b b0 s0 r5 r6 T v hT hv) (gUV u_414 u_415 u_416 u_2 u_417) rfl hdV_X8_needVegetable ⟨Nat.le_of_ble_eq_true rfl, Nat.le_of_ble_eq_true rfl⟩ ⟨rfl, rfl⟩ hx hb hml hown hts hK hA hP hD hS hl.1 ⟨Nat.le_of_ble_eq_true rfl, Nat.le_of_ble_eq_true rfl⟩ rfl rfl rfl (wr := ([] : va_W)) (pm_cnt (fun _ => by simp only [List.countP_append, List.countP_nil, fT] <;> omega)) (fun _ => by simp only [List.map_append, List.map_nil, fX_m, bX_m, sX_m, pX_m, iaX_m, r5X_m, r6X_m, fT_m, hX_m, tX_m, xX_m, sgX_m, zaX_m, fsB_a]) (rest := []) rfl rfl (Nat.le_of_ble_eq_true rfl) dX8_liking_7 (ws2 := (fun _ : Unit => (xX rx tt a tr r3 rs rz b b0 s0 r5 r6 ++ fX cI a (T 0 0) (T 0 1) (T 0 2) (T 0 3) (T 0 4) (T 0 5) (T 1) (T 2) (T 3) (T 4) (T 5) (T 6) (T 7) (T 8)))) (fun _ => (pm_cnt (fun _ => by simp only [List.countP_append, List.countP_nil, fT] <;> omega))) (fun _ Hp locs hP hD hS => ?_)
  refine lv_aload_n hx hb dX8_liking_10 rfl (lv_at hl 0 rfl) ?_
  refine gf_n (C := RX8) (T := TX8) (N := 11) (ci := 8) (q0 := 0) (v := .ref (a 0)) hx hb hts (iU inlX8) hown hK hP rfl rfl 1 (by decide) (kU u_21) rfl rfl dX8_liking_11 ?_
  refine gf_n (C := RX1) (T := TX1) (N := 14) (ci := 1) (q0 := 1) (v := .ref (a 7)) hx hb hts (iU inlX1) hown hK hP rfl rfl 12 (by decide) (kU u_430) rfl rfl dX8_liking_14 ?_
  refine lv_iload_n hx hb dX8_liking_17 rfl (lv_at hl 1 rfl) ?_
  refine lv_iload_n hx hb dX8_liking_18 rfl (lv_at hl 2 rfl) ?_
  refine gp_S (c_X8_cell l D cI cZ cF cL h v ) (gUS u_436 u_244 u_2 u_245) rfl hdS_X8_cell ⟨Nat.le_of_ble_eq_true rfl, Nat.le_of_ble_eq_true rfl⟩ ⟨rfl, rfl⟩ hx hb hml hown hts hK hA hP hD hS hl.1 ⟨Nat.le_of_ble_eq_true rfl, Nat.le_of_ble_eq_true rfl⟩ (wr := (xX rx tt a tr r3 rs rz b b0 s0 r5 r6 ++ fX cI a (T 0 0) (T 0 1) (T 0 2) (T 0 3) (T 0 4) (T 0 5) (T 1) (T 2) (T 3) (T 4) (T 5) (T 6) (T 7) (T 8))) (pm_cnt (fun _ => by simp only [List.countP_append, List.countP_nil, fT] <;> omega)) (fun _ => by simp only [List.map_append, List.map_nil, fX_m, bX_m, sX_m, pX_m, iaX_m, r5X_m, r6X_m, fT_m, hX_m, tX_m, xX_m, sgX_m, zaX_m, fsB_a]) (rest := [.ref (a 7)]) rfl rfl (Nat.le_of_ble_eq_true rfl) dX8_liking_19 (ws2 := (fun _ : Unit => (xX rx tt a tr r3 rs rz b b0 s0 r5 r6 ++ fX cI a (T 0 0) (T 0 1) (T 0 2) (T 0 3) (T 0 4) (T 0 5) (T 1) (T 2) (T 3) (T 4) (T 5) (T 6) (T 7) (T 8)))) (fun _ => (pm_cnt (fun _ => by simp only [List.countP_append, List.countP_nil, fT] <;> omega))) (fun _ Hp locs hP hD hS => ?_)
  refine ia_n (q0 := 8) (t0 := 0) hx hb hK hP rfl rfl (by have := hT.1; omega) (by decide) dX8_liking_22 ?_
  exact ct_i () hx hb hr hlocks hP hS rfl dX8_liking_23
set_option maxRecDepth 20000 in
theorem u_491 : Cond.code yX1_placeOf cX1_placeOf 6 (some .int) ∈ wsL_law := List.mem_of_getElem? (i := 295) (by decide +kernel)
set_option maxRecDepth 20000 in
theorem u_488 : Cond.methodLink RX8 206 yX1_placeOf ∈ wsL_law := List.mem_of_getElem? (i := 292) (by decide +kernel)
set_option maxRecDepth 20000 in
theorem u_489 : Cond.instanceMethod yX1_placeOf ∈ wsL_law := List.mem_of_getElem? (i := 293) (by decide +kernel)
set_option maxRecDepth 20000 in
theorem u_490 : Cond.selects RX1 yX1_placeOf yX1_placeOf ∈ wsL_law := List.mem_of_getElem? (i := 294) (by decide +kernel)
theorem hdV_X1_placeOf : yX1_placeOf.cls = RX1 ∧ yX1_placeOf.cls ≠ "java/lang/invoke/MethodHandle" ∧ yX1_placeOf.cls ≠ "java/lang/invoke/VarHandle" ∧ (parseMethodDescriptor yX1_placeOf.desc).map (fun d => d.parameters.length) = some 1 := by decide +kernel
set_option maxHeartbeats 4000000 in
set_option maxRecDepth 100000 in
theorem c_X8_order (l : Launch) (D : va_G) (cI cZ cF cL : ClassId) (rx : Nat) (tt a tr : Nat → Nat) (r3 rs rz : Nat) (b : Nat → Nat) (b0 s0 r5 r6 : Nat) (T : Nat → Nat → Nat) (p0 : Nat) (hT : FI T) (hp : p0 < 2 ^ 31) : CT l D (tysX cI cZ cF cL) yX8_order (wA yX8_order cX8_order 3 (some .int)) (rmF 3 69) [.ref rx, .int (nI p0)] (xX rx tt a tr r3 rs rz b b0 s0 r5 r6 ++ fX cI a (T 0 0) (T 0 1) (T 0 2) (T 0 3) (T 0 4) (T 0 5) (T 1) (T 2) (T 3) (T 4) (T 5) (T 6) (T 7) (T 8)) (some (.int (ordF T p0 (T 0 0) 0))) (fun _ : Unit => (xX rx tt a tr r3 rs rz b b0 s0 r5 r6 ++ fX cI a (T 0 0) (T 0 1) (T 0 2) (T 0 3) (T 0 4) (T 0 5) (T 1) (T 2) (T 3) (T 4) (T 5) (T 6) (T 7) (T 8))) := by
  refine ct_in (cc := cX8_order) (maxL := 3) (ret := (some .int)) (own := RX8) (lv := [(0, .ref rx), (1, .int (nI p0))]) (by decide +kernel) rfl rfl (Nat.le_of_ble_eq_true rfl) rfl ?_
  intro p e s m args below meth c A ls hx hb hr hml hts hown hlocks hK hA hP hD hS hl
  refine lv_iload_n hx hb dX8_order_0 rfl (lv_at hl 1 rfl) ?_
  refine lv_if_ge (tgt := 14) hx hb dX8_order_1 (by decide) (fun c_1 => ?_) (fun c_1 => ?_)
  · skip
    refine lv_iconst (v := (nI 0)) hx hb dX8_order_14 (by decide) ?_
    refine lv_istore_n (lv' := [(2, .int (nI 0)), (0, .ref rx), (1, .int (nI p0))]) hx hb dX8_order_15 rfl hl (by decide) rfl (fun ls hl => ?_)
    have loop_16 : ∀ (dd : Nat) (i : Nat), (i ≤ T 0 0) → (ordF T p0 (T 0 0) 0 = ordF T p0 (T 0 0 - i) i) → (T 0 0 - i) < dd → ∀ (Hp : Heap) (locs : List Loc), va_P D vwCl (xX rx tt a tr r3 rs rz b b0 s0 r5 r6 ++ fX cI a (T 0 0) (T 0 1) (T 0 2) (T 0 3) (T 0 4) (T 0 5) (T 1) (T 2) (T 3) (T 4) (T 5) (T 6) (T 7) (T 8)) Hp → va_D A (xX rx tt a tr r3 rs rz b b0 s0 r5 r6 ++ fX cI a (T 0 0) (T 0 1) (T 0 2) (T 0 3) (T 0 4) (T 0 5) (T 1) (T 2) (T 3) (T 4) (T 5) (T 6) (T 7) (T 8)) → va_S A s.heap Hp locs → ∀ ls : Array Slot, lv_has ls 3 [(2, .int (nI i)), (0, .ref rx), (1, .int (nI p0))] → W p l e (rmF 3 69) s m args below meth c Hp locs 0 0 (MQ below (CQ D (some (.int (ordF T p0 (T 0 0) 0))) (fun _ : Unit => (xX rx tt a tr r3 rs rz b b0 s0 r5 r6 ++ fX cI a (T 0 0) (T 0 1) (T 0 2) (T 0 3) (T 0 4) (T 0 5) (T 1) (T 2) (T 3) (T 4) (T 5) (T 6) (T 7) (T 8))) A) args s 0 0 A) (F0 m 16 ls []) := by
      intro dd
      induction dd with
      | zero => intro i hi eR hm; exact absurd hm (Nat.not_lt_zero _)
      | succ dd ih_16 =>
        intro i hi eR hm Hp locs hP hD hS ls hl
        refine lv_iload_n hx hb dX8_order_16 rfl (lv_at hl 0 rfl) ?_
        refine lv_aload_n hx hb dX8_order_17 rfl (lv_at hl 1 rfl) ?_
        refine gf_n (C := RX8) (T := TX8) (N := 11) (ci := 8) (q0 := 0) (v := .ref (a 0)) hx hb hts (iU inlX8) hown hK hP rfl rfl 1 (by decide) (kU u_21) rfl rfl dX8_order_18 ?_
        refine gf_n (C := RX1) (T := TX1) (N := 14) (ci := 1) (q0 := 1) (v := .int (nI (T 0 0))) hx hb hts (iU inlX1) hown hK hP rfl rfl 0 (by decide) (kU u_291) rfl rfl dX8_order_21 ?_
        refine lv_icmp_ge (tgt := 47) hx hb dX8_order_24 (by decide) (fun c_24 => ?_) (fun c_24 => ?_)
        · skip
          replace c_24 := cn_le (by have := hT.1.1; omega) (by have := hT.1.1; omega) c_24
          refine lv_bipush (v := ((-9))) hx hb dX8_order_47 (by decide) ?_
          exact ct_i () hx hb hr hlocks hP hS (by rw [eR, show T 0 0 - i = 0 by omega]; rfl) dX8_order_49
        · skip
          replace c_24 := cn_nle (by have := hT.1.1; omega) (by have := hT.1.1; omega) c_24
          refine lv_aload_n hx hb dX8_order_27 rfl (lv_at hl 1 rfl) ?_
          refine gf_n (C := RX8) (T := TX8) (N := 11) (ci := 8) (q0 := 0) (v := .ref (a 0)) hx hb hts (iU inlX8) hown hK hP rfl rfl 1 (by decide) (kU u_21) rfl rfl dX8_order_28 ?_
          refine lv_iload_n hx hb dX8_order_31 rfl (lv_at hl 0 rfl) ?_
          refine gp_V (ci := 1) (q0 := 0) (cq := (RX1, TX1, 14)) (c_X1_placeOf l D cI cZ cF cL a (T 0 0) (T 0 1) (T 0 2) (T 0 3) (T 0 4) (T 0 5) (T 1) (T 2) (T 3) (T 4) (T 5) (T 6) (T 7) (T 8) i hT.1.1 hT.1.2 (by have := hT.1.1; omega) (fun o ho => by have := FI_hap hT ho; omega)) (gUV u_488 u_489 u_490 u_20 u_491) rfl hdV_X1_placeOf ⟨Nat.le_of_ble_eq_true rfl, Nat.le_of_ble_eq_true rfl⟩ ⟨rfl, rfl⟩ hx hb hml hown hts hK hA hP hD hS hl.1 ⟨Nat.le_of_ble_eq_true rfl, Nat.le_of_ble_eq_true rfl⟩ rfl rfl rfl (wr := (xX rx tt a tr r3 rs rz b b0 s0 r5 r6)) (pm_cnt (fun _ => by simp only [List.countP_append, List.countP_nil, fT] <;> omega)) (fun _ => by simp only [List.map_append, List.map_nil, fX_m, bX_m, sX_m, pX_m, iaX_m, r5X_m, r6X_m, fT_m, hX_m, tX_m, xX_m, sgX_m, zaX_m, fsB_a]) (rest := []) rfl rfl (Nat.le_of_ble_eq_true rfl) dX8_order_32 (ws2 := (fun _ : Unit => (xX rx tt a tr r3 rs rz b b0 s0 r5 r6 ++ fX cI a (T 0 0) (T 0 1) (T 0 2) (T 0 3) (T 0 4) (T 0 5) (T 1) (T 2) (T 3) (T 4) (T 5) (T 6) (T 7) (T 8)))) (fun _ => (pm_cnt (fun _ => by simp only [List.countP_append, List.countP_nil, fT] <;> omega))) (fun _ Hp locs hP hD hS => ?_)
          refine lv_iload_n hx hb dX8_order_35 rfl (lv_at hl 2 rfl) ?_
          refine lv_icmp_ne (tgt := 41) hx hb dX8_order_36 (by decide) (fun c_36 => ?_) (fun c_36 => ?_)
          · skip
            replace c_36 := cn_ne c_36
            refine lv_iinc (v := (nI (i + 1))) (lv' := [(2, .int (nI (i + 1))), (0, .ref rx), (1, .int (nI p0))]) hx hb dX8_order_41 hl (k := 0) rfl (nI_add i 1) (by decide) rfl (fun ls hl => ?_)
            refine lv_goto (tgt := 16) hx hb dX8_order_44 (by decide) ?_
            exact ih_16 (i + 1) (by omega) (by rw [eR]; exact ordF_s (by omega) c_36) (by omega) _ _ hP hD hS _ (lv_sub hl [0, 1, 2] rfl)
          · skip
            replace c_36 := cn_eq (by have := cntN_le (fun o => decide (hap (T 7) (T 8) (T 0 1) i < hap (T 7) (T 8) (T 0 1) o ∨ hap (T 7) (T 8) (T 0 1) o = hap (T 7) (T 8) (T 0 1) i ∧ o < i)) (T 0 0); have := hT.1.1; unfold plcN; omega) (by omega) c_36
            refine lv_iload_n hx hb dX8_order_39 rfl (lv_at hl 0 rfl) ?_
            exact ct_i () hx hb hr hlocks hP hS (by rw [eR]; exact (ordF_e (by omega) c_36).symm) dX8_order_40
    exact loop_16 ((T 0 0 - 0) + 1) 0 (Nat.zero_le _) rfl (Nat.lt_succ_self _) _ _ hP hD hS _ (lv_sub hl [0, 1, 2] rfl)
  · skip
    (exact absurd (Int32.not_lt.mp (nI_pos hp)) c_1)

