set_option maxRecDepth 20000 in
theorem u_260 : Cond.fieldLink RX9 103 "HarvestBoxesModel" "houses" "I" ∈ wsL_law := List.mem_of_getElem? (i := 260) (by decide +kernel)
set_option maxRecDepth 20000 in
theorem u_261 : Cond.fieldLink RX9 113 "HarvestBoxesModel" "vegetables" "I" ∈ wsL_law := List.mem_of_getElem? (i := 261) (by decide +kernel)
set_option maxRecDepth 20000 in
theorem u_265 : Cond.code yX9_letter cX9_letter 3 (some .boolean) ∈ wsL_law := List.mem_of_getElem? (i := 265) (by decide +kernel)
set_option maxRecDepth 20000 in
theorem u_262 : Cond.methodLink RX9 106 yX9_letter ∈ wsL_law := List.mem_of_getElem? (i := 262) (by decide +kernel)
set_option maxRecDepth 20000 in
theorem u_263 : Cond.instanceMethod yX9_letter ∈ wsL_law := List.mem_of_getElem? (i := 263) (by decide +kernel)
set_option maxRecDepth 20000 in
theorem u_264 : Cond.selects RX9 yX9_letter yX9_letter ∈ wsL_law := List.mem_of_getElem? (i := 264) (by decide +kernel)
set_option maxRecDepth 20000 in
theorem u_274 : Cond.code yX9_digitTo cX9_digitTo 4 (some .boolean) ∈ wsL_law := List.mem_of_getElem? (i := 274) (by decide +kernel)
set_option maxRecDepth 20000 in
theorem u_271 : Cond.methodLink RX9 109 yX9_digitTo ∈ wsL_law := List.mem_of_getElem? (i := 271) (by decide +kernel)
set_option maxRecDepth 20000 in
theorem u_272 : Cond.instanceMethod yX9_digitTo ∈ wsL_law := List.mem_of_getElem? (i := 272) (by decide +kernel)
set_option maxRecDepth 20000 in
theorem u_273 : Cond.selects RX9 yX9_digitTo yX9_digitTo ∈ wsL_law := List.mem_of_getElem? (i := 273) (by decide +kernel)
theorem hdV_X9_letter : yX9_letter.cls = RX9 ∧ yX9_letter.cls ≠ "java/lang/invoke/MethodHandle" ∧ yX9_letter.cls ≠ "java/lang/invoke/VarHandle" ∧ (parseMethodDescriptor yX9_letter.desc).map (fun d => d.parameters.length) = some 1 := by decide +kernel
theorem hdV_X9_digitTo : yX9_digitTo.cls = RX9 ∧ yX9_digitTo.cls ≠ "java/lang/invoke/MethodHandle" ∧ yX9_digitTo.cls ≠ "java/lang/invoke/VarHandle" ∧ (parseMethodDescriptor yX9_digitTo.desc).map (fun d => d.parameters.length) = some 2 := by decide +kernel
set_option maxHeartbeats 4000000 in
set_option maxRecDepth 100000 in
theorem c_X9_part0 (l : Launch) (D : va_G) (cI cZ cF cL : ClassId) (mr : Nat) (rf : Nat → Nat) (st L th pl hs vs : Nat) (dg0 : Int32) (xx : Int64) (X : Nat → Nat) (f1 f2 f3 f4 f5 f6 f7 f8 : Nat → Nat) (hL : L ≤ 120) (hXt : ∀ k, k < 120 → X k < 256) (hpp : pl < 2 ^ 20) (hpl : pl < L) (hH : hs ≤ 6) (hV : vs ≤ 5) : CT l D (tysX cI cZ cF cL) yX9_part (wA yX9_part cX9_part 5 (some .boolean)) (rmF 2 45) [.ref mr, .int (nI 0)] (mX mr rf st L th pl hs vs dg0 xx ++ iaX cI (rf 5) 120 X) (some (.int (if ((rpP X L pl hs vs f1 f2 f4 f5 f7).1 = true) then 1 else 0))) (fun u : Int32 => (mX mr rf st L th ((rpP X L pl hs vs f1 f2 f4 f5 f7).2.1) (hsP X pl hs) (vsP X pl vs) u xx ++ iaX cI (rf 5) 120 X)) := by
  refine ct_in (cc := cX9_part) (maxL := 5) (ret := (some .boolean)) (own := RX9) (lv := [(0, .ref mr), (1, .int (nI 0))]) (by decide +kernel) rfl rfl (Nat.le_of_ble_eq_true rfl) rfl ?_
  intro p e s m args below meth c A ls hx hb hr hml hts hown hlocks hK hA hP hD hS hl
  refine lv_aload_n hx hb dX9_part_0 rfl (lv_at hl 0 rfl) ?_
  refine gf_n (C := RX9) (T := TX9) (N := 15) (ci := 9) (q0 := 0) (v := .int (nI hs)) hx hb hts (iU inlX9) hown hK hP rfl rfl 11 (by decide) (kU u_260) rfl rfl dX9_part_1 ?_
  refine lv_bipush (v := (nI 6)) hx hb dX9_part_4 (by decide) ?_
  refine lv_icmp_ge (tgt := 101) hx hb dX9_part_6 (by decide) (fun c_6 => ?_) (fun c_6 => ?_)
  · skip
    replace c_6 := cn_le (by omega) (by omega) c_6
    refine lv_aload_n hx hb dX9_part_101 rfl (lv_at hl 0 rfl) ?_
    refine gf_n (C := RX9) (T := TX9) (N := 15) (ci := 9) (q0 := 0) (v := .int (nI vs)) hx hb hts (iU inlX9) hown hK hP rfl rfl 12 (by decide) (kU u_261) rfl rfl dX9_part_102 ?_
    refine lv_iconst (v := (nI 5)) hx hb dX9_part_105 (by decide) ?_
    refine lv_icmp_ge (tgt := 200) hx hb dX9_part_106 (by decide) (fun c_106 => ?_) (fun c_106 => ?_)
    · skip
      replace c_106 := cn_le (by omega) (by omega) c_106
      refine lv_aload_n hx hb dX9_part_200 rfl (lv_at hl 0 rfl) ?_
      refine gf_n (C := RX9) (T := TX9) (N := 15) (ci := 9) (q0 := 0) (v := .int (nI hs)) hx hb hts (iU inlX9) hown hK hP rfl rfl 11 (by decide) (kU u_260) rfl rfl dX9_part_201 ?_
      refine lv_if_le (tgt := 315) hx hb dX9_part_204 (by decide) (fun c_204 => ?_) (fun c_204 => ?_)
      · skip
        replace c_204 := cn_le (b := 0) (by omega) (by omega) c_204
        refine lv_aload_n hx hb dX9_part_315 rfl (lv_at hl 0 rfl) ?_
        refine gf_n (C := RX9) (T := TX9) (N := 15) (ci := 9) (q0 := 0) (v := .int (nI hs)) hx hb hts (iU inlX9) hown hK hP rfl rfl 11 (by decide) (kU u_260) rfl rfl dX9_part_316 ?_
        refine lv_if_le (tgt := 349) hx hb dX9_part_319 (by decide) (fun c_319 => ?_) (fun c_319 => ?_)
        · skip
          replace c_319 := cn_le (b := 0) (by omega) (by omega) c_319
          refine lv_iconst (v := (nI 0)) hx hb dX9_part_349 (by decide) ?_
          refine lv_istore_n (lv' := [(2, .int (nI 0)), (0, .ref mr), (1, .int (nI 0))]) hx hb dX9_part_350 rfl hl (by decide) rfl (fun ls hl => ?_)
          refine lv_iload_n hx hb dX9_part_351 rfl (lv_at hl 0 rfl) ?_
          refine lv_if_eq (tgt := 374) hx hb dX9_part_352 (by decide) (fun _ => ?_) (fun c_352 => absurd (by decide +kernel) c_352)
          refine lv_iload_n hx hb dX9_part_374 rfl (lv_at hl 0 rfl) ?_
          exact ct_z (dg0) hx hb hr hlocks (by first | (rw [rpP_s (by omega) (by omega) (by omega) (by omega), rpS_1 k1, hsP_f (by omega), vsP_f (by omega)]; exact hP) | (rw [rpP_s (by omega) (by omega) (by omega) (by omega), rpS_2 k1, hsP_f (by omega), vsP_f (by omega)]; exact hP) | (rw [rpP_n (by omega) (by omega) (by omega) (by omega), hsP_f (by omega), vsP_f (by omega)]; exact hP)) hS (by first | (rw [rpP_s (by omega) (by omega) (by omega) (by omega), rpS_1 k1]; rfl) | (rw [rpP_s (by omega) (by omega) (by omega) (by omega), rpS_2 k1]; rfl) | (rw [rpP_n (by omega) (by omega) (by omega) (by omega)]; rfl)) dX9_part_375
        · skip
          replace c_319 := cn_nle (b := 0) (by omega) (by omega) c_319
          refine lv_aload_n hx hb dX9_part_322 rfl (lv_at hl 0 rfl) ?_
          refine lv_bipush (v := (nI 115)) hx hb dX9_part_323 (by decide) ?_
          refine gp_V (ci := 9) (q0 := 0) (cq := (RX9, TX9, 15)) (c_X9_letter l D cI cZ cF cL mr rf st L th pl hs vs dg0 xx X 115 hL hXt hpp (by decide)) (gUV u_262 u_263 u_264 u_5 u_265) rfl hdV_X9_letter ⟨Nat.le_of_ble_eq_true rfl, Nat.le_of_ble_eq_true rfl⟩ ⟨rfl, rfl⟩ hx hb hml hown hts hK hA hP hD hS hl.1 ⟨Nat.le_of_ble_eq_true rfl, Nat.le_of_ble_eq_true rfl⟩ rfl rfl rfl (wr := ([] : va_W)) (pm_cnt (fun _ => by simp only [List.countP_append, List.countP_nil, fT] <;> omega)) (fun _ => by simp only [List.map_append, List.map_nil, fX_m, bX_m, sX_m, pX_m, iaX_m, r5X_m, r6X_m, fT_m, hX_m, tX_m, xX_m, sgX_m, zaX_m, fsB_a, qX_m, mX_m]) (rest := []) rfl rfl (Nat.le_of_ble_eq_true rfl) dX9_part_325 (ws2 := (fun _ : Unit => (mX mr rf st L th (if (pl < L ∧ X pl = 115) then pl + 1 else pl) hs vs dg0 xx ++ iaX cI (rf 5) 120 X))) (fun _ => (pm_cnt (fun _ => by simp only [List.countP_append, List.countP_nil, fT] <;> omega))) (fun _ Hp locs hP hD hS => ?_)
          by_cases q_328 : X pl = 115
          · skip
            rw [show (if (pl < L ∧ X pl = 115) then (1 : Int32) else 0) = nI 1 from if_pos ⟨hpl, q_328⟩]
            rw [if_pos (⟨hpl, q_328⟩ : (pl < L ∧ X pl = 115))] at hP hD
            refine lv_if_eq (tgt := 349) hx hb dX9_part_328 (by decide) (fun c_328 => absurd c_328 (by decide +kernel)) (fun _ => ?_)
            refine lv_aload_n hx hb dX9_part_331 rfl (lv_at hl 0 rfl) ?_
            refine lv_iconst (v := (nI 0)) hx hb dX9_part_332 (by decide) ?_
            refine lv_aload_n hx hb dX9_part_333 rfl (lv_at hl 0 rfl) ?_
            refine gf_n (C := RX9) (T := TX9) (N := 15) (ci := 9) (q0 := 0) (v := .int (nI hs)) hx hb hts (iU inlX9) hown hK hP rfl rfl 11 (by decide) (kU u_260) rfl rfl dX9_part_334 ?_
            refine lv_iconst (v := (nI 1)) hx hb dX9_part_337 (by decide) ?_
            refine lv_isub hx hb dX9_part_338 ?_
            rw [pk_sub (a := hs) (b := 1) (by omega)]
            refine gp_V (ci := 9) (q0 := 0) (cq := (RX9, TX9, 15)) (c_X9_digitTo l D cI cZ cF cL mr rf st L th (pl + 1) hs vs dg0 xx X 0 (hs - 1) hL hXt (by omega) (by omega) (by omega)) (gUV u_271 u_272 u_273 u_5 u_274) rfl hdV_X9_digitTo ⟨Nat.le_of_ble_eq_true rfl, Nat.le_of_ble_eq_true rfl⟩ ⟨rfl, rfl⟩ hx hb hml hown hts hK hA hP hD hS hl.1 ⟨Nat.le_of_ble_eq_true rfl, Nat.le_of_ble_eq_true rfl⟩ rfl rfl rfl (wr := ([] : va_W)) (pm_cnt (fun _ => by simp only [List.countP_append, List.countP_nil, fT] <;> omega)) (fun _ => by simp only [List.map_append, List.map_nil, fX_m, bX_m, sX_m, pX_m, iaX_m, r5X_m, r6X_m, fT_m, hX_m, tX_m, xX_m, sgX_m, zaX_m, fsB_a, qX_m, mX_m]) (rest := []) rfl rfl (Nat.le_of_ble_eq_true rfl) dX9_part_339 (ws2 := (fun _ : Unit => (mX mr rf st L th (plD X L (pl + 1) 0 (hs - 1)) hs vs (dgI X L (pl + 1)) xx ++ iaX cI (rf 5) 120 X))) (fun _ => (pm_cnt (fun _ => by simp only [List.countP_append, List.countP_nil, fT] <;> omega))) (fun _ Hp locs hP hD hS => ?_)
            rcases k1 : dg X L (pl + 1) 0 (hs - 1) with _ | d1
            · skip
              rw [show (if (none : Option Nat).isSome = true then (1 : Int32) else 0) = nI 0 from rfl]
              rw [plD_n k1] at hP hD
              refine lv_if_eq (tgt := 349) hx hb dX9_part_342 (by decide) (fun _ => ?_) (fun c_342 => absurd (by decide +kernel) c_342)
              refine lv_iconst (v := (nI 0)) hx hb dX9_part_349 (by decide) ?_
              refine lv_istore_n (lv' := [(2, .int (nI 0)), (0, .ref mr), (1, .int (nI 0))]) hx hb dX9_part_350 rfl hl (by decide) rfl (fun ls hl => ?_)
              refine lv_iload_n hx hb dX9_part_351 rfl (lv_at hl 0 rfl) ?_
              refine lv_if_eq (tgt := 374) hx hb dX9_part_352 (by decide) (fun _ => ?_) (fun c_352 => absurd (by decide +kernel) c_352)
              refine lv_iload_n hx hb dX9_part_374 rfl (lv_at hl 0 rfl) ?_
              exact ct_z ((dgI X L (pl + 1))) hx hb hr hlocks (by first | (rw [rpP_s (by omega) (by omega) (by omega) (by omega), rpS_1 k1, hsP_f (by omega), vsP_f (by omega)]; exact hP) | (rw [rpP_s (by omega) (by omega) (by omega) (by omega), rpS_2 k1, hsP_f (by omega), vsP_f (by omega)]; exact hP) | (rw [rpP_n (by omega) (by omega) (by omega) (by omega), hsP_f (by omega), vsP_f (by omega)]; exact hP)) hS (by first | (rw [rpP_s (by omega) (by omega) (by omega) (by omega), rpS_1 k1]; rfl) | (rw [rpP_s (by omega) (by omega) (by omega) (by omega), rpS_2 k1]; rfl) | (rw [rpP_n (by omega) (by omega) (by omega) (by omega)]; rfl)) dX9_part_375
            · skip
              rw [show (if (some d1).isSome = true then (1 : Int32) else 0) = nI 1 from rfl]
              rw [plD_s k1, dgI_s k1] at hP hD
              obtain ⟨b1_k1, b2_k1, -, -⟩ := dg_le k1
              refine lv_if_eq (tgt := 349) hx hb dX9_part_342 (by decide) (fun c_342 => absurd c_342 (by decide +kernel)) (fun _ => ?_)
              refine lv_iconst (v := (nI 1)) hx hb dX9_part_345 (by decide) ?_
              refine lv_goto (tgt := 350) hx hb dX9_part_346 (by decide) ?_
              refine lv_istore_n (lv' := [(2, .int (nI 1)), (0, .ref mr), (1, .int (nI 0))]) hx hb dX9_part_350 rfl hl (by decide) rfl (fun ls hl => ?_)
              refine lv_iload_n hx hb dX9_part_351 rfl (lv_at hl 0 rfl) ?_
              refine lv_if_eq (tgt := 374) hx hb dX9_part_352 (by decide) (fun c_352 => absurd c_352 (by decide +kernel)) (fun _ => ?_)
              refine lv_iload_n hx hb dX9_part_355 rfl (lv_at hl 2 rfl) ?_
              refine lv_if_eq (tgt := 374) hx hb dX9_part_356 (by decide) (fun _ => ?_) (fun c_356 => absurd (by decide +kernel) c_356)
              refine lv_iload_n hx hb dX9_part_374 rfl (lv_at hl 0 rfl) ?_
              exact ct_z ((nI d1)) hx hb hr hlocks (by first | (rw [rpP_s (by omega) (by omega) (by omega) (by omega), rpS_1 k1, hsP_f (by omega), vsP_f (by omega)]; exact hP) | (rw [rpP_s (by omega) (by omega) (by omega) (by omega), rpS_2 k1, hsP_f (by omega), vsP_f (by omega)]; exact hP) | (rw [rpP_n (by omega) (by omega) (by omega) (by omega), hsP_f (by omega), vsP_f (by omega)]; exact hP)) hS (by first | (rw [rpP_s (by omega) (by omega) (by omega) (by omega), rpS_1 k1]; rfl) | (rw [rpP_s (by omega) (by omega) (by omega) (by omega), rpS_2 k1]; rfl) | (rw [rpP_n (by omega) (by omega) (by omega) (by omega)]; rfl)) dX9_part_375
          · skip
            rw [show (if (pl < L ∧ X pl = 115) then (1 : Int32) else 0) = nI 0 from if_neg (fun z => q_328 z.2)]
            rw [if_neg (show ¬ (pl < L ∧ X pl = 115) from fun z => q_328 z.2)] at hP hD
            refine lv_if_eq (tgt := 349) hx hb dX9_part_328 (by decide) (fun _ => ?_) (fun c_328 => absurd (by decide +kernel) c_328)
            refine lv_iconst (v := (nI 0)) hx hb dX9_part_349 (by decide) ?_
            refine lv_istore_n (lv' := [(2, .int (nI 0)), (0, .ref mr), (1, .int (nI 0))]) hx hb dX9_part_350 rfl hl (by decide) rfl (fun ls hl => ?_)
            refine lv_iload_n hx hb dX9_part_351 rfl (lv_at hl 0 rfl) ?_
            refine lv_if_eq (tgt := 374) hx hb dX9_part_352 (by decide) (fun _ => ?_) (fun c_352 => absurd (by decide +kernel) c_352)
            refine lv_iload_n hx hb dX9_part_374 rfl (lv_at hl 0 rfl) ?_
            exact ct_z (dg0) hx hb hr hlocks (by first | (rw [rpP_s (by omega) (by omega) (by omega) (by omega), rpS_1 k1, hsP_f (by omega), vsP_f (by omega)]; exact hP) | (rw [rpP_s (by omega) (by omega) (by omega) (by omega), rpS_2 k1, hsP_f (by omega), vsP_f (by omega)]; exact hP) | (rw [rpP_n (by omega) (by omega) (by omega) (by omega), hsP_f (by omega), vsP_f (by omega)]; exact hP)) hS (by first | (rw [rpP_s (by omega) (by omega) (by omega) (by omega), rpS_1 k1]; rfl) | (rw [rpP_s (by omega) (by omega) (by omega) (by omega), rpS_2 k1]; rfl) | (rw [rpP_n (by omega) (by omega) (by omega) (by omega)]; rfl)) dX9_part_375
      · skip
        replace c_204 := cn_nle (b := 0) (by omega) (by omega) c_204
        refine lv_aload_n hx hb dX9_part_207 rfl (lv_at hl 0 rfl) ?_
        refine gf_n (C := RX9) (T := TX9) (N := 15) (ci := 9) (q0 := 0) (v := .int (nI vs)) hx hb hts (iU inlX9) hown hK hP rfl rfl 12 (by decide) (kU u_261) rfl rfl dX9_part_208 ?_
        refine lv_if_le (tgt := 315) hx hb dX9_part_211 (by decide) (fun c_211 => ?_) (fun c_211 => ?_)
        · skip
          replace c_211 := cn_le (b := 0) (by omega) (by omega) c_211
          refine lv_aload_n hx hb dX9_part_315 rfl (lv_at hl 0 rfl) ?_
          refine gf_n (C := RX9) (T := TX9) (N := 15) (ci := 9) (q0 := 0) (v := .int (nI hs)) hx hb hts (iU inlX9) hown hK hP rfl rfl 11 (by decide) (kU u_260) rfl rfl dX9_part_316 ?_
          refine lv_if_le (tgt := 349) hx hb dX9_part_319 (by decide) (fun c_319 => ?_) (fun c_319 => ?_)
          · skip
            replace c_319 := cn_le (b := 0) (by omega) (by omega) c_319
            refine lv_iconst (v := (nI 0)) hx hb dX9_part_349 (by decide) ?_
            refine lv_istore_n (lv' := [(2, .int (nI 0)), (0, .ref mr), (1, .int (nI 0))]) hx hb dX9_part_350 rfl hl (by decide) rfl (fun ls hl => ?_)
            refine lv_iload_n hx hb dX9_part_351 rfl (lv_at hl 0 rfl) ?_
            refine lv_if_eq (tgt := 374) hx hb dX9_part_352 (by decide) (fun _ => ?_) (fun c_352 => absurd (by decide +kernel) c_352)
            refine lv_iload_n hx hb dX9_part_374 rfl (lv_at hl 0 rfl) ?_
            exact ct_z (dg0) hx hb hr hlocks (by first | (rw [rpP_s (by omega) (by omega) (by omega) (by omega), rpS_1 k1, hsP_f (by omega), vsP_f (by omega)]; exact hP) | (rw [rpP_s (by omega) (by omega) (by omega) (by omega), rpS_2 k1, hsP_f (by omega), vsP_f (by omega)]; exact hP) | (rw [rpP_n (by omega) (by omega) (by omega) (by omega), hsP_f (by omega), vsP_f (by omega)]; exact hP)) hS (by first | (rw [rpP_s (by omega) (by omega) (by omega) (by omega), rpS_1 k1]; rfl) | (rw [rpP_s (by omega) (by omega) (by omega) (by omega), rpS_2 k1]; rfl) | (rw [rpP_n (by omega) (by omega) (by omega) (by omega)]; rfl)) dX9_part_375
          · skip
            replace c_319 := cn_nle (b := 0) (by omega) (by omega) c_319
            refine lv_aload_n hx hb dX9_part_322 rfl (lv_at hl 0 rfl) ?_
            refine lv_bipush (v := (nI 115)) hx hb dX9_part_323 (by decide) ?_
            refine gp_V (ci := 9) (q0 := 0) (cq := (RX9, TX9, 15)) (c_X9_letter l D cI cZ cF cL mr rf st L th pl hs vs dg0 xx X 115 hL hXt hpp (by decide)) (gUV u_262 u_263 u_264 u_5 u_265) rfl hdV_X9_letter ⟨Nat.le_of_ble_eq_true rfl, Nat.le_of_ble_eq_true rfl⟩ ⟨rfl, rfl⟩ hx hb hml hown hts hK hA hP hD hS hl.1 ⟨Nat.le_of_ble_eq_true rfl, Nat.le_of_ble_eq_true rfl⟩ rfl rfl rfl (wr := ([] : va_W)) (pm_cnt (fun _ => by simp only [List.countP_append, List.countP_nil, fT] <;> omega)) (fun _ => by simp only [List.map_append, List.map_nil, fX_m, bX_m, sX_m, pX_m, iaX_m, r5X_m, r6X_m, fT_m, hX_m, tX_m, xX_m, sgX_m, zaX_m, fsB_a, qX_m, mX_m]) (rest := []) rfl rfl (Nat.le_of_ble_eq_true rfl) dX9_part_325 (ws2 := (fun _ : Unit => (mX mr rf st L th (if (pl < L ∧ X pl = 115) then pl + 1 else pl) hs vs dg0 xx ++ iaX cI (rf 5) 120 X))) (fun _ => (pm_cnt (fun _ => by simp only [List.countP_append, List.countP_nil, fT] <;> omega))) (fun _ Hp locs hP hD hS => ?_)
            by_cases q_328 : X pl = 115
            · skip
              rw [show (if (pl < L ∧ X pl = 115) then (1 : Int32) else 0) = nI 1 from if_pos ⟨hpl, q_328⟩]
              rw [if_pos (⟨hpl, q_328⟩ : (pl < L ∧ X pl = 115))] at hP hD
              refine lv_if_eq (tgt := 349) hx hb dX9_part_328 (by decide) (fun c_328 => absurd c_328 (by decide +kernel)) (fun _ => ?_)
              refine lv_aload_n hx hb dX9_part_331 rfl (lv_at hl 0 rfl) ?_
              refine lv_iconst (v := (nI 0)) hx hb dX9_part_332 (by decide) ?_
              refine lv_aload_n hx hb dX9_part_333 rfl (lv_at hl 0 rfl) ?_
              refine gf_n (C := RX9) (T := TX9) (N := 15) (ci := 9) (q0 := 0) (v := .int (nI hs)) hx hb hts (iU inlX9) hown hK hP rfl rfl 11 (by decide) (kU u_260) rfl rfl dX9_part_334 ?_
              refine lv_iconst (v := (nI 1)) hx hb dX9_part_337 (by decide) ?_
              refine lv_isub hx hb dX9_part_338 ?_
              rw [pk_sub (a := hs) (b := 1) (by omega)]
              refine gp_V (ci := 9) (q0 := 0) (cq := (RX9, TX9, 15)) (c_X9_digitTo l D cI cZ cF cL mr rf st L th (pl + 1) hs vs dg0 xx X 0 (hs - 1) hL hXt (by omega) (by omega) (by omega)) (gUV u_271 u_272 u_273 u_5 u_274) rfl hdV_X9_digitTo ⟨Nat.le_of_ble_eq_true rfl, Nat.le_of_ble_eq_true rfl⟩ ⟨rfl, rfl⟩ hx hb hml hown hts hK hA hP hD hS hl.1 ⟨Nat.le_of_ble_eq_true rfl, Nat.le_of_ble_eq_true rfl⟩ rfl rfl rfl (wr := ([] : va_W)) (pm_cnt (fun _ => by simp only [List.countP_append, List.countP_nil, fT] <;> omega)) (fun _ => by simp only [List.map_append, List.map_nil, fX_m, bX_m, sX_m, pX_m, iaX_m, r5X_m, r6X_m, fT_m, hX_m, tX_m, xX_m, sgX_m, zaX_m, fsB_a, qX_m, mX_m]) (rest := []) rfl rfl (Nat.le_of_ble_eq_true rfl) dX9_part_339 (ws2 := (fun _ : Unit => (mX mr rf st L th (plD X L (pl + 1) 0 (hs - 1)) hs vs (dgI X L (pl + 1)) xx ++ iaX cI (rf 5) 120 X))) (fun _ => (pm_cnt (fun _ => by simp only [List.countP_append, List.countP_nil, fT] <;> omega))) (fun _ Hp locs hP hD hS => ?_)
              rcases k1 : dg X L (pl + 1) 0 (hs - 1) with _ | d1
              · skip
                rw [show (if (none : Option Nat).isSome = true then (1 : Int32) else 0) = nI 0 from rfl]
                rw [plD_n k1] at hP hD
                refine lv_if_eq (tgt := 349) hx hb dX9_part_342 (by decide) (fun _ => ?_) (fun c_342 => absurd (by decide +kernel) c_342)
                refine lv_iconst (v := (nI 0)) hx hb dX9_part_349 (by decide) ?_
                refine lv_istore_n (lv' := [(2, .int (nI 0)), (0, .ref mr), (1, .int (nI 0))]) hx hb dX9_part_350 rfl hl (by decide) rfl (fun ls hl => ?_)
                refine lv_iload_n hx hb dX9_part_351 rfl (lv_at hl 0 rfl) ?_
                refine lv_if_eq (tgt := 374) hx hb dX9_part_352 (by decide) (fun _ => ?_) (fun c_352 => absurd (by decide +kernel) c_352)
                refine lv_iload_n hx hb dX9_part_374 rfl (lv_at hl 0 rfl) ?_
                exact ct_z ((dgI X L (pl + 1))) hx hb hr hlocks (by first | (rw [rpP_s (by omega) (by omega) (by omega) (by omega), rpS_1 k1, hsP_f (by omega), vsP_f (by omega)]; exact hP) | (rw [rpP_s (by omega) (by omega) (by omega) (by omega), rpS_2 k1, hsP_f (by omega), vsP_f (by omega)]; exact hP) | (rw [rpP_n (by omega) (by omega) (by omega) (by omega), hsP_f (by omega), vsP_f (by omega)]; exact hP)) hS (by first | (rw [rpP_s (by omega) (by omega) (by omega) (by omega), rpS_1 k1]; rfl) | (rw [rpP_s (by omega) (by omega) (by omega) (by omega), rpS_2 k1]; rfl) | (rw [rpP_n (by omega) (by omega) (by omega) (by omega)]; rfl)) dX9_part_375
              · skip
                rw [show (if (some d1).isSome = true then (1 : Int32) else 0) = nI 1 from rfl]
                rw [plD_s k1, dgI_s k1] at hP hD
                obtain ⟨b1_k1, b2_k1, -, -⟩ := dg_le k1
                refine lv_if_eq (tgt := 349) hx hb dX9_part_342 (by decide) (fun c_342 => absurd c_342 (by decide +kernel)) (fun _ => ?_)
                refine lv_iconst (v := (nI 1)) hx hb dX9_part_345 (by decide) ?_
                refine lv_goto (tgt := 350) hx hb dX9_part_346 (by decide) ?_
                refine lv_istore_n (lv' := [(2, .int (nI 1)), (0, .ref mr), (1, .int (nI 0))]) hx hb dX9_part_350 rfl hl (by decide) rfl (fun ls hl => ?_)
                refine lv_iload_n hx hb dX9_part_351 rfl (lv_at hl 0 rfl) ?_
                refine lv_if_eq (tgt := 374) hx hb dX9_part_352 (by decide) (fun c_352 => absurd c_352 (by decide +kernel)) (fun _ => ?_)
                refine lv_iload_n hx hb dX9_part_355 rfl (lv_at hl 2 rfl) ?_
                refine lv_if_eq (tgt := 374) hx hb dX9_part_356 (by decide) (fun _ => ?_) (fun c_356 => absurd (by decide +kernel) c_356)
                refine lv_iload_n hx hb dX9_part_374 rfl (lv_at hl 0 rfl) ?_
                exact ct_z ((nI d1)) hx hb hr hlocks (by first | (rw [rpP_s (by omega) (by omega) (by omega) (by omega), rpS_1 k1, hsP_f (by omega), vsP_f (by omega)]; exact hP) | (rw [rpP_s (by omega) (by omega) (by omega) (by omega), rpS_2 k1, hsP_f (by omega), vsP_f (by omega)]; exact hP) | (rw [rpP_n (by omega) (by omega) (by omega) (by omega), hsP_f (by omega), vsP_f (by omega)]; exact hP)) hS (by first | (rw [rpP_s (by omega) (by omega) (by omega) (by omega), rpS_1 k1]; rfl) | (rw [rpP_s (by omega) (by omega) (by omega) (by omega), rpS_2 k1]; rfl) | (rw [rpP_n (by omega) (by omega) (by omega) (by omega)]; rfl)) dX9_part_375
            · skip
              rw [show (if (pl < L ∧ X pl = 115) then (1 : Int32) else 0) = nI 0 from if_neg (fun z => q_328 z.2)]
              rw [if_neg (show ¬ (pl < L ∧ X pl = 115) from fun z => q_328 z.2)] at hP hD
              refine lv_if_eq (tgt := 349) hx hb dX9_part_328 (by decide) (fun _ => ?_) (fun c_328 => absurd (by decide +kernel) c_328)
              refine lv_iconst (v := (nI 0)) hx hb dX9_part_349 (by decide) ?_
              refine lv_istore_n (lv' := [(2, .int (nI 0)), (0, .ref mr), (1, .int (nI 0))]) hx hb dX9_part_350 rfl hl (by decide) rfl (fun ls hl => ?_)
              refine lv_iload_n hx hb dX9_part_351 rfl (lv_at hl 0 rfl) ?_
              refine lv_if_eq (tgt := 374) hx hb dX9_part_352 (by decide) (fun _ => ?_) (fun c_352 => absurd (by decide +kernel) c_352)
              refine lv_iload_n hx hb dX9_part_374 rfl (lv_at hl 0 rfl) ?_
              exact ct_z (dg0) hx hb hr hlocks (by first | (rw [rpP_s (by omega) (by omega) (by omega) (by omega), rpS_1 k1, hsP_f (by omega), vsP_f (by omega)]; exact hP) | (rw [rpP_s (by omega) (by omega) (by omega) (by omega), rpS_2 k1, hsP_f (by omega), vsP_f (by omega)]; exact hP) | (rw [rpP_n (by omega) (by omega) (by omega) (by omega), hsP_f (by omega), vsP_f (by omega)]; exact hP)) hS (by first | (rw [rpP_s (by omega) (by omega) (by omega) (by omega), rpS_1 k1]; rfl) | (rw [rpP_s (by omega) (by omega) (by omega) (by omega), rpS_2 k1]; rfl) | (rw [rpP_n (by omega) (by omega) (by omega) (by omega)]; rfl)) dX9_part_375
        · skip
          replace c_211 := cn_nle (b := 0) (by omega) (by omega) c_211
          refine lv_aload_n hx hb dX9_part_214 rfl (lv_at hl 0 rfl) ?_
          refine lv_bipush (v := (nI 108)) hx hb dX9_part_215 (by decide) ?_
          refine gp_V (ci := 9) (q0 := 0) (cq := (RX9, TX9, 15)) (c_X9_letter l D cI cZ cF cL mr rf st L th pl hs vs dg0 xx X 108 hL hXt hpp (by decide)) (gUV u_262 u_263 u_264 u_5 u_265) rfl hdV_X9_letter ⟨Nat.le_of_ble_eq_true rfl, Nat.le_of_ble_eq_true rfl⟩ ⟨rfl, rfl⟩ hx hb hml hown hts hK hA hP hD hS hl.1 ⟨Nat.le_of_ble_eq_true rfl, Nat.le_of_ble_eq_true rfl⟩ rfl rfl rfl (wr := ([] : va_W)) (pm_cnt (fun _ => by simp only [List.countP_append, List.countP_nil, fT] <;> omega)) (fun _ => by simp only [List.map_append, List.map_nil, fX_m, bX_m, sX_m, pX_m, iaX_m, r5X_m, r6X_m, fT_m, hX_m, tX_m, xX_m, sgX_m, zaX_m, fsB_a, qX_m, mX_m]) (rest := []) rfl rfl (Nat.le_of_ble_eq_true rfl) dX9_part_217 (ws2 := (fun _ : Unit => (mX mr rf st L th (if (pl < L ∧ X pl = 108) then pl + 1 else pl) hs vs dg0 xx ++ iaX cI (rf 5) 120 X))) (fun _ => (pm_cnt (fun _ => by simp only [List.countP_append, List.countP_nil, fT] <;> omega))) (fun _ Hp locs hP hD hS => ?_)
          by_cases q_220 : X pl = 108
          · skip
            rw [show (if (pl < L ∧ X pl = 108) then (1 : Int32) else 0) = nI 1 from if_pos ⟨hpl, q_220⟩]
            rw [if_pos (⟨hpl, q_220⟩ : (pl < L ∧ X pl = 108))] at hP hD
            refine lv_if_eq (tgt := 315) hx hb dX9_part_220 (by decide) (fun c_220 => absurd c_220 (by decide +kernel)) (fun _ => ?_)
            refine lv_aload_n hx hb dX9_part_223 rfl (lv_at hl 0 rfl) ?_
            refine lv_iconst (v := (nI 0)) hx hb dX9_part_224 (by decide) ?_
            refine lv_aload_n hx hb dX9_part_225 rfl (lv_at hl 0 rfl) ?_
            refine gf_n (C := RX9) (T := TX9) (N := 15) (ci := 9) (q0 := 0) (v := .int (nI hs)) hx hb hts (iU inlX9) hown hK hP rfl rfl 11 (by decide) (kU u_260) rfl rfl dX9_part_226 ?_
            refine lv_iconst (v := (nI 1)) hx hb dX9_part_229 (by decide) ?_
            refine lv_isub hx hb dX9_part_230 ?_
            rw [pk_sub (a := hs) (b := 1) (by omega)]
            refine gp_V (ci := 9) (q0 := 0) (cq := (RX9, TX9, 15)) (c_X9_digitTo l D cI cZ cF cL mr rf st L th (pl + 1) hs vs dg0 xx X 0 (hs - 1) hL hXt (by omega) (by omega) (by omega)) (gUV u_271 u_272 u_273 u_5 u_274) rfl hdV_X9_digitTo ⟨Nat.le_of_ble_eq_true rfl, Nat.le_of_ble_eq_true rfl⟩ ⟨rfl, rfl⟩ hx hb hml hown hts hK hA hP hD hS hl.1 ⟨Nat.le_of_ble_eq_true rfl, Nat.le_of_ble_eq_true rfl⟩ rfl rfl rfl (wr := ([] : va_W)) (pm_cnt (fun _ => by simp only [List.countP_append, List.countP_nil, fT] <;> omega)) (fun _ => by simp only [List.map_append, List.map_nil, fX_m, bX_m, sX_m, pX_m, iaX_m, r5X_m, r6X_m, fT_m, hX_m, tX_m, xX_m, sgX_m, zaX_m, fsB_a, qX_m, mX_m]) (rest := []) rfl rfl (Nat.le_of_ble_eq_true rfl) dX9_part_231 (ws2 := (fun _ : Unit => (mX mr rf st L th (plD X L (pl + 1) 0 (hs - 1)) hs vs (dgI X L (pl + 1)) xx ++ iaX cI (rf 5) 120 X))) (fun _ => (pm_cnt (fun _ => by simp only [List.countP_append, List.countP_nil, fT] <;> omega))) (fun _ Hp locs hP hD hS => ?_)
            rcases k1 : dg X L (pl + 1) 0 (hs - 1) with _ | d1
            · skip
              rw [show (if (none : Option Nat).isSome = true then (1 : Int32) else 0) = nI 0 from rfl]
              rw [plD_n k1] at hP hD
              refine lv_istore_n (lv' := [(2, .int (nI 0)), (0, .ref mr), (1, .int (nI 0))]) hx hb dX9_part_234 rfl hl (by decide) rfl (fun ls hl => ?_)
              refine lv_aload_n hx hb dX9_part_235 rfl (lv_at hl 1 rfl) ?_
              refine gf_n (C := RX9) (T := TX9) (N := 15) (ci := 9) (q0 := 0) (v := .int (dgI X L (pl + 1))) hx hb hts (iU inlX9) hown hK hP rfl rfl 13 (by decide) (kU u_270) rfl rfl dX9_part_236 ?_
              refine lv_istore_n (lv' := [(3, .int (dgI X L (pl + 1))), (2, .int (nI 0)), (0, .ref mr), (1, .int (nI 0))]) hx hb dX9_part_239 rfl hl (by decide) rfl (fun ls hl => ?_)
              refine lv_iload_n hx hb dX9_part_240 rfl (lv_at hl 1 rfl) ?_
              refine lv_if_eq (tgt := 262) hx hb dX9_part_241 (by decide) (fun _ => ?_) (fun c_241 => absurd (by decide +kernel) c_241)
              refine lv_iconst (v := (nI 0)) hx hb dX9_part_262 (by decide) ?_
              refine lv_istore_n (lv' := [(2, .int (nI 0)), (3, .int (dgI X L (pl + 1))), (0, .ref mr), (1, .int (nI 0))]) hx hb dX9_part_263 rfl hl (by decide) rfl (fun ls hl => ?_)
              refine lv_aload_n hx hb dX9_part_264 rfl (lv_at hl 2 rfl) ?_
              refine gf_n (C := RX9) (T := TX9) (N := 15) (ci := 9) (q0 := 0) (v := .int (dgI X L (pl + 1))) hx hb hts (iU inlX9) hown hK hP rfl rfl 13 (by decide) (kU u_270) rfl rfl dX9_part_265 ?_
              refine lv_istore (lv' := [(4, .int (dgI X L (pl + 1))), (2, .int (nI 0)), (3, .int (dgI X L (pl + 1))), (0, .ref mr), (1, .int (nI 0))]) hx hb dX9_part_268 hl (by decide) rfl (fun ls hl => ?_)
              refine lv_iload_n hx hb dX9_part_270 rfl (lv_at hl 1 rfl) ?_
              refine lv_if_eq (tgt := 288) hx hb dX9_part_271 (by decide) (fun _ => ?_) (fun c_271 => absurd (by decide +kernel) c_271)
              refine lv_iconst (v := (nI 0)) hx hb dX9_part_288 (by decide) ?_
              refine lv_istore_n (lv' := [(2, .int (nI 0)), (4, .int (dgI X L (pl + 1))), (3, .int (dgI X L (pl + 1))), (0, .ref mr), (1, .int (nI 0))]) hx hb dX9_part_289 rfl hl (by decide) rfl (fun ls hl => ?_)
              refine lv_iload_n hx hb dX9_part_290 rfl (lv_at hl 0 rfl) ?_
              refine lv_if_eq (tgt := 313) hx hb dX9_part_291 (by decide) (fun _ => ?_) (fun c_291 => absurd (by decide +kernel) c_291)
              refine lv_iload_n hx hb dX9_part_313 rfl (lv_at hl 0 rfl) ?_
              exact ct_z ((dgI X L (pl + 1))) hx hb hr hlocks (by first | (rw [rpP_l (by omega) (by omega) (by omega), rpL_1 k1, hsP_f (by omega), vsP_f (by omega)]; exact hP) | (rw [rpP_l (by omega) (by omega) (by omega), rpL_2 k1 k2, hsP_f (by omega), vsP_f (by omega)]; exact hP) | (rw [rpP_l (by omega) (by omega) (by omega), rpL_3 k1 k2 k3, hsP_f (by omega), vsP_f (by omega)]; exact hP) | (rw [rpP_l (by omega) (by omega) (by omega), rpL_4 k1 k2 k3, hsP_f (by omega), vsP_f (by omega)]; exact hP)) hS (by first | (rw [rpP_l (by omega) (by omega) (by omega), rpL_1 k1]; rfl) | (rw [rpP_l (by omega) (by omega) (by omega), rpL_2 k1 k2]; rfl) | (rw [rpP_l (by omega) (by omega) (by omega), rpL_3 k1 k2 k3]; rfl) | (rw [rpP_l (by omega) (by omega) (by omega), rpL_4 k1 k2 k3]; rfl)) dX9_part_314
            · skip
              rw [show (if (some d1).isSome = true then (1 : Int32) else 0) = nI 1 from rfl]
              rw [plD_s k1, dgI_s k1] at hP hD
              obtain ⟨b1_k1, b2_k1, -, -⟩ := dg_le k1
              refine lv_istore_n (lv' := [(2, .int (nI 1)), (0, .ref mr), (1, .int (nI 0))]) hx hb dX9_part_234 rfl hl (by decide) rfl (fun ls hl => ?_)
              refine lv_aload_n hx hb dX9_part_235 rfl (lv_at hl 1 rfl) ?_
              refine gf_n (C := RX9) (T := TX9) (N := 15) (ci := 9) (q0 := 0) (v := .int (nI d1)) hx hb hts (iU inlX9) hown hK hP rfl rfl 13 (by decide) (kU u_270) rfl rfl dX9_part_236 ?_
              refine lv_istore_n (lv' := [(3, .int (nI d1)), (2, .int (nI 1)), (0, .ref mr), (1, .int (nI 0))]) hx hb dX9_part_239 rfl hl (by decide) rfl (fun ls hl => ?_)
              refine lv_iload_n hx hb dX9_part_240 rfl (lv_at hl 1 rfl) ?_
              refine lv_if_eq (tgt := 262) hx hb dX9_part_241 (by decide) (fun c_241 => absurd c_241 (by decide +kernel)) (fun _ => ?_)
              refine lv_aload_n hx hb dX9_part_244 rfl (lv_at hl 2 rfl) ?_
              refine lv_iconst (v := (nI 0)) hx hb dX9_part_245 (by decide) ?_
              refine lv_aload_n hx hb dX9_part_246 rfl (lv_at hl 2 rfl) ?_
              refine gf_n (C := RX9) (T := TX9) (N := 15) (ci := 9) (q0 := 0) (v := .int (nI vs)) hx hb hts (iU inlX9) hown hK hP rfl rfl 12 (by decide) (kU u_261) rfl rfl dX9_part_247 ?_
              refine lv_iconst (v := (nI 1)) hx hb dX9_part_250 (by decide) ?_
              refine lv_isub hx hb dX9_part_251 ?_
              rw [pk_sub (a := vs) (b := 1) (by omega)]
              refine gp_V (ci := 9) (q0 := 0) (cq := (RX9, TX9, 15)) (c_X9_digitTo l D cI cZ cF cL mr rf st L th (pl + 1 + 1) hs vs ((nI d1)) xx X 0 (vs - 1) hL hXt (by omega) (by omega) (by omega)) (gUV u_271 u_272 u_273 u_5 u_274) rfl hdV_X9_digitTo ⟨Nat.le_of_ble_eq_true rfl, Nat.le_of_ble_eq_true rfl⟩ ⟨rfl, rfl⟩ hx hb hml hown hts hK hA hP hD hS hl.1 ⟨Nat.le_of_ble_eq_true rfl, Nat.le_of_ble_eq_true rfl⟩ rfl rfl rfl (wr := ([] : va_W)) (pm_cnt (fun _ => by simp only [List.countP_append, List.countP_nil, fT] <;> omega)) (fun _ => by simp only [List.map_append, List.map_nil, fX_m, bX_m, sX_m, pX_m, iaX_m, r5X_m, r6X_m, fT_m, hX_m, tX_m, xX_m, sgX_m, zaX_m, fsB_a, qX_m, mX_m]) (rest := []) rfl rfl (Nat.le_of_ble_eq_true rfl) dX9_part_252 (ws2 := (fun _ : Unit => (mX mr rf st L th (plD X L (pl + 1 + 1) 0 (vs - 1)) hs vs (dgI X L (pl + 1 + 1)) xx ++ iaX cI (rf 5) 120 X))) (fun _ => (pm_cnt (fun _ => by simp only [List.countP_append, List.countP_nil, fT] <;> omega))) (fun _ Hp locs hP hD hS => ?_)
              rcases k2 : dg X L ((pl + 1) + 1) 0 (vs - 1) with _ | d2
              · skip
                rw [show (if (none : Option Nat).isSome = true then (1 : Int32) else 0) = nI 0 from rfl]
                rw [plD_n k2] at hP hD
                refine lv_if_eq (tgt := 262) hx hb dX9_part_255 (by decide) (fun _ => ?_) (fun c_255 => absurd (by decide +kernel) c_255)
                refine lv_iconst (v := (nI 0)) hx hb dX9_part_262 (by decide) ?_
                refine lv_istore_n (lv' := [(2, .int (nI 0)), (3, .int (nI d1)), (0, .ref mr), (1, .int (nI 0))]) hx hb dX9_part_263 rfl hl (by decide) rfl (fun ls hl => ?_)
                refine lv_aload_n hx hb dX9_part_264 rfl (lv_at hl 2 rfl) ?_
                refine gf_n (C := RX9) (T := TX9) (N := 15) (ci := 9) (q0 := 0) (v := .int (dgI X L (pl + 1 + 1))) hx hb hts (iU inlX9) hown hK hP rfl rfl 13 (by decide) (kU u_270) rfl rfl dX9_part_265 ?_
                refine lv_istore (lv' := [(4, .int (dgI X L (pl + 1 + 1))), (2, .int (nI 0)), (3, .int (nI d1)), (0, .ref mr), (1, .int (nI 0))]) hx hb dX9_part_268 hl (by decide) rfl (fun ls hl => ?_)
                refine lv_iload_n hx hb dX9_part_270 rfl (lv_at hl 1 rfl) ?_
                refine lv_if_eq (tgt := 288) hx hb dX9_part_271 (by decide) (fun _ => ?_) (fun c_271 => absurd (by decide +kernel) c_271)
                refine lv_iconst (v := (nI 0)) hx hb dX9_part_288 (by decide) ?_
                refine lv_istore_n (lv' := [(2, .int (nI 0)), (4, .int (dgI X L (pl + 1 + 1))), (3, .int (nI d1)), (0, .ref mr), (1, .int (nI 0))]) hx hb dX9_part_289 rfl hl (by decide) rfl (fun ls hl => ?_)
                refine lv_iload_n hx hb dX9_part_290 rfl (lv_at hl 0 rfl) ?_
                refine lv_if_eq (tgt := 313) hx hb dX9_part_291 (by decide) (fun _ => ?_) (fun c_291 => absurd (by decide +kernel) c_291)
                refine lv_iload_n hx hb dX9_part_313 rfl (lv_at hl 0 rfl) ?_
                exact ct_z ((dgI X L (pl + 1 + 1))) hx hb hr hlocks (by first | (rw [rpP_l (by omega) (by omega) (by omega), rpL_1 k1, hsP_f (by omega), vsP_f (by omega)]; exact hP) | (rw [rpP_l (by omega) (by omega) (by omega), rpL_2 k1 k2, hsP_f (by omega), vsP_f (by omega)]; exact hP) | (rw [rpP_l (by omega) (by omega) (by omega), rpL_3 k1 k2 k3, hsP_f (by omega), vsP_f (by omega)]; exact hP) | (rw [rpP_l (by omega) (by omega) (by omega), rpL_4 k1 k2 k3, hsP_f (by omega), vsP_f (by omega)]; exact hP)) hS (by first | (rw [rpP_l (by omega) (by omega) (by omega), rpL_1 k1]; rfl) | (rw [rpP_l (by omega) (by omega) (by omega), rpL_2 k1 k2]; rfl) | (rw [rpP_l (by omega) (by omega) (by omega), rpL_3 k1 k2 k3]; rfl) | (rw [rpP_l (by omega) (by omega) (by omega), rpL_4 k1 k2 k3]; rfl)) dX9_part_314
              · skip
                rw [show (if (some d2).isSome = true then (1 : Int32) else 0) = nI 1 from rfl]
                rw [plD_s k2, dgI_s k2] at hP hD
                obtain ⟨b1_k2, b2_k2, -, -⟩ := dg_le k2
                refine lv_if_eq (tgt := 262) hx hb dX9_part_255 (by decide) (fun c_255 => absurd c_255 (by decide +kernel)) (fun _ => ?_)
                refine lv_iconst (v := (nI 1)) hx hb dX9_part_258 (by decide) ?_
                refine lv_goto (tgt := 263) hx hb dX9_part_259 (by decide) ?_
                refine lv_istore_n (lv' := [(2, .int (nI 1)), (3, .int (nI d1)), (0, .ref mr), (1, .int (nI 0))]) hx hb dX9_part_263 rfl hl (by decide) rfl (fun ls hl => ?_)
                refine lv_aload_n hx hb dX9_part_264 rfl (lv_at hl 2 rfl) ?_
                refine gf_n (C := RX9) (T := TX9) (N := 15) (ci := 9) (q0 := 0) (v := .int (nI d2)) hx hb hts (iU inlX9) hown hK hP rfl rfl 13 (by decide) (kU u_270) rfl rfl dX9_part_265 ?_
                refine lv_istore (lv' := [(4, .int (nI d2)), (2, .int (nI 1)), (3, .int (nI d1)), (0, .ref mr), (1, .int (nI 0))]) hx hb dX9_part_268 hl (by decide) rfl (fun ls hl => ?_)
                refine lv_iload_n hx hb dX9_part_270 rfl (lv_at hl 1 rfl) ?_
                refine lv_if_eq (tgt := 288) hx hb dX9_part_271 (by decide) (fun c_271 => absurd c_271 (by decide +kernel)) (fun _ => ?_)
                refine lv_aload_n hx hb dX9_part_274 rfl (lv_at hl 3 rfl) ?_
                refine lv_iconst (v := (nI 0)) hx hb dX9_part_275 (by decide) ?_
                refine lv_bipush (v := (nI 9)) hx hb dX9_part_276 (by decide) ?_
                refine gp_V (ci := 9) (q0 := 0) (cq := (RX9, TX9, 15)) (c_X9_digitTo l D cI cZ cF cL mr rf st L th ((pl + 1) + 1 + 1) hs vs ((nI d2)) xx X 0 9 hL hXt (by omega) (by omega) (by omega)) (gUV u_271 u_272 u_273 u_5 u_274) rfl hdV_X9_digitTo ⟨Nat.le_of_ble_eq_true rfl, Nat.le_of_ble_eq_true rfl⟩ ⟨rfl, rfl⟩ hx hb hml hown hts hK hA hP hD hS hl.1 ⟨Nat.le_of_ble_eq_true rfl, Nat.le_of_ble_eq_true rfl⟩ rfl rfl rfl (wr := ([] : va_W)) (pm_cnt (fun _ => by simp only [List.countP_append, List.countP_nil, fT] <;> omega)) (fun _ => by simp only [List.map_append, List.map_nil, fX_m, bX_m, sX_m, pX_m, iaX_m, r5X_m, r6X_m, fT_m, hX_m, tX_m, xX_m, sgX_m, zaX_m, fsB_a, qX_m, mX_m]) (rest := []) rfl rfl (Nat.le_of_ble_eq_true rfl) dX9_part_278 (ws2 := (fun _ : Unit => (mX mr rf st L th (plD X L ((pl + 1) + 1 + 1) 0 9) hs vs (dgI X L ((pl + 1) + 1 + 1)) xx ++ iaX cI (rf 5) 120 X))) (fun _ => (pm_cnt (fun _ => by simp only [List.countP_append, List.countP_nil, fT] <;> omega))) (fun _ Hp locs hP hD hS => ?_)
                rcases k3 : dg X L (((pl + 1) + 1) + 1) 0 9 with _ | d3
                · skip
                  rw [show (if (none : Option Nat).isSome = true then (1 : Int32) else 0) = nI 0 from rfl]
                  rw [plD_n k3] at hP hD
                  refine lv_if_eq (tgt := 288) hx hb dX9_part_281 (by decide) (fun _ => ?_) (fun c_281 => absurd (by decide +kernel) c_281)
                  refine lv_iconst (v := (nI 0)) hx hb dX9_part_288 (by decide) ?_
                  refine lv_istore_n (lv' := [(2, .int (nI 0)), (4, .int (nI d2)), (3, .int (nI d1)), (0, .ref mr), (1, .int (nI 0))]) hx hb dX9_part_289 rfl hl (by decide) rfl (fun ls hl => ?_)
                  refine lv_iload_n hx hb dX9_part_290 rfl (lv_at hl 0 rfl) ?_
                  refine lv_if_eq (tgt := 313) hx hb dX9_part_291 (by decide) (fun _ => ?_) (fun c_291 => absurd (by decide +kernel) c_291)
                  refine lv_iload_n hx hb dX9_part_313 rfl (lv_at hl 0 rfl) ?_
                  exact ct_z ((dgI X L ((pl + 1) + 1 + 1))) hx hb hr hlocks (by first | (rw [rpP_l (by omega) (by omega) (by omega), rpL_1 k1, hsP_f (by omega), vsP_f (by omega)]; exact hP) | (rw [rpP_l (by omega) (by omega) (by omega), rpL_2 k1 k2, hsP_f (by omega), vsP_f (by omega)]; exact hP) | (rw [rpP_l (by omega) (by omega) (by omega), rpL_3 k1 k2 k3, hsP_f (by omega), vsP_f (by omega)]; exact hP) | (rw [rpP_l (by omega) (by omega) (by omega), rpL_4 k1 k2 k3, hsP_f (by omega), vsP_f (by omega)]; exact hP)) hS (by first | (rw [rpP_l (by omega) (by omega) (by omega), rpL_1 k1]; rfl) | (rw [rpP_l (by omega) (by omega) (by omega), rpL_2 k1 k2]; rfl) | (rw [rpP_l (by omega) (by omega) (by omega), rpL_3 k1 k2 k3]; rfl) | (rw [rpP_l (by omega) (by omega) (by omega), rpL_4 k1 k2 k3]; rfl)) dX9_part_314
                · skip
                  rw [show (if (some d3).isSome = true then (1 : Int32) else 0) = nI 1 from rfl]
                  rw [plD_s k3, dgI_s k3] at hP hD
                  obtain ⟨b1_k3, b2_k3, -, -⟩ := dg_le k3
                  refine lv_if_eq (tgt := 288) hx hb dX9_part_281 (by decide) (fun c_281 => absurd c_281 (by decide +kernel)) (fun _ => ?_)
                  refine lv_iconst (v := (nI 1)) hx hb dX9_part_284 (by decide) ?_
                  refine lv_goto (tgt := 289) hx hb dX9_part_285 (by decide) ?_
                  refine lv_istore_n (lv' := [(2, .int (nI 1)), (4, .int (nI d2)), (3, .int (nI d1)), (0, .ref mr), (1, .int (nI 0))]) hx hb dX9_part_289 rfl hl (by decide) rfl (fun ls hl => ?_)
                  refine lv_iload_n hx hb dX9_part_290 rfl (lv_at hl 0 rfl) ?_
                  refine lv_if_eq (tgt := 313) hx hb dX9_part_291 (by decide) (fun c_291 => absurd c_291 (by decide +kernel)) (fun _ => ?_)
                  refine lv_iload_n hx hb dX9_part_294 rfl (lv_at hl 4 rfl) ?_
                  refine lv_if_eq (tgt := 313) hx hb dX9_part_295 (by decide) (fun _ => ?_) (fun c_295 => absurd (by decide +kernel) c_295)
                  refine lv_iload_n hx hb dX9_part_313 rfl (lv_at hl 0 rfl) ?_
                  exact ct_z ((nI d3)) hx hb hr hlocks (by first | (rw [rpP_l (by omega) (by omega) (by omega), rpL_1 k1, hsP_f (by omega), vsP_f (by omega)]; exact hP) | (rw [rpP_l (by omega) (by omega) (by omega), rpL_2 k1 k2, hsP_f (by omega), vsP_f (by omega)]; exact hP) | (rw [rpP_l (by omega) (by omega) (by omega), rpL_3 k1 k2 k3, hsP_f (by omega), vsP_f (by omega)]; exact hP) | (rw [rpP_l (by omega) (by omega) (by omega), rpL_4 k1 k2 k3, hsP_f (by omega), vsP_f (by omega)]; exact hP)) hS (by first | (rw [rpP_l (by omega) (by omega) (by omega), rpL_1 k1]; rfl) | (rw [rpP_l (by omega) (by omega) (by omega), rpL_2 k1 k2]; rfl) | (rw [rpP_l (by omega) (by omega) (by omega), rpL_3 k1 k2 k3]; rfl) | (rw [rpP_l (by omega) (by omega) (by omega), rpL_4 k1 k2 k3]; rfl)) dX9_part_314
          · skip
            rw [show (if (pl < L ∧ X pl = 108) then (1 : Int32) else 0) = nI 0 from if_neg (fun z => q_220 z.2)]
            rw [if_neg (show ¬ (pl < L ∧ X pl = 108) from fun z => q_220 z.2)] at hP hD
            refine lv_if_eq (tgt := 315) hx hb dX9_part_220 (by decide) (fun _ => ?_) (fun c_220 => absurd (by decide +kernel) c_220)
            refine lv_aload_n hx hb dX9_part_315 rfl (lv_at hl 0 rfl) ?_
            refine gf_n (C := RX9) (T := TX9) (N := 15) (ci := 9) (q0 := 0) (v := .int (nI hs)) hx hb hts (iU inlX9) hown hK hP rfl rfl 11 (by decide) (kU u_260) rfl rfl dX9_part_316 ?_
            refine lv_if_le (tgt := 349) hx hb dX9_part_319 (by decide) (fun c_319 => ?_) (fun c_319 => ?_)
            · skip
              replace c_319 := cn_le (b := 0) (by omega) (by omega) c_319
              refine lv_iconst (v := (nI 0)) hx hb dX9_part_349 (by decide) ?_
              refine lv_istore_n (lv' := [(2, .int (nI 0)), (0, .ref mr), (1, .int (nI 0))]) hx hb dX9_part_350 rfl hl (by decide) rfl (fun ls hl => ?_)
              refine lv_iload_n hx hb dX9_part_351 rfl (lv_at hl 0 rfl) ?_
              refine lv_if_eq (tgt := 374) hx hb dX9_part_352 (by decide) (fun _ => ?_) (fun c_352 => absurd (by decide +kernel) c_352)
              refine lv_iload_n hx hb dX9_part_374 rfl (lv_at hl 0 rfl) ?_
              exact ct_z (dg0) hx hb hr hlocks (by first | (rw [rpP_s (by omega) (by omega) (by omega) (by omega), rpS_1 k1, hsP_f (by omega), vsP_f (by omega)]; exact hP) | (rw [rpP_s (by omega) (by omega) (by omega) (by omega), rpS_2 k1, hsP_f (by omega), vsP_f (by omega)]; exact hP) | (rw [rpP_n (by omega) (by omega) (by omega) (by omega), hsP_f (by omega), vsP_f (by omega)]; exact hP)) hS (by first | (rw [rpP_s (by omega) (by omega) (by omega) (by omega), rpS_1 k1]; rfl) | (rw [rpP_s (by omega) (by omega) (by omega) (by omega), rpS_2 k1]; rfl) | (rw [rpP_n (by omega) (by omega) (by omega) (by omega)]; rfl)) dX9_part_375
            · skip
              replace c_319 := cn_nle (b := 0) (by omega) (by omega) c_319
              refine lv_aload_n hx hb dX9_part_322 rfl (lv_at hl 0 rfl) ?_
              refine lv_bipush (v := (nI 115)) hx hb dX9_part_323 (by decide) ?_
              refine gp_V (ci := 9) (q0 := 0) (cq := (RX9, TX9, 15)) (c_X9_letter l D cI cZ cF cL mr rf st L th pl hs vs dg0 xx X 115 hL hXt hpp (by decide)) (gUV u_262 u_263 u_264 u_5 u_265) rfl hdV_X9_letter ⟨Nat.le_of_ble_eq_true rfl, Nat.le_of_ble_eq_true rfl⟩ ⟨rfl, rfl⟩ hx hb hml hown hts hK hA hP hD hS hl.1 ⟨Nat.le_of_ble_eq_true rfl, Nat.le_of_ble_eq_true rfl⟩ rfl rfl rfl (wr := ([] : va_W)) (pm_cnt (fun _ => by simp only [List.countP_append, List.countP_nil, fT] <;> omega)) (fun _ => by simp only [List.map_append, List.map_nil, fX_m, bX_m, sX_m, pX_m, iaX_m, r5X_m, r6X_m, fT_m, hX_m, tX_m, xX_m, sgX_m, zaX_m, fsB_a, qX_m, mX_m]) (rest := []) rfl rfl (Nat.le_of_ble_eq_true rfl) dX9_part_325 (ws2 := (fun _ : Unit => (mX mr rf st L th (if (pl < L ∧ X pl = 115) then pl + 1 else pl) hs vs dg0 xx ++ iaX cI (rf 5) 120 X))) (fun _ => (pm_cnt (fun _ => by simp only [List.countP_append, List.countP_nil, fT] <;> omega))) (fun _ Hp locs hP hD hS => ?_)
              by_cases q_328 : X pl = 115
              · skip
                rw [show (if (pl < L ∧ X pl = 115) then (1 : Int32) else 0) = nI 1 from if_pos ⟨hpl, q_328⟩]
                rw [if_pos (⟨hpl, q_328⟩ : (pl < L ∧ X pl = 115))] at hP hD
                refine lv_if_eq (tgt := 349) hx hb dX9_part_328 (by decide) (fun c_328 => absurd c_328 (by decide +kernel)) (fun _ => ?_)
                refine lv_aload_n hx hb dX9_part_331 rfl (lv_at hl 0 rfl) ?_
                refine lv_iconst (v := (nI 0)) hx hb dX9_part_332 (by decide) ?_
                refine lv_aload_n hx hb dX9_part_333 rfl (lv_at hl 0 rfl) ?_
                refine gf_n (C := RX9) (T := TX9) (N := 15) (ci := 9) (q0 := 0) (v := .int (nI hs)) hx hb hts (iU inlX9) hown hK hP rfl rfl 11 (by decide) (kU u_260) rfl rfl dX9_part_334 ?_
                refine lv_iconst (v := (nI 1)) hx hb dX9_part_337 (by decide) ?_
                refine lv_isub hx hb dX9_part_338 ?_
                rw [pk_sub (a := hs) (b := 1) (by omega)]
                refine gp_V (ci := 9) (q0 := 0) (cq := (RX9, TX9, 15)) (c_X9_digitTo l D cI cZ cF cL mr rf st L th (pl + 1) hs vs dg0 xx X 0 (hs - 1) hL hXt (by omega) (by omega) (by omega)) (gUV u_271 u_272 u_273 u_5 u_274) rfl hdV_X9_digitTo ⟨Nat.le_of_ble_eq_true rfl, Nat.le_of_ble_eq_true rfl⟩ ⟨rfl, rfl⟩ hx hb hml hown hts hK hA hP hD hS hl.1 ⟨Nat.le_of_ble_eq_true rfl, Nat.le_of_ble_eq_true rfl⟩ rfl rfl rfl (wr := ([] : va_W)) (pm_cnt (fun _ => by simp only [List.countP_append, List.countP_nil, fT] <;> omega)) (fun _ => by simp only [List.map_append, List.map_nil, fX_m, bX_m, sX_m, pX_m, iaX_m, r5X_m, r6X_m, fT_m, hX_m, tX_m, xX_m, sgX_m, zaX_m, fsB_a, qX_m, mX_m]) (rest := []) rfl rfl (Nat.le_of_ble_eq_true rfl) dX9_part_339 (ws2 := (fun _ : Unit => (mX mr rf st L th (plD X L (pl + 1) 0 (hs - 1)) hs vs (dgI X L (pl + 1)) xx ++ iaX cI (rf 5) 120 X))) (fun _ => (pm_cnt (fun _ => by simp only [List.countP_append, List.countP_nil, fT] <;> omega))) (fun _ Hp locs hP hD hS => ?_)
                rcases k1 : dg X L (pl + 1) 0 (hs - 1) with _ | d1
                · skip
                  rw [show (if (none : Option Nat).isSome = true then (1 : Int32) else 0) = nI 0 from rfl]
                  rw [plD_n k1] at hP hD
                  refine lv_if_eq (tgt := 349) hx hb dX9_part_342 (by decide) (fun _ => ?_) (fun c_342 => absurd (by decide +kernel) c_342)
                  refine lv_iconst (v := (nI 0)) hx hb dX9_part_349 (by decide) ?_
                  refine lv_istore_n (lv' := [(2, .int (nI 0)), (0, .ref mr), (1, .int (nI 0))]) hx hb dX9_part_350 rfl hl (by decide) rfl (fun ls hl => ?_)
                  refine lv_iload_n hx hb dX9_part_351 rfl (lv_at hl 0 rfl) ?_
                  refine lv_if_eq (tgt := 374) hx hb dX9_part_352 (by decide) (fun _ => ?_) (fun c_352 => absurd (by decide +kernel) c_352)
                  refine lv_iload_n hx hb dX9_part_374 rfl (lv_at hl 0 rfl) ?_
                  exact ct_z ((dgI X L (pl + 1))) hx hb hr hlocks (by first | (rw [rpP_s (by omega) (by omega) (by omega) (by omega), rpS_1 k1, hsP_f (by omega), vsP_f (by omega)]; exact hP) | (rw [rpP_s (by omega) (by omega) (by omega) (by omega), rpS_2 k1, hsP_f (by omega), vsP_f (by omega)]; exact hP) | (rw [rpP_n (by omega) (by omega) (by omega) (by omega), hsP_f (by omega), vsP_f (by omega)]; exact hP)) hS (by first | (rw [rpP_s (by omega) (by omega) (by omega) (by omega), rpS_1 k1]; rfl) | (rw [rpP_s (by omega) (by omega) (by omega) (by omega), rpS_2 k1]; rfl) | (rw [rpP_n (by omega) (by omega) (by omega) (by omega)]; rfl)) dX9_part_375
                · skip
                  rw [show (if (some d1).isSome = true then (1 : Int32) else 0) = nI 1 from rfl]
                  rw [plD_s k1, dgI_s k1] at hP hD
                  obtain ⟨b1_k1, b2_k1, -, -⟩ := dg_le k1
                  refine lv_if_eq (tgt := 349) hx hb dX9_part_342 (by decide) (fun c_342 => absurd c_342 (by decide +kernel)) (fun _ => ?_)
                  refine lv_iconst (v := (nI 1)) hx hb dX9_part_345 (by decide) ?_
                  refine lv_goto (tgt := 350) hx hb dX9_part_346 (by decide) ?_
                  refine lv_istore_n (lv' := [(2, .int (nI 1)), (0, .ref mr), (1, .int (nI 0))]) hx hb dX9_part_350 rfl hl (by decide) rfl (fun ls hl => ?_)
                  refine lv_iload_n hx hb dX9_part_351 rfl (lv_at hl 0 rfl) ?_
                  refine lv_if_eq (tgt := 374) hx hb dX9_part_352 (by decide) (fun c_352 => absurd c_352 (by decide +kernel)) (fun _ => ?_)
                  refine lv_iload_n hx hb dX9_part_355 rfl (lv_at hl 2 rfl) ?_
                  refine lv_if_eq (tgt := 374) hx hb dX9_part_356 (by decide) (fun _ => ?_) (fun c_356 => absurd (by decide +kernel) c_356)
                  refine lv_iload_n hx hb dX9_part_374 rfl (lv_at hl 0 rfl) ?_
                  exact ct_z ((nI d1)) hx hb hr hlocks (by first | (rw [rpP_s (by omega) (by omega) (by omega) (by omega), rpS_1 k1, hsP_f (by omega), vsP_f (by omega)]; exact hP) | (rw [rpP_s (by omega) (by omega) (by omega) (by omega), rpS_2 k1, hsP_f (by omega), vsP_f (by omega)]; exact hP) | (rw [rpP_n (by omega) (by omega) (by omega) (by omega), hsP_f (by omega), vsP_f (by omega)]; exact hP)) hS (by first | (rw [rpP_s (by omega) (by omega) (by omega) (by omega), rpS_1 k1]; rfl) | (rw [rpP_s (by omega) (by omega) (by omega) (by omega), rpS_2 k1]; rfl) | (rw [rpP_n (by omega) (by omega) (by omega) (by omega)]; rfl)) dX9_part_375
              · skip
                rw [show (if (pl < L ∧ X pl = 115) then (1 : Int32) else 0) = nI 0 from if_neg (fun z => q_328 z.2)]
                rw [if_neg (show ¬ (pl < L ∧ X pl = 115) from fun z => q_328 z.2)] at hP hD
                refine lv_if_eq (tgt := 349) hx hb dX9_part_328 (by decide) (fun _ => ?_) (fun c_328 => absurd (by decide +kernel) c_328)
                refine lv_iconst (v := (nI 0)) hx hb dX9_part_349 (by decide) ?_
                refine lv_istore_n (lv' := [(2, .int (nI 0)), (0, .ref mr), (1, .int (nI 0))]) hx hb dX9_part_350 rfl hl (by decide) rfl (fun ls hl => ?_)
                refine lv_iload_n hx hb dX9_part_351 rfl (lv_at hl 0 rfl) ?_
                refine lv_if_eq (tgt := 374) hx hb dX9_part_352 (by decide) (fun _ => ?_) (fun c_352 => absurd (by decide +kernel) c_352)
                refine lv_iload_n hx hb dX9_part_374 rfl (lv_at hl 0 rfl) ?_
                exact ct_z (dg0) hx hb hr hlocks (by first | (rw [rpP_s (by omega) (by omega) (by omega) (by omega), rpS_1 k1, hsP_f (by omega), vsP_f (by omega)]; exact hP) | (rw [rpP_s (by omega) (by omega) (by omega) (by omega), rpS_2 k1, hsP_f (by omega), vsP_f (by omega)]; exact hP) | (rw [rpP_n (by omega) (by omega) (by omega) (by omega), hsP_f (by omega), vsP_f (by omega)]; exact hP)) hS (by first | (rw [rpP_s (by omega) (by omega) (by omega) (by omega), rpS_1 k1]; rfl) | (rw [rpP_s (by omega) (by omega) (by omega) (by omega), rpS_2 k1]; rfl) | (rw [rpP_n (by omega) (by omega) (by omega) (by omega)]; rfl)) dX9_part_375
    · skip
      replace c_106 := cn_nle (by omega) (by omega) c_106
      refine lv_aload_n hx hb dX9_part_109 rfl (lv_at hl 0 rfl) ?_
      refine lv_bipush (v := (nI 118)) hx hb dX9_part_110 (by decide) ?_
      refine gp_V (ci := 9) (q0 := 0) (cq := (RX9, TX9, 15)) (c_X9_letter l D cI cZ cF cL mr rf st L th pl hs vs dg0 xx X 118 hL hXt hpp (by decide)) (gUV u_262 u_263 u_264 u_5 u_265) rfl hdV_X9_letter ⟨Nat.le_of_ble_eq_true rfl, Nat.le_of_ble_eq_true rfl⟩ ⟨rfl, rfl⟩ hx hb hml hown hts hK hA hP hD hS hl.1 ⟨Nat.le_of_ble_eq_true rfl, Nat.le_of_ble_eq_true rfl⟩ rfl rfl rfl (wr := ([] : va_W)) (pm_cnt (fun _ => by simp only [List.countP_append, List.countP_nil, fT] <;> omega)) (fun _ => by simp only [List.map_append, List.map_nil, fX_m, bX_m, sX_m, pX_m, iaX_m, r5X_m, r6X_m, fT_m, hX_m, tX_m, xX_m, sgX_m, zaX_m, fsB_a, qX_m, mX_m]) (rest := []) rfl rfl (Nat.le_of_ble_eq_true rfl) dX9_part_112 (ws2 := (fun _ : Unit => (mX mr rf st L th (if (pl < L ∧ X pl = 118) then pl + 1 else pl) hs vs dg0 xx ++ iaX cI (rf 5) 120 X))) (fun _ => (pm_cnt (fun _ => by simp only [List.countP_append, List.countP_nil, fT] <;> omega))) (fun _ Hp locs hP hD hS => ?_)
      by_cases q_115 : X pl = 118
      · skip
        rw [show (if (pl < L ∧ X pl = 118) then (1 : Int32) else 0) = nI 1 from if_pos ⟨hpl, q_115⟩]
        rw [if_pos (⟨hpl, q_115⟩ : (pl < L ∧ X pl = 118))] at hP hD
        refine lv_if_eq (tgt := 200) hx hb dX9_part_115 (by decide) (fun c_115 => absurd c_115 (by decide +kernel)) (fun _ => ?_)
        refine lv_aload_n hx hb dX9_part_118 rfl (lv_at hl 0 rfl) ?_
        refine lv_iconst (v := (nI 0)) hx hb dX9_part_119 (by decide) ?_
        refine lv_iconst (v := (nI 4)) hx hb dX9_part_120 (by decide) ?_
        refine gp_V (ci := 9) (q0 := 0) (cq := (RX9, TX9, 15)) (c_X9_digitTo l D cI cZ cF cL mr rf st L th (pl + 1) hs vs dg0 xx X 0 4 hL hXt (by omega) (by omega) (by omega)) (gUV u_271 u_272 u_273 u_5 u_274) rfl hdV_X9_digitTo ⟨Nat.le_of_ble_eq_true rfl, Nat.le_of_ble_eq_true rfl⟩ ⟨rfl, rfl⟩ hx hb hml hown hts hK hA hP hD hS hl.1 ⟨Nat.le_of_ble_eq_true rfl, Nat.le_of_ble_eq_true rfl⟩ rfl rfl rfl (wr := ([] : va_W)) (pm_cnt (fun _ => by simp only [List.countP_append, List.countP_nil, fT] <;> omega)) (fun _ => by simp only [List.map_append, List.map_nil, fX_m, bX_m, sX_m, pX_m, iaX_m, r5X_m, r6X_m, fT_m, hX_m, tX_m, xX_m, sgX_m, zaX_m, fsB_a, qX_m, mX_m]) (rest := []) rfl rfl (Nat.le_of_ble_eq_true rfl) dX9_part_121 (ws2 := (fun _ : Unit => (mX mr rf st L th (plD X L (pl + 1) 0 4) hs vs (dgI X L (pl + 1)) xx ++ iaX cI (rf 5) 120 X))) (fun _ => (pm_cnt (fun _ => by simp only [List.countP_append, List.countP_nil, fT] <;> omega))) (fun _ Hp locs hP hD hS => ?_)
        rcases k1 : dg X L (pl + 1) 0 4 with _ | d1
        · skip
          rw [show (if (none : Option Nat).isSome = true then (1 : Int32) else 0) = nI 0 from rfl]
          rw [plD_n k1] at hP hD
          refine lv_istore_n (lv' := [(2, .int (nI 0)), (0, .ref mr), (1, .int (nI 0))]) hx hb dX9_part_124 rfl hl (by decide) rfl (fun ls hl => ?_)
          refine lv_aload_n hx hb dX9_part_125 rfl (lv_at hl 1 rfl) ?_
          refine gf_n (C := RX9) (T := TX9) (N := 15) (ci := 9) (q0 := 0) (v := .int (dgI X L (pl + 1))) hx hb hts (iU inlX9) hown hK hP rfl rfl 13 (by decide) (kU u_270) rfl rfl dX9_part_126 ?_
          refine lv_istore_n (lv' := [(3, .int (dgI X L (pl + 1))), (2, .int (nI 0)), (0, .ref mr), (1, .int (nI 0))]) hx hb dX9_part_129 rfl hl (by decide) rfl (fun ls hl => ?_)
          refine lv_iload_n hx hb dX9_part_130 rfl (lv_at hl 1 rfl) ?_
          refine lv_if_eq (tgt := 157) hx hb dX9_part_131 (by decide) (fun _ => ?_) (fun c_131 => absurd (by decide +kernel) c_131)
          refine lv_iconst (v := (nI 0)) hx hb dX9_part_157 (by decide) ?_
          refine lv_istore_n (lv' := [(2, .int (nI 0)), (3, .int (dgI X L (pl + 1))), (0, .ref mr), (1, .int (nI 0))]) hx hb dX9_part_158 rfl hl (by decide) rfl (fun ls hl => ?_)
          refine lv_iload_n hx hb dX9_part_159 rfl (lv_at hl 0 rfl) ?_
          refine lv_if_eq (tgt := 188) hx hb dX9_part_160 (by decide) (fun _ => ?_) (fun c_160 => absurd (by decide +kernel) c_160)
          refine lv_aload_n hx hb dX9_part_188 rfl (lv_at hl 2 rfl) ?_
          refine lv_dup hx hb dX9_part_189 rfl ?_
          refine gf_n (C := RX9) (T := TX9) (N := 15) (ci := 9) (q0 := 0) (v := .int (nI vs)) hx hb hts (iU inlX9) hown hK hP rfl rfl 12 (by decide) (kU u_261) rfl rfl dX9_part_190 ?_
          refine lv_iconst (v := (nI 1)) hx hb dX9_part_193 (by decide) ?_
          refine lv_iadd hx hb dX9_part_194 ?_
          rw [nI_add vs 1]
          refine pf_n (C := RX9) (T := TX9) (N := 15) (ci := 9) (q0 := 0) (ty := .int) (v := .int (nI (vs + 1))) (ws2 := (mX mr rf st L th (pl + 1) hs (vs + 1) (dgI X L (pl + 1)) xx ++ iaX cI (rf 5) 120 X)) hx hb hts (iU inlX9) tyX9 tyX9_ok nmX9 hown hK hP hD hS rfl rfl 12 (by decide) (kU u_261) rfl rfl (tyX9_ok 12 (by decide)) rfl rfl (Nat.le_of_ble_eq_true rfl) dX9_part_195 rfl (fun Hp locs hP hD hS => ?_)
          refine lv_iload_n hx hb dX9_part_198 rfl (lv_at hl 0 rfl) ?_
          exact ct_z ((dgI X L (pl + 1))) hx hb hr hlocks (by first | (rw [rpP_v (by omega) (by omega), rpV_1 k1, hsP_f (by omega), vsP_t (by omega)]; exact hP) | (rw [rpP_v (by omega) (by omega), rpV_2 k1 (show dg X L (pl + 1 + 1) 0 (min 9 (40 - 10 * d1)) = none from by first | (rw [show min 9 (40 - 10 * d1) = 0 by omega]; exact k2) | (rw [show min 9 (40 - 10 * d1) = 9 by omega]; exact k2)), hsP_f (by omega), vsP_t (by omega)]; exact hP) | (rw [rpP_v (by omega) (by omega), rpV_3 k1 (show dg X L (pl + 1 + 1) 0 (min 9 (40 - 10 * d1)) = some d2 from by first | (rw [show min 9 (40 - 10 * d1) = 0 by omega]; exact k2) | (rw [show min 9 (40 - 10 * d1) = 9 by omega]; exact k2)), hsP_f (by omega), vsP_t (by omega)]; exact hP)) hS (by first | (rw [rpP_v (by omega) (by omega), rpV_1 k1]; rfl) | (rw [rpP_v (by omega) (by omega), rpV_2 k1 (show dg X L (pl + 1 + 1) 0 (min 9 (40 - 10 * d1)) = none from by first | (rw [show min 9 (40 - 10 * d1) = 0 by omega]; exact k2) | (rw [show min 9 (40 - 10 * d1) = 9 by omega]; exact k2))]; rfl) | (rw [rpP_v (by omega) (by omega), rpV_3 k1 (show dg X L (pl + 1 + 1) 0 (min 9 (40 - 10 * d1)) = some d2 from by first | (rw [show min 9 (40 - 10 * d1) = 0 by omega]; exact k2) | (rw [show min 9 (40 - 10 * d1) = 9 by omega]; exact k2))]; rfl)) dX9_part_199
        · skip
          rw [show (if (some d1).isSome = true then (1 : Int32) else 0) = nI 1 from rfl]
          rw [plD_s k1, dgI_s k1] at hP hD
          obtain ⟨b1_k1, b2_k1, -, -⟩ := dg_le k1
          refine lv_istore_n (lv' := [(2, .int (nI 1)), (0, .ref mr), (1, .int (nI 0))]) hx hb dX9_part_124 rfl hl (by decide) rfl (fun ls hl => ?_)
          refine lv_aload_n hx hb dX9_part_125 rfl (lv_at hl 1 rfl) ?_
          refine gf_n (C := RX9) (T := TX9) (N := 15) (ci := 9) (q0 := 0) (v := .int (nI d1)) hx hb hts (iU inlX9) hown hK hP rfl rfl 13 (by decide) (kU u_270) rfl rfl dX9_part_126 ?_
          refine lv_istore_n (lv' := [(3, .int (nI d1)), (2, .int (nI 1)), (0, .ref mr), (1, .int (nI 0))]) hx hb dX9_part_129 rfl hl (by decide) rfl (fun ls hl => ?_)
          refine lv_iload_n hx hb dX9_part_130 rfl (lv_at hl 1 rfl) ?_
          refine lv_if_eq (tgt := 157) hx hb dX9_part_131 (by decide) (fun c_131 => absurd c_131 (by decide +kernel)) (fun _ => ?_)
          refine lv_aload_n hx hb dX9_part_134 rfl (lv_at hl 2 rfl) ?_
          refine lv_iconst (v := (nI 0)) hx hb dX9_part_135 (by decide) ?_
          refine lv_iload_n hx hb dX9_part_136 rfl (lv_at hl 0 rfl) ?_
          refine lv_iconst (v := (nI 4)) hx hb dX9_part_137 (by decide) ?_
          refine lv_icmp_ne (tgt := 145) hx hb dX9_part_138 (by decide) (fun c_138 => ?_) (fun c_138 => ?_)
          · skip
            replace c_138 := cn_ne c_138
            refine lv_bipush (v := (nI 9)) hx hb dX9_part_145 (by decide) ?_
            refine gp_V (ci := 9) (q0 := 0) (cq := (RX9, TX9, 15)) (c_X9_digitTo l D cI cZ cF cL mr rf st L th (pl + 1 + 1) hs vs ((nI d1)) xx X 0 9 hL hXt (by omega) (by omega) (by omega)) (gUV u_271 u_272 u_273 u_5 u_274) rfl hdV_X9_digitTo ⟨Nat.le_of_ble_eq_true rfl, Nat.le_of_ble_eq_true rfl⟩ ⟨rfl, rfl⟩ hx hb hml hown hts hK hA hP hD hS hl.1 ⟨Nat.le_of_ble_eq_true rfl, Nat.le_of_ble_eq_true rfl⟩ rfl rfl rfl (wr := ([] : va_W)) (pm_cnt (fun _ => by simp only [List.countP_append, List.countP_nil, fT] <;> omega)) (fun _ => by simp only [List.map_append, List.map_nil, fX_m, bX_m, sX_m, pX_m, iaX_m, r5X_m, r6X_m, fT_m, hX_m, tX_m, xX_m, sgX_m, zaX_m, fsB_a, qX_m, mX_m]) (rest := []) rfl rfl (Nat.le_of_ble_eq_true rfl) dX9_part_147 (ws2 := (fun _ : Unit => (mX mr rf st L th (plD X L (pl + 1 + 1) 0 9) hs vs (dgI X L (pl + 1 + 1)) xx ++ iaX cI (rf 5) 120 X))) (fun _ => (pm_cnt (fun _ => by simp only [List.countP_append, List.countP_nil, fT] <;> omega))) (fun _ Hp locs hP hD hS => ?_)
            rcases k2 : dg X L ((pl + 1) + 1) 0 9 with _ | d2
            · skip
              rw [show (if (none : Option Nat).isSome = true then (1 : Int32) else 0) = nI 0 from rfl]
              rw [plD_n k2] at hP hD
              refine lv_if_eq (tgt := 157) hx hb dX9_part_150 (by decide) (fun _ => ?_) (fun c_150 => absurd (by decide +kernel) c_150)
              refine lv_iconst (v := (nI 0)) hx hb dX9_part_157 (by decide) ?_
              refine lv_istore_n (lv' := [(2, .int (nI 0)), (3, .int (nI d1)), (0, .ref mr), (1, .int (nI 0))]) hx hb dX9_part_158 rfl hl (by decide) rfl (fun ls hl => ?_)
              refine lv_iload_n hx hb dX9_part_159 rfl (lv_at hl 0 rfl) ?_
              refine lv_if_eq (tgt := 188) hx hb dX9_part_160 (by decide) (fun _ => ?_) (fun c_160 => absurd (by decide +kernel) c_160)
              refine lv_aload_n hx hb dX9_part_188 rfl (lv_at hl 2 rfl) ?_
              refine lv_dup hx hb dX9_part_189 rfl ?_
              refine gf_n (C := RX9) (T := TX9) (N := 15) (ci := 9) (q0 := 0) (v := .int (nI vs)) hx hb hts (iU inlX9) hown hK hP rfl rfl 12 (by decide) (kU u_261) rfl rfl dX9_part_190 ?_
              refine lv_iconst (v := (nI 1)) hx hb dX9_part_193 (by decide) ?_
              refine lv_iadd hx hb dX9_part_194 ?_
              rw [nI_add vs 1]
              refine pf_n (C := RX9) (T := TX9) (N := 15) (ci := 9) (q0 := 0) (ty := .int) (v := .int (nI (vs + 1))) (ws2 := (mX mr rf st L th ((pl + 1) + 1) hs (vs + 1) (dgI X L (pl + 1 + 1)) xx ++ iaX cI (rf 5) 120 X)) hx hb hts (iU inlX9) tyX9 tyX9_ok nmX9 hown hK hP hD hS rfl rfl 12 (by decide) (kU u_261) rfl rfl (tyX9_ok 12 (by decide)) rfl rfl (Nat.le_of_ble_eq_true rfl) dX9_part_195 rfl (fun Hp locs hP hD hS => ?_)
              refine lv_iload_n hx hb dX9_part_198 rfl (lv_at hl 0 rfl) ?_
              exact ct_z ((dgI X L (pl + 1 + 1))) hx hb hr hlocks (by first | (rw [rpP_v (by omega) (by omega), rpV_1 k1, hsP_f (by omega), vsP_t (by omega)]; exact hP) | (rw [rpP_v (by omega) (by omega), rpV_2 k1 (show dg X L (pl + 1 + 1) 0 (min 9 (40 - 10 * d1)) = none from by first | (rw [show min 9 (40 - 10 * d1) = 0 by omega]; exact k2) | (rw [show min 9 (40 - 10 * d1) = 9 by omega]; exact k2)), hsP_f (by omega), vsP_t (by omega)]; exact hP) | (rw [rpP_v (by omega) (by omega), rpV_3 k1 (show dg X L (pl + 1 + 1) 0 (min 9 (40 - 10 * d1)) = some d2 from by first | (rw [show min 9 (40 - 10 * d1) = 0 by omega]; exact k2) | (rw [show min 9 (40 - 10 * d1) = 9 by omega]; exact k2)), hsP_f (by omega), vsP_t (by omega)]; exact hP)) hS (by first | (rw [rpP_v (by omega) (by omega), rpV_1 k1]; rfl) | (rw [rpP_v (by omega) (by omega), rpV_2 k1 (show dg X L (pl + 1 + 1) 0 (min 9 (40 - 10 * d1)) = none from by first | (rw [show min 9 (40 - 10 * d1) = 0 by omega]; exact k2) | (rw [show min 9 (40 - 10 * d1) = 9 by omega]; exact k2))]; rfl) | (rw [rpP_v (by omega) (by omega), rpV_3 k1 (show dg X L (pl + 1 + 1) 0 (min 9 (40 - 10 * d1)) = some d2 from by first | (rw [show min 9 (40 - 10 * d1) = 0 by omega]; exact k2) | (rw [show min 9 (40 - 10 * d1) = 9 by omega]; exact k2))]; rfl)) dX9_part_199
            · skip
              rw [show (if (some d2).isSome = true then (1 : Int32) else 0) = nI 1 from rfl]
              rw [plD_s k2, dgI_s k2] at hP hD
              obtain ⟨b1_k2, b2_k2, -, -⟩ := dg_le k2
              refine lv_if_eq (tgt := 157) hx hb dX9_part_150 (by decide) (fun c_150 => absurd c_150 (by decide +kernel)) (fun _ => ?_)
              refine lv_iconst (v := (nI 1)) hx hb dX9_part_153 (by decide) ?_
              refine lv_goto (tgt := 158) hx hb dX9_part_154 (by decide) ?_
              refine lv_istore_n (lv' := [(2, .int (nI 1)), (3, .int (nI d1)), (0, .ref mr), (1, .int (nI 0))]) hx hb dX9_part_158 rfl hl (by decide) rfl (fun ls hl => ?_)
              refine lv_iload_n hx hb dX9_part_159 rfl (lv_at hl 0 rfl) ?_
              refine lv_if_eq (tgt := 188) hx hb dX9_part_160 (by decide) (fun c_160 => absurd c_160 (by decide +kernel)) (fun _ => ?_)
              refine lv_iload_n hx hb dX9_part_163 rfl (lv_at hl 3 rfl) ?_
              refine lv_if_eq (tgt := 188) hx hb dX9_part_164 (by decide) (fun _ => ?_) (fun c_164 => absurd (by decide +kernel) c_164)
              refine lv_aload_n hx hb dX9_part_188 rfl (lv_at hl 2 rfl) ?_
              refine lv_dup hx hb dX9_part_189 rfl ?_
              refine gf_n (C := RX9) (T := TX9) (N := 15) (ci := 9) (q0 := 0) (v := .int (nI vs)) hx hb hts (iU inlX9) hown hK hP rfl rfl 12 (by decide) (kU u_261) rfl rfl dX9_part_190 ?_
              refine lv_iconst (v := (nI 1)) hx hb dX9_part_193 (by decide) ?_
              refine lv_iadd hx hb dX9_part_194 ?_
              rw [nI_add vs 1]
              refine pf_n (C := RX9) (T := TX9) (N := 15) (ci := 9) (q0 := 0) (ty := .int) (v := .int (nI (vs + 1))) (ws2 := (mX mr rf st L th ((pl + 1) + 1 + 1) hs (vs + 1) (nI d2) xx ++ iaX cI (rf 5) 120 X)) hx hb hts (iU inlX9) tyX9 tyX9_ok nmX9 hown hK hP hD hS rfl rfl 12 (by decide) (kU u_261) rfl rfl (tyX9_ok 12 (by decide)) rfl rfl (Nat.le_of_ble_eq_true rfl) dX9_part_195 rfl (fun Hp locs hP hD hS => ?_)
              refine lv_iload_n hx hb dX9_part_198 rfl (lv_at hl 0 rfl) ?_
              exact ct_z ((nI d2)) hx hb hr hlocks (by first | (rw [rpP_v (by omega) (by omega), rpV_1 k1, hsP_f (by omega), vsP_t (by omega)]; exact hP) | (rw [rpP_v (by omega) (by omega), rpV_2 k1 (show dg X L (pl + 1 + 1) 0 (min 9 (40 - 10 * d1)) = none from by first | (rw [show min 9 (40 - 10 * d1) = 0 by omega]; exact k2) | (rw [show min 9 (40 - 10 * d1) = 9 by omega]; exact k2)), hsP_f (by omega), vsP_t (by omega)]; exact hP) | (rw [rpP_v (by omega) (by omega), rpV_3 k1 (show dg X L (pl + 1 + 1) 0 (min 9 (40 - 10 * d1)) = some d2 from by first | (rw [show min 9 (40 - 10 * d1) = 0 by omega]; exact k2) | (rw [show min 9 (40 - 10 * d1) = 9 by omega]; exact k2)), hsP_f (by omega), vsP_t (by omega)]; exact hP)) hS (by first | (rw [rpP_v (by omega) (by omega), rpV_1 k1]; rfl) | (rw [rpP_v (by omega) (by omega), rpV_2 k1 (show dg X L (pl + 1 + 1) 0 (min 9 (40 - 10 * d1)) = none from by first | (rw [show min 9 (40 - 10 * d1) = 0 by omega]; exact k2) | (rw [show min 9 (40 - 10 * d1) = 9 by omega]; exact k2))]; rfl) | (rw [rpP_v (by omega) (by omega), rpV_3 k1 (show dg X L (pl + 1 + 1) 0 (min 9 (40 - 10 * d1)) = some d2 from by first | (rw [show min 9 (40 - 10 * d1) = 0 by omega]; exact k2) | (rw [show min 9 (40 - 10 * d1) = 9 by omega]; exact k2))]; rfl)) dX9_part_199
          · skip
            replace c_138 := cn_eq (by omega) (by omega) c_138
            refine lv_iconst (v := (nI 0)) hx hb dX9_part_141 (by decide) ?_
            refine lv_goto (tgt := 147) hx hb dX9_part_142 (by decide) ?_
            refine gp_V (ci := 9) (q0 := 0) (cq := (RX9, TX9, 15)) (c_X9_digitTo l D cI cZ cF cL mr rf st L th (pl + 1 + 1) hs vs ((nI d1)) xx X 0 0 hL hXt (by omega) (by omega) (by omega)) (gUV u_271 u_272 u_273 u_5 u_274) rfl hdV_X9_digitTo ⟨Nat.le_of_ble_eq_true rfl, Nat.le_of_ble_eq_true rfl⟩ ⟨rfl, rfl⟩ hx hb hml hown hts hK hA hP hD hS hl.1 ⟨Nat.le_of_ble_eq_true rfl, Nat.le_of_ble_eq_true rfl⟩ rfl rfl rfl (wr := ([] : va_W)) (pm_cnt (fun _ => by simp only [List.countP_append, List.countP_nil, fT] <;> omega)) (fun _ => by simp only [List.map_append, List.map_nil, fX_m, bX_m, sX_m, pX_m, iaX_m, r5X_m, r6X_m, fT_m, hX_m, tX_m, xX_m, sgX_m, zaX_m, fsB_a, qX_m, mX_m]) (rest := []) rfl rfl (Nat.le_of_ble_eq_true rfl) dX9_part_147 (ws2 := (fun _ : Unit => (mX mr rf st L th (plD X L (pl + 1 + 1) 0 0) hs vs (dgI X L (pl + 1 + 1)) xx ++ iaX cI (rf 5) 120 X))) (fun _ => (pm_cnt (fun _ => by simp only [List.countP_append, List.countP_nil, fT] <;> omega))) (fun _ Hp locs hP hD hS => ?_)
            rcases k2 : dg X L ((pl + 1) + 1) 0 0 with _ | d2
            · skip
              rw [show (if (none : Option Nat).isSome = true then (1 : Int32) else 0) = nI 0 from rfl]
              rw [plD_n k2] at hP hD
              refine lv_if_eq (tgt := 157) hx hb dX9_part_150 (by decide) (fun _ => ?_) (fun c_150 => absurd (by decide +kernel) c_150)
              refine lv_iconst (v := (nI 0)) hx hb dX9_part_157 (by decide) ?_
              refine lv_istore_n (lv' := [(2, .int (nI 0)), (3, .int (nI d1)), (0, .ref mr), (1, .int (nI 0))]) hx hb dX9_part_158 rfl hl (by decide) rfl (fun ls hl => ?_)
              refine lv_iload_n hx hb dX9_part_159 rfl (lv_at hl 0 rfl) ?_
              refine lv_if_eq (tgt := 188) hx hb dX9_part_160 (by decide) (fun _ => ?_) (fun c_160 => absurd (by decide +kernel) c_160)
              refine lv_aload_n hx hb dX9_part_188 rfl (lv_at hl 2 rfl) ?_
              refine lv_dup hx hb dX9_part_189 rfl ?_
              refine gf_n (C := RX9) (T := TX9) (N := 15) (ci := 9) (q0 := 0) (v := .int (nI vs)) hx hb hts (iU inlX9) hown hK hP rfl rfl 12 (by decide) (kU u_261) rfl rfl dX9_part_190 ?_
              refine lv_iconst (v := (nI 1)) hx hb dX9_part_193 (by decide) ?_
              refine lv_iadd hx hb dX9_part_194 ?_
              rw [nI_add vs 1]
              refine pf_n (C := RX9) (T := TX9) (N := 15) (ci := 9) (q0 := 0) (ty := .int) (v := .int (nI (vs + 1))) (ws2 := (mX mr rf st L th ((pl + 1) + 1) hs (vs + 1) (dgI X L (pl + 1 + 1)) xx ++ iaX cI (rf 5) 120 X)) hx hb hts (iU inlX9) tyX9 tyX9_ok nmX9 hown hK hP hD hS rfl rfl 12 (by decide) (kU u_261) rfl rfl (tyX9_ok 12 (by decide)) rfl rfl (Nat.le_of_ble_eq_true rfl) dX9_part_195 rfl (fun Hp locs hP hD hS => ?_)
              refine lv_iload_n hx hb dX9_part_198 rfl (lv_at hl 0 rfl) ?_
              exact ct_z ((dgI X L (pl + 1 + 1))) hx hb hr hlocks (by first | (rw [rpP_v (by omega) (by omega), rpV_1 k1, hsP_f (by omega), vsP_t (by omega)]; exact hP) | (rw [rpP_v (by omega) (by omega), rpV_2 k1 (show dg X L (pl + 1 + 1) 0 (min 9 (40 - 10 * d1)) = none from by first | (rw [show min 9 (40 - 10 * d1) = 0 by omega]; exact k2) | (rw [show min 9 (40 - 10 * d1) = 9 by omega]; exact k2)), hsP_f (by omega), vsP_t (by omega)]; exact hP) | (rw [rpP_v (by omega) (by omega), rpV_3 k1 (show dg X L (pl + 1 + 1) 0 (min 9 (40 - 10 * d1)) = some d2 from by first | (rw [show min 9 (40 - 10 * d1) = 0 by omega]; exact k2) | (rw [show min 9 (40 - 10 * d1) = 9 by omega]; exact k2)), hsP_f (by omega), vsP_t (by omega)]; exact hP)) hS (by first | (rw [rpP_v (by omega) (by omega), rpV_1 k1]; rfl) | (rw [rpP_v (by omega) (by omega), rpV_2 k1 (show dg X L (pl + 1 + 1) 0 (min 9 (40 - 10 * d1)) = none from by first | (rw [show min 9 (40 - 10 * d1) = 0 by omega]; exact k2) | (rw [show min 9 (40 - 10 * d1) = 9 by omega]; exact k2))]; rfl) | (rw [rpP_v (by omega) (by omega), rpV_3 k1 (show dg X L (pl + 1 + 1) 0 (min 9 (40 - 10 * d1)) = some d2 from by first | (rw [show min 9 (40 - 10 * d1) = 0 by omega]; exact k2) | (rw [show min 9 (40 - 10 * d1) = 9 by omega]; exact k2))]; rfl)) dX9_part_199
            · skip
              rw [show (if (some d2).isSome = true then (1 : Int32) else 0) = nI 1 from rfl]
              rw [plD_s k2, dgI_s k2] at hP hD
              obtain ⟨b1_k2, b2_k2, -, -⟩ := dg_le k2
              refine lv_if_eq (tgt := 157) hx hb dX9_part_150 (by decide) (fun c_150 => absurd c_150 (by decide +kernel)) (fun _ => ?_)
              refine lv_iconst (v := (nI 1)) hx hb dX9_part_153 (by decide) ?_
              refine lv_goto (tgt := 158) hx hb dX9_part_154 (by decide) ?_
              refine lv_istore_n (lv' := [(2, .int (nI 1)), (3, .int (nI d1)), (0, .ref mr), (1, .int (nI 0))]) hx hb dX9_part_158 rfl hl (by decide) rfl (fun ls hl => ?_)
              refine lv_iload_n hx hb dX9_part_159 rfl (lv_at hl 0 rfl) ?_
              refine lv_if_eq (tgt := 188) hx hb dX9_part_160 (by decide) (fun c_160 => absurd c_160 (by decide +kernel)) (fun _ => ?_)
              refine lv_iload_n hx hb dX9_part_163 rfl (lv_at hl 3 rfl) ?_
              refine lv_if_eq (tgt := 188) hx hb dX9_part_164 (by decide) (fun _ => ?_) (fun c_164 => absurd (by decide +kernel) c_164)
              refine lv_aload_n hx hb dX9_part_188 rfl (lv_at hl 2 rfl) ?_
              refine lv_dup hx hb dX9_part_189 rfl ?_
              refine gf_n (C := RX9) (T := TX9) (N := 15) (ci := 9) (q0 := 0) (v := .int (nI vs)) hx hb hts (iU inlX9) hown hK hP rfl rfl 12 (by decide) (kU u_261) rfl rfl dX9_part_190 ?_
              refine lv_iconst (v := (nI 1)) hx hb dX9_part_193 (by decide) ?_
              refine lv_iadd hx hb dX9_part_194 ?_
              rw [nI_add vs 1]
              refine pf_n (C := RX9) (T := TX9) (N := 15) (ci := 9) (q0 := 0) (ty := .int) (v := .int (nI (vs + 1))) (ws2 := (mX mr rf st L th ((pl + 1) + 1 + 1) hs (vs + 1) (nI d2) xx ++ iaX cI (rf 5) 120 X)) hx hb hts (iU inlX9) tyX9 tyX9_ok nmX9 hown hK hP hD hS rfl rfl 12 (by decide) (kU u_261) rfl rfl (tyX9_ok 12 (by decide)) rfl rfl (Nat.le_of_ble_eq_true rfl) dX9_part_195 rfl (fun Hp locs hP hD hS => ?_)
              refine lv_iload_n hx hb dX9_part_198 rfl (lv_at hl 0 rfl) ?_
              exact ct_z ((nI d2)) hx hb hr hlocks (by first | (rw [rpP_v (by omega) (by omega), rpV_1 k1, hsP_f (by omega), vsP_t (by omega)]; exact hP) | (rw [rpP_v (by omega) (by omega), rpV_2 k1 (show dg X L (pl + 1 + 1) 0 (min 9 (40 - 10 * d1)) = none from by first | (rw [show min 9 (40 - 10 * d1) = 0 by omega]; exact k2) | (rw [show min 9 (40 - 10 * d1) = 9 by omega]; exact k2)), hsP_f (by omega), vsP_t (by omega)]; exact hP) | (rw [rpP_v (by omega) (by omega), rpV_3 k1 (show dg X L (pl + 1 + 1) 0 (min 9 (40 - 10 * d1)) = some d2 from by first | (rw [show min 9 (40 - 10 * d1) = 0 by omega]; exact k2) | (rw [show min 9 (40 - 10 * d1) = 9 by omega]; exact k2)), hsP_f (by omega), vsP_t (by omega)]; exact hP)) hS (by first | (rw [rpP_v (by omega) (by omega), rpV_1 k1]; rfl) | (rw [rpP_v (by omega) (by omega), rpV_2 k1 (show dg X L (pl + 1 + 1) 0 (min 9 (40 - 10 * d1)) = none from by first | (rw [show min 9 (40 - 10 * d1) = 0 by omega]; exact k2) | (rw [show min 9 (40 - 10 * d1) = 9 by omega]; exact k2))]; rfl) | (rw [rpP_v (by omega) (by omega), rpV_3 k1 (show dg X L (pl + 1 + 1) 0 (min 9 (40 - 10 * d1)) = some d2 from by first | (rw [show min 9 (40 - 10 * d1) = 0 by omega]; exact k2) | (rw [show min 9 (40 - 10 * d1) = 9 by omega]; exact k2))]; rfl)) dX9_part_199
      · skip
        rw [show (if (pl < L ∧ X pl = 118) then (1 : Int32) else 0) = nI 0 from if_neg (fun z => q_115 z.2)]
        rw [if_neg (show ¬ (pl < L ∧ X pl = 118) from fun z => q_115 z.2)] at hP hD
        refine lv_if_eq (tgt := 200) hx hb dX9_part_115 (by decide) (fun _ => ?_) (fun c_115 => absurd (by decide +kernel) c_115)
        refine lv_aload_n hx hb dX9_part_200 rfl (lv_at hl 0 rfl) ?_
        refine gf_n (C := RX9) (T := TX9) (N := 15) (ci := 9) (q0 := 0) (v := .int (nI hs)) hx hb hts (iU inlX9) hown hK hP rfl rfl 11 (by decide) (kU u_260) rfl rfl dX9_part_201 ?_
        refine lv_if_le (tgt := 315) hx hb dX9_part_204 (by decide) (fun c_204 => ?_) (fun c_204 => ?_)
        · skip
          replace c_204 := cn_le (b := 0) (by omega) (by omega) c_204
          refine lv_aload_n hx hb dX9_part_315 rfl (lv_at hl 0 rfl) ?_
          refine gf_n (C := RX9) (T := TX9) (N := 15) (ci := 9) (q0 := 0) (v := .int (nI hs)) hx hb hts (iU inlX9) hown hK hP rfl rfl 11 (by decide) (kU u_260) rfl rfl dX9_part_316 ?_
          refine lv_if_le (tgt := 349) hx hb dX9_part_319 (by decide) (fun c_319 => ?_) (fun c_319 => ?_)
          · skip
            replace c_319 := cn_le (b := 0) (by omega) (by omega) c_319
            refine lv_iconst (v := (nI 0)) hx hb dX9_part_349 (by decide) ?_
            refine lv_istore_n (lv' := [(2, .int (nI 0)), (0, .ref mr), (1, .int (nI 0))]) hx hb dX9_part_350 rfl hl (by decide) rfl (fun ls hl => ?_)
            refine lv_iload_n hx hb dX9_part_351 rfl (lv_at hl 0 rfl) ?_
            refine lv_if_eq (tgt := 374) hx hb dX9_part_352 (by decide) (fun _ => ?_) (fun c_352 => absurd (by decide +kernel) c_352)
            refine lv_iload_n hx hb dX9_part_374 rfl (lv_at hl 0 rfl) ?_
            exact ct_z (dg0) hx hb hr hlocks (by first | (rw [rpP_s (by omega) (by omega) (by omega) (by omega), rpS_1 k1, hsP_f (by omega), vsP_f (by omega)]; exact hP) | (rw [rpP_s (by omega) (by omega) (by omega) (by omega), rpS_2 k1, hsP_f (by omega), vsP_f (by omega)]; exact hP) | (rw [rpP_n (by omega) (by omega) (by omega) (by omega), hsP_f (by omega), vsP_f (by omega)]; exact hP)) hS (by first | (rw [rpP_s (by omega) (by omega) (by omega) (by omega), rpS_1 k1]; rfl) | (rw [rpP_s (by omega) (by omega) (by omega) (by omega), rpS_2 k1]; rfl) | (rw [rpP_n (by omega) (by omega) (by omega) (by omega)]; rfl)) dX9_part_375
          · skip
            replace c_319 := cn_nle (b := 0) (by omega) (by omega) c_319
            refine lv_aload_n hx hb dX9_part_322 rfl (lv_at hl 0 rfl) ?_
            refine lv_bipush (v := (nI 115)) hx hb dX9_part_323 (by decide) ?_
            refine gp_V (ci := 9) (q0 := 0) (cq := (RX9, TX9, 15)) (c_X9_letter l D cI cZ cF cL mr rf st L th pl hs vs dg0 xx X 115 hL hXt hpp (by decide)) (gUV u_262 u_263 u_264 u_5 u_265) rfl hdV_X9_letter ⟨Nat.le_of_ble_eq_true rfl, Nat.le_of_ble_eq_true rfl⟩ ⟨rfl, rfl⟩ hx hb hml hown hts hK hA hP hD hS hl.1 ⟨Nat.le_of_ble_eq_true rfl, Nat.le_of_ble_eq_true rfl⟩ rfl rfl rfl (wr := ([] : va_W)) (pm_cnt (fun _ => by simp only [List.countP_append, List.countP_nil, fT] <;> omega)) (fun _ => by simp only [List.map_append, List.map_nil, fX_m, bX_m, sX_m, pX_m, iaX_m, r5X_m, r6X_m, fT_m, hX_m, tX_m, xX_m, sgX_m, zaX_m, fsB_a, qX_m, mX_m]) (rest := []) rfl rfl (Nat.le_of_ble_eq_true rfl) dX9_part_325 (ws2 := (fun _ : Unit => (mX mr rf st L th (if (pl < L ∧ X pl = 115) then pl + 1 else pl) hs vs dg0 xx ++ iaX cI (rf 5) 120 X))) (fun _ => (pm_cnt (fun _ => by simp only [List.countP_append, List.countP_nil, fT] <;> omega))) (fun _ Hp locs hP hD hS => ?_)
            by_cases q_328 : X pl = 115
            · skip
              rw [show (if (pl < L ∧ X pl = 115) then (1 : Int32) else 0) = nI 1 from if_pos ⟨hpl, q_328⟩]
              rw [if_pos (⟨hpl, q_328⟩ : (pl < L ∧ X pl = 115))] at hP hD
              refine lv_if_eq (tgt := 349) hx hb dX9_part_328 (by decide) (fun c_328 => absurd c_328 (by decide +kernel)) (fun _ => ?_)
              refine lv_aload_n hx hb dX9_part_331 rfl (lv_at hl 0 rfl) ?_
              refine lv_iconst (v := (nI 0)) hx hb dX9_part_332 (by decide) ?_
              refine lv_aload_n hx hb dX9_part_333 rfl (lv_at hl 0 rfl) ?_
              refine gf_n (C := RX9) (T := TX9) (N := 15) (ci := 9) (q0 := 0) (v := .int (nI hs)) hx hb hts (iU inlX9) hown hK hP rfl rfl 11 (by decide) (kU u_260) rfl rfl dX9_part_334 ?_
              refine lv_iconst (v := (nI 1)) hx hb dX9_part_337 (by decide) ?_
              refine lv_isub hx hb dX9_part_338 ?_
              rw [pk_sub (a := hs) (b := 1) (by omega)]
              refine gp_V (ci := 9) (q0 := 0) (cq := (RX9, TX9, 15)) (c_X9_digitTo l D cI cZ cF cL mr rf st L th (pl + 1) hs vs dg0 xx X 0 (hs - 1) hL hXt (by omega) (by omega) (by omega)) (gUV u_271 u_272 u_273 u_5 u_274) rfl hdV_X9_digitTo ⟨Nat.le_of_ble_eq_true rfl, Nat.le_of_ble_eq_true rfl⟩ ⟨rfl, rfl⟩ hx hb hml hown hts hK hA hP hD hS hl.1 ⟨Nat.le_of_ble_eq_true rfl, Nat.le_of_ble_eq_true rfl⟩ rfl rfl rfl (wr := ([] : va_W)) (pm_cnt (fun _ => by simp only [List.countP_append, List.countP_nil, fT] <;> omega)) (fun _ => by simp only [List.map_append, List.map_nil, fX_m, bX_m, sX_m, pX_m, iaX_m, r5X_m, r6X_m, fT_m, hX_m, tX_m, xX_m, sgX_m, zaX_m, fsB_a, qX_m, mX_m]) (rest := []) rfl rfl (Nat.le_of_ble_eq_true rfl) dX9_part_339 (ws2 := (fun _ : Unit => (mX mr rf st L th (plD X L (pl + 1) 0 (hs - 1)) hs vs (dgI X L (pl + 1)) xx ++ iaX cI (rf 5) 120 X))) (fun _ => (pm_cnt (fun _ => by simp only [List.countP_append, List.countP_nil, fT] <;> omega))) (fun _ Hp locs hP hD hS => ?_)
              rcases k1 : dg X L (pl + 1) 0 (hs - 1) with _ | d1
              · skip
                rw [show (if (none : Option Nat).isSome = true then (1 : Int32) else 0) = nI 0 from rfl]
                rw [plD_n k1] at hP hD
                refine lv_if_eq (tgt := 349) hx hb dX9_part_342 (by decide) (fun _ => ?_) (fun c_342 => absurd (by decide +kernel) c_342)
                refine lv_iconst (v := (nI 0)) hx hb dX9_part_349 (by decide) ?_
                refine lv_istore_n (lv' := [(2, .int (nI 0)), (0, .ref mr), (1, .int (nI 0))]) hx hb dX9_part_350 rfl hl (by decide) rfl (fun ls hl => ?_)
                refine lv_iload_n hx hb dX9_part_351 rfl (lv_at hl 0 rfl) ?_
                refine lv_if_eq (tgt := 374) hx hb dX9_part_352 (by decide) (fun _ => ?_) (fun c_352 => absurd (by decide +kernel) c_352)
                refine lv_iload_n hx hb dX9_part_374 rfl (lv_at hl 0 rfl) ?_
                exact ct_z ((dgI X L (pl + 1))) hx hb hr hlocks (by first | (rw [rpP_s (by omega) (by omega) (by omega) (by omega), rpS_1 k1, hsP_f (by omega), vsP_f (by omega)]; exact hP) | (rw [rpP_s (by omega) (by omega) (by omega) (by omega), rpS_2 k1, hsP_f (by omega), vsP_f (by omega)]; exact hP) | (rw [rpP_n (by omega) (by omega) (by omega) (by omega), hsP_f (by omega), vsP_f (by omega)]; exact hP)) hS (by first | (rw [rpP_s (by omega) (by omega) (by omega) (by omega), rpS_1 k1]; rfl) | (rw [rpP_s (by omega) (by omega) (by omega) (by omega), rpS_2 k1]; rfl) | (rw [rpP_n (by omega) (by omega) (by omega) (by omega)]; rfl)) dX9_part_375
              · skip
                rw [show (if (some d1).isSome = true then (1 : Int32) else 0) = nI 1 from rfl]
                rw [plD_s k1, dgI_s k1] at hP hD
                obtain ⟨b1_k1, b2_k1, -, -⟩ := dg_le k1
                refine lv_if_eq (tgt := 349) hx hb dX9_part_342 (by decide) (fun c_342 => absurd c_342 (by decide +kernel)) (fun _ => ?_)
                refine lv_iconst (v := (nI 1)) hx hb dX9_part_345 (by decide) ?_
                refine lv_goto (tgt := 350) hx hb dX9_part_346 (by decide) ?_
                refine lv_istore_n (lv' := [(2, .int (nI 1)), (0, .ref mr), (1, .int (nI 0))]) hx hb dX9_part_350 rfl hl (by decide) rfl (fun ls hl => ?_)
                refine lv_iload_n hx hb dX9_part_351 rfl (lv_at hl 0 rfl) ?_
                refine lv_if_eq (tgt := 374) hx hb dX9_part_352 (by decide) (fun c_352 => absurd c_352 (by decide +kernel)) (fun _ => ?_)
                refine lv_iload_n hx hb dX9_part_355 rfl (lv_at hl 2 rfl) ?_
                refine lv_if_eq (tgt := 374) hx hb dX9_part_356 (by decide) (fun _ => ?_) (fun c_356 => absurd (by decide +kernel) c_356)
                refine lv_iload_n hx hb dX9_part_374 rfl (lv_at hl 0 rfl) ?_
                exact ct_z ((nI d1)) hx hb hr hlocks (by first | (rw [rpP_s (by omega) (by omega) (by omega) (by omega), rpS_1 k1, hsP_f (by omega), vsP_f (by omega)]; exact hP) | (rw [rpP_s (by omega) (by omega) (by omega) (by omega), rpS_2 k1, hsP_f (by omega), vsP_f (by omega)]; exact hP) | (rw [rpP_n (by omega) (by omega) (by omega) (by omega), hsP_f (by omega), vsP_f (by omega)]; exact hP)) hS (by first | (rw [rpP_s (by omega) (by omega) (by omega) (by omega), rpS_1 k1]; rfl) | (rw [rpP_s (by omega) (by omega) (by omega) (by omega), rpS_2 k1]; rfl) | (rw [rpP_n (by omega) (by omega) (by omega) (by omega)]; rfl)) dX9_part_375
            · skip
              rw [show (if (pl < L ∧ X pl = 115) then (1 : Int32) else 0) = nI 0 from if_neg (fun z => q_328 z.2)]
              rw [if_neg (show ¬ (pl < L ∧ X pl = 115) from fun z => q_328 z.2)] at hP hD
              refine lv_if_eq (tgt := 349) hx hb dX9_part_328 (by decide) (fun _ => ?_) (fun c_328 => absurd (by decide +kernel) c_328)
              refine lv_iconst (v := (nI 0)) hx hb dX9_part_349 (by decide) ?_
              refine lv_istore_n (lv' := [(2, .int (nI 0)), (0, .ref mr), (1, .int (nI 0))]) hx hb dX9_part_350 rfl hl (by decide) rfl (fun ls hl => ?_)
              refine lv_iload_n hx hb dX9_part_351 rfl (lv_at hl 0 rfl) ?_
              refine lv_if_eq (tgt := 374) hx hb dX9_part_352 (by decide) (fun _ => ?_) (fun c_352 => absurd (by decide +kernel) c_352)
              refine lv_iload_n hx hb dX9_part_374 rfl (lv_at hl 0 rfl) ?_
              exact ct_z (dg0) hx hb hr hlocks (by first | (rw [rpP_s (by omega) (by omega) (by omega) (by omega), rpS_1 k1, hsP_f (by omega), vsP_f (by omega)]; exact hP) | (rw [rpP_s (by omega) (by omega) (by omega) (by omega), rpS_2 k1, hsP_f (by omega), vsP_f (by omega)]; exact hP) | (rw [rpP_n (by omega) (by omega) (by omega) (by omega), hsP_f (by omega), vsP_f (by omega)]; exact hP)) hS (by first | (rw [rpP_s (by omega) (by omega) (by omega) (by omega), rpS_1 k1]; rfl) | (rw [rpP_s (by omega) (by omega) (by omega) (by omega), rpS_2 k1]; rfl) | (rw [rpP_n (by omega) (by omega) (by omega) (by omega)]; rfl)) dX9_part_375
        · skip
          replace c_204 := cn_nle (b := 0) (by omega) (by omega) c_204
          refine lv_aload_n hx hb dX9_part_207 rfl (lv_at hl 0 rfl) ?_
          refine gf_n (C := RX9) (T := TX9) (N := 15) (ci := 9) (q0 := 0) (v := .int (nI vs)) hx hb hts (iU inlX9) hown hK hP rfl rfl 12 (by decide) (kU u_261) rfl rfl dX9_part_208 ?_
          refine lv_if_le (tgt := 315) hx hb dX9_part_211 (by decide) (fun c_211 => ?_) (fun c_211 => ?_)
          · skip
            replace c_211 := cn_le (b := 0) (by omega) (by omega) c_211
            refine lv_aload_n hx hb dX9_part_315 rfl (lv_at hl 0 rfl) ?_
            refine gf_n (C := RX9) (T := TX9) (N := 15) (ci := 9) (q0 := 0) (v := .int (nI hs)) hx hb hts (iU inlX9) hown hK hP rfl rfl 11 (by decide) (kU u_260) rfl rfl dX9_part_316 ?_
            refine lv_if_le (tgt := 349) hx hb dX9_part_319 (by decide) (fun c_319 => ?_) (fun c_319 => ?_)
            · skip
              replace c_319 := cn_le (b := 0) (by omega) (by omega) c_319
              refine lv_iconst (v := (nI 0)) hx hb dX9_part_349 (by decide) ?_
              refine lv_istore_n (lv' := [(2, .int (nI 0)), (0, .ref mr), (1, .int (nI 0))]) hx hb dX9_part_350 rfl hl (by decide) rfl (fun ls hl => ?_)
              refine lv_iload_n hx hb dX9_part_351 rfl (lv_at hl 0 rfl) ?_
              refine lv_if_eq (tgt := 374) hx hb dX9_part_352 (by decide) (fun _ => ?_) (fun c_352 => absurd (by decide +kernel) c_352)
              refine lv_iload_n hx hb dX9_part_374 rfl (lv_at hl 0 rfl) ?_
              exact ct_z (dg0) hx hb hr hlocks (by first | (rw [rpP_s (by omega) (by omega) (by omega) (by omega), rpS_1 k1, hsP_f (by omega), vsP_f (by omega)]; exact hP) | (rw [rpP_s (by omega) (by omega) (by omega) (by omega), rpS_2 k1, hsP_f (by omega), vsP_f (by omega)]; exact hP) | (rw [rpP_n (by omega) (by omega) (by omega) (by omega), hsP_f (by omega), vsP_f (by omega)]; exact hP)) hS (by first | (rw [rpP_s (by omega) (by omega) (by omega) (by omega), rpS_1 k1]; rfl) | (rw [rpP_s (by omega) (by omega) (by omega) (by omega), rpS_2 k1]; rfl) | (rw [rpP_n (by omega) (by omega) (by omega) (by omega)]; rfl)) dX9_part_375
            · skip
              replace c_319 := cn_nle (b := 0) (by omega) (by omega) c_319
              refine lv_aload_n hx hb dX9_part_322 rfl (lv_at hl 0 rfl) ?_
              refine lv_bipush (v := (nI 115)) hx hb dX9_part_323 (by decide) ?_
              refine gp_V (ci := 9) (q0 := 0) (cq := (RX9, TX9, 15)) (c_X9_letter l D cI cZ cF cL mr rf st L th pl hs vs dg0 xx X 115 hL hXt hpp (by decide)) (gUV u_262 u_263 u_264 u_5 u_265) rfl hdV_X9_letter ⟨Nat.le_of_ble_eq_true rfl, Nat.le_of_ble_eq_true rfl⟩ ⟨rfl, rfl⟩ hx hb hml hown hts hK hA hP hD hS hl.1 ⟨Nat.le_of_ble_eq_true rfl, Nat.le_of_ble_eq_true rfl⟩ rfl rfl rfl (wr := ([] : va_W)) (pm_cnt (fun _ => by simp only [List.countP_append, List.countP_nil, fT] <;> omega)) (fun _ => by simp only [List.map_append, List.map_nil, fX_m, bX_m, sX_m, pX_m, iaX_m, r5X_m, r6X_m, fT_m, hX_m, tX_m, xX_m, sgX_m, zaX_m, fsB_a, qX_m, mX_m]) (rest := []) rfl rfl (Nat.le_of_ble_eq_true rfl) dX9_part_325 (ws2 := (fun _ : Unit => (mX mr rf st L th (if (pl < L ∧ X pl = 115) then pl + 1 else pl) hs vs dg0 xx ++ iaX cI (rf 5) 120 X))) (fun _ => (pm_cnt (fun _ => by simp only [List.countP_append, List.countP_nil, fT] <;> omega))) (fun _ Hp locs hP hD hS => ?_)
              by_cases q_328 : X pl = 115
              · skip
                rw [show (if (pl < L ∧ X pl = 115) then (1 : Int32) else 0) = nI 1 from if_pos ⟨hpl, q_328⟩]
                rw [if_pos (⟨hpl, q_328⟩ : (pl < L ∧ X pl = 115))] at hP hD
                refine lv_if_eq (tgt := 349) hx hb dX9_part_328 (by decide) (fun c_328 => absurd c_328 (by decide +kernel)) (fun _ => ?_)
                refine lv_aload_n hx hb dX9_part_331 rfl (lv_at hl 0 rfl) ?_
                refine lv_iconst (v := (nI 0)) hx hb dX9_part_332 (by decide) ?_
                refine lv_aload_n hx hb dX9_part_333 rfl (lv_at hl 0 rfl) ?_
                refine gf_n (C := RX9) (T := TX9) (N := 15) (ci := 9) (q0 := 0) (v := .int (nI hs)) hx hb hts (iU inlX9) hown hK hP rfl rfl 11 (by decide) (kU u_260) rfl rfl dX9_part_334 ?_
                refine lv_iconst (v := (nI 1)) hx hb dX9_part_337 (by decide) ?_
                refine lv_isub hx hb dX9_part_338 ?_
                rw [pk_sub (a := hs) (b := 1) (by omega)]
                refine gp_V (ci := 9) (q0 := 0) (cq := (RX9, TX9, 15)) (c_X9_digitTo l D cI cZ cF cL mr rf st L th (pl + 1) hs vs dg0 xx X 0 (hs - 1) hL hXt (by omega) (by omega) (by omega)) (gUV u_271 u_272 u_273 u_5 u_274) rfl hdV_X9_digitTo ⟨Nat.le_of_ble_eq_true rfl, Nat.le_of_ble_eq_true rfl⟩ ⟨rfl, rfl⟩ hx hb hml hown hts hK hA hP hD hS hl.1 ⟨Nat.le_of_ble_eq_true rfl, Nat.le_of_ble_eq_true rfl⟩ rfl rfl rfl (wr := ([] : va_W)) (pm_cnt (fun _ => by simp only [List.countP_append, List.countP_nil, fT] <;> omega)) (fun _ => by simp only [List.map_append, List.map_nil, fX_m, bX_m, sX_m, pX_m, iaX_m, r5X_m, r6X_m, fT_m, hX_m, tX_m, xX_m, sgX_m, zaX_m, fsB_a, qX_m, mX_m]) (rest := []) rfl rfl (Nat.le_of_ble_eq_true rfl) dX9_part_339 (ws2 := (fun _ : Unit => (mX mr rf st L th (plD X L (pl + 1) 0 (hs - 1)) hs vs (dgI X L (pl + 1)) xx ++ iaX cI (rf 5) 120 X))) (fun _ => (pm_cnt (fun _ => by simp only [List.countP_append, List.countP_nil, fT] <;> omega))) (fun _ Hp locs hP hD hS => ?_)
                rcases k1 : dg X L (pl + 1) 0 (hs - 1) with _ | d1
                · skip
                  rw [show (if (none : Option Nat).isSome = true then (1 : Int32) else 0) = nI 0 from rfl]
                  rw [plD_n k1] at hP hD
                  refine lv_if_eq (tgt := 349) hx hb dX9_part_342 (by decide) (fun _ => ?_) (fun c_342 => absurd (by decide +kernel) c_342)
                  refine lv_iconst (v := (nI 0)) hx hb dX9_part_349 (by decide) ?_
                  refine lv_istore_n (lv' := [(2, .int (nI 0)), (0, .ref mr), (1, .int (nI 0))]) hx hb dX9_part_350 rfl hl (by decide) rfl (fun ls hl => ?_)
                  refine lv_iload_n hx hb dX9_part_351 rfl (lv_at hl 0 rfl) ?_
                  refine lv_if_eq (tgt := 374) hx hb dX9_part_352 (by decide) (fun _ => ?_) (fun c_352 => absurd (by decide +kernel) c_352)
                  refine lv_iload_n hx hb dX9_part_374 rfl (lv_at hl 0 rfl) ?_
                  exact ct_z ((dgI X L (pl + 1))) hx hb hr hlocks (by first | (rw [rpP_s (by omega) (by omega) (by omega) (by omega), rpS_1 k1, hsP_f (by omega), vsP_f (by omega)]; exact hP) | (rw [rpP_s (by omega) (by omega) (by omega) (by omega), rpS_2 k1, hsP_f (by omega), vsP_f (by omega)]; exact hP) | (rw [rpP_n (by omega) (by omega) (by omega) (by omega), hsP_f (by omega), vsP_f (by omega)]; exact hP)) hS (by first | (rw [rpP_s (by omega) (by omega) (by omega) (by omega), rpS_1 k1]; rfl) | (rw [rpP_s (by omega) (by omega) (by omega) (by omega), rpS_2 k1]; rfl) | (rw [rpP_n (by omega) (by omega) (by omega) (by omega)]; rfl)) dX9_part_375
                · skip
                  rw [show (if (some d1).isSome = true then (1 : Int32) else 0) = nI 1 from rfl]
                  rw [plD_s k1, dgI_s k1] at hP hD
                  obtain ⟨b1_k1, b2_k1, -, -⟩ := dg_le k1
                  refine lv_if_eq (tgt := 349) hx hb dX9_part_342 (by decide) (fun c_342 => absurd c_342 (by decide +kernel)) (fun _ => ?_)
                  refine lv_iconst (v := (nI 1)) hx hb dX9_part_345 (by decide) ?_
                  refine lv_goto (tgt := 350) hx hb dX9_part_346 (by decide) ?_
                  refine lv_istore_n (lv' := [(2, .int (nI 1)), (0, .ref mr), (1, .int (nI 0))]) hx hb dX9_part_350 rfl hl (by decide) rfl (fun ls hl => ?_)
                  refine lv_iload_n hx hb dX9_part_351 rfl (lv_at hl 0 rfl) ?_
                  refine lv_if_eq (tgt := 374) hx hb dX9_part_352 (by decide) (fun c_352 => absurd c_352 (by decide +kernel)) (fun _ => ?_)
                  refine lv_iload_n hx hb dX9_part_355 rfl (lv_at hl 2 rfl) ?_
                  refine lv_if_eq (tgt := 374) hx hb dX9_part_356 (by decide) (fun _ => ?_) (fun c_356 => absurd (by decide +kernel) c_356)
                  refine lv_iload_n hx hb dX9_part_374 rfl (lv_at hl 0 rfl) ?_
                  exact ct_z ((nI d1)) hx hb hr hlocks (by first | (rw [rpP_s (by omega) (by omega) (by omega) (by omega), rpS_1 k1, hsP_f (by omega), vsP_f (by omega)]; exact hP) | (rw [rpP_s (by omega) (by omega) (by omega) (by omega), rpS_2 k1, hsP_f (by omega), vsP_f (by omega)]; exact hP) | (rw [rpP_n (by omega) (by omega) (by omega) (by omega), hsP_f (by omega), vsP_f (by omega)]; exact hP)) hS (by first | (rw [rpP_s (by omega) (by omega) (by omega) (by omega), rpS_1 k1]; rfl) | (rw [rpP_s (by omega) (by omega) (by omega) (by omega), rpS_2 k1]; rfl) | (rw [rpP_n (by omega) (by omega) (by omega) (by omega)]; rfl)) dX9_part_375
              · skip
                rw [show (if (pl < L ∧ X pl = 115) then (1 : Int32) else 0) = nI 0 from if_neg (fun z => q_328 z.2)]
                rw [if_neg (show ¬ (pl < L ∧ X pl = 115) from fun z => q_328 z.2)] at hP hD
                refine lv_if_eq (tgt := 349) hx hb dX9_part_328 (by decide) (fun _ => ?_) (fun c_328 => absurd (by decide +kernel) c_328)
                refine lv_iconst (v := (nI 0)) hx hb dX9_part_349 (by decide) ?_
                refine lv_istore_n (lv' := [(2, .int (nI 0)), (0, .ref mr), (1, .int (nI 0))]) hx hb dX9_part_350 rfl hl (by decide) rfl (fun ls hl => ?_)
                refine lv_iload_n hx hb dX9_part_351 rfl (lv_at hl 0 rfl) ?_
                refine lv_if_eq (tgt := 374) hx hb dX9_part_352 (by decide) (fun _ => ?_) (fun c_352 => absurd (by decide +kernel) c_352)
                refine lv_iload_n hx hb dX9_part_374 rfl (lv_at hl 0 rfl) ?_
                exact ct_z (dg0) hx hb hr hlocks (by first | (rw [rpP_s (by omega) (by omega) (by omega) (by omega), rpS_1 k1, hsP_f (by omega), vsP_f (by omega)]; exact hP) | (rw [rpP_s (by omega) (by omega) (by omega) (by omega), rpS_2 k1, hsP_f (by omega), vsP_f (by omega)]; exact hP) | (rw [rpP_n (by omega) (by omega) (by omega) (by omega), hsP_f (by omega), vsP_f (by omega)]; exact hP)) hS (by first | (rw [rpP_s (by omega) (by omega) (by omega) (by omega), rpS_1 k1]; rfl) | (rw [rpP_s (by omega) (by omega) (by omega) (by omega), rpS_2 k1]; rfl) | (rw [rpP_n (by omega) (by omega) (by omega) (by omega)]; rfl)) dX9_part_375
          · skip
            replace c_211 := cn_nle (b := 0) (by omega) (by omega) c_211
            refine lv_aload_n hx hb dX9_part_214 rfl (lv_at hl 0 rfl) ?_
            refine lv_bipush (v := (nI 108)) hx hb dX9_part_215 (by decide) ?_
            refine gp_V (ci := 9) (q0 := 0) (cq := (RX9, TX9, 15)) (c_X9_letter l D cI cZ cF cL mr rf st L th pl hs vs dg0 xx X 108 hL hXt hpp (by decide)) (gUV u_262 u_263 u_264 u_5 u_265) rfl hdV_X9_letter ⟨Nat.le_of_ble_eq_true rfl, Nat.le_of_ble_eq_true rfl⟩ ⟨rfl, rfl⟩ hx hb hml hown hts hK hA hP hD hS hl.1 ⟨Nat.le_of_ble_eq_true rfl, Nat.le_of_ble_eq_true rfl⟩ rfl rfl rfl (wr := ([] : va_W)) (pm_cnt (fun _ => by simp only [List.countP_append, List.countP_nil, fT] <;> omega)) (fun _ => by simp only [List.map_append, List.map_nil, fX_m, bX_m, sX_m, pX_m, iaX_m, r5X_m, r6X_m, fT_m, hX_m, tX_m, xX_m, sgX_m, zaX_m, fsB_a, qX_m, mX_m]) (rest := []) rfl rfl (Nat.le_of_ble_eq_true rfl) dX9_part_217 (ws2 := (fun _ : Unit => (mX mr rf st L th (if (pl < L ∧ X pl = 108) then pl + 1 else pl) hs vs dg0 xx ++ iaX cI (rf 5) 120 X))) (fun _ => (pm_cnt (fun _ => by simp only [List.countP_append, List.countP_nil, fT] <;> omega))) (fun _ Hp locs hP hD hS => ?_)
            by_cases q_220 : X pl = 108
            · skip
              rw [show (if (pl < L ∧ X pl = 108) then (1 : Int32) else 0) = nI 1 from if_pos ⟨hpl, q_220⟩]
              rw [if_pos (⟨hpl, q_220⟩ : (pl < L ∧ X pl = 108))] at hP hD
              refine lv_if_eq (tgt := 315) hx hb dX9_part_220 (by decide) (fun c_220 => absurd c_220 (by decide +kernel)) (fun _ => ?_)
              refine lv_aload_n hx hb dX9_part_223 rfl (lv_at hl 0 rfl) ?_
              refine lv_iconst (v := (nI 0)) hx hb dX9_part_224 (by decide) ?_
              refine lv_aload_n hx hb dX9_part_225 rfl (lv_at hl 0 rfl) ?_
              refine gf_n (C := RX9) (T := TX9) (N := 15) (ci := 9) (q0 := 0) (v := .int (nI hs)) hx hb hts (iU inlX9) hown hK hP rfl rfl 11 (by decide) (kU u_260) rfl rfl dX9_part_226 ?_
              refine lv_iconst (v := (nI 1)) hx hb dX9_part_229 (by decide) ?_
              refine lv_isub hx hb dX9_part_230 ?_
              rw [pk_sub (a := hs) (b := 1) (by omega)]
              refine gp_V (ci := 9) (q0 := 0) (cq := (RX9, TX9, 15)) (c_X9_digitTo l D cI cZ cF cL mr rf st L th (pl + 1) hs vs dg0 xx X 0 (hs - 1) hL hXt (by omega) (by omega) (by omega)) (gUV u_271 u_272 u_273 u_5 u_274) rfl hdV_X9_digitTo ⟨Nat.le_of_ble_eq_true rfl, Nat.le_of_ble_eq_true rfl⟩ ⟨rfl, rfl⟩ hx hb hml hown hts hK hA hP hD hS hl.1 ⟨Nat.le_of_ble_eq_true rfl, Nat.le_of_ble_eq_true rfl⟩ rfl rfl rfl (wr := ([] : va_W)) (pm_cnt (fun _ => by simp only [List.countP_append, List.countP_nil, fT] <;> omega)) (fun _ => by simp only [List.map_append, List.map_nil, fX_m, bX_m, sX_m, pX_m, iaX_m, r5X_m, r6X_m, fT_m, hX_m, tX_m, xX_m, sgX_m, zaX_m, fsB_a, qX_m, mX_m]) (rest := []) rfl rfl (Nat.le_of_ble_eq_true rfl) dX9_part_231 (ws2 := (fun _ : Unit => (mX mr rf st L th (plD X L (pl + 1) 0 (hs - 1)) hs vs (dgI X L (pl + 1)) xx ++ iaX cI (rf 5) 120 X))) (fun _ => (pm_cnt (fun _ => by simp only [List.countP_append, List.countP_nil, fT] <;> omega))) (fun _ Hp locs hP hD hS => ?_)
              rcases k1 : dg X L (pl + 1) 0 (hs - 1) with _ | d1
              · skip
                rw [show (if (none : Option Nat).isSome = true then (1 : Int32) else 0) = nI 0 from rfl]
                rw [plD_n k1] at hP hD
                refine lv_istore_n (lv' := [(2, .int (nI 0)), (0, .ref mr), (1, .int (nI 0))]) hx hb dX9_part_234 rfl hl (by decide) rfl (fun ls hl => ?_)
                refine lv_aload_n hx hb dX9_part_235 rfl (lv_at hl 1 rfl) ?_
                refine gf_n (C := RX9) (T := TX9) (N := 15) (ci := 9) (q0 := 0) (v := .int (dgI X L (pl + 1))) hx hb hts (iU inlX9) hown hK hP rfl rfl 13 (by decide) (kU u_270) rfl rfl dX9_part_236 ?_
                refine lv_istore_n (lv' := [(3, .int (dgI X L (pl + 1))), (2, .int (nI 0)), (0, .ref mr), (1, .int (nI 0))]) hx hb dX9_part_239 rfl hl (by decide) rfl (fun ls hl => ?_)
                refine lv_iload_n hx hb dX9_part_240 rfl (lv_at hl 1 rfl) ?_
                refine lv_if_eq (tgt := 262) hx hb dX9_part_241 (by decide) (fun _ => ?_) (fun c_241 => absurd (by decide +kernel) c_241)
                refine lv_iconst (v := (nI 0)) hx hb dX9_part_262 (by decide) ?_
                refine lv_istore_n (lv' := [(2, .int (nI 0)), (3, .int (dgI X L (pl + 1))), (0, .ref mr), (1, .int (nI 0))]) hx hb dX9_part_263 rfl hl (by decide) rfl (fun ls hl => ?_)
                refine lv_aload_n hx hb dX9_part_264 rfl (lv_at hl 2 rfl) ?_
                refine gf_n (C := RX9) (T := TX9) (N := 15) (ci := 9) (q0 := 0) (v := .int (dgI X L (pl + 1))) hx hb hts (iU inlX9) hown hK hP rfl rfl 13 (by decide) (kU u_270) rfl rfl dX9_part_265 ?_
                refine lv_istore (lv' := [(4, .int (dgI X L (pl + 1))), (2, .int (nI 0)), (3, .int (dgI X L (pl + 1))), (0, .ref mr), (1, .int (nI 0))]) hx hb dX9_part_268 hl (by decide) rfl (fun ls hl => ?_)
                refine lv_iload_n hx hb dX9_part_270 rfl (lv_at hl 1 rfl) ?_
                refine lv_if_eq (tgt := 288) hx hb dX9_part_271 (by decide) (fun _ => ?_) (fun c_271 => absurd (by decide +kernel) c_271)
                refine lv_iconst (v := (nI 0)) hx hb dX9_part_288 (by decide) ?_
                refine lv_istore_n (lv' := [(2, .int (nI 0)), (4, .int (dgI X L (pl + 1))), (3, .int (dgI X L (pl + 1))), (0, .ref mr), (1, .int (nI 0))]) hx hb dX9_part_289 rfl hl (by decide) rfl (fun ls hl => ?_)
                refine lv_iload_n hx hb dX9_part_290 rfl (lv_at hl 0 rfl) ?_
                refine lv_if_eq (tgt := 313) hx hb dX9_part_291 (by decide) (fun _ => ?_) (fun c_291 => absurd (by decide +kernel) c_291)
                refine lv_iload_n hx hb dX9_part_313 rfl (lv_at hl 0 rfl) ?_
                exact ct_z ((dgI X L (pl + 1))) hx hb hr hlocks (by first | (rw [rpP_l (by omega) (by omega) (by omega), rpL_1 k1, hsP_f (by omega), vsP_f (by omega)]; exact hP) | (rw [rpP_l (by omega) (by omega) (by omega), rpL_2 k1 k2, hsP_f (by omega), vsP_f (by omega)]; exact hP) | (rw [rpP_l (by omega) (by omega) (by omega), rpL_3 k1 k2 k3, hsP_f (by omega), vsP_f (by omega)]; exact hP) | (rw [rpP_l (by omega) (by omega) (by omega), rpL_4 k1 k2 k3, hsP_f (by omega), vsP_f (by omega)]; exact hP)) hS (by first | (rw [rpP_l (by omega) (by omega) (by omega), rpL_1 k1]; rfl) | (rw [rpP_l (by omega) (by omega) (by omega), rpL_2 k1 k2]; rfl) | (rw [rpP_l (by omega) (by omega) (by omega), rpL_3 k1 k2 k3]; rfl) | (rw [rpP_l (by omega) (by omega) (by omega), rpL_4 k1 k2 k3]; rfl)) dX9_part_314
              · skip
                rw [show (if (some d1).isSome = true then (1 : Int32) else 0) = nI 1 from rfl]
                rw [plD_s k1, dgI_s k1] at hP hD
                obtain ⟨b1_k1, b2_k1, -, -⟩ := dg_le k1
                refine lv_istore_n (lv' := [(2, .int (nI 1)), (0, .ref mr), (1, .int (nI 0))]) hx hb dX9_part_234 rfl hl (by decide) rfl (fun ls hl => ?_)
                refine lv_aload_n hx hb dX9_part_235 rfl (lv_at hl 1 rfl) ?_
                refine gf_n (C := RX9) (T := TX9) (N := 15) (ci := 9) (q0 := 0) (v := .int (nI d1)) hx hb hts (iU inlX9) hown hK hP rfl rfl 13 (by decide) (kU u_270) rfl rfl dX9_part_236 ?_
                refine lv_istore_n (lv' := [(3, .int (nI d1)), (2, .int (nI 1)), (0, .ref mr), (1, .int (nI 0))]) hx hb dX9_part_239 rfl hl (by decide) rfl (fun ls hl => ?_)
                refine lv_iload_n hx hb dX9_part_240 rfl (lv_at hl 1 rfl) ?_
                refine lv_if_eq (tgt := 262) hx hb dX9_part_241 (by decide) (fun c_241 => absurd c_241 (by decide +kernel)) (fun _ => ?_)
                refine lv_aload_n hx hb dX9_part_244 rfl (lv_at hl 2 rfl) ?_
                refine lv_iconst (v := (nI 0)) hx hb dX9_part_245 (by decide) ?_
                refine lv_aload_n hx hb dX9_part_246 rfl (lv_at hl 2 rfl) ?_
                refine gf_n (C := RX9) (T := TX9) (N := 15) (ci := 9) (q0 := 0) (v := .int (nI vs)) hx hb hts (iU inlX9) hown hK hP rfl rfl 12 (by decide) (kU u_261) rfl rfl dX9_part_247 ?_
                refine lv_iconst (v := (nI 1)) hx hb dX9_part_250 (by decide) ?_
                refine lv_isub hx hb dX9_part_251 ?_
                rw [pk_sub (a := vs) (b := 1) (by omega)]
                refine gp_V (ci := 9) (q0 := 0) (cq := (RX9, TX9, 15)) (c_X9_digitTo l D cI cZ cF cL mr rf st L th (pl + 1 + 1) hs vs ((nI d1)) xx X 0 (vs - 1) hL hXt (by omega) (by omega) (by omega)) (gUV u_271 u_272 u_273 u_5 u_274) rfl hdV_X9_digitTo ⟨Nat.le_of_ble_eq_true rfl, Nat.le_of_ble_eq_true rfl⟩ ⟨rfl, rfl⟩ hx hb hml hown hts hK hA hP hD hS hl.1 ⟨Nat.le_of_ble_eq_true rfl, Nat.le_of_ble_eq_true rfl⟩ rfl rfl rfl (wr := ([] : va_W)) (pm_cnt (fun _ => by simp only [List.countP_append, List.countP_nil, fT] <;> omega)) (fun _ => by simp only [List.map_append, List.map_nil, fX_m, bX_m, sX_m, pX_m, iaX_m, r5X_m, r6X_m, fT_m, hX_m, tX_m, xX_m, sgX_m, zaX_m, fsB_a, qX_m, mX_m]) (rest := []) rfl rfl (Nat.le_of_ble_eq_true rfl) dX9_part_252 (ws2 := (fun _ : Unit => (mX mr rf st L th (plD X L (pl + 1 + 1) 0 (vs - 1)) hs vs (dgI X L (pl + 1 + 1)) xx ++ iaX cI (rf 5) 120 X))) (fun _ => (pm_cnt (fun _ => by simp only [List.countP_append, List.countP_nil, fT] <;> omega))) (fun _ Hp locs hP hD hS => ?_)
                rcases k2 : dg X L ((pl + 1) + 1) 0 (vs - 1) with _ | d2
                · skip
                  rw [show (if (none : Option Nat).isSome = true then (1 : Int32) else 0) = nI 0 from rfl]
                  rw [plD_n k2] at hP hD
                  refine lv_if_eq (tgt := 262) hx hb dX9_part_255 (by decide) (fun _ => ?_) (fun c_255 => absurd (by decide +kernel) c_255)
                  refine lv_iconst (v := (nI 0)) hx hb dX9_part_262 (by decide) ?_
                  refine lv_istore_n (lv' := [(2, .int (nI 0)), (3, .int (nI d1)), (0, .ref mr), (1, .int (nI 0))]) hx hb dX9_part_263 rfl hl (by decide) rfl (fun ls hl => ?_)
                  refine lv_aload_n hx hb dX9_part_264 rfl (lv_at hl 2 rfl) ?_
                  refine gf_n (C := RX9) (T := TX9) (N := 15) (ci := 9) (q0 := 0) (v := .int (dgI X L (pl + 1 + 1))) hx hb hts (iU inlX9) hown hK hP rfl rfl 13 (by decide) (kU u_270) rfl rfl dX9_part_265 ?_
                  refine lv_istore (lv' := [(4, .int (dgI X L (pl + 1 + 1))), (2, .int (nI 0)), (3, .int (nI d1)), (0, .ref mr), (1, .int (nI 0))]) hx hb dX9_part_268 hl (by decide) rfl (fun ls hl => ?_)
                  refine lv_iload_n hx hb dX9_part_270 rfl (lv_at hl 1 rfl) ?_
                  refine lv_if_eq (tgt := 288) hx hb dX9_part_271 (by decide) (fun _ => ?_) (fun c_271 => absurd (by decide +kernel) c_271)
                  refine lv_iconst (v := (nI 0)) hx hb dX9_part_288 (by decide) ?_
                  refine lv_istore_n (lv' := [(2, .int (nI 0)), (4, .int (dgI X L (pl + 1 + 1))), (3, .int (nI d1)), (0, .ref mr), (1, .int (nI 0))]) hx hb dX9_part_289 rfl hl (by decide) rfl (fun ls hl => ?_)
                  refine lv_iload_n hx hb dX9_part_290 rfl (lv_at hl 0 rfl) ?_
                  refine lv_if_eq (tgt := 313) hx hb dX9_part_291 (by decide) (fun _ => ?_) (fun c_291 => absurd (by decide +kernel) c_291)
                  refine lv_iload_n hx hb dX9_part_313 rfl (lv_at hl 0 rfl) ?_
                  exact ct_z ((dgI X L (pl + 1 + 1))) hx hb hr hlocks (by first | (rw [rpP_l (by omega) (by omega) (by omega), rpL_1 k1, hsP_f (by omega), vsP_f (by omega)]; exact hP) | (rw [rpP_l (by omega) (by omega) (by omega), rpL_2 k1 k2, hsP_f (by omega), vsP_f (by omega)]; exact hP) | (rw [rpP_l (by omega) (by omega) (by omega), rpL_3 k1 k2 k3, hsP_f (by omega), vsP_f (by omega)]; exact hP) | (rw [rpP_l (by omega) (by omega) (by omega), rpL_4 k1 k2 k3, hsP_f (by omega), vsP_f (by omega)]; exact hP)) hS (by first | (rw [rpP_l (by omega) (by omega) (by omega), rpL_1 k1]; rfl) | (rw [rpP_l (by omega) (by omega) (by omega), rpL_2 k1 k2]; rfl) | (rw [rpP_l (by omega) (by omega) (by omega), rpL_3 k1 k2 k3]; rfl) | (rw [rpP_l (by omega) (by omega) (by omega), rpL_4 k1 k2 k3]; rfl)) dX9_part_314
                · skip
                  rw [show (if (some d2).isSome = true then (1 : Int32) else 0) = nI 1 from rfl]
                  rw [plD_s k2, dgI_s k2] at hP hD
                  obtain ⟨b1_k2, b2_k2, -, -⟩ := dg_le k2
                  refine lv_if_eq (tgt := 262) hx hb dX9_part_255 (by decide) (fun c_255 => absurd c_255 (by decide +kernel)) (fun _ => ?_)
                  refine lv_iconst (v := (nI 1)) hx hb dX9_part_258 (by decide) ?_
                  refine lv_goto (tgt := 263) hx hb dX9_part_259 (by decide) ?_
                  refine lv_istore_n (lv' := [(2, .int (nI 1)), (3, .int (nI d1)), (0, .ref mr), (1, .int (nI 0))]) hx hb dX9_part_263 rfl hl (by decide) rfl (fun ls hl => ?_)
                  refine lv_aload_n hx hb dX9_part_264 rfl (lv_at hl 2 rfl) ?_
                  refine gf_n (C := RX9) (T := TX9) (N := 15) (ci := 9) (q0 := 0) (v := .int (nI d2)) hx hb hts (iU inlX9) hown hK hP rfl rfl 13 (by decide) (kU u_270) rfl rfl dX9_part_265 ?_
                  refine lv_istore (lv' := [(4, .int (nI d2)), (2, .int (nI 1)), (3, .int (nI d1)), (0, .ref mr), (1, .int (nI 0))]) hx hb dX9_part_268 hl (by decide) rfl (fun ls hl => ?_)
                  refine lv_iload_n hx hb dX9_part_270 rfl (lv_at hl 1 rfl) ?_
                  refine lv_if_eq (tgt := 288) hx hb dX9_part_271 (by decide) (fun c_271 => absurd c_271 (by decide +kernel)) (fun _ => ?_)
                  refine lv_aload_n hx hb dX9_part_274 rfl (lv_at hl 3 rfl) ?_
                  refine lv_iconst (v := (nI 0)) hx hb dX9_part_275 (by decide) ?_
                  refine lv_bipush (v := (nI 9)) hx hb dX9_part_276 (by decide) ?_
                  refine gp_V (ci := 9) (q0 := 0) (cq := (RX9, TX9, 15)) (c_X9_digitTo l D cI cZ cF cL mr rf st L th ((pl + 1) + 1 + 1) hs vs ((nI d2)) xx X 0 9 hL hXt (by omega) (by omega) (by omega)) (gUV u_271 u_272 u_273 u_5 u_274) rfl hdV_X9_digitTo ⟨Nat.le_of_ble_eq_true rfl, Nat.le_of_ble_eq_true rfl⟩ ⟨rfl, rfl⟩ hx hb hml hown hts hK hA hP hD hS hl.1 ⟨Nat.le_of_ble_eq_true rfl, Nat.le_of_ble_eq_true rfl⟩ rfl rfl rfl (wr := ([] : va_W)) (pm_cnt (fun _ => by simp only [List.countP_append, List.countP_nil, fT] <;> omega)) (fun _ => by simp only [List.map_append, List.map_nil, fX_m, bX_m, sX_m, pX_m, iaX_m, r5X_m, r6X_m, fT_m, hX_m, tX_m, xX_m, sgX_m, zaX_m, fsB_a, qX_m, mX_m]) (rest := []) rfl rfl (Nat.le_of_ble_eq_true rfl) dX9_part_278 (ws2 := (fun _ : Unit => (mX mr rf st L th (plD X L ((pl + 1) + 1 + 1) 0 9) hs vs (dgI X L ((pl + 1) + 1 + 1)) xx ++ iaX cI (rf 5) 120 X))) (fun _ => (pm_cnt (fun _ => by simp only [List.countP_append, List.countP_nil, fT] <;> omega))) (fun _ Hp locs hP hD hS => ?_)
                  rcases k3 : dg X L (((pl + 1) + 1) + 1) 0 9 with _ | d3
                  · skip
                    rw [show (if (none : Option Nat).isSome = true then (1 : Int32) else 0) = nI 0 from rfl]
                    rw [plD_n k3] at hP hD
                    refine lv_if_eq (tgt := 288) hx hb dX9_part_281 (by decide) (fun _ => ?_) (fun c_281 => absurd (by decide +kernel) c_281)
                    refine lv_iconst (v := (nI 0)) hx hb dX9_part_288 (by decide) ?_
                    refine lv_istore_n (lv' := [(2, .int (nI 0)), (4, .int (nI d2)), (3, .int (nI d1)), (0, .ref mr), (1, .int (nI 0))]) hx hb dX9_part_289 rfl hl (by decide) rfl (fun ls hl => ?_)
                    refine lv_iload_n hx hb dX9_part_290 rfl (lv_at hl 0 rfl) ?_
                    refine lv_if_eq (tgt := 313) hx hb dX9_part_291 (by decide) (fun _ => ?_) (fun c_291 => absurd (by decide +kernel) c_291)
                    refine lv_iload_n hx hb dX9_part_313 rfl (lv_at hl 0 rfl) ?_
                    exact ct_z ((dgI X L ((pl + 1) + 1 + 1))) hx hb hr hlocks (by first | (rw [rpP_l (by omega) (by omega) (by omega), rpL_1 k1, hsP_f (by omega), vsP_f (by omega)]; exact hP) | (rw [rpP_l (by omega) (by omega) (by omega), rpL_2 k1 k2, hsP_f (by omega), vsP_f (by omega)]; exact hP) | (rw [rpP_l (by omega) (by omega) (by omega), rpL_3 k1 k2 k3, hsP_f (by omega), vsP_f (by omega)]; exact hP) | (rw [rpP_l (by omega) (by omega) (by omega), rpL_4 k1 k2 k3, hsP_f (by omega), vsP_f (by omega)]; exact hP)) hS (by first | (rw [rpP_l (by omega) (by omega) (by omega), rpL_1 k1]; rfl) | (rw [rpP_l (by omega) (by omega) (by omega), rpL_2 k1 k2]; rfl) | (rw [rpP_l (by omega) (by omega) (by omega), rpL_3 k1 k2 k3]; rfl) | (rw [rpP_l (by omega) (by omega) (by omega), rpL_4 k1 k2 k3]; rfl)) dX9_part_314
                  · skip
                    rw [show (if (some d3).isSome = true then (1 : Int32) else 0) = nI 1 from rfl]
                    rw [plD_s k3, dgI_s k3] at hP hD
                    obtain ⟨b1_k3, b2_k3, -, -⟩ := dg_le k3
                    refine lv_if_eq (tgt := 288) hx hb dX9_part_281 (by decide) (fun c_281 => absurd c_281 (by decide +kernel)) (fun _ => ?_)
                    refine lv_iconst (v := (nI 1)) hx hb dX9_part_284 (by decide) ?_
                    refine lv_goto (tgt := 289) hx hb dX9_part_285 (by decide) ?_
                    refine lv_istore_n (lv' := [(2, .int (nI 1)), (4, .int (nI d2)), (3, .int (nI d1)), (0, .ref mr), (1, .int (nI 0))]) hx hb dX9_part_289 rfl hl (by decide) rfl (fun ls hl => ?_)
                    refine lv_iload_n hx hb dX9_part_290 rfl (lv_at hl 0 rfl) ?_
                    refine lv_if_eq (tgt := 313) hx hb dX9_part_291 (by decide) (fun c_291 => absurd c_291 (by decide +kernel)) (fun _ => ?_)
                    refine lv_iload_n hx hb dX9_part_294 rfl (lv_at hl 4 rfl) ?_
                    refine lv_if_eq (tgt := 313) hx hb dX9_part_295 (by decide) (fun _ => ?_) (fun c_295 => absurd (by decide +kernel) c_295)
                    refine lv_iload_n hx hb dX9_part_313 rfl (lv_at hl 0 rfl) ?_
                    exact ct_z ((nI d3)) hx hb hr hlocks (by first | (rw [rpP_l (by omega) (by omega) (by omega), rpL_1 k1, hsP_f (by omega), vsP_f (by omega)]; exact hP) | (rw [rpP_l (by omega) (by omega) (by omega), rpL_2 k1 k2, hsP_f (by omega), vsP_f (by omega)]; exact hP) | (rw [rpP_l (by omega) (by omega) (by omega), rpL_3 k1 k2 k3, hsP_f (by omega), vsP_f (by omega)]; exact hP) | (rw [rpP_l (by omega) (by omega) (by omega), rpL_4 k1 k2 k3, hsP_f (by omega), vsP_f (by omega)]; exact hP)) hS (by first | (rw [rpP_l (by omega) (by omega) (by omega), rpL_1 k1]; rfl) | (rw [rpP_l (by omega) (by omega) (by omega), rpL_2 k1 k2]; rfl) | (rw [rpP_l (by omega) (by omega) (by omega), rpL_3 k1 k2 k3]; rfl) | (rw [rpP_l (by omega) (by omega) (by omega), rpL_4 k1 k2 k3]; rfl)) dX9_part_314
            · skip
              rw [show (if (pl < L ∧ X pl = 108) then (1 : Int32) else 0) = nI 0 from if_neg (fun z => q_220 z.2)]
              rw [if_neg (show ¬ (pl < L ∧ X pl = 108) from fun z => q_220 z.2)] at hP hD
              refine lv_if_eq (tgt := 315) hx hb dX9_part_220 (by decide) (fun _ => ?_) (fun c_220 => absurd (by decide +kernel) c_220)
              refine lv_aload_n hx hb dX9_part_315 rfl (lv_at hl 0 rfl) ?_
              refine gf_n (C := RX9) (T := TX9) (N := 15) (ci := 9) (q0 := 0) (v := .int (nI hs)) hx hb hts (iU inlX9) hown hK hP rfl rfl 11 (by decide) (kU u_260) rfl rfl dX9_part_316 ?_
              refine lv_if_le (tgt := 349) hx hb dX9_part_319 (by decide) (fun c_319 => ?_) (fun c_319 => ?_)
              · skip
                replace c_319 := cn_le (b := 0) (by omega) (by omega) c_319
                refine lv_iconst (v := (nI 0)) hx hb dX9_part_349 (by decide) ?_
                refine lv_istore_n (lv' := [(2, .int (nI 0)), (0, .ref mr), (1, .int (nI 0))]) hx hb dX9_part_350 rfl hl (by decide) rfl (fun ls hl => ?_)
                refine lv_iload_n hx hb dX9_part_351 rfl (lv_at hl 0 rfl) ?_
                refine lv_if_eq (tgt := 374) hx hb dX9_part_352 (by decide) (fun _ => ?_) (fun c_352 => absurd (by decide +kernel) c_352)
                refine lv_iload_n hx hb dX9_part_374 rfl (lv_at hl 0 rfl) ?_
                exact ct_z (dg0) hx hb hr hlocks (by first | (rw [rpP_s (by omega) (by omega) (by omega) (by omega), rpS_1 k1, hsP_f (by omega), vsP_f (by omega)]; exact hP) | (rw [rpP_s (by omega) (by omega) (by omega) (by omega), rpS_2 k1, hsP_f (by omega), vsP_f (by omega)]; exact hP) | (rw [rpP_n (by omega) (by omega) (by omega) (by omega), hsP_f (by omega), vsP_f (by omega)]; exact hP)) hS (by first | (rw [rpP_s (by omega) (by omega) (by omega) (by omega), rpS_1 k1]; rfl) | (rw [rpP_s (by omega) (by omega) (by omega) (by omega), rpS_2 k1]; rfl) | (rw [rpP_n (by omega) (by omega) (by omega) (by omega)]; rfl)) dX9_part_375
              · skip
                replace c_319 := cn_nle (b := 0) (by omega) (by omega) c_319
                refine lv_aload_n hx hb dX9_part_322 rfl (lv_at hl 0 rfl) ?_
                refine lv_bipush (v := (nI 115)) hx hb dX9_part_323 (by decide) ?_
                refine gp_V (ci := 9) (q0 := 0) (cq := (RX9, TX9, 15)) (c_X9_letter l D cI cZ cF cL mr rf st L th pl hs vs dg0 xx X 115 hL hXt hpp (by decide)) (gUV u_262 u_263 u_264 u_5 u_265) rfl hdV_X9_letter ⟨Nat.le_of_ble_eq_true rfl, Nat.le_of_ble_eq_true rfl⟩ ⟨rfl, rfl⟩ hx hb hml hown hts hK hA hP hD hS hl.1 ⟨Nat.le_of_ble_eq_true rfl, Nat.le_of_ble_eq_true rfl⟩ rfl rfl rfl (wr := ([] : va_W)) (pm_cnt (fun _ => by simp only [List.countP_append, List.countP_nil, fT] <;> omega)) (fun _ => by simp only [List.map_append, List.map_nil, fX_m, bX_m, sX_m, pX_m, iaX_m, r5X_m, r6X_m, fT_m, hX_m, tX_m, xX_m, sgX_m, zaX_m, fsB_a, qX_m, mX_m]) (rest := []) rfl rfl (Nat.le_of_ble_eq_true rfl) dX9_part_325 (ws2 := (fun _ : Unit => (mX mr rf st L th (if (pl < L ∧ X pl = 115) then pl + 1 else pl) hs vs dg0 xx ++ iaX cI (rf 5) 120 X))) (fun _ => (pm_cnt (fun _ => by simp only [List.countP_append, List.countP_nil, fT] <;> omega))) (fun _ Hp locs hP hD hS => ?_)
                by_cases q_328 : X pl = 115
                · skip
                  rw [show (if (pl < L ∧ X pl = 115) then (1 : Int32) else 0) = nI 1 from if_pos ⟨hpl, q_328⟩]
                  rw [if_pos (⟨hpl, q_328⟩ : (pl < L ∧ X pl = 115))] at hP hD
                  refine lv_if_eq (tgt := 349) hx hb dX9_part_328 (by decide) (fun c_328 => absurd c_328 (by decide +kernel)) (fun _ => ?_)
                  refine lv_aload_n hx hb dX9_part_331 rfl (lv_at hl 0 rfl) ?_
                  refine lv_iconst (v := (nI 0)) hx hb dX9_part_332 (by decide) ?_
                  refine lv_aload_n hx hb dX9_part_333 rfl (lv_at hl 0 rfl) ?_
                  refine gf_n (C := RX9) (T := TX9) (N := 15) (ci := 9) (q0 := 0) (v := .int (nI hs)) hx hb hts (iU inlX9) hown hK hP rfl rfl 11 (by decide) (kU u_260) rfl rfl dX9_part_334 ?_
                  refine lv_iconst (v := (nI 1)) hx hb dX9_part_337 (by decide) ?_
                  refine lv_isub hx hb dX9_part_338 ?_
                  rw [pk_sub (a := hs) (b := 1) (by omega)]
                  refine gp_V (ci := 9) (q0 := 0) (cq := (RX9, TX9, 15)) (c_X9_digitTo l D cI cZ cF cL mr rf st L th (pl + 1) hs vs dg0 xx X 0 (hs - 1) hL hXt (by omega) (by omega) (by omega)) (gUV u_271 u_272 u_273 u_5 u_274) rfl hdV_X9_digitTo ⟨Nat.le_of_ble_eq_true rfl, Nat.le_of_ble_eq_true rfl⟩ ⟨rfl, rfl⟩ hx hb hml hown hts hK hA hP hD hS hl.1 ⟨Nat.le_of_ble_eq_true rfl, Nat.le_of_ble_eq_true rfl⟩ rfl rfl rfl (wr := ([] : va_W)) (pm_cnt (fun _ => by simp only [List.countP_append, List.countP_nil, fT] <;> omega)) (fun _ => by simp only [List.map_append, List.map_nil, fX_m, bX_m, sX_m, pX_m, iaX_m, r5X_m, r6X_m, fT_m, hX_m, tX_m, xX_m, sgX_m, zaX_m, fsB_a, qX_m, mX_m]) (rest := []) rfl rfl (Nat.le_of_ble_eq_true rfl) dX9_part_339 (ws2 := (fun _ : Unit => (mX mr rf st L th (plD X L (pl + 1) 0 (hs - 1)) hs vs (dgI X L (pl + 1)) xx ++ iaX cI (rf 5) 120 X))) (fun _ => (pm_cnt (fun _ => by simp only [List.countP_append, List.countP_nil, fT] <;> omega))) (fun _ Hp locs hP hD hS => ?_)
                  rcases k1 : dg X L (pl + 1) 0 (hs - 1) with _ | d1
                  · skip
                    rw [show (if (none : Option Nat).isSome = true then (1 : Int32) else 0) = nI 0 from rfl]
                    rw [plD_n k1] at hP hD
                    refine lv_if_eq (tgt := 349) hx hb dX9_part_342 (by decide) (fun _ => ?_) (fun c_342 => absurd (by decide +kernel) c_342)
                    refine lv_iconst (v := (nI 0)) hx hb dX9_part_349 (by decide) ?_
                    refine lv_istore_n (lv' := [(2, .int (nI 0)), (0, .ref mr), (1, .int (nI 0))]) hx hb dX9_part_350 rfl hl (by decide) rfl (fun ls hl => ?_)
                    refine lv_iload_n hx hb dX9_part_351 rfl (lv_at hl 0 rfl) ?_
                    refine lv_if_eq (tgt := 374) hx hb dX9_part_352 (by decide) (fun _ => ?_) (fun c_352 => absurd (by decide +kernel) c_352)
                    refine lv_iload_n hx hb dX9_part_374 rfl (lv_at hl 0 rfl) ?_
                    exact ct_z ((dgI X L (pl + 1))) hx hb hr hlocks (by first | (rw [rpP_s (by omega) (by omega) (by omega) (by omega), rpS_1 k1, hsP_f (by omega), vsP_f (by omega)]; exact hP) | (rw [rpP_s (by omega) (by omega) (by omega) (by omega), rpS_2 k1, hsP_f (by omega), vsP_f (by omega)]; exact hP) | (rw [rpP_n (by omega) (by omega) (by omega) (by omega), hsP_f (by omega), vsP_f (by omega)]; exact hP)) hS (by first | (rw [rpP_s (by omega) (by omega) (by omega) (by omega), rpS_1 k1]; rfl) | (rw [rpP_s (by omega) (by omega) (by omega) (by omega), rpS_2 k1]; rfl) | (rw [rpP_n (by omega) (by omega) (by omega) (by omega)]; rfl)) dX9_part_375
                  · skip
                    rw [show (if (some d1).isSome = true then (1 : Int32) else 0) = nI 1 from rfl]
                    rw [plD_s k1, dgI_s k1] at hP hD
                    obtain ⟨b1_k1, b2_k1, -, -⟩ := dg_le k1
                    refine lv_if_eq (tgt := 349) hx hb dX9_part_342 (by decide) (fun c_342 => absurd c_342 (by decide +kernel)) (fun _ => ?_)
                    refine lv_iconst (v := (nI 1)) hx hb dX9_part_345 (by decide) ?_
                    refine lv_goto (tgt := 350) hx hb dX9_part_346 (by decide) ?_
                    refine lv_istore_n (lv' := [(2, .int (nI 1)), (0, .ref mr), (1, .int (nI 0))]) hx hb dX9_part_350 rfl hl (by decide) rfl (fun ls hl => ?_)
                    refine lv_iload_n hx hb dX9_part_351 rfl (lv_at hl 0 rfl) ?_
                    refine lv_if_eq (tgt := 374) hx hb dX9_part_352 (by decide) (fun c_352 => absurd c_352 (by decide +kernel)) (fun _ => ?_)
                    refine lv_iload_n hx hb dX9_part_355 rfl (lv_at hl 2 rfl) ?_
                    refine lv_if_eq (tgt := 374) hx hb dX9_part_356 (by decide) (fun _ => ?_) (fun c_356 => absurd (by decide +kernel) c_356)
                    refine lv_iload_n hx hb dX9_part_374 rfl (lv_at hl 0 rfl) ?_
                    exact ct_z ((nI d1)) hx hb hr hlocks (by first | (rw [rpP_s (by omega) (by omega) (by omega) (by omega), rpS_1 k1, hsP_f (by omega), vsP_f (by omega)]; exact hP) | (rw [rpP_s (by omega) (by omega) (by omega) (by omega), rpS_2 k1, hsP_f (by omega), vsP_f (by omega)]; exact hP) | (rw [rpP_n (by omega) (by omega) (by omega) (by omega), hsP_f (by omega), vsP_f (by omega)]; exact hP)) hS (by first | (rw [rpP_s (by omega) (by omega) (by omega) (by omega), rpS_1 k1]; rfl) | (rw [rpP_s (by omega) (by omega) (by omega) (by omega), rpS_2 k1]; rfl) | (rw [rpP_n (by omega) (by omega) (by omega) (by omega)]; rfl)) dX9_part_375
                · skip
                  rw [show (if (pl < L ∧ X pl = 115) then (1 : Int32) else 0) = nI 0 from if_neg (fun z => q_328 z.2)]
                  rw [if_neg (show ¬ (pl < L ∧ X pl = 115) from fun z => q_328 z.2)] at hP hD
                  refine lv_if_eq (tgt := 349) hx hb dX9_part_328 (by decide) (fun _ => ?_) (fun c_328 => absurd (by decide +kernel) c_328)
                  refine lv_iconst (v := (nI 0)) hx hb dX9_part_349 (by decide) ?_
                  refine lv_istore_n (lv' := [(2, .int (nI 0)), (0, .ref mr), (1, .int (nI 0))]) hx hb dX9_part_350 rfl hl (by decide) rfl (fun ls hl => ?_)
                  refine lv_iload_n hx hb dX9_part_351 rfl (lv_at hl 0 rfl) ?_
                  refine lv_if_eq (tgt := 374) hx hb dX9_part_352 (by decide) (fun _ => ?_) (fun c_352 => absurd (by decide +kernel) c_352)
                  refine lv_iload_n hx hb dX9_part_374 rfl (lv_at hl 0 rfl) ?_
                  exact ct_z (dg0) hx hb hr hlocks (by first | (rw [rpP_s (by omega) (by omega) (by omega) (by omega), rpS_1 k1, hsP_f (by omega), vsP_f (by omega)]; exact hP) | (rw [rpP_s (by omega) (by omega) (by omega) (by omega), rpS_2 k1, hsP_f (by omega), vsP_f (by omega)]; exact hP) | (rw [rpP_n (by omega) (by omega) (by omega) (by omega), hsP_f (by omega), vsP_f (by omega)]; exact hP)) hS (by first | (rw [rpP_s (by omega) (by omega) (by omega) (by omega), rpS_1 k1]; rfl) | (rw [rpP_s (by omega) (by omega) (by omega) (by omega), rpS_2 k1]; rfl) | (rw [rpP_n (by omega) (by omega) (by omega) (by omega)]; rfl)) dX9_part_375
  · skip
    replace c_6 := cn_nle (by omega) (by omega) c_6
    refine lv_aload_n hx hb dX9_part_9 rfl (lv_at hl 0 rfl) ?_
    refine lv_bipush (v := (nI 104)) hx hb dX9_part_10 (by decide) ?_
    refine gp_V (ci := 9) (q0 := 0) (cq := (RX9, TX9, 15)) (c_X9_letter l D cI cZ cF cL mr rf st L th pl hs vs dg0 xx X 104 hL hXt hpp (by decide)) (gUV u_262 u_263 u_264 u_5 u_265) rfl hdV_X9_letter ⟨Nat.le_of_ble_eq_true rfl, Nat.le_of_ble_eq_true rfl⟩ ⟨rfl, rfl⟩ hx hb hml hown hts hK hA hP hD hS hl.1 ⟨Nat.le_of_ble_eq_true rfl, Nat.le_of_ble_eq_true rfl⟩ rfl rfl rfl (wr := ([] : va_W)) (pm_cnt (fun _ => by simp only [List.countP_append, List.countP_nil, fT] <;> omega)) (fun _ => by simp only [List.map_append, List.map_nil, fX_m, bX_m, sX_m, pX_m, iaX_m, r5X_m, r6X_m, fT_m, hX_m, tX_m, xX_m, sgX_m, zaX_m, fsB_a, qX_m, mX_m]) (rest := []) rfl rfl (Nat.le_of_ble_eq_true rfl) dX9_part_12 (ws2 := (fun _ : Unit => (mX mr rf st L th (if (pl < L ∧ X pl = 104) then pl + 1 else pl) hs vs dg0 xx ++ iaX cI (rf 5) 120 X))) (fun _ => (pm_cnt (fun _ => by simp only [List.countP_append, List.countP_nil, fT] <;> omega))) (fun _ Hp locs hP hD hS => ?_)
    by_cases q_15 : X pl = 104
    · skip
      rw [show (if (pl < L ∧ X pl = 104) then (1 : Int32) else 0) = nI 1 from if_pos ⟨hpl, q_15⟩]
      rw [if_pos (⟨hpl, q_15⟩ : (pl < L ∧ X pl = 104))] at hP hD
      refine lv_if_eq (tgt := 101) hx hb dX9_part_15 (by decide) (fun c_15 => absurd c_15 (by decide +kernel)) (fun _ => ?_)
      refine lv_aload_n hx hb dX9_part_18 rfl (lv_at hl 0 rfl) ?_
      refine lv_iconst (v := (nI 1)) hx hb dX9_part_19 (by decide) ?_
      refine lv_iconst (v := (nI 4)) hx hb dX9_part_20 (by decide) ?_
      refine gp_V (ci := 9) (q0 := 0) (cq := (RX9, TX9, 15)) (c_X9_digitTo l D cI cZ cF cL mr rf st L th (pl + 1) hs vs dg0 xx X 1 4 hL hXt (by omega) (by omega) (by omega)) (gUV u_271 u_272 u_273 u_5 u_274) rfl hdV_X9_digitTo ⟨Nat.le_of_ble_eq_true rfl, Nat.le_of_ble_eq_true rfl⟩ ⟨rfl, rfl⟩ hx hb hml hown hts hK hA hP hD hS hl.1 ⟨Nat.le_of_ble_eq_true rfl, Nat.le_of_ble_eq_true rfl⟩ rfl rfl rfl (wr := ([] : va_W)) (pm_cnt (fun _ => by simp only [List.countP_append, List.countP_nil, fT] <;> omega)) (fun _ => by simp only [List.map_append, List.map_nil, fX_m, bX_m, sX_m, pX_m, iaX_m, r5X_m, r6X_m, fT_m, hX_m, tX_m, xX_m, sgX_m, zaX_m, fsB_a, qX_m, mX_m]) (rest := []) rfl rfl (Nat.le_of_ble_eq_true rfl) dX9_part_21 (ws2 := (fun _ : Unit => (mX mr rf st L th (plD X L (pl + 1) 1 4) hs vs (dgI X L (pl + 1)) xx ++ iaX cI (rf 5) 120 X))) (fun _ => (pm_cnt (fun _ => by simp only [List.countP_append, List.countP_nil, fT] <;> omega))) (fun _ Hp locs hP hD hS => ?_)
      rcases k1 : dg X L (pl + 1) 1 4 with _ | d1
      · skip
        rw [show (if (none : Option Nat).isSome = true then (1 : Int32) else 0) = nI 0 from rfl]
        rw [plD_n k1] at hP hD
        refine lv_istore_n (lv' := [(2, .int (nI 0)), (0, .ref mr), (1, .int (nI 0))]) hx hb dX9_part_24 rfl hl (by decide) rfl (fun ls hl => ?_)
        refine lv_aload_n hx hb dX9_part_25 rfl (lv_at hl 1 rfl) ?_
        refine gf_n (C := RX9) (T := TX9) (N := 15) (ci := 9) (q0 := 0) (v := .int (dgI X L (pl + 1))) hx hb hts (iU inlX9) hown hK hP rfl rfl 13 (by decide) (kU u_270) rfl rfl dX9_part_26 ?_
        refine lv_istore_n (lv' := [(3, .int (dgI X L (pl + 1))), (2, .int (nI 0)), (0, .ref mr), (1, .int (nI 0))]) hx hb dX9_part_29 rfl hl (by decide) rfl (fun ls hl => ?_)
        refine lv_iload_n hx hb dX9_part_30 rfl (lv_at hl 1 rfl) ?_
        refine lv_if_eq (tgt := 48) hx hb dX9_part_31 (by decide) (fun _ => ?_) (fun c_31 => absurd (by decide +kernel) c_31)
        refine lv_iconst (v := (nI 0)) hx hb dX9_part_48 (by decide) ?_
        refine lv_istore_n (lv' := [(2, .int (nI 0)), (3, .int (dgI X L (pl + 1))), (0, .ref mr), (1, .int (nI 0))]) hx hb dX9_part_49 rfl hl (by decide) rfl (fun ls hl => ?_)
        refine lv_iload_n hx hb dX9_part_50 rfl (lv_at hl 0 rfl) ?_
        refine lv_if_eq (tgt := 89) hx hb dX9_part_51 (by decide) (fun _ => ?_) (fun c_51 => absurd (by decide +kernel) c_51)
        refine lv_aload_n hx hb dX9_part_89 rfl (lv_at hl 2 rfl) ?_
        refine lv_dup hx hb dX9_part_90 rfl ?_
        refine gf_n (C := RX9) (T := TX9) (N := 15) (ci := 9) (q0 := 0) (v := .int (nI hs)) hx hb hts (iU inlX9) hown hK hP rfl rfl 11 (by decide) (kU u_260) rfl rfl dX9_part_91 ?_
        refine lv_iconst (v := (nI 1)) hx hb dX9_part_94 (by decide) ?_
        refine lv_iadd hx hb dX9_part_95 ?_
        rw [nI_add hs 1]
        refine pf_n (C := RX9) (T := TX9) (N := 15) (ci := 9) (q0 := 0) (ty := .int) (v := .int (nI (hs + 1))) (ws2 := (mX mr rf st L th (pl + 1) (hs + 1) vs (dgI X L (pl + 1)) xx ++ iaX cI (rf 5) 120 X)) hx hb hts (iU inlX9) tyX9 tyX9_ok nmX9 hown hK hP hD hS rfl rfl 11 (by decide) (kU u_260) rfl rfl (tyX9_ok 11 (by decide)) rfl rfl (Nat.le_of_ble_eq_true rfl) dX9_part_96 rfl (fun Hp locs hP hD hS => ?_)
        refine lv_iload_n hx hb dX9_part_99 rfl (lv_at hl 0 rfl) ?_
        exact ct_z ((dgI X L (pl + 1))) hx hb hr hlocks (by first | (rw [rpP_h (by omega), rpH_1 k1, hsP_t (by omega), vsP_f (by omega)]; exact hP) | (rw [rpP_h (by omega), rpH_2 k1 k2, hsP_t (by omega), vsP_f (by omega)]; exact hP) | (rw [rpP_h (by omega), rpH_3 k1 k2, hsP_t (by omega), vsP_f (by omega)]; exact hP)) hS (by first | (rw [rpP_h (by omega), rpH_1 k1]; rfl) | (rw [rpP_h (by omega), rpH_2 k1 k2]; rfl) | (rw [rpP_h (by omega), rpH_3 k1 k2]; rfl)) dX9_part_100
      · skip
        rw [show (if (some d1).isSome = true then (1 : Int32) else 0) = nI 1 from rfl]
        rw [plD_s k1, dgI_s k1] at hP hD
        obtain ⟨b1_k1, b2_k1, -, -⟩ := dg_le k1
        refine lv_istore_n (lv' := [(2, .int (nI 1)), (0, .ref mr), (1, .int (nI 0))]) hx hb dX9_part_24 rfl hl (by decide) rfl (fun ls hl => ?_)
        refine lv_aload_n hx hb dX9_part_25 rfl (lv_at hl 1 rfl) ?_
        refine gf_n (C := RX9) (T := TX9) (N := 15) (ci := 9) (q0 := 0) (v := .int (nI d1)) hx hb hts (iU inlX9) hown hK hP rfl rfl 13 (by decide) (kU u_270) rfl rfl dX9_part_26 ?_
        refine lv_istore_n (lv' := [(3, .int (nI d1)), (2, .int (nI 1)), (0, .ref mr), (1, .int (nI 0))]) hx hb dX9_part_29 rfl hl (by decide) rfl (fun ls hl => ?_)
        refine lv_iload_n hx hb dX9_part_30 rfl (lv_at hl 1 rfl) ?_
        refine lv_if_eq (tgt := 48) hx hb dX9_part_31 (by decide) (fun c_31 => absurd c_31 (by decide +kernel)) (fun _ => ?_)
        refine lv_aload_n hx hb dX9_part_34 rfl (lv_at hl 2 rfl) ?_
        refine lv_iconst (v := (nI 0)) hx hb dX9_part_35 (by decide) ?_
        refine lv_bipush (v := (nI 9)) hx hb dX9_part_36 (by decide) ?_
        refine gp_V (ci := 9) (q0 := 0) (cq := (RX9, TX9, 15)) (c_X9_digitTo l D cI cZ cF cL mr rf st L th (pl + 1 + 1) hs vs ((nI d1)) xx X 0 9 hL hXt (by omega) (by omega) (by omega)) (gUV u_271 u_272 u_273 u_5 u_274) rfl hdV_X9_digitTo ⟨Nat.le_of_ble_eq_true rfl, Nat.le_of_ble_eq_true rfl⟩ ⟨rfl, rfl⟩ hx hb hml hown hts hK hA hP hD hS hl.1 ⟨Nat.le_of_ble_eq_true rfl, Nat.le_of_ble_eq_true rfl⟩ rfl rfl rfl (wr := ([] : va_W)) (pm_cnt (fun _ => by simp only [List.countP_append, List.countP_nil, fT] <;> omega)) (fun _ => by simp only [List.map_append, List.map_nil, fX_m, bX_m, sX_m, pX_m, iaX_m, r5X_m, r6X_m, fT_m, hX_m, tX_m, xX_m, sgX_m, zaX_m, fsB_a, qX_m, mX_m]) (rest := []) rfl rfl (Nat.le_of_ble_eq_true rfl) dX9_part_38 (ws2 := (fun _ : Unit => (mX mr rf st L th (plD X L (pl + 1 + 1) 0 9) hs vs (dgI X L (pl + 1 + 1)) xx ++ iaX cI (rf 5) 120 X))) (fun _ => (pm_cnt (fun _ => by simp only [List.countP_append, List.countP_nil, fT] <;> omega))) (fun _ Hp locs hP hD hS => ?_)
        rcases k2 : dg X L ((pl + 1) + 1) 0 9 with _ | d2
        · skip
          rw [show (if (none : Option Nat).isSome = true then (1 : Int32) else 0) = nI 0 from rfl]
          rw [plD_n k2] at hP hD
          refine lv_if_eq (tgt := 48) hx hb dX9_part_41 (by decide) (fun _ => ?_) (fun c_41 => absurd (by decide +kernel) c_41)
          refine lv_iconst (v := (nI 0)) hx hb dX9_part_48 (by decide) ?_
          refine lv_istore_n (lv' := [(2, .int (nI 0)), (3, .int (nI d1)), (0, .ref mr), (1, .int (nI 0))]) hx hb dX9_part_49 rfl hl (by decide) rfl (fun ls hl => ?_)
          refine lv_iload_n hx hb dX9_part_50 rfl (lv_at hl 0 rfl) ?_
          refine lv_if_eq (tgt := 89) hx hb dX9_part_51 (by decide) (fun _ => ?_) (fun c_51 => absurd (by decide +kernel) c_51)
          refine lv_aload_n hx hb dX9_part_89 rfl (lv_at hl 2 rfl) ?_
          refine lv_dup hx hb dX9_part_90 rfl ?_
          refine gf_n (C := RX9) (T := TX9) (N := 15) (ci := 9) (q0 := 0) (v := .int (nI hs)) hx hb hts (iU inlX9) hown hK hP rfl rfl 11 (by decide) (kU u_260) rfl rfl dX9_part_91 ?_
          refine lv_iconst (v := (nI 1)) hx hb dX9_part_94 (by decide) ?_
          refine lv_iadd hx hb dX9_part_95 ?_
          rw [nI_add hs 1]
          refine pf_n (C := RX9) (T := TX9) (N := 15) (ci := 9) (q0 := 0) (ty := .int) (v := .int (nI (hs + 1))) (ws2 := (mX mr rf st L th ((pl + 1) + 1) (hs + 1) vs (dgI X L (pl + 1 + 1)) xx ++ iaX cI (rf 5) 120 X)) hx hb hts (iU inlX9) tyX9 tyX9_ok nmX9 hown hK hP hD hS rfl rfl 11 (by decide) (kU u_260) rfl rfl (tyX9_ok 11 (by decide)) rfl rfl (Nat.le_of_ble_eq_true rfl) dX9_part_96 rfl (fun Hp locs hP hD hS => ?_)
          refine lv_iload_n hx hb dX9_part_99 rfl (lv_at hl 0 rfl) ?_
          exact ct_z ((dgI X L (pl + 1 + 1))) hx hb hr hlocks (by first | (rw [rpP_h (by omega), rpH_1 k1, hsP_t (by omega), vsP_f (by omega)]; exact hP) | (rw [rpP_h (by omega), rpH_2 k1 k2, hsP_t (by omega), vsP_f (by omega)]; exact hP) | (rw [rpP_h (by omega), rpH_3 k1 k2, hsP_t (by omega), vsP_f (by omega)]; exact hP)) hS (by first | (rw [rpP_h (by omega), rpH_1 k1]; rfl) | (rw [rpP_h (by omega), rpH_2 k1 k2]; rfl) | (rw [rpP_h (by omega), rpH_3 k1 k2]; rfl)) dX9_part_100
        · skip
          rw [show (if (some d2).isSome = true then (1 : Int32) else 0) = nI 1 from rfl]
          rw [plD_s k2, dgI_s k2] at hP hD
          obtain ⟨b1_k2, b2_k2, -, -⟩ := dg_le k2
          refine lv_if_eq (tgt := 48) hx hb dX9_part_41 (by decide) (fun c_41 => absurd c_41 (by decide +kernel)) (fun _ => ?_)
          refine lv_iconst (v := (nI 1)) hx hb dX9_part_44 (by decide) ?_
          refine lv_goto (tgt := 49) hx hb dX9_part_45 (by decide) ?_
          refine lv_istore_n (lv' := [(2, .int (nI 1)), (3, .int (nI d1)), (0, .ref mr), (1, .int (nI 0))]) hx hb dX9_part_49 rfl hl (by decide) rfl (fun ls hl => ?_)
          refine lv_iload_n hx hb dX9_part_50 rfl (lv_at hl 0 rfl) ?_
          refine lv_if_eq (tgt := 89) hx hb dX9_part_51 (by decide) (fun c_51 => absurd c_51 (by decide +kernel)) (fun _ => ?_)
          refine lv_iload_n hx hb dX9_part_54 rfl (lv_at hl 3 rfl) ?_
          refine lv_if_eq (tgt := 89) hx hb dX9_part_55 (by decide) (fun _ => ?_) (fun c_55 => absurd (by decide +kernel) c_55)
          refine lv_aload_n hx hb dX9_part_89 rfl (lv_at hl 2 rfl) ?_
          refine lv_dup hx hb dX9_part_90 rfl ?_
          refine gf_n (C := RX9) (T := TX9) (N := 15) (ci := 9) (q0 := 0) (v := .int (nI hs)) hx hb hts (iU inlX9) hown hK hP rfl rfl 11 (by decide) (kU u_260) rfl rfl dX9_part_91 ?_
          refine lv_iconst (v := (nI 1)) hx hb dX9_part_94 (by decide) ?_
          refine lv_iadd hx hb dX9_part_95 ?_
          rw [nI_add hs 1]
          refine pf_n (C := RX9) (T := TX9) (N := 15) (ci := 9) (q0 := 0) (ty := .int) (v := .int (nI (hs + 1))) (ws2 := (mX mr rf st L th ((pl + 1) + 1 + 1) (hs + 1) vs (nI d2) xx ++ iaX cI (rf 5) 120 X)) hx hb hts (iU inlX9) tyX9 tyX9_ok nmX9 hown hK hP hD hS rfl rfl 11 (by decide) (kU u_260) rfl rfl (tyX9_ok 11 (by decide)) rfl rfl (Nat.le_of_ble_eq_true rfl) dX9_part_96 rfl (fun Hp locs hP hD hS => ?_)
          refine lv_iload_n hx hb dX9_part_99 rfl (lv_at hl 0 rfl) ?_
          exact ct_z ((nI d2)) hx hb hr hlocks (by first | (rw [rpP_h (by omega), rpH_1 k1, hsP_t (by omega), vsP_f (by omega)]; exact hP) | (rw [rpP_h (by omega), rpH_2 k1 k2, hsP_t (by omega), vsP_f (by omega)]; exact hP) | (rw [rpP_h (by omega), rpH_3 k1 k2, hsP_t (by omega), vsP_f (by omega)]; exact hP)) hS (by first | (rw [rpP_h (by omega), rpH_1 k1]; rfl) | (rw [rpP_h (by omega), rpH_2 k1 k2]; rfl) | (rw [rpP_h (by omega), rpH_3 k1 k2]; rfl)) dX9_part_100
    · skip
      rw [show (if (pl < L ∧ X pl = 104) then (1 : Int32) else 0) = nI 0 from if_neg (fun z => q_15 z.2)]
      rw [if_neg (show ¬ (pl < L ∧ X pl = 104) from fun z => q_15 z.2)] at hP hD
      refine lv_if_eq (tgt := 101) hx hb dX9_part_15 (by decide) (fun _ => ?_) (fun c_15 => absurd (by decide +kernel) c_15)
      refine lv_aload_n hx hb dX9_part_101 rfl (lv_at hl 0 rfl) ?_
      refine gf_n (C := RX9) (T := TX9) (N := 15) (ci := 9) (q0 := 0) (v := .int (nI vs)) hx hb hts (iU inlX9) hown hK hP rfl rfl 12 (by decide) (kU u_261) rfl rfl dX9_part_102 ?_
      refine lv_iconst (v := (nI 5)) hx hb dX9_part_105 (by decide) ?_
      refine lv_icmp_ge (tgt := 200) hx hb dX9_part_106 (by decide) (fun c_106 => ?_) (fun c_106 => ?_)
      · skip
        replace c_106 := cn_le (by omega) (by omega) c_106
        refine lv_aload_n hx hb dX9_part_200 rfl (lv_at hl 0 rfl) ?_
        refine gf_n (C := RX9) (T := TX9) (N := 15) (ci := 9) (q0 := 0) (v := .int (nI hs)) hx hb hts (iU inlX9) hown hK hP rfl rfl 11 (by decide) (kU u_260) rfl rfl dX9_part_201 ?_
        refine lv_if_le (tgt := 315) hx hb dX9_part_204 (by decide) (fun c_204 => ?_) (fun c_204 => ?_)
        · skip
          replace c_204 := cn_le (b := 0) (by omega) (by omega) c_204
          refine lv_aload_n hx hb dX9_part_315 rfl (lv_at hl 0 rfl) ?_
          refine gf_n (C := RX9) (T := TX9) (N := 15) (ci := 9) (q0 := 0) (v := .int (nI hs)) hx hb hts (iU inlX9) hown hK hP rfl rfl 11 (by decide) (kU u_260) rfl rfl dX9_part_316 ?_
          refine lv_if_le (tgt := 349) hx hb dX9_part_319 (by decide) (fun c_319 => ?_) (fun c_319 => ?_)
          · skip
            replace c_319 := cn_le (b := 0) (by omega) (by omega) c_319
            refine lv_iconst (v := (nI 0)) hx hb dX9_part_349 (by decide) ?_
            refine lv_istore_n (lv' := [(2, .int (nI 0)), (0, .ref mr), (1, .int (nI 0))]) hx hb dX9_part_350 rfl hl (by decide) rfl (fun ls hl => ?_)
            refine lv_iload_n hx hb dX9_part_351 rfl (lv_at hl 0 rfl) ?_
            refine lv_if_eq (tgt := 374) hx hb dX9_part_352 (by decide) (fun _ => ?_) (fun c_352 => absurd (by decide +kernel) c_352)
            refine lv_iload_n hx hb dX9_part_374 rfl (lv_at hl 0 rfl) ?_
            exact ct_z (dg0) hx hb hr hlocks (by first | (rw [rpP_s (by omega) (by omega) (by omega) (by omega), rpS_1 k1, hsP_f (by omega), vsP_f (by omega)]; exact hP) | (rw [rpP_s (by omega) (by omega) (by omega) (by omega), rpS_2 k1, hsP_f (by omega), vsP_f (by omega)]; exact hP) | (rw [rpP_n (by omega) (by omega) (by omega) (by omega), hsP_f (by omega), vsP_f (by omega)]; exact hP)) hS (by first | (rw [rpP_s (by omega) (by omega) (by omega) (by omega), rpS_1 k1]; rfl) | (rw [rpP_s (by omega) (by omega) (by omega) (by omega), rpS_2 k1]; rfl) | (rw [rpP_n (by omega) (by omega) (by omega) (by omega)]; rfl)) dX9_part_375
          · skip
            replace c_319 := cn_nle (b := 0) (by omega) (by omega) c_319
            refine lv_aload_n hx hb dX9_part_322 rfl (lv_at hl 0 rfl) ?_
            refine lv_bipush (v := (nI 115)) hx hb dX9_part_323 (by decide) ?_
            refine gp_V (ci := 9) (q0 := 0) (cq := (RX9, TX9, 15)) (c_X9_letter l D cI cZ cF cL mr rf st L th pl hs vs dg0 xx X 115 hL hXt hpp (by decide)) (gUV u_262 u_263 u_264 u_5 u_265) rfl hdV_X9_letter ⟨Nat.le_of_ble_eq_true rfl, Nat.le_of_ble_eq_true rfl⟩ ⟨rfl, rfl⟩ hx hb hml hown hts hK hA hP hD hS hl.1 ⟨Nat.le_of_ble_eq_true rfl, Nat.le_of_ble_eq_true rfl⟩ rfl rfl rfl (wr := ([] : va_W)) (pm_cnt (fun _ => by simp only [List.countP_append, List.countP_nil, fT] <;> omega)) (fun _ => by simp only [List.map_append, List.map_nil, fX_m, bX_m, sX_m, pX_m, iaX_m, r5X_m, r6X_m, fT_m, hX_m, tX_m, xX_m, sgX_m, zaX_m, fsB_a, qX_m, mX_m]) (rest := []) rfl rfl (Nat.le_of_ble_eq_true rfl) dX9_part_325 (ws2 := (fun _ : Unit => (mX mr rf st L th (if (pl < L ∧ X pl = 115) then pl + 1 else pl) hs vs dg0 xx ++ iaX cI (rf 5) 120 X))) (fun _ => (pm_cnt (fun _ => by simp only [List.countP_append, List.countP_nil, fT] <;> omega))) (fun _ Hp locs hP hD hS => ?_)
            by_cases q_328 : X pl = 115
            · skip
              rw [show (if (pl < L ∧ X pl = 115) then (1 : Int32) else 0) = nI 1 from if_pos ⟨hpl, q_328⟩]
              rw [if_pos (⟨hpl, q_328⟩ : (pl < L ∧ X pl = 115))] at hP hD
              refine lv_if_eq (tgt := 349) hx hb dX9_part_328 (by decide) (fun c_328 => absurd c_328 (by decide +kernel)) (fun _ => ?_)
              refine lv_aload_n hx hb dX9_part_331 rfl (lv_at hl 0 rfl) ?_
              refine lv_iconst (v := (nI 0)) hx hb dX9_part_332 (by decide) ?_
              refine lv_aload_n hx hb dX9_part_333 rfl (lv_at hl 0 rfl) ?_
              refine gf_n (C := RX9) (T := TX9) (N := 15) (ci := 9) (q0 := 0) (v := .int (nI hs)) hx hb hts (iU inlX9) hown hK hP rfl rfl 11 (by decide) (kU u_260) rfl rfl dX9_part_334 ?_
              refine lv_iconst (v := (nI 1)) hx hb dX9_part_337 (by decide) ?_
              refine lv_isub hx hb dX9_part_338 ?_
              rw [pk_sub (a := hs) (b := 1) (by omega)]
              refine gp_V (ci := 9) (q0 := 0) (cq := (RX9, TX9, 15)) (c_X9_digitTo l D cI cZ cF cL mr rf st L th (pl + 1) hs vs dg0 xx X 0 (hs - 1) hL hXt (by omega) (by omega) (by omega)) (gUV u_271 u_272 u_273 u_5 u_274) rfl hdV_X9_digitTo ⟨Nat.le_of_ble_eq_true rfl, Nat.le_of_ble_eq_true rfl⟩ ⟨rfl, rfl⟩ hx hb hml hown hts hK hA hP hD hS hl.1 ⟨Nat.le_of_ble_eq_true rfl, Nat.le_of_ble_eq_true rfl⟩ rfl rfl rfl (wr := ([] : va_W)) (pm_cnt (fun _ => by simp only [List.countP_append, List.countP_nil, fT] <;> omega)) (fun _ => by simp only [List.map_append, List.map_nil, fX_m, bX_m, sX_m, pX_m, iaX_m, r5X_m, r6X_m, fT_m, hX_m, tX_m, xX_m, sgX_m, zaX_m, fsB_a, qX_m, mX_m]) (rest := []) rfl rfl (Nat.le_of_ble_eq_true rfl) dX9_part_339 (ws2 := (fun _ : Unit => (mX mr rf st L th (plD X L (pl + 1) 0 (hs - 1)) hs vs (dgI X L (pl + 1)) xx ++ iaX cI (rf 5) 120 X))) (fun _ => (pm_cnt (fun _ => by simp only [List.countP_append, List.countP_nil, fT] <;> omega))) (fun _ Hp locs hP hD hS => ?_)
              rcases k1 : dg X L (pl + 1) 0 (hs - 1) with _ | d1
              · skip
                rw [show (if (none : Option Nat).isSome = true then (1 : Int32) else 0) = nI 0 from rfl]
                rw [plD_n k1] at hP hD
                refine lv_if_eq (tgt := 349) hx hb dX9_part_342 (by decide) (fun _ => ?_) (fun c_342 => absurd (by decide +kernel) c_342)
                refine lv_iconst (v := (nI 0)) hx hb dX9_part_349 (by decide) ?_
                refine lv_istore_n (lv' := [(2, .int (nI 0)), (0, .ref mr), (1, .int (nI 0))]) hx hb dX9_part_350 rfl hl (by decide) rfl (fun ls hl => ?_)
                refine lv_iload_n hx hb dX9_part_351 rfl (lv_at hl 0 rfl) ?_
                refine lv_if_eq (tgt := 374) hx hb dX9_part_352 (by decide) (fun _ => ?_) (fun c_352 => absurd (by decide +kernel) c_352)
                refine lv_iload_n hx hb dX9_part_374 rfl (lv_at hl 0 rfl) ?_
                exact ct_z ((dgI X L (pl + 1))) hx hb hr hlocks (by first | (rw [rpP_s (by omega) (by omega) (by omega) (by omega), rpS_1 k1, hsP_f (by omega), vsP_f (by omega)]; exact hP) | (rw [rpP_s (by omega) (by omega) (by omega) (by omega), rpS_2 k1, hsP_f (by omega), vsP_f (by omega)]; exact hP) | (rw [rpP_n (by omega) (by omega) (by omega) (by omega), hsP_f (by omega), vsP_f (by omega)]; exact hP)) hS (by first | (rw [rpP_s (by omega) (by omega) (by omega) (by omega), rpS_1 k1]; rfl) | (rw [rpP_s (by omega) (by omega) (by omega) (by omega), rpS_2 k1]; rfl) | (rw [rpP_n (by omega) (by omega) (by omega) (by omega)]; rfl)) dX9_part_375
              · skip
                rw [show (if (some d1).isSome = true then (1 : Int32) else 0) = nI 1 from rfl]
                rw [plD_s k1, dgI_s k1] at hP hD
                obtain ⟨b1_k1, b2_k1, -, -⟩ := dg_le k1
                refine lv_if_eq (tgt := 349) hx hb dX9_part_342 (by decide) (fun c_342 => absurd c_342 (by decide +kernel)) (fun _ => ?_)
                refine lv_iconst (v := (nI 1)) hx hb dX9_part_345 (by decide) ?_
                refine lv_goto (tgt := 350) hx hb dX9_part_346 (by decide) ?_
                refine lv_istore_n (lv' := [(2, .int (nI 1)), (0, .ref mr), (1, .int (nI 0))]) hx hb dX9_part_350 rfl hl (by decide) rfl (fun ls hl => ?_)
                refine lv_iload_n hx hb dX9_part_351 rfl (lv_at hl 0 rfl) ?_
                refine lv_if_eq (tgt := 374) hx hb dX9_part_352 (by decide) (fun c_352 => absurd c_352 (by decide +kernel)) (fun _ => ?_)
                refine lv_iload_n hx hb dX9_part_355 rfl (lv_at hl 2 rfl) ?_
                refine lv_if_eq (tgt := 374) hx hb dX9_part_356 (by decide) (fun _ => ?_) (fun c_356 => absurd (by decide +kernel) c_356)
                refine lv_iload_n hx hb dX9_part_374 rfl (lv_at hl 0 rfl) ?_
                exact ct_z ((nI d1)) hx hb hr hlocks (by first | (rw [rpP_s (by omega) (by omega) (by omega) (by omega), rpS_1 k1, hsP_f (by omega), vsP_f (by omega)]; exact hP) | (rw [rpP_s (by omega) (by omega) (by omega) (by omega), rpS_2 k1, hsP_f (by omega), vsP_f (by omega)]; exact hP) | (rw [rpP_n (by omega) (by omega) (by omega) (by omega), hsP_f (by omega), vsP_f (by omega)]; exact hP)) hS (by first | (rw [rpP_s (by omega) (by omega) (by omega) (by omega), rpS_1 k1]; rfl) | (rw [rpP_s (by omega) (by omega) (by omega) (by omega), rpS_2 k1]; rfl) | (rw [rpP_n (by omega) (by omega) (by omega) (by omega)]; rfl)) dX9_part_375
            · skip
              rw [show (if (pl < L ∧ X pl = 115) then (1 : Int32) else 0) = nI 0 from if_neg (fun z => q_328 z.2)]
              rw [if_neg (show ¬ (pl < L ∧ X pl = 115) from fun z => q_328 z.2)] at hP hD
              refine lv_if_eq (tgt := 349) hx hb dX9_part_328 (by decide) (fun _ => ?_) (fun c_328 => absurd (by decide +kernel) c_328)
              refine lv_iconst (v := (nI 0)) hx hb dX9_part_349 (by decide) ?_
              refine lv_istore_n (lv' := [(2, .int (nI 0)), (0, .ref mr), (1, .int (nI 0))]) hx hb dX9_part_350 rfl hl (by decide) rfl (fun ls hl => ?_)
              refine lv_iload_n hx hb dX9_part_351 rfl (lv_at hl 0 rfl) ?_
              refine lv_if_eq (tgt := 374) hx hb dX9_part_352 (by decide) (fun _ => ?_) (fun c_352 => absurd (by decide +kernel) c_352)
              refine lv_iload_n hx hb dX9_part_374 rfl (lv_at hl 0 rfl) ?_
              exact ct_z (dg0) hx hb hr hlocks (by first | (rw [rpP_s (by omega) (by omega) (by omega) (by omega), rpS_1 k1, hsP_f (by omega), vsP_f (by omega)]; exact hP) | (rw [rpP_s (by omega) (by omega) (by omega) (by omega), rpS_2 k1, hsP_f (by omega), vsP_f (by omega)]; exact hP) | (rw [rpP_n (by omega) (by omega) (by omega) (by omega), hsP_f (by omega), vsP_f (by omega)]; exact hP)) hS (by first | (rw [rpP_s (by omega) (by omega) (by omega) (by omega), rpS_1 k1]; rfl) | (rw [rpP_s (by omega) (by omega) (by omega) (by omega), rpS_2 k1]; rfl) | (rw [rpP_n (by omega) (by omega) (by omega) (by omega)]; rfl)) dX9_part_375
        · skip
          replace c_204 := cn_nle (b := 0) (by omega) (by omega) c_204
          refine lv_aload_n hx hb dX9_part_207 rfl (lv_at hl 0 rfl) ?_
          refine gf_n (C := RX9) (T := TX9) (N := 15) (ci := 9) (q0 := 0) (v := .int (nI vs)) hx hb hts (iU inlX9) hown hK hP rfl rfl 12 (by decide) (kU u_261) rfl rfl dX9_part_208 ?_
          refine lv_if_le (tgt := 315) hx hb dX9_part_211 (by decide) (fun c_211 => ?_) (fun c_211 => ?_)
          · skip
            replace c_211 := cn_le (b := 0) (by omega) (by omega) c_211
            refine lv_aload_n hx hb dX9_part_315 rfl (lv_at hl 0 rfl) ?_
            refine gf_n (C := RX9) (T := TX9) (N := 15) (ci := 9) (q0 := 0) (v := .int (nI hs)) hx hb hts (iU inlX9) hown hK hP rfl rfl 11 (by decide) (kU u_260) rfl rfl dX9_part_316 ?_
            refine lv_if_le (tgt := 349) hx hb dX9_part_319 (by decide) (fun c_319 => ?_) (fun c_319 => ?_)
            · skip
              replace c_319 := cn_le (b := 0) (by omega) (by omega) c_319
              refine lv_iconst (v := (nI 0)) hx hb dX9_part_349 (by decide) ?_
              refine lv_istore_n (lv' := [(2, .int (nI 0)), (0, .ref mr), (1, .int (nI 0))]) hx hb dX9_part_350 rfl hl (by decide) rfl (fun ls hl => ?_)
              refine lv_iload_n hx hb dX9_part_351 rfl (lv_at hl 0 rfl) ?_
              refine lv_if_eq (tgt := 374) hx hb dX9_part_352 (by decide) (fun _ => ?_) (fun c_352 => absurd (by decide +kernel) c_352)
              refine lv_iload_n hx hb dX9_part_374 rfl (lv_at hl 0 rfl) ?_
              exact ct_z (dg0) hx hb hr hlocks (by first | (rw [rpP_s (by omega) (by omega) (by omega) (by omega), rpS_1 k1, hsP_f (by omega), vsP_f (by omega)]; exact hP) | (rw [rpP_s (by omega) (by omega) (by omega) (by omega), rpS_2 k1, hsP_f (by omega), vsP_f (by omega)]; exact hP) | (rw [rpP_n (by omega) (by omega) (by omega) (by omega), hsP_f (by omega), vsP_f (by omega)]; exact hP)) hS (by first | (rw [rpP_s (by omega) (by omega) (by omega) (by omega), rpS_1 k1]; rfl) | (rw [rpP_s (by omega) (by omega) (by omega) (by omega), rpS_2 k1]; rfl) | (rw [rpP_n (by omega) (by omega) (by omega) (by omega)]; rfl)) dX9_part_375
            · skip
              replace c_319 := cn_nle (b := 0) (by omega) (by omega) c_319
              refine lv_aload_n hx hb dX9_part_322 rfl (lv_at hl 0 rfl) ?_
              refine lv_bipush (v := (nI 115)) hx hb dX9_part_323 (by decide) ?_
              refine gp_V (ci := 9) (q0 := 0) (cq := (RX9, TX9, 15)) (c_X9_letter l D cI cZ cF cL mr rf st L th pl hs vs dg0 xx X 115 hL hXt hpp (by decide)) (gUV u_262 u_263 u_264 u_5 u_265) rfl hdV_X9_letter ⟨Nat.le_of_ble_eq_true rfl, Nat.le_of_ble_eq_true rfl⟩ ⟨rfl, rfl⟩ hx hb hml hown hts hK hA hP hD hS hl.1 ⟨Nat.le_of_ble_eq_true rfl, Nat.le_of_ble_eq_true rfl⟩ rfl rfl rfl (wr := ([] : va_W)) (pm_cnt (fun _ => by simp only [List.countP_append, List.countP_nil, fT] <;> omega)) (fun _ => by simp only [List.map_append, List.map_nil, fX_m, bX_m, sX_m, pX_m, iaX_m, r5X_m, r6X_m, fT_m, hX_m, tX_m, xX_m, sgX_m, zaX_m, fsB_a, qX_m, mX_m]) (rest := []) rfl rfl (Nat.le_of_ble_eq_true rfl) dX9_part_325 (ws2 := (fun _ : Unit => (mX mr rf st L th (if (pl < L ∧ X pl = 115) then pl + 1 else pl) hs vs dg0 xx ++ iaX cI (rf 5) 120 X))) (fun _ => (pm_cnt (fun _ => by simp only [List.countP_append, List.countP_nil, fT] <;> omega))) (fun _ Hp locs hP hD hS => ?_)
              by_cases q_328 : X pl = 115
              · skip
                rw [show (if (pl < L ∧ X pl = 115) then (1 : Int32) else 0) = nI 1 from if_pos ⟨hpl, q_328⟩]
                rw [if_pos (⟨hpl, q_328⟩ : (pl < L ∧ X pl = 115))] at hP hD
                refine lv_if_eq (tgt := 349) hx hb dX9_part_328 (by decide) (fun c_328 => absurd c_328 (by decide +kernel)) (fun _ => ?_)
                refine lv_aload_n hx hb dX9_part_331 rfl (lv_at hl 0 rfl) ?_
                refine lv_iconst (v := (nI 0)) hx hb dX9_part_332 (by decide) ?_
                refine lv_aload_n hx hb dX9_part_333 rfl (lv_at hl 0 rfl) ?_
                refine gf_n (C := RX9) (T := TX9) (N := 15) (ci := 9) (q0 := 0) (v := .int (nI hs)) hx hb hts (iU inlX9) hown hK hP rfl rfl 11 (by decide) (kU u_260) rfl rfl dX9_part_334 ?_
                refine lv_iconst (v := (nI 1)) hx hb dX9_part_337 (by decide) ?_
                refine lv_isub hx hb dX9_part_338 ?_
                rw [pk_sub (a := hs) (b := 1) (by omega)]
                refine gp_V (ci := 9) (q0 := 0) (cq := (RX9, TX9, 15)) (c_X9_digitTo l D cI cZ cF cL mr rf st L th (pl + 1) hs vs dg0 xx X 0 (hs - 1) hL hXt (by omega) (by omega) (by omega)) (gUV u_271 u_272 u_273 u_5 u_274) rfl hdV_X9_digitTo ⟨Nat.le_of_ble_eq_true rfl, Nat.le_of_ble_eq_true rfl⟩ ⟨rfl, rfl⟩ hx hb hml hown hts hK hA hP hD hS hl.1 ⟨Nat.le_of_ble_eq_true rfl, Nat.le_of_ble_eq_true rfl⟩ rfl rfl rfl (wr := ([] : va_W)) (pm_cnt (fun _ => by simp only [List.countP_append, List.countP_nil, fT] <;> omega)) (fun _ => by simp only [List.map_append, List.map_nil, fX_m, bX_m, sX_m, pX_m, iaX_m, r5X_m, r6X_m, fT_m, hX_m, tX_m, xX_m, sgX_m, zaX_m, fsB_a, qX_m, mX_m]) (rest := []) rfl rfl (Nat.le_of_ble_eq_true rfl) dX9_part_339 (ws2 := (fun _ : Unit => (mX mr rf st L th (plD X L (pl + 1) 0 (hs - 1)) hs vs (dgI X L (pl + 1)) xx ++ iaX cI (rf 5) 120 X))) (fun _ => (pm_cnt (fun _ => by simp only [List.countP_append, List.countP_nil, fT] <;> omega))) (fun _ Hp locs hP hD hS => ?_)
                rcases k1 : dg X L (pl + 1) 0 (hs - 1) with _ | d1
                · skip
                  rw [show (if (none : Option Nat).isSome = true then (1 : Int32) else 0) = nI 0 from rfl]
                  rw [plD_n k1] at hP hD
                  refine lv_if_eq (tgt := 349) hx hb dX9_part_342 (by decide) (fun _ => ?_) (fun c_342 => absurd (by decide +kernel) c_342)
                  refine lv_iconst (v := (nI 0)) hx hb dX9_part_349 (by decide) ?_
                  refine lv_istore_n (lv' := [(2, .int (nI 0)), (0, .ref mr), (1, .int (nI 0))]) hx hb dX9_part_350 rfl hl (by decide) rfl (fun ls hl => ?_)
                  refine lv_iload_n hx hb dX9_part_351 rfl (lv_at hl 0 rfl) ?_
                  refine lv_if_eq (tgt := 374) hx hb dX9_part_352 (by decide) (fun _ => ?_) (fun c_352 => absurd (by decide +kernel) c_352)
                  refine lv_iload_n hx hb dX9_part_374 rfl (lv_at hl 0 rfl) ?_
                  exact ct_z ((dgI X L (pl + 1))) hx hb hr hlocks (by first | (rw [rpP_s (by omega) (by omega) (by omega) (by omega), rpS_1 k1, hsP_f (by omega), vsP_f (by omega)]; exact hP) | (rw [rpP_s (by omega) (by omega) (by omega) (by omega), rpS_2 k1, hsP_f (by omega), vsP_f (by omega)]; exact hP) | (rw [rpP_n (by omega) (by omega) (by omega) (by omega), hsP_f (by omega), vsP_f (by omega)]; exact hP)) hS (by first | (rw [rpP_s (by omega) (by omega) (by omega) (by omega), rpS_1 k1]; rfl) | (rw [rpP_s (by omega) (by omega) (by omega) (by omega), rpS_2 k1]; rfl) | (rw [rpP_n (by omega) (by omega) (by omega) (by omega)]; rfl)) dX9_part_375
                · skip
                  rw [show (if (some d1).isSome = true then (1 : Int32) else 0) = nI 1 from rfl]
                  rw [plD_s k1, dgI_s k1] at hP hD
                  obtain ⟨b1_k1, b2_k1, -, -⟩ := dg_le k1
                  refine lv_if_eq (tgt := 349) hx hb dX9_part_342 (by decide) (fun c_342 => absurd c_342 (by decide +kernel)) (fun _ => ?_)
                  refine lv_iconst (v := (nI 1)) hx hb dX9_part_345 (by decide) ?_
                  refine lv_goto (tgt := 350) hx hb dX9_part_346 (by decide) ?_
                  refine lv_istore_n (lv' := [(2, .int (nI 1)), (0, .ref mr), (1, .int (nI 0))]) hx hb dX9_part_350 rfl hl (by decide) rfl (fun ls hl => ?_)
                  refine lv_iload_n hx hb dX9_part_351 rfl (lv_at hl 0 rfl) ?_
                  refine lv_if_eq (tgt := 374) hx hb dX9_part_352 (by decide) (fun c_352 => absurd c_352 (by decide +kernel)) (fun _ => ?_)
                  refine lv_iload_n hx hb dX9_part_355 rfl (lv_at hl 2 rfl) ?_
                  refine lv_if_eq (tgt := 374) hx hb dX9_part_356 (by decide) (fun _ => ?_) (fun c_356 => absurd (by decide +kernel) c_356)
                  refine lv_iload_n hx hb dX9_part_374 rfl (lv_at hl 0 rfl) ?_
                  exact ct_z ((nI d1)) hx hb hr hlocks (by first | (rw [rpP_s (by omega) (by omega) (by omega) (by omega), rpS_1 k1, hsP_f (by omega), vsP_f (by omega)]; exact hP) | (rw [rpP_s (by omega) (by omega) (by omega) (by omega), rpS_2 k1, hsP_f (by omega), vsP_f (by omega)]; exact hP) | (rw [rpP_n (by omega) (by omega) (by omega) (by omega), hsP_f (by omega), vsP_f (by omega)]; exact hP)) hS (by first | (rw [rpP_s (by omega) (by omega) (by omega) (by omega), rpS_1 k1]; rfl) | (rw [rpP_s (by omega) (by omega) (by omega) (by omega), rpS_2 k1]; rfl) | (rw [rpP_n (by omega) (by omega) (by omega) (by omega)]; rfl)) dX9_part_375
              · skip
                rw [show (if (pl < L ∧ X pl = 115) then (1 : Int32) else 0) = nI 0 from if_neg (fun z => q_328 z.2)]
                rw [if_neg (show ¬ (pl < L ∧ X pl = 115) from fun z => q_328 z.2)] at hP hD
                refine lv_if_eq (tgt := 349) hx hb dX9_part_328 (by decide) (fun _ => ?_) (fun c_328 => absurd (by decide +kernel) c_328)
                refine lv_iconst (v := (nI 0)) hx hb dX9_part_349 (by decide) ?_
                refine lv_istore_n (lv' := [(2, .int (nI 0)), (0, .ref mr), (1, .int (nI 0))]) hx hb dX9_part_350 rfl hl (by decide) rfl (fun ls hl => ?_)
                refine lv_iload_n hx hb dX9_part_351 rfl (lv_at hl 0 rfl) ?_
                refine lv_if_eq (tgt := 374) hx hb dX9_part_352 (by decide) (fun _ => ?_) (fun c_352 => absurd (by decide +kernel) c_352)
                refine lv_iload_n hx hb dX9_part_374 rfl (lv_at hl 0 rfl) ?_
                exact ct_z (dg0) hx hb hr hlocks (by first | (rw [rpP_s (by omega) (by omega) (by omega) (by omega), rpS_1 k1, hsP_f (by omega), vsP_f (by omega)]; exact hP) | (rw [rpP_s (by omega) (by omega) (by omega) (by omega), rpS_2 k1, hsP_f (by omega), vsP_f (by omega)]; exact hP) | (rw [rpP_n (by omega) (by omega) (by omega) (by omega), hsP_f (by omega), vsP_f (by omega)]; exact hP)) hS (by first | (rw [rpP_s (by omega) (by omega) (by omega) (by omega), rpS_1 k1]; rfl) | (rw [rpP_s (by omega) (by omega) (by omega) (by omega), rpS_2 k1]; rfl) | (rw [rpP_n (by omega) (by omega) (by omega) (by omega)]; rfl)) dX9_part_375
          · skip
            replace c_211 := cn_nle (b := 0) (by omega) (by omega) c_211
            refine lv_aload_n hx hb dX9_part_214 rfl (lv_at hl 0 rfl) ?_
            refine lv_bipush (v := (nI 108)) hx hb dX9_part_215 (by decide) ?_
            refine gp_V (ci := 9) (q0 := 0) (cq := (RX9, TX9, 15)) (c_X9_letter l D cI cZ cF cL mr rf st L th pl hs vs dg0 xx X 108 hL hXt hpp (by decide)) (gUV u_262 u_263 u_264 u_5 u_265) rfl hdV_X9_letter ⟨Nat.le_of_ble_eq_true rfl, Nat.le_of_ble_eq_true rfl⟩ ⟨rfl, rfl⟩ hx hb hml hown hts hK hA hP hD hS hl.1 ⟨Nat.le_of_ble_eq_true rfl, Nat.le_of_ble_eq_true rfl⟩ rfl rfl rfl (wr := ([] : va_W)) (pm_cnt (fun _ => by simp only [List.countP_append, List.countP_nil, fT] <;> omega)) (fun _ => by simp only [List.map_append, List.map_nil, fX_m, bX_m, sX_m, pX_m, iaX_m, r5X_m, r6X_m, fT_m, hX_m, tX_m, xX_m, sgX_m, zaX_m, fsB_a, qX_m, mX_m]) (rest := []) rfl rfl (Nat.le_of_ble_eq_true rfl) dX9_part_217 (ws2 := (fun _ : Unit => (mX mr rf st L th (if (pl < L ∧ X pl = 108) then pl + 1 else pl) hs vs dg0 xx ++ iaX cI (rf 5) 120 X))) (fun _ => (pm_cnt (fun _ => by simp only [List.countP_append, List.countP_nil, fT] <;> omega))) (fun _ Hp locs hP hD hS => ?_)
            by_cases q_220 : X pl = 108
            · skip
              rw [show (if (pl < L ∧ X pl = 108) then (1 : Int32) else 0) = nI 1 from if_pos ⟨hpl, q_220⟩]
              rw [if_pos (⟨hpl, q_220⟩ : (pl < L ∧ X pl = 108))] at hP hD
              refine lv_if_eq (tgt := 315) hx hb dX9_part_220 (by decide) (fun c_220 => absurd c_220 (by decide +kernel)) (fun _ => ?_)
              refine lv_aload_n hx hb dX9_part_223 rfl (lv_at hl 0 rfl) ?_
              refine lv_iconst (v := (nI 0)) hx hb dX9_part_224 (by decide) ?_
              refine lv_aload_n hx hb dX9_part_225 rfl (lv_at hl 0 rfl) ?_
              refine gf_n (C := RX9) (T := TX9) (N := 15) (ci := 9) (q0 := 0) (v := .int (nI hs)) hx hb hts (iU inlX9) hown hK hP rfl rfl 11 (by decide) (kU u_260) rfl rfl dX9_part_226 ?_
              refine lv_iconst (v := (nI 1)) hx hb dX9_part_229 (by decide) ?_
              refine lv_isub hx hb dX9_part_230 ?_
              rw [pk_sub (a := hs) (b := 1) (by omega)]
              refine gp_V (ci := 9) (q0 := 0) (cq := (RX9, TX9, 15)) (c_X9_digitTo l D cI cZ cF cL mr rf st L th (pl + 1) hs vs dg0 xx X 0 (hs - 1) hL hXt (by omega) (by omega) (by omega)) (gUV u_271 u_272 u_273 u_5 u_274) rfl hdV_X9_digitTo ⟨Nat.le_of_ble_eq_true rfl, Nat.le_of_ble_eq_true rfl⟩ ⟨rfl, rfl⟩ hx hb hml hown hts hK hA hP hD hS hl.1 ⟨Nat.le_of_ble_eq_true rfl, Nat.le_of_ble_eq_true rfl⟩ rfl rfl rfl (wr := ([] : va_W)) (pm_cnt (fun _ => by simp only [List.countP_append, List.countP_nil, fT] <;> omega)) (fun _ => by simp only [List.map_append, List.map_nil, fX_m, bX_m, sX_m, pX_m, iaX_m, r5X_m, r6X_m, fT_m, hX_m, tX_m, xX_m, sgX_m, zaX_m, fsB_a, qX_m, mX_m]) (rest := []) rfl rfl (Nat.le_of_ble_eq_true rfl) dX9_part_231 (ws2 := (fun _ : Unit => (mX mr rf st L th (plD X L (pl + 1) 0 (hs - 1)) hs vs (dgI X L (pl + 1)) xx ++ iaX cI (rf 5) 120 X))) (fun _ => (pm_cnt (fun _ => by simp only [List.countP_append, List.countP_nil, fT] <;> omega))) (fun _ Hp locs hP hD hS => ?_)
              rcases k1 : dg X L (pl + 1) 0 (hs - 1) with _ | d1
              · skip
                rw [show (if (none : Option Nat).isSome = true then (1 : Int32) else 0) = nI 0 from rfl]
                rw [plD_n k1] at hP hD
                refine lv_istore_n (lv' := [(2, .int (nI 0)), (0, .ref mr), (1, .int (nI 0))]) hx hb dX9_part_234 rfl hl (by decide) rfl (fun ls hl => ?_)
                refine lv_aload_n hx hb dX9_part_235 rfl (lv_at hl 1 rfl) ?_
                refine gf_n (C := RX9) (T := TX9) (N := 15) (ci := 9) (q0 := 0) (v := .int (dgI X L (pl + 1))) hx hb hts (iU inlX9) hown hK hP rfl rfl 13 (by decide) (kU u_270) rfl rfl dX9_part_236 ?_
                refine lv_istore_n (lv' := [(3, .int (dgI X L (pl + 1))), (2, .int (nI 0)), (0, .ref mr), (1, .int (nI 0))]) hx hb dX9_part_239 rfl hl (by decide) rfl (fun ls hl => ?_)
                refine lv_iload_n hx hb dX9_part_240 rfl (lv_at hl 1 rfl) ?_
                refine lv_if_eq (tgt := 262) hx hb dX9_part_241 (by decide) (fun _ => ?_) (fun c_241 => absurd (by decide +kernel) c_241)
                refine lv_iconst (v := (nI 0)) hx hb dX9_part_262 (by decide) ?_
                refine lv_istore_n (lv' := [(2, .int (nI 0)), (3, .int (dgI X L (pl + 1))), (0, .ref mr), (1, .int (nI 0))]) hx hb dX9_part_263 rfl hl (by decide) rfl (fun ls hl => ?_)
                refine lv_aload_n hx hb dX9_part_264 rfl (lv_at hl 2 rfl) ?_
                refine gf_n (C := RX9) (T := TX9) (N := 15) (ci := 9) (q0 := 0) (v := .int (dgI X L (pl + 1))) hx hb hts (iU inlX9) hown hK hP rfl rfl 13 (by decide) (kU u_270) rfl rfl dX9_part_265 ?_
                refine lv_istore (lv' := [(4, .int (dgI X L (pl + 1))), (2, .int (nI 0)), (3, .int (dgI X L (pl + 1))), (0, .ref mr), (1, .int (nI 0))]) hx hb dX9_part_268 hl (by decide) rfl (fun ls hl => ?_)
                refine lv_iload_n hx hb dX9_part_270 rfl (lv_at hl 1 rfl) ?_
                refine lv_if_eq (tgt := 288) hx hb dX9_part_271 (by decide) (fun _ => ?_) (fun c_271 => absurd (by decide +kernel) c_271)
                refine lv_iconst (v := (nI 0)) hx hb dX9_part_288 (by decide) ?_
                refine lv_istore_n (lv' := [(2, .int (nI 0)), (4, .int (dgI X L (pl + 1))), (3, .int (dgI X L (pl + 1))), (0, .ref mr), (1, .int (nI 0))]) hx hb dX9_part_289 rfl hl (by decide) rfl (fun ls hl => ?_)
                refine lv_iload_n hx hb dX9_part_290 rfl (lv_at hl 0 rfl) ?_
                refine lv_if_eq (tgt := 313) hx hb dX9_part_291 (by decide) (fun _ => ?_) (fun c_291 => absurd (by decide +kernel) c_291)
                refine lv_iload_n hx hb dX9_part_313 rfl (lv_at hl 0 rfl) ?_
                exact ct_z ((dgI X L (pl + 1))) hx hb hr hlocks (by first | (rw [rpP_l (by omega) (by omega) (by omega), rpL_1 k1, hsP_f (by omega), vsP_f (by omega)]; exact hP) | (rw [rpP_l (by omega) (by omega) (by omega), rpL_2 k1 k2, hsP_f (by omega), vsP_f (by omega)]; exact hP) | (rw [rpP_l (by omega) (by omega) (by omega), rpL_3 k1 k2 k3, hsP_f (by omega), vsP_f (by omega)]; exact hP) | (rw [rpP_l (by omega) (by omega) (by omega), rpL_4 k1 k2 k3, hsP_f (by omega), vsP_f (by omega)]; exact hP)) hS (by first | (rw [rpP_l (by omega) (by omega) (by omega), rpL_1 k1]; rfl) | (rw [rpP_l (by omega) (by omega) (by omega), rpL_2 k1 k2]; rfl) | (rw [rpP_l (by omega) (by omega) (by omega), rpL_3 k1 k2 k3]; rfl) | (rw [rpP_l (by omega) (by omega) (by omega), rpL_4 k1 k2 k3]; rfl)) dX9_part_314
              · skip
                rw [show (if (some d1).isSome = true then (1 : Int32) else 0) = nI 1 from rfl]
                rw [plD_s k1, dgI_s k1] at hP hD
                obtain ⟨b1_k1, b2_k1, -, -⟩ := dg_le k1
                refine lv_istore_n (lv' := [(2, .int (nI 1)), (0, .ref mr), (1, .int (nI 0))]) hx hb dX9_part_234 rfl hl (by decide) rfl (fun ls hl => ?_)
                refine lv_aload_n hx hb dX9_part_235 rfl (lv_at hl 1 rfl) ?_
                refine gf_n (C := RX9) (T := TX9) (N := 15) (ci := 9) (q0 := 0) (v := .int (nI d1)) hx hb hts (iU inlX9) hown hK hP rfl rfl 13 (by decide) (kU u_270) rfl rfl dX9_part_236 ?_
                refine lv_istore_n (lv' := [(3, .int (nI d1)), (2, .int (nI 1)), (0, .ref mr), (1, .int (nI 0))]) hx hb dX9_part_239 rfl hl (by decide) rfl (fun ls hl => ?_)
                refine lv_iload_n hx hb dX9_part_240 rfl (lv_at hl 1 rfl) ?_
                refine lv_if_eq (tgt := 262) hx hb dX9_part_241 (by decide) (fun c_241 => absurd c_241 (by decide +kernel)) (fun _ => ?_)
                refine lv_aload_n hx hb dX9_part_244 rfl (lv_at hl 2 rfl) ?_
                refine lv_iconst (v := (nI 0)) hx hb dX9_part_245 (by decide) ?_
                refine lv_aload_n hx hb dX9_part_246 rfl (lv_at hl 2 rfl) ?_
                refine gf_n (C := RX9) (T := TX9) (N := 15) (ci := 9) (q0 := 0) (v := .int (nI vs)) hx hb hts (iU inlX9) hown hK hP rfl rfl 12 (by decide) (kU u_261) rfl rfl dX9_part_247 ?_
                refine lv_iconst (v := (nI 1)) hx hb dX9_part_250 (by decide) ?_
                refine lv_isub hx hb dX9_part_251 ?_
                rw [pk_sub (a := vs) (b := 1) (by omega)]
                refine gp_V (ci := 9) (q0 := 0) (cq := (RX9, TX9, 15)) (c_X9_digitTo l D cI cZ cF cL mr rf st L th (pl + 1 + 1) hs vs ((nI d1)) xx X 0 (vs - 1) hL hXt (by omega) (by omega) (by omega)) (gUV u_271 u_272 u_273 u_5 u_274) rfl hdV_X9_digitTo ⟨Nat.le_of_ble_eq_true rfl, Nat.le_of_ble_eq_true rfl⟩ ⟨rfl, rfl⟩ hx hb hml hown hts hK hA hP hD hS hl.1 ⟨Nat.le_of_ble_eq_true rfl, Nat.le_of_ble_eq_true rfl⟩ rfl rfl rfl (wr := ([] : va_W)) (pm_cnt (fun _ => by simp only [List.countP_append, List.countP_nil, fT] <;> omega)) (fun _ => by simp only [List.map_append, List.map_nil, fX_m, bX_m, sX_m, pX_m, iaX_m, r5X_m, r6X_m, fT_m, hX_m, tX_m, xX_m, sgX_m, zaX_m, fsB_a, qX_m, mX_m]) (rest := []) rfl rfl (Nat.le_of_ble_eq_true rfl) dX9_part_252 (ws2 := (fun _ : Unit => (mX mr rf st L th (plD X L (pl + 1 + 1) 0 (vs - 1)) hs vs (dgI X L (pl + 1 + 1)) xx ++ iaX cI (rf 5) 120 X))) (fun _ => (pm_cnt (fun _ => by simp only [List.countP_append, List.countP_nil, fT] <;> omega))) (fun _ Hp locs hP hD hS => ?_)
                rcases k2 : dg X L ((pl + 1) + 1) 0 (vs - 1) with _ | d2
                · skip
                  rw [show (if (none : Option Nat).isSome = true then (1 : Int32) else 0) = nI 0 from rfl]
                  rw [plD_n k2] at hP hD
                  refine lv_if_eq (tgt := 262) hx hb dX9_part_255 (by decide) (fun _ => ?_) (fun c_255 => absurd (by decide +kernel) c_255)
                  refine lv_iconst (v := (nI 0)) hx hb dX9_part_262 (by decide) ?_
                  refine lv_istore_n (lv' := [(2, .int (nI 0)), (3, .int (nI d1)), (0, .ref mr), (1, .int (nI 0))]) hx hb dX9_part_263 rfl hl (by decide) rfl (fun ls hl => ?_)
                  refine lv_aload_n hx hb dX9_part_264 rfl (lv_at hl 2 rfl) ?_
                  refine gf_n (C := RX9) (T := TX9) (N := 15) (ci := 9) (q0 := 0) (v := .int (dgI X L (pl + 1 + 1))) hx hb hts (iU inlX9) hown hK hP rfl rfl 13 (by decide) (kU u_270) rfl rfl dX9_part_265 ?_
                  refine lv_istore (lv' := [(4, .int (dgI X L (pl + 1 + 1))), (2, .int (nI 0)), (3, .int (nI d1)), (0, .ref mr), (1, .int (nI 0))]) hx hb dX9_part_268 hl (by decide) rfl (fun ls hl => ?_)
                  refine lv_iload_n hx hb dX9_part_270 rfl (lv_at hl 1 rfl) ?_
                  refine lv_if_eq (tgt := 288) hx hb dX9_part_271 (by decide) (fun _ => ?_) (fun c_271 => absurd (by decide +kernel) c_271)
                  refine lv_iconst (v := (nI 0)) hx hb dX9_part_288 (by decide) ?_
                  refine lv_istore_n (lv' := [(2, .int (nI 0)), (4, .int (dgI X L (pl + 1 + 1))), (3, .int (nI d1)), (0, .ref mr), (1, .int (nI 0))]) hx hb dX9_part_289 rfl hl (by decide) rfl (fun ls hl => ?_)
                  refine lv_iload_n hx hb dX9_part_290 rfl (lv_at hl 0 rfl) ?_
                  refine lv_if_eq (tgt := 313) hx hb dX9_part_291 (by decide) (fun _ => ?_) (fun c_291 => absurd (by decide +kernel) c_291)
                  refine lv_iload_n hx hb dX9_part_313 rfl (lv_at hl 0 rfl) ?_
                  exact ct_z ((dgI X L (pl + 1 + 1))) hx hb hr hlocks (by first | (rw [rpP_l (by omega) (by omega) (by omega), rpL_1 k1, hsP_f (by omega), vsP_f (by omega)]; exact hP) | (rw [rpP_l (by omega) (by omega) (by omega), rpL_2 k1 k2, hsP_f (by omega), vsP_f (by omega)]; exact hP) | (rw [rpP_l (by omega) (by omega) (by omega), rpL_3 k1 k2 k3, hsP_f (by omega), vsP_f (by omega)]; exact hP) | (rw [rpP_l (by omega) (by omega) (by omega), rpL_4 k1 k2 k3, hsP_f (by omega), vsP_f (by omega)]; exact hP)) hS (by first | (rw [rpP_l (by omega) (by omega) (by omega), rpL_1 k1]; rfl) | (rw [rpP_l (by omega) (by omega) (by omega), rpL_2 k1 k2]; rfl) | (rw [rpP_l (by omega) (by omega) (by omega), rpL_3 k1 k2 k3]; rfl) | (rw [rpP_l (by omega) (by omega) (by omega), rpL_4 k1 k2 k3]; rfl)) dX9_part_314
                · skip
                  rw [show (if (some d2).isSome = true then (1 : Int32) else 0) = nI 1 from rfl]
                  rw [plD_s k2, dgI_s k2] at hP hD
                  obtain ⟨b1_k2, b2_k2, -, -⟩ := dg_le k2
                  refine lv_if_eq (tgt := 262) hx hb dX9_part_255 (by decide) (fun c_255 => absurd c_255 (by decide +kernel)) (fun _ => ?_)
                  refine lv_iconst (v := (nI 1)) hx hb dX9_part_258 (by decide) ?_
                  refine lv_goto (tgt := 263) hx hb dX9_part_259 (by decide) ?_
                  refine lv_istore_n (lv' := [(2, .int (nI 1)), (3, .int (nI d1)), (0, .ref mr), (1, .int (nI 0))]) hx hb dX9_part_263 rfl hl (by decide) rfl (fun ls hl => ?_)
                  refine lv_aload_n hx hb dX9_part_264 rfl (lv_at hl 2 rfl) ?_
                  refine gf_n (C := RX9) (T := TX9) (N := 15) (ci := 9) (q0 := 0) (v := .int (nI d2)) hx hb hts (iU inlX9) hown hK hP rfl rfl 13 (by decide) (kU u_270) rfl rfl dX9_part_265 ?_
                  refine lv_istore (lv' := [(4, .int (nI d2)), (2, .int (nI 1)), (3, .int (nI d1)), (0, .ref mr), (1, .int (nI 0))]) hx hb dX9_part_268 hl (by decide) rfl (fun ls hl => ?_)
                  refine lv_iload_n hx hb dX9_part_270 rfl (lv_at hl 1 rfl) ?_
                  refine lv_if_eq (tgt := 288) hx hb dX9_part_271 (by decide) (fun c_271 => absurd c_271 (by decide +kernel)) (fun _ => ?_)
                  refine lv_aload_n hx hb dX9_part_274 rfl (lv_at hl 3 rfl) ?_
                  refine lv_iconst (v := (nI 0)) hx hb dX9_part_275 (by decide) ?_
                  refine lv_bipush (v := (nI 9)) hx hb dX9_part_276 (by decide) ?_
                  refine gp_V (ci := 9) (q0 := 0) (cq := (RX9, TX9, 15)) (c_X9_digitTo l D cI cZ cF cL mr rf st L th ((pl + 1) + 1 + 1) hs vs ((nI d2)) xx X 0 9 hL hXt (by omega) (by omega) (by omega)) (gUV u_271 u_272 u_273 u_5 u_274) rfl hdV_X9_digitTo ⟨Nat.le_of_ble_eq_true rfl, Nat.le_of_ble_eq_true rfl⟩ ⟨rfl, rfl⟩ hx hb hml hown hts hK hA hP hD hS hl.1 ⟨Nat.le_of_ble_eq_true rfl, Nat.le_of_ble_eq_true rfl⟩ rfl rfl rfl (wr := ([] : va_W)) (pm_cnt (fun _ => by simp only [List.countP_append, List.countP_nil, fT] <;> omega)) (fun _ => by simp only [List.map_append, List.map_nil, fX_m, bX_m, sX_m, pX_m, iaX_m, r5X_m, r6X_m, fT_m, hX_m, tX_m, xX_m, sgX_m, zaX_m, fsB_a, qX_m, mX_m]) (rest := []) rfl rfl (Nat.le_of_ble_eq_true rfl) dX9_part_278 (ws2 := (fun _ : Unit => (mX mr rf st L th (plD X L ((pl + 1) + 1 + 1) 0 9) hs vs (dgI X L ((pl + 1) + 1 + 1)) xx ++ iaX cI (rf 5) 120 X))) (fun _ => (pm_cnt (fun _ => by simp only [List.countP_append, List.countP_nil, fT] <;> omega))) (fun _ Hp locs hP hD hS => ?_)
                  rcases k3 : dg X L (((pl + 1) + 1) + 1) 0 9 with _ | d3
                  · skip
                    rw [show (if (none : Option Nat).isSome = true then (1 : Int32) else 0) = nI 0 from rfl]
                    rw [plD_n k3] at hP hD
                    refine lv_if_eq (tgt := 288) hx hb dX9_part_281 (by decide) (fun _ => ?_) (fun c_281 => absurd (by decide +kernel) c_281)
                    refine lv_iconst (v := (nI 0)) hx hb dX9_part_288 (by decide) ?_
                    refine lv_istore_n (lv' := [(2, .int (nI 0)), (4, .int (nI d2)), (3, .int (nI d1)), (0, .ref mr), (1, .int (nI 0))]) hx hb dX9_part_289 rfl hl (by decide) rfl (fun ls hl => ?_)
                    refine lv_iload_n hx hb dX9_part_290 rfl (lv_at hl 0 rfl) ?_
                    refine lv_if_eq (tgt := 313) hx hb dX9_part_291 (by decide) (fun _ => ?_) (fun c_291 => absurd (by decide +kernel) c_291)
                    refine lv_iload_n hx hb dX9_part_313 rfl (lv_at hl 0 rfl) ?_
                    exact ct_z ((dgI X L ((pl + 1) + 1 + 1))) hx hb hr hlocks (by first | (rw [rpP_l (by omega) (by omega) (by omega), rpL_1 k1, hsP_f (by omega), vsP_f (by omega)]; exact hP) | (rw [rpP_l (by omega) (by omega) (by omega), rpL_2 k1 k2, hsP_f (by omega), vsP_f (by omega)]; exact hP) | (rw [rpP_l (by omega) (by omega) (by omega), rpL_3 k1 k2 k3, hsP_f (by omega), vsP_f (by omega)]; exact hP) | (rw [rpP_l (by omega) (by omega) (by omega), rpL_4 k1 k2 k3, hsP_f (by omega), vsP_f (by omega)]; exact hP)) hS (by first | (rw [rpP_l (by omega) (by omega) (by omega), rpL_1 k1]; rfl) | (rw [rpP_l (by omega) (by omega) (by omega), rpL_2 k1 k2]; rfl) | (rw [rpP_l (by omega) (by omega) (by omega), rpL_3 k1 k2 k3]; rfl) | (rw [rpP_l (by omega) (by omega) (by omega), rpL_4 k1 k2 k3]; rfl)) dX9_part_314
                  · skip
                    rw [show (if (some d3).isSome = true then (1 : Int32) else 0) = nI 1 from rfl]
                    rw [plD_s k3, dgI_s k3] at hP hD
                    obtain ⟨b1_k3, b2_k3, -, -⟩ := dg_le k3
                    refine lv_if_eq (tgt := 288) hx hb dX9_part_281 (by decide) (fun c_281 => absurd c_281 (by decide +kernel)) (fun _ => ?_)
                    refine lv_iconst (v := (nI 1)) hx hb dX9_part_284 (by decide) ?_
                    refine lv_goto (tgt := 289) hx hb dX9_part_285 (by decide) ?_
                    refine lv_istore_n (lv' := [(2, .int (nI 1)), (4, .int (nI d2)), (3, .int (nI d1)), (0, .ref mr), (1, .int (nI 0))]) hx hb dX9_part_289 rfl hl (by decide) rfl (fun ls hl => ?_)
                    refine lv_iload_n hx hb dX9_part_290 rfl (lv_at hl 0 rfl) ?_
                    refine lv_if_eq (tgt := 313) hx hb dX9_part_291 (by decide) (fun c_291 => absurd c_291 (by decide +kernel)) (fun _ => ?_)
                    refine lv_iload_n hx hb dX9_part_294 rfl (lv_at hl 4 rfl) ?_
                    refine lv_if_eq (tgt := 313) hx hb dX9_part_295 (by decide) (fun _ => ?_) (fun c_295 => absurd (by decide +kernel) c_295)
                    refine lv_iload_n hx hb dX9_part_313 rfl (lv_at hl 0 rfl) ?_
                    exact ct_z ((nI d3)) hx hb hr hlocks (by first | (rw [rpP_l (by omega) (by omega) (by omega), rpL_1 k1, hsP_f (by omega), vsP_f (by omega)]; exact hP) | (rw [rpP_l (by omega) (by omega) (by omega), rpL_2 k1 k2, hsP_f (by omega), vsP_f (by omega)]; exact hP) | (rw [rpP_l (by omega) (by omega) (by omega), rpL_3 k1 k2 k3, hsP_f (by omega), vsP_f (by omega)]; exact hP) | (rw [rpP_l (by omega) (by omega) (by omega), rpL_4 k1 k2 k3, hsP_f (by omega), vsP_f (by omega)]; exact hP)) hS (by first | (rw [rpP_l (by omega) (by omega) (by omega), rpL_1 k1]; rfl) | (rw [rpP_l (by omega) (by omega) (by omega), rpL_2 k1 k2]; rfl) | (rw [rpP_l (by omega) (by omega) (by omega), rpL_3 k1 k2 k3]; rfl) | (rw [rpP_l (by omega) (by omega) (by omega), rpL_4 k1 k2 k3]; rfl)) dX9_part_314
            · skip
              rw [show (if (pl < L ∧ X pl = 108) then (1 : Int32) else 0) = nI 0 from if_neg (fun z => q_220 z.2)]
              rw [if_neg (show ¬ (pl < L ∧ X pl = 108) from fun z => q_220 z.2)] at hP hD
              refine lv_if_eq (tgt := 315) hx hb dX9_part_220 (by decide) (fun _ => ?_) (fun c_220 => absurd (by decide +kernel) c_220)
              refine lv_aload_n hx hb dX9_part_315 rfl (lv_at hl 0 rfl) ?_
              refine gf_n (C := RX9) (T := TX9) (N := 15) (ci := 9) (q0 := 0) (v := .int (nI hs)) hx hb hts (iU inlX9) hown hK hP rfl rfl 11 (by decide) (kU u_260) rfl rfl dX9_part_316 ?_
              refine lv_if_le (tgt := 349) hx hb dX9_part_319 (by decide) (fun c_319 => ?_) (fun c_319 => ?_)
              · skip
                replace c_319 := cn_le (b := 0) (by omega) (by omega) c_319
                refine lv_iconst (v := (nI 0)) hx hb dX9_part_349 (by decide) ?_
                refine lv_istore_n (lv' := [(2, .int (nI 0)), (0, .ref mr), (1, .int (nI 0))]) hx hb dX9_part_350 rfl hl (by decide) rfl (fun ls hl => ?_)
                refine lv_iload_n hx hb dX9_part_351 rfl (lv_at hl 0 rfl) ?_
                refine lv_if_eq (tgt := 374) hx hb dX9_part_352 (by decide) (fun _ => ?_) (fun c_352 => absurd (by decide +kernel) c_352)
                refine lv_iload_n hx hb dX9_part_374 rfl (lv_at hl 0 rfl) ?_
                exact ct_z (dg0) hx hb hr hlocks (by first | (rw [rpP_s (by omega) (by omega) (by omega) (by omega), rpS_1 k1, hsP_f (by omega), vsP_f (by omega)]; exact hP) | (rw [rpP_s (by omega) (by omega) (by omega) (by omega), rpS_2 k1, hsP_f (by omega), vsP_f (by omega)]; exact hP) | (rw [rpP_n (by omega) (by omega) (by omega) (by omega), hsP_f (by omega), vsP_f (by omega)]; exact hP)) hS (by first | (rw [rpP_s (by omega) (by omega) (by omega) (by omega), rpS_1 k1]; rfl) | (rw [rpP_s (by omega) (by omega) (by omega) (by omega), rpS_2 k1]; rfl) | (rw [rpP_n (by omega) (by omega) (by omega) (by omega)]; rfl)) dX9_part_375
              · skip
                replace c_319 := cn_nle (b := 0) (by omega) (by omega) c_319
                refine lv_aload_n hx hb dX9_part_322 rfl (lv_at hl 0 rfl) ?_
                refine lv_bipush (v := (nI 115)) hx hb dX9_part_323 (by decide) ?_
                refine gp_V (ci := 9) (q0 := 0) (cq := (RX9, TX9, 15)) (c_X9_letter l D cI cZ cF cL mr rf st L th pl hs vs dg0 xx X 115 hL hXt hpp (by decide)) (gUV u_262 u_263 u_264 u_5 u_265) rfl hdV_X9_letter ⟨Nat.le_of_ble_eq_true rfl, Nat.le_of_ble_eq_true rfl⟩ ⟨rfl, rfl⟩ hx hb hml hown hts hK hA hP hD hS hl.1 ⟨Nat.le_of_ble_eq_true rfl, Nat.le_of_ble_eq_true rfl⟩ rfl rfl rfl (wr := ([] : va_W)) (pm_cnt (fun _ => by simp only [List.countP_append, List.countP_nil, fT] <;> omega)) (fun _ => by simp only [List.map_append, List.map_nil, fX_m, bX_m, sX_m, pX_m, iaX_m, r5X_m, r6X_m, fT_m, hX_m, tX_m, xX_m, sgX_m, zaX_m, fsB_a, qX_m, mX_m]) (rest := []) rfl rfl (Nat.le_of_ble_eq_true rfl) dX9_part_325 (ws2 := (fun _ : Unit => (mX mr rf st L th (if (pl < L ∧ X pl = 115) then pl + 1 else pl) hs vs dg0 xx ++ iaX cI (rf 5) 120 X))) (fun _ => (pm_cnt (fun _ => by simp only [List.countP_append, List.countP_nil, fT] <;> omega))) (fun _ Hp locs hP hD hS => ?_)
                by_cases q_328 : X pl = 115
                · skip
                  rw [show (if (pl < L ∧ X pl = 115) then (1 : Int32) else 0) = nI 1 from if_pos ⟨hpl, q_328⟩]
                  rw [if_pos (⟨hpl, q_328⟩ : (pl < L ∧ X pl = 115))] at hP hD
                  refine lv_if_eq (tgt := 349) hx hb dX9_part_328 (by decide) (fun c_328 => absurd c_328 (by decide +kernel)) (fun _ => ?_)
                  refine lv_aload_n hx hb dX9_part_331 rfl (lv_at hl 0 rfl) ?_
                  refine lv_iconst (v := (nI 0)) hx hb dX9_part_332 (by decide) ?_
                  refine lv_aload_n hx hb dX9_part_333 rfl (lv_at hl 0 rfl) ?_
                  refine gf_n (C := RX9) (T := TX9) (N := 15) (ci := 9) (q0 := 0) (v := .int (nI hs)) hx hb hts (iU inlX9) hown hK hP rfl rfl 11 (by decide) (kU u_260) rfl rfl dX9_part_334 ?_
                  refine lv_iconst (v := (nI 1)) hx hb dX9_part_337 (by decide) ?_
                  refine lv_isub hx hb dX9_part_338 ?_
                  rw [pk_sub (a := hs) (b := 1) (by omega)]
                  refine gp_V (ci := 9) (q0 := 0) (cq := (RX9, TX9, 15)) (c_X9_digitTo l D cI cZ cF cL mr rf st L th (pl + 1) hs vs dg0 xx X 0 (hs - 1) hL hXt (by omega) (by omega) (by omega)) (gUV u_271 u_272 u_273 u_5 u_274) rfl hdV_X9_digitTo ⟨Nat.le_of_ble_eq_true rfl, Nat.le_of_ble_eq_true rfl⟩ ⟨rfl, rfl⟩ hx hb hml hown hts hK hA hP hD hS hl.1 ⟨Nat.le_of_ble_eq_true rfl, Nat.le_of_ble_eq_true rfl⟩ rfl rfl rfl (wr := ([] : va_W)) (pm_cnt (fun _ => by simp only [List.countP_append, List.countP_nil, fT] <;> omega)) (fun _ => by simp only [List.map_append, List.map_nil, fX_m, bX_m, sX_m, pX_m, iaX_m, r5X_m, r6X_m, fT_m, hX_m, tX_m, xX_m, sgX_m, zaX_m, fsB_a, qX_m, mX_m]) (rest := []) rfl rfl (Nat.le_of_ble_eq_true rfl) dX9_part_339 (ws2 := (fun _ : Unit => (mX mr rf st L th (plD X L (pl + 1) 0 (hs - 1)) hs vs (dgI X L (pl + 1)) xx ++ iaX cI (rf 5) 120 X))) (fun _ => (pm_cnt (fun _ => by simp only [List.countP_append, List.countP_nil, fT] <;> omega))) (fun _ Hp locs hP hD hS => ?_)
                  rcases k1 : dg X L (pl + 1) 0 (hs - 1) with _ | d1
                  · skip
                    rw [show (if (none : Option Nat).isSome = true then (1 : Int32) else 0) = nI 0 from rfl]
                    rw [plD_n k1] at hP hD
                    refine lv_if_eq (tgt := 349) hx hb dX9_part_342 (by decide) (fun _ => ?_) (fun c_342 => absurd (by decide +kernel) c_342)
                    refine lv_iconst (v := (nI 0)) hx hb dX9_part_349 (by decide) ?_
                    refine lv_istore_n (lv' := [(2, .int (nI 0)), (0, .ref mr), (1, .int (nI 0))]) hx hb dX9_part_350 rfl hl (by decide) rfl (fun ls hl => ?_)
                    refine lv_iload_n hx hb dX9_part_351 rfl (lv_at hl 0 rfl) ?_
                    refine lv_if_eq (tgt := 374) hx hb dX9_part_352 (by decide) (fun _ => ?_) (fun c_352 => absurd (by decide +kernel) c_352)
                    refine lv_iload_n hx hb dX9_part_374 rfl (lv_at hl 0 rfl) ?_
                    exact ct_z ((dgI X L (pl + 1))) hx hb hr hlocks (by first | (rw [rpP_s (by omega) (by omega) (by omega) (by omega), rpS_1 k1, hsP_f (by omega), vsP_f (by omega)]; exact hP) | (rw [rpP_s (by omega) (by omega) (by omega) (by omega), rpS_2 k1, hsP_f (by omega), vsP_f (by omega)]; exact hP) | (rw [rpP_n (by omega) (by omega) (by omega) (by omega), hsP_f (by omega), vsP_f (by omega)]; exact hP)) hS (by first | (rw [rpP_s (by omega) (by omega) (by omega) (by omega), rpS_1 k1]; rfl) | (rw [rpP_s (by omega) (by omega) (by omega) (by omega), rpS_2 k1]; rfl) | (rw [rpP_n (by omega) (by omega) (by omega) (by omega)]; rfl)) dX9_part_375
                  · skip
                    rw [show (if (some d1).isSome = true then (1 : Int32) else 0) = nI 1 from rfl]
                    rw [plD_s k1, dgI_s k1] at hP hD
                    obtain ⟨b1_k1, b2_k1, -, -⟩ := dg_le k1
                    refine lv_if_eq (tgt := 349) hx hb dX9_part_342 (by decide) (fun c_342 => absurd c_342 (by decide +kernel)) (fun _ => ?_)
                    refine lv_iconst (v := (nI 1)) hx hb dX9_part_345 (by decide) ?_
                    refine lv_goto (tgt := 350) hx hb dX9_part_346 (by decide) ?_
                    refine lv_istore_n (lv' := [(2, .int (nI 1)), (0, .ref mr), (1, .int (nI 0))]) hx hb dX9_part_350 rfl hl (by decide) rfl (fun ls hl => ?_)
                    refine lv_iload_n hx hb dX9_part_351 rfl (lv_at hl 0 rfl) ?_
                    refine lv_if_eq (tgt := 374) hx hb dX9_part_352 (by decide) (fun c_352 => absurd c_352 (by decide +kernel)) (fun _ => ?_)
                    refine lv_iload_n hx hb dX9_part_355 rfl (lv_at hl 2 rfl) ?_
                    refine lv_if_eq (tgt := 374) hx hb dX9_part_356 (by decide) (fun _ => ?_) (fun c_356 => absurd (by decide +kernel) c_356)
                    refine lv_iload_n hx hb dX9_part_374 rfl (lv_at hl 0 rfl) ?_
                    exact ct_z ((nI d1)) hx hb hr hlocks (by first | (rw [rpP_s (by omega) (by omega) (by omega) (by omega), rpS_1 k1, hsP_f (by omega), vsP_f (by omega)]; exact hP) | (rw [rpP_s (by omega) (by omega) (by omega) (by omega), rpS_2 k1, hsP_f (by omega), vsP_f (by omega)]; exact hP) | (rw [rpP_n (by omega) (by omega) (by omega) (by omega), hsP_f (by omega), vsP_f (by omega)]; exact hP)) hS (by first | (rw [rpP_s (by omega) (by omega) (by omega) (by omega), rpS_1 k1]; rfl) | (rw [rpP_s (by omega) (by omega) (by omega) (by omega), rpS_2 k1]; rfl) | (rw [rpP_n (by omega) (by omega) (by omega) (by omega)]; rfl)) dX9_part_375
                · skip
                  rw [show (if (pl < L ∧ X pl = 115) then (1 : Int32) else 0) = nI 0 from if_neg (fun z => q_328 z.2)]
                  rw [if_neg (show ¬ (pl < L ∧ X pl = 115) from fun z => q_328 z.2)] at hP hD
                  refine lv_if_eq (tgt := 349) hx hb dX9_part_328 (by decide) (fun _ => ?_) (fun c_328 => absurd (by decide +kernel) c_328)
                  refine lv_iconst (v := (nI 0)) hx hb dX9_part_349 (by decide) ?_
                  refine lv_istore_n (lv' := [(2, .int (nI 0)), (0, .ref mr), (1, .int (nI 0))]) hx hb dX9_part_350 rfl hl (by decide) rfl (fun ls hl => ?_)
                  refine lv_iload_n hx hb dX9_part_351 rfl (lv_at hl 0 rfl) ?_
                  refine lv_if_eq (tgt := 374) hx hb dX9_part_352 (by decide) (fun _ => ?_) (fun c_352 => absurd (by decide +kernel) c_352)
                  refine lv_iload_n hx hb dX9_part_374 rfl (lv_at hl 0 rfl) ?_
                  exact ct_z (dg0) hx hb hr hlocks (by first | (rw [rpP_s (by omega) (by omega) (by omega) (by omega), rpS_1 k1, hsP_f (by omega), vsP_f (by omega)]; exact hP) | (rw [rpP_s (by omega) (by omega) (by omega) (by omega), rpS_2 k1, hsP_f (by omega), vsP_f (by omega)]; exact hP) | (rw [rpP_n (by omega) (by omega) (by omega) (by omega), hsP_f (by omega), vsP_f (by omega)]; exact hP)) hS (by first | (rw [rpP_s (by omega) (by omega) (by omega) (by omega), rpS_1 k1]; rfl) | (rw [rpP_s (by omega) (by omega) (by omega) (by omega), rpS_2 k1]; rfl) | (rw [rpP_n (by omega) (by omega) (by omega) (by omega)]; rfl)) dX9_part_375
      · skip
        replace c_106 := cn_nle (by omega) (by omega) c_106
        refine lv_aload_n hx hb dX9_part_109 rfl (lv_at hl 0 rfl) ?_
        refine lv_bipush (v := (nI 118)) hx hb dX9_part_110 (by decide) ?_
        refine gp_V (ci := 9) (q0 := 0) (cq := (RX9, TX9, 15)) (c_X9_letter l D cI cZ cF cL mr rf st L th pl hs vs dg0 xx X 118 hL hXt hpp (by decide)) (gUV u_262 u_263 u_264 u_5 u_265) rfl hdV_X9_letter ⟨Nat.le_of_ble_eq_true rfl, Nat.le_of_ble_eq_true rfl⟩ ⟨rfl, rfl⟩ hx hb hml hown hts hK hA hP hD hS hl.1 ⟨Nat.le_of_ble_eq_true rfl, Nat.le_of_ble_eq_true rfl⟩ rfl rfl rfl (wr := ([] : va_W)) (pm_cnt (fun _ => by simp only [List.countP_append, List.countP_nil, fT] <;> omega)) (fun _ => by simp only [List.map_append, List.map_nil, fX_m, bX_m, sX_m, pX_m, iaX_m, r5X_m, r6X_m, fT_m, hX_m, tX_m, xX_m, sgX_m, zaX_m, fsB_a, qX_m, mX_m]) (rest := []) rfl rfl (Nat.le_of_ble_eq_true rfl) dX9_part_112 (ws2 := (fun _ : Unit => (mX mr rf st L th (if (pl < L ∧ X pl = 118) then pl + 1 else pl) hs vs dg0 xx ++ iaX cI (rf 5) 120 X))) (fun _ => (pm_cnt (fun _ => by simp only [List.countP_append, List.countP_nil, fT] <;> omega))) (fun _ Hp locs hP hD hS => ?_)
        by_cases q_115 : X pl = 118
        · skip
          rw [show (if (pl < L ∧ X pl = 118) then (1 : Int32) else 0) = nI 1 from if_pos ⟨hpl, q_115⟩]
          rw [if_pos (⟨hpl, q_115⟩ : (pl < L ∧ X pl = 118))] at hP hD
          refine lv_if_eq (tgt := 200) hx hb dX9_part_115 (by decide) (fun c_115 => absurd c_115 (by decide +kernel)) (fun _ => ?_)
          refine lv_aload_n hx hb dX9_part_118 rfl (lv_at hl 0 rfl) ?_
          refine lv_iconst (v := (nI 0)) hx hb dX9_part_119 (by decide) ?_
          refine lv_iconst (v := (nI 4)) hx hb dX9_part_120 (by decide) ?_
          refine gp_V (ci := 9) (q0 := 0) (cq := (RX9, TX9, 15)) (c_X9_digitTo l D cI cZ cF cL mr rf st L th (pl + 1) hs vs dg0 xx X 0 4 hL hXt (by omega) (by omega) (by omega)) (gUV u_271 u_272 u_273 u_5 u_274) rfl hdV_X9_digitTo ⟨Nat.le_of_ble_eq_true rfl, Nat.le_of_ble_eq_true rfl⟩ ⟨rfl, rfl⟩ hx hb hml hown hts hK hA hP hD hS hl.1 ⟨Nat.le_of_ble_eq_true rfl, Nat.le_of_ble_eq_true rfl⟩ rfl rfl rfl (wr := ([] : va_W)) (pm_cnt (fun _ => by simp only [List.countP_append, List.countP_nil, fT] <;> omega)) (fun _ => by simp only [List.map_append, List.map_nil, fX_m, bX_m, sX_m, pX_m, iaX_m, r5X_m, r6X_m, fT_m, hX_m, tX_m, xX_m, sgX_m, zaX_m, fsB_a, qX_m, mX_m]) (rest := []) rfl rfl (Nat.le_of_ble_eq_true rfl) dX9_part_121 (ws2 := (fun _ : Unit => (mX mr rf st L th (plD X L (pl + 1) 0 4) hs vs (dgI X L (pl + 1)) xx ++ iaX cI (rf 5) 120 X))) (fun _ => (pm_cnt (fun _ => by simp only [List.countP_append, List.countP_nil, fT] <;> omega))) (fun _ Hp locs hP hD hS => ?_)
          rcases k1 : dg X L (pl + 1) 0 4 with _ | d1
          · skip
            rw [show (if (none : Option Nat).isSome = true then (1 : Int32) else 0) = nI 0 from rfl]
            rw [plD_n k1] at hP hD
            refine lv_istore_n (lv' := [(2, .int (nI 0)), (0, .ref mr), (1, .int (nI 0))]) hx hb dX9_part_124 rfl hl (by decide) rfl (fun ls hl => ?_)
            refine lv_aload_n hx hb dX9_part_125 rfl (lv_at hl 1 rfl) ?_
            refine gf_n (C := RX9) (T := TX9) (N := 15) (ci := 9) (q0 := 0) (v := .int (dgI X L (pl + 1))) hx hb hts (iU inlX9) hown hK hP rfl rfl 13 (by decide) (kU u_270) rfl rfl dX9_part_126 ?_
            refine lv_istore_n (lv' := [(3, .int (dgI X L (pl + 1))), (2, .int (nI 0)), (0, .ref mr), (1, .int (nI 0))]) hx hb dX9_part_129 rfl hl (by decide) rfl (fun ls hl => ?_)
            refine lv_iload_n hx hb dX9_part_130 rfl (lv_at hl 1 rfl) ?_
            refine lv_if_eq (tgt := 157) hx hb dX9_part_131 (by decide) (fun _ => ?_) (fun c_131 => absurd (by decide +kernel) c_131)
            refine lv_iconst (v := (nI 0)) hx hb dX9_part_157 (by decide) ?_
            refine lv_istore_n (lv' := [(2, .int (nI 0)), (3, .int (dgI X L (pl + 1))), (0, .ref mr), (1, .int (nI 0))]) hx hb dX9_part_158 rfl hl (by decide) rfl (fun ls hl => ?_)
            refine lv_iload_n hx hb dX9_part_159 rfl (lv_at hl 0 rfl) ?_
            refine lv_if_eq (tgt := 188) hx hb dX9_part_160 (by decide) (fun _ => ?_) (fun c_160 => absurd (by decide +kernel) c_160)
            refine lv_aload_n hx hb dX9_part_188 rfl (lv_at hl 2 rfl) ?_
            refine lv_dup hx hb dX9_part_189 rfl ?_
            refine gf_n (C := RX9) (T := TX9) (N := 15) (ci := 9) (q0 := 0) (v := .int (nI vs)) hx hb hts (iU inlX9) hown hK hP rfl rfl 12 (by decide) (kU u_261) rfl rfl dX9_part_190 ?_
            refine lv_iconst (v := (nI 1)) hx hb dX9_part_193 (by decide) ?_
            refine lv_iadd hx hb dX9_part_194 ?_
            rw [nI_add vs 1]
            refine pf_n (C := RX9) (T := TX9) (N := 15) (ci := 9) (q0 := 0) (ty := .int) (v := .int (nI (vs + 1))) (ws2 := (mX mr rf st L th (pl + 1) hs (vs + 1) (dgI X L (pl + 1)) xx ++ iaX cI (rf 5) 120 X)) hx hb hts (iU inlX9) tyX9 tyX9_ok nmX9 hown hK hP hD hS rfl rfl 12 (by decide) (kU u_261) rfl rfl (tyX9_ok 12 (by decide)) rfl rfl (Nat.le_of_ble_eq_true rfl) dX9_part_195 rfl (fun Hp locs hP hD hS => ?_)
            refine lv_iload_n hx hb dX9_part_198 rfl (lv_at hl 0 rfl) ?_
            exact ct_z ((dgI X L (pl + 1))) hx hb hr hlocks (by first | (rw [rpP_v (by omega) (by omega), rpV_1 k1, hsP_f (by omega), vsP_t (by omega)]; exact hP) | (rw [rpP_v (by omega) (by omega), rpV_2 k1 (show dg X L (pl + 1 + 1) 0 (min 9 (40 - 10 * d1)) = none from by first | (rw [show min 9 (40 - 10 * d1) = 0 by omega]; exact k2) | (rw [show min 9 (40 - 10 * d1) = 9 by omega]; exact k2)), hsP_f (by omega), vsP_t (by omega)]; exact hP) | (rw [rpP_v (by omega) (by omega), rpV_3 k1 (show dg X L (pl + 1 + 1) 0 (min 9 (40 - 10 * d1)) = some d2 from by first | (rw [show min 9 (40 - 10 * d1) = 0 by omega]; exact k2) | (rw [show min 9 (40 - 10 * d1) = 9 by omega]; exact k2)), hsP_f (by omega), vsP_t (by omega)]; exact hP)) hS (by first | (rw [rpP_v (by omega) (by omega), rpV_1 k1]; rfl) | (rw [rpP_v (by omega) (by omega), rpV_2 k1 (show dg X L (pl + 1 + 1) 0 (min 9 (40 - 10 * d1)) = none from by first | (rw [show min 9 (40 - 10 * d1) = 0 by omega]; exact k2) | (rw [show min 9 (40 - 10 * d1) = 9 by omega]; exact k2))]; rfl) | (rw [rpP_v (by omega) (by omega), rpV_3 k1 (show dg X L (pl + 1 + 1) 0 (min 9 (40 - 10 * d1)) = some d2 from by first | (rw [show min 9 (40 - 10 * d1) = 0 by omega]; exact k2) | (rw [show min 9 (40 - 10 * d1) = 9 by omega]; exact k2))]; rfl)) dX9_part_199
          · skip
            rw [show (if (some d1).isSome = true then (1 : Int32) else 0) = nI 1 from rfl]
            rw [plD_s k1, dgI_s k1] at hP hD
            obtain ⟨b1_k1, b2_k1, -, -⟩ := dg_le k1
            refine lv_istore_n (lv' := [(2, .int (nI 1)), (0, .ref mr), (1, .int (nI 0))]) hx hb dX9_part_124 rfl hl (by decide) rfl (fun ls hl => ?_)
            refine lv_aload_n hx hb dX9_part_125 rfl (lv_at hl 1 rfl) ?_
            refine gf_n (C := RX9) (T := TX9) (N := 15) (ci := 9) (q0 := 0) (v := .int (nI d1)) hx hb hts (iU inlX9) hown hK hP rfl rfl 13 (by decide) (kU u_270) rfl rfl dX9_part_126 ?_
            refine lv_istore_n (lv' := [(3, .int (nI d1)), (2, .int (nI 1)), (0, .ref mr), (1, .int (nI 0))]) hx hb dX9_part_129 rfl hl (by decide) rfl (fun ls hl => ?_)
            refine lv_iload_n hx hb dX9_part_130 rfl (lv_at hl 1 rfl) ?_
            refine lv_if_eq (tgt := 157) hx hb dX9_part_131 (by decide) (fun c_131 => absurd c_131 (by decide +kernel)) (fun _ => ?_)
            refine lv_aload_n hx hb dX9_part_134 rfl (lv_at hl 2 rfl) ?_
            refine lv_iconst (v := (nI 0)) hx hb dX9_part_135 (by decide) ?_
            refine lv_iload_n hx hb dX9_part_136 rfl (lv_at hl 0 rfl) ?_
            refine lv_iconst (v := (nI 4)) hx hb dX9_part_137 (by decide) ?_
            refine lv_icmp_ne (tgt := 145) hx hb dX9_part_138 (by decide) (fun c_138 => ?_) (fun c_138 => ?_)
            · skip
              replace c_138 := cn_ne c_138
              refine lv_bipush (v := (nI 9)) hx hb dX9_part_145 (by decide) ?_
              refine gp_V (ci := 9) (q0 := 0) (cq := (RX9, TX9, 15)) (c_X9_digitTo l D cI cZ cF cL mr rf st L th (pl + 1 + 1) hs vs ((nI d1)) xx X 0 9 hL hXt (by omega) (by omega) (by omega)) (gUV u_271 u_272 u_273 u_5 u_274) rfl hdV_X9_digitTo ⟨Nat.le_of_ble_eq_true rfl, Nat.le_of_ble_eq_true rfl⟩ ⟨rfl, rfl⟩ hx hb hml hown hts hK hA hP hD hS hl.1 ⟨Nat.le_of_ble_eq_true rfl, Nat.le_of_ble_eq_true rfl⟩ rfl rfl rfl (wr := ([] : va_W)) (pm_cnt (fun _ => by simp only [List.countP_append, List.countP_nil, fT] <;> omega)) (fun _ => by simp only [List.map_append, List.map_nil, fX_m, bX_m, sX_m, pX_m, iaX_m, r5X_m, r6X_m, fT_m, hX_m, tX_m, xX_m, sgX_m, zaX_m, fsB_a, qX_m, mX_m]) (rest := []) rfl rfl (Nat.le_of_ble_eq_true rfl) dX9_part_147 (ws2 := (fun _ : Unit => (mX mr rf st L th (plD X L (pl + 1 + 1) 0 9) hs vs (dgI X L (pl + 1 + 1)) xx ++ iaX cI (rf 5) 120 X))) (fun _ => (pm_cnt (fun _ => by simp only [List.countP_append, List.countP_nil, fT] <;> omega))) (fun _ Hp locs hP hD hS => ?_)
              rcases k2 : dg X L ((pl + 1) + 1) 0 9 with _ | d2
              · skip
                rw [show (if (none : Option Nat).isSome = true then (1 : Int32) else 0) = nI 0 from rfl]
                rw [plD_n k2] at hP hD
                refine lv_if_eq (tgt := 157) hx hb dX9_part_150 (by decide) (fun _ => ?_) (fun c_150 => absurd (by decide +kernel) c_150)
                refine lv_iconst (v := (nI 0)) hx hb dX9_part_157 (by decide) ?_
                refine lv_istore_n (lv' := [(2, .int (nI 0)), (3, .int (nI d1)), (0, .ref mr), (1, .int (nI 0))]) hx hb dX9_part_158 rfl hl (by decide) rfl (fun ls hl => ?_)
                refine lv_iload_n hx hb dX9_part_159 rfl (lv_at hl 0 rfl) ?_
                refine lv_if_eq (tgt := 188) hx hb dX9_part_160 (by decide) (fun _ => ?_) (fun c_160 => absurd (by decide +kernel) c_160)
                refine lv_aload_n hx hb dX9_part_188 rfl (lv_at hl 2 rfl) ?_
                refine lv_dup hx hb dX9_part_189 rfl ?_
                refine gf_n (C := RX9) (T := TX9) (N := 15) (ci := 9) (q0 := 0) (v := .int (nI vs)) hx hb hts (iU inlX9) hown hK hP rfl rfl 12 (by decide) (kU u_261) rfl rfl dX9_part_190 ?_
                refine lv_iconst (v := (nI 1)) hx hb dX9_part_193 (by decide) ?_
                refine lv_iadd hx hb dX9_part_194 ?_
                rw [nI_add vs 1]
                refine pf_n (C := RX9) (T := TX9) (N := 15) (ci := 9) (q0 := 0) (ty := .int) (v := .int (nI (vs + 1))) (ws2 := (mX mr rf st L th ((pl + 1) + 1) hs (vs + 1) (dgI X L (pl + 1 + 1)) xx ++ iaX cI (rf 5) 120 X)) hx hb hts (iU inlX9) tyX9 tyX9_ok nmX9 hown hK hP hD hS rfl rfl 12 (by decide) (kU u_261) rfl rfl (tyX9_ok 12 (by decide)) rfl rfl (Nat.le_of_ble_eq_true rfl) dX9_part_195 rfl (fun Hp locs hP hD hS => ?_)
                refine lv_iload_n hx hb dX9_part_198 rfl (lv_at hl 0 rfl) ?_
                exact ct_z ((dgI X L (pl + 1 + 1))) hx hb hr hlocks (by first | (rw [rpP_v (by omega) (by omega), rpV_1 k1, hsP_f (by omega), vsP_t (by omega)]; exact hP) | (rw [rpP_v (by omega) (by omega), rpV_2 k1 (show dg X L (pl + 1 + 1) 0 (min 9 (40 - 10 * d1)) = none from by first | (rw [show min 9 (40 - 10 * d1) = 0 by omega]; exact k2) | (rw [show min 9 (40 - 10 * d1) = 9 by omega]; exact k2)), hsP_f (by omega), vsP_t (by omega)]; exact hP) | (rw [rpP_v (by omega) (by omega), rpV_3 k1 (show dg X L (pl + 1 + 1) 0 (min 9 (40 - 10 * d1)) = some d2 from by first | (rw [show min 9 (40 - 10 * d1) = 0 by omega]; exact k2) | (rw [show min 9 (40 - 10 * d1) = 9 by omega]; exact k2)), hsP_f (by omega), vsP_t (by omega)]; exact hP)) hS (by first | (rw [rpP_v (by omega) (by omega), rpV_1 k1]; rfl) | (rw [rpP_v (by omega) (by omega), rpV_2 k1 (show dg X L (pl + 1 + 1) 0 (min 9 (40 - 10 * d1)) = none from by first | (rw [show min 9 (40 - 10 * d1) = 0 by omega]; exact k2) | (rw [show min 9 (40 - 10 * d1) = 9 by omega]; exact k2))]; rfl) | (rw [rpP_v (by omega) (by omega), rpV_3 k1 (show dg X L (pl + 1 + 1) 0 (min 9 (40 - 10 * d1)) = some d2 from by first | (rw [show min 9 (40 - 10 * d1) = 0 by omega]; exact k2) | (rw [show min 9 (40 - 10 * d1) = 9 by omega]; exact k2))]; rfl)) dX9_part_199
              · skip
                rw [show (if (some d2).isSome = true then (1 : Int32) else 0) = nI 1 from rfl]
                rw [plD_s k2, dgI_s k2] at hP hD
                obtain ⟨b1_k2, b2_k2, -, -⟩ := dg_le k2
                refine lv_if_eq (tgt := 157) hx hb dX9_part_150 (by decide) (fun c_150 => absurd c_150 (by decide +kernel)) (fun _ => ?_)
                refine lv_iconst (v := (nI 1)) hx hb dX9_part_153 (by decide) ?_
                refine lv_goto (tgt := 158) hx hb dX9_part_154 (by decide) ?_
                refine lv_istore_n (lv' := [(2, .int (nI 1)), (3, .int (nI d1)), (0, .ref mr), (1, .int (nI 0))]) hx hb dX9_part_158 rfl hl (by decide) rfl (fun ls hl => ?_)
                refine lv_iload_n hx hb dX9_part_159 rfl (lv_at hl 0 rfl) ?_
                refine lv_if_eq (tgt := 188) hx hb dX9_part_160 (by decide) (fun c_160 => absurd c_160 (by decide +kernel)) (fun _ => ?_)
                refine lv_iload_n hx hb dX9_part_163 rfl (lv_at hl 3 rfl) ?_
                refine lv_if_eq (tgt := 188) hx hb dX9_part_164 (by decide) (fun _ => ?_) (fun c_164 => absurd (by decide +kernel) c_164)
                refine lv_aload_n hx hb dX9_part_188 rfl (lv_at hl 2 rfl) ?_
                refine lv_dup hx hb dX9_part_189 rfl ?_
                refine gf_n (C := RX9) (T := TX9) (N := 15) (ci := 9) (q0 := 0) (v := .int (nI vs)) hx hb hts (iU inlX9) hown hK hP rfl rfl 12 (by decide) (kU u_261) rfl rfl dX9_part_190 ?_
                refine lv_iconst (v := (nI 1)) hx hb dX9_part_193 (by decide) ?_
                refine lv_iadd hx hb dX9_part_194 ?_
                rw [nI_add vs 1]
                refine pf_n (C := RX9) (T := TX9) (N := 15) (ci := 9) (q0 := 0) (ty := .int) (v := .int (nI (vs + 1))) (ws2 := (mX mr rf st L th ((pl + 1) + 1 + 1) hs (vs + 1) (nI d2) xx ++ iaX cI (rf 5) 120 X)) hx hb hts (iU inlX9) tyX9 tyX9_ok nmX9 hown hK hP hD hS rfl rfl 12 (by decide) (kU u_261) rfl rfl (tyX9_ok 12 (by decide)) rfl rfl (Nat.le_of_ble_eq_true rfl) dX9_part_195 rfl (fun Hp locs hP hD hS => ?_)
                refine lv_iload_n hx hb dX9_part_198 rfl (lv_at hl 0 rfl) ?_
                exact ct_z ((nI d2)) hx hb hr hlocks (by first | (rw [rpP_v (by omega) (by omega), rpV_1 k1, hsP_f (by omega), vsP_t (by omega)]; exact hP) | (rw [rpP_v (by omega) (by omega), rpV_2 k1 (show dg X L (pl + 1 + 1) 0 (min 9 (40 - 10 * d1)) = none from by first | (rw [show min 9 (40 - 10 * d1) = 0 by omega]; exact k2) | (rw [show min 9 (40 - 10 * d1) = 9 by omega]; exact k2)), hsP_f (by omega), vsP_t (by omega)]; exact hP) | (rw [rpP_v (by omega) (by omega), rpV_3 k1 (show dg X L (pl + 1 + 1) 0 (min 9 (40 - 10 * d1)) = some d2 from by first | (rw [show min 9 (40 - 10 * d1) = 0 by omega]; exact k2) | (rw [show min 9 (40 - 10 * d1) = 9 by omega]; exact k2)), hsP_f (by omega), vsP_t (by omega)]; exact hP)) hS (by first | (rw [rpP_v (by omega) (by omega), rpV_1 k1]; rfl) | (rw [rpP_v (by omega) (by omega), rpV_2 k1 (show dg X L (pl + 1 + 1) 0 (min 9 (40 - 10 * d1)) = none from by first | (rw [show min 9 (40 - 10 * d1) = 0 by omega]; exact k2) | (rw [show min 9 (40 - 10 * d1) = 9 by omega]; exact k2))]; rfl) | (rw [rpP_v (by omega) (by omega), rpV_3 k1 (show dg X L (pl + 1 + 1) 0 (min 9 (40 - 10 * d1)) = some d2 from by first | (rw [show min 9 (40 - 10 * d1) = 0 by omega]; exact k2) | (rw [show min 9 (40 - 10 * d1) = 9 by omega]; exact k2))]; rfl)) dX9_part_199
            · skip
              replace c_138 := cn_eq (by omega) (by omega) c_138
              refine lv_iconst (v := (nI 0)) hx hb dX9_part_141 (by decide) ?_
              refine lv_goto (tgt := 147) hx hb dX9_part_142 (by decide) ?_
              refine gp_V (ci := 9) (q0 := 0) (cq := (RX9, TX9, 15)) (c_X9_digitTo l D cI cZ cF cL mr rf st L th (pl + 1 + 1) hs vs ((nI d1)) xx X 0 0 hL hXt (by omega) (by omega) (by omega)) (gUV u_271 u_272 u_273 u_5 u_274) rfl hdV_X9_digitTo ⟨Nat.le_of_ble_eq_true rfl, Nat.le_of_ble_eq_true rfl⟩ ⟨rfl, rfl⟩ hx hb hml hown hts hK hA hP hD hS hl.1 ⟨Nat.le_of_ble_eq_true rfl, Nat.le_of_ble_eq_true rfl⟩ rfl rfl rfl (wr := ([] : va_W)) (pm_cnt (fun _ => by simp only [List.countP_append, List.countP_nil, fT] <;> omega)) (fun _ => by simp only [List.map_append, List.map_nil, fX_m, bX_m, sX_m, pX_m, iaX_m, r5X_m, r6X_m, fT_m, hX_m, tX_m, xX_m, sgX_m, zaX_m, fsB_a, qX_m, mX_m]) (rest := []) rfl rfl (Nat.le_of_ble_eq_true rfl) dX9_part_147 (ws2 := (fun _ : Unit => (mX mr rf st L th (plD X L (pl + 1 + 1) 0 0) hs vs (dgI X L (pl + 1 + 1)) xx ++ iaX cI (rf 5) 120 X))) (fun _ => (pm_cnt (fun _ => by simp only [List.countP_append, List.countP_nil, fT] <;> omega))) (fun _ Hp locs hP hD hS => ?_)
              rcases k2 : dg X L ((pl + 1) + 1) 0 0 with _ | d2
              · skip
                rw [show (if (none : Option Nat).isSome = true then (1 : Int32) else 0) = nI 0 from rfl]
                rw [plD_n k2] at hP hD
                refine lv_if_eq (tgt := 157) hx hb dX9_part_150 (by decide) (fun _ => ?_) (fun c_150 => absurd (by decide +kernel) c_150)
                refine lv_iconst (v := (nI 0)) hx hb dX9_part_157 (by decide) ?_
                refine lv_istore_n (lv' := [(2, .int (nI 0)), (3, .int (nI d1)), (0, .ref mr), (1, .int (nI 0))]) hx hb dX9_part_158 rfl hl (by decide) rfl (fun ls hl => ?_)
                refine lv_iload_n hx hb dX9_part_159 rfl (lv_at hl 0 rfl) ?_
                refine lv_if_eq (tgt := 188) hx hb dX9_part_160 (by decide) (fun _ => ?_) (fun c_160 => absurd (by decide +kernel) c_160)
                refine lv_aload_n hx hb dX9_part_188 rfl (lv_at hl 2 rfl) ?_
                refine lv_dup hx hb dX9_part_189 rfl ?_
                refine gf_n (C := RX9) (T := TX9) (N := 15) (ci := 9) (q0 := 0) (v := .int (nI vs)) hx hb hts (iU inlX9) hown hK hP rfl rfl 12 (by decide) (kU u_261) rfl rfl dX9_part_190 ?_
                refine lv_iconst (v := (nI 1)) hx hb dX9_part_193 (by decide) ?_
                refine lv_iadd hx hb dX9_part_194 ?_
                rw [nI_add vs 1]
                refine pf_n (C := RX9) (T := TX9) (N := 15) (ci := 9) (q0 := 0) (ty := .int) (v := .int (nI (vs + 1))) (ws2 := (mX mr rf st L th ((pl + 1) + 1) hs (vs + 1) (dgI X L (pl + 1 + 1)) xx ++ iaX cI (rf 5) 120 X)) hx hb hts (iU inlX9) tyX9 tyX9_ok nmX9 hown hK hP hD hS rfl rfl 12 (by decide) (kU u_261) rfl rfl (tyX9_ok 12 (by decide)) rfl rfl (Nat.le_of_ble_eq_true rfl) dX9_part_195 rfl (fun Hp locs hP hD hS => ?_)
                refine lv_iload_n hx hb dX9_part_198 rfl (lv_at hl 0 rfl) ?_
                exact ct_z ((dgI X L (pl + 1 + 1))) hx hb hr hlocks (by first | (rw [rpP_v (by omega) (by omega), rpV_1 k1, hsP_f (by omega), vsP_t (by omega)]; exact hP) | (rw [rpP_v (by omega) (by omega), rpV_2 k1 (show dg X L (pl + 1 + 1) 0 (min 9 (40 - 10 * d1)) = none from by first | (rw [show min 9 (40 - 10 * d1) = 0 by omega]; exact k2) | (rw [show min 9 (40 - 10 * d1) = 9 by omega]; exact k2)), hsP_f (by omega), vsP_t (by omega)]; exact hP) | (rw [rpP_v (by omega) (by omega), rpV_3 k1 (show dg X L (pl + 1 + 1) 0 (min 9 (40 - 10 * d1)) = some d2 from by first | (rw [show min 9 (40 - 10 * d1) = 0 by omega]; exact k2) | (rw [show min 9 (40 - 10 * d1) = 9 by omega]; exact k2)), hsP_f (by omega), vsP_t (by omega)]; exact hP)) hS (by first | (rw [rpP_v (by omega) (by omega), rpV_1 k1]; rfl) | (rw [rpP_v (by omega) (by omega), rpV_2 k1 (show dg X L (pl + 1 + 1) 0 (min 9 (40 - 10 * d1)) = none from by first | (rw [show min 9 (40 - 10 * d1) = 0 by omega]; exact k2) | (rw [show min 9 (40 - 10 * d1) = 9 by omega]; exact k2))]; rfl) | (rw [rpP_v (by omega) (by omega), rpV_3 k1 (show dg X L (pl + 1 + 1) 0 (min 9 (40 - 10 * d1)) = some d2 from by first | (rw [show min 9 (40 - 10 * d1) = 0 by omega]; exact k2) | (rw [show min 9 (40 - 10 * d1) = 9 by omega]; exact k2))]; rfl)) dX9_part_199
              · skip
                rw [show (if (some d2).isSome = true then (1 : Int32) else 0) = nI 1 from rfl]
                rw [plD_s k2, dgI_s k2] at hP hD
                obtain ⟨b1_k2, b2_k2, -, -⟩ := dg_le k2
                refine lv_if_eq (tgt := 157) hx hb dX9_part_150 (by decide) (fun c_150 => absurd c_150 (by decide +kernel)) (fun _ => ?_)
                refine lv_iconst (v := (nI 1)) hx hb dX9_part_153 (by decide) ?_
                refine lv_goto (tgt := 158) hx hb dX9_part_154 (by decide) ?_
                refine lv_istore_n (lv' := [(2, .int (nI 1)), (3, .int (nI d1)), (0, .ref mr), (1, .int (nI 0))]) hx hb dX9_part_158 rfl hl (by decide) rfl (fun ls hl => ?_)
                refine lv_iload_n hx hb dX9_part_159 rfl (lv_at hl 0 rfl) ?_
                refine lv_if_eq (tgt := 188) hx hb dX9_part_160 (by decide) (fun c_160 => absurd c_160 (by decide +kernel)) (fun _ => ?_)
                refine lv_iload_n hx hb dX9_part_163 rfl (lv_at hl 3 rfl) ?_
                refine lv_if_eq (tgt := 188) hx hb dX9_part_164 (by decide) (fun _ => ?_) (fun c_164 => absurd (by decide +kernel) c_164)
                refine lv_aload_n hx hb dX9_part_188 rfl (lv_at hl 2 rfl) ?_
                refine lv_dup hx hb dX9_part_189 rfl ?_
                refine gf_n (C := RX9) (T := TX9) (N := 15) (ci := 9) (q0 := 0) (v := .int (nI vs)) hx hb hts (iU inlX9) hown hK hP rfl rfl 12 (by decide) (kU u_261) rfl rfl dX9_part_190 ?_
                refine lv_iconst (v := (nI 1)) hx hb dX9_part_193 (by decide) ?_
                refine lv_iadd hx hb dX9_part_194 ?_
                rw [nI_add vs 1]
                refine pf_n (C := RX9) (T := TX9) (N := 15) (ci := 9) (q0 := 0) (ty := .int) (v := .int (nI (vs + 1))) (ws2 := (mX mr rf st L th ((pl + 1) + 1 + 1) hs (vs + 1) (nI d2) xx ++ iaX cI (rf 5) 120 X)) hx hb hts (iU inlX9) tyX9 tyX9_ok nmX9 hown hK hP hD hS rfl rfl 12 (by decide) (kU u_261) rfl rfl (tyX9_ok 12 (by decide)) rfl rfl (Nat.le_of_ble_eq_true rfl) dX9_part_195 rfl (fun Hp locs hP hD hS => ?_)
                refine lv_iload_n hx hb dX9_part_198 rfl (lv_at hl 0 rfl) ?_
                exact ct_z ((nI d2)) hx hb hr hlocks (by first | (rw [rpP_v (by omega) (by omega), rpV_1 k1, hsP_f (by omega), vsP_t (by omega)]; exact hP) | (rw [rpP_v (by omega) (by omega), rpV_2 k1 (show dg X L (pl + 1 + 1) 0 (min 9 (40 - 10 * d1)) = none from by first | (rw [show min 9 (40 - 10 * d1) = 0 by omega]; exact k2) | (rw [show min 9 (40 - 10 * d1) = 9 by omega]; exact k2)), hsP_f (by omega), vsP_t (by omega)]; exact hP) | (rw [rpP_v (by omega) (by omega), rpV_3 k1 (show dg X L (pl + 1 + 1) 0 (min 9 (40 - 10 * d1)) = some d2 from by first | (rw [show min 9 (40 - 10 * d1) = 0 by omega]; exact k2) | (rw [show min 9 (40 - 10 * d1) = 9 by omega]; exact k2)), hsP_f (by omega), vsP_t (by omega)]; exact hP)) hS (by first | (rw [rpP_v (by omega) (by omega), rpV_1 k1]; rfl) | (rw [rpP_v (by omega) (by omega), rpV_2 k1 (show dg X L (pl + 1 + 1) 0 (min 9 (40 - 10 * d1)) = none from by first | (rw [show min 9 (40 - 10 * d1) = 0 by omega]; exact k2) | (rw [show min 9 (40 - 10 * d1) = 9 by omega]; exact k2))]; rfl) | (rw [rpP_v (by omega) (by omega), rpV_3 k1 (show dg X L (pl + 1 + 1) 0 (min 9 (40 - 10 * d1)) = some d2 from by first | (rw [show min 9 (40 - 10 * d1) = 0 by omega]; exact k2) | (rw [show min 9 (40 - 10 * d1) = 9 by omega]; exact k2))]; rfl)) dX9_part_199
        · skip
          rw [show (if (pl < L ∧ X pl = 118) then (1 : Int32) else 0) = nI 0 from if_neg (fun z => q_115 z.2)]
          rw [if_neg (show ¬ (pl < L ∧ X pl = 118) from fun z => q_115 z.2)] at hP hD
          refine lv_if_eq (tgt := 200) hx hb dX9_part_115 (by decide) (fun _ => ?_) (fun c_115 => absurd (by decide +kernel) c_115)
          refine lv_aload_n hx hb dX9_part_200 rfl (lv_at hl 0 rfl) ?_
          refine gf_n (C := RX9) (T := TX9) (N := 15) (ci := 9) (q0 := 0) (v := .int (nI hs)) hx hb hts (iU inlX9) hown hK hP rfl rfl 11 (by decide) (kU u_260) rfl rfl dX9_part_201 ?_
          refine lv_if_le (tgt := 315) hx hb dX9_part_204 (by decide) (fun c_204 => ?_) (fun c_204 => ?_)
          · skip
            replace c_204 := cn_le (b := 0) (by omega) (by omega) c_204
            refine lv_aload_n hx hb dX9_part_315 rfl (lv_at hl 0 rfl) ?_
            refine gf_n (C := RX9) (T := TX9) (N := 15) (ci := 9) (q0 := 0) (v := .int (nI hs)) hx hb hts (iU inlX9) hown hK hP rfl rfl 11 (by decide) (kU u_260) rfl rfl dX9_part_316 ?_
            refine lv_if_le (tgt := 349) hx hb dX9_part_319 (by decide) (fun c_319 => ?_) (fun c_319 => ?_)
            · skip
              replace c_319 := cn_le (b := 0) (by omega) (by omega) c_319
              refine lv_iconst (v := (nI 0)) hx hb dX9_part_349 (by decide) ?_
              refine lv_istore_n (lv' := [(2, .int (nI 0)), (0, .ref mr), (1, .int (nI 0))]) hx hb dX9_part_350 rfl hl (by decide) rfl (fun ls hl => ?_)
              refine lv_iload_n hx hb dX9_part_351 rfl (lv_at hl 0 rfl) ?_
              refine lv_if_eq (tgt := 374) hx hb dX9_part_352 (by decide) (fun _ => ?_) (fun c_352 => absurd (by decide +kernel) c_352)
              refine lv_iload_n hx hb dX9_part_374 rfl (lv_at hl 0 rfl) ?_
              exact ct_z (dg0) hx hb hr hlocks (by first | (rw [rpP_s (by omega) (by omega) (by omega) (by omega), rpS_1 k1, hsP_f (by omega), vsP_f (by omega)]; exact hP) | (rw [rpP_s (by omega) (by omega) (by omega) (by omega), rpS_2 k1, hsP_f (by omega), vsP_f (by omega)]; exact hP) | (rw [rpP_n (by omega) (by omega) (by omega) (by omega), hsP_f (by omega), vsP_f (by omega)]; exact hP)) hS (by first | (rw [rpP_s (by omega) (by omega) (by omega) (by omega), rpS_1 k1]; rfl) | (rw [rpP_s (by omega) (by omega) (by omega) (by omega), rpS_2 k1]; rfl) | (rw [rpP_n (by omega) (by omega) (by omega) (by omega)]; rfl)) dX9_part_375
            · skip
              replace c_319 := cn_nle (b := 0) (by omega) (by omega) c_319
              refine lv_aload_n hx hb dX9_part_322 rfl (lv_at hl 0 rfl) ?_
              refine lv_bipush (v := (nI 115)) hx hb dX9_part_323 (by decide) ?_
              refine gp_V (ci := 9) (q0 := 0) (cq := (RX9, TX9, 15)) (c_X9_letter l D cI cZ cF cL mr rf st L th pl hs vs dg0 xx X 115 hL hXt hpp (by decide)) (gUV u_262 u_263 u_264 u_5 u_265) rfl hdV_X9_letter ⟨Nat.le_of_ble_eq_true rfl, Nat.le_of_ble_eq_true rfl⟩ ⟨rfl, rfl⟩ hx hb hml hown hts hK hA hP hD hS hl.1 ⟨Nat.le_of_ble_eq_true rfl, Nat.le_of_ble_eq_true rfl⟩ rfl rfl rfl (wr := ([] : va_W)) (pm_cnt (fun _ => by simp only [List.countP_append, List.countP_nil, fT] <;> omega)) (fun _ => by simp only [List.map_append, List.map_nil, fX_m, bX_m, sX_m, pX_m, iaX_m, r5X_m, r6X_m, fT_m, hX_m, tX_m, xX_m, sgX_m, zaX_m, fsB_a, qX_m, mX_m]) (rest := []) rfl rfl (Nat.le_of_ble_eq_true rfl) dX9_part_325 (ws2 := (fun _ : Unit => (mX mr rf st L th (if (pl < L ∧ X pl = 115) then pl + 1 else pl) hs vs dg0 xx ++ iaX cI (rf 5) 120 X))) (fun _ => (pm_cnt (fun _ => by simp only [List.countP_append, List.countP_nil, fT] <;> omega))) (fun _ Hp locs hP hD hS => ?_)
              by_cases q_328 : X pl = 115
              · skip
                rw [show (if (pl < L ∧ X pl = 115) then (1 : Int32) else 0) = nI 1 from if_pos ⟨hpl, q_328⟩]
                rw [if_pos (⟨hpl, q_328⟩ : (pl < L ∧ X pl = 115))] at hP hD
                refine lv_if_eq (tgt := 349) hx hb dX9_part_328 (by decide) (fun c_328 => absurd c_328 (by decide +kernel)) (fun _ => ?_)
                refine lv_aload_n hx hb dX9_part_331 rfl (lv_at hl 0 rfl) ?_
                refine lv_iconst (v := (nI 0)) hx hb dX9_part_332 (by decide) ?_
                refine lv_aload_n hx hb dX9_part_333 rfl (lv_at hl 0 rfl) ?_
                refine gf_n (C := RX9) (T := TX9) (N := 15) (ci := 9) (q0 := 0) (v := .int (nI hs)) hx hb hts (iU inlX9) hown hK hP rfl rfl 11 (by decide) (kU u_260) rfl rfl dX9_part_334 ?_
                refine lv_iconst (v := (nI 1)) hx hb dX9_part_337 (by decide) ?_
                refine lv_isub hx hb dX9_part_338 ?_
                rw [pk_sub (a := hs) (b := 1) (by omega)]
                refine gp_V (ci := 9) (q0 := 0) (cq := (RX9, TX9, 15)) (c_X9_digitTo l D cI cZ cF cL mr rf st L th (pl + 1) hs vs dg0 xx X 0 (hs - 1) hL hXt (by omega) (by omega) (by omega)) (gUV u_271 u_272 u_273 u_5 u_274) rfl hdV_X9_digitTo ⟨Nat.le_of_ble_eq_true rfl, Nat.le_of_ble_eq_true rfl⟩ ⟨rfl, rfl⟩ hx hb hml hown hts hK hA hP hD hS hl.1 ⟨Nat.le_of_ble_eq_true rfl, Nat.le_of_ble_eq_true rfl⟩ rfl rfl rfl (wr := ([] : va_W)) (pm_cnt (fun _ => by simp only [List.countP_append, List.countP_nil, fT] <;> omega)) (fun _ => by simp only [List.map_append, List.map_nil, fX_m, bX_m, sX_m, pX_m, iaX_m, r5X_m, r6X_m, fT_m, hX_m, tX_m, xX_m, sgX_m, zaX_m, fsB_a, qX_m, mX_m]) (rest := []) rfl rfl (Nat.le_of_ble_eq_true rfl) dX9_part_339 (ws2 := (fun _ : Unit => (mX mr rf st L th (plD X L (pl + 1) 0 (hs - 1)) hs vs (dgI X L (pl + 1)) xx ++ iaX cI (rf 5) 120 X))) (fun _ => (pm_cnt (fun _ => by simp only [List.countP_append, List.countP_nil, fT] <;> omega))) (fun _ Hp locs hP hD hS => ?_)
                rcases k1 : dg X L (pl + 1) 0 (hs - 1) with _ | d1
                · skip
                  rw [show (if (none : Option Nat).isSome = true then (1 : Int32) else 0) = nI 0 from rfl]
                  rw [plD_n k1] at hP hD
                  refine lv_if_eq (tgt := 349) hx hb dX9_part_342 (by decide) (fun _ => ?_) (fun c_342 => absurd (by decide +kernel) c_342)
                  refine lv_iconst (v := (nI 0)) hx hb dX9_part_349 (by decide) ?_
                  refine lv_istore_n (lv' := [(2, .int (nI 0)), (0, .ref mr), (1, .int (nI 0))]) hx hb dX9_part_350 rfl hl (by decide) rfl (fun ls hl => ?_)
                  refine lv_iload_n hx hb dX9_part_351 rfl (lv_at hl 0 rfl) ?_
                  refine lv_if_eq (tgt := 374) hx hb dX9_part_352 (by decide) (fun _ => ?_) (fun c_352 => absurd (by decide +kernel) c_352)
                  refine lv_iload_n hx hb dX9_part_374 rfl (lv_at hl 0 rfl) ?_
                  exact ct_z ((dgI X L (pl + 1))) hx hb hr hlocks (by first | (rw [rpP_s (by omega) (by omega) (by omega) (by omega), rpS_1 k1, hsP_f (by omega), vsP_f (by omega)]; exact hP) | (rw [rpP_s (by omega) (by omega) (by omega) (by omega), rpS_2 k1, hsP_f (by omega), vsP_f (by omega)]; exact hP) | (rw [rpP_n (by omega) (by omega) (by omega) (by omega), hsP_f (by omega), vsP_f (by omega)]; exact hP)) hS (by first | (rw [rpP_s (by omega) (by omega) (by omega) (by omega), rpS_1 k1]; rfl) | (rw [rpP_s (by omega) (by omega) (by omega) (by omega), rpS_2 k1]; rfl) | (rw [rpP_n (by omega) (by omega) (by omega) (by omega)]; rfl)) dX9_part_375
                · skip
                  rw [show (if (some d1).isSome = true then (1 : Int32) else 0) = nI 1 from rfl]
                  rw [plD_s k1, dgI_s k1] at hP hD
                  obtain ⟨b1_k1, b2_k1, -, -⟩ := dg_le k1
                  refine lv_if_eq (tgt := 349) hx hb dX9_part_342 (by decide) (fun c_342 => absurd c_342 (by decide +kernel)) (fun _ => ?_)
                  refine lv_iconst (v := (nI 1)) hx hb dX9_part_345 (by decide) ?_
                  refine lv_goto (tgt := 350) hx hb dX9_part_346 (by decide) ?_
                  refine lv_istore_n (lv' := [(2, .int (nI 1)), (0, .ref mr), (1, .int (nI 0))]) hx hb dX9_part_350 rfl hl (by decide) rfl (fun ls hl => ?_)
                  refine lv_iload_n hx hb dX9_part_351 rfl (lv_at hl 0 rfl) ?_
                  refine lv_if_eq (tgt := 374) hx hb dX9_part_352 (by decide) (fun c_352 => absurd c_352 (by decide +kernel)) (fun _ => ?_)
                  refine lv_iload_n hx hb dX9_part_355 rfl (lv_at hl 2 rfl) ?_
                  refine lv_if_eq (tgt := 374) hx hb dX9_part_356 (by decide) (fun _ => ?_) (fun c_356 => absurd (by decide +kernel) c_356)
                  refine lv_iload_n hx hb dX9_part_374 rfl (lv_at hl 0 rfl) ?_
                  exact ct_z ((nI d1)) hx hb hr hlocks (by first | (rw [rpP_s (by omega) (by omega) (by omega) (by omega), rpS_1 k1, hsP_f (by omega), vsP_f (by omega)]; exact hP) | (rw [rpP_s (by omega) (by omega) (by omega) (by omega), rpS_2 k1, hsP_f (by omega), vsP_f (by omega)]; exact hP) | (rw [rpP_n (by omega) (by omega) (by omega) (by omega), hsP_f (by omega), vsP_f (by omega)]; exact hP)) hS (by first | (rw [rpP_s (by omega) (by omega) (by omega) (by omega), rpS_1 k1]; rfl) | (rw [rpP_s (by omega) (by omega) (by omega) (by omega), rpS_2 k1]; rfl) | (rw [rpP_n (by omega) (by omega) (by omega) (by omega)]; rfl)) dX9_part_375
              · skip
                rw [show (if (pl < L ∧ X pl = 115) then (1 : Int32) else 0) = nI 0 from if_neg (fun z => q_328 z.2)]
                rw [if_neg (show ¬ (pl < L ∧ X pl = 115) from fun z => q_328 z.2)] at hP hD
                refine lv_if_eq (tgt := 349) hx hb dX9_part_328 (by decide) (fun _ => ?_) (fun c_328 => absurd (by decide +kernel) c_328)
                refine lv_iconst (v := (nI 0)) hx hb dX9_part_349 (by decide) ?_
                refine lv_istore_n (lv' := [(2, .int (nI 0)), (0, .ref mr), (1, .int (nI 0))]) hx hb dX9_part_350 rfl hl (by decide) rfl (fun ls hl => ?_)
                refine lv_iload_n hx hb dX9_part_351 rfl (lv_at hl 0 rfl) ?_
                refine lv_if_eq (tgt := 374) hx hb dX9_part_352 (by decide) (fun _ => ?_) (fun c_352 => absurd (by decide +kernel) c_352)
                refine lv_iload_n hx hb dX9_part_374 rfl (lv_at hl 0 rfl) ?_
                exact ct_z (dg0) hx hb hr hlocks (by first | (rw [rpP_s (by omega) (by omega) (by omega) (by omega), rpS_1 k1, hsP_f (by omega), vsP_f (by omega)]; exact hP) | (rw [rpP_s (by omega) (by omega) (by omega) (by omega), rpS_2 k1, hsP_f (by omega), vsP_f (by omega)]; exact hP) | (rw [rpP_n (by omega) (by omega) (by omega) (by omega), hsP_f (by omega), vsP_f (by omega)]; exact hP)) hS (by first | (rw [rpP_s (by omega) (by omega) (by omega) (by omega), rpS_1 k1]; rfl) | (rw [rpP_s (by omega) (by omega) (by omega) (by omega), rpS_2 k1]; rfl) | (rw [rpP_n (by omega) (by omega) (by omega) (by omega)]; rfl)) dX9_part_375
          · skip
            replace c_204 := cn_nle (b := 0) (by omega) (by omega) c_204
            refine lv_aload_n hx hb dX9_part_207 rfl (lv_at hl 0 rfl) ?_
            refine gf_n (C := RX9) (T := TX9) (N := 15) (ci := 9) (q0 := 0) (v := .int (nI vs)) hx hb hts (iU inlX9) hown hK hP rfl rfl 12 (by decide) (kU u_261) rfl rfl dX9_part_208 ?_
            refine lv_if_le (tgt := 315) hx hb dX9_part_211 (by decide) (fun c_211 => ?_) (fun c_211 => ?_)
            · skip
              replace c_211 := cn_le (b := 0) (by omega) (by omega) c_211
              refine lv_aload_n hx hb dX9_part_315 rfl (lv_at hl 0 rfl) ?_
              refine gf_n (C := RX9) (T := TX9) (N := 15) (ci := 9) (q0 := 0) (v := .int (nI hs)) hx hb hts (iU inlX9) hown hK hP rfl rfl 11 (by decide) (kU u_260) rfl rfl dX9_part_316 ?_
              refine lv_if_le (tgt := 349) hx hb dX9_part_319 (by decide) (fun c_319 => ?_) (fun c_319 => ?_)
              · skip
                replace c_319 := cn_le (b := 0) (by omega) (by omega) c_319
                refine lv_iconst (v := (nI 0)) hx hb dX9_part_349 (by decide) ?_
                refine lv_istore_n (lv' := [(2, .int (nI 0)), (0, .ref mr), (1, .int (nI 0))]) hx hb dX9_part_350 rfl hl (by decide) rfl (fun ls hl => ?_)
                refine lv_iload_n hx hb dX9_part_351 rfl (lv_at hl 0 rfl) ?_
                refine lv_if_eq (tgt := 374) hx hb dX9_part_352 (by decide) (fun _ => ?_) (fun c_352 => absurd (by decide +kernel) c_352)
                refine lv_iload_n hx hb dX9_part_374 rfl (lv_at hl 0 rfl) ?_
                exact ct_z (dg0) hx hb hr hlocks (by first | (rw [rpP_s (by omega) (by omega) (by omega) (by omega), rpS_1 k1, hsP_f (by omega), vsP_f (by omega)]; exact hP) | (rw [rpP_s (by omega) (by omega) (by omega) (by omega), rpS_2 k1, hsP_f (by omega), vsP_f (by omega)]; exact hP) | (rw [rpP_n (by omega) (by omega) (by omega) (by omega), hsP_f (by omega), vsP_f (by omega)]; exact hP)) hS (by first | (rw [rpP_s (by omega) (by omega) (by omega) (by omega), rpS_1 k1]; rfl) | (rw [rpP_s (by omega) (by omega) (by omega) (by omega), rpS_2 k1]; rfl) | (rw [rpP_n (by omega) (by omega) (by omega) (by omega)]; rfl)) dX9_part_375
              · skip
                replace c_319 := cn_nle (b := 0) (by omega) (by omega) c_319
                refine lv_aload_n hx hb dX9_part_322 rfl (lv_at hl 0 rfl) ?_
                refine lv_bipush (v := (nI 115)) hx hb dX9_part_323 (by decide) ?_
                refine gp_V (ci := 9) (q0 := 0) (cq := (RX9, TX9, 15)) (c_X9_letter l D cI cZ cF cL mr rf st L th pl hs vs dg0 xx X 115 hL hXt hpp (by decide)) (gUV u_262 u_263 u_264 u_5 u_265) rfl hdV_X9_letter ⟨Nat.le_of_ble_eq_true rfl, Nat.le_of_ble_eq_true rfl⟩ ⟨rfl, rfl⟩ hx hb hml hown hts hK hA hP hD hS hl.1 ⟨Nat.le_of_ble_eq_true rfl, Nat.le_of_ble_eq_true rfl⟩ rfl rfl rfl (wr := ([] : va_W)) (pm_cnt (fun _ => by simp only [List.countP_append, List.countP_nil, fT] <;> omega)) (fun _ => by simp only [List.map_append, List.map_nil, fX_m, bX_m, sX_m, pX_m, iaX_m, r5X_m, r6X_m, fT_m, hX_m, tX_m, xX_m, sgX_m, zaX_m, fsB_a, qX_m, mX_m]) (rest := []) rfl rfl (Nat.le_of_ble_eq_true rfl) dX9_part_325 (ws2 := (fun _ : Unit => (mX mr rf st L th (if (pl < L ∧ X pl = 115) then pl + 1 else pl) hs vs dg0 xx ++ iaX cI (rf 5) 120 X))) (fun _ => (pm_cnt (fun _ => by simp only [List.countP_append, List.countP_nil, fT] <;> omega))) (fun _ Hp locs hP hD hS => ?_)
                by_cases q_328 : X pl = 115
                · skip
                  rw [show (if (pl < L ∧ X pl = 115) then (1 : Int32) else 0) = nI 1 from if_pos ⟨hpl, q_328⟩]
                  rw [if_pos (⟨hpl, q_328⟩ : (pl < L ∧ X pl = 115))] at hP hD
                  refine lv_if_eq (tgt := 349) hx hb dX9_part_328 (by decide) (fun c_328 => absurd c_328 (by decide +kernel)) (fun _ => ?_)
                  refine lv_aload_n hx hb dX9_part_331 rfl (lv_at hl 0 rfl) ?_
                  refine lv_iconst (v := (nI 0)) hx hb dX9_part_332 (by decide) ?_
                  refine lv_aload_n hx hb dX9_part_333 rfl (lv_at hl 0 rfl) ?_
                  refine gf_n (C := RX9) (T := TX9) (N := 15) (ci := 9) (q0 := 0) (v := .int (nI hs)) hx hb hts (iU inlX9) hown hK hP rfl rfl 11 (by decide) (kU u_260) rfl rfl dX9_part_334 ?_
                  refine lv_iconst (v := (nI 1)) hx hb dX9_part_337 (by decide) ?_
                  refine lv_isub hx hb dX9_part_338 ?_
                  rw [pk_sub (a := hs) (b := 1) (by omega)]
                  refine gp_V (ci := 9) (q0 := 0) (cq := (RX9, TX9, 15)) (c_X9_digitTo l D cI cZ cF cL mr rf st L th (pl + 1) hs vs dg0 xx X 0 (hs - 1) hL hXt (by omega) (by omega) (by omega)) (gUV u_271 u_272 u_273 u_5 u_274) rfl hdV_X9_digitTo ⟨Nat.le_of_ble_eq_true rfl, Nat.le_of_ble_eq_true rfl⟩ ⟨rfl, rfl⟩ hx hb hml hown hts hK hA hP hD hS hl.1 ⟨Nat.le_of_ble_eq_true rfl, Nat.le_of_ble_eq_true rfl⟩ rfl rfl rfl (wr := ([] : va_W)) (pm_cnt (fun _ => by simp only [List.countP_append, List.countP_nil, fT] <;> omega)) (fun _ => by simp only [List.map_append, List.map_nil, fX_m, bX_m, sX_m, pX_m, iaX_m, r5X_m, r6X_m, fT_m, hX_m, tX_m, xX_m, sgX_m, zaX_m, fsB_a, qX_m, mX_m]) (rest := []) rfl rfl (Nat.le_of_ble_eq_true rfl) dX9_part_339 (ws2 := (fun _ : Unit => (mX mr rf st L th (plD X L (pl + 1) 0 (hs - 1)) hs vs (dgI X L (pl + 1)) xx ++ iaX cI (rf 5) 120 X))) (fun _ => (pm_cnt (fun _ => by simp only [List.countP_append, List.countP_nil, fT] <;> omega))) (fun _ Hp locs hP hD hS => ?_)
                  rcases k1 : dg X L (pl + 1) 0 (hs - 1) with _ | d1
                  · skip
                    rw [show (if (none : Option Nat).isSome = true then (1 : Int32) else 0) = nI 0 from rfl]
                    rw [plD_n k1] at hP hD
                    refine lv_if_eq (tgt := 349) hx hb dX9_part_342 (by decide) (fun _ => ?_) (fun c_342 => absurd (by decide +kernel) c_342)
                    refine lv_iconst (v := (nI 0)) hx hb dX9_part_349 (by decide) ?_
                    refine lv_istore_n (lv' := [(2, .int (nI 0)), (0, .ref mr), (1, .int (nI 0))]) hx hb dX9_part_350 rfl hl (by decide) rfl (fun ls hl => ?_)
                    refine lv_iload_n hx hb dX9_part_351 rfl (lv_at hl 0 rfl) ?_
                    refine lv_if_eq (tgt := 374) hx hb dX9_part_352 (by decide) (fun _ => ?_) (fun c_352 => absurd (by decide +kernel) c_352)
                    refine lv_iload_n hx hb dX9_part_374 rfl (lv_at hl 0 rfl) ?_
                    exact ct_z ((dgI X L (pl + 1))) hx hb hr hlocks (by first | (rw [rpP_s (by omega) (by omega) (by omega) (by omega), rpS_1 k1, hsP_f (by omega), vsP_f (by omega)]; exact hP) | (rw [rpP_s (by omega) (by omega) (by omega) (by omega), rpS_2 k1, hsP_f (by omega), vsP_f (by omega)]; exact hP) | (rw [rpP_n (by omega) (by omega) (by omega) (by omega), hsP_f (by omega), vsP_f (by omega)]; exact hP)) hS (by first | (rw [rpP_s (by omega) (by omega) (by omega) (by omega), rpS_1 k1]; rfl) | (rw [rpP_s (by omega) (by omega) (by omega) (by omega), rpS_2 k1]; rfl) | (rw [rpP_n (by omega) (by omega) (by omega) (by omega)]; rfl)) dX9_part_375
                  · skip
                    rw [show (if (some d1).isSome = true then (1 : Int32) else 0) = nI 1 from rfl]
                    rw [plD_s k1, dgI_s k1] at hP hD
                    obtain ⟨b1_k1, b2_k1, -, -⟩ := dg_le k1
                    refine lv_if_eq (tgt := 349) hx hb dX9_part_342 (by decide) (fun c_342 => absurd c_342 (by decide +kernel)) (fun _ => ?_)
                    refine lv_iconst (v := (nI 1)) hx hb dX9_part_345 (by decide) ?_
                    refine lv_goto (tgt := 350) hx hb dX9_part_346 (by decide) ?_
                    refine lv_istore_n (lv' := [(2, .int (nI 1)), (0, .ref mr), (1, .int (nI 0))]) hx hb dX9_part_350 rfl hl (by decide) rfl (fun ls hl => ?_)
                    refine lv_iload_n hx hb dX9_part_351 rfl (lv_at hl 0 rfl) ?_
                    refine lv_if_eq (tgt := 374) hx hb dX9_part_352 (by decide) (fun c_352 => absurd c_352 (by decide +kernel)) (fun _ => ?_)
                    refine lv_iload_n hx hb dX9_part_355 rfl (lv_at hl 2 rfl) ?_
                    refine lv_if_eq (tgt := 374) hx hb dX9_part_356 (by decide) (fun _ => ?_) (fun c_356 => absurd (by decide +kernel) c_356)
                    refine lv_iload_n hx hb dX9_part_374 rfl (lv_at hl 0 rfl) ?_
                    exact ct_z ((nI d1)) hx hb hr hlocks (by first | (rw [rpP_s (by omega) (by omega) (by omega) (by omega), rpS_1 k1, hsP_f (by omega), vsP_f (by omega)]; exact hP) | (rw [rpP_s (by omega) (by omega) (by omega) (by omega), rpS_2 k1, hsP_f (by omega), vsP_f (by omega)]; exact hP) | (rw [rpP_n (by omega) (by omega) (by omega) (by omega), hsP_f (by omega), vsP_f (by omega)]; exact hP)) hS (by first | (rw [rpP_s (by omega) (by omega) (by omega) (by omega), rpS_1 k1]; rfl) | (rw [rpP_s (by omega) (by omega) (by omega) (by omega), rpS_2 k1]; rfl) | (rw [rpP_n (by omega) (by omega) (by omega) (by omega)]; rfl)) dX9_part_375
                · skip
                  rw [show (if (pl < L ∧ X pl = 115) then (1 : Int32) else 0) = nI 0 from if_neg (fun z => q_328 z.2)]
                  rw [if_neg (show ¬ (pl < L ∧ X pl = 115) from fun z => q_328 z.2)] at hP hD
                  refine lv_if_eq (tgt := 349) hx hb dX9_part_328 (by decide) (fun _ => ?_) (fun c_328 => absurd (by decide +kernel) c_328)
                  refine lv_iconst (v := (nI 0)) hx hb dX9_part_349 (by decide) ?_
                  refine lv_istore_n (lv' := [(2, .int (nI 0)), (0, .ref mr), (1, .int (nI 0))]) hx hb dX9_part_350 rfl hl (by decide) rfl (fun ls hl => ?_)
                  refine lv_iload_n hx hb dX9_part_351 rfl (lv_at hl 0 rfl) ?_
                  refine lv_if_eq (tgt := 374) hx hb dX9_part_352 (by decide) (fun _ => ?_) (fun c_352 => absurd (by decide +kernel) c_352)
                  refine lv_iload_n hx hb dX9_part_374 rfl (lv_at hl 0 rfl) ?_
                  exact ct_z (dg0) hx hb hr hlocks (by first | (rw [rpP_s (by omega) (by omega) (by omega) (by omega), rpS_1 k1, hsP_f (by omega), vsP_f (by omega)]; exact hP) | (rw [rpP_s (by omega) (by omega) (by omega) (by omega), rpS_2 k1, hsP_f (by omega), vsP_f (by omega)]; exact hP) | (rw [rpP_n (by omega) (by omega) (by omega) (by omega), hsP_f (by omega), vsP_f (by omega)]; exact hP)) hS (by first | (rw [rpP_s (by omega) (by omega) (by omega) (by omega), rpS_1 k1]; rfl) | (rw [rpP_s (by omega) (by omega) (by omega) (by omega), rpS_2 k1]; rfl) | (rw [rpP_n (by omega) (by omega) (by omega) (by omega)]; rfl)) dX9_part_375
            · skip
              replace c_211 := cn_nle (b := 0) (by omega) (by omega) c_211
              refine lv_aload_n hx hb dX9_part_214 rfl (lv_at hl 0 rfl) ?_
              refine lv_bipush (v := (nI 108)) hx hb dX9_part_215 (by decide) ?_
              refine gp_V (ci := 9) (q0 := 0) (cq := (RX9, TX9, 15)) (c_X9_letter l D cI cZ cF cL mr rf st L th pl hs vs dg0 xx X 108 hL hXt hpp (by decide)) (gUV u_262 u_263 u_264 u_5 u_265) rfl hdV_X9_letter ⟨Nat.le_of_ble_eq_true rfl, Nat.le_of_ble_eq_true rfl⟩ ⟨rfl, rfl⟩ hx hb hml hown hts hK hA hP hD hS hl.1 ⟨Nat.le_of_ble_eq_true rfl, Nat.le_of_ble_eq_true rfl⟩ rfl rfl rfl (wr := ([] : va_W)) (pm_cnt (fun _ => by simp only [List.countP_append, List.countP_nil, fT] <;> omega)) (fun _ => by simp only [List.map_append, List.map_nil, fX_m, bX_m, sX_m, pX_m, iaX_m, r5X_m, r6X_m, fT_m, hX_m, tX_m, xX_m, sgX_m, zaX_m, fsB_a, qX_m, mX_m]) (rest := []) rfl rfl (Nat.le_of_ble_eq_true rfl) dX9_part_217 (ws2 := (fun _ : Unit => (mX mr rf st L th (if (pl < L ∧ X pl = 108) then pl + 1 else pl) hs vs dg0 xx ++ iaX cI (rf 5) 120 X))) (fun _ => (pm_cnt (fun _ => by simp only [List.countP_append, List.countP_nil, fT] <;> omega))) (fun _ Hp locs hP hD hS => ?_)
              by_cases q_220 : X pl = 108
              · skip
                rw [show (if (pl < L ∧ X pl = 108) then (1 : Int32) else 0) = nI 1 from if_pos ⟨hpl, q_220⟩]
                rw [if_pos (⟨hpl, q_220⟩ : (pl < L ∧ X pl = 108))] at hP hD
                refine lv_if_eq (tgt := 315) hx hb dX9_part_220 (by decide) (fun c_220 => absurd c_220 (by decide +kernel)) (fun _ => ?_)
                refine lv_aload_n hx hb dX9_part_223 rfl (lv_at hl 0 rfl) ?_
                refine lv_iconst (v := (nI 0)) hx hb dX9_part_224 (by decide) ?_
                refine lv_aload_n hx hb dX9_part_225 rfl (lv_at hl 0 rfl) ?_
                refine gf_n (C := RX9) (T := TX9) (N := 15) (ci := 9) (q0 := 0) (v := .int (nI hs)) hx hb hts (iU inlX9) hown hK hP rfl rfl 11 (by decide) (kU u_260) rfl rfl dX9_part_226 ?_
                refine lv_iconst (v := (nI 1)) hx hb dX9_part_229 (by decide) ?_
                refine lv_isub hx hb dX9_part_230 ?_
                rw [pk_sub (a := hs) (b := 1) (by omega)]
                refine gp_V (ci := 9) (q0 := 0) (cq := (RX9, TX9, 15)) (c_X9_digitTo l D cI cZ cF cL mr rf st L th (pl + 1) hs vs dg0 xx X 0 (hs - 1) hL hXt (by omega) (by omega) (by omega)) (gUV u_271 u_272 u_273 u_5 u_274) rfl hdV_X9_digitTo ⟨Nat.le_of_ble_eq_true rfl, Nat.le_of_ble_eq_true rfl⟩ ⟨rfl, rfl⟩ hx hb hml hown hts hK hA hP hD hS hl.1 ⟨Nat.le_of_ble_eq_true rfl, Nat.le_of_ble_eq_true rfl⟩ rfl rfl rfl (wr := ([] : va_W)) (pm_cnt (fun _ => by simp only [List.countP_append, List.countP_nil, fT] <;> omega)) (fun _ => by simp only [List.map_append, List.map_nil, fX_m, bX_m, sX_m, pX_m, iaX_m, r5X_m, r6X_m, fT_m, hX_m, tX_m, xX_m, sgX_m, zaX_m, fsB_a, qX_m, mX_m]) (rest := []) rfl rfl (Nat.le_of_ble_eq_true rfl) dX9_part_231 (ws2 := (fun _ : Unit => (mX mr rf st L th (plD X L (pl + 1) 0 (hs - 1)) hs vs (dgI X L (pl + 1)) xx ++ iaX cI (rf 5) 120 X))) (fun _ => (pm_cnt (fun _ => by simp only [List.countP_append, List.countP_nil, fT] <;> omega))) (fun _ Hp locs hP hD hS => ?_)
                rcases k1 : dg X L (pl + 1) 0 (hs - 1) with _ | d1
                · skip
                  rw [show (if (none : Option Nat).isSome = true then (1 : Int32) else 0) = nI 0 from rfl]
                  rw [plD_n k1] at hP hD
                  refine lv_istore_n (lv' := [(2, .int (nI 0)), (0, .ref mr), (1, .int (nI 0))]) hx hb dX9_part_234 rfl hl (by decide) rfl (fun ls hl => ?_)
                  refine lv_aload_n hx hb dX9_part_235 rfl (lv_at hl 1 rfl) ?_
                  refine gf_n (C := RX9) (T := TX9) (N := 15) (ci := 9) (q0 := 0) (v := .int (dgI X L (pl + 1))) hx hb hts (iU inlX9) hown hK hP rfl rfl 13 (by decide) (kU u_270) rfl rfl dX9_part_236 ?_
                  refine lv_istore_n (lv' := [(3, .int (dgI X L (pl + 1))), (2, .int (nI 0)), (0, .ref mr), (1, .int (nI 0))]) hx hb dX9_part_239 rfl hl (by decide) rfl (fun ls hl => ?_)
                  refine lv_iload_n hx hb dX9_part_240 rfl (lv_at hl 1 rfl) ?_
                  refine lv_if_eq (tgt := 262) hx hb dX9_part_241 (by decide) (fun _ => ?_) (fun c_241 => absurd (by decide +kernel) c_241)
                  refine lv_iconst (v := (nI 0)) hx hb dX9_part_262 (by decide) ?_
                  refine lv_istore_n (lv' := [(2, .int (nI 0)), (3, .int (dgI X L (pl + 1))), (0, .ref mr), (1, .int (nI 0))]) hx hb dX9_part_263 rfl hl (by decide) rfl (fun ls hl => ?_)
                  refine lv_aload_n hx hb dX9_part_264 rfl (lv_at hl 2 rfl) ?_
                  refine gf_n (C := RX9) (T := TX9) (N := 15) (ci := 9) (q0 := 0) (v := .int (dgI X L (pl + 1))) hx hb hts (iU inlX9) hown hK hP rfl rfl 13 (by decide) (kU u_270) rfl rfl dX9_part_265 ?_
                  refine lv_istore (lv' := [(4, .int (dgI X L (pl + 1))), (2, .int (nI 0)), (3, .int (dgI X L (pl + 1))), (0, .ref mr), (1, .int (nI 0))]) hx hb dX9_part_268 hl (by decide) rfl (fun ls hl => ?_)
                  refine lv_iload_n hx hb dX9_part_270 rfl (lv_at hl 1 rfl) ?_
                  refine lv_if_eq (tgt := 288) hx hb dX9_part_271 (by decide) (fun _ => ?_) (fun c_271 => absurd (by decide +kernel) c_271)
                  refine lv_iconst (v := (nI 0)) hx hb dX9_part_288 (by decide) ?_
                  refine lv_istore_n (lv' := [(2, .int (nI 0)), (4, .int (dgI X L (pl + 1))), (3, .int (dgI X L (pl + 1))), (0, .ref mr), (1, .int (nI 0))]) hx hb dX9_part_289 rfl hl (by decide) rfl (fun ls hl => ?_)
                  refine lv_iload_n hx hb dX9_part_290 rfl (lv_at hl 0 rfl) ?_
                  refine lv_if_eq (tgt := 313) hx hb dX9_part_291 (by decide) (fun _ => ?_) (fun c_291 => absurd (by decide +kernel) c_291)
                  refine lv_iload_n hx hb dX9_part_313 rfl (lv_at hl 0 rfl) ?_
                  exact ct_z ((dgI X L (pl + 1))) hx hb hr hlocks (by first | (rw [rpP_l (by omega) (by omega) (by omega), rpL_1 k1, hsP_f (by omega), vsP_f (by omega)]; exact hP) | (rw [rpP_l (by omega) (by omega) (by omega), rpL_2 k1 k2, hsP_f (by omega), vsP_f (by omega)]; exact hP) | (rw [rpP_l (by omega) (by omega) (by omega), rpL_3 k1 k2 k3, hsP_f (by omega), vsP_f (by omega)]; exact hP) | (rw [rpP_l (by omega) (by omega) (by omega), rpL_4 k1 k2 k3, hsP_f (by omega), vsP_f (by omega)]; exact hP)) hS (by first | (rw [rpP_l (by omega) (by omega) (by omega), rpL_1 k1]; rfl) | (rw [rpP_l (by omega) (by omega) (by omega), rpL_2 k1 k2]; rfl) | (rw [rpP_l (by omega) (by omega) (by omega), rpL_3 k1 k2 k3]; rfl) | (rw [rpP_l (by omega) (by omega) (by omega), rpL_4 k1 k2 k3]; rfl)) dX9_part_314
                · skip
                  rw [show (if (some d1).isSome = true then (1 : Int32) else 0) = nI 1 from rfl]
                  rw [plD_s k1, dgI_s k1] at hP hD
                  obtain ⟨b1_k1, b2_k1, -, -⟩ := dg_le k1
                  refine lv_istore_n (lv' := [(2, .int (nI 1)), (0, .ref mr), (1, .int (nI 0))]) hx hb dX9_part_234 rfl hl (by decide) rfl (fun ls hl => ?_)
                  refine lv_aload_n hx hb dX9_part_235 rfl (lv_at hl 1 rfl) ?_
                  refine gf_n (C := RX9) (T := TX9) (N := 15) (ci := 9) (q0 := 0) (v := .int (nI d1)) hx hb hts (iU inlX9) hown hK hP rfl rfl 13 (by decide) (kU u_270) rfl rfl dX9_part_236 ?_
                  refine lv_istore_n (lv' := [(3, .int (nI d1)), (2, .int (nI 1)), (0, .ref mr), (1, .int (nI 0))]) hx hb dX9_part_239 rfl hl (by decide) rfl (fun ls hl => ?_)
                  refine lv_iload_n hx hb dX9_part_240 rfl (lv_at hl 1 rfl) ?_
                  refine lv_if_eq (tgt := 262) hx hb dX9_part_241 (by decide) (fun c_241 => absurd c_241 (by decide +kernel)) (fun _ => ?_)
                  refine lv_aload_n hx hb dX9_part_244 rfl (lv_at hl 2 rfl) ?_
                  refine lv_iconst (v := (nI 0)) hx hb dX9_part_245 (by decide) ?_
                  refine lv_aload_n hx hb dX9_part_246 rfl (lv_at hl 2 rfl) ?_
                  refine gf_n (C := RX9) (T := TX9) (N := 15) (ci := 9) (q0 := 0) (v := .int (nI vs)) hx hb hts (iU inlX9) hown hK hP rfl rfl 12 (by decide) (kU u_261) rfl rfl dX9_part_247 ?_
                  refine lv_iconst (v := (nI 1)) hx hb dX9_part_250 (by decide) ?_
                  refine lv_isub hx hb dX9_part_251 ?_
                  rw [pk_sub (a := vs) (b := 1) (by omega)]
                  refine gp_V (ci := 9) (q0 := 0) (cq := (RX9, TX9, 15)) (c_X9_digitTo l D cI cZ cF cL mr rf st L th (pl + 1 + 1) hs vs ((nI d1)) xx X 0 (vs - 1) hL hXt (by omega) (by omega) (by omega)) (gUV u_271 u_272 u_273 u_5 u_274) rfl hdV_X9_digitTo ⟨Nat.le_of_ble_eq_true rfl, Nat.le_of_ble_eq_true rfl⟩ ⟨rfl, rfl⟩ hx hb hml hown hts hK hA hP hD hS hl.1 ⟨Nat.le_of_ble_eq_true rfl, Nat.le_of_ble_eq_true rfl⟩ rfl rfl rfl (wr := ([] : va_W)) (pm_cnt (fun _ => by simp only [List.countP_append, List.countP_nil, fT] <;> omega)) (fun _ => by simp only [List.map_append, List.map_nil, fX_m, bX_m, sX_m, pX_m, iaX_m, r5X_m, r6X_m, fT_m, hX_m, tX_m, xX_m, sgX_m, zaX_m, fsB_a, qX_m, mX_m]) (rest := []) rfl rfl (Nat.le_of_ble_eq_true rfl) dX9_part_252 (ws2 := (fun _ : Unit => (mX mr rf st L th (plD X L (pl + 1 + 1) 0 (vs - 1)) hs vs (dgI X L (pl + 1 + 1)) xx ++ iaX cI (rf 5) 120 X))) (fun _ => (pm_cnt (fun _ => by simp only [List.countP_append, List.countP_nil, fT] <;> omega))) (fun _ Hp locs hP hD hS => ?_)
                  rcases k2 : dg X L ((pl + 1) + 1) 0 (vs - 1) with _ | d2
                  · skip
                    rw [show (if (none : Option Nat).isSome = true then (1 : Int32) else 0) = nI 0 from rfl]
                    rw [plD_n k2] at hP hD
                    refine lv_if_eq (tgt := 262) hx hb dX9_part_255 (by decide) (fun _ => ?_) (fun c_255 => absurd (by decide +kernel) c_255)
                    refine lv_iconst (v := (nI 0)) hx hb dX9_part_262 (by decide) ?_
                    refine lv_istore_n (lv' := [(2, .int (nI 0)), (3, .int (nI d1)), (0, .ref mr), (1, .int (nI 0))]) hx hb dX9_part_263 rfl hl (by decide) rfl (fun ls hl => ?_)
                    refine lv_aload_n hx hb dX9_part_264 rfl (lv_at hl 2 rfl) ?_
                    refine gf_n (C := RX9) (T := TX9) (N := 15) (ci := 9) (q0 := 0) (v := .int (dgI X L (pl + 1 + 1))) hx hb hts (iU inlX9) hown hK hP rfl rfl 13 (by decide) (kU u_270) rfl rfl dX9_part_265 ?_
                    refine lv_istore (lv' := [(4, .int (dgI X L (pl + 1 + 1))), (2, .int (nI 0)), (3, .int (nI d1)), (0, .ref mr), (1, .int (nI 0))]) hx hb dX9_part_268 hl (by decide) rfl (fun ls hl => ?_)
                    refine lv_iload_n hx hb dX9_part_270 rfl (lv_at hl 1 rfl) ?_
                    refine lv_if_eq (tgt := 288) hx hb dX9_part_271 (by decide) (fun _ => ?_) (fun c_271 => absurd (by decide +kernel) c_271)
                    refine lv_iconst (v := (nI 0)) hx hb dX9_part_288 (by decide) ?_
                    refine lv_istore_n (lv' := [(2, .int (nI 0)), (4, .int (dgI X L (pl + 1 + 1))), (3, .int (nI d1)), (0, .ref mr), (1, .int (nI 0))]) hx hb dX9_part_289 rfl hl (by decide) rfl (fun ls hl => ?_)
                    refine lv_iload_n hx hb dX9_part_290 rfl (lv_at hl 0 rfl) ?_
                    refine lv_if_eq (tgt := 313) hx hb dX9_part_291 (by decide) (fun _ => ?_) (fun c_291 => absurd (by decide +kernel) c_291)
                    refine lv_iload_n hx hb dX9_part_313 rfl (lv_at hl 0 rfl) ?_
                    exact ct_z ((dgI X L (pl + 1 + 1))) hx hb hr hlocks (by first | (rw [rpP_l (by omega) (by omega) (by omega), rpL_1 k1, hsP_f (by omega), vsP_f (by omega)]; exact hP) | (rw [rpP_l (by omega) (by omega) (by omega), rpL_2 k1 k2, hsP_f (by omega), vsP_f (by omega)]; exact hP) | (rw [rpP_l (by omega) (by omega) (by omega), rpL_3 k1 k2 k3, hsP_f (by omega), vsP_f (by omega)]; exact hP) | (rw [rpP_l (by omega) (by omega) (by omega), rpL_4 k1 k2 k3, hsP_f (by omega), vsP_f (by omega)]; exact hP)) hS (by first | (rw [rpP_l (by omega) (by omega) (by omega), rpL_1 k1]; rfl) | (rw [rpP_l (by omega) (by omega) (by omega), rpL_2 k1 k2]; rfl) | (rw [rpP_l (by omega) (by omega) (by omega), rpL_3 k1 k2 k3]; rfl) | (rw [rpP_l (by omega) (by omega) (by omega), rpL_4 k1 k2 k3]; rfl)) dX9_part_314
                  · skip
                    rw [show (if (some d2).isSome = true then (1 : Int32) else 0) = nI 1 from rfl]
                    rw [plD_s k2, dgI_s k2] at hP hD
                    obtain ⟨b1_k2, b2_k2, -, -⟩ := dg_le k2
                    refine lv_if_eq (tgt := 262) hx hb dX9_part_255 (by decide) (fun c_255 => absurd c_255 (by decide +kernel)) (fun _ => ?_)
                    refine lv_iconst (v := (nI 1)) hx hb dX9_part_258 (by decide) ?_
                    refine lv_goto (tgt := 263) hx hb dX9_part_259 (by decide) ?_
                    refine lv_istore_n (lv' := [(2, .int (nI 1)), (3, .int (nI d1)), (0, .ref mr), (1, .int (nI 0))]) hx hb dX9_part_263 rfl hl (by decide) rfl (fun ls hl => ?_)
                    refine lv_aload_n hx hb dX9_part_264 rfl (lv_at hl 2 rfl) ?_
                    refine gf_n (C := RX9) (T := TX9) (N := 15) (ci := 9) (q0 := 0) (v := .int (nI d2)) hx hb hts (iU inlX9) hown hK hP rfl rfl 13 (by decide) (kU u_270) rfl rfl dX9_part_265 ?_
                    refine lv_istore (lv' := [(4, .int (nI d2)), (2, .int (nI 1)), (3, .int (nI d1)), (0, .ref mr), (1, .int (nI 0))]) hx hb dX9_part_268 hl (by decide) rfl (fun ls hl => ?_)
                    refine lv_iload_n hx hb dX9_part_270 rfl (lv_at hl 1 rfl) ?_
                    refine lv_if_eq (tgt := 288) hx hb dX9_part_271 (by decide) (fun c_271 => absurd c_271 (by decide +kernel)) (fun _ => ?_)
                    refine lv_aload_n hx hb dX9_part_274 rfl (lv_at hl 3 rfl) ?_
                    refine lv_iconst (v := (nI 0)) hx hb dX9_part_275 (by decide) ?_
                    refine lv_bipush (v := (nI 9)) hx hb dX9_part_276 (by decide) ?_
                    refine gp_V (ci := 9) (q0 := 0) (cq := (RX9, TX9, 15)) (c_X9_digitTo l D cI cZ cF cL mr rf st L th ((pl + 1) + 1 + 1) hs vs ((nI d2)) xx X 0 9 hL hXt (by omega) (by omega) (by omega)) (gUV u_271 u_272 u_273 u_5 u_274) rfl hdV_X9_digitTo ⟨Nat.le_of_ble_eq_true rfl, Nat.le_of_ble_eq_true rfl⟩ ⟨rfl, rfl⟩ hx hb hml hown hts hK hA hP hD hS hl.1 ⟨Nat.le_of_ble_eq_true rfl, Nat.le_of_ble_eq_true rfl⟩ rfl rfl rfl (wr := ([] : va_W)) (pm_cnt (fun _ => by simp only [List.countP_append, List.countP_nil, fT] <;> omega)) (fun _ => by simp only [List.map_append, List.map_nil, fX_m, bX_m, sX_m, pX_m, iaX_m, r5X_m, r6X_m, fT_m, hX_m, tX_m, xX_m, sgX_m, zaX_m, fsB_a, qX_m, mX_m]) (rest := []) rfl rfl (Nat.le_of_ble_eq_true rfl) dX9_part_278 (ws2 := (fun _ : Unit => (mX mr rf st L th (plD X L ((pl + 1) + 1 + 1) 0 9) hs vs (dgI X L ((pl + 1) + 1 + 1)) xx ++ iaX cI (rf 5) 120 X))) (fun _ => (pm_cnt (fun _ => by simp only [List.countP_append, List.countP_nil, fT] <;> omega))) (fun _ Hp locs hP hD hS => ?_)
                    rcases k3 : dg X L (((pl + 1) + 1) + 1) 0 9 with _ | d3
                    · skip
                      rw [show (if (none : Option Nat).isSome = true then (1 : Int32) else 0) = nI 0 from rfl]
                      rw [plD_n k3] at hP hD
                      refine lv_if_eq (tgt := 288) hx hb dX9_part_281 (by decide) (fun _ => ?_) (fun c_281 => absurd (by decide +kernel) c_281)
                      refine lv_iconst (v := (nI 0)) hx hb dX9_part_288 (by decide) ?_
                      refine lv_istore_n (lv' := [(2, .int (nI 0)), (4, .int (nI d2)), (3, .int (nI d1)), (0, .ref mr), (1, .int (nI 0))]) hx hb dX9_part_289 rfl hl (by decide) rfl (fun ls hl => ?_)
                      refine lv_iload_n hx hb dX9_part_290 rfl (lv_at hl 0 rfl) ?_
                      refine lv_if_eq (tgt := 313) hx hb dX9_part_291 (by decide) (fun _ => ?_) (fun c_291 => absurd (by decide +kernel) c_291)
                      refine lv_iload_n hx hb dX9_part_313 rfl (lv_at hl 0 rfl) ?_
                      exact ct_z ((dgI X L ((pl + 1) + 1 + 1))) hx hb hr hlocks (by first | (rw [rpP_l (by omega) (by omega) (by omega), rpL_1 k1, hsP_f (by omega), vsP_f (by omega)]; exact hP) | (rw [rpP_l (by omega) (by omega) (by omega), rpL_2 k1 k2, hsP_f (by omega), vsP_f (by omega)]; exact hP) | (rw [rpP_l (by omega) (by omega) (by omega), rpL_3 k1 k2 k3, hsP_f (by omega), vsP_f (by omega)]; exact hP) | (rw [rpP_l (by omega) (by omega) (by omega), rpL_4 k1 k2 k3, hsP_f (by omega), vsP_f (by omega)]; exact hP)) hS (by first | (rw [rpP_l (by omega) (by omega) (by omega), rpL_1 k1]; rfl) | (rw [rpP_l (by omega) (by omega) (by omega), rpL_2 k1 k2]; rfl) | (rw [rpP_l (by omega) (by omega) (by omega), rpL_3 k1 k2 k3]; rfl) | (rw [rpP_l (by omega) (by omega) (by omega), rpL_4 k1 k2 k3]; rfl)) dX9_part_314
                    · skip
                      rw [show (if (some d3).isSome = true then (1 : Int32) else 0) = nI 1 from rfl]
                      rw [plD_s k3, dgI_s k3] at hP hD
                      obtain ⟨b1_k3, b2_k3, -, -⟩ := dg_le k3
                      refine lv_if_eq (tgt := 288) hx hb dX9_part_281 (by decide) (fun c_281 => absurd c_281 (by decide +kernel)) (fun _ => ?_)
                      refine lv_iconst (v := (nI 1)) hx hb dX9_part_284 (by decide) ?_
                      refine lv_goto (tgt := 289) hx hb dX9_part_285 (by decide) ?_
                      refine lv_istore_n (lv' := [(2, .int (nI 1)), (4, .int (nI d2)), (3, .int (nI d1)), (0, .ref mr), (1, .int (nI 0))]) hx hb dX9_part_289 rfl hl (by decide) rfl (fun ls hl => ?_)
                      refine lv_iload_n hx hb dX9_part_290 rfl (lv_at hl 0 rfl) ?_
                      refine lv_if_eq (tgt := 313) hx hb dX9_part_291 (by decide) (fun c_291 => absurd c_291 (by decide +kernel)) (fun _ => ?_)
                      refine lv_iload_n hx hb dX9_part_294 rfl (lv_at hl 4 rfl) ?_
                      refine lv_if_eq (tgt := 313) hx hb dX9_part_295 (by decide) (fun _ => ?_) (fun c_295 => absurd (by decide +kernel) c_295)
                      refine lv_iload_n hx hb dX9_part_313 rfl (lv_at hl 0 rfl) ?_
                      exact ct_z ((nI d3)) hx hb hr hlocks (by first | (rw [rpP_l (by omega) (by omega) (by omega), rpL_1 k1, hsP_f (by omega), vsP_f (by omega)]; exact hP) | (rw [rpP_l (by omega) (by omega) (by omega), rpL_2 k1 k2, hsP_f (by omega), vsP_f (by omega)]; exact hP) | (rw [rpP_l (by omega) (by omega) (by omega), rpL_3 k1 k2 k3, hsP_f (by omega), vsP_f (by omega)]; exact hP) | (rw [rpP_l (by omega) (by omega) (by omega), rpL_4 k1 k2 k3, hsP_f (by omega), vsP_f (by omega)]; exact hP)) hS (by first | (rw [rpP_l (by omega) (by omega) (by omega), rpL_1 k1]; rfl) | (rw [rpP_l (by omega) (by omega) (by omega), rpL_2 k1 k2]; rfl) | (rw [rpP_l (by omega) (by omega) (by omega), rpL_3 k1 k2 k3]; rfl) | (rw [rpP_l (by omega) (by omega) (by omega), rpL_4 k1 k2 k3]; rfl)) dX9_part_314
              · skip
                rw [show (if (pl < L ∧ X pl = 108) then (1 : Int32) else 0) = nI 0 from if_neg (fun z => q_220 z.2)]
                rw [if_neg (show ¬ (pl < L ∧ X pl = 108) from fun z => q_220 z.2)] at hP hD
                refine lv_if_eq (tgt := 315) hx hb dX9_part_220 (by decide) (fun _ => ?_) (fun c_220 => absurd (by decide +kernel) c_220)
                refine lv_aload_n hx hb dX9_part_315 rfl (lv_at hl 0 rfl) ?_
                refine gf_n (C := RX9) (T := TX9) (N := 15) (ci := 9) (q0 := 0) (v := .int (nI hs)) hx hb hts (iU inlX9) hown hK hP rfl rfl 11 (by decide) (kU u_260) rfl rfl dX9_part_316 ?_
                refine lv_if_le (tgt := 349) hx hb dX9_part_319 (by decide) (fun c_319 => ?_) (fun c_319 => ?_)
                · skip
                  replace c_319 := cn_le (b := 0) (by omega) (by omega) c_319
                  refine lv_iconst (v := (nI 0)) hx hb dX9_part_349 (by decide) ?_
                  refine lv_istore_n (lv' := [(2, .int (nI 0)), (0, .ref mr), (1, .int (nI 0))]) hx hb dX9_part_350 rfl hl (by decide) rfl (fun ls hl => ?_)
                  refine lv_iload_n hx hb dX9_part_351 rfl (lv_at hl 0 rfl) ?_
                  refine lv_if_eq (tgt := 374) hx hb dX9_part_352 (by decide) (fun _ => ?_) (fun c_352 => absurd (by decide +kernel) c_352)
                  refine lv_iload_n hx hb dX9_part_374 rfl (lv_at hl 0 rfl) ?_
                  exact ct_z (dg0) hx hb hr hlocks (by first | (rw [rpP_s (by omega) (by omega) (by omega) (by omega), rpS_1 k1, hsP_f (by omega), vsP_f (by omega)]; exact hP) | (rw [rpP_s (by omega) (by omega) (by omega) (by omega), rpS_2 k1, hsP_f (by omega), vsP_f (by omega)]; exact hP) | (rw [rpP_n (by omega) (by omega) (by omega) (by omega), hsP_f (by omega), vsP_f (by omega)]; exact hP)) hS (by first | (rw [rpP_s (by omega) (by omega) (by omega) (by omega), rpS_1 k1]; rfl) | (rw [rpP_s (by omega) (by omega) (by omega) (by omega), rpS_2 k1]; rfl) | (rw [rpP_n (by omega) (by omega) (by omega) (by omega)]; rfl)) dX9_part_375
                · skip
                  replace c_319 := cn_nle (b := 0) (by omega) (by omega) c_319
                  refine lv_aload_n hx hb dX9_part_322 rfl (lv_at hl 0 rfl) ?_
                  refine lv_bipush (v := (nI 115)) hx hb dX9_part_323 (by decide) ?_
                  refine gp_V (ci := 9) (q0 := 0) (cq := (RX9, TX9, 15)) (c_X9_letter l D cI cZ cF cL mr rf st L th pl hs vs dg0 xx X 115 hL hXt hpp (by decide)) (gUV u_262 u_263 u_264 u_5 u_265) rfl hdV_X9_letter ⟨Nat.le_of_ble_eq_true rfl, Nat.le_of_ble_eq_true rfl⟩ ⟨rfl, rfl⟩ hx hb hml hown hts hK hA hP hD hS hl.1 ⟨Nat.le_of_ble_eq_true rfl, Nat.le_of_ble_eq_true rfl⟩ rfl rfl rfl (wr := ([] : va_W)) (pm_cnt (fun _ => by simp only [List.countP_append, List.countP_nil, fT] <;> omega)) (fun _ => by simp only [List.map_append, List.map_nil, fX_m, bX_m, sX_m, pX_m, iaX_m, r5X_m, r6X_m, fT_m, hX_m, tX_m, xX_m, sgX_m, zaX_m, fsB_a, qX_m, mX_m]) (rest := []) rfl rfl (Nat.le_of_ble_eq_true rfl) dX9_part_325 (ws2 := (fun _ : Unit => (mX mr rf st L th (if (pl < L ∧ X pl = 115) then pl + 1 else pl) hs vs dg0 xx ++ iaX cI (rf 5) 120 X))) (fun _ => (pm_cnt (fun _ => by simp only [List.countP_append, List.countP_nil, fT] <;> omega))) (fun _ Hp locs hP hD hS => ?_)
                  by_cases q_328 : X pl = 115
                  · skip
                    rw [show (if (pl < L ∧ X pl = 115) then (1 : Int32) else 0) = nI 1 from if_pos ⟨hpl, q_328⟩]
                    rw [if_pos (⟨hpl, q_328⟩ : (pl < L ∧ X pl = 115))] at hP hD
                    refine lv_if_eq (tgt := 349) hx hb dX9_part_328 (by decide) (fun c_328 => absurd c_328 (by decide +kernel)) (fun _ => ?_)
                    refine lv_aload_n hx hb dX9_part_331 rfl (lv_at hl 0 rfl) ?_
                    refine lv_iconst (v := (nI 0)) hx hb dX9_part_332 (by decide) ?_
                    refine lv_aload_n hx hb dX9_part_333 rfl (lv_at hl 0 rfl) ?_
                    refine gf_n (C := RX9) (T := TX9) (N := 15) (ci := 9) (q0 := 0) (v := .int (nI hs)) hx hb hts (iU inlX9) hown hK hP rfl rfl 11 (by decide) (kU u_260) rfl rfl dX9_part_334 ?_
                    refine lv_iconst (v := (nI 1)) hx hb dX9_part_337 (by decide) ?_
                    refine lv_isub hx hb dX9_part_338 ?_
                    rw [pk_sub (a := hs) (b := 1) (by omega)]
                    refine gp_V (ci := 9) (q0 := 0) (cq := (RX9, TX9, 15)) (c_X9_digitTo l D cI cZ cF cL mr rf st L th (pl + 1) hs vs dg0 xx X 0 (hs - 1) hL hXt (by omega) (by omega) (by omega)) (gUV u_271 u_272 u_273 u_5 u_274) rfl hdV_X9_digitTo ⟨Nat.le_of_ble_eq_true rfl, Nat.le_of_ble_eq_true rfl⟩ ⟨rfl, rfl⟩ hx hb hml hown hts hK hA hP hD hS hl.1 ⟨Nat.le_of_ble_eq_true rfl, Nat.le_of_ble_eq_true rfl⟩ rfl rfl rfl (wr := ([] : va_W)) (pm_cnt (fun _ => by simp only [List.countP_append, List.countP_nil, fT] <;> omega)) (fun _ => by simp only [List.map_append, List.map_nil, fX_m, bX_m, sX_m, pX_m, iaX_m, r5X_m, r6X_m, fT_m, hX_m, tX_m, xX_m, sgX_m, zaX_m, fsB_a, qX_m, mX_m]) (rest := []) rfl rfl (Nat.le_of_ble_eq_true rfl) dX9_part_339 (ws2 := (fun _ : Unit => (mX mr rf st L th (plD X L (pl + 1) 0 (hs - 1)) hs vs (dgI X L (pl + 1)) xx ++ iaX cI (rf 5) 120 X))) (fun _ => (pm_cnt (fun _ => by simp only [List.countP_append, List.countP_nil, fT] <;> omega))) (fun _ Hp locs hP hD hS => ?_)
                    rcases k1 : dg X L (pl + 1) 0 (hs - 1) with _ | d1
                    · skip
                      rw [show (if (none : Option Nat).isSome = true then (1 : Int32) else 0) = nI 0 from rfl]
                      rw [plD_n k1] at hP hD
                      refine lv_if_eq (tgt := 349) hx hb dX9_part_342 (by decide) (fun _ => ?_) (fun c_342 => absurd (by decide +kernel) c_342)
                      refine lv_iconst (v := (nI 0)) hx hb dX9_part_349 (by decide) ?_
                      refine lv_istore_n (lv' := [(2, .int (nI 0)), (0, .ref mr), (1, .int (nI 0))]) hx hb dX9_part_350 rfl hl (by decide) rfl (fun ls hl => ?_)
                      refine lv_iload_n hx hb dX9_part_351 rfl (lv_at hl 0 rfl) ?_
                      refine lv_if_eq (tgt := 374) hx hb dX9_part_352 (by decide) (fun _ => ?_) (fun c_352 => absurd (by decide +kernel) c_352)
                      refine lv_iload_n hx hb dX9_part_374 rfl (lv_at hl 0 rfl) ?_
                      exact ct_z ((dgI X L (pl + 1))) hx hb hr hlocks (by first | (rw [rpP_s (by omega) (by omega) (by omega) (by omega), rpS_1 k1, hsP_f (by omega), vsP_f (by omega)]; exact hP) | (rw [rpP_s (by omega) (by omega) (by omega) (by omega), rpS_2 k1, hsP_f (by omega), vsP_f (by omega)]; exact hP) | (rw [rpP_n (by omega) (by omega) (by omega) (by omega), hsP_f (by omega), vsP_f (by omega)]; exact hP)) hS (by first | (rw [rpP_s (by omega) (by omega) (by omega) (by omega), rpS_1 k1]; rfl) | (rw [rpP_s (by omega) (by omega) (by omega) (by omega), rpS_2 k1]; rfl) | (rw [rpP_n (by omega) (by omega) (by omega) (by omega)]; rfl)) dX9_part_375
                    · skip
                      rw [show (if (some d1).isSome = true then (1 : Int32) else 0) = nI 1 from rfl]
                      rw [plD_s k1, dgI_s k1] at hP hD
                      obtain ⟨b1_k1, b2_k1, -, -⟩ := dg_le k1
                      refine lv_if_eq (tgt := 349) hx hb dX9_part_342 (by decide) (fun c_342 => absurd c_342 (by decide +kernel)) (fun _ => ?_)
                      refine lv_iconst (v := (nI 1)) hx hb dX9_part_345 (by decide) ?_
                      refine lv_goto (tgt := 350) hx hb dX9_part_346 (by decide) ?_
                      refine lv_istore_n (lv' := [(2, .int (nI 1)), (0, .ref mr), (1, .int (nI 0))]) hx hb dX9_part_350 rfl hl (by decide) rfl (fun ls hl => ?_)
                      refine lv_iload_n hx hb dX9_part_351 rfl (lv_at hl 0 rfl) ?_
                      refine lv_if_eq (tgt := 374) hx hb dX9_part_352 (by decide) (fun c_352 => absurd c_352 (by decide +kernel)) (fun _ => ?_)
                      refine lv_iload_n hx hb dX9_part_355 rfl (lv_at hl 2 rfl) ?_
                      refine lv_if_eq (tgt := 374) hx hb dX9_part_356 (by decide) (fun _ => ?_) (fun c_356 => absurd (by decide +kernel) c_356)
                      refine lv_iload_n hx hb dX9_part_374 rfl (lv_at hl 0 rfl) ?_
                      exact ct_z ((nI d1)) hx hb hr hlocks (by first | (rw [rpP_s (by omega) (by omega) (by omega) (by omega), rpS_1 k1, hsP_f (by omega), vsP_f (by omega)]; exact hP) | (rw [rpP_s (by omega) (by omega) (by omega) (by omega), rpS_2 k1, hsP_f (by omega), vsP_f (by omega)]; exact hP) | (rw [rpP_n (by omega) (by omega) (by omega) (by omega), hsP_f (by omega), vsP_f (by omega)]; exact hP)) hS (by first | (rw [rpP_s (by omega) (by omega) (by omega) (by omega), rpS_1 k1]; rfl) | (rw [rpP_s (by omega) (by omega) (by omega) (by omega), rpS_2 k1]; rfl) | (rw [rpP_n (by omega) (by omega) (by omega) (by omega)]; rfl)) dX9_part_375
                  · skip
                    rw [show (if (pl < L ∧ X pl = 115) then (1 : Int32) else 0) = nI 0 from if_neg (fun z => q_328 z.2)]
                    rw [if_neg (show ¬ (pl < L ∧ X pl = 115) from fun z => q_328 z.2)] at hP hD
                    refine lv_if_eq (tgt := 349) hx hb dX9_part_328 (by decide) (fun _ => ?_) (fun c_328 => absurd (by decide +kernel) c_328)
                    refine lv_iconst (v := (nI 0)) hx hb dX9_part_349 (by decide) ?_
                    refine lv_istore_n (lv' := [(2, .int (nI 0)), (0, .ref mr), (1, .int (nI 0))]) hx hb dX9_part_350 rfl hl (by decide) rfl (fun ls hl => ?_)
                    refine lv_iload_n hx hb dX9_part_351 rfl (lv_at hl 0 rfl) ?_
                    refine lv_if_eq (tgt := 374) hx hb dX9_part_352 (by decide) (fun _ => ?_) (fun c_352 => absurd (by decide +kernel) c_352)
                    refine lv_iload_n hx hb dX9_part_374 rfl (lv_at hl 0 rfl) ?_
                    exact ct_z (dg0) hx hb hr hlocks (by first | (rw [rpP_s (by omega) (by omega) (by omega) (by omega), rpS_1 k1, hsP_f (by omega), vsP_f (by omega)]; exact hP) | (rw [rpP_s (by omega) (by omega) (by omega) (by omega), rpS_2 k1, hsP_f (by omega), vsP_f (by omega)]; exact hP) | (rw [rpP_n (by omega) (by omega) (by omega) (by omega), hsP_f (by omega), vsP_f (by omega)]; exact hP)) hS (by first | (rw [rpP_s (by omega) (by omega) (by omega) (by omega), rpS_1 k1]; rfl) | (rw [rpP_s (by omega) (by omega) (by omega) (by omega), rpS_2 k1]; rfl) | (rw [rpP_n (by omega) (by omega) (by omega) (by omega)]; rfl)) dX9_part_375
set_option maxHeartbeats 4000000 in
set_option maxRecDepth 100000 in
theorem c_X9_part1 (l : Launch) (D : va_G) (cI cZ cF cL : ClassId) (mr : Nat) (rf : Nat → Nat) (st L th pl hs vs : Nat) (dg0 : Int32) (xx : Int64) (X : Nat → Nat) (nH nV wk ea gi sw : Nat) (f1 f2 f3 f4 f5 f6 f7 f8 : Nat → Nat) (hL : L ≤ 120) (hXt : ∀ k, k < 120 → X k < 256) (hpp : pl < 2 ^ 20) (hpl : pl < L) (hH : hs ≤ 6) (hV : vs ≤ 5) (hok : (rpP X L pl hs vs f1 f2 f4 f5 f7).1 = true) : CT l D (tysX cI cZ cF cL) yX9_part (wA yX9_part cX9_part 5 (some .boolean)) (rmF 2 45) [.ref mr, .int (nI 1)] (mX mr rf st L th pl hs vs dg0 xx ++ iaX cI (rf 5) 120 X ++ qX cI (rf 0) nH nV wk ea gi sw f1 f2 f3 f4 f5 f6 f7 f8) (some (.int (if ((rpP X L pl hs vs f1 f2 f4 f5 f7).1 = true) then 1 else 0))) (fun u : Int32 => (mX mr rf st L th ((rpP X L pl hs vs f1 f2 f4 f5 f7).2.1) (hsP X pl hs) (vsP X pl vs) u xx ++ iaX cI (rf 5) 120 X ++ qX cI (rf 0) nH nV wk ea gi sw ((rpP X L pl hs vs f1 f2 f4 f5 f7).2.2.2.2.1) ((rpP X L pl hs vs f1 f2 f4 f5 f7).2.2.2.2.2.1) f3 ((rpP X L pl hs vs f1 f2 f4 f5 f7).2.2.2.2.2.2.1) ((rpP X L pl hs vs f1 f2 f4 f5 f7).2.2.2.2.2.2.2.1) f6 ((rpP X L pl hs vs f1 f2 f4 f5 f7).2.2.2.2.2.2.2.2) f8)) := by
  refine ct_in (cc := cX9_part) (maxL := 5) (ret := (some .boolean)) (own := RX9) (lv := [(0, .ref mr), (1, .int (nI 1))]) (by decide +kernel) rfl rfl (Nat.le_of_ble_eq_true rfl) rfl ?_
  intro p e s m args below meth c A ls hx hb hr hml hts hown hlocks hK hA hP hD hS hl
  refine lv_aload_n hx hb dX9_part_0 rfl (lv_at hl 0 rfl) ?_
  refine gf_n (C := RX9) (T := TX9) (N := 15) (ci := 9) (q0 := 0) (v := .int (nI hs)) hx hb hts (iU inlX9) hown hK hP rfl rfl 11 (by decide) (kU u_260) rfl rfl dX9_part_1 ?_
  refine lv_bipush (v := (nI 6)) hx hb dX9_part_4 (by decide) ?_
  refine lv_icmp_ge (tgt := 101) hx hb dX9_part_6 (by decide) (fun c_6 => ?_) (fun c_6 => ?_)
  · skip
    replace c_6 := cn_le (by omega) (by omega) c_6
    refine lv_aload_n hx hb dX9_part_101 rfl (lv_at hl 0 rfl) ?_
    refine gf_n (C := RX9) (T := TX9) (N := 15) (ci := 9) (q0 := 0) (v := .int (nI vs)) hx hb hts (iU inlX9) hown hK hP rfl rfl 12 (by decide) (kU u_261) rfl rfl dX9_part_102 ?_
    refine lv_iconst (v := (nI 5)) hx hb dX9_part_105 (by decide) ?_
    refine lv_icmp_ge (tgt := 200) hx hb dX9_part_106 (by decide) (fun c_106 => ?_) (fun c_106 => ?_)
    · skip
      replace c_106 := cn_le (by omega) (by omega) c_106
      refine lv_aload_n hx hb dX9_part_200 rfl (lv_at hl 0 rfl) ?_
      refine gf_n (C := RX9) (T := TX9) (N := 15) (ci := 9) (q0 := 0) (v := .int (nI hs)) hx hb hts (iU inlX9) hown hK hP rfl rfl 11 (by decide) (kU u_260) rfl rfl dX9_part_201 ?_
      refine lv_if_le (tgt := 315) hx hb dX9_part_204 (by decide) (fun c_204 => ?_) (fun c_204 => ?_)
      · skip
        replace c_204 := cn_le (b := 0) (by omega) (by omega) c_204
        refine lv_aload_n hx hb dX9_part_315 rfl (lv_at hl 0 rfl) ?_
        refine gf_n (C := RX9) (T := TX9) (N := 15) (ci := 9) (q0 := 0) (v := .int (nI hs)) hx hb hts (iU inlX9) hown hK hP rfl rfl 11 (by decide) (kU u_260) rfl rfl dX9_part_316 ?_
        refine lv_if_le (tgt := 349) hx hb dX9_part_319 (by decide) (fun c_319 => ?_) (fun c_319 => ?_)
        · skip
          replace c_319 := cn_le (b := 0) (by omega) (by omega) c_319
          exfalso; rw [rpP_n (by omega) (by omega) (by omega) (by omega)] at hok; cases hok
        · skip
          replace c_319 := cn_nle (b := 0) (by omega) (by omega) c_319
          refine lv_aload_n hx hb dX9_part_322 rfl (lv_at hl 0 rfl) ?_
          refine lv_bipush (v := (nI 115)) hx hb dX9_part_323 (by decide) ?_
          refine gp_V (ci := 9) (q0 := 0) (cq := (RX9, TX9, 15)) (c_X9_letter l D cI cZ cF cL mr rf st L th pl hs vs dg0 xx X 115 hL hXt hpp (by decide)) (gUV u_262 u_263 u_264 u_5 u_265) rfl hdV_X9_letter ⟨Nat.le_of_ble_eq_true rfl, Nat.le_of_ble_eq_true rfl⟩ ⟨rfl, rfl⟩ hx hb hml hown hts hK hA hP hD hS hl.1 ⟨Nat.le_of_ble_eq_true rfl, Nat.le_of_ble_eq_true rfl⟩ rfl rfl rfl (wr := (qX cI (rf 0) nH nV wk ea gi sw f1 f2 f3 f4 f5 f6 f7 f8)) (pm_cnt (fun _ => by simp only [List.countP_append, List.countP_nil, fT] <;> omega)) (fun _ => by simp only [List.map_append, List.map_nil, fX_m, bX_m, sX_m, pX_m, iaX_m, r5X_m, r6X_m, fT_m, hX_m, tX_m, xX_m, sgX_m, zaX_m, fsB_a, qX_m, mX_m]) (rest := []) rfl rfl (Nat.le_of_ble_eq_true rfl) dX9_part_325 (ws2 := (fun _ : Unit => (mX mr rf st L th (if (pl < L ∧ X pl = 115) then pl + 1 else pl) hs vs dg0 xx ++ iaX cI (rf 5) 120 X ++ qX cI (rf 0) nH nV wk ea gi sw f1 f2 f3 f4 f5 f6 f7 f8))) (fun _ => (pm_cnt (fun _ => by simp only [List.countP_append, List.countP_nil, fT] <;> omega))) (fun _ Hp locs hP hD hS => ?_)
          by_cases q_328 : X pl = 115
          · skip
            rw [show (if (pl < L ∧ X pl = 115) then (1 : Int32) else 0) = nI 1 from if_pos ⟨hpl, q_328⟩]
            rw [if_pos (⟨hpl, q_328⟩ : (pl < L ∧ X pl = 115))] at hP hD
            refine lv_if_eq (tgt := 349) hx hb dX9_part_328 (by decide) (fun c_328 => absurd c_328 (by decide +kernel)) (fun _ => ?_)
            refine lv_aload_n hx hb dX9_part_331 rfl (lv_at hl 0 rfl) ?_
            refine lv_iconst (v := (nI 0)) hx hb dX9_part_332 (by decide) ?_
            refine lv_aload_n hx hb dX9_part_333 rfl (lv_at hl 0 rfl) ?_
            refine gf_n (C := RX9) (T := TX9) (N := 15) (ci := 9) (q0 := 0) (v := .int (nI hs)) hx hb hts (iU inlX9) hown hK hP rfl rfl 11 (by decide) (kU u_260) rfl rfl dX9_part_334 ?_
            refine lv_iconst (v := (nI 1)) hx hb dX9_part_337 (by decide) ?_
            refine lv_isub hx hb dX9_part_338 ?_
            rw [pk_sub (a := hs) (b := 1) (by omega)]
            refine gp_V (ci := 9) (q0 := 0) (cq := (RX9, TX9, 15)) (c_X9_digitTo l D cI cZ cF cL mr rf st L th (pl + 1) hs vs dg0 xx X 0 (hs - 1) hL hXt (by omega) (by omega) (by omega)) (gUV u_271 u_272 u_273 u_5 u_274) rfl hdV_X9_digitTo ⟨Nat.le_of_ble_eq_true rfl, Nat.le_of_ble_eq_true rfl⟩ ⟨rfl, rfl⟩ hx hb hml hown hts hK hA hP hD hS hl.1 ⟨Nat.le_of_ble_eq_true rfl, Nat.le_of_ble_eq_true rfl⟩ rfl rfl rfl (wr := (qX cI (rf 0) nH nV wk ea gi sw f1 f2 f3 f4 f5 f6 f7 f8)) (pm_cnt (fun _ => by simp only [List.countP_append, List.countP_nil, fT] <;> omega)) (fun _ => by simp only [List.map_append, List.map_nil, fX_m, bX_m, sX_m, pX_m, iaX_m, r5X_m, r6X_m, fT_m, hX_m, tX_m, xX_m, sgX_m, zaX_m, fsB_a, qX_m, mX_m]) (rest := []) rfl rfl (Nat.le_of_ble_eq_true rfl) dX9_part_339 (ws2 := (fun _ : Unit => (mX mr rf st L th (plD X L (pl + 1) 0 (hs - 1)) hs vs (dgI X L (pl + 1)) xx ++ iaX cI (rf 5) 120 X ++ qX cI (rf 0) nH nV wk ea gi sw f1 f2 f3 f4 f5 f6 f7 f8))) (fun _ => (pm_cnt (fun _ => by simp only [List.countP_append, List.countP_nil, fT] <;> omega))) (fun _ Hp locs hP hD hS => ?_)
            rcases k1 : dg X L (pl + 1) 0 (hs - 1) with _ | d1
            · skip
              exfalso; rw [rpP_s (by omega) (by omega) (by omega) (by omega), rpS_1 k1] at hok; cases hok
            · skip
              rw [show (if (some d1).isSome = true then (1 : Int32) else 0) = nI 1 from rfl]
              rw [plD_s k1, dgI_s k1] at hP hD
              obtain ⟨b1_k1, b2_k1, -, -⟩ := dg_le k1
              refine lv_if_eq (tgt := 349) hx hb dX9_part_342 (by decide) (fun c_342 => absurd c_342 (by decide +kernel)) (fun _ => ?_)
              refine lv_iconst (v := (nI 1)) hx hb dX9_part_345 (by decide) ?_
              refine lv_goto (tgt := 350) hx hb dX9_part_346 (by decide) ?_
              refine lv_istore_n (lv' := [(2, .int (nI 1)), (0, .ref mr), (1, .int (nI 1))]) hx hb dX9_part_350 rfl hl (by decide) rfl (fun ls hl => ?_)
              refine lv_iload_n hx hb dX9_part_351 rfl (lv_at hl 0 rfl) ?_
              refine lv_if_eq (tgt := 374) hx hb dX9_part_352 (by decide) (fun c_352 => absurd c_352 (by decide +kernel)) (fun _ => ?_)
              refine lv_iload_n hx hb dX9_part_355 rfl (lv_at hl 2 rfl) ?_
              refine lv_if_eq (tgt := 374) hx hb dX9_part_356 (by decide) (fun c_356 => absurd c_356 (by decide +kernel)) (fun _ => ?_)
              refine lv_aload_n hx hb dX9_part_359 rfl (lv_at hl 1 rfl) ?_
              refine gf_n (C := RX9) (T := TX9) (N := 15) (ci := 9) (q0 := 0) (v := .ref (rf 0)) hx hb hts (iU inlX9) hown hK hP rfl rfl 0 (by decide) (kU u_129) rfl rfl dX9_part_360 ?_
              refine lv_aload_n hx hb dX9_part_363 rfl (lv_at hl 1 rfl) ?_
              refine gf_n (C := RX9) (T := TX9) (N := 15) (ci := 9) (q0 := 0) (v := .int (nI d1)) hx hb hts (iU inlX9) hown hK hP rfl rfl 13 (by decide) (kU u_270) rfl rfl dX9_part_364 ?_
              refine gp_S (c_X9_size l D cI cZ cF cL d1 ) (gUS u_275 u_276 u_5 u_277) rfl hdS_X9_size ⟨Nat.le_of_ble_eq_true rfl, Nat.le_of_ble_eq_true rfl⟩ ⟨rfl, rfl⟩ hx hb hml hown hts hK hA hP hD hS hl.1 ⟨Nat.le_of_ble_eq_true rfl, Nat.le_of_ble_eq_true rfl⟩ (wr := (mX mr rf st L th (pl + 1 + 1) hs vs (nI d1) xx ++ iaX cI (rf 5) 120 X ++ qX cI (rf 0) nH nV wk ea gi sw f1 f2 f3 f4 f5 f6 f7 f8)) (pm_cnt (fun _ => by simp only [List.countP_append, List.countP_nil, fT] <;> omega)) (fun _ => by simp only [List.map_append, List.map_nil, fX_m, bX_m, sX_m, pX_m, iaX_m, r5X_m, r6X_m, fT_m, hX_m, tX_m, xX_m, sgX_m, zaX_m, fsB_a, qX_m, mX_m]) (rest := [.ref (rf 0)]) rfl rfl (Nat.le_of_ble_eq_true rfl) dX9_part_367 (ws2 := (fun _ : Unit => (mX mr rf st L th (pl + 1 + 1) hs vs (nI d1) xx ++ iaX cI (rf 5) 120 X ++ qX cI (rf 0) nH nV wk ea gi sw f1 f2 f3 f4 f5 f6 f7 f8))) (fun _ => (pm_cnt (fun _ => by simp only [List.countP_append, List.countP_nil, fT] <;> omega))) (fun _ Hp locs hP hD hS => ?_)
              refine lv_iconst (v := (nI 3)) hx hb dX9_part_370 (by decide) ?_
              refine lv_iadd hx hb dX9_part_371 ?_
              rw [nI_add (6 + 4 * d1) 3]
              refine lv_iconst (v := (nI 1)) hx hb dX9_part_372 (by decide) ?_
              refine is_n (q0 := 2) (t0 := 0) (ws2 := (mX mr rf st L th (pl + 1 + 1) hs vs (nI d1) xx ++ iaX cI (rf 5) 120 X ++ qX cI (rf 0) nH nV wk ea gi sw f1 f2 f3 (va_up f4 d1 1) f5 f6 f7 f8)) hx hb hK hP hD hS rfl rfl (by omega) (by decide) dX9_part_373 (by rw [qU_4 (by omega)]; rfl) (fun Hp locs hP hD hS => ?_)
              refine lv_iload_n hx hb dX9_part_374 rfl (lv_at hl 0 rfl) ?_
              exact ct_z ((nI d1)) hx hb hr hlocks (by first | (rw [rpP_s (by omega) (by omega) (by omega) (by omega), rpS_1 k1, hsP_f (by omega), vsP_f (by omega)]; exact hP) | (rw [rpP_s (by omega) (by omega) (by omega) (by omega), rpS_2 k1, hsP_f (by omega), vsP_f (by omega)]; exact hP)) hS (by first | (rw [rpP_s (by omega) (by omega) (by omega) (by omega), rpS_1 k1]; rfl) | (rw [rpP_s (by omega) (by omega) (by omega) (by omega), rpS_2 k1]; rfl)) dX9_part_375
          · skip
            rw [show (if (pl < L ∧ X pl = 115) then (1 : Int32) else 0) = nI 0 from if_neg (fun z => q_328 z.2)]
            rw [if_neg (show ¬ (pl < L ∧ X pl = 115) from fun z => q_328 z.2)] at hP hD
            refine lv_if_eq (tgt := 349) hx hb dX9_part_328 (by decide) (fun _ => ?_) (fun c_328 => absurd (by decide +kernel) c_328)
            exfalso; rw [rpP_n (by omega) (by omega) (by omega) (by omega)] at hok; cases hok
      · skip
        replace c_204 := cn_nle (b := 0) (by omega) (by omega) c_204
        refine lv_aload_n hx hb dX9_part_207 rfl (lv_at hl 0 rfl) ?_
        refine gf_n (C := RX9) (T := TX9) (N := 15) (ci := 9) (q0 := 0) (v := .int (nI vs)) hx hb hts (iU inlX9) hown hK hP rfl rfl 12 (by decide) (kU u_261) rfl rfl dX9_part_208 ?_
        refine lv_if_le (tgt := 315) hx hb dX9_part_211 (by decide) (fun c_211 => ?_) (fun c_211 => ?_)
        · skip
          replace c_211 := cn_le (b := 0) (by omega) (by omega) c_211
          refine lv_aload_n hx hb dX9_part_315 rfl (lv_at hl 0 rfl) ?_
          refine gf_n (C := RX9) (T := TX9) (N := 15) (ci := 9) (q0 := 0) (v := .int (nI hs)) hx hb hts (iU inlX9) hown hK hP rfl rfl 11 (by decide) (kU u_260) rfl rfl dX9_part_316 ?_
          refine lv_if_le (tgt := 349) hx hb dX9_part_319 (by decide) (fun c_319 => ?_) (fun c_319 => ?_)
          · skip
            replace c_319 := cn_le (b := 0) (by omega) (by omega) c_319
            exfalso; rw [rpP_n (by omega) (by omega) (by omega) (by omega)] at hok; cases hok
          · skip
            replace c_319 := cn_nle (b := 0) (by omega) (by omega) c_319
            refine lv_aload_n hx hb dX9_part_322 rfl (lv_at hl 0 rfl) ?_
            refine lv_bipush (v := (nI 115)) hx hb dX9_part_323 (by decide) ?_
            refine gp_V (ci := 9) (q0 := 0) (cq := (RX9, TX9, 15)) (c_X9_letter l D cI cZ cF cL mr rf st L th pl hs vs dg0 xx X 115 hL hXt hpp (by decide)) (gUV u_262 u_263 u_264 u_5 u_265) rfl hdV_X9_letter ⟨Nat.le_of_ble_eq_true rfl, Nat.le_of_ble_eq_true rfl⟩ ⟨rfl, rfl⟩ hx hb hml hown hts hK hA hP hD hS hl.1 ⟨Nat.le_of_ble_eq_true rfl, Nat.le_of_ble_eq_true rfl⟩ rfl rfl rfl (wr := (qX cI (rf 0) nH nV wk ea gi sw f1 f2 f3 f4 f5 f6 f7 f8)) (pm_cnt (fun _ => by simp only [List.countP_append, List.countP_nil, fT] <;> omega)) (fun _ => by simp only [List.map_append, List.map_nil, fX_m, bX_m, sX_m, pX_m, iaX_m, r5X_m, r6X_m, fT_m, hX_m, tX_m, xX_m, sgX_m, zaX_m, fsB_a, qX_m, mX_m]) (rest := []) rfl rfl (Nat.le_of_ble_eq_true rfl) dX9_part_325 (ws2 := (fun _ : Unit => (mX mr rf st L th (if (pl < L ∧ X pl = 115) then pl + 1 else pl) hs vs dg0 xx ++ iaX cI (rf 5) 120 X ++ qX cI (rf 0) nH nV wk ea gi sw f1 f2 f3 f4 f5 f6 f7 f8))) (fun _ => (pm_cnt (fun _ => by simp only [List.countP_append, List.countP_nil, fT] <;> omega))) (fun _ Hp locs hP hD hS => ?_)
            by_cases q_328 : X pl = 115
            · skip
              rw [show (if (pl < L ∧ X pl = 115) then (1 : Int32) else 0) = nI 1 from if_pos ⟨hpl, q_328⟩]
              rw [if_pos (⟨hpl, q_328⟩ : (pl < L ∧ X pl = 115))] at hP hD
              refine lv_if_eq (tgt := 349) hx hb dX9_part_328 (by decide) (fun c_328 => absurd c_328 (by decide +kernel)) (fun _ => ?_)
              refine lv_aload_n hx hb dX9_part_331 rfl (lv_at hl 0 rfl) ?_
              refine lv_iconst (v := (nI 0)) hx hb dX9_part_332 (by decide) ?_
              refine lv_aload_n hx hb dX9_part_333 rfl (lv_at hl 0 rfl) ?_
              refine gf_n (C := RX9) (T := TX9) (N := 15) (ci := 9) (q0 := 0) (v := .int (nI hs)) hx hb hts (iU inlX9) hown hK hP rfl rfl 11 (by decide) (kU u_260) rfl rfl dX9_part_334 ?_
              refine lv_iconst (v := (nI 1)) hx hb dX9_part_337 (by decide) ?_
              refine lv_isub hx hb dX9_part_338 ?_
              rw [pk_sub (a := hs) (b := 1) (by omega)]
              refine gp_V (ci := 9) (q0 := 0) (cq := (RX9, TX9, 15)) (c_X9_digitTo l D cI cZ cF cL mr rf st L th (pl + 1) hs vs dg0 xx X 0 (hs - 1) hL hXt (by omega) (by omega) (by omega)) (gUV u_271 u_272 u_273 u_5 u_274) rfl hdV_X9_digitTo ⟨Nat.le_of_ble_eq_true rfl, Nat.le_of_ble_eq_true rfl⟩ ⟨rfl, rfl⟩ hx hb hml hown hts hK hA hP hD hS hl.1 ⟨Nat.le_of_ble_eq_true rfl, Nat.le_of_ble_eq_true rfl⟩ rfl rfl rfl (wr := (qX cI (rf 0) nH nV wk ea gi sw f1 f2 f3 f4 f5 f6 f7 f8)) (pm_cnt (fun _ => by simp only [List.countP_append, List.countP_nil, fT] <;> omega)) (fun _ => by simp only [List.map_append, List.map_nil, fX_m, bX_m, sX_m, pX_m, iaX_m, r5X_m, r6X_m, fT_m, hX_m, tX_m, xX_m, sgX_m, zaX_m, fsB_a, qX_m, mX_m]) (rest := []) rfl rfl (Nat.le_of_ble_eq_true rfl) dX9_part_339 (ws2 := (fun _ : Unit => (mX mr rf st L th (plD X L (pl + 1) 0 (hs - 1)) hs vs (dgI X L (pl + 1)) xx ++ iaX cI (rf 5) 120 X ++ qX cI (rf 0) nH nV wk ea gi sw f1 f2 f3 f4 f5 f6 f7 f8))) (fun _ => (pm_cnt (fun _ => by simp only [List.countP_append, List.countP_nil, fT] <;> omega))) (fun _ Hp locs hP hD hS => ?_)
              rcases k1 : dg X L (pl + 1) 0 (hs - 1) with _ | d1
              · skip
                exfalso; rw [rpP_s (by omega) (by omega) (by omega) (by omega), rpS_1 k1] at hok; cases hok
              · skip
                rw [show (if (some d1).isSome = true then (1 : Int32) else 0) = nI 1 from rfl]
                rw [plD_s k1, dgI_s k1] at hP hD
                obtain ⟨b1_k1, b2_k1, -, -⟩ := dg_le k1
                refine lv_if_eq (tgt := 349) hx hb dX9_part_342 (by decide) (fun c_342 => absurd c_342 (by decide +kernel)) (fun _ => ?_)
                refine lv_iconst (v := (nI 1)) hx hb dX9_part_345 (by decide) ?_
                refine lv_goto (tgt := 350) hx hb dX9_part_346 (by decide) ?_
                refine lv_istore_n (lv' := [(2, .int (nI 1)), (0, .ref mr), (1, .int (nI 1))]) hx hb dX9_part_350 rfl hl (by decide) rfl (fun ls hl => ?_)
                refine lv_iload_n hx hb dX9_part_351 rfl (lv_at hl 0 rfl) ?_
                refine lv_if_eq (tgt := 374) hx hb dX9_part_352 (by decide) (fun c_352 => absurd c_352 (by decide +kernel)) (fun _ => ?_)
                refine lv_iload_n hx hb dX9_part_355 rfl (lv_at hl 2 rfl) ?_
                refine lv_if_eq (tgt := 374) hx hb dX9_part_356 (by decide) (fun c_356 => absurd c_356 (by decide +kernel)) (fun _ => ?_)
                refine lv_aload_n hx hb dX9_part_359 rfl (lv_at hl 1 rfl) ?_
                refine gf_n (C := RX9) (T := TX9) (N := 15) (ci := 9) (q0 := 0) (v := .ref (rf 0)) hx hb hts (iU inlX9) hown hK hP rfl rfl 0 (by decide) (kU u_129) rfl rfl dX9_part_360 ?_
                refine lv_aload_n hx hb dX9_part_363 rfl (lv_at hl 1 rfl) ?_
                refine gf_n (C := RX9) (T := TX9) (N := 15) (ci := 9) (q0 := 0) (v := .int (nI d1)) hx hb hts (iU inlX9) hown hK hP rfl rfl 13 (by decide) (kU u_270) rfl rfl dX9_part_364 ?_
                refine gp_S (c_X9_size l D cI cZ cF cL d1 ) (gUS u_275 u_276 u_5 u_277) rfl hdS_X9_size ⟨Nat.le_of_ble_eq_true rfl, Nat.le_of_ble_eq_true rfl⟩ ⟨rfl, rfl⟩ hx hb hml hown hts hK hA hP hD hS hl.1 ⟨Nat.le_of_ble_eq_true rfl, Nat.le_of_ble_eq_true rfl⟩ (wr := (mX mr rf st L th (pl + 1 + 1) hs vs (nI d1) xx ++ iaX cI (rf 5) 120 X ++ qX cI (rf 0) nH nV wk ea gi sw f1 f2 f3 f4 f5 f6 f7 f8)) (pm_cnt (fun _ => by simp only [List.countP_append, List.countP_nil, fT] <;> omega)) (fun _ => by simp only [List.map_append, List.map_nil, fX_m, bX_m, sX_m, pX_m, iaX_m, r5X_m, r6X_m, fT_m, hX_m, tX_m, xX_m, sgX_m, zaX_m, fsB_a, qX_m, mX_m]) (rest := [.ref (rf 0)]) rfl rfl (Nat.le_of_ble_eq_true rfl) dX9_part_367 (ws2 := (fun _ : Unit => (mX mr rf st L th (pl + 1 + 1) hs vs (nI d1) xx ++ iaX cI (rf 5) 120 X ++ qX cI (rf 0) nH nV wk ea gi sw f1 f2 f3 f4 f5 f6 f7 f8))) (fun _ => (pm_cnt (fun _ => by simp only [List.countP_append, List.countP_nil, fT] <;> omega))) (fun _ Hp locs hP hD hS => ?_)
                refine lv_iconst (v := (nI 3)) hx hb dX9_part_370 (by decide) ?_
                refine lv_iadd hx hb dX9_part_371 ?_
                rw [nI_add (6 + 4 * d1) 3]
                refine lv_iconst (v := (nI 1)) hx hb dX9_part_372 (by decide) ?_
                refine is_n (q0 := 2) (t0 := 0) (ws2 := (mX mr rf st L th (pl + 1 + 1) hs vs (nI d1) xx ++ iaX cI (rf 5) 120 X ++ qX cI (rf 0) nH nV wk ea gi sw f1 f2 f3 (va_up f4 d1 1) f5 f6 f7 f8)) hx hb hK hP hD hS rfl rfl (by omega) (by decide) dX9_part_373 (by rw [qU_4 (by omega)]; rfl) (fun Hp locs hP hD hS => ?_)
                refine lv_iload_n hx hb dX9_part_374 rfl (lv_at hl 0 rfl) ?_
                exact ct_z ((nI d1)) hx hb hr hlocks (by first | (rw [rpP_s (by omega) (by omega) (by omega) (by omega), rpS_1 k1, hsP_f (by omega), vsP_f (by omega)]; exact hP) | (rw [rpP_s (by omega) (by omega) (by omega) (by omega), rpS_2 k1, hsP_f (by omega), vsP_f (by omega)]; exact hP)) hS (by first | (rw [rpP_s (by omega) (by omega) (by omega) (by omega), rpS_1 k1]; rfl) | (rw [rpP_s (by omega) (by omega) (by omega) (by omega), rpS_2 k1]; rfl)) dX9_part_375
            · skip
              rw [show (if (pl < L ∧ X pl = 115) then (1 : Int32) else 0) = nI 0 from if_neg (fun z => q_328 z.2)]
              rw [if_neg (show ¬ (pl < L ∧ X pl = 115) from fun z => q_328 z.2)] at hP hD
              refine lv_if_eq (tgt := 349) hx hb dX9_part_328 (by decide) (fun _ => ?_) (fun c_328 => absurd (by decide +kernel) c_328)
              exfalso; rw [rpP_n (by omega) (by omega) (by omega) (by omega)] at hok; cases hok
        · skip
          replace c_211 := cn_nle (b := 0) (by omega) (by omega) c_211
          refine lv_aload_n hx hb dX9_part_214 rfl (lv_at hl 0 rfl) ?_
          refine lv_bipush (v := (nI 108)) hx hb dX9_part_215 (by decide) ?_
          refine gp_V (ci := 9) (q0 := 0) (cq := (RX9, TX9, 15)) (c_X9_letter l D cI cZ cF cL mr rf st L th pl hs vs dg0 xx X 108 hL hXt hpp (by decide)) (gUV u_262 u_263 u_264 u_5 u_265) rfl hdV_X9_letter ⟨Nat.le_of_ble_eq_true rfl, Nat.le_of_ble_eq_true rfl⟩ ⟨rfl, rfl⟩ hx hb hml hown hts hK hA hP hD hS hl.1 ⟨Nat.le_of_ble_eq_true rfl, Nat.le_of_ble_eq_true rfl⟩ rfl rfl rfl (wr := (qX cI (rf 0) nH nV wk ea gi sw f1 f2 f3 f4 f5 f6 f7 f8)) (pm_cnt (fun _ => by simp only [List.countP_append, List.countP_nil, fT] <;> omega)) (fun _ => by simp only [List.map_append, List.map_nil, fX_m, bX_m, sX_m, pX_m, iaX_m, r5X_m, r6X_m, fT_m, hX_m, tX_m, xX_m, sgX_m, zaX_m, fsB_a, qX_m, mX_m]) (rest := []) rfl rfl (Nat.le_of_ble_eq_true rfl) dX9_part_217 (ws2 := (fun _ : Unit => (mX mr rf st L th (if (pl < L ∧ X pl = 108) then pl + 1 else pl) hs vs dg0 xx ++ iaX cI (rf 5) 120 X ++ qX cI (rf 0) nH nV wk ea gi sw f1 f2 f3 f4 f5 f6 f7 f8))) (fun _ => (pm_cnt (fun _ => by simp only [List.countP_append, List.countP_nil, fT] <;> omega))) (fun _ Hp locs hP hD hS => ?_)
          by_cases q_220 : X pl = 108
          · skip
            rw [show (if (pl < L ∧ X pl = 108) then (1 : Int32) else 0) = nI 1 from if_pos ⟨hpl, q_220⟩]
            rw [if_pos (⟨hpl, q_220⟩ : (pl < L ∧ X pl = 108))] at hP hD
            refine lv_if_eq (tgt := 315) hx hb dX9_part_220 (by decide) (fun c_220 => absurd c_220 (by decide +kernel)) (fun _ => ?_)
            refine lv_aload_n hx hb dX9_part_223 rfl (lv_at hl 0 rfl) ?_
            refine lv_iconst (v := (nI 0)) hx hb dX9_part_224 (by decide) ?_
            refine lv_aload_n hx hb dX9_part_225 rfl (lv_at hl 0 rfl) ?_
            refine gf_n (C := RX9) (T := TX9) (N := 15) (ci := 9) (q0 := 0) (v := .int (nI hs)) hx hb hts (iU inlX9) hown hK hP rfl rfl 11 (by decide) (kU u_260) rfl rfl dX9_part_226 ?_
            refine lv_iconst (v := (nI 1)) hx hb dX9_part_229 (by decide) ?_
            refine lv_isub hx hb dX9_part_230 ?_
            rw [pk_sub (a := hs) (b := 1) (by omega)]
            refine gp_V (ci := 9) (q0 := 0) (cq := (RX9, TX9, 15)) (c_X9_digitTo l D cI cZ cF cL mr rf st L th (pl + 1) hs vs dg0 xx X 0 (hs - 1) hL hXt (by omega) (by omega) (by omega)) (gUV u_271 u_272 u_273 u_5 u_274) rfl hdV_X9_digitTo ⟨Nat.le_of_ble_eq_true rfl, Nat.le_of_ble_eq_true rfl⟩ ⟨rfl, rfl⟩ hx hb hml hown hts hK hA hP hD hS hl.1 ⟨Nat.le_of_ble_eq_true rfl, Nat.le_of_ble_eq_true rfl⟩ rfl rfl rfl (wr := (qX cI (rf 0) nH nV wk ea gi sw f1 f2 f3 f4 f5 f6 f7 f8)) (pm_cnt (fun _ => by simp only [List.countP_append, List.countP_nil, fT] <;> omega)) (fun _ => by simp only [List.map_append, List.map_nil, fX_m, bX_m, sX_m, pX_m, iaX_m, r5X_m, r6X_m, fT_m, hX_m, tX_m, xX_m, sgX_m, zaX_m, fsB_a, qX_m, mX_m]) (rest := []) rfl rfl (Nat.le_of_ble_eq_true rfl) dX9_part_231 (ws2 := (fun _ : Unit => (mX mr rf st L th (plD X L (pl + 1) 0 (hs - 1)) hs vs (dgI X L (pl + 1)) xx ++ iaX cI (rf 5) 120 X ++ qX cI (rf 0) nH nV wk ea gi sw f1 f2 f3 f4 f5 f6 f7 f8))) (fun _ => (pm_cnt (fun _ => by simp only [List.countP_append, List.countP_nil, fT] <;> omega))) (fun _ Hp locs hP hD hS => ?_)
            rcases k1 : dg X L (pl + 1) 0 (hs - 1) with _ | d1
            · skip
              exfalso; rw [rpP_l (by omega) (by omega) (by omega), rpL_1 k1] at hok; cases hok
            · skip
              rw [show (if (some d1).isSome = true then (1 : Int32) else 0) = nI 1 from rfl]
              rw [plD_s k1, dgI_s k1] at hP hD
              obtain ⟨b1_k1, b2_k1, -, -⟩ := dg_le k1
              refine lv_istore_n (lv' := [(2, .int (nI 1)), (0, .ref mr), (1, .int (nI 1))]) hx hb dX9_part_234 rfl hl (by decide) rfl (fun ls hl => ?_)
              refine lv_aload_n hx hb dX9_part_235 rfl (lv_at hl 1 rfl) ?_
              refine gf_n (C := RX9) (T := TX9) (N := 15) (ci := 9) (q0 := 0) (v := .int (nI d1)) hx hb hts (iU inlX9) hown hK hP rfl rfl 13 (by decide) (kU u_270) rfl rfl dX9_part_236 ?_
              refine lv_istore_n (lv' := [(3, .int (nI d1)), (2, .int (nI 1)), (0, .ref mr), (1, .int (nI 1))]) hx hb dX9_part_239 rfl hl (by decide) rfl (fun ls hl => ?_)
              refine lv_iload_n hx hb dX9_part_240 rfl (lv_at hl 1 rfl) ?_
              refine lv_if_eq (tgt := 262) hx hb dX9_part_241 (by decide) (fun c_241 => absurd c_241 (by decide +kernel)) (fun _ => ?_)
              refine lv_aload_n hx hb dX9_part_244 rfl (lv_at hl 2 rfl) ?_
              refine lv_iconst (v := (nI 0)) hx hb dX9_part_245 (by decide) ?_
              refine lv_aload_n hx hb dX9_part_246 rfl (lv_at hl 2 rfl) ?_
              refine gf_n (C := RX9) (T := TX9) (N := 15) (ci := 9) (q0 := 0) (v := .int (nI vs)) hx hb hts (iU inlX9) hown hK hP rfl rfl 12 (by decide) (kU u_261) rfl rfl dX9_part_247 ?_
              refine lv_iconst (v := (nI 1)) hx hb dX9_part_250 (by decide) ?_
              refine lv_isub hx hb dX9_part_251 ?_
              rw [pk_sub (a := vs) (b := 1) (by omega)]
              refine gp_V (ci := 9) (q0 := 0) (cq := (RX9, TX9, 15)) (c_X9_digitTo l D cI cZ cF cL mr rf st L th (pl + 1 + 1) hs vs ((nI d1)) xx X 0 (vs - 1) hL hXt (by omega) (by omega) (by omega)) (gUV u_271 u_272 u_273 u_5 u_274) rfl hdV_X9_digitTo ⟨Nat.le_of_ble_eq_true rfl, Nat.le_of_ble_eq_true rfl⟩ ⟨rfl, rfl⟩ hx hb hml hown hts hK hA hP hD hS hl.1 ⟨Nat.le_of_ble_eq_true rfl, Nat.le_of_ble_eq_true rfl⟩ rfl rfl rfl (wr := (qX cI (rf 0) nH nV wk ea gi sw f1 f2 f3 f4 f5 f6 f7 f8)) (pm_cnt (fun _ => by simp only [List.countP_append, List.countP_nil, fT] <;> omega)) (fun _ => by simp only [List.map_append, List.map_nil, fX_m, bX_m, sX_m, pX_m, iaX_m, r5X_m, r6X_m, fT_m, hX_m, tX_m, xX_m, sgX_m, zaX_m, fsB_a, qX_m, mX_m]) (rest := []) rfl rfl (Nat.le_of_ble_eq_true rfl) dX9_part_252 (ws2 := (fun _ : Unit => (mX mr rf st L th (plD X L (pl + 1 + 1) 0 (vs - 1)) hs vs (dgI X L (pl + 1 + 1)) xx ++ iaX cI (rf 5) 120 X ++ qX cI (rf 0) nH nV wk ea gi sw f1 f2 f3 f4 f5 f6 f7 f8))) (fun _ => (pm_cnt (fun _ => by simp only [List.countP_append, List.countP_nil, fT] <;> omega))) (fun _ Hp locs hP hD hS => ?_)
              rcases k2 : dg X L ((pl + 1) + 1) 0 (vs - 1) with _ | d2
              · skip
                exfalso; rw [rpP_l (by omega) (by omega) (by omega), rpL_2 k1 k2] at hok; cases hok
              · skip
                rw [show (if (some d2).isSome = true then (1 : Int32) else 0) = nI 1 from rfl]
                rw [plD_s k2, dgI_s k2] at hP hD
                obtain ⟨b1_k2, b2_k2, -, -⟩ := dg_le k2
                refine lv_if_eq (tgt := 262) hx hb dX9_part_255 (by decide) (fun c_255 => absurd c_255 (by decide +kernel)) (fun _ => ?_)
                refine lv_iconst (v := (nI 1)) hx hb dX9_part_258 (by decide) ?_
                refine lv_goto (tgt := 263) hx hb dX9_part_259 (by decide) ?_
                refine lv_istore_n (lv' := [(2, .int (nI 1)), (3, .int (nI d1)), (0, .ref mr), (1, .int (nI 1))]) hx hb dX9_part_263 rfl hl (by decide) rfl (fun ls hl => ?_)
                refine lv_aload_n hx hb dX9_part_264 rfl (lv_at hl 2 rfl) ?_
                refine gf_n (C := RX9) (T := TX9) (N := 15) (ci := 9) (q0 := 0) (v := .int (nI d2)) hx hb hts (iU inlX9) hown hK hP rfl rfl 13 (by decide) (kU u_270) rfl rfl dX9_part_265 ?_
                refine lv_istore (lv' := [(4, .int (nI d2)), (2, .int (nI 1)), (3, .int (nI d1)), (0, .ref mr), (1, .int (nI 1))]) hx hb dX9_part_268 hl (by decide) rfl (fun ls hl => ?_)
                refine lv_iload_n hx hb dX9_part_270 rfl (lv_at hl 1 rfl) ?_
                refine lv_if_eq (tgt := 288) hx hb dX9_part_271 (by decide) (fun c_271 => absurd c_271 (by decide +kernel)) (fun _ => ?_)
                refine lv_aload_n hx hb dX9_part_274 rfl (lv_at hl 3 rfl) ?_
                refine lv_iconst (v := (nI 0)) hx hb dX9_part_275 (by decide) ?_
                refine lv_bipush (v := (nI 9)) hx hb dX9_part_276 (by decide) ?_
                refine gp_V (ci := 9) (q0 := 0) (cq := (RX9, TX9, 15)) (c_X9_digitTo l D cI cZ cF cL mr rf st L th ((pl + 1) + 1 + 1) hs vs ((nI d2)) xx X 0 9 hL hXt (by omega) (by omega) (by omega)) (gUV u_271 u_272 u_273 u_5 u_274) rfl hdV_X9_digitTo ⟨Nat.le_of_ble_eq_true rfl, Nat.le_of_ble_eq_true rfl⟩ ⟨rfl, rfl⟩ hx hb hml hown hts hK hA hP hD hS hl.1 ⟨Nat.le_of_ble_eq_true rfl, Nat.le_of_ble_eq_true rfl⟩ rfl rfl rfl (wr := (qX cI (rf 0) nH nV wk ea gi sw f1 f2 f3 f4 f5 f6 f7 f8)) (pm_cnt (fun _ => by simp only [List.countP_append, List.countP_nil, fT] <;> omega)) (fun _ => by simp only [List.map_append, List.map_nil, fX_m, bX_m, sX_m, pX_m, iaX_m, r5X_m, r6X_m, fT_m, hX_m, tX_m, xX_m, sgX_m, zaX_m, fsB_a, qX_m, mX_m]) (rest := []) rfl rfl (Nat.le_of_ble_eq_true rfl) dX9_part_278 (ws2 := (fun _ : Unit => (mX mr rf st L th (plD X L ((pl + 1) + 1 + 1) 0 9) hs vs (dgI X L ((pl + 1) + 1 + 1)) xx ++ iaX cI (rf 5) 120 X ++ qX cI (rf 0) nH nV wk ea gi sw f1 f2 f3 f4 f5 f6 f7 f8))) (fun _ => (pm_cnt (fun _ => by simp only [List.countP_append, List.countP_nil, fT] <;> omega))) (fun _ Hp locs hP hD hS => ?_)
                rcases k3 : dg X L (((pl + 1) + 1) + 1) 0 9 with _ | d3
                · skip
                  exfalso; rw [rpP_l (by omega) (by omega) (by omega), rpL_3 k1 k2 k3] at hok; cases hok
                · skip
                  rw [show (if (some d3).isSome = true then (1 : Int32) else 0) = nI 1 from rfl]
                  rw [plD_s k3, dgI_s k3] at hP hD
                  obtain ⟨b1_k3, b2_k3, -, -⟩ := dg_le k3
                  refine lv_if_eq (tgt := 288) hx hb dX9_part_281 (by decide) (fun c_281 => absurd c_281 (by decide +kernel)) (fun _ => ?_)
                  refine lv_iconst (v := (nI 1)) hx hb dX9_part_284 (by decide) ?_
                  refine lv_goto (tgt := 289) hx hb dX9_part_285 (by decide) ?_
                  refine lv_istore_n (lv' := [(2, .int (nI 1)), (4, .int (nI d2)), (3, .int (nI d1)), (0, .ref mr), (1, .int (nI 1))]) hx hb dX9_part_289 rfl hl (by decide) rfl (fun ls hl => ?_)
                  refine lv_iload_n hx hb dX9_part_290 rfl (lv_at hl 0 rfl) ?_
                  refine lv_if_eq (tgt := 313) hx hb dX9_part_291 (by decide) (fun c_291 => absurd c_291 (by decide +kernel)) (fun _ => ?_)
                  refine lv_iload_n hx hb dX9_part_294 rfl (lv_at hl 4 rfl) ?_
                  refine lv_if_eq (tgt := 313) hx hb dX9_part_295 (by decide) (fun c_295 => absurd c_295 (by decide +kernel)) (fun _ => ?_)
                  refine lv_aload_n hx hb dX9_part_298 rfl (lv_at hl 3 rfl) ?_
                  refine gf_n (C := RX9) (T := TX9) (N := 15) (ci := 9) (q0 := 0) (v := .ref (rf 0)) hx hb hts (iU inlX9) hown hK hP rfl rfl 0 (by decide) (kU u_129) rfl rfl dX9_part_299 ?_
                  refine lv_iload_n hx hb dX9_part_302 rfl (lv_at hl 2 rfl) ?_
                  refine lv_iload hx hb dX9_part_303 (lv_at hl 1 rfl) ?_
                  refine gp_S (c_X9_like l D cI cZ cF cL d1 d2 ) (gUS u_281 u_282 u_5 u_283) rfl hdS_X9_like ⟨Nat.le_of_ble_eq_true rfl, Nat.le_of_ble_eq_true rfl⟩ ⟨rfl, rfl⟩ hx hb hml hown hts hK hA hP hD hS hl.1 ⟨Nat.le_of_ble_eq_true rfl, Nat.le_of_ble_eq_true rfl⟩ (wr := (mX mr rf st L th (((pl + 1) + 1) + 1 + 1) hs vs (nI d3) xx ++ iaX cI (rf 5) 120 X ++ qX cI (rf 0) nH nV wk ea gi sw f1 f2 f3 f4 f5 f6 f7 f8)) (pm_cnt (fun _ => by simp only [List.countP_append, List.countP_nil, fT] <;> omega)) (fun _ => by simp only [List.map_append, List.map_nil, fX_m, bX_m, sX_m, pX_m, iaX_m, r5X_m, r6X_m, fT_m, hX_m, tX_m, xX_m, sgX_m, zaX_m, fsB_a, qX_m, mX_m]) (rest := [.ref (rf 0)]) rfl rfl (Nat.le_of_ble_eq_true rfl) dX9_part_305 (ws2 := (fun _ : Unit => (mX mr rf st L th (((pl + 1) + 1) + 1 + 1) hs vs (nI d3) xx ++ iaX cI (rf 5) 120 X ++ qX cI (rf 0) nH nV wk ea gi sw f1 f2 f3 f4 f5 f6 f7 f8))) (fun _ => (pm_cnt (fun _ => by simp only [List.countP_append, List.countP_nil, fT] <;> omega))) (fun _ Hp locs hP hD hS => ?_)
                  refine lv_aload_n hx hb dX9_part_308 rfl (lv_at hl 3 rfl) ?_
                  refine gf_n (C := RX9) (T := TX9) (N := 15) (ci := 9) (q0 := 0) (v := .int (nI d3)) hx hb hts (iU inlX9) hown hK hP rfl rfl 13 (by decide) (kU u_270) rfl rfl dX9_part_309 ?_
                  refine is_n (q0 := 2) (t0 := 0) (ws2 := (mX mr rf st L th (((pl + 1) + 1) + 1 + 1) hs vs (nI d3) xx ++ iaX cI (rf 5) 120 X ++ qX cI (rf 0) nH nV wk ea gi sw f1 f2 f3 f4 f5 f6 (va_up f7 (d1 * 5 + d2) d3) f8)) hx hb hK hP hD hS rfl rfl (by omega) (by decide) dX9_part_312 (by rw [qU_7 (by omega) (by omega)]; rfl) (fun Hp locs hP hD hS => ?_)
                  refine lv_iload_n hx hb dX9_part_313 rfl (lv_at hl 0 rfl) ?_
                  exact ct_z ((nI d3)) hx hb hr hlocks (by first | (rw [rpP_l (by omega) (by omega) (by omega), rpL_1 k1, hsP_f (by omega), vsP_f (by omega)]; exact hP) | (rw [rpP_l (by omega) (by omega) (by omega), rpL_2 k1 k2, hsP_f (by omega), vsP_f (by omega)]; exact hP) | (rw [rpP_l (by omega) (by omega) (by omega), rpL_3 k1 k2 k3, hsP_f (by omega), vsP_f (by omega)]; exact hP) | (rw [rpP_l (by omega) (by omega) (by omega), rpL_4 k1 k2 k3, hsP_f (by omega), vsP_f (by omega)]; exact hP)) hS (by first | (rw [rpP_l (by omega) (by omega) (by omega), rpL_1 k1]; rfl) | (rw [rpP_l (by omega) (by omega) (by omega), rpL_2 k1 k2]; rfl) | (rw [rpP_l (by omega) (by omega) (by omega), rpL_3 k1 k2 k3]; rfl) | (rw [rpP_l (by omega) (by omega) (by omega), rpL_4 k1 k2 k3]; rfl)) dX9_part_314
          · skip
            rw [show (if (pl < L ∧ X pl = 108) then (1 : Int32) else 0) = nI 0 from if_neg (fun z => q_220 z.2)]
            rw [if_neg (show ¬ (pl < L ∧ X pl = 108) from fun z => q_220 z.2)] at hP hD
            refine lv_if_eq (tgt := 315) hx hb dX9_part_220 (by decide) (fun _ => ?_) (fun c_220 => absurd (by decide +kernel) c_220)
            refine lv_aload_n hx hb dX9_part_315 rfl (lv_at hl 0 rfl) ?_
            refine gf_n (C := RX9) (T := TX9) (N := 15) (ci := 9) (q0 := 0) (v := .int (nI hs)) hx hb hts (iU inlX9) hown hK hP rfl rfl 11 (by decide) (kU u_260) rfl rfl dX9_part_316 ?_
            refine lv_if_le (tgt := 349) hx hb dX9_part_319 (by decide) (fun c_319 => ?_) (fun c_319 => ?_)
            · skip
              replace c_319 := cn_le (b := 0) (by omega) (by omega) c_319
              exfalso; rw [rpP_n (by omega) (by omega) (by omega) (by omega)] at hok; cases hok
            · skip
              replace c_319 := cn_nle (b := 0) (by omega) (by omega) c_319
              refine lv_aload_n hx hb dX9_part_322 rfl (lv_at hl 0 rfl) ?_
              refine lv_bipush (v := (nI 115)) hx hb dX9_part_323 (by decide) ?_
              refine gp_V (ci := 9) (q0 := 0) (cq := (RX9, TX9, 15)) (c_X9_letter l D cI cZ cF cL mr rf st L th pl hs vs dg0 xx X 115 hL hXt hpp (by decide)) (gUV u_262 u_263 u_264 u_5 u_265) rfl hdV_X9_letter ⟨Nat.le_of_ble_eq_true rfl, Nat.le_of_ble_eq_true rfl⟩ ⟨rfl, rfl⟩ hx hb hml hown hts hK hA hP hD hS hl.1 ⟨Nat.le_of_ble_eq_true rfl, Nat.le_of_ble_eq_true rfl⟩ rfl rfl rfl (wr := (qX cI (rf 0) nH nV wk ea gi sw f1 f2 f3 f4 f5 f6 f7 f8)) (pm_cnt (fun _ => by simp only [List.countP_append, List.countP_nil, fT] <;> omega)) (fun _ => by simp only [List.map_append, List.map_nil, fX_m, bX_m, sX_m, pX_m, iaX_m, r5X_m, r6X_m, fT_m, hX_m, tX_m, xX_m, sgX_m, zaX_m, fsB_a, qX_m, mX_m]) (rest := []) rfl rfl (Nat.le_of_ble_eq_true rfl) dX9_part_325 (ws2 := (fun _ : Unit => (mX mr rf st L th (if (pl < L ∧ X pl = 115) then pl + 1 else pl) hs vs dg0 xx ++ iaX cI (rf 5) 120 X ++ qX cI (rf 0) nH nV wk ea gi sw f1 f2 f3 f4 f5 f6 f7 f8))) (fun _ => (pm_cnt (fun _ => by simp only [List.countP_append, List.countP_nil, fT] <;> omega))) (fun _ Hp locs hP hD hS => ?_)
              by_cases q_328 : X pl = 115
              · skip
                rw [show (if (pl < L ∧ X pl = 115) then (1 : Int32) else 0) = nI 1 from if_pos ⟨hpl, q_328⟩]
                rw [if_pos (⟨hpl, q_328⟩ : (pl < L ∧ X pl = 115))] at hP hD
                refine lv_if_eq (tgt := 349) hx hb dX9_part_328 (by decide) (fun c_328 => absurd c_328 (by decide +kernel)) (fun _ => ?_)
                refine lv_aload_n hx hb dX9_part_331 rfl (lv_at hl 0 rfl) ?_
                refine lv_iconst (v := (nI 0)) hx hb dX9_part_332 (by decide) ?_
                refine lv_aload_n hx hb dX9_part_333 rfl (lv_at hl 0 rfl) ?_
                refine gf_n (C := RX9) (T := TX9) (N := 15) (ci := 9) (q0 := 0) (v := .int (nI hs)) hx hb hts (iU inlX9) hown hK hP rfl rfl 11 (by decide) (kU u_260) rfl rfl dX9_part_334 ?_
                refine lv_iconst (v := (nI 1)) hx hb dX9_part_337 (by decide) ?_
                refine lv_isub hx hb dX9_part_338 ?_
                rw [pk_sub (a := hs) (b := 1) (by omega)]
                refine gp_V (ci := 9) (q0 := 0) (cq := (RX9, TX9, 15)) (c_X9_digitTo l D cI cZ cF cL mr rf st L th (pl + 1) hs vs dg0 xx X 0 (hs - 1) hL hXt (by omega) (by omega) (by omega)) (gUV u_271 u_272 u_273 u_5 u_274) rfl hdV_X9_digitTo ⟨Nat.le_of_ble_eq_true rfl, Nat.le_of_ble_eq_true rfl⟩ ⟨rfl, rfl⟩ hx hb hml hown hts hK hA hP hD hS hl.1 ⟨Nat.le_of_ble_eq_true rfl, Nat.le_of_ble_eq_true rfl⟩ rfl rfl rfl (wr := (qX cI (rf 0) nH nV wk ea gi sw f1 f2 f3 f4 f5 f6 f7 f8)) (pm_cnt (fun _ => by simp only [List.countP_append, List.countP_nil, fT] <;> omega)) (fun _ => by simp only [List.map_append, List.map_nil, fX_m, bX_m, sX_m, pX_m, iaX_m, r5X_m, r6X_m, fT_m, hX_m, tX_m, xX_m, sgX_m, zaX_m, fsB_a, qX_m, mX_m]) (rest := []) rfl rfl (Nat.le_of_ble_eq_true rfl) dX9_part_339 (ws2 := (fun _ : Unit => (mX mr rf st L th (plD X L (pl + 1) 0 (hs - 1)) hs vs (dgI X L (pl + 1)) xx ++ iaX cI (rf 5) 120 X ++ qX cI (rf 0) nH nV wk ea gi sw f1 f2 f3 f4 f5 f6 f7 f8))) (fun _ => (pm_cnt (fun _ => by simp only [List.countP_append, List.countP_nil, fT] <;> omega))) (fun _ Hp locs hP hD hS => ?_)
                rcases k1 : dg X L (pl + 1) 0 (hs - 1) with _ | d1
                · skip
                  exfalso; rw [rpP_s (by omega) (by omega) (by omega) (by omega), rpS_1 k1] at hok; cases hok
                · skip
                  rw [show (if (some d1).isSome = true then (1 : Int32) else 0) = nI 1 from rfl]
                  rw [plD_s k1, dgI_s k1] at hP hD
                  obtain ⟨b1_k1, b2_k1, -, -⟩ := dg_le k1
                  refine lv_if_eq (tgt := 349) hx hb dX9_part_342 (by decide) (fun c_342 => absurd c_342 (by decide +kernel)) (fun _ => ?_)
                  refine lv_iconst (v := (nI 1)) hx hb dX9_part_345 (by decide) ?_
                  refine lv_goto (tgt := 350) hx hb dX9_part_346 (by decide) ?_
                  refine lv_istore_n (lv' := [(2, .int (nI 1)), (0, .ref mr), (1, .int (nI 1))]) hx hb dX9_part_350 rfl hl (by decide) rfl (fun ls hl => ?_)
                  refine lv_iload_n hx hb dX9_part_351 rfl (lv_at hl 0 rfl) ?_
                  refine lv_if_eq (tgt := 374) hx hb dX9_part_352 (by decide) (fun c_352 => absurd c_352 (by decide +kernel)) (fun _ => ?_)
                  refine lv_iload_n hx hb dX9_part_355 rfl (lv_at hl 2 rfl) ?_
                  refine lv_if_eq (tgt := 374) hx hb dX9_part_356 (by decide) (fun c_356 => absurd c_356 (by decide +kernel)) (fun _ => ?_)
                  refine lv_aload_n hx hb dX9_part_359 rfl (lv_at hl 1 rfl) ?_
                  refine gf_n (C := RX9) (T := TX9) (N := 15) (ci := 9) (q0 := 0) (v := .ref (rf 0)) hx hb hts (iU inlX9) hown hK hP rfl rfl 0 (by decide) (kU u_129) rfl rfl dX9_part_360 ?_
                  refine lv_aload_n hx hb dX9_part_363 rfl (lv_at hl 1 rfl) ?_
                  refine gf_n (C := RX9) (T := TX9) (N := 15) (ci := 9) (q0 := 0) (v := .int (nI d1)) hx hb hts (iU inlX9) hown hK hP rfl rfl 13 (by decide) (kU u_270) rfl rfl dX9_part_364 ?_
                  refine gp_S (c_X9_size l D cI cZ cF cL d1 ) (gUS u_275 u_276 u_5 u_277) rfl hdS_X9_size ⟨Nat.le_of_ble_eq_true rfl, Nat.le_of_ble_eq_true rfl⟩ ⟨rfl, rfl⟩ hx hb hml hown hts hK hA hP hD hS hl.1 ⟨Nat.le_of_ble_eq_true rfl, Nat.le_of_ble_eq_true rfl⟩ (wr := (mX mr rf st L th (pl + 1 + 1) hs vs (nI d1) xx ++ iaX cI (rf 5) 120 X ++ qX cI (rf 0) nH nV wk ea gi sw f1 f2 f3 f4 f5 f6 f7 f8)) (pm_cnt (fun _ => by simp only [List.countP_append, List.countP_nil, fT] <;> omega)) (fun _ => by simp only [List.map_append, List.map_nil, fX_m, bX_m, sX_m, pX_m, iaX_m, r5X_m, r6X_m, fT_m, hX_m, tX_m, xX_m, sgX_m, zaX_m, fsB_a, qX_m, mX_m]) (rest := [.ref (rf 0)]) rfl rfl (Nat.le_of_ble_eq_true rfl) dX9_part_367 (ws2 := (fun _ : Unit => (mX mr rf st L th (pl + 1 + 1) hs vs (nI d1) xx ++ iaX cI (rf 5) 120 X ++ qX cI (rf 0) nH nV wk ea gi sw f1 f2 f3 f4 f5 f6 f7 f8))) (fun _ => (pm_cnt (fun _ => by simp only [List.countP_append, List.countP_nil, fT] <;> omega))) (fun _ Hp locs hP hD hS => ?_)
                  refine lv_iconst (v := (nI 3)) hx hb dX9_part_370 (by decide) ?_
                  refine lv_iadd hx hb dX9_part_371 ?_
                  rw [nI_add (6 + 4 * d1) 3]
                  refine lv_iconst (v := (nI 1)) hx hb dX9_part_372 (by decide) ?_
                  refine is_n (q0 := 2) (t0 := 0) (ws2 := (mX mr rf st L th (pl + 1 + 1) hs vs (nI d1) xx ++ iaX cI (rf 5) 120 X ++ qX cI (rf 0) nH nV wk ea gi sw f1 f2 f3 (va_up f4 d1 1) f5 f6 f7 f8)) hx hb hK hP hD hS rfl rfl (by omega) (by decide) dX9_part_373 (by rw [qU_4 (by omega)]; rfl) (fun Hp locs hP hD hS => ?_)
                  refine lv_iload_n hx hb dX9_part_374 rfl (lv_at hl 0 rfl) ?_
                  exact ct_z ((nI d1)) hx hb hr hlocks (by first | (rw [rpP_s (by omega) (by omega) (by omega) (by omega), rpS_1 k1, hsP_f (by omega), vsP_f (by omega)]; exact hP) | (rw [rpP_s (by omega) (by omega) (by omega) (by omega), rpS_2 k1, hsP_f (by omega), vsP_f (by omega)]; exact hP)) hS (by first | (rw [rpP_s (by omega) (by omega) (by omega) (by omega), rpS_1 k1]; rfl) | (rw [rpP_s (by omega) (by omega) (by omega) (by omega), rpS_2 k1]; rfl)) dX9_part_375
              · skip
                rw [show (if (pl < L ∧ X pl = 115) then (1 : Int32) else 0) = nI 0 from if_neg (fun z => q_328 z.2)]
                rw [if_neg (show ¬ (pl < L ∧ X pl = 115) from fun z => q_328 z.2)] at hP hD
                refine lv_if_eq (tgt := 349) hx hb dX9_part_328 (by decide) (fun _ => ?_) (fun c_328 => absurd (by decide +kernel) c_328)
                exfalso; rw [rpP_n (by omega) (by omega) (by omega) (by omega)] at hok; cases hok
    · skip
      replace c_106 := cn_nle (by omega) (by omega) c_106
      refine lv_aload_n hx hb dX9_part_109 rfl (lv_at hl 0 rfl) ?_
      refine lv_bipush (v := (nI 118)) hx hb dX9_part_110 (by decide) ?_
      refine gp_V (ci := 9) (q0 := 0) (cq := (RX9, TX9, 15)) (c_X9_letter l D cI cZ cF cL mr rf st L th pl hs vs dg0 xx X 118 hL hXt hpp (by decide)) (gUV u_262 u_263 u_264 u_5 u_265) rfl hdV_X9_letter ⟨Nat.le_of_ble_eq_true rfl, Nat.le_of_ble_eq_true rfl⟩ ⟨rfl, rfl⟩ hx hb hml hown hts hK hA hP hD hS hl.1 ⟨Nat.le_of_ble_eq_true rfl, Nat.le_of_ble_eq_true rfl⟩ rfl rfl rfl (wr := (qX cI (rf 0) nH nV wk ea gi sw f1 f2 f3 f4 f5 f6 f7 f8)) (pm_cnt (fun _ => by simp only [List.countP_append, List.countP_nil, fT] <;> omega)) (fun _ => by simp only [List.map_append, List.map_nil, fX_m, bX_m, sX_m, pX_m, iaX_m, r5X_m, r6X_m, fT_m, hX_m, tX_m, xX_m, sgX_m, zaX_m, fsB_a, qX_m, mX_m]) (rest := []) rfl rfl (Nat.le_of_ble_eq_true rfl) dX9_part_112 (ws2 := (fun _ : Unit => (mX mr rf st L th (if (pl < L ∧ X pl = 118) then pl + 1 else pl) hs vs dg0 xx ++ iaX cI (rf 5) 120 X ++ qX cI (rf 0) nH nV wk ea gi sw f1 f2 f3 f4 f5 f6 f7 f8))) (fun _ => (pm_cnt (fun _ => by simp only [List.countP_append, List.countP_nil, fT] <;> omega))) (fun _ Hp locs hP hD hS => ?_)
      by_cases q_115 : X pl = 118
      · skip
        rw [show (if (pl < L ∧ X pl = 118) then (1 : Int32) else 0) = nI 1 from if_pos ⟨hpl, q_115⟩]
        rw [if_pos (⟨hpl, q_115⟩ : (pl < L ∧ X pl = 118))] at hP hD
        refine lv_if_eq (tgt := 200) hx hb dX9_part_115 (by decide) (fun c_115 => absurd c_115 (by decide +kernel)) (fun _ => ?_)
        refine lv_aload_n hx hb dX9_part_118 rfl (lv_at hl 0 rfl) ?_
        refine lv_iconst (v := (nI 0)) hx hb dX9_part_119 (by decide) ?_
        refine lv_iconst (v := (nI 4)) hx hb dX9_part_120 (by decide) ?_
        refine gp_V (ci := 9) (q0 := 0) (cq := (RX9, TX9, 15)) (c_X9_digitTo l D cI cZ cF cL mr rf st L th (pl + 1) hs vs dg0 xx X 0 4 hL hXt (by omega) (by omega) (by omega)) (gUV u_271 u_272 u_273 u_5 u_274) rfl hdV_X9_digitTo ⟨Nat.le_of_ble_eq_true rfl, Nat.le_of_ble_eq_true rfl⟩ ⟨rfl, rfl⟩ hx hb hml hown hts hK hA hP hD hS hl.1 ⟨Nat.le_of_ble_eq_true rfl, Nat.le_of_ble_eq_true rfl⟩ rfl rfl rfl (wr := (qX cI (rf 0) nH nV wk ea gi sw f1 f2 f3 f4 f5 f6 f7 f8)) (pm_cnt (fun _ => by simp only [List.countP_append, List.countP_nil, fT] <;> omega)) (fun _ => by simp only [List.map_append, List.map_nil, fX_m, bX_m, sX_m, pX_m, iaX_m, r5X_m, r6X_m, fT_m, hX_m, tX_m, xX_m, sgX_m, zaX_m, fsB_a, qX_m, mX_m]) (rest := []) rfl rfl (Nat.le_of_ble_eq_true rfl) dX9_part_121 (ws2 := (fun _ : Unit => (mX mr rf st L th (plD X L (pl + 1) 0 4) hs vs (dgI X L (pl + 1)) xx ++ iaX cI (rf 5) 120 X ++ qX cI (rf 0) nH nV wk ea gi sw f1 f2 f3 f4 f5 f6 f7 f8))) (fun _ => (pm_cnt (fun _ => by simp only [List.countP_append, List.countP_nil, fT] <;> omega))) (fun _ Hp locs hP hD hS => ?_)
        rcases k1 : dg X L (pl + 1) 0 4 with _ | d1
        · skip
          exfalso; rw [rpP_v (by omega) (by omega), rpV_1 k1] at hok; cases hok
        · skip
          rw [show (if (some d1).isSome = true then (1 : Int32) else 0) = nI 1 from rfl]
          rw [plD_s k1, dgI_s k1] at hP hD
          obtain ⟨b1_k1, b2_k1, -, -⟩ := dg_le k1
          refine lv_istore_n (lv' := [(2, .int (nI 1)), (0, .ref mr), (1, .int (nI 1))]) hx hb dX9_part_124 rfl hl (by decide) rfl (fun ls hl => ?_)
          refine lv_aload_n hx hb dX9_part_125 rfl (lv_at hl 1 rfl) ?_
          refine gf_n (C := RX9) (T := TX9) (N := 15) (ci := 9) (q0 := 0) (v := .int (nI d1)) hx hb hts (iU inlX9) hown hK hP rfl rfl 13 (by decide) (kU u_270) rfl rfl dX9_part_126 ?_
          refine lv_istore_n (lv' := [(3, .int (nI d1)), (2, .int (nI 1)), (0, .ref mr), (1, .int (nI 1))]) hx hb dX9_part_129 rfl hl (by decide) rfl (fun ls hl => ?_)
          refine lv_iload_n hx hb dX9_part_130 rfl (lv_at hl 1 rfl) ?_
          refine lv_if_eq (tgt := 157) hx hb dX9_part_131 (by decide) (fun c_131 => absurd c_131 (by decide +kernel)) (fun _ => ?_)
          refine lv_aload_n hx hb dX9_part_134 rfl (lv_at hl 2 rfl) ?_
          refine lv_iconst (v := (nI 0)) hx hb dX9_part_135 (by decide) ?_
          refine lv_iload_n hx hb dX9_part_136 rfl (lv_at hl 0 rfl) ?_
          refine lv_iconst (v := (nI 4)) hx hb dX9_part_137 (by decide) ?_
          refine lv_icmp_ne (tgt := 145) hx hb dX9_part_138 (by decide) (fun c_138 => ?_) (fun c_138 => ?_)
          · skip
            replace c_138 := cn_ne c_138
            refine lv_bipush (v := (nI 9)) hx hb dX9_part_145 (by decide) ?_
            refine gp_V (ci := 9) (q0 := 0) (cq := (RX9, TX9, 15)) (c_X9_digitTo l D cI cZ cF cL mr rf st L th (pl + 1 + 1) hs vs ((nI d1)) xx X 0 9 hL hXt (by omega) (by omega) (by omega)) (gUV u_271 u_272 u_273 u_5 u_274) rfl hdV_X9_digitTo ⟨Nat.le_of_ble_eq_true rfl, Nat.le_of_ble_eq_true rfl⟩ ⟨rfl, rfl⟩ hx hb hml hown hts hK hA hP hD hS hl.1 ⟨Nat.le_of_ble_eq_true rfl, Nat.le_of_ble_eq_true rfl⟩ rfl rfl rfl (wr := (qX cI (rf 0) nH nV wk ea gi sw f1 f2 f3 f4 f5 f6 f7 f8)) (pm_cnt (fun _ => by simp only [List.countP_append, List.countP_nil, fT] <;> omega)) (fun _ => by simp only [List.map_append, List.map_nil, fX_m, bX_m, sX_m, pX_m, iaX_m, r5X_m, r6X_m, fT_m, hX_m, tX_m, xX_m, sgX_m, zaX_m, fsB_a, qX_m, mX_m]) (rest := []) rfl rfl (Nat.le_of_ble_eq_true rfl) dX9_part_147 (ws2 := (fun _ : Unit => (mX mr rf st L th (plD X L (pl + 1 + 1) 0 9) hs vs (dgI X L (pl + 1 + 1)) xx ++ iaX cI (rf 5) 120 X ++ qX cI (rf 0) nH nV wk ea gi sw f1 f2 f3 f4 f5 f6 f7 f8))) (fun _ => (pm_cnt (fun _ => by simp only [List.countP_append, List.countP_nil, fT] <;> omega))) (fun _ Hp locs hP hD hS => ?_)
            rcases k2 : dg X L ((pl + 1) + 1) 0 9 with _ | d2
            · skip
              exfalso; rw [rpP_v (by omega) (by omega), rpV_2 k1 (show dg X L (pl + 1 + 1) 0 (min 9 (40 - 10 * d1)) = none from by first | (rw [show min 9 (40 - 10 * d1) = 0 by omega]; exact k2) | (rw [show min 9 (40 - 10 * d1) = 9 by omega]; exact k2))] at hok; cases hok
            · skip
              rw [show (if (some d2).isSome = true then (1 : Int32) else 0) = nI 1 from rfl]
              rw [plD_s k2, dgI_s k2] at hP hD
              obtain ⟨b1_k2, b2_k2, -, -⟩ := dg_le k2
              refine lv_if_eq (tgt := 157) hx hb dX9_part_150 (by decide) (fun c_150 => absurd c_150 (by decide +kernel)) (fun _ => ?_)
              refine lv_iconst (v := (nI 1)) hx hb dX9_part_153 (by decide) ?_
              refine lv_goto (tgt := 158) hx hb dX9_part_154 (by decide) ?_
              refine lv_istore_n (lv' := [(2, .int (nI 1)), (3, .int (nI d1)), (0, .ref mr), (1, .int (nI 1))]) hx hb dX9_part_158 rfl hl (by decide) rfl (fun ls hl => ?_)
              refine lv_iload_n hx hb dX9_part_159 rfl (lv_at hl 0 rfl) ?_
              refine lv_if_eq (tgt := 188) hx hb dX9_part_160 (by decide) (fun c_160 => absurd c_160 (by decide +kernel)) (fun _ => ?_)
              refine lv_iload_n hx hb dX9_part_163 rfl (lv_at hl 3 rfl) ?_
              refine lv_if_eq (tgt := 188) hx hb dX9_part_164 (by decide) (fun c_164 => absurd c_164 (by decide +kernel)) (fun _ => ?_)
              refine lv_aload_n hx hb dX9_part_167 rfl (lv_at hl 2 rfl) ?_
              refine gf_n (C := RX9) (T := TX9) (N := 15) (ci := 9) (q0 := 0) (v := .ref (rf 0)) hx hb hts (iU inlX9) hown hK hP rfl rfl 0 (by decide) (kU u_129) rfl rfl dX9_part_168 ?_
              refine lv_aload_n hx hb dX9_part_171 rfl (lv_at hl 2 rfl) ?_
              refine gf_n (C := RX9) (T := TX9) (N := 15) (ci := 9) (q0 := 0) (v := .int (nI vs)) hx hb hts (iU inlX9) hown hK hP rfl rfl 12 (by decide) (kU u_261) rfl rfl dX9_part_172 ?_
              refine gp_S (c_X9_harvest l D cI cZ cF cL vs ) (gUS u_278 u_279 u_5 u_280) rfl hdS_X9_harvest ⟨Nat.le_of_ble_eq_true rfl, Nat.le_of_ble_eq_true rfl⟩ ⟨rfl, rfl⟩ hx hb hml hown hts hK hA hP hD hS hl.1 ⟨Nat.le_of_ble_eq_true rfl, Nat.le_of_ble_eq_true rfl⟩ (wr := (mX mr rf st L th ((pl + 1) + 1 + 1) hs vs (nI d2) xx ++ iaX cI (rf 5) 120 X ++ qX cI (rf 0) nH nV wk ea gi sw f1 f2 f3 f4 f5 f6 f7 f8)) (pm_cnt (fun _ => by simp only [List.countP_append, List.countP_nil, fT] <;> omega)) (fun _ => by simp only [List.map_append, List.map_nil, fX_m, bX_m, sX_m, pX_m, iaX_m, r5X_m, r6X_m, fT_m, hX_m, tX_m, xX_m, sgX_m, zaX_m, fsB_a, qX_m, mX_m]) (rest := [.ref (rf 0)]) rfl rfl (Nat.le_of_ble_eq_true rfl) dX9_part_175 (ws2 := (fun _ : Unit => (mX mr rf st L th ((pl + 1) + 1 + 1) hs vs (nI d2) xx ++ iaX cI (rf 5) 120 X ++ qX cI (rf 0) nH nV wk ea gi sw f1 f2 f3 f4 f5 f6 f7 f8))) (fun _ => (pm_cnt (fun _ => by simp only [List.countP_append, List.countP_nil, fT] <;> omega))) (fun _ Hp locs hP hD hS => ?_)
              refine lv_bipush (v := (nI 10)) hx hb dX9_part_178 (by decide) ?_
              refine lv_iload_n hx hb dX9_part_180 rfl (lv_at hl 1 rfl) ?_
              refine lv_imul hx hb dX9_part_181 ?_
              rw [pk_mul 10 d1]
              refine lv_aload_n hx hb dX9_part_182 rfl (lv_at hl 2 rfl) ?_
              refine gf_n (C := RX9) (T := TX9) (N := 15) (ci := 9) (q0 := 0) (v := .int (nI d2)) hx hb hts (iU inlX9) hown hK hP rfl rfl 13 (by decide) (kU u_270) rfl rfl dX9_part_183 ?_
              refine lv_iadd hx hb dX9_part_186 ?_
              rw [nI_add (10 * d1) d2]
              refine is_n (q0 := 2) (t0 := 0) (ws2 := (mX mr rf st L th ((pl + 1) + 1 + 1) hs vs (nI d2) xx ++ iaX cI (rf 5) 120 X ++ qX cI (rf 0) nH nV wk ea gi sw f1 f2 f3 f4 (va_up f5 vs ((10 * d1) + d2)) f6 f7 f8)) hx hb hK hP hD hS rfl rfl (by omega) (by decide) dX9_part_187 (by rw [qU_5 (by omega)]; rfl) (fun Hp locs hP hD hS => ?_)
              refine lv_aload_n hx hb dX9_part_188 rfl (lv_at hl 2 rfl) ?_
              refine lv_dup hx hb dX9_part_189 rfl ?_
              refine gf_n (C := RX9) (T := TX9) (N := 15) (ci := 9) (q0 := 0) (v := .int (nI vs)) hx hb hts (iU inlX9) hown hK hP rfl rfl 12 (by decide) (kU u_261) rfl rfl dX9_part_190 ?_
              refine lv_iconst (v := (nI 1)) hx hb dX9_part_193 (by decide) ?_
              refine lv_iadd hx hb dX9_part_194 ?_
              rw [nI_add vs 1]
              refine pf_n (C := RX9) (T := TX9) (N := 15) (ci := 9) (q0 := 0) (ty := .int) (v := .int (nI (vs + 1))) (ws2 := (mX mr rf st L th ((pl + 1) + 1 + 1) hs (vs + 1) (nI d2) xx ++ iaX cI (rf 5) 120 X ++ qX cI (rf 0) nH nV wk ea gi sw f1 f2 f3 f4 (va_up f5 vs ((10 * d1) + d2)) f6 f7 f8)) hx hb hts (iU inlX9) tyX9 tyX9_ok nmX9 hown hK hP hD hS rfl rfl 12 (by decide) (kU u_261) rfl rfl (tyX9_ok 12 (by decide)) rfl rfl (Nat.le_of_ble_eq_true rfl) dX9_part_195 rfl (fun Hp locs hP hD hS => ?_)
              refine lv_iload_n hx hb dX9_part_198 rfl (lv_at hl 0 rfl) ?_
              exact ct_z ((nI d2)) hx hb hr hlocks (by first | (rw [rpP_v (by omega) (by omega), rpV_1 k1, hsP_f (by omega), vsP_t (by omega)]; exact hP) | (rw [rpP_v (by omega) (by omega), rpV_2 k1 (show dg X L (pl + 1 + 1) 0 (min 9 (40 - 10 * d1)) = none from by first | (rw [show min 9 (40 - 10 * d1) = 0 by omega]; exact k2) | (rw [show min 9 (40 - 10 * d1) = 9 by omega]; exact k2)), hsP_f (by omega), vsP_t (by omega)]; exact hP) | (rw [rpP_v (by omega) (by omega), rpV_3 k1 (show dg X L (pl + 1 + 1) 0 (min 9 (40 - 10 * d1)) = some d2 from by first | (rw [show min 9 (40 - 10 * d1) = 0 by omega]; exact k2) | (rw [show min 9 (40 - 10 * d1) = 9 by omega]; exact k2)), hsP_f (by omega), vsP_t (by omega)]; exact hP)) hS (by first | (rw [rpP_v (by omega) (by omega), rpV_1 k1]; rfl) | (rw [rpP_v (by omega) (by omega), rpV_2 k1 (show dg X L (pl + 1 + 1) 0 (min 9 (40 - 10 * d1)) = none from by first | (rw [show min 9 (40 - 10 * d1) = 0 by omega]; exact k2) | (rw [show min 9 (40 - 10 * d1) = 9 by omega]; exact k2))]; rfl) | (rw [rpP_v (by omega) (by omega), rpV_3 k1 (show dg X L (pl + 1 + 1) 0 (min 9 (40 - 10 * d1)) = some d2 from by first | (rw [show min 9 (40 - 10 * d1) = 0 by omega]; exact k2) | (rw [show min 9 (40 - 10 * d1) = 9 by omega]; exact k2))]; rfl)) dX9_part_199
          · skip
            replace c_138 := cn_eq (by omega) (by omega) c_138
            refine lv_iconst (v := (nI 0)) hx hb dX9_part_141 (by decide) ?_
            refine lv_goto (tgt := 147) hx hb dX9_part_142 (by decide) ?_
            refine gp_V (ci := 9) (q0 := 0) (cq := (RX9, TX9, 15)) (c_X9_digitTo l D cI cZ cF cL mr rf st L th (pl + 1 + 1) hs vs ((nI d1)) xx X 0 0 hL hXt (by omega) (by omega) (by omega)) (gUV u_271 u_272 u_273 u_5 u_274) rfl hdV_X9_digitTo ⟨Nat.le_of_ble_eq_true rfl, Nat.le_of_ble_eq_true rfl⟩ ⟨rfl, rfl⟩ hx hb hml hown hts hK hA hP hD hS hl.1 ⟨Nat.le_of_ble_eq_true rfl, Nat.le_of_ble_eq_true rfl⟩ rfl rfl rfl (wr := (qX cI (rf 0) nH nV wk ea gi sw f1 f2 f3 f4 f5 f6 f7 f8)) (pm_cnt (fun _ => by simp only [List.countP_append, List.countP_nil, fT] <;> omega)) (fun _ => by simp only [List.map_append, List.map_nil, fX_m, bX_m, sX_m, pX_m, iaX_m, r5X_m, r6X_m, fT_m, hX_m, tX_m, xX_m, sgX_m, zaX_m, fsB_a, qX_m, mX_m]) (rest := []) rfl rfl (Nat.le_of_ble_eq_true rfl) dX9_part_147 (ws2 := (fun _ : Unit => (mX mr rf st L th (plD X L (pl + 1 + 1) 0 0) hs vs (dgI X L (pl + 1 + 1)) xx ++ iaX cI (rf 5) 120 X ++ qX cI (rf 0) nH nV wk ea gi sw f1 f2 f3 f4 f5 f6 f7 f8))) (fun _ => (pm_cnt (fun _ => by simp only [List.countP_append, List.countP_nil, fT] <;> omega))) (fun _ Hp locs hP hD hS => ?_)
            rcases k2 : dg X L ((pl + 1) + 1) 0 0 with _ | d2
            · skip
              exfalso; rw [rpP_v (by omega) (by omega), rpV_2 k1 (show dg X L (pl + 1 + 1) 0 (min 9 (40 - 10 * d1)) = none from by first | (rw [show min 9 (40 - 10 * d1) = 0 by omega]; exact k2) | (rw [show min 9 (40 - 10 * d1) = 9 by omega]; exact k2))] at hok; cases hok
            · skip
              rw [show (if (some d2).isSome = true then (1 : Int32) else 0) = nI 1 from rfl]
              rw [plD_s k2, dgI_s k2] at hP hD
              obtain ⟨b1_k2, b2_k2, -, -⟩ := dg_le k2
              refine lv_if_eq (tgt := 157) hx hb dX9_part_150 (by decide) (fun c_150 => absurd c_150 (by decide +kernel)) (fun _ => ?_)
              refine lv_iconst (v := (nI 1)) hx hb dX9_part_153 (by decide) ?_
              refine lv_goto (tgt := 158) hx hb dX9_part_154 (by decide) ?_
              refine lv_istore_n (lv' := [(2, .int (nI 1)), (3, .int (nI d1)), (0, .ref mr), (1, .int (nI 1))]) hx hb dX9_part_158 rfl hl (by decide) rfl (fun ls hl => ?_)
              refine lv_iload_n hx hb dX9_part_159 rfl (lv_at hl 0 rfl) ?_
              refine lv_if_eq (tgt := 188) hx hb dX9_part_160 (by decide) (fun c_160 => absurd c_160 (by decide +kernel)) (fun _ => ?_)
              refine lv_iload_n hx hb dX9_part_163 rfl (lv_at hl 3 rfl) ?_
              refine lv_if_eq (tgt := 188) hx hb dX9_part_164 (by decide) (fun c_164 => absurd c_164 (by decide +kernel)) (fun _ => ?_)
              refine lv_aload_n hx hb dX9_part_167 rfl (lv_at hl 2 rfl) ?_
              refine gf_n (C := RX9) (T := TX9) (N := 15) (ci := 9) (q0 := 0) (v := .ref (rf 0)) hx hb hts (iU inlX9) hown hK hP rfl rfl 0 (by decide) (kU u_129) rfl rfl dX9_part_168 ?_
              refine lv_aload_n hx hb dX9_part_171 rfl (lv_at hl 2 rfl) ?_
              refine gf_n (C := RX9) (T := TX9) (N := 15) (ci := 9) (q0 := 0) (v := .int (nI vs)) hx hb hts (iU inlX9) hown hK hP rfl rfl 12 (by decide) (kU u_261) rfl rfl dX9_part_172 ?_
              refine gp_S (c_X9_harvest l D cI cZ cF cL vs ) (gUS u_278 u_279 u_5 u_280) rfl hdS_X9_harvest ⟨Nat.le_of_ble_eq_true rfl, Nat.le_of_ble_eq_true rfl⟩ ⟨rfl, rfl⟩ hx hb hml hown hts hK hA hP hD hS hl.1 ⟨Nat.le_of_ble_eq_true rfl, Nat.le_of_ble_eq_true rfl⟩ (wr := (mX mr rf st L th ((pl + 1) + 1 + 1) hs vs (nI d2) xx ++ iaX cI (rf 5) 120 X ++ qX cI (rf 0) nH nV wk ea gi sw f1 f2 f3 f4 f5 f6 f7 f8)) (pm_cnt (fun _ => by simp only [List.countP_append, List.countP_nil, fT] <;> omega)) (fun _ => by simp only [List.map_append, List.map_nil, fX_m, bX_m, sX_m, pX_m, iaX_m, r5X_m, r6X_m, fT_m, hX_m, tX_m, xX_m, sgX_m, zaX_m, fsB_a, qX_m, mX_m]) (rest := [.ref (rf 0)]) rfl rfl (Nat.le_of_ble_eq_true rfl) dX9_part_175 (ws2 := (fun _ : Unit => (mX mr rf st L th ((pl + 1) + 1 + 1) hs vs (nI d2) xx ++ iaX cI (rf 5) 120 X ++ qX cI (rf 0) nH nV wk ea gi sw f1 f2 f3 f4 f5 f6 f7 f8))) (fun _ => (pm_cnt (fun _ => by simp only [List.countP_append, List.countP_nil, fT] <;> omega))) (fun _ Hp locs hP hD hS => ?_)
              refine lv_bipush (v := (nI 10)) hx hb dX9_part_178 (by decide) ?_
              refine lv_iload_n hx hb dX9_part_180 rfl (lv_at hl 1 rfl) ?_
              refine lv_imul hx hb dX9_part_181 ?_
              rw [pk_mul 10 d1]
              refine lv_aload_n hx hb dX9_part_182 rfl (lv_at hl 2 rfl) ?_
              refine gf_n (C := RX9) (T := TX9) (N := 15) (ci := 9) (q0 := 0) (v := .int (nI d2)) hx hb hts (iU inlX9) hown hK hP rfl rfl 13 (by decide) (kU u_270) rfl rfl dX9_part_183 ?_
              refine lv_iadd hx hb dX9_part_186 ?_
              rw [nI_add (10 * d1) d2]
              refine is_n (q0 := 2) (t0 := 0) (ws2 := (mX mr rf st L th ((pl + 1) + 1 + 1) hs vs (nI d2) xx ++ iaX cI (rf 5) 120 X ++ qX cI (rf 0) nH nV wk ea gi sw f1 f2 f3 f4 (va_up f5 vs ((10 * d1) + d2)) f6 f7 f8)) hx hb hK hP hD hS rfl rfl (by omega) (by decide) dX9_part_187 (by rw [qU_5 (by omega)]; rfl) (fun Hp locs hP hD hS => ?_)
              refine lv_aload_n hx hb dX9_part_188 rfl (lv_at hl 2 rfl) ?_
              refine lv_dup hx hb dX9_part_189 rfl ?_
              refine gf_n (C := RX9) (T := TX9) (N := 15) (ci := 9) (q0 := 0) (v := .int (nI vs)) hx hb hts (iU inlX9) hown hK hP rfl rfl 12 (by decide) (kU u_261) rfl rfl dX9_part_190 ?_
              refine lv_iconst (v := (nI 1)) hx hb dX9_part_193 (by decide) ?_
              refine lv_iadd hx hb dX9_part_194 ?_
              rw [nI_add vs 1]
              refine pf_n (C := RX9) (T := TX9) (N := 15) (ci := 9) (q0 := 0) (ty := .int) (v := .int (nI (vs + 1))) (ws2 := (mX mr rf st L th ((pl + 1) + 1 + 1) hs (vs + 1) (nI d2) xx ++ iaX cI (rf 5) 120 X ++ qX cI (rf 0) nH nV wk ea gi sw f1 f2 f3 f4 (va_up f5 vs ((10 * d1) + d2)) f6 f7 f8)) hx hb hts (iU inlX9) tyX9 tyX9_ok nmX9 hown hK hP hD hS rfl rfl 12 (by decide) (kU u_261) rfl rfl (tyX9_ok 12 (by decide)) rfl rfl (Nat.le_of_ble_eq_true rfl) dX9_part_195 rfl (fun Hp locs hP hD hS => ?_)
              refine lv_iload_n hx hb dX9_part_198 rfl (lv_at hl 0 rfl) ?_
              exact ct_z ((nI d2)) hx hb hr hlocks (by first | (rw [rpP_v (by omega) (by omega), rpV_1 k1, hsP_f (by omega), vsP_t (by omega)]; exact hP) | (rw [rpP_v (by omega) (by omega), rpV_2 k1 (show dg X L (pl + 1 + 1) 0 (min 9 (40 - 10 * d1)) = none from by first | (rw [show min 9 (40 - 10 * d1) = 0 by omega]; exact k2) | (rw [show min 9 (40 - 10 * d1) = 9 by omega]; exact k2)), hsP_f (by omega), vsP_t (by omega)]; exact hP) | (rw [rpP_v (by omega) (by omega), rpV_3 k1 (show dg X L (pl + 1 + 1) 0 (min 9 (40 - 10 * d1)) = some d2 from by first | (rw [show min 9 (40 - 10 * d1) = 0 by omega]; exact k2) | (rw [show min 9 (40 - 10 * d1) = 9 by omega]; exact k2)), hsP_f (by omega), vsP_t (by omega)]; exact hP)) hS (by first | (rw [rpP_v (by omega) (by omega), rpV_1 k1]; rfl) | (rw [rpP_v (by omega) (by omega), rpV_2 k1 (show dg X L (pl + 1 + 1) 0 (min 9 (40 - 10 * d1)) = none from by first | (rw [show min 9 (40 - 10 * d1) = 0 by omega]; exact k2) | (rw [show min 9 (40 - 10 * d1) = 9 by omega]; exact k2))]; rfl) | (rw [rpP_v (by omega) (by omega), rpV_3 k1 (show dg X L (pl + 1 + 1) 0 (min 9 (40 - 10 * d1)) = some d2 from by first | (rw [show min 9 (40 - 10 * d1) = 0 by omega]; exact k2) | (rw [show min 9 (40 - 10 * d1) = 9 by omega]; exact k2))]; rfl)) dX9_part_199
      · skip
        rw [show (if (pl < L ∧ X pl = 118) then (1 : Int32) else 0) = nI 0 from if_neg (fun z => q_115 z.2)]
        rw [if_neg (show ¬ (pl < L ∧ X pl = 118) from fun z => q_115 z.2)] at hP hD
        refine lv_if_eq (tgt := 200) hx hb dX9_part_115 (by decide) (fun _ => ?_) (fun c_115 => absurd (by decide +kernel) c_115)
        refine lv_aload_n hx hb dX9_part_200 rfl (lv_at hl 0 rfl) ?_
        refine gf_n (C := RX9) (T := TX9) (N := 15) (ci := 9) (q0 := 0) (v := .int (nI hs)) hx hb hts (iU inlX9) hown hK hP rfl rfl 11 (by decide) (kU u_260) rfl rfl dX9_part_201 ?_
        refine lv_if_le (tgt := 315) hx hb dX9_part_204 (by decide) (fun c_204 => ?_) (fun c_204 => ?_)
        · skip
          replace c_204 := cn_le (b := 0) (by omega) (by omega) c_204
          refine lv_aload_n hx hb dX9_part_315 rfl (lv_at hl 0 rfl) ?_
          refine gf_n (C := RX9) (T := TX9) (N := 15) (ci := 9) (q0 := 0) (v := .int (nI hs)) hx hb hts (iU inlX9) hown hK hP rfl rfl 11 (by decide) (kU u_260) rfl rfl dX9_part_316 ?_
          refine lv_if_le (tgt := 349) hx hb dX9_part_319 (by decide) (fun c_319 => ?_) (fun c_319 => ?_)
          · skip
            replace c_319 := cn_le (b := 0) (by omega) (by omega) c_319
            exfalso; rw [rpP_n (by omega) (by omega) (by omega) (by omega)] at hok; cases hok
          · skip
            replace c_319 := cn_nle (b := 0) (by omega) (by omega) c_319
            refine lv_aload_n hx hb dX9_part_322 rfl (lv_at hl 0 rfl) ?_
            refine lv_bipush (v := (nI 115)) hx hb dX9_part_323 (by decide) ?_
            refine gp_V (ci := 9) (q0 := 0) (cq := (RX9, TX9, 15)) (c_X9_letter l D cI cZ cF cL mr rf st L th pl hs vs dg0 xx X 115 hL hXt hpp (by decide)) (gUV u_262 u_263 u_264 u_5 u_265) rfl hdV_X9_letter ⟨Nat.le_of_ble_eq_true rfl, Nat.le_of_ble_eq_true rfl⟩ ⟨rfl, rfl⟩ hx hb hml hown hts hK hA hP hD hS hl.1 ⟨Nat.le_of_ble_eq_true rfl, Nat.le_of_ble_eq_true rfl⟩ rfl rfl rfl (wr := (qX cI (rf 0) nH nV wk ea gi sw f1 f2 f3 f4 f5 f6 f7 f8)) (pm_cnt (fun _ => by simp only [List.countP_append, List.countP_nil, fT] <;> omega)) (fun _ => by simp only [List.map_append, List.map_nil, fX_m, bX_m, sX_m, pX_m, iaX_m, r5X_m, r6X_m, fT_m, hX_m, tX_m, xX_m, sgX_m, zaX_m, fsB_a, qX_m, mX_m]) (rest := []) rfl rfl (Nat.le_of_ble_eq_true rfl) dX9_part_325 (ws2 := (fun _ : Unit => (mX mr rf st L th (if (pl < L ∧ X pl = 115) then pl + 1 else pl) hs vs dg0 xx ++ iaX cI (rf 5) 120 X ++ qX cI (rf 0) nH nV wk ea gi sw f1 f2 f3 f4 f5 f6 f7 f8))) (fun _ => (pm_cnt (fun _ => by simp only [List.countP_append, List.countP_nil, fT] <;> omega))) (fun _ Hp locs hP hD hS => ?_)
            by_cases q_328 : X pl = 115
            · skip
              rw [show (if (pl < L ∧ X pl = 115) then (1 : Int32) else 0) = nI 1 from if_pos ⟨hpl, q_328⟩]
              rw [if_pos (⟨hpl, q_328⟩ : (pl < L ∧ X pl = 115))] at hP hD
              refine lv_if_eq (tgt := 349) hx hb dX9_part_328 (by decide) (fun c_328 => absurd c_328 (by decide +kernel)) (fun _ => ?_)
              refine lv_aload_n hx hb dX9_part_331 rfl (lv_at hl 0 rfl) ?_
              refine lv_iconst (v := (nI 0)) hx hb dX9_part_332 (by decide) ?_
              refine lv_aload_n hx hb dX9_part_333 rfl (lv_at hl 0 rfl) ?_
              refine gf_n (C := RX9) (T := TX9) (N := 15) (ci := 9) (q0 := 0) (v := .int (nI hs)) hx hb hts (iU inlX9) hown hK hP rfl rfl 11 (by decide) (kU u_260) rfl rfl dX9_part_334 ?_
              refine lv_iconst (v := (nI 1)) hx hb dX9_part_337 (by decide) ?_
              refine lv_isub hx hb dX9_part_338 ?_
              rw [pk_sub (a := hs) (b := 1) (by omega)]
              refine gp_V (ci := 9) (q0 := 0) (cq := (RX9, TX9, 15)) (c_X9_digitTo l D cI cZ cF cL mr rf st L th (pl + 1) hs vs dg0 xx X 0 (hs - 1) hL hXt (by omega) (by omega) (by omega)) (gUV u_271 u_272 u_273 u_5 u_274) rfl hdV_X9_digitTo ⟨Nat.le_of_ble_eq_true rfl, Nat.le_of_ble_eq_true rfl⟩ ⟨rfl, rfl⟩ hx hb hml hown hts hK hA hP hD hS hl.1 ⟨Nat.le_of_ble_eq_true rfl, Nat.le_of_ble_eq_true rfl⟩ rfl rfl rfl (wr := (qX cI (rf 0) nH nV wk ea gi sw f1 f2 f3 f4 f5 f6 f7 f8)) (pm_cnt (fun _ => by simp only [List.countP_append, List.countP_nil, fT] <;> omega)) (fun _ => by simp only [List.map_append, List.map_nil, fX_m, bX_m, sX_m, pX_m, iaX_m, r5X_m, r6X_m, fT_m, hX_m, tX_m, xX_m, sgX_m, zaX_m, fsB_a, qX_m, mX_m]) (rest := []) rfl rfl (Nat.le_of_ble_eq_true rfl) dX9_part_339 (ws2 := (fun _ : Unit => (mX mr rf st L th (plD X L (pl + 1) 0 (hs - 1)) hs vs (dgI X L (pl + 1)) xx ++ iaX cI (rf 5) 120 X ++ qX cI (rf 0) nH nV wk ea gi sw f1 f2 f3 f4 f5 f6 f7 f8))) (fun _ => (pm_cnt (fun _ => by simp only [List.countP_append, List.countP_nil, fT] <;> omega))) (fun _ Hp locs hP hD hS => ?_)
              rcases k1 : dg X L (pl + 1) 0 (hs - 1) with _ | d1
              · skip
                exfalso; rw [rpP_s (by omega) (by omega) (by omega) (by omega), rpS_1 k1] at hok; cases hok
              · skip
                rw [show (if (some d1).isSome = true then (1 : Int32) else 0) = nI 1 from rfl]
                rw [plD_s k1, dgI_s k1] at hP hD
                obtain ⟨b1_k1, b2_k1, -, -⟩ := dg_le k1
                refine lv_if_eq (tgt := 349) hx hb dX9_part_342 (by decide) (fun c_342 => absurd c_342 (by decide +kernel)) (fun _ => ?_)
                refine lv_iconst (v := (nI 1)) hx hb dX9_part_345 (by decide) ?_
                refine lv_goto (tgt := 350) hx hb dX9_part_346 (by decide) ?_
                refine lv_istore_n (lv' := [(2, .int (nI 1)), (0, .ref mr), (1, .int (nI 1))]) hx hb dX9_part_350 rfl hl (by decide) rfl (fun ls hl => ?_)
                refine lv_iload_n hx hb dX9_part_351 rfl (lv_at hl 0 rfl) ?_
                refine lv_if_eq (tgt := 374) hx hb dX9_part_352 (by decide) (fun c_352 => absurd c_352 (by decide +kernel)) (fun _ => ?_)
                refine lv_iload_n hx hb dX9_part_355 rfl (lv_at hl 2 rfl) ?_
                refine lv_if_eq (tgt := 374) hx hb dX9_part_356 (by decide) (fun c_356 => absurd c_356 (by decide +kernel)) (fun _ => ?_)
                refine lv_aload_n hx hb dX9_part_359 rfl (lv_at hl 1 rfl) ?_
                refine gf_n (C := RX9) (T := TX9) (N := 15) (ci := 9) (q0 := 0) (v := .ref (rf 0)) hx hb hts (iU inlX9) hown hK hP rfl rfl 0 (by decide) (kU u_129) rfl rfl dX9_part_360 ?_
                refine lv_aload_n hx hb dX9_part_363 rfl (lv_at hl 1 rfl) ?_
                refine gf_n (C := RX9) (T := TX9) (N := 15) (ci := 9) (q0 := 0) (v := .int (nI d1)) hx hb hts (iU inlX9) hown hK hP rfl rfl 13 (by decide) (kU u_270) rfl rfl dX9_part_364 ?_
                refine gp_S (c_X9_size l D cI cZ cF cL d1 ) (gUS u_275 u_276 u_5 u_277) rfl hdS_X9_size ⟨Nat.le_of_ble_eq_true rfl, Nat.le_of_ble_eq_true rfl⟩ ⟨rfl, rfl⟩ hx hb hml hown hts hK hA hP hD hS hl.1 ⟨Nat.le_of_ble_eq_true rfl, Nat.le_of_ble_eq_true rfl⟩ (wr := (mX mr rf st L th (pl + 1 + 1) hs vs (nI d1) xx ++ iaX cI (rf 5) 120 X ++ qX cI (rf 0) nH nV wk ea gi sw f1 f2 f3 f4 f5 f6 f7 f8)) (pm_cnt (fun _ => by simp only [List.countP_append, List.countP_nil, fT] <;> omega)) (fun _ => by simp only [List.map_append, List.map_nil, fX_m, bX_m, sX_m, pX_m, iaX_m, r5X_m, r6X_m, fT_m, hX_m, tX_m, xX_m, sgX_m, zaX_m, fsB_a, qX_m, mX_m]) (rest := [.ref (rf 0)]) rfl rfl (Nat.le_of_ble_eq_true rfl) dX9_part_367 (ws2 := (fun _ : Unit => (mX mr rf st L th (pl + 1 + 1) hs vs (nI d1) xx ++ iaX cI (rf 5) 120 X ++ qX cI (rf 0) nH nV wk ea gi sw f1 f2 f3 f4 f5 f6 f7 f8))) (fun _ => (pm_cnt (fun _ => by simp only [List.countP_append, List.countP_nil, fT] <;> omega))) (fun _ Hp locs hP hD hS => ?_)
                refine lv_iconst (v := (nI 3)) hx hb dX9_part_370 (by decide) ?_
                refine lv_iadd hx hb dX9_part_371 ?_
                rw [nI_add (6 + 4 * d1) 3]
                refine lv_iconst (v := (nI 1)) hx hb dX9_part_372 (by decide) ?_
                refine is_n (q0 := 2) (t0 := 0) (ws2 := (mX mr rf st L th (pl + 1 + 1) hs vs (nI d1) xx ++ iaX cI (rf 5) 120 X ++ qX cI (rf 0) nH nV wk ea gi sw f1 f2 f3 (va_up f4 d1 1) f5 f6 f7 f8)) hx hb hK hP hD hS rfl rfl (by omega) (by decide) dX9_part_373 (by rw [qU_4 (by omega)]; rfl) (fun Hp locs hP hD hS => ?_)
                refine lv_iload_n hx hb dX9_part_374 rfl (lv_at hl 0 rfl) ?_
                exact ct_z ((nI d1)) hx hb hr hlocks (by first | (rw [rpP_s (by omega) (by omega) (by omega) (by omega), rpS_1 k1, hsP_f (by omega), vsP_f (by omega)]; exact hP) | (rw [rpP_s (by omega) (by omega) (by omega) (by omega), rpS_2 k1, hsP_f (by omega), vsP_f (by omega)]; exact hP)) hS (by first | (rw [rpP_s (by omega) (by omega) (by omega) (by omega), rpS_1 k1]; rfl) | (rw [rpP_s (by omega) (by omega) (by omega) (by omega), rpS_2 k1]; rfl)) dX9_part_375
            · skip
              rw [show (if (pl < L ∧ X pl = 115) then (1 : Int32) else 0) = nI 0 from if_neg (fun z => q_328 z.2)]
              rw [if_neg (show ¬ (pl < L ∧ X pl = 115) from fun z => q_328 z.2)] at hP hD
              refine lv_if_eq (tgt := 349) hx hb dX9_part_328 (by decide) (fun _ => ?_) (fun c_328 => absurd (by decide +kernel) c_328)
              exfalso; rw [rpP_n (by omega) (by omega) (by omega) (by omega)] at hok; cases hok
        · skip
          replace c_204 := cn_nle (b := 0) (by omega) (by omega) c_204
          refine lv_aload_n hx hb dX9_part_207 rfl (lv_at hl 0 rfl) ?_
          refine gf_n (C := RX9) (T := TX9) (N := 15) (ci := 9) (q0 := 0) (v := .int (nI vs)) hx hb hts (iU inlX9) hown hK hP rfl rfl 12 (by decide) (kU u_261) rfl rfl dX9_part_208 ?_
          refine lv_if_le (tgt := 315) hx hb dX9_part_211 (by decide) (fun c_211 => ?_) (fun c_211 => ?_)
          · skip
            replace c_211 := cn_le (b := 0) (by omega) (by omega) c_211
            refine lv_aload_n hx hb dX9_part_315 rfl (lv_at hl 0 rfl) ?_
            refine gf_n (C := RX9) (T := TX9) (N := 15) (ci := 9) (q0 := 0) (v := .int (nI hs)) hx hb hts (iU inlX9) hown hK hP rfl rfl 11 (by decide) (kU u_260) rfl rfl dX9_part_316 ?_
            refine lv_if_le (tgt := 349) hx hb dX9_part_319 (by decide) (fun c_319 => ?_) (fun c_319 => ?_)
            · skip
              replace c_319 := cn_le (b := 0) (by omega) (by omega) c_319
              exfalso; rw [rpP_n (by omega) (by omega) (by omega) (by omega)] at hok; cases hok
            · skip
              replace c_319 := cn_nle (b := 0) (by omega) (by omega) c_319
              refine lv_aload_n hx hb dX9_part_322 rfl (lv_at hl 0 rfl) ?_
              refine lv_bipush (v := (nI 115)) hx hb dX9_part_323 (by decide) ?_
              refine gp_V (ci := 9) (q0 := 0) (cq := (RX9, TX9, 15)) (c_X9_letter l D cI cZ cF cL mr rf st L th pl hs vs dg0 xx X 115 hL hXt hpp (by decide)) (gUV u_262 u_263 u_264 u_5 u_265) rfl hdV_X9_letter ⟨Nat.le_of_ble_eq_true rfl, Nat.le_of_ble_eq_true rfl⟩ ⟨rfl, rfl⟩ hx hb hml hown hts hK hA hP hD hS hl.1 ⟨Nat.le_of_ble_eq_true rfl, Nat.le_of_ble_eq_true rfl⟩ rfl rfl rfl (wr := (qX cI (rf 0) nH nV wk ea gi sw f1 f2 f3 f4 f5 f6 f7 f8)) (pm_cnt (fun _ => by simp only [List.countP_append, List.countP_nil, fT] <;> omega)) (fun _ => by simp only [List.map_append, List.map_nil, fX_m, bX_m, sX_m, pX_m, iaX_m, r5X_m, r6X_m, fT_m, hX_m, tX_m, xX_m, sgX_m, zaX_m, fsB_a, qX_m, mX_m]) (rest := []) rfl rfl (Nat.le_of_ble_eq_true rfl) dX9_part_325 (ws2 := (fun _ : Unit => (mX mr rf st L th (if (pl < L ∧ X pl = 115) then pl + 1 else pl) hs vs dg0 xx ++ iaX cI (rf 5) 120 X ++ qX cI (rf 0) nH nV wk ea gi sw f1 f2 f3 f4 f5 f6 f7 f8))) (fun _ => (pm_cnt (fun _ => by simp only [List.countP_append, List.countP_nil, fT] <;> omega))) (fun _ Hp locs hP hD hS => ?_)
              by_cases q_328 : X pl = 115
              · skip
                rw [show (if (pl < L ∧ X pl = 115) then (1 : Int32) else 0) = nI 1 from if_pos ⟨hpl, q_328⟩]
                rw [if_pos (⟨hpl, q_328⟩ : (pl < L ∧ X pl = 115))] at hP hD
                refine lv_if_eq (tgt := 349) hx hb dX9_part_328 (by decide) (fun c_328 => absurd c_328 (by decide +kernel)) (fun _ => ?_)
                refine lv_aload_n hx hb dX9_part_331 rfl (lv_at hl 0 rfl) ?_
                refine lv_iconst (v := (nI 0)) hx hb dX9_part_332 (by decide) ?_
                refine lv_aload_n hx hb dX9_part_333 rfl (lv_at hl 0 rfl) ?_
                refine gf_n (C := RX9) (T := TX9) (N := 15) (ci := 9) (q0 := 0) (v := .int (nI hs)) hx hb hts (iU inlX9) hown hK hP rfl rfl 11 (by decide) (kU u_260) rfl rfl dX9_part_334 ?_
                refine lv_iconst (v := (nI 1)) hx hb dX9_part_337 (by decide) ?_
                refine lv_isub hx hb dX9_part_338 ?_
                rw [pk_sub (a := hs) (b := 1) (by omega)]
                refine gp_V (ci := 9) (q0 := 0) (cq := (RX9, TX9, 15)) (c_X9_digitTo l D cI cZ cF cL mr rf st L th (pl + 1) hs vs dg0 xx X 0 (hs - 1) hL hXt (by omega) (by omega) (by omega)) (gUV u_271 u_272 u_273 u_5 u_274) rfl hdV_X9_digitTo ⟨Nat.le_of_ble_eq_true rfl, Nat.le_of_ble_eq_true rfl⟩ ⟨rfl, rfl⟩ hx hb hml hown hts hK hA hP hD hS hl.1 ⟨Nat.le_of_ble_eq_true rfl, Nat.le_of_ble_eq_true rfl⟩ rfl rfl rfl (wr := (qX cI (rf 0) nH nV wk ea gi sw f1 f2 f3 f4 f5 f6 f7 f8)) (pm_cnt (fun _ => by simp only [List.countP_append, List.countP_nil, fT] <;> omega)) (fun _ => by simp only [List.map_append, List.map_nil, fX_m, bX_m, sX_m, pX_m, iaX_m, r5X_m, r6X_m, fT_m, hX_m, tX_m, xX_m, sgX_m, zaX_m, fsB_a, qX_m, mX_m]) (rest := []) rfl rfl (Nat.le_of_ble_eq_true rfl) dX9_part_339 (ws2 := (fun _ : Unit => (mX mr rf st L th (plD X L (pl + 1) 0 (hs - 1)) hs vs (dgI X L (pl + 1)) xx ++ iaX cI (rf 5) 120 X ++ qX cI (rf 0) nH nV wk ea gi sw f1 f2 f3 f4 f5 f6 f7 f8))) (fun _ => (pm_cnt (fun _ => by simp only [List.countP_append, List.countP_nil, fT] <;> omega))) (fun _ Hp locs hP hD hS => ?_)
                rcases k1 : dg X L (pl + 1) 0 (hs - 1) with _ | d1
                · skip
                  exfalso; rw [rpP_s (by omega) (by omega) (by omega) (by omega), rpS_1 k1] at hok; cases hok
                · skip
                  rw [show (if (some d1).isSome = true then (1 : Int32) else 0) = nI 1 from rfl]
                  rw [plD_s k1, dgI_s k1] at hP hD
                  obtain ⟨b1_k1, b2_k1, -, -⟩ := dg_le k1
                  refine lv_if_eq (tgt := 349) hx hb dX9_part_342 (by decide) (fun c_342 => absurd c_342 (by decide +kernel)) (fun _ => ?_)
                  refine lv_iconst (v := (nI 1)) hx hb dX9_part_345 (by decide) ?_
                  refine lv_goto (tgt := 350) hx hb dX9_part_346 (by decide) ?_
                  refine lv_istore_n (lv' := [(2, .int (nI 1)), (0, .ref mr), (1, .int (nI 1))]) hx hb dX9_part_350 rfl hl (by decide) rfl (fun ls hl => ?_)
                  refine lv_iload_n hx hb dX9_part_351 rfl (lv_at hl 0 rfl) ?_
                  refine lv_if_eq (tgt := 374) hx hb dX9_part_352 (by decide) (fun c_352 => absurd c_352 (by decide +kernel)) (fun _ => ?_)
                  refine lv_iload_n hx hb dX9_part_355 rfl (lv_at hl 2 rfl) ?_
                  refine lv_if_eq (tgt := 374) hx hb dX9_part_356 (by decide) (fun c_356 => absurd c_356 (by decide +kernel)) (fun _ => ?_)
                  refine lv_aload_n hx hb dX9_part_359 rfl (lv_at hl 1 rfl) ?_
                  refine gf_n (C := RX9) (T := TX9) (N := 15) (ci := 9) (q0 := 0) (v := .ref (rf 0)) hx hb hts (iU inlX9) hown hK hP rfl rfl 0 (by decide) (kU u_129) rfl rfl dX9_part_360 ?_
                  refine lv_aload_n hx hb dX9_part_363 rfl (lv_at hl 1 rfl) ?_
                  refine gf_n (C := RX9) (T := TX9) (N := 15) (ci := 9) (q0 := 0) (v := .int (nI d1)) hx hb hts (iU inlX9) hown hK hP rfl rfl 13 (by decide) (kU u_270) rfl rfl dX9_part_364 ?_
                  refine gp_S (c_X9_size l D cI cZ cF cL d1 ) (gUS u_275 u_276 u_5 u_277) rfl hdS_X9_size ⟨Nat.le_of_ble_eq_true rfl, Nat.le_of_ble_eq_true rfl⟩ ⟨rfl, rfl⟩ hx hb hml hown hts hK hA hP hD hS hl.1 ⟨Nat.le_of_ble_eq_true rfl, Nat.le_of_ble_eq_true rfl⟩ (wr := (mX mr rf st L th (pl + 1 + 1) hs vs (nI d1) xx ++ iaX cI (rf 5) 120 X ++ qX cI (rf 0) nH nV wk ea gi sw f1 f2 f3 f4 f5 f6 f7 f8)) (pm_cnt (fun _ => by simp only [List.countP_append, List.countP_nil, fT] <;> omega)) (fun _ => by simp only [List.map_append, List.map_nil, fX_m, bX_m, sX_m, pX_m, iaX_m, r5X_m, r6X_m, fT_m, hX_m, tX_m, xX_m, sgX_m, zaX_m, fsB_a, qX_m, mX_m]) (rest := [.ref (rf 0)]) rfl rfl (Nat.le_of_ble_eq_true rfl) dX9_part_367 (ws2 := (fun _ : Unit => (mX mr rf st L th (pl + 1 + 1) hs vs (nI d1) xx ++ iaX cI (rf 5) 120 X ++ qX cI (rf 0) nH nV wk ea gi sw f1 f2 f3 f4 f5 f6 f7 f8))) (fun _ => (pm_cnt (fun _ => by simp only [List.countP_append, List.countP_nil, fT] <;> omega))) (fun _ Hp locs hP hD hS => ?_)
                  refine lv_iconst (v := (nI 3)) hx hb dX9_part_370 (by decide) ?_
                  refine lv_iadd hx hb dX9_part_371 ?_
                  rw [nI_add (6 + 4 * d1) 3]
                  refine lv_iconst (v := (nI 1)) hx hb dX9_part_372 (by decide) ?_
                  refine is_n (q0 := 2) (t0 := 0) (ws2 := (mX mr rf st L th (pl + 1 + 1) hs vs (nI d1) xx ++ iaX cI (rf 5) 120 X ++ qX cI (rf 0) nH nV wk ea gi sw f1 f2 f3 (va_up f4 d1 1) f5 f6 f7 f8)) hx hb hK hP hD hS rfl rfl (by omega) (by decide) dX9_part_373 (by rw [qU_4 (by omega)]; rfl) (fun Hp locs hP hD hS => ?_)
                  refine lv_iload_n hx hb dX9_part_374 rfl (lv_at hl 0 rfl) ?_
                  exact ct_z ((nI d1)) hx hb hr hlocks (by first | (rw [rpP_s (by omega) (by omega) (by omega) (by omega), rpS_1 k1, hsP_f (by omega), vsP_f (by omega)]; exact hP) | (rw [rpP_s (by omega) (by omega) (by omega) (by omega), rpS_2 k1, hsP_f (by omega), vsP_f (by omega)]; exact hP)) hS (by first | (rw [rpP_s (by omega) (by omega) (by omega) (by omega), rpS_1 k1]; rfl) | (rw [rpP_s (by omega) (by omega) (by omega) (by omega), rpS_2 k1]; rfl)) dX9_part_375
              · skip
                rw [show (if (pl < L ∧ X pl = 115) then (1 : Int32) else 0) = nI 0 from if_neg (fun z => q_328 z.2)]
                rw [if_neg (show ¬ (pl < L ∧ X pl = 115) from fun z => q_328 z.2)] at hP hD
                refine lv_if_eq (tgt := 349) hx hb dX9_part_328 (by decide) (fun _ => ?_) (fun c_328 => absurd (by decide +kernel) c_328)
                exfalso; rw [rpP_n (by omega) (by omega) (by omega) (by omega)] at hok; cases hok
          · skip
            replace c_211 := cn_nle (b := 0) (by omega) (by omega) c_211
            refine lv_aload_n hx hb dX9_part_214 rfl (lv_at hl 0 rfl) ?_
            refine lv_bipush (v := (nI 108)) hx hb dX9_part_215 (by decide) ?_
            refine gp_V (ci := 9) (q0 := 0) (cq := (RX9, TX9, 15)) (c_X9_letter l D cI cZ cF cL mr rf st L th pl hs vs dg0 xx X 108 hL hXt hpp (by decide)) (gUV u_262 u_263 u_264 u_5 u_265) rfl hdV_X9_letter ⟨Nat.le_of_ble_eq_true rfl, Nat.le_of_ble_eq_true rfl⟩ ⟨rfl, rfl⟩ hx hb hml hown hts hK hA hP hD hS hl.1 ⟨Nat.le_of_ble_eq_true rfl, Nat.le_of_ble_eq_true rfl⟩ rfl rfl rfl (wr := (qX cI (rf 0) nH nV wk ea gi sw f1 f2 f3 f4 f5 f6 f7 f8)) (pm_cnt (fun _ => by simp only [List.countP_append, List.countP_nil, fT] <;> omega)) (fun _ => by simp only [List.map_append, List.map_nil, fX_m, bX_m, sX_m, pX_m, iaX_m, r5X_m, r6X_m, fT_m, hX_m, tX_m, xX_m, sgX_m, zaX_m, fsB_a, qX_m, mX_m]) (rest := []) rfl rfl (Nat.le_of_ble_eq_true rfl) dX9_part_217 (ws2 := (fun _ : Unit => (mX mr rf st L th (if (pl < L ∧ X pl = 108) then pl + 1 else pl) hs vs dg0 xx ++ iaX cI (rf 5) 120 X ++ qX cI (rf 0) nH nV wk ea gi sw f1 f2 f3 f4 f5 f6 f7 f8))) (fun _ => (pm_cnt (fun _ => by simp only [List.countP_append, List.countP_nil, fT] <;> omega))) (fun _ Hp locs hP hD hS => ?_)
            by_cases q_220 : X pl = 108
            · skip
              rw [show (if (pl < L ∧ X pl = 108) then (1 : Int32) else 0) = nI 1 from if_pos ⟨hpl, q_220⟩]
              rw [if_pos (⟨hpl, q_220⟩ : (pl < L ∧ X pl = 108))] at hP hD
              refine lv_if_eq (tgt := 315) hx hb dX9_part_220 (by decide) (fun c_220 => absurd c_220 (by decide +kernel)) (fun _ => ?_)
              refine lv_aload_n hx hb dX9_part_223 rfl (lv_at hl 0 rfl) ?_
              refine lv_iconst (v := (nI 0)) hx hb dX9_part_224 (by decide) ?_
              refine lv_aload_n hx hb dX9_part_225 rfl (lv_at hl 0 rfl) ?_
              refine gf_n (C := RX9) (T := TX9) (N := 15) (ci := 9) (q0 := 0) (v := .int (nI hs)) hx hb hts (iU inlX9) hown hK hP rfl rfl 11 (by decide) (kU u_260) rfl rfl dX9_part_226 ?_
              refine lv_iconst (v := (nI 1)) hx hb dX9_part_229 (by decide) ?_
              refine lv_isub hx hb dX9_part_230 ?_
              rw [pk_sub (a := hs) (b := 1) (by omega)]
              refine gp_V (ci := 9) (q0 := 0) (cq := (RX9, TX9, 15)) (c_X9_digitTo l D cI cZ cF cL mr rf st L th (pl + 1) hs vs dg0 xx X 0 (hs - 1) hL hXt (by omega) (by omega) (by omega)) (gUV u_271 u_272 u_273 u_5 u_274) rfl hdV_X9_digitTo ⟨Nat.le_of_ble_eq_true rfl, Nat.le_of_ble_eq_true rfl⟩ ⟨rfl, rfl⟩ hx hb hml hown hts hK hA hP hD hS hl.1 ⟨Nat.le_of_ble_eq_true rfl, Nat.le_of_ble_eq_true rfl⟩ rfl rfl rfl (wr := (qX cI (rf 0) nH nV wk ea gi sw f1 f2 f3 f4 f5 f6 f7 f8)) (pm_cnt (fun _ => by simp only [List.countP_append, List.countP_nil, fT] <;> omega)) (fun _ => by simp only [List.map_append, List.map_nil, fX_m, bX_m, sX_m, pX_m, iaX_m, r5X_m, r6X_m, fT_m, hX_m, tX_m, xX_m, sgX_m, zaX_m, fsB_a, qX_m, mX_m]) (rest := []) rfl rfl (Nat.le_of_ble_eq_true rfl) dX9_part_231 (ws2 := (fun _ : Unit => (mX mr rf st L th (plD X L (pl + 1) 0 (hs - 1)) hs vs (dgI X L (pl + 1)) xx ++ iaX cI (rf 5) 120 X ++ qX cI (rf 0) nH nV wk ea gi sw f1 f2 f3 f4 f5 f6 f7 f8))) (fun _ => (pm_cnt (fun _ => by simp only [List.countP_append, List.countP_nil, fT] <;> omega))) (fun _ Hp locs hP hD hS => ?_)
              rcases k1 : dg X L (pl + 1) 0 (hs - 1) with _ | d1
              · skip
                exfalso; rw [rpP_l (by omega) (by omega) (by omega), rpL_1 k1] at hok; cases hok
              · skip
                rw [show (if (some d1).isSome = true then (1 : Int32) else 0) = nI 1 from rfl]
                rw [plD_s k1, dgI_s k1] at hP hD
                obtain ⟨b1_k1, b2_k1, -, -⟩ := dg_le k1
                refine lv_istore_n (lv' := [(2, .int (nI 1)), (0, .ref mr), (1, .int (nI 1))]) hx hb dX9_part_234 rfl hl (by decide) rfl (fun ls hl => ?_)
                refine lv_aload_n hx hb dX9_part_235 rfl (lv_at hl 1 rfl) ?_
                refine gf_n (C := RX9) (T := TX9) (N := 15) (ci := 9) (q0 := 0) (v := .int (nI d1)) hx hb hts (iU inlX9) hown hK hP rfl rfl 13 (by decide) (kU u_270) rfl rfl dX9_part_236 ?_
                refine lv_istore_n (lv' := [(3, .int (nI d1)), (2, .int (nI 1)), (0, .ref mr), (1, .int (nI 1))]) hx hb dX9_part_239 rfl hl (by decide) rfl (fun ls hl => ?_)
                refine lv_iload_n hx hb dX9_part_240 rfl (lv_at hl 1 rfl) ?_
                refine lv_if_eq (tgt := 262) hx hb dX9_part_241 (by decide) (fun c_241 => absurd c_241 (by decide +kernel)) (fun _ => ?_)
                refine lv_aload_n hx hb dX9_part_244 rfl (lv_at hl 2 rfl) ?_
                refine lv_iconst (v := (nI 0)) hx hb dX9_part_245 (by decide) ?_
                refine lv_aload_n hx hb dX9_part_246 rfl (lv_at hl 2 rfl) ?_
                refine gf_n (C := RX9) (T := TX9) (N := 15) (ci := 9) (q0 := 0) (v := .int (nI vs)) hx hb hts (iU inlX9) hown hK hP rfl rfl 12 (by decide) (kU u_261) rfl rfl dX9_part_247 ?_
                refine lv_iconst (v := (nI 1)) hx hb dX9_part_250 (by decide) ?_
                refine lv_isub hx hb dX9_part_251 ?_
                rw [pk_sub (a := vs) (b := 1) (by omega)]
                refine gp_V (ci := 9) (q0 := 0) (cq := (RX9, TX9, 15)) (c_X9_digitTo l D cI cZ cF cL mr rf st L th (pl + 1 + 1) hs vs ((nI d1)) xx X 0 (vs - 1) hL hXt (by omega) (by omega) (by omega)) (gUV u_271 u_272 u_273 u_5 u_274) rfl hdV_X9_digitTo ⟨Nat.le_of_ble_eq_true rfl, Nat.le_of_ble_eq_true rfl⟩ ⟨rfl, rfl⟩ hx hb hml hown hts hK hA hP hD hS hl.1 ⟨Nat.le_of_ble_eq_true rfl, Nat.le_of_ble_eq_true rfl⟩ rfl rfl rfl (wr := (qX cI (rf 0) nH nV wk ea gi sw f1 f2 f3 f4 f5 f6 f7 f8)) (pm_cnt (fun _ => by simp only [List.countP_append, List.countP_nil, fT] <;> omega)) (fun _ => by simp only [List.map_append, List.map_nil, fX_m, bX_m, sX_m, pX_m, iaX_m, r5X_m, r6X_m, fT_m, hX_m, tX_m, xX_m, sgX_m, zaX_m, fsB_a, qX_m, mX_m]) (rest := []) rfl rfl (Nat.le_of_ble_eq_true rfl) dX9_part_252 (ws2 := (fun _ : Unit => (mX mr rf st L th (plD X L (pl + 1 + 1) 0 (vs - 1)) hs vs (dgI X L (pl + 1 + 1)) xx ++ iaX cI (rf 5) 120 X ++ qX cI (rf 0) nH nV wk ea gi sw f1 f2 f3 f4 f5 f6 f7 f8))) (fun _ => (pm_cnt (fun _ => by simp only [List.countP_append, List.countP_nil, fT] <;> omega))) (fun _ Hp locs hP hD hS => ?_)
                rcases k2 : dg X L ((pl + 1) + 1) 0 (vs - 1) with _ | d2
                · skip
                  exfalso; rw [rpP_l (by omega) (by omega) (by omega), rpL_2 k1 k2] at hok; cases hok
                · skip
                  rw [show (if (some d2).isSome = true then (1 : Int32) else 0) = nI 1 from rfl]
                  rw [plD_s k2, dgI_s k2] at hP hD
                  obtain ⟨b1_k2, b2_k2, -, -⟩ := dg_le k2
                  refine lv_if_eq (tgt := 262) hx hb dX9_part_255 (by decide) (fun c_255 => absurd c_255 (by decide +kernel)) (fun _ => ?_)
                  refine lv_iconst (v := (nI 1)) hx hb dX9_part_258 (by decide) ?_
                  refine lv_goto (tgt := 263) hx hb dX9_part_259 (by decide) ?_
                  refine lv_istore_n (lv' := [(2, .int (nI 1)), (3, .int (nI d1)), (0, .ref mr), (1, .int (nI 1))]) hx hb dX9_part_263 rfl hl (by decide) rfl (fun ls hl => ?_)
                  refine lv_aload_n hx hb dX9_part_264 rfl (lv_at hl 2 rfl) ?_
                  refine gf_n (C := RX9) (T := TX9) (N := 15) (ci := 9) (q0 := 0) (v := .int (nI d2)) hx hb hts (iU inlX9) hown hK hP rfl rfl 13 (by decide) (kU u_270) rfl rfl dX9_part_265 ?_
                  refine lv_istore (lv' := [(4, .int (nI d2)), (2, .int (nI 1)), (3, .int (nI d1)), (0, .ref mr), (1, .int (nI 1))]) hx hb dX9_part_268 hl (by decide) rfl (fun ls hl => ?_)
                  refine lv_iload_n hx hb dX9_part_270 rfl (lv_at hl 1 rfl) ?_
                  refine lv_if_eq (tgt := 288) hx hb dX9_part_271 (by decide) (fun c_271 => absurd c_271 (by decide +kernel)) (fun _ => ?_)
                  refine lv_aload_n hx hb dX9_part_274 rfl (lv_at hl 3 rfl) ?_
                  refine lv_iconst (v := (nI 0)) hx hb dX9_part_275 (by decide) ?_
                  refine lv_bipush (v := (nI 9)) hx hb dX9_part_276 (by decide) ?_
                  refine gp_V (ci := 9) (q0 := 0) (cq := (RX9, TX9, 15)) (c_X9_digitTo l D cI cZ cF cL mr rf st L th ((pl + 1) + 1 + 1) hs vs ((nI d2)) xx X 0 9 hL hXt (by omega) (by omega) (by omega)) (gUV u_271 u_272 u_273 u_5 u_274) rfl hdV_X9_digitTo ⟨Nat.le_of_ble_eq_true rfl, Nat.le_of_ble_eq_true rfl⟩ ⟨rfl, rfl⟩ hx hb hml hown hts hK hA hP hD hS hl.1 ⟨Nat.le_of_ble_eq_true rfl, Nat.le_of_ble_eq_true rfl⟩ rfl rfl rfl (wr := (qX cI (rf 0) nH nV wk ea gi sw f1 f2 f3 f4 f5 f6 f7 f8)) (pm_cnt (fun _ => by simp only [List.countP_append, List.countP_nil, fT] <;> omega)) (fun _ => by simp only [List.map_append, List.map_nil, fX_m, bX_m, sX_m, pX_m, iaX_m, r5X_m, r6X_m, fT_m, hX_m, tX_m, xX_m, sgX_m, zaX_m, fsB_a, qX_m, mX_m]) (rest := []) rfl rfl (Nat.le_of_ble_eq_true rfl) dX9_part_278 (ws2 := (fun _ : Unit => (mX mr rf st L th (plD X L ((pl + 1) + 1 + 1) 0 9) hs vs (dgI X L ((pl + 1) + 1 + 1)) xx ++ iaX cI (rf 5) 120 X ++ qX cI (rf 0) nH nV wk ea gi sw f1 f2 f3 f4 f5 f6 f7 f8))) (fun _ => (pm_cnt (fun _ => by simp only [List.countP_append, List.countP_nil, fT] <;> omega))) (fun _ Hp locs hP hD hS => ?_)
                  rcases k3 : dg X L (((pl + 1) + 1) + 1) 0 9 with _ | d3
                  · skip
                    exfalso; rw [rpP_l (by omega) (by omega) (by omega), rpL_3 k1 k2 k3] at hok; cases hok
                  · skip
                    rw [show (if (some d3).isSome = true then (1 : Int32) else 0) = nI 1 from rfl]
                    rw [plD_s k3, dgI_s k3] at hP hD
                    obtain ⟨b1_k3, b2_k3, -, -⟩ := dg_le k3
                    refine lv_if_eq (tgt := 288) hx hb dX9_part_281 (by decide) (fun c_281 => absurd c_281 (by decide +kernel)) (fun _ => ?_)
                    refine lv_iconst (v := (nI 1)) hx hb dX9_part_284 (by decide) ?_
                    refine lv_goto (tgt := 289) hx hb dX9_part_285 (by decide) ?_
                    refine lv_istore_n (lv' := [(2, .int (nI 1)), (4, .int (nI d2)), (3, .int (nI d1)), (0, .ref mr), (1, .int (nI 1))]) hx hb dX9_part_289 rfl hl (by decide) rfl (fun ls hl => ?_)
                    refine lv_iload_n hx hb dX9_part_290 rfl (lv_at hl 0 rfl) ?_
                    refine lv_if_eq (tgt := 313) hx hb dX9_part_291 (by decide) (fun c_291 => absurd c_291 (by decide +kernel)) (fun _ => ?_)
                    refine lv_iload_n hx hb dX9_part_294 rfl (lv_at hl 4 rfl) ?_
                    refine lv_if_eq (tgt := 313) hx hb dX9_part_295 (by decide) (fun c_295 => absurd c_295 (by decide +kernel)) (fun _ => ?_)
                    refine lv_aload_n hx hb dX9_part_298 rfl (lv_at hl 3 rfl) ?_
                    refine gf_n (C := RX9) (T := TX9) (N := 15) (ci := 9) (q0 := 0) (v := .ref (rf 0)) hx hb hts (iU inlX9) hown hK hP rfl rfl 0 (by decide) (kU u_129) rfl rfl dX9_part_299 ?_
                    refine lv_iload_n hx hb dX9_part_302 rfl (lv_at hl 2 rfl) ?_
                    refine lv_iload hx hb dX9_part_303 (lv_at hl 1 rfl) ?_
                    refine gp_S (c_X9_like l D cI cZ cF cL d1 d2 ) (gUS u_281 u_282 u_5 u_283) rfl hdS_X9_like ⟨Nat.le_of_ble_eq_true rfl, Nat.le_of_ble_eq_true rfl⟩ ⟨rfl, rfl⟩ hx hb hml hown hts hK hA hP hD hS hl.1 ⟨Nat.le_of_ble_eq_true rfl, Nat.le_of_ble_eq_true rfl⟩ (wr := (mX mr rf st L th (((pl + 1) + 1) + 1 + 1) hs vs (nI d3) xx ++ iaX cI (rf 5) 120 X ++ qX cI (rf 0) nH nV wk ea gi sw f1 f2 f3 f4 f5 f6 f7 f8)) (pm_cnt (fun _ => by simp only [List.countP_append, List.countP_nil, fT] <;> omega)) (fun _ => by simp only [List.map_append, List.map_nil, fX_m, bX_m, sX_m, pX_m, iaX_m, r5X_m, r6X_m, fT_m, hX_m, tX_m, xX_m, sgX_m, zaX_m, fsB_a, qX_m, mX_m]) (rest := [.ref (rf 0)]) rfl rfl (Nat.le_of_ble_eq_true rfl) dX9_part_305 (ws2 := (fun _ : Unit => (mX mr rf st L th (((pl + 1) + 1) + 1 + 1) hs vs (nI d3) xx ++ iaX cI (rf 5) 120 X ++ qX cI (rf 0) nH nV wk ea gi sw f1 f2 f3 f4 f5 f6 f7 f8))) (fun _ => (pm_cnt (fun _ => by simp only [List.countP_append, List.countP_nil, fT] <;> omega))) (fun _ Hp locs hP hD hS => ?_)
                    refine lv_aload_n hx hb dX9_part_308 rfl (lv_at hl 3 rfl) ?_
                    refine gf_n (C := RX9) (T := TX9) (N := 15) (ci := 9) (q0 := 0) (v := .int (nI d3)) hx hb hts (iU inlX9) hown hK hP rfl rfl 13 (by decide) (kU u_270) rfl rfl dX9_part_309 ?_
                    refine is_n (q0 := 2) (t0 := 0) (ws2 := (mX mr rf st L th (((pl + 1) + 1) + 1 + 1) hs vs (nI d3) xx ++ iaX cI (rf 5) 120 X ++ qX cI (rf 0) nH nV wk ea gi sw f1 f2 f3 f4 f5 f6 (va_up f7 (d1 * 5 + d2) d3) f8)) hx hb hK hP hD hS rfl rfl (by omega) (by decide) dX9_part_312 (by rw [qU_7 (by omega) (by omega)]; rfl) (fun Hp locs hP hD hS => ?_)
                    refine lv_iload_n hx hb dX9_part_313 rfl (lv_at hl 0 rfl) ?_
                    exact ct_z ((nI d3)) hx hb hr hlocks (by first | (rw [rpP_l (by omega) (by omega) (by omega), rpL_1 k1, hsP_f (by omega), vsP_f (by omega)]; exact hP) | (rw [rpP_l (by omega) (by omega) (by omega), rpL_2 k1 k2, hsP_f (by omega), vsP_f (by omega)]; exact hP) | (rw [rpP_l (by omega) (by omega) (by omega), rpL_3 k1 k2 k3, hsP_f (by omega), vsP_f (by omega)]; exact hP) | (rw [rpP_l (by omega) (by omega) (by omega), rpL_4 k1 k2 k3, hsP_f (by omega), vsP_f (by omega)]; exact hP)) hS (by first | (rw [rpP_l (by omega) (by omega) (by omega), rpL_1 k1]; rfl) | (rw [rpP_l (by omega) (by omega) (by omega), rpL_2 k1 k2]; rfl) | (rw [rpP_l (by omega) (by omega) (by omega), rpL_3 k1 k2 k3]; rfl) | (rw [rpP_l (by omega) (by omega) (by omega), rpL_4 k1 k2 k3]; rfl)) dX9_part_314
            · skip
              rw [show (if (pl < L ∧ X pl = 108) then (1 : Int32) else 0) = nI 0 from if_neg (fun z => q_220 z.2)]
              rw [if_neg (show ¬ (pl < L ∧ X pl = 108) from fun z => q_220 z.2)] at hP hD
              refine lv_if_eq (tgt := 315) hx hb dX9_part_220 (by decide) (fun _ => ?_) (fun c_220 => absurd (by decide +kernel) c_220)
              refine lv_aload_n hx hb dX9_part_315 rfl (lv_at hl 0 rfl) ?_
              refine gf_n (C := RX9) (T := TX9) (N := 15) (ci := 9) (q0 := 0) (v := .int (nI hs)) hx hb hts (iU inlX9) hown hK hP rfl rfl 11 (by decide) (kU u_260) rfl rfl dX9_part_316 ?_
              refine lv_if_le (tgt := 349) hx hb dX9_part_319 (by decide) (fun c_319 => ?_) (fun c_319 => ?_)
              · skip
                replace c_319 := cn_le (b := 0) (by omega) (by omega) c_319
                exfalso; rw [rpP_n (by omega) (by omega) (by omega) (by omega)] at hok; cases hok
              · skip
                replace c_319 := cn_nle (b := 0) (by omega) (by omega) c_319
                refine lv_aload_n hx hb dX9_part_322 rfl (lv_at hl 0 rfl) ?_
                refine lv_bipush (v := (nI 115)) hx hb dX9_part_323 (by decide) ?_
                refine gp_V (ci := 9) (q0 := 0) (cq := (RX9, TX9, 15)) (c_X9_letter l D cI cZ cF cL mr rf st L th pl hs vs dg0 xx X 115 hL hXt hpp (by decide)) (gUV u_262 u_263 u_264 u_5 u_265) rfl hdV_X9_letter ⟨Nat.le_of_ble_eq_true rfl, Nat.le_of_ble_eq_true rfl⟩ ⟨rfl, rfl⟩ hx hb hml hown hts hK hA hP hD hS hl.1 ⟨Nat.le_of_ble_eq_true rfl, Nat.le_of_ble_eq_true rfl⟩ rfl rfl rfl (wr := (qX cI (rf 0) nH nV wk ea gi sw f1 f2 f3 f4 f5 f6 f7 f8)) (pm_cnt (fun _ => by simp only [List.countP_append, List.countP_nil, fT] <;> omega)) (fun _ => by simp only [List.map_append, List.map_nil, fX_m, bX_m, sX_m, pX_m, iaX_m, r5X_m, r6X_m, fT_m, hX_m, tX_m, xX_m, sgX_m, zaX_m, fsB_a, qX_m, mX_m]) (rest := []) rfl rfl (Nat.le_of_ble_eq_true rfl) dX9_part_325 (ws2 := (fun _ : Unit => (mX mr rf st L th (if (pl < L ∧ X pl = 115) then pl + 1 else pl) hs vs dg0 xx ++ iaX cI (rf 5) 120 X ++ qX cI (rf 0) nH nV wk ea gi sw f1 f2 f3 f4 f5 f6 f7 f8))) (fun _ => (pm_cnt (fun _ => by simp only [List.countP_append, List.countP_nil, fT] <;> omega))) (fun _ Hp locs hP hD hS => ?_)
                by_cases q_328 : X pl = 115
                · skip
                  rw [show (if (pl < L ∧ X pl = 115) then (1 : Int32) else 0) = nI 1 from if_pos ⟨hpl, q_328⟩]
                  rw [if_pos (⟨hpl, q_328⟩ : (pl < L ∧ X pl = 115))] at hP hD
                  refine lv_if_eq (tgt := 349) hx hb dX9_part_328 (by decide) (fun c_328 => absurd c_328 (by decide +kernel)) (fun _ => ?_)
                  refine lv_aload_n hx hb dX9_part_331 rfl (lv_at hl 0 rfl) ?_
                  refine lv_iconst (v := (nI 0)) hx hb dX9_part_332 (by decide) ?_
                  refine lv_aload_n hx hb dX9_part_333 rfl (lv_at hl 0 rfl) ?_
                  refine gf_n (C := RX9) (T := TX9) (N := 15) (ci := 9) (q0 := 0) (v := .int (nI hs)) hx hb hts (iU inlX9) hown hK hP rfl rfl 11 (by decide) (kU u_260) rfl rfl dX9_part_334 ?_
                  refine lv_iconst (v := (nI 1)) hx hb dX9_part_337 (by decide) ?_
                  refine lv_isub hx hb dX9_part_338 ?_
                  rw [pk_sub (a := hs) (b := 1) (by omega)]
                  refine gp_V (ci := 9) (q0 := 0) (cq := (RX9, TX9, 15)) (c_X9_digitTo l D cI cZ cF cL mr rf st L th (pl + 1) hs vs dg0 xx X 0 (hs - 1) hL hXt (by omega) (by omega) (by omega)) (gUV u_271 u_272 u_273 u_5 u_274) rfl hdV_X9_digitTo ⟨Nat.le_of_ble_eq_true rfl, Nat.le_of_ble_eq_true rfl⟩ ⟨rfl, rfl⟩ hx hb hml hown hts hK hA hP hD hS hl.1 ⟨Nat.le_of_ble_eq_true rfl, Nat.le_of_ble_eq_true rfl⟩ rfl rfl rfl (wr := (qX cI (rf 0) nH nV wk ea gi sw f1 f2 f3 f4 f5 f6 f7 f8)) (pm_cnt (fun _ => by simp only [List.countP_append, List.countP_nil, fT] <;> omega)) (fun _ => by simp only [List.map_append, List.map_nil, fX_m, bX_m, sX_m, pX_m, iaX_m, r5X_m, r6X_m, fT_m, hX_m, tX_m, xX_m, sgX_m, zaX_m, fsB_a, qX_m, mX_m]) (rest := []) rfl rfl (Nat.le_of_ble_eq_true rfl) dX9_part_339 (ws2 := (fun _ : Unit => (mX mr rf st L th (plD X L (pl + 1) 0 (hs - 1)) hs vs (dgI X L (pl + 1)) xx ++ iaX cI (rf 5) 120 X ++ qX cI (rf 0) nH nV wk ea gi sw f1 f2 f3 f4 f5 f6 f7 f8))) (fun _ => (pm_cnt (fun _ => by simp only [List.countP_append, List.countP_nil, fT] <;> omega))) (fun _ Hp locs hP hD hS => ?_)
                  rcases k1 : dg X L (pl + 1) 0 (hs - 1) with _ | d1
                  · skip
                    exfalso; rw [rpP_s (by omega) (by omega) (by omega) (by omega), rpS_1 k1] at hok; cases hok
                  · skip
                    rw [show (if (some d1).isSome = true then (1 : Int32) else 0) = nI 1 from rfl]
                    rw [plD_s k1, dgI_s k1] at hP hD
                    obtain ⟨b1_k1, b2_k1, -, -⟩ := dg_le k1
                    refine lv_if_eq (tgt := 349) hx hb dX9_part_342 (by decide) (fun c_342 => absurd c_342 (by decide +kernel)) (fun _ => ?_)
                    refine lv_iconst (v := (nI 1)) hx hb dX9_part_345 (by decide) ?_
                    refine lv_goto (tgt := 350) hx hb dX9_part_346 (by decide) ?_
                    refine lv_istore_n (lv' := [(2, .int (nI 1)), (0, .ref mr), (1, .int (nI 1))]) hx hb dX9_part_350 rfl hl (by decide) rfl (fun ls hl => ?_)
                    refine lv_iload_n hx hb dX9_part_351 rfl (lv_at hl 0 rfl) ?_
                    refine lv_if_eq (tgt := 374) hx hb dX9_part_352 (by decide) (fun c_352 => absurd c_352 (by decide +kernel)) (fun _ => ?_)
                    refine lv_iload_n hx hb dX9_part_355 rfl (lv_at hl 2 rfl) ?_
                    refine lv_if_eq (tgt := 374) hx hb dX9_part_356 (by decide) (fun c_356 => absurd c_356 (by decide +kernel)) (fun _ => ?_)
                    refine lv_aload_n hx hb dX9_part_359 rfl (lv_at hl 1 rfl) ?_
                    refine gf_n (C := RX9) (T := TX9) (N := 15) (ci := 9) (q0 := 0) (v := .ref (rf 0)) hx hb hts (iU inlX9) hown hK hP rfl rfl 0 (by decide) (kU u_129) rfl rfl dX9_part_360 ?_
                    refine lv_aload_n hx hb dX9_part_363 rfl (lv_at hl 1 rfl) ?_
                    refine gf_n (C := RX9) (T := TX9) (N := 15) (ci := 9) (q0 := 0) (v := .int (nI d1)) hx hb hts (iU inlX9) hown hK hP rfl rfl 13 (by decide) (kU u_270) rfl rfl dX9_part_364 ?_
                    refine gp_S (c_X9_size l D cI cZ cF cL d1 ) (gUS u_275 u_276 u_5 u_277) rfl hdS_X9_size ⟨Nat.le_of_ble_eq_true rfl, Nat.le_of_ble_eq_true rfl⟩ ⟨rfl, rfl⟩ hx hb hml hown hts hK hA hP hD hS hl.1 ⟨Nat.le_of_ble_eq_true rfl, Nat.le_of_ble_eq_true rfl⟩ (wr := (mX mr rf st L th (pl + 1 + 1) hs vs (nI d1) xx ++ iaX cI (rf 5) 120 X ++ qX cI (rf 0) nH nV wk ea gi sw f1 f2 f3 f4 f5 f6 f7 f8)) (pm_cnt (fun _ => by simp only [List.countP_append, List.countP_nil, fT] <;> omega)) (fun _ => by simp only [List.map_append, List.map_nil, fX_m, bX_m, sX_m, pX_m, iaX_m, r5X_m, r6X_m, fT_m, hX_m, tX_m, xX_m, sgX_m, zaX_m, fsB_a, qX_m, mX_m]) (rest := [.ref (rf 0)]) rfl rfl (Nat.le_of_ble_eq_true rfl) dX9_part_367 (ws2 := (fun _ : Unit => (mX mr rf st L th (pl + 1 + 1) hs vs (nI d1) xx ++ iaX cI (rf 5) 120 X ++ qX cI (rf 0) nH nV wk ea gi sw f1 f2 f3 f4 f5 f6 f7 f8))) (fun _ => (pm_cnt (fun _ => by simp only [List.countP_append, List.countP_nil, fT] <;> omega))) (fun _ Hp locs hP hD hS => ?_)
                    refine lv_iconst (v := (nI 3)) hx hb dX9_part_370 (by decide) ?_
                    refine lv_iadd hx hb dX9_part_371 ?_
                    rw [nI_add (6 + 4 * d1) 3]
                    refine lv_iconst (v := (nI 1)) hx hb dX9_part_372 (by decide) ?_
                    refine is_n (q0 := 2) (t0 := 0) (ws2 := (mX mr rf st L th (pl + 1 + 1) hs vs (nI d1) xx ++ iaX cI (rf 5) 120 X ++ qX cI (rf 0) nH nV wk ea gi sw f1 f2 f3 (va_up f4 d1 1) f5 f6 f7 f8)) hx hb hK hP hD hS rfl rfl (by omega) (by decide) dX9_part_373 (by rw [qU_4 (by omega)]; rfl) (fun Hp locs hP hD hS => ?_)
                    refine lv_iload_n hx hb dX9_part_374 rfl (lv_at hl 0 rfl) ?_
                    exact ct_z ((nI d1)) hx hb hr hlocks (by first | (rw [rpP_s (by omega) (by omega) (by omega) (by omega), rpS_1 k1, hsP_f (by omega), vsP_f (by omega)]; exact hP) | (rw [rpP_s (by omega) (by omega) (by omega) (by omega), rpS_2 k1, hsP_f (by omega), vsP_f (by omega)]; exact hP)) hS (by first | (rw [rpP_s (by omega) (by omega) (by omega) (by omega), rpS_1 k1]; rfl) | (rw [rpP_s (by omega) (by omega) (by omega) (by omega), rpS_2 k1]; rfl)) dX9_part_375
                · skip
                  rw [show (if (pl < L ∧ X pl = 115) then (1 : Int32) else 0) = nI 0 from if_neg (fun z => q_328 z.2)]
                  rw [if_neg (show ¬ (pl < L ∧ X pl = 115) from fun z => q_328 z.2)] at hP hD
                  refine lv_if_eq (tgt := 349) hx hb dX9_part_328 (by decide) (fun _ => ?_) (fun c_328 => absurd (by decide +kernel) c_328)
                  exfalso; rw [rpP_n (by omega) (by omega) (by omega) (by omega)] at hok; cases hok
  · skip
    replace c_6 := cn_nle (by omega) (by omega) c_6
    refine lv_aload_n hx hb dX9_part_9 rfl (lv_at hl 0 rfl) ?_
    refine lv_bipush (v := (nI 104)) hx hb dX9_part_10 (by decide) ?_
    refine gp_V (ci := 9) (q0 := 0) (cq := (RX9, TX9, 15)) (c_X9_letter l D cI cZ cF cL mr rf st L th pl hs vs dg0 xx X 104 hL hXt hpp (by decide)) (gUV u_262 u_263 u_264 u_5 u_265) rfl hdV_X9_letter ⟨Nat.le_of_ble_eq_true rfl, Nat.le_of_ble_eq_true rfl⟩ ⟨rfl, rfl⟩ hx hb hml hown hts hK hA hP hD hS hl.1 ⟨Nat.le_of_ble_eq_true rfl, Nat.le_of_ble_eq_true rfl⟩ rfl rfl rfl (wr := (qX cI (rf 0) nH nV wk ea gi sw f1 f2 f3 f4 f5 f6 f7 f8)) (pm_cnt (fun _ => by simp only [List.countP_append, List.countP_nil, fT] <;> omega)) (fun _ => by simp only [List.map_append, List.map_nil, fX_m, bX_m, sX_m, pX_m, iaX_m, r5X_m, r6X_m, fT_m, hX_m, tX_m, xX_m, sgX_m, zaX_m, fsB_a, qX_m, mX_m]) (rest := []) rfl rfl (Nat.le_of_ble_eq_true rfl) dX9_part_12 (ws2 := (fun _ : Unit => (mX mr rf st L th (if (pl < L ∧ X pl = 104) then pl + 1 else pl) hs vs dg0 xx ++ iaX cI (rf 5) 120 X ++ qX cI (rf 0) nH nV wk ea gi sw f1 f2 f3 f4 f5 f6 f7 f8))) (fun _ => (pm_cnt (fun _ => by simp only [List.countP_append, List.countP_nil, fT] <;> omega))) (fun _ Hp locs hP hD hS => ?_)
    by_cases q_15 : X pl = 104
    · skip
      rw [show (if (pl < L ∧ X pl = 104) then (1 : Int32) else 0) = nI 1 from if_pos ⟨hpl, q_15⟩]
      rw [if_pos (⟨hpl, q_15⟩ : (pl < L ∧ X pl = 104))] at hP hD
      refine lv_if_eq (tgt := 101) hx hb dX9_part_15 (by decide) (fun c_15 => absurd c_15 (by decide +kernel)) (fun _ => ?_)
      refine lv_aload_n hx hb dX9_part_18 rfl (lv_at hl 0 rfl) ?_
      refine lv_iconst (v := (nI 1)) hx hb dX9_part_19 (by decide) ?_
      refine lv_iconst (v := (nI 4)) hx hb dX9_part_20 (by decide) ?_
      refine gp_V (ci := 9) (q0 := 0) (cq := (RX9, TX9, 15)) (c_X9_digitTo l D cI cZ cF cL mr rf st L th (pl + 1) hs vs dg0 xx X 1 4 hL hXt (by omega) (by omega) (by omega)) (gUV u_271 u_272 u_273 u_5 u_274) rfl hdV_X9_digitTo ⟨Nat.le_of_ble_eq_true rfl, Nat.le_of_ble_eq_true rfl⟩ ⟨rfl, rfl⟩ hx hb hml hown hts hK hA hP hD hS hl.1 ⟨Nat.le_of_ble_eq_true rfl, Nat.le_of_ble_eq_true rfl⟩ rfl rfl rfl (wr := (qX cI (rf 0) nH nV wk ea gi sw f1 f2 f3 f4 f5 f6 f7 f8)) (pm_cnt (fun _ => by simp only [List.countP_append, List.countP_nil, fT] <;> omega)) (fun _ => by simp only [List.map_append, List.map_nil, fX_m, bX_m, sX_m, pX_m, iaX_m, r5X_m, r6X_m, fT_m, hX_m, tX_m, xX_m, sgX_m, zaX_m, fsB_a, qX_m, mX_m]) (rest := []) rfl rfl (Nat.le_of_ble_eq_true rfl) dX9_part_21 (ws2 := (fun _ : Unit => (mX mr rf st L th (plD X L (pl + 1) 1 4) hs vs (dgI X L (pl + 1)) xx ++ iaX cI (rf 5) 120 X ++ qX cI (rf 0) nH nV wk ea gi sw f1 f2 f3 f4 f5 f6 f7 f8))) (fun _ => (pm_cnt (fun _ => by simp only [List.countP_append, List.countP_nil, fT] <;> omega))) (fun _ Hp locs hP hD hS => ?_)
      rcases k1 : dg X L (pl + 1) 1 4 with _ | d1
      · skip
        exfalso; rw [rpP_h (by omega), rpH_1 k1] at hok; cases hok
      · skip
        rw [show (if (some d1).isSome = true then (1 : Int32) else 0) = nI 1 from rfl]
        rw [plD_s k1, dgI_s k1] at hP hD
        obtain ⟨b1_k1, b2_k1, -, -⟩ := dg_le k1
        refine lv_istore_n (lv' := [(2, .int (nI 1)), (0, .ref mr), (1, .int (nI 1))]) hx hb dX9_part_24 rfl hl (by decide) rfl (fun ls hl => ?_)
        refine lv_aload_n hx hb dX9_part_25 rfl (lv_at hl 1 rfl) ?_
        refine gf_n (C := RX9) (T := TX9) (N := 15) (ci := 9) (q0 := 0) (v := .int (nI d1)) hx hb hts (iU inlX9) hown hK hP rfl rfl 13 (by decide) (kU u_270) rfl rfl dX9_part_26 ?_
        refine lv_istore_n (lv' := [(3, .int (nI d1)), (2, .int (nI 1)), (0, .ref mr), (1, .int (nI 1))]) hx hb dX9_part_29 rfl hl (by decide) rfl (fun ls hl => ?_)
        refine lv_iload_n hx hb dX9_part_30 rfl (lv_at hl 1 rfl) ?_
        refine lv_if_eq (tgt := 48) hx hb dX9_part_31 (by decide) (fun c_31 => absurd c_31 (by decide +kernel)) (fun _ => ?_)
        refine lv_aload_n hx hb dX9_part_34 rfl (lv_at hl 2 rfl) ?_
        refine lv_iconst (v := (nI 0)) hx hb dX9_part_35 (by decide) ?_
        refine lv_bipush (v := (nI 9)) hx hb dX9_part_36 (by decide) ?_
        refine gp_V (ci := 9) (q0 := 0) (cq := (RX9, TX9, 15)) (c_X9_digitTo l D cI cZ cF cL mr rf st L th (pl + 1 + 1) hs vs ((nI d1)) xx X 0 9 hL hXt (by omega) (by omega) (by omega)) (gUV u_271 u_272 u_273 u_5 u_274) rfl hdV_X9_digitTo ⟨Nat.le_of_ble_eq_true rfl, Nat.le_of_ble_eq_true rfl⟩ ⟨rfl, rfl⟩ hx hb hml hown hts hK hA hP hD hS hl.1 ⟨Nat.le_of_ble_eq_true rfl, Nat.le_of_ble_eq_true rfl⟩ rfl rfl rfl (wr := (qX cI (rf 0) nH nV wk ea gi sw f1 f2 f3 f4 f5 f6 f7 f8)) (pm_cnt (fun _ => by simp only [List.countP_append, List.countP_nil, fT] <;> omega)) (fun _ => by simp only [List.map_append, List.map_nil, fX_m, bX_m, sX_m, pX_m, iaX_m, r5X_m, r6X_m, fT_m, hX_m, tX_m, xX_m, sgX_m, zaX_m, fsB_a, qX_m, mX_m]) (rest := []) rfl rfl (Nat.le_of_ble_eq_true rfl) dX9_part_38 (ws2 := (fun _ : Unit => (mX mr rf st L th (plD X L (pl + 1 + 1) 0 9) hs vs (dgI X L (pl + 1 + 1)) xx ++ iaX cI (rf 5) 120 X ++ qX cI (rf 0) nH nV wk ea gi sw f1 f2 f3 f4 f5 f6 f7 f8))) (fun _ => (pm_cnt (fun _ => by simp only [List.countP_append, List.countP_nil, fT] <;> omega))) (fun _ Hp locs hP hD hS => ?_)
        rcases k2 : dg X L ((pl + 1) + 1) 0 9 with _ | d2
        · skip
          exfalso; rw [rpP_h (by omega), rpH_2 k1 k2] at hok; cases hok
        · skip
          rw [show (if (some d2).isSome = true then (1 : Int32) else 0) = nI 1 from rfl]
          rw [plD_s k2, dgI_s k2] at hP hD
          obtain ⟨b1_k2, b2_k2, -, -⟩ := dg_le k2
          refine lv_if_eq (tgt := 48) hx hb dX9_part_41 (by decide) (fun c_41 => absurd c_41 (by decide +kernel)) (fun _ => ?_)
          refine lv_iconst (v := (nI 1)) hx hb dX9_part_44 (by decide) ?_
          refine lv_goto (tgt := 49) hx hb dX9_part_45 (by decide) ?_
          refine lv_istore_n (lv' := [(2, .int (nI 1)), (3, .int (nI d1)), (0, .ref mr), (1, .int (nI 1))]) hx hb dX9_part_49 rfl hl (by decide) rfl (fun ls hl => ?_)
          refine lv_iload_n hx hb dX9_part_50 rfl (lv_at hl 0 rfl) ?_
          refine lv_if_eq (tgt := 89) hx hb dX9_part_51 (by decide) (fun c_51 => absurd c_51 (by decide +kernel)) (fun _ => ?_)
          refine lv_iload_n hx hb dX9_part_54 rfl (lv_at hl 3 rfl) ?_
          refine lv_if_eq (tgt := 89) hx hb dX9_part_55 (by decide) (fun c_55 => absurd c_55 (by decide +kernel)) (fun _ => ?_)
          refine lv_aload_n hx hb dX9_part_58 rfl (lv_at hl 2 rfl) ?_
          refine gf_n (C := RX9) (T := TX9) (N := 15) (ci := 9) (q0 := 0) (v := .ref (rf 0)) hx hb hts (iU inlX9) hown hK hP rfl rfl 0 (by decide) (kU u_129) rfl rfl dX9_part_59 ?_
          refine lv_aload_n hx hb dX9_part_62 rfl (lv_at hl 2 rfl) ?_
          refine gf_n (C := RX9) (T := TX9) (N := 15) (ci := 9) (q0 := 0) (v := .int (nI hs)) hx hb hts (iU inlX9) hown hK hP rfl rfl 11 (by decide) (kU u_260) rfl rfl dX9_part_63 ?_
          refine gp_S (c_X9_size l D cI cZ cF cL hs ) (gUS u_275 u_276 u_5 u_277) rfl hdS_X9_size ⟨Nat.le_of_ble_eq_true rfl, Nat.le_of_ble_eq_true rfl⟩ ⟨rfl, rfl⟩ hx hb hml hown hts hK hA hP hD hS hl.1 ⟨Nat.le_of_ble_eq_true rfl, Nat.le_of_ble_eq_true rfl⟩ (wr := (mX mr rf st L th ((pl + 1) + 1 + 1) hs vs (nI d2) xx ++ iaX cI (rf 5) 120 X ++ qX cI (rf 0) nH nV wk ea gi sw f1 f2 f3 f4 f5 f6 f7 f8)) (pm_cnt (fun _ => by simp only [List.countP_append, List.countP_nil, fT] <;> omega)) (fun _ => by simp only [List.map_append, List.map_nil, fX_m, bX_m, sX_m, pX_m, iaX_m, r5X_m, r6X_m, fT_m, hX_m, tX_m, xX_m, sgX_m, zaX_m, fsB_a, qX_m, mX_m]) (rest := [.ref (rf 0)]) rfl rfl (Nat.le_of_ble_eq_true rfl) dX9_part_66 (ws2 := (fun _ : Unit => (mX mr rf st L th ((pl + 1) + 1 + 1) hs vs (nI d2) xx ++ iaX cI (rf 5) 120 X ++ qX cI (rf 0) nH nV wk ea gi sw f1 f2 f3 f4 f5 f6 f7 f8))) (fun _ => (pm_cnt (fun _ => by simp only [List.countP_append, List.countP_nil, fT] <;> omega))) (fun _ Hp locs hP hD hS => ?_)
          refine lv_iload_n hx hb dX9_part_69 rfl (lv_at hl 1 rfl) ?_
          refine is_n (q0 := 2) (t0 := 0) (ws2 := (mX mr rf st L th ((pl + 1) + 1 + 1) hs vs (nI d2) xx ++ iaX cI (rf 5) 120 X ++ qX cI (rf 0) nH nV wk ea gi sw (va_up f1 hs d1) f2 f3 f4 f5 f6 f7 f8)) hx hb hK hP hD hS rfl rfl (by omega) (by decide) dX9_part_70 (by rw [qU_1 (by omega)]; rfl) (fun Hp locs hP hD hS => ?_)
          refine lv_aload_n hx hb dX9_part_71 rfl (lv_at hl 2 rfl) ?_
          refine gf_n (C := RX9) (T := TX9) (N := 15) (ci := 9) (q0 := 0) (v := .ref (rf 0)) hx hb hts (iU inlX9) hown hK hP rfl rfl 0 (by decide) (kU u_129) rfl rfl dX9_part_72 ?_
          refine lv_aload_n hx hb dX9_part_75 rfl (lv_at hl 2 rfl) ?_
          refine gf_n (C := RX9) (T := TX9) (N := 15) (ci := 9) (q0 := 0) (v := .int (nI hs)) hx hb hts (iU inlX9) hown hK hP rfl rfl 11 (by decide) (kU u_260) rfl rfl dX9_part_76 ?_
          refine gp_S (c_X9_size l D cI cZ cF cL hs ) (gUS u_275 u_276 u_5 u_277) rfl hdS_X9_size ⟨Nat.le_of_ble_eq_true rfl, Nat.le_of_ble_eq_true rfl⟩ ⟨rfl, rfl⟩ hx hb hml hown hts hK hA hP hD hS hl.1 ⟨Nat.le_of_ble_eq_true rfl, Nat.le_of_ble_eq_true rfl⟩ (wr := (mX mr rf st L th ((pl + 1) + 1 + 1) hs vs (nI d2) xx ++ iaX cI (rf 5) 120 X ++ qX cI (rf 0) nH nV wk ea gi sw (va_up f1 hs d1) f2 f3 f4 f5 f6 f7 f8)) (pm_cnt (fun _ => by simp only [List.countP_append, List.countP_nil, fT] <;> omega)) (fun _ => by simp only [List.map_append, List.map_nil, fX_m, bX_m, sX_m, pX_m, iaX_m, r5X_m, r6X_m, fT_m, hX_m, tX_m, xX_m, sgX_m, zaX_m, fsB_a, qX_m, mX_m]) (rest := [.ref (rf 0)]) rfl rfl (Nat.le_of_ble_eq_true rfl) dX9_part_79 (ws2 := (fun _ : Unit => (mX mr rf st L th ((pl + 1) + 1 + 1) hs vs (nI d2) xx ++ iaX cI (rf 5) 120 X ++ qX cI (rf 0) nH nV wk ea gi sw (va_up f1 hs d1) f2 f3 f4 f5 f6 f7 f8))) (fun _ => (pm_cnt (fun _ => by simp only [List.countP_append, List.countP_nil, fT] <;> omega))) (fun _ Hp locs hP hD hS => ?_)
          refine lv_iconst (v := (nI 1)) hx hb dX9_part_82 (by decide) ?_
          refine lv_iadd hx hb dX9_part_83 ?_
          rw [nI_add (6 + 4 * hs) 1]
          refine lv_aload_n hx hb dX9_part_84 rfl (lv_at hl 2 rfl) ?_
          refine gf_n (C := RX9) (T := TX9) (N := 15) (ci := 9) (q0 := 0) (v := .int (nI d2)) hx hb hts (iU inlX9) hown hK hP rfl rfl 13 (by decide) (kU u_270) rfl rfl dX9_part_85 ?_
          refine is_n (q0 := 2) (t0 := 0) (ws2 := (mX mr rf st L th ((pl + 1) + 1 + 1) hs vs (nI d2) xx ++ iaX cI (rf 5) 120 X ++ qX cI (rf 0) nH nV wk ea gi sw (va_up f1 hs d1) (va_up f2 hs d2) f3 f4 f5 f6 f7 f8)) hx hb hK hP hD hS rfl rfl (by omega) (by decide) dX9_part_88 (by rw [qU_2 (by omega)]; rfl) (fun Hp locs hP hD hS => ?_)
          refine lv_aload_n hx hb dX9_part_89 rfl (lv_at hl 2 rfl) ?_
          refine lv_dup hx hb dX9_part_90 rfl ?_
          refine gf_n (C := RX9) (T := TX9) (N := 15) (ci := 9) (q0 := 0) (v := .int (nI hs)) hx hb hts (iU inlX9) hown hK hP rfl rfl 11 (by decide) (kU u_260) rfl rfl dX9_part_91 ?_
          refine lv_iconst (v := (nI 1)) hx hb dX9_part_94 (by decide) ?_
          refine lv_iadd hx hb dX9_part_95 ?_
          rw [nI_add hs 1]
          refine pf_n (C := RX9) (T := TX9) (N := 15) (ci := 9) (q0 := 0) (ty := .int) (v := .int (nI (hs + 1))) (ws2 := (mX mr rf st L th ((pl + 1) + 1 + 1) (hs + 1) vs (nI d2) xx ++ iaX cI (rf 5) 120 X ++ qX cI (rf 0) nH nV wk ea gi sw (va_up f1 hs d1) (va_up f2 hs d2) f3 f4 f5 f6 f7 f8)) hx hb hts (iU inlX9) tyX9 tyX9_ok nmX9 hown hK hP hD hS rfl rfl 11 (by decide) (kU u_260) rfl rfl (tyX9_ok 11 (by decide)) rfl rfl (Nat.le_of_ble_eq_true rfl) dX9_part_96 rfl (fun Hp locs hP hD hS => ?_)
          refine lv_iload_n hx hb dX9_part_99 rfl (lv_at hl 0 rfl) ?_
          exact ct_z ((nI d2)) hx hb hr hlocks (by first | (rw [rpP_h (by omega), rpH_1 k1, hsP_t (by omega), vsP_f (by omega)]; exact hP) | (rw [rpP_h (by omega), rpH_2 k1 k2, hsP_t (by omega), vsP_f (by omega)]; exact hP) | (rw [rpP_h (by omega), rpH_3 k1 k2, hsP_t (by omega), vsP_f (by omega)]; exact hP)) hS (by first | (rw [rpP_h (by omega), rpH_1 k1]; rfl) | (rw [rpP_h (by omega), rpH_2 k1 k2]; rfl) | (rw [rpP_h (by omega), rpH_3 k1 k2]; rfl)) dX9_part_100
    · skip
      rw [show (if (pl < L ∧ X pl = 104) then (1 : Int32) else 0) = nI 0 from if_neg (fun z => q_15 z.2)]
      rw [if_neg (show ¬ (pl < L ∧ X pl = 104) from fun z => q_15 z.2)] at hP hD
      refine lv_if_eq (tgt := 101) hx hb dX9_part_15 (by decide) (fun _ => ?_) (fun c_15 => absurd (by decide +kernel) c_15)
      refine lv_aload_n hx hb dX9_part_101 rfl (lv_at hl 0 rfl) ?_
      refine gf_n (C := RX9) (T := TX9) (N := 15) (ci := 9) (q0 := 0) (v := .int (nI vs)) hx hb hts (iU inlX9) hown hK hP rfl rfl 12 (by decide) (kU u_261) rfl rfl dX9_part_102 ?_
      refine lv_iconst (v := (nI 5)) hx hb dX9_part_105 (by decide) ?_
      refine lv_icmp_ge (tgt := 200) hx hb dX9_part_106 (by decide) (fun c_106 => ?_) (fun c_106 => ?_)
      · skip
        replace c_106 := cn_le (by omega) (by omega) c_106
        refine lv_aload_n hx hb dX9_part_200 rfl (lv_at hl 0 rfl) ?_
        refine gf_n (C := RX9) (T := TX9) (N := 15) (ci := 9) (q0 := 0) (v := .int (nI hs)) hx hb hts (iU inlX9) hown hK hP rfl rfl 11 (by decide) (kU u_260) rfl rfl dX9_part_201 ?_
        refine lv_if_le (tgt := 315) hx hb dX9_part_204 (by decide) (fun c_204 => ?_) (fun c_204 => ?_)
        · skip
          replace c_204 := cn_le (b := 0) (by omega) (by omega) c_204
          refine lv_aload_n hx hb dX9_part_315 rfl (lv_at hl 0 rfl) ?_
          refine gf_n (C := RX9) (T := TX9) (N := 15) (ci := 9) (q0 := 0) (v := .int (nI hs)) hx hb hts (iU inlX9) hown hK hP rfl rfl 11 (by decide) (kU u_260) rfl rfl dX9_part_316 ?_
          refine lv_if_le (tgt := 349) hx hb dX9_part_319 (by decide) (fun c_319 => ?_) (fun c_319 => ?_)
          · skip
            replace c_319 := cn_le (b := 0) (by omega) (by omega) c_319
            exfalso; rw [rpP_n (by omega) (by omega) (by omega) (by omega)] at hok; cases hok
          · skip
            replace c_319 := cn_nle (b := 0) (by omega) (by omega) c_319
            refine lv_aload_n hx hb dX9_part_322 rfl (lv_at hl 0 rfl) ?_
            refine lv_bipush (v := (nI 115)) hx hb dX9_part_323 (by decide) ?_
            refine gp_V (ci := 9) (q0 := 0) (cq := (RX9, TX9, 15)) (c_X9_letter l D cI cZ cF cL mr rf st L th pl hs vs dg0 xx X 115 hL hXt hpp (by decide)) (gUV u_262 u_263 u_264 u_5 u_265) rfl hdV_X9_letter ⟨Nat.le_of_ble_eq_true rfl, Nat.le_of_ble_eq_true rfl⟩ ⟨rfl, rfl⟩ hx hb hml hown hts hK hA hP hD hS hl.1 ⟨Nat.le_of_ble_eq_true rfl, Nat.le_of_ble_eq_true rfl⟩ rfl rfl rfl (wr := (qX cI (rf 0) nH nV wk ea gi sw f1 f2 f3 f4 f5 f6 f7 f8)) (pm_cnt (fun _ => by simp only [List.countP_append, List.countP_nil, fT] <;> omega)) (fun _ => by simp only [List.map_append, List.map_nil, fX_m, bX_m, sX_m, pX_m, iaX_m, r5X_m, r6X_m, fT_m, hX_m, tX_m, xX_m, sgX_m, zaX_m, fsB_a, qX_m, mX_m]) (rest := []) rfl rfl (Nat.le_of_ble_eq_true rfl) dX9_part_325 (ws2 := (fun _ : Unit => (mX mr rf st L th (if (pl < L ∧ X pl = 115) then pl + 1 else pl) hs vs dg0 xx ++ iaX cI (rf 5) 120 X ++ qX cI (rf 0) nH nV wk ea gi sw f1 f2 f3 f4 f5 f6 f7 f8))) (fun _ => (pm_cnt (fun _ => by simp only [List.countP_append, List.countP_nil, fT] <;> omega))) (fun _ Hp locs hP hD hS => ?_)
            by_cases q_328 : X pl = 115
            · skip
              rw [show (if (pl < L ∧ X pl = 115) then (1 : Int32) else 0) = nI 1 from if_pos ⟨hpl, q_328⟩]
              rw [if_pos (⟨hpl, q_328⟩ : (pl < L ∧ X pl = 115))] at hP hD
              refine lv_if_eq (tgt := 349) hx hb dX9_part_328 (by decide) (fun c_328 => absurd c_328 (by decide +kernel)) (fun _ => ?_)
              refine lv_aload_n hx hb dX9_part_331 rfl (lv_at hl 0 rfl) ?_
              refine lv_iconst (v := (nI 0)) hx hb dX9_part_332 (by decide) ?_
              refine lv_aload_n hx hb dX9_part_333 rfl (lv_at hl 0 rfl) ?_
              refine gf_n (C := RX9) (T := TX9) (N := 15) (ci := 9) (q0 := 0) (v := .int (nI hs)) hx hb hts (iU inlX9) hown hK hP rfl rfl 11 (by decide) (kU u_260) rfl rfl dX9_part_334 ?_
              refine lv_iconst (v := (nI 1)) hx hb dX9_part_337 (by decide) ?_
              refine lv_isub hx hb dX9_part_338 ?_
              rw [pk_sub (a := hs) (b := 1) (by omega)]
              refine gp_V (ci := 9) (q0 := 0) (cq := (RX9, TX9, 15)) (c_X9_digitTo l D cI cZ cF cL mr rf st L th (pl + 1) hs vs dg0 xx X 0 (hs - 1) hL hXt (by omega) (by omega) (by omega)) (gUV u_271 u_272 u_273 u_5 u_274) rfl hdV_X9_digitTo ⟨Nat.le_of_ble_eq_true rfl, Nat.le_of_ble_eq_true rfl⟩ ⟨rfl, rfl⟩ hx hb hml hown hts hK hA hP hD hS hl.1 ⟨Nat.le_of_ble_eq_true rfl, Nat.le_of_ble_eq_true rfl⟩ rfl rfl rfl (wr := (qX cI (rf 0) nH nV wk ea gi sw f1 f2 f3 f4 f5 f6 f7 f8)) (pm_cnt (fun _ => by simp only [List.countP_append, List.countP_nil, fT] <;> omega)) (fun _ => by simp only [List.map_append, List.map_nil, fX_m, bX_m, sX_m, pX_m, iaX_m, r5X_m, r6X_m, fT_m, hX_m, tX_m, xX_m, sgX_m, zaX_m, fsB_a, qX_m, mX_m]) (rest := []) rfl rfl (Nat.le_of_ble_eq_true rfl) dX9_part_339 (ws2 := (fun _ : Unit => (mX mr rf st L th (plD X L (pl + 1) 0 (hs - 1)) hs vs (dgI X L (pl + 1)) xx ++ iaX cI (rf 5) 120 X ++ qX cI (rf 0) nH nV wk ea gi sw f1 f2 f3 f4 f5 f6 f7 f8))) (fun _ => (pm_cnt (fun _ => by simp only [List.countP_append, List.countP_nil, fT] <;> omega))) (fun _ Hp locs hP hD hS => ?_)
              rcases k1 : dg X L (pl + 1) 0 (hs - 1) with _ | d1
              · skip
                exfalso; rw [rpP_s (by omega) (by omega) (by omega) (by omega), rpS_1 k1] at hok; cases hok
              · skip
                rw [show (if (some d1).isSome = true then (1 : Int32) else 0) = nI 1 from rfl]
                rw [plD_s k1, dgI_s k1] at hP hD
                obtain ⟨b1_k1, b2_k1, -, -⟩ := dg_le k1
                refine lv_if_eq (tgt := 349) hx hb dX9_part_342 (by decide) (fun c_342 => absurd c_342 (by decide +kernel)) (fun _ => ?_)
                refine lv_iconst (v := (nI 1)) hx hb dX9_part_345 (by decide) ?_
                refine lv_goto (tgt := 350) hx hb dX9_part_346 (by decide) ?_
                refine lv_istore_n (lv' := [(2, .int (nI 1)), (0, .ref mr), (1, .int (nI 1))]) hx hb dX9_part_350 rfl hl (by decide) rfl (fun ls hl => ?_)
                refine lv_iload_n hx hb dX9_part_351 rfl (lv_at hl 0 rfl) ?_
                refine lv_if_eq (tgt := 374) hx hb dX9_part_352 (by decide) (fun c_352 => absurd c_352 (by decide +kernel)) (fun _ => ?_)
                refine lv_iload_n hx hb dX9_part_355 rfl (lv_at hl 2 rfl) ?_
                refine lv_if_eq (tgt := 374) hx hb dX9_part_356 (by decide) (fun c_356 => absurd c_356 (by decide +kernel)) (fun _ => ?_)
                refine lv_aload_n hx hb dX9_part_359 rfl (lv_at hl 1 rfl) ?_
                refine gf_n (C := RX9) (T := TX9) (N := 15) (ci := 9) (q0 := 0) (v := .ref (rf 0)) hx hb hts (iU inlX9) hown hK hP rfl rfl 0 (by decide) (kU u_129) rfl rfl dX9_part_360 ?_
                refine lv_aload_n hx hb dX9_part_363 rfl (lv_at hl 1 rfl) ?_
                refine gf_n (C := RX9) (T := TX9) (N := 15) (ci := 9) (q0 := 0) (v := .int (nI d1)) hx hb hts (iU inlX9) hown hK hP rfl rfl 13 (by decide) (kU u_270) rfl rfl dX9_part_364 ?_
                refine gp_S (c_X9_size l D cI cZ cF cL d1 ) (gUS u_275 u_276 u_5 u_277) rfl hdS_X9_size ⟨Nat.le_of_ble_eq_true rfl, Nat.le_of_ble_eq_true rfl⟩ ⟨rfl, rfl⟩ hx hb hml hown hts hK hA hP hD hS hl.1 ⟨Nat.le_of_ble_eq_true rfl, Nat.le_of_ble_eq_true rfl⟩ (wr := (mX mr rf st L th (pl + 1 + 1) hs vs (nI d1) xx ++ iaX cI (rf 5) 120 X ++ qX cI (rf 0) nH nV wk ea gi sw f1 f2 f3 f4 f5 f6 f7 f8)) (pm_cnt (fun _ => by simp only [List.countP_append, List.countP_nil, fT] <;> omega)) (fun _ => by simp only [List.map_append, List.map_nil, fX_m, bX_m, sX_m, pX_m, iaX_m, r5X_m, r6X_m, fT_m, hX_m, tX_m, xX_m, sgX_m, zaX_m, fsB_a, qX_m, mX_m]) (rest := [.ref (rf 0)]) rfl rfl (Nat.le_of_ble_eq_true rfl) dX9_part_367 (ws2 := (fun _ : Unit => (mX mr rf st L th (pl + 1 + 1) hs vs (nI d1) xx ++ iaX cI (rf 5) 120 X ++ qX cI (rf 0) nH nV wk ea gi sw f1 f2 f3 f4 f5 f6 f7 f8))) (fun _ => (pm_cnt (fun _ => by simp only [List.countP_append, List.countP_nil, fT] <;> omega))) (fun _ Hp locs hP hD hS => ?_)
                refine lv_iconst (v := (nI 3)) hx hb dX9_part_370 (by decide) ?_
                refine lv_iadd hx hb dX9_part_371 ?_
                rw [nI_add (6 + 4 * d1) 3]
                refine lv_iconst (v := (nI 1)) hx hb dX9_part_372 (by decide) ?_
                refine is_n (q0 := 2) (t0 := 0) (ws2 := (mX mr rf st L th (pl + 1 + 1) hs vs (nI d1) xx ++ iaX cI (rf 5) 120 X ++ qX cI (rf 0) nH nV wk ea gi sw f1 f2 f3 (va_up f4 d1 1) f5 f6 f7 f8)) hx hb hK hP hD hS rfl rfl (by omega) (by decide) dX9_part_373 (by rw [qU_4 (by omega)]; rfl) (fun Hp locs hP hD hS => ?_)
                refine lv_iload_n hx hb dX9_part_374 rfl (lv_at hl 0 rfl) ?_
                exact ct_z ((nI d1)) hx hb hr hlocks (by first | (rw [rpP_s (by omega) (by omega) (by omega) (by omega), rpS_1 k1, hsP_f (by omega), vsP_f (by omega)]; exact hP) | (rw [rpP_s (by omega) (by omega) (by omega) (by omega), rpS_2 k1, hsP_f (by omega), vsP_f (by omega)]; exact hP)) hS (by first | (rw [rpP_s (by omega) (by omega) (by omega) (by omega), rpS_1 k1]; rfl) | (rw [rpP_s (by omega) (by omega) (by omega) (by omega), rpS_2 k1]; rfl)) dX9_part_375
            · skip
              rw [show (if (pl < L ∧ X pl = 115) then (1 : Int32) else 0) = nI 0 from if_neg (fun z => q_328 z.2)]
              rw [if_neg (show ¬ (pl < L ∧ X pl = 115) from fun z => q_328 z.2)] at hP hD
              refine lv_if_eq (tgt := 349) hx hb dX9_part_328 (by decide) (fun _ => ?_) (fun c_328 => absurd (by decide +kernel) c_328)
              exfalso; rw [rpP_n (by omega) (by omega) (by omega) (by omega)] at hok; cases hok
        · skip
          replace c_204 := cn_nle (b := 0) (by omega) (by omega) c_204
          refine lv_aload_n hx hb dX9_part_207 rfl (lv_at hl 0 rfl) ?_
          refine gf_n (C := RX9) (T := TX9) (N := 15) (ci := 9) (q0 := 0) (v := .int (nI vs)) hx hb hts (iU inlX9) hown hK hP rfl rfl 12 (by decide) (kU u_261) rfl rfl dX9_part_208 ?_
          refine lv_if_le (tgt := 315) hx hb dX9_part_211 (by decide) (fun c_211 => ?_) (fun c_211 => ?_)
          · skip
            replace c_211 := cn_le (b := 0) (by omega) (by omega) c_211
            refine lv_aload_n hx hb dX9_part_315 rfl (lv_at hl 0 rfl) ?_
            refine gf_n (C := RX9) (T := TX9) (N := 15) (ci := 9) (q0 := 0) (v := .int (nI hs)) hx hb hts (iU inlX9) hown hK hP rfl rfl 11 (by decide) (kU u_260) rfl rfl dX9_part_316 ?_
            refine lv_if_le (tgt := 349) hx hb dX9_part_319 (by decide) (fun c_319 => ?_) (fun c_319 => ?_)
            · skip
              replace c_319 := cn_le (b := 0) (by omega) (by omega) c_319
              exfalso; rw [rpP_n (by omega) (by omega) (by omega) (by omega)] at hok; cases hok
            · skip
              replace c_319 := cn_nle (b := 0) (by omega) (by omega) c_319
              refine lv_aload_n hx hb dX9_part_322 rfl (lv_at hl 0 rfl) ?_
              refine lv_bipush (v := (nI 115)) hx hb dX9_part_323 (by decide) ?_
              refine gp_V (ci := 9) (q0 := 0) (cq := (RX9, TX9, 15)) (c_X9_letter l D cI cZ cF cL mr rf st L th pl hs vs dg0 xx X 115 hL hXt hpp (by decide)) (gUV u_262 u_263 u_264 u_5 u_265) rfl hdV_X9_letter ⟨Nat.le_of_ble_eq_true rfl, Nat.le_of_ble_eq_true rfl⟩ ⟨rfl, rfl⟩ hx hb hml hown hts hK hA hP hD hS hl.1 ⟨Nat.le_of_ble_eq_true rfl, Nat.le_of_ble_eq_true rfl⟩ rfl rfl rfl (wr := (qX cI (rf 0) nH nV wk ea gi sw f1 f2 f3 f4 f5 f6 f7 f8)) (pm_cnt (fun _ => by simp only [List.countP_append, List.countP_nil, fT] <;> omega)) (fun _ => by simp only [List.map_append, List.map_nil, fX_m, bX_m, sX_m, pX_m, iaX_m, r5X_m, r6X_m, fT_m, hX_m, tX_m, xX_m, sgX_m, zaX_m, fsB_a, qX_m, mX_m]) (rest := []) rfl rfl (Nat.le_of_ble_eq_true rfl) dX9_part_325 (ws2 := (fun _ : Unit => (mX mr rf st L th (if (pl < L ∧ X pl = 115) then pl + 1 else pl) hs vs dg0 xx ++ iaX cI (rf 5) 120 X ++ qX cI (rf 0) nH nV wk ea gi sw f1 f2 f3 f4 f5 f6 f7 f8))) (fun _ => (pm_cnt (fun _ => by simp only [List.countP_append, List.countP_nil, fT] <;> omega))) (fun _ Hp locs hP hD hS => ?_)
              by_cases q_328 : X pl = 115
              · skip
                rw [show (if (pl < L ∧ X pl = 115) then (1 : Int32) else 0) = nI 1 from if_pos ⟨hpl, q_328⟩]
                rw [if_pos (⟨hpl, q_328⟩ : (pl < L ∧ X pl = 115))] at hP hD
                refine lv_if_eq (tgt := 349) hx hb dX9_part_328 (by decide) (fun c_328 => absurd c_328 (by decide +kernel)) (fun _ => ?_)
                refine lv_aload_n hx hb dX9_part_331 rfl (lv_at hl 0 rfl) ?_
                refine lv_iconst (v := (nI 0)) hx hb dX9_part_332 (by decide) ?_
                refine lv_aload_n hx hb dX9_part_333 rfl (lv_at hl 0 rfl) ?_
                refine gf_n (C := RX9) (T := TX9) (N := 15) (ci := 9) (q0 := 0) (v := .int (nI hs)) hx hb hts (iU inlX9) hown hK hP rfl rfl 11 (by decide) (kU u_260) rfl rfl dX9_part_334 ?_
                refine lv_iconst (v := (nI 1)) hx hb dX9_part_337 (by decide) ?_
                refine lv_isub hx hb dX9_part_338 ?_
                rw [pk_sub (a := hs) (b := 1) (by omega)]
                refine gp_V (ci := 9) (q0 := 0) (cq := (RX9, TX9, 15)) (c_X9_digitTo l D cI cZ cF cL mr rf st L th (pl + 1) hs vs dg0 xx X 0 (hs - 1) hL hXt (by omega) (by omega) (by omega)) (gUV u_271 u_272 u_273 u_5 u_274) rfl hdV_X9_digitTo ⟨Nat.le_of_ble_eq_true rfl, Nat.le_of_ble_eq_true rfl⟩ ⟨rfl, rfl⟩ hx hb hml hown hts hK hA hP hD hS hl.1 ⟨Nat.le_of_ble_eq_true rfl, Nat.le_of_ble_eq_true rfl⟩ rfl rfl rfl (wr := (qX cI (rf 0) nH nV wk ea gi sw f1 f2 f3 f4 f5 f6 f7 f8)) (pm_cnt (fun _ => by simp only [List.countP_append, List.countP_nil, fT] <;> omega)) (fun _ => by simp only [List.map_append, List.map_nil, fX_m, bX_m, sX_m, pX_m, iaX_m, r5X_m, r6X_m, fT_m, hX_m, tX_m, xX_m, sgX_m, zaX_m, fsB_a, qX_m, mX_m]) (rest := []) rfl rfl (Nat.le_of_ble_eq_true rfl) dX9_part_339 (ws2 := (fun _ : Unit => (mX mr rf st L th (plD X L (pl + 1) 0 (hs - 1)) hs vs (dgI X L (pl + 1)) xx ++ iaX cI (rf 5) 120 X ++ qX cI (rf 0) nH nV wk ea gi sw f1 f2 f3 f4 f5 f6 f7 f8))) (fun _ => (pm_cnt (fun _ => by simp only [List.countP_append, List.countP_nil, fT] <;> omega))) (fun _ Hp locs hP hD hS => ?_)
                rcases k1 : dg X L (pl + 1) 0 (hs - 1) with _ | d1
                · skip
                  exfalso; rw [rpP_s (by omega) (by omega) (by omega) (by omega), rpS_1 k1] at hok; cases hok
                · skip
                  rw [show (if (some d1).isSome = true then (1 : Int32) else 0) = nI 1 from rfl]
                  rw [plD_s k1, dgI_s k1] at hP hD
                  obtain ⟨b1_k1, b2_k1, -, -⟩ := dg_le k1
                  refine lv_if_eq (tgt := 349) hx hb dX9_part_342 (by decide) (fun c_342 => absurd c_342 (by decide +kernel)) (fun _ => ?_)
                  refine lv_iconst (v := (nI 1)) hx hb dX9_part_345 (by decide) ?_
                  refine lv_goto (tgt := 350) hx hb dX9_part_346 (by decide) ?_
                  refine lv_istore_n (lv' := [(2, .int (nI 1)), (0, .ref mr), (1, .int (nI 1))]) hx hb dX9_part_350 rfl hl (by decide) rfl (fun ls hl => ?_)
                  refine lv_iload_n hx hb dX9_part_351 rfl (lv_at hl 0 rfl) ?_
                  refine lv_if_eq (tgt := 374) hx hb dX9_part_352 (by decide) (fun c_352 => absurd c_352 (by decide +kernel)) (fun _ => ?_)
                  refine lv_iload_n hx hb dX9_part_355 rfl (lv_at hl 2 rfl) ?_
                  refine lv_if_eq (tgt := 374) hx hb dX9_part_356 (by decide) (fun c_356 => absurd c_356 (by decide +kernel)) (fun _ => ?_)
                  refine lv_aload_n hx hb dX9_part_359 rfl (lv_at hl 1 rfl) ?_
                  refine gf_n (C := RX9) (T := TX9) (N := 15) (ci := 9) (q0 := 0) (v := .ref (rf 0)) hx hb hts (iU inlX9) hown hK hP rfl rfl 0 (by decide) (kU u_129) rfl rfl dX9_part_360 ?_
                  refine lv_aload_n hx hb dX9_part_363 rfl (lv_at hl 1 rfl) ?_
                  refine gf_n (C := RX9) (T := TX9) (N := 15) (ci := 9) (q0 := 0) (v := .int (nI d1)) hx hb hts (iU inlX9) hown hK hP rfl rfl 13 (by decide) (kU u_270) rfl rfl dX9_part_364 ?_
                  refine gp_S (c_X9_size l D cI cZ cF cL d1 ) (gUS u_275 u_276 u_5 u_277) rfl hdS_X9_size ⟨Nat.le_of_ble_eq_true rfl, Nat.le_of_ble_eq_true rfl⟩ ⟨rfl, rfl⟩ hx hb hml hown hts hK hA hP hD hS hl.1 ⟨Nat.le_of_ble_eq_true rfl, Nat.le_of_ble_eq_true rfl⟩ (wr := (mX mr rf st L th (pl + 1 + 1) hs vs (nI d1) xx ++ iaX cI (rf 5) 120 X ++ qX cI (rf 0) nH nV wk ea gi sw f1 f2 f3 f4 f5 f6 f7 f8)) (pm_cnt (fun _ => by simp only [List.countP_append, List.countP_nil, fT] <;> omega)) (fun _ => by simp only [List.map_append, List.map_nil, fX_m, bX_m, sX_m, pX_m, iaX_m, r5X_m, r6X_m, fT_m, hX_m, tX_m, xX_m, sgX_m, zaX_m, fsB_a, qX_m, mX_m]) (rest := [.ref (rf 0)]) rfl rfl (Nat.le_of_ble_eq_true rfl) dX9_part_367 (ws2 := (fun _ : Unit => (mX mr rf st L th (pl + 1 + 1) hs vs (nI d1) xx ++ iaX cI (rf 5) 120 X ++ qX cI (rf 0) nH nV wk ea gi sw f1 f2 f3 f4 f5 f6 f7 f8))) (fun _ => (pm_cnt (fun _ => by simp only [List.countP_append, List.countP_nil, fT] <;> omega))) (fun _ Hp locs hP hD hS => ?_)
                  refine lv_iconst (v := (nI 3)) hx hb dX9_part_370 (by decide) ?_
                  refine lv_iadd hx hb dX9_part_371 ?_
                  rw [nI_add (6 + 4 * d1) 3]
                  refine lv_iconst (v := (nI 1)) hx hb dX9_part_372 (by decide) ?_
                  refine is_n (q0 := 2) (t0 := 0) (ws2 := (mX mr rf st L th (pl + 1 + 1) hs vs (nI d1) xx ++ iaX cI (rf 5) 120 X ++ qX cI (rf 0) nH nV wk ea gi sw f1 f2 f3 (va_up f4 d1 1) f5 f6 f7 f8)) hx hb hK hP hD hS rfl rfl (by omega) (by decide) dX9_part_373 (by rw [qU_4 (by omega)]; rfl) (fun Hp locs hP hD hS => ?_)
                  refine lv_iload_n hx hb dX9_part_374 rfl (lv_at hl 0 rfl) ?_
                  exact ct_z ((nI d1)) hx hb hr hlocks (by first | (rw [rpP_s (by omega) (by omega) (by omega) (by omega), rpS_1 k1, hsP_f (by omega), vsP_f (by omega)]; exact hP) | (rw [rpP_s (by omega) (by omega) (by omega) (by omega), rpS_2 k1, hsP_f (by omega), vsP_f (by omega)]; exact hP)) hS (by first | (rw [rpP_s (by omega) (by omega) (by omega) (by omega), rpS_1 k1]; rfl) | (rw [rpP_s (by omega) (by omega) (by omega) (by omega), rpS_2 k1]; rfl)) dX9_part_375
              · skip
                rw [show (if (pl < L ∧ X pl = 115) then (1 : Int32) else 0) = nI 0 from if_neg (fun z => q_328 z.2)]
                rw [if_neg (show ¬ (pl < L ∧ X pl = 115) from fun z => q_328 z.2)] at hP hD
                refine lv_if_eq (tgt := 349) hx hb dX9_part_328 (by decide) (fun _ => ?_) (fun c_328 => absurd (by decide +kernel) c_328)
                exfalso; rw [rpP_n (by omega) (by omega) (by omega) (by omega)] at hok; cases hok
          · skip
            replace c_211 := cn_nle (b := 0) (by omega) (by omega) c_211
            refine lv_aload_n hx hb dX9_part_214 rfl (lv_at hl 0 rfl) ?_
            refine lv_bipush (v := (nI 108)) hx hb dX9_part_215 (by decide) ?_
            refine gp_V (ci := 9) (q0 := 0) (cq := (RX9, TX9, 15)) (c_X9_letter l D cI cZ cF cL mr rf st L th pl hs vs dg0 xx X 108 hL hXt hpp (by decide)) (gUV u_262 u_263 u_264 u_5 u_265) rfl hdV_X9_letter ⟨Nat.le_of_ble_eq_true rfl, Nat.le_of_ble_eq_true rfl⟩ ⟨rfl, rfl⟩ hx hb hml hown hts hK hA hP hD hS hl.1 ⟨Nat.le_of_ble_eq_true rfl, Nat.le_of_ble_eq_true rfl⟩ rfl rfl rfl (wr := (qX cI (rf 0) nH nV wk ea gi sw f1 f2 f3 f4 f5 f6 f7 f8)) (pm_cnt (fun _ => by simp only [List.countP_append, List.countP_nil, fT] <;> omega)) (fun _ => by simp only [List.map_append, List.map_nil, fX_m, bX_m, sX_m, pX_m, iaX_m, r5X_m, r6X_m, fT_m, hX_m, tX_m, xX_m, sgX_m, zaX_m, fsB_a, qX_m, mX_m]) (rest := []) rfl rfl (Nat.le_of_ble_eq_true rfl) dX9_part_217 (ws2 := (fun _ : Unit => (mX mr rf st L th (if (pl < L ∧ X pl = 108) then pl + 1 else pl) hs vs dg0 xx ++ iaX cI (rf 5) 120 X ++ qX cI (rf 0) nH nV wk ea gi sw f1 f2 f3 f4 f5 f6 f7 f8))) (fun _ => (pm_cnt (fun _ => by simp only [List.countP_append, List.countP_nil, fT] <;> omega))) (fun _ Hp locs hP hD hS => ?_)
            by_cases q_220 : X pl = 108
            · skip
              rw [show (if (pl < L ∧ X pl = 108) then (1 : Int32) else 0) = nI 1 from if_pos ⟨hpl, q_220⟩]
              rw [if_pos (⟨hpl, q_220⟩ : (pl < L ∧ X pl = 108))] at hP hD
              refine lv_if_eq (tgt := 315) hx hb dX9_part_220 (by decide) (fun c_220 => absurd c_220 (by decide +kernel)) (fun _ => ?_)
              refine lv_aload_n hx hb dX9_part_223 rfl (lv_at hl 0 rfl) ?_
              refine lv_iconst (v := (nI 0)) hx hb dX9_part_224 (by decide) ?_
              refine lv_aload_n hx hb dX9_part_225 rfl (lv_at hl 0 rfl) ?_
              refine gf_n (C := RX9) (T := TX9) (N := 15) (ci := 9) (q0 := 0) (v := .int (nI hs)) hx hb hts (iU inlX9) hown hK hP rfl rfl 11 (by decide) (kU u_260) rfl rfl dX9_part_226 ?_
              refine lv_iconst (v := (nI 1)) hx hb dX9_part_229 (by decide) ?_
              refine lv_isub hx hb dX9_part_230 ?_
              rw [pk_sub (a := hs) (b := 1) (by omega)]
              refine gp_V (ci := 9) (q0 := 0) (cq := (RX9, TX9, 15)) (c_X9_digitTo l D cI cZ cF cL mr rf st L th (pl + 1) hs vs dg0 xx X 0 (hs - 1) hL hXt (by omega) (by omega) (by omega)) (gUV u_271 u_272 u_273 u_5 u_274) rfl hdV_X9_digitTo ⟨Nat.le_of_ble_eq_true rfl, Nat.le_of_ble_eq_true rfl⟩ ⟨rfl, rfl⟩ hx hb hml hown hts hK hA hP hD hS hl.1 ⟨Nat.le_of_ble_eq_true rfl, Nat.le_of_ble_eq_true rfl⟩ rfl rfl rfl (wr := (qX cI (rf 0) nH nV wk ea gi sw f1 f2 f3 f4 f5 f6 f7 f8)) (pm_cnt (fun _ => by simp only [List.countP_append, List.countP_nil, fT] <;> omega)) (fun _ => by simp only [List.map_append, List.map_nil, fX_m, bX_m, sX_m, pX_m, iaX_m, r5X_m, r6X_m, fT_m, hX_m, tX_m, xX_m, sgX_m, zaX_m, fsB_a, qX_m, mX_m]) (rest := []) rfl rfl (Nat.le_of_ble_eq_true rfl) dX9_part_231 (ws2 := (fun _ : Unit => (mX mr rf st L th (plD X L (pl + 1) 0 (hs - 1)) hs vs (dgI X L (pl + 1)) xx ++ iaX cI (rf 5) 120 X ++ qX cI (rf 0) nH nV wk ea gi sw f1 f2 f3 f4 f5 f6 f7 f8))) (fun _ => (pm_cnt (fun _ => by simp only [List.countP_append, List.countP_nil, fT] <;> omega))) (fun _ Hp locs hP hD hS => ?_)
              rcases k1 : dg X L (pl + 1) 0 (hs - 1) with _ | d1
              · skip
                exfalso; rw [rpP_l (by omega) (by omega) (by omega), rpL_1 k1] at hok; cases hok
              · skip
                rw [show (if (some d1).isSome = true then (1 : Int32) else 0) = nI 1 from rfl]
                rw [plD_s k1, dgI_s k1] at hP hD
                obtain ⟨b1_k1, b2_k1, -, -⟩ := dg_le k1
                refine lv_istore_n (lv' := [(2, .int (nI 1)), (0, .ref mr), (1, .int (nI 1))]) hx hb dX9_part_234 rfl hl (by decide) rfl (fun ls hl => ?_)
                refine lv_aload_n hx hb dX9_part_235 rfl (lv_at hl 1 rfl) ?_
                refine gf_n (C := RX9) (T := TX9) (N := 15) (ci := 9) (q0 := 0) (v := .int (nI d1)) hx hb hts (iU inlX9) hown hK hP rfl rfl 13 (by decide) (kU u_270) rfl rfl dX9_part_236 ?_
                refine lv_istore_n (lv' := [(3, .int (nI d1)), (2, .int (nI 1)), (0, .ref mr), (1, .int (nI 1))]) hx hb dX9_part_239 rfl hl (by decide) rfl (fun ls hl => ?_)
                refine lv_iload_n hx hb dX9_part_240 rfl (lv_at hl 1 rfl) ?_
                refine lv_if_eq (tgt := 262) hx hb dX9_part_241 (by decide) (fun c_241 => absurd c_241 (by decide +kernel)) (fun _ => ?_)
                refine lv_aload_n hx hb dX9_part_244 rfl (lv_at hl 2 rfl) ?_
                refine lv_iconst (v := (nI 0)) hx hb dX9_part_245 (by decide) ?_
                refine lv_aload_n hx hb dX9_part_246 rfl (lv_at hl 2 rfl) ?_
                refine gf_n (C := RX9) (T := TX9) (N := 15) (ci := 9) (q0 := 0) (v := .int (nI vs)) hx hb hts (iU inlX9) hown hK hP rfl rfl 12 (by decide) (kU u_261) rfl rfl dX9_part_247 ?_
                refine lv_iconst (v := (nI 1)) hx hb dX9_part_250 (by decide) ?_
                refine lv_isub hx hb dX9_part_251 ?_
                rw [pk_sub (a := vs) (b := 1) (by omega)]
                refine gp_V (ci := 9) (q0 := 0) (cq := (RX9, TX9, 15)) (c_X9_digitTo l D cI cZ cF cL mr rf st L th (pl + 1 + 1) hs vs ((nI d1)) xx X 0 (vs - 1) hL hXt (by omega) (by omega) (by omega)) (gUV u_271 u_272 u_273 u_5 u_274) rfl hdV_X9_digitTo ⟨Nat.le_of_ble_eq_true rfl, Nat.le_of_ble_eq_true rfl⟩ ⟨rfl, rfl⟩ hx hb hml hown hts hK hA hP hD hS hl.1 ⟨Nat.le_of_ble_eq_true rfl, Nat.le_of_ble_eq_true rfl⟩ rfl rfl rfl (wr := (qX cI (rf 0) nH nV wk ea gi sw f1 f2 f3 f4 f5 f6 f7 f8)) (pm_cnt (fun _ => by simp only [List.countP_append, List.countP_nil, fT] <;> omega)) (fun _ => by simp only [List.map_append, List.map_nil, fX_m, bX_m, sX_m, pX_m, iaX_m, r5X_m, r6X_m, fT_m, hX_m, tX_m, xX_m, sgX_m, zaX_m, fsB_a, qX_m, mX_m]) (rest := []) rfl rfl (Nat.le_of_ble_eq_true rfl) dX9_part_252 (ws2 := (fun _ : Unit => (mX mr rf st L th (plD X L (pl + 1 + 1) 0 (vs - 1)) hs vs (dgI X L (pl + 1 + 1)) xx ++ iaX cI (rf 5) 120 X ++ qX cI (rf 0) nH nV wk ea gi sw f1 f2 f3 f4 f5 f6 f7 f8))) (fun _ => (pm_cnt (fun _ => by simp only [List.countP_append, List.countP_nil, fT] <;> omega))) (fun _ Hp locs hP hD hS => ?_)
                rcases k2 : dg X L ((pl + 1) + 1) 0 (vs - 1) with _ | d2
                · skip
                  exfalso; rw [rpP_l (by omega) (by omega) (by omega), rpL_2 k1 k2] at hok; cases hok
                · skip
                  rw [show (if (some d2).isSome = true then (1 : Int32) else 0) = nI 1 from rfl]
                  rw [plD_s k2, dgI_s k2] at hP hD
                  obtain ⟨b1_k2, b2_k2, -, -⟩ := dg_le k2
                  refine lv_if_eq (tgt := 262) hx hb dX9_part_255 (by decide) (fun c_255 => absurd c_255 (by decide +kernel)) (fun _ => ?_)
                  refine lv_iconst (v := (nI 1)) hx hb dX9_part_258 (by decide) ?_
                  refine lv_goto (tgt := 263) hx hb dX9_part_259 (by decide) ?_
                  refine lv_istore_n (lv' := [(2, .int (nI 1)), (3, .int (nI d1)), (0, .ref mr), (1, .int (nI 1))]) hx hb dX9_part_263 rfl hl (by decide) rfl (fun ls hl => ?_)
                  refine lv_aload_n hx hb dX9_part_264 rfl (lv_at hl 2 rfl) ?_
                  refine gf_n (C := RX9) (T := TX9) (N := 15) (ci := 9) (q0 := 0) (v := .int (nI d2)) hx hb hts (iU inlX9) hown hK hP rfl rfl 13 (by decide) (kU u_270) rfl rfl dX9_part_265 ?_
                  refine lv_istore (lv' := [(4, .int (nI d2)), (2, .int (nI 1)), (3, .int (nI d1)), (0, .ref mr), (1, .int (nI 1))]) hx hb dX9_part_268 hl (by decide) rfl (fun ls hl => ?_)
                  refine lv_iload_n hx hb dX9_part_270 rfl (lv_at hl 1 rfl) ?_
                  refine lv_if_eq (tgt := 288) hx hb dX9_part_271 (by decide) (fun c_271 => absurd c_271 (by decide +kernel)) (fun _ => ?_)
                  refine lv_aload_n hx hb dX9_part_274 rfl (lv_at hl 3 rfl) ?_
                  refine lv_iconst (v := (nI 0)) hx hb dX9_part_275 (by decide) ?_
                  refine lv_bipush (v := (nI 9)) hx hb dX9_part_276 (by decide) ?_
                  refine gp_V (ci := 9) (q0 := 0) (cq := (RX9, TX9, 15)) (c_X9_digitTo l D cI cZ cF cL mr rf st L th ((pl + 1) + 1 + 1) hs vs ((nI d2)) xx X 0 9 hL hXt (by omega) (by omega) (by omega)) (gUV u_271 u_272 u_273 u_5 u_274) rfl hdV_X9_digitTo ⟨Nat.le_of_ble_eq_true rfl, Nat.le_of_ble_eq_true rfl⟩ ⟨rfl, rfl⟩ hx hb hml hown hts hK hA hP hD hS hl.1 ⟨Nat.le_of_ble_eq_true rfl, Nat.le_of_ble_eq_true rfl⟩ rfl rfl rfl (wr := (qX cI (rf 0) nH nV wk ea gi sw f1 f2 f3 f4 f5 f6 f7 f8)) (pm_cnt (fun _ => by simp only [List.countP_append, List.countP_nil, fT] <;> omega)) (fun _ => by simp only [List.map_append, List.map_nil, fX_m, bX_m, sX_m, pX_m, iaX_m, r5X_m, r6X_m, fT_m, hX_m, tX_m, xX_m, sgX_m, zaX_m, fsB_a, qX_m, mX_m]) (rest := []) rfl rfl (Nat.le_of_ble_eq_true rfl) dX9_part_278 (ws2 := (fun _ : Unit => (mX mr rf st L th (plD X L ((pl + 1) + 1 + 1) 0 9) hs vs (dgI X L ((pl + 1) + 1 + 1)) xx ++ iaX cI (rf 5) 120 X ++ qX cI (rf 0) nH nV wk ea gi sw f1 f2 f3 f4 f5 f6 f7 f8))) (fun _ => (pm_cnt (fun _ => by simp only [List.countP_append, List.countP_nil, fT] <;> omega))) (fun _ Hp locs hP hD hS => ?_)
                  rcases k3 : dg X L (((pl + 1) + 1) + 1) 0 9 with _ | d3
                  · skip
                    exfalso; rw [rpP_l (by omega) (by omega) (by omega), rpL_3 k1 k2 k3] at hok; cases hok
                  · skip
                    rw [show (if (some d3).isSome = true then (1 : Int32) else 0) = nI 1 from rfl]
                    rw [plD_s k3, dgI_s k3] at hP hD
                    obtain ⟨b1_k3, b2_k3, -, -⟩ := dg_le k3
                    refine lv_if_eq (tgt := 288) hx hb dX9_part_281 (by decide) (fun c_281 => absurd c_281 (by decide +kernel)) (fun _ => ?_)
                    refine lv_iconst (v := (nI 1)) hx hb dX9_part_284 (by decide) ?_
                    refine lv_goto (tgt := 289) hx hb dX9_part_285 (by decide) ?_
                    refine lv_istore_n (lv' := [(2, .int (nI 1)), (4, .int (nI d2)), (3, .int (nI d1)), (0, .ref mr), (1, .int (nI 1))]) hx hb dX9_part_289 rfl hl (by decide) rfl (fun ls hl => ?_)
                    refine lv_iload_n hx hb dX9_part_290 rfl (lv_at hl 0 rfl) ?_
                    refine lv_if_eq (tgt := 313) hx hb dX9_part_291 (by decide) (fun c_291 => absurd c_291 (by decide +kernel)) (fun _ => ?_)
                    refine lv_iload_n hx hb dX9_part_294 rfl (lv_at hl 4 rfl) ?_
                    refine lv_if_eq (tgt := 313) hx hb dX9_part_295 (by decide) (fun c_295 => absurd c_295 (by decide +kernel)) (fun _ => ?_)
                    refine lv_aload_n hx hb dX9_part_298 rfl (lv_at hl 3 rfl) ?_
                    refine gf_n (C := RX9) (T := TX9) (N := 15) (ci := 9) (q0 := 0) (v := .ref (rf 0)) hx hb hts (iU inlX9) hown hK hP rfl rfl 0 (by decide) (kU u_129) rfl rfl dX9_part_299 ?_
                    refine lv_iload_n hx hb dX9_part_302 rfl (lv_at hl 2 rfl) ?_
                    refine lv_iload hx hb dX9_part_303 (lv_at hl 1 rfl) ?_
                    refine gp_S (c_X9_like l D cI cZ cF cL d1 d2 ) (gUS u_281 u_282 u_5 u_283) rfl hdS_X9_like ⟨Nat.le_of_ble_eq_true rfl, Nat.le_of_ble_eq_true rfl⟩ ⟨rfl, rfl⟩ hx hb hml hown hts hK hA hP hD hS hl.1 ⟨Nat.le_of_ble_eq_true rfl, Nat.le_of_ble_eq_true rfl⟩ (wr := (mX mr rf st L th (((pl + 1) + 1) + 1 + 1) hs vs (nI d3) xx ++ iaX cI (rf 5) 120 X ++ qX cI (rf 0) nH nV wk ea gi sw f1 f2 f3 f4 f5 f6 f7 f8)) (pm_cnt (fun _ => by simp only [List.countP_append, List.countP_nil, fT] <;> omega)) (fun _ => by simp only [List.map_append, List.map_nil, fX_m, bX_m, sX_m, pX_m, iaX_m, r5X_m, r6X_m, fT_m, hX_m, tX_m, xX_m, sgX_m, zaX_m, fsB_a, qX_m, mX_m]) (rest := [.ref (rf 0)]) rfl rfl (Nat.le_of_ble_eq_true rfl) dX9_part_305 (ws2 := (fun _ : Unit => (mX mr rf st L th (((pl + 1) + 1) + 1 + 1) hs vs (nI d3) xx ++ iaX cI (rf 5) 120 X ++ qX cI (rf 0) nH nV wk ea gi sw f1 f2 f3 f4 f5 f6 f7 f8))) (fun _ => (pm_cnt (fun _ => by simp only [List.countP_append, List.countP_nil, fT] <;> omega))) (fun _ Hp locs hP hD hS => ?_)
                    refine lv_aload_n hx hb dX9_part_308 rfl (lv_at hl 3 rfl) ?_
                    refine gf_n (C := RX9) (T := TX9) (N := 15) (ci := 9) (q0 := 0) (v := .int (nI d3)) hx hb hts (iU inlX9) hown hK hP rfl rfl 13 (by decide) (kU u_270) rfl rfl dX9_part_309 ?_
                    refine is_n (q0 := 2) (t0 := 0) (ws2 := (mX mr rf st L th (((pl + 1) + 1) + 1 + 1) hs vs (nI d3) xx ++ iaX cI (rf 5) 120 X ++ qX cI (rf 0) nH nV wk ea gi sw f1 f2 f3 f4 f5 f6 (va_up f7 (d1 * 5 + d2) d3) f8)) hx hb hK hP hD hS rfl rfl (by omega) (by decide) dX9_part_312 (by rw [qU_7 (by omega) (by omega)]; rfl) (fun Hp locs hP hD hS => ?_)
                    refine lv_iload_n hx hb dX9_part_313 rfl (lv_at hl 0 rfl) ?_
                    exact ct_z ((nI d3)) hx hb hr hlocks (by first | (rw [rpP_l (by omega) (by omega) (by omega), rpL_1 k1, hsP_f (by omega), vsP_f (by omega)]; exact hP) | (rw [rpP_l (by omega) (by omega) (by omega), rpL_2 k1 k2, hsP_f (by omega), vsP_f (by omega)]; exact hP) | (rw [rpP_l (by omega) (by omega) (by omega), rpL_3 k1 k2 k3, hsP_f (by omega), vsP_f (by omega)]; exact hP) | (rw [rpP_l (by omega) (by omega) (by omega), rpL_4 k1 k2 k3, hsP_f (by omega), vsP_f (by omega)]; exact hP)) hS (by first | (rw [rpP_l (by omega) (by omega) (by omega), rpL_1 k1]; rfl) | (rw [rpP_l (by omega) (by omega) (by omega), rpL_2 k1 k2]; rfl) | (rw [rpP_l (by omega) (by omega) (by omega), rpL_3 k1 k2 k3]; rfl) | (rw [rpP_l (by omega) (by omega) (by omega), rpL_4 k1 k2 k3]; rfl)) dX9_part_314
            · skip
              rw [show (if (pl < L ∧ X pl = 108) then (1 : Int32) else 0) = nI 0 from if_neg (fun z => q_220 z.2)]
              rw [if_neg (show ¬ (pl < L ∧ X pl = 108) from fun z => q_220 z.2)] at hP hD
              refine lv_if_eq (tgt := 315) hx hb dX9_part_220 (by decide) (fun _ => ?_) (fun c_220 => absurd (by decide +kernel) c_220)
              refine lv_aload_n hx hb dX9_part_315 rfl (lv_at hl 0 rfl) ?_
              refine gf_n (C := RX9) (T := TX9) (N := 15) (ci := 9) (q0 := 0) (v := .int (nI hs)) hx hb hts (iU inlX9) hown hK hP rfl rfl 11 (by decide) (kU u_260) rfl rfl dX9_part_316 ?_
              refine lv_if_le (tgt := 349) hx hb dX9_part_319 (by decide) (fun c_319 => ?_) (fun c_319 => ?_)
              · skip
                replace c_319 := cn_le (b := 0) (by omega) (by omega) c_319
                exfalso; rw [rpP_n (by omega) (by omega) (by omega) (by omega)] at hok; cases hok
              · skip
                replace c_319 := cn_nle (b := 0) (by omega) (by omega) c_319
                refine lv_aload_n hx hb dX9_part_322 rfl (lv_at hl 0 rfl) ?_
                refine lv_bipush (v := (nI 115)) hx hb dX9_part_323 (by decide) ?_
                refine gp_V (ci := 9) (q0 := 0) (cq := (RX9, TX9, 15)) (c_X9_letter l D cI cZ cF cL mr rf st L th pl hs vs dg0 xx X 115 hL hXt hpp (by decide)) (gUV u_262 u_263 u_264 u_5 u_265) rfl hdV_X9_letter ⟨Nat.le_of_ble_eq_true rfl, Nat.le_of_ble_eq_true rfl⟩ ⟨rfl, rfl⟩ hx hb hml hown hts hK hA hP hD hS hl.1 ⟨Nat.le_of_ble_eq_true rfl, Nat.le_of_ble_eq_true rfl⟩ rfl rfl rfl (wr := (qX cI (rf 0) nH nV wk ea gi sw f1 f2 f3 f4 f5 f6 f7 f8)) (pm_cnt (fun _ => by simp only [List.countP_append, List.countP_nil, fT] <;> omega)) (fun _ => by simp only [List.map_append, List.map_nil, fX_m, bX_m, sX_m, pX_m, iaX_m, r5X_m, r6X_m, fT_m, hX_m, tX_m, xX_m, sgX_m, zaX_m, fsB_a, qX_m, mX_m]) (rest := []) rfl rfl (Nat.le_of_ble_eq_true rfl) dX9_part_325 (ws2 := (fun _ : Unit => (mX mr rf st L th (if (pl < L ∧ X pl = 115) then pl + 1 else pl) hs vs dg0 xx ++ iaX cI (rf 5) 120 X ++ qX cI (rf 0) nH nV wk ea gi sw f1 f2 f3 f4 f5 f6 f7 f8))) (fun _ => (pm_cnt (fun _ => by simp only [List.countP_append, List.countP_nil, fT] <;> omega))) (fun _ Hp locs hP hD hS => ?_)
                by_cases q_328 : X pl = 115
                · skip
                  rw [show (if (pl < L ∧ X pl = 115) then (1 : Int32) else 0) = nI 1 from if_pos ⟨hpl, q_328⟩]
                  rw [if_pos (⟨hpl, q_328⟩ : (pl < L ∧ X pl = 115))] at hP hD
                  refine lv_if_eq (tgt := 349) hx hb dX9_part_328 (by decide) (fun c_328 => absurd c_328 (by decide +kernel)) (fun _ => ?_)
                  refine lv_aload_n hx hb dX9_part_331 rfl (lv_at hl 0 rfl) ?_
                  refine lv_iconst (v := (nI 0)) hx hb dX9_part_332 (by decide) ?_
                  refine lv_aload_n hx hb dX9_part_333 rfl (lv_at hl 0 rfl) ?_
                  refine gf_n (C := RX9) (T := TX9) (N := 15) (ci := 9) (q0 := 0) (v := .int (nI hs)) hx hb hts (iU inlX9) hown hK hP rfl rfl 11 (by decide) (kU u_260) rfl rfl dX9_part_334 ?_
                  refine lv_iconst (v := (nI 1)) hx hb dX9_part_337 (by decide) ?_
                  refine lv_isub hx hb dX9_part_338 ?_
                  rw [pk_sub (a := hs) (b := 1) (by omega)]
                  refine gp_V (ci := 9) (q0 := 0) (cq := (RX9, TX9, 15)) (c_X9_digitTo l D cI cZ cF cL mr rf st L th (pl + 1) hs vs dg0 xx X 0 (hs - 1) hL hXt (by omega) (by omega) (by omega)) (gUV u_271 u_272 u_273 u_5 u_274) rfl hdV_X9_digitTo ⟨Nat.le_of_ble_eq_true rfl, Nat.le_of_ble_eq_true rfl⟩ ⟨rfl, rfl⟩ hx hb hml hown hts hK hA hP hD hS hl.1 ⟨Nat.le_of_ble_eq_true rfl, Nat.le_of_ble_eq_true rfl⟩ rfl rfl rfl (wr := (qX cI (rf 0) nH nV wk ea gi sw f1 f2 f3 f4 f5 f6 f7 f8)) (pm_cnt (fun _ => by simp only [List.countP_append, List.countP_nil, fT] <;> omega)) (fun _ => by simp only [List.map_append, List.map_nil, fX_m, bX_m, sX_m, pX_m, iaX_m, r5X_m, r6X_m, fT_m, hX_m, tX_m, xX_m, sgX_m, zaX_m, fsB_a, qX_m, mX_m]) (rest := []) rfl rfl (Nat.le_of_ble_eq_true rfl) dX9_part_339 (ws2 := (fun _ : Unit => (mX mr rf st L th (plD X L (pl + 1) 0 (hs - 1)) hs vs (dgI X L (pl + 1)) xx ++ iaX cI (rf 5) 120 X ++ qX cI (rf 0) nH nV wk ea gi sw f1 f2 f3 f4 f5 f6 f7 f8))) (fun _ => (pm_cnt (fun _ => by simp only [List.countP_append, List.countP_nil, fT] <;> omega))) (fun _ Hp locs hP hD hS => ?_)
                  rcases k1 : dg X L (pl + 1) 0 (hs - 1) with _ | d1
                  · skip
                    exfalso; rw [rpP_s (by omega) (by omega) (by omega) (by omega), rpS_1 k1] at hok; cases hok
                  · skip
                    rw [show (if (some d1).isSome = true then (1 : Int32) else 0) = nI 1 from rfl]
                    rw [plD_s k1, dgI_s k1] at hP hD
                    obtain ⟨b1_k1, b2_k1, -, -⟩ := dg_le k1
                    refine lv_if_eq (tgt := 349) hx hb dX9_part_342 (by decide) (fun c_342 => absurd c_342 (by decide +kernel)) (fun _ => ?_)
                    refine lv_iconst (v := (nI 1)) hx hb dX9_part_345 (by decide) ?_
                    refine lv_goto (tgt := 350) hx hb dX9_part_346 (by decide) ?_
                    refine lv_istore_n (lv' := [(2, .int (nI 1)), (0, .ref mr), (1, .int (nI 1))]) hx hb dX9_part_350 rfl hl (by decide) rfl (fun ls hl => ?_)
                    refine lv_iload_n hx hb dX9_part_351 rfl (lv_at hl 0 rfl) ?_
                    refine lv_if_eq (tgt := 374) hx hb dX9_part_352 (by decide) (fun c_352 => absurd c_352 (by decide +kernel)) (fun _ => ?_)
                    refine lv_iload_n hx hb dX9_part_355 rfl (lv_at hl 2 rfl) ?_
                    refine lv_if_eq (tgt := 374) hx hb dX9_part_356 (by decide) (fun c_356 => absurd c_356 (by decide +kernel)) (fun _ => ?_)
                    refine lv_aload_n hx hb dX9_part_359 rfl (lv_at hl 1 rfl) ?_
                    refine gf_n (C := RX9) (T := TX9) (N := 15) (ci := 9) (q0 := 0) (v := .ref (rf 0)) hx hb hts (iU inlX9) hown hK hP rfl rfl 0 (by decide) (kU u_129) rfl rfl dX9_part_360 ?_
                    refine lv_aload_n hx hb dX9_part_363 rfl (lv_at hl 1 rfl) ?_
                    refine gf_n (C := RX9) (T := TX9) (N := 15) (ci := 9) (q0 := 0) (v := .int (nI d1)) hx hb hts (iU inlX9) hown hK hP rfl rfl 13 (by decide) (kU u_270) rfl rfl dX9_part_364 ?_
                    refine gp_S (c_X9_size l D cI cZ cF cL d1 ) (gUS u_275 u_276 u_5 u_277) rfl hdS_X9_size ⟨Nat.le_of_ble_eq_true rfl, Nat.le_of_ble_eq_true rfl⟩ ⟨rfl, rfl⟩ hx hb hml hown hts hK hA hP hD hS hl.1 ⟨Nat.le_of_ble_eq_true rfl, Nat.le_of_ble_eq_true rfl⟩ (wr := (mX mr rf st L th (pl + 1 + 1) hs vs (nI d1) xx ++ iaX cI (rf 5) 120 X ++ qX cI (rf 0) nH nV wk ea gi sw f1 f2 f3 f4 f5 f6 f7 f8)) (pm_cnt (fun _ => by simp only [List.countP_append, List.countP_nil, fT] <;> omega)) (fun _ => by simp only [List.map_append, List.map_nil, fX_m, bX_m, sX_m, pX_m, iaX_m, r5X_m, r6X_m, fT_m, hX_m, tX_m, xX_m, sgX_m, zaX_m, fsB_a, qX_m, mX_m]) (rest := [.ref (rf 0)]) rfl rfl (Nat.le_of_ble_eq_true rfl) dX9_part_367 (ws2 := (fun _ : Unit => (mX mr rf st L th (pl + 1 + 1) hs vs (nI d1) xx ++ iaX cI (rf 5) 120 X ++ qX cI (rf 0) nH nV wk ea gi sw f1 f2 f3 f4 f5 f6 f7 f8))) (fun _ => (pm_cnt (fun _ => by simp only [List.countP_append, List.countP_nil, fT] <;> omega))) (fun _ Hp locs hP hD hS => ?_)
                    refine lv_iconst (v := (nI 3)) hx hb dX9_part_370 (by decide) ?_
                    refine lv_iadd hx hb dX9_part_371 ?_
                    rw [nI_add (6 + 4 * d1) 3]
                    refine lv_iconst (v := (nI 1)) hx hb dX9_part_372 (by decide) ?_
                    refine is_n (q0 := 2) (t0 := 0) (ws2 := (mX mr rf st L th (pl + 1 + 1) hs vs (nI d1) xx ++ iaX cI (rf 5) 120 X ++ qX cI (rf 0) nH nV wk ea gi sw f1 f2 f3 (va_up f4 d1 1) f5 f6 f7 f8)) hx hb hK hP hD hS rfl rfl (by omega) (by decide) dX9_part_373 (by rw [qU_4 (by omega)]; rfl) (fun Hp locs hP hD hS => ?_)
                    refine lv_iload_n hx hb dX9_part_374 rfl (lv_at hl 0 rfl) ?_
                    exact ct_z ((nI d1)) hx hb hr hlocks (by first | (rw [rpP_s (by omega) (by omega) (by omega) (by omega), rpS_1 k1, hsP_f (by omega), vsP_f (by omega)]; exact hP) | (rw [rpP_s (by omega) (by omega) (by omega) (by omega), rpS_2 k1, hsP_f (by omega), vsP_f (by omega)]; exact hP)) hS (by first | (rw [rpP_s (by omega) (by omega) (by omega) (by omega), rpS_1 k1]; rfl) | (rw [rpP_s (by omega) (by omega) (by omega) (by omega), rpS_2 k1]; rfl)) dX9_part_375
                · skip
                  rw [show (if (pl < L ∧ X pl = 115) then (1 : Int32) else 0) = nI 0 from if_neg (fun z => q_328 z.2)]
                  rw [if_neg (show ¬ (pl < L ∧ X pl = 115) from fun z => q_328 z.2)] at hP hD
                  refine lv_if_eq (tgt := 349) hx hb dX9_part_328 (by decide) (fun _ => ?_) (fun c_328 => absurd (by decide +kernel) c_328)
                  exfalso; rw [rpP_n (by omega) (by omega) (by omega) (by omega)] at hok; cases hok
      · skip
        replace c_106 := cn_nle (by omega) (by omega) c_106
        refine lv_aload_n hx hb dX9_part_109 rfl (lv_at hl 0 rfl) ?_
        refine lv_bipush (v := (nI 118)) hx hb dX9_part_110 (by decide) ?_
        refine gp_V (ci := 9) (q0 := 0) (cq := (RX9, TX9, 15)) (c_X9_letter l D cI cZ cF cL mr rf st L th pl hs vs dg0 xx X 118 hL hXt hpp (by decide)) (gUV u_262 u_263 u_264 u_5 u_265) rfl hdV_X9_letter ⟨Nat.le_of_ble_eq_true rfl, Nat.le_of_ble_eq_true rfl⟩ ⟨rfl, rfl⟩ hx hb hml hown hts hK hA hP hD hS hl.1 ⟨Nat.le_of_ble_eq_true rfl, Nat.le_of_ble_eq_true rfl⟩ rfl rfl rfl (wr := (qX cI (rf 0) nH nV wk ea gi sw f1 f2 f3 f4 f5 f6 f7 f8)) (pm_cnt (fun _ => by simp only [List.countP_append, List.countP_nil, fT] <;> omega)) (fun _ => by simp only [List.map_append, List.map_nil, fX_m, bX_m, sX_m, pX_m, iaX_m, r5X_m, r6X_m, fT_m, hX_m, tX_m, xX_m, sgX_m, zaX_m, fsB_a, qX_m, mX_m]) (rest := []) rfl rfl (Nat.le_of_ble_eq_true rfl) dX9_part_112 (ws2 := (fun _ : Unit => (mX mr rf st L th (if (pl < L ∧ X pl = 118) then pl + 1 else pl) hs vs dg0 xx ++ iaX cI (rf 5) 120 X ++ qX cI (rf 0) nH nV wk ea gi sw f1 f2 f3 f4 f5 f6 f7 f8))) (fun _ => (pm_cnt (fun _ => by simp only [List.countP_append, List.countP_nil, fT] <;> omega))) (fun _ Hp locs hP hD hS => ?_)
        by_cases q_115 : X pl = 118
        · skip
          rw [show (if (pl < L ∧ X pl = 118) then (1 : Int32) else 0) = nI 1 from if_pos ⟨hpl, q_115⟩]
          rw [if_pos (⟨hpl, q_115⟩ : (pl < L ∧ X pl = 118))] at hP hD
          refine lv_if_eq (tgt := 200) hx hb dX9_part_115 (by decide) (fun c_115 => absurd c_115 (by decide +kernel)) (fun _ => ?_)
          refine lv_aload_n hx hb dX9_part_118 rfl (lv_at hl 0 rfl) ?_
          refine lv_iconst (v := (nI 0)) hx hb dX9_part_119 (by decide) ?_
          refine lv_iconst (v := (nI 4)) hx hb dX9_part_120 (by decide) ?_
          refine gp_V (ci := 9) (q0 := 0) (cq := (RX9, TX9, 15)) (c_X9_digitTo l D cI cZ cF cL mr rf st L th (pl + 1) hs vs dg0 xx X 0 4 hL hXt (by omega) (by omega) (by omega)) (gUV u_271 u_272 u_273 u_5 u_274) rfl hdV_X9_digitTo ⟨Nat.le_of_ble_eq_true rfl, Nat.le_of_ble_eq_true rfl⟩ ⟨rfl, rfl⟩ hx hb hml hown hts hK hA hP hD hS hl.1 ⟨Nat.le_of_ble_eq_true rfl, Nat.le_of_ble_eq_true rfl⟩ rfl rfl rfl (wr := (qX cI (rf 0) nH nV wk ea gi sw f1 f2 f3 f4 f5 f6 f7 f8)) (pm_cnt (fun _ => by simp only [List.countP_append, List.countP_nil, fT] <;> omega)) (fun _ => by simp only [List.map_append, List.map_nil, fX_m, bX_m, sX_m, pX_m, iaX_m, r5X_m, r6X_m, fT_m, hX_m, tX_m, xX_m, sgX_m, zaX_m, fsB_a, qX_m, mX_m]) (rest := []) rfl rfl (Nat.le_of_ble_eq_true rfl) dX9_part_121 (ws2 := (fun _ : Unit => (mX mr rf st L th (plD X L (pl + 1) 0 4) hs vs (dgI X L (pl + 1)) xx ++ iaX cI (rf 5) 120 X ++ qX cI (rf 0) nH nV wk ea gi sw f1 f2 f3 f4 f5 f6 f7 f8))) (fun _ => (pm_cnt (fun _ => by simp only [List.countP_append, List.countP_nil, fT] <;> omega))) (fun _ Hp locs hP hD hS => ?_)
          rcases k1 : dg X L (pl + 1) 0 4 with _ | d1
          · skip
            exfalso; rw [rpP_v (by omega) (by omega), rpV_1 k1] at hok; cases hok
          · skip
            rw [show (if (some d1).isSome = true then (1 : Int32) else 0) = nI 1 from rfl]
            rw [plD_s k1, dgI_s k1] at hP hD
            obtain ⟨b1_k1, b2_k1, -, -⟩ := dg_le k1
            refine lv_istore_n (lv' := [(2, .int (nI 1)), (0, .ref mr), (1, .int (nI 1))]) hx hb dX9_part_124 rfl hl (by decide) rfl (fun ls hl => ?_)
            refine lv_aload_n hx hb dX9_part_125 rfl (lv_at hl 1 rfl) ?_
            refine gf_n (C := RX9) (T := TX9) (N := 15) (ci := 9) (q0 := 0) (v := .int (nI d1)) hx hb hts (iU inlX9) hown hK hP rfl rfl 13 (by decide) (kU u_270) rfl rfl dX9_part_126 ?_
            refine lv_istore_n (lv' := [(3, .int (nI d1)), (2, .int (nI 1)), (0, .ref mr), (1, .int (nI 1))]) hx hb dX9_part_129 rfl hl (by decide) rfl (fun ls hl => ?_)
            refine lv_iload_n hx hb dX9_part_130 rfl (lv_at hl 1 rfl) ?_
            refine lv_if_eq (tgt := 157) hx hb dX9_part_131 (by decide) (fun c_131 => absurd c_131 (by decide +kernel)) (fun _ => ?_)
            refine lv_aload_n hx hb dX9_part_134 rfl (lv_at hl 2 rfl) ?_
            refine lv_iconst (v := (nI 0)) hx hb dX9_part_135 (by decide) ?_
            refine lv_iload_n hx hb dX9_part_136 rfl (lv_at hl 0 rfl) ?_
            refine lv_iconst (v := (nI 4)) hx hb dX9_part_137 (by decide) ?_
            refine lv_icmp_ne (tgt := 145) hx hb dX9_part_138 (by decide) (fun c_138 => ?_) (fun c_138 => ?_)
            · skip
              replace c_138 := cn_ne c_138
              refine lv_bipush (v := (nI 9)) hx hb dX9_part_145 (by decide) ?_
              refine gp_V (ci := 9) (q0 := 0) (cq := (RX9, TX9, 15)) (c_X9_digitTo l D cI cZ cF cL mr rf st L th (pl + 1 + 1) hs vs ((nI d1)) xx X 0 9 hL hXt (by omega) (by omega) (by omega)) (gUV u_271 u_272 u_273 u_5 u_274) rfl hdV_X9_digitTo ⟨Nat.le_of_ble_eq_true rfl, Nat.le_of_ble_eq_true rfl⟩ ⟨rfl, rfl⟩ hx hb hml hown hts hK hA hP hD hS hl.1 ⟨Nat.le_of_ble_eq_true rfl, Nat.le_of_ble_eq_true rfl⟩ rfl rfl rfl (wr := (qX cI (rf 0) nH nV wk ea gi sw f1 f2 f3 f4 f5 f6 f7 f8)) (pm_cnt (fun _ => by simp only [List.countP_append, List.countP_nil, fT] <;> omega)) (fun _ => by simp only [List.map_append, List.map_nil, fX_m, bX_m, sX_m, pX_m, iaX_m, r5X_m, r6X_m, fT_m, hX_m, tX_m, xX_m, sgX_m, zaX_m, fsB_a, qX_m, mX_m]) (rest := []) rfl rfl (Nat.le_of_ble_eq_true rfl) dX9_part_147 (ws2 := (fun _ : Unit => (mX mr rf st L th (plD X L (pl + 1 + 1) 0 9) hs vs (dgI X L (pl + 1 + 1)) xx ++ iaX cI (rf 5) 120 X ++ qX cI (rf 0) nH nV wk ea gi sw f1 f2 f3 f4 f5 f6 f7 f8))) (fun _ => (pm_cnt (fun _ => by simp only [List.countP_append, List.countP_nil, fT] <;> omega))) (fun _ Hp locs hP hD hS => ?_)
              rcases k2 : dg X L ((pl + 1) + 1) 0 9 with _ | d2
              · skip
                exfalso; rw [rpP_v (by omega) (by omega), rpV_2 k1 (show dg X L (pl + 1 + 1) 0 (min 9 (40 - 10 * d1)) = none from by first | (rw [show min 9 (40 - 10 * d1) = 0 by omega]; exact k2) | (rw [show min 9 (40 - 10 * d1) = 9 by omega]; exact k2))] at hok; cases hok
              · skip
                rw [show (if (some d2).isSome = true then (1 : Int32) else 0) = nI 1 from rfl]
                rw [plD_s k2, dgI_s k2] at hP hD
                obtain ⟨b1_k2, b2_k2, -, -⟩ := dg_le k2
                refine lv_if_eq (tgt := 157) hx hb dX9_part_150 (by decide) (fun c_150 => absurd c_150 (by decide +kernel)) (fun _ => ?_)
                refine lv_iconst (v := (nI 1)) hx hb dX9_part_153 (by decide) ?_
                refine lv_goto (tgt := 158) hx hb dX9_part_154 (by decide) ?_
                refine lv_istore_n (lv' := [(2, .int (nI 1)), (3, .int (nI d1)), (0, .ref mr), (1, .int (nI 1))]) hx hb dX9_part_158 rfl hl (by decide) rfl (fun ls hl => ?_)
                refine lv_iload_n hx hb dX9_part_159 rfl (lv_at hl 0 rfl) ?_
                refine lv_if_eq (tgt := 188) hx hb dX9_part_160 (by decide) (fun c_160 => absurd c_160 (by decide +kernel)) (fun _ => ?_)
                refine lv_iload_n hx hb dX9_part_163 rfl (lv_at hl 3 rfl) ?_
                refine lv_if_eq (tgt := 188) hx hb dX9_part_164 (by decide) (fun c_164 => absurd c_164 (by decide +kernel)) (fun _ => ?_)
                refine lv_aload_n hx hb dX9_part_167 rfl (lv_at hl 2 rfl) ?_
                refine gf_n (C := RX9) (T := TX9) (N := 15) (ci := 9) (q0 := 0) (v := .ref (rf 0)) hx hb hts (iU inlX9) hown hK hP rfl rfl 0 (by decide) (kU u_129) rfl rfl dX9_part_168 ?_
                refine lv_aload_n hx hb dX9_part_171 rfl (lv_at hl 2 rfl) ?_
                refine gf_n (C := RX9) (T := TX9) (N := 15) (ci := 9) (q0 := 0) (v := .int (nI vs)) hx hb hts (iU inlX9) hown hK hP rfl rfl 12 (by decide) (kU u_261) rfl rfl dX9_part_172 ?_
                refine gp_S (c_X9_harvest l D cI cZ cF cL vs ) (gUS u_278 u_279 u_5 u_280) rfl hdS_X9_harvest ⟨Nat.le_of_ble_eq_true rfl, Nat.le_of_ble_eq_true rfl⟩ ⟨rfl, rfl⟩ hx hb hml hown hts hK hA hP hD hS hl.1 ⟨Nat.le_of_ble_eq_true rfl, Nat.le_of_ble_eq_true rfl⟩ (wr := (mX mr rf st L th ((pl + 1) + 1 + 1) hs vs (nI d2) xx ++ iaX cI (rf 5) 120 X ++ qX cI (rf 0) nH nV wk ea gi sw f1 f2 f3 f4 f5 f6 f7 f8)) (pm_cnt (fun _ => by simp only [List.countP_append, List.countP_nil, fT] <;> omega)) (fun _ => by simp only [List.map_append, List.map_nil, fX_m, bX_m, sX_m, pX_m, iaX_m, r5X_m, r6X_m, fT_m, hX_m, tX_m, xX_m, sgX_m, zaX_m, fsB_a, qX_m, mX_m]) (rest := [.ref (rf 0)]) rfl rfl (Nat.le_of_ble_eq_true rfl) dX9_part_175 (ws2 := (fun _ : Unit => (mX mr rf st L th ((pl + 1) + 1 + 1) hs vs (nI d2) xx ++ iaX cI (rf 5) 120 X ++ qX cI (rf 0) nH nV wk ea gi sw f1 f2 f3 f4 f5 f6 f7 f8))) (fun _ => (pm_cnt (fun _ => by simp only [List.countP_append, List.countP_nil, fT] <;> omega))) (fun _ Hp locs hP hD hS => ?_)
                refine lv_bipush (v := (nI 10)) hx hb dX9_part_178 (by decide) ?_
                refine lv_iload_n hx hb dX9_part_180 rfl (lv_at hl 1 rfl) ?_
                refine lv_imul hx hb dX9_part_181 ?_
                rw [pk_mul 10 d1]
                refine lv_aload_n hx hb dX9_part_182 rfl (lv_at hl 2 rfl) ?_
                refine gf_n (C := RX9) (T := TX9) (N := 15) (ci := 9) (q0 := 0) (v := .int (nI d2)) hx hb hts (iU inlX9) hown hK hP rfl rfl 13 (by decide) (kU u_270) rfl rfl dX9_part_183 ?_
                refine lv_iadd hx hb dX9_part_186 ?_
                rw [nI_add (10 * d1) d2]
                refine is_n (q0 := 2) (t0 := 0) (ws2 := (mX mr rf st L th ((pl + 1) + 1 + 1) hs vs (nI d2) xx ++ iaX cI (rf 5) 120 X ++ qX cI (rf 0) nH nV wk ea gi sw f1 f2 f3 f4 (va_up f5 vs ((10 * d1) + d2)) f6 f7 f8)) hx hb hK hP hD hS rfl rfl (by omega) (by decide) dX9_part_187 (by rw [qU_5 (by omega)]; rfl) (fun Hp locs hP hD hS => ?_)
                refine lv_aload_n hx hb dX9_part_188 rfl (lv_at hl 2 rfl) ?_
                refine lv_dup hx hb dX9_part_189 rfl ?_
                refine gf_n (C := RX9) (T := TX9) (N := 15) (ci := 9) (q0 := 0) (v := .int (nI vs)) hx hb hts (iU inlX9) hown hK hP rfl rfl 12 (by decide) (kU u_261) rfl rfl dX9_part_190 ?_
                refine lv_iconst (v := (nI 1)) hx hb dX9_part_193 (by decide) ?_
                refine lv_iadd hx hb dX9_part_194 ?_
                rw [nI_add vs 1]
                refine pf_n (C := RX9) (T := TX9) (N := 15) (ci := 9) (q0 := 0) (ty := .int) (v := .int (nI (vs + 1))) (ws2 := (mX mr rf st L th ((pl + 1) + 1 + 1) hs (vs + 1) (nI d2) xx ++ iaX cI (rf 5) 120 X ++ qX cI (rf 0) nH nV wk ea gi sw f1 f2 f3 f4 (va_up f5 vs ((10 * d1) + d2)) f6 f7 f8)) hx hb hts (iU inlX9) tyX9 tyX9_ok nmX9 hown hK hP hD hS rfl rfl 12 (by decide) (kU u_261) rfl rfl (tyX9_ok 12 (by decide)) rfl rfl (Nat.le_of_ble_eq_true rfl) dX9_part_195 rfl (fun Hp locs hP hD hS => ?_)
                refine lv_iload_n hx hb dX9_part_198 rfl (lv_at hl 0 rfl) ?_
                exact ct_z ((nI d2)) hx hb hr hlocks (by first | (rw [rpP_v (by omega) (by omega), rpV_1 k1, hsP_f (by omega), vsP_t (by omega)]; exact hP) | (rw [rpP_v (by omega) (by omega), rpV_2 k1 (show dg X L (pl + 1 + 1) 0 (min 9 (40 - 10 * d1)) = none from by first | (rw [show min 9 (40 - 10 * d1) = 0 by omega]; exact k2) | (rw [show min 9 (40 - 10 * d1) = 9 by omega]; exact k2)), hsP_f (by omega), vsP_t (by omega)]; exact hP) | (rw [rpP_v (by omega) (by omega), rpV_3 k1 (show dg X L (pl + 1 + 1) 0 (min 9 (40 - 10 * d1)) = some d2 from by first | (rw [show min 9 (40 - 10 * d1) = 0 by omega]; exact k2) | (rw [show min 9 (40 - 10 * d1) = 9 by omega]; exact k2)), hsP_f (by omega), vsP_t (by omega)]; exact hP)) hS (by first | (rw [rpP_v (by omega) (by omega), rpV_1 k1]; rfl) | (rw [rpP_v (by omega) (by omega), rpV_2 k1 (show dg X L (pl + 1 + 1) 0 (min 9 (40 - 10 * d1)) = none from by first | (rw [show min 9 (40 - 10 * d1) = 0 by omega]; exact k2) | (rw [show min 9 (40 - 10 * d1) = 9 by omega]; exact k2))]; rfl) | (rw [rpP_v (by omega) (by omega), rpV_3 k1 (show dg X L (pl + 1 + 1) 0 (min 9 (40 - 10 * d1)) = some d2 from by first | (rw [show min 9 (40 - 10 * d1) = 0 by omega]; exact k2) | (rw [show min 9 (40 - 10 * d1) = 9 by omega]; exact k2))]; rfl)) dX9_part_199
            · skip
              replace c_138 := cn_eq (by omega) (by omega) c_138
              refine lv_iconst (v := (nI 0)) hx hb dX9_part_141 (by decide) ?_
              refine lv_goto (tgt := 147) hx hb dX9_part_142 (by decide) ?_
              refine gp_V (ci := 9) (q0 := 0) (cq := (RX9, TX9, 15)) (c_X9_digitTo l D cI cZ cF cL mr rf st L th (pl + 1 + 1) hs vs ((nI d1)) xx X 0 0 hL hXt (by omega) (by omega) (by omega)) (gUV u_271 u_272 u_273 u_5 u_274) rfl hdV_X9_digitTo ⟨Nat.le_of_ble_eq_true rfl, Nat.le_of_ble_eq_true rfl⟩ ⟨rfl, rfl⟩ hx hb hml hown hts hK hA hP hD hS hl.1 ⟨Nat.le_of_ble_eq_true rfl, Nat.le_of_ble_eq_true rfl⟩ rfl rfl rfl (wr := (qX cI (rf 0) nH nV wk ea gi sw f1 f2 f3 f4 f5 f6 f7 f8)) (pm_cnt (fun _ => by simp only [List.countP_append, List.countP_nil, fT] <;> omega)) (fun _ => by simp only [List.map_append, List.map_nil, fX_m, bX_m, sX_m, pX_m, iaX_m, r5X_m, r6X_m, fT_m, hX_m, tX_m, xX_m, sgX_m, zaX_m, fsB_a, qX_m, mX_m]) (rest := []) rfl rfl (Nat.le_of_ble_eq_true rfl) dX9_part_147 (ws2 := (fun _ : Unit => (mX mr rf st L th (plD X L (pl + 1 + 1) 0 0) hs vs (dgI X L (pl + 1 + 1)) xx ++ iaX cI (rf 5) 120 X ++ qX cI (rf 0) nH nV wk ea gi sw f1 f2 f3 f4 f5 f6 f7 f8))) (fun _ => (pm_cnt (fun _ => by simp only [List.countP_append, List.countP_nil, fT] <;> omega))) (fun _ Hp locs hP hD hS => ?_)
              rcases k2 : dg X L ((pl + 1) + 1) 0 0 with _ | d2
              · skip
                exfalso; rw [rpP_v (by omega) (by omega), rpV_2 k1 (show dg X L (pl + 1 + 1) 0 (min 9 (40 - 10 * d1)) = none from by first | (rw [show min 9 (40 - 10 * d1) = 0 by omega]; exact k2) | (rw [show min 9 (40 - 10 * d1) = 9 by omega]; exact k2))] at hok; cases hok
              · skip
                rw [show (if (some d2).isSome = true then (1 : Int32) else 0) = nI 1 from rfl]
                rw [plD_s k2, dgI_s k2] at hP hD
                obtain ⟨b1_k2, b2_k2, -, -⟩ := dg_le k2
                refine lv_if_eq (tgt := 157) hx hb dX9_part_150 (by decide) (fun c_150 => absurd c_150 (by decide +kernel)) (fun _ => ?_)
                refine lv_iconst (v := (nI 1)) hx hb dX9_part_153 (by decide) ?_
                refine lv_goto (tgt := 158) hx hb dX9_part_154 (by decide) ?_
                refine lv_istore_n (lv' := [(2, .int (nI 1)), (3, .int (nI d1)), (0, .ref mr), (1, .int (nI 1))]) hx hb dX9_part_158 rfl hl (by decide) rfl (fun ls hl => ?_)
                refine lv_iload_n hx hb dX9_part_159 rfl (lv_at hl 0 rfl) ?_
                refine lv_if_eq (tgt := 188) hx hb dX9_part_160 (by decide) (fun c_160 => absurd c_160 (by decide +kernel)) (fun _ => ?_)
                refine lv_iload_n hx hb dX9_part_163 rfl (lv_at hl 3 rfl) ?_
                refine lv_if_eq (tgt := 188) hx hb dX9_part_164 (by decide) (fun c_164 => absurd c_164 (by decide +kernel)) (fun _ => ?_)
                refine lv_aload_n hx hb dX9_part_167 rfl (lv_at hl 2 rfl) ?_
                refine gf_n (C := RX9) (T := TX9) (N := 15) (ci := 9) (q0 := 0) (v := .ref (rf 0)) hx hb hts (iU inlX9) hown hK hP rfl rfl 0 (by decide) (kU u_129) rfl rfl dX9_part_168 ?_
                refine lv_aload_n hx hb dX9_part_171 rfl (lv_at hl 2 rfl) ?_
                refine gf_n (C := RX9) (T := TX9) (N := 15) (ci := 9) (q0 := 0) (v := .int (nI vs)) hx hb hts (iU inlX9) hown hK hP rfl rfl 12 (by decide) (kU u_261) rfl rfl dX9_part_172 ?_
                refine gp_S (c_X9_harvest l D cI cZ cF cL vs ) (gUS u_278 u_279 u_5 u_280) rfl hdS_X9_harvest ⟨Nat.le_of_ble_eq_true rfl, Nat.le_of_ble_eq_true rfl⟩ ⟨rfl, rfl⟩ hx hb hml hown hts hK hA hP hD hS hl.1 ⟨Nat.le_of_ble_eq_true rfl, Nat.le_of_ble_eq_true rfl⟩ (wr := (mX mr rf st L th ((pl + 1) + 1 + 1) hs vs (nI d2) xx ++ iaX cI (rf 5) 120 X ++ qX cI (rf 0) nH nV wk ea gi sw f1 f2 f3 f4 f5 f6 f7 f8)) (pm_cnt (fun _ => by simp only [List.countP_append, List.countP_nil, fT] <;> omega)) (fun _ => by simp only [List.map_append, List.map_nil, fX_m, bX_m, sX_m, pX_m, iaX_m, r5X_m, r6X_m, fT_m, hX_m, tX_m, xX_m, sgX_m, zaX_m, fsB_a, qX_m, mX_m]) (rest := [.ref (rf 0)]) rfl rfl (Nat.le_of_ble_eq_true rfl) dX9_part_175 (ws2 := (fun _ : Unit => (mX mr rf st L th ((pl + 1) + 1 + 1) hs vs (nI d2) xx ++ iaX cI (rf 5) 120 X ++ qX cI (rf 0) nH nV wk ea gi sw f1 f2 f3 f4 f5 f6 f7 f8))) (fun _ => (pm_cnt (fun _ => by simp only [List.countP_append, List.countP_nil, fT] <;> omega))) (fun _ Hp locs hP hD hS => ?_)
                refine lv_bipush (v := (nI 10)) hx hb dX9_part_178 (by decide) ?_
                refine lv_iload_n hx hb dX9_part_180 rfl (lv_at hl 1 rfl) ?_
                refine lv_imul hx hb dX9_part_181 ?_
                rw [pk_mul 10 d1]
                refine lv_aload_n hx hb dX9_part_182 rfl (lv_at hl 2 rfl) ?_
                refine gf_n (C := RX9) (T := TX9) (N := 15) (ci := 9) (q0 := 0) (v := .int (nI d2)) hx hb hts (iU inlX9) hown hK hP rfl rfl 13 (by decide) (kU u_270) rfl rfl dX9_part_183 ?_
                refine lv_iadd hx hb dX9_part_186 ?_
                rw [nI_add (10 * d1) d2]
                refine is_n (q0 := 2) (t0 := 0) (ws2 := (mX mr rf st L th ((pl + 1) + 1 + 1) hs vs (nI d2) xx ++ iaX cI (rf 5) 120 X ++ qX cI (rf 0) nH nV wk ea gi sw f1 f2 f3 f4 (va_up f5 vs ((10 * d1) + d2)) f6 f7 f8)) hx hb hK hP hD hS rfl rfl (by omega) (by decide) dX9_part_187 (by rw [qU_5 (by omega)]; rfl) (fun Hp locs hP hD hS => ?_)
                refine lv_aload_n hx hb dX9_part_188 rfl (lv_at hl 2 rfl) ?_
                refine lv_dup hx hb dX9_part_189 rfl ?_
                refine gf_n (C := RX9) (T := TX9) (N := 15) (ci := 9) (q0 := 0) (v := .int (nI vs)) hx hb hts (iU inlX9) hown hK hP rfl rfl 12 (by decide) (kU u_261) rfl rfl dX9_part_190 ?_
                refine lv_iconst (v := (nI 1)) hx hb dX9_part_193 (by decide) ?_
                refine lv_iadd hx hb dX9_part_194 ?_
                rw [nI_add vs 1]
                refine pf_n (C := RX9) (T := TX9) (N := 15) (ci := 9) (q0 := 0) (ty := .int) (v := .int (nI (vs + 1))) (ws2 := (mX mr rf st L th ((pl + 1) + 1 + 1) hs (vs + 1) (nI d2) xx ++ iaX cI (rf 5) 120 X ++ qX cI (rf 0) nH nV wk ea gi sw f1 f2 f3 f4 (va_up f5 vs ((10 * d1) + d2)) f6 f7 f8)) hx hb hts (iU inlX9) tyX9 tyX9_ok nmX9 hown hK hP hD hS rfl rfl 12 (by decide) (kU u_261) rfl rfl (tyX9_ok 12 (by decide)) rfl rfl (Nat.le_of_ble_eq_true rfl) dX9_part_195 rfl (fun Hp locs hP hD hS => ?_)
                refine lv_iload_n hx hb dX9_part_198 rfl (lv_at hl 0 rfl) ?_
                exact ct_z ((nI d2)) hx hb hr hlocks (by first | (rw [rpP_v (by omega) (by omega), rpV_1 k1, hsP_f (by omega), vsP_t (by omega)]; exact hP) | (rw [rpP_v (by omega) (by omega), rpV_2 k1 (show dg X L (pl + 1 + 1) 0 (min 9 (40 - 10 * d1)) = none from by first | (rw [show min 9 (40 - 10 * d1) = 0 by omega]; exact k2) | (rw [show min 9 (40 - 10 * d1) = 9 by omega]; exact k2)), hsP_f (by omega), vsP_t (by omega)]; exact hP) | (rw [rpP_v (by omega) (by omega), rpV_3 k1 (show dg X L (pl + 1 + 1) 0 (min 9 (40 - 10 * d1)) = some d2 from by first | (rw [show min 9 (40 - 10 * d1) = 0 by omega]; exact k2) | (rw [show min 9 (40 - 10 * d1) = 9 by omega]; exact k2)), hsP_f (by omega), vsP_t (by omega)]; exact hP)) hS (by first | (rw [rpP_v (by omega) (by omega), rpV_1 k1]; rfl) | (rw [rpP_v (by omega) (by omega), rpV_2 k1 (show dg X L (pl + 1 + 1) 0 (min 9 (40 - 10 * d1)) = none from by first | (rw [show min 9 (40 - 10 * d1) = 0 by omega]; exact k2) | (rw [show min 9 (40 - 10 * d1) = 9 by omega]; exact k2))]; rfl) | (rw [rpP_v (by omega) (by omega), rpV_3 k1 (show dg X L (pl + 1 + 1) 0 (min 9 (40 - 10 * d1)) = some d2 from by first | (rw [show min 9 (40 - 10 * d1) = 0 by omega]; exact k2) | (rw [show min 9 (40 - 10 * d1) = 9 by omega]; exact k2))]; rfl)) dX9_part_199
        · skip
          rw [show (if (pl < L ∧ X pl = 118) then (1 : Int32) else 0) = nI 0 from if_neg (fun z => q_115 z.2)]
          rw [if_neg (show ¬ (pl < L ∧ X pl = 118) from fun z => q_115 z.2)] at hP hD
          refine lv_if_eq (tgt := 200) hx hb dX9_part_115 (by decide) (fun _ => ?_) (fun c_115 => absurd (by decide +kernel) c_115)
          refine lv_aload_n hx hb dX9_part_200 rfl (lv_at hl 0 rfl) ?_
          refine gf_n (C := RX9) (T := TX9) (N := 15) (ci := 9) (q0 := 0) (v := .int (nI hs)) hx hb hts (iU inlX9) hown hK hP rfl rfl 11 (by decide) (kU u_260) rfl rfl dX9_part_201 ?_
          refine lv_if_le (tgt := 315) hx hb dX9_part_204 (by decide) (fun c_204 => ?_) (fun c_204 => ?_)
          · skip
            replace c_204 := cn_le (b := 0) (by omega) (by omega) c_204
            refine lv_aload_n hx hb dX9_part_315 rfl (lv_at hl 0 rfl) ?_
            refine gf_n (C := RX9) (T := TX9) (N := 15) (ci := 9) (q0 := 0) (v := .int (nI hs)) hx hb hts (iU inlX9) hown hK hP rfl rfl 11 (by decide) (kU u_260) rfl rfl dX9_part_316 ?_
            refine lv_if_le (tgt := 349) hx hb dX9_part_319 (by decide) (fun c_319 => ?_) (fun c_319 => ?_)
            · skip
              replace c_319 := cn_le (b := 0) (by omega) (by omega) c_319
              exfalso; rw [rpP_n (by omega) (by omega) (by omega) (by omega)] at hok; cases hok
            · skip
              replace c_319 := cn_nle (b := 0) (by omega) (by omega) c_319
              refine lv_aload_n hx hb dX9_part_322 rfl (lv_at hl 0 rfl) ?_
              refine lv_bipush (v := (nI 115)) hx hb dX9_part_323 (by decide) ?_
              refine gp_V (ci := 9) (q0 := 0) (cq := (RX9, TX9, 15)) (c_X9_letter l D cI cZ cF cL mr rf st L th pl hs vs dg0 xx X 115 hL hXt hpp (by decide)) (gUV u_262 u_263 u_264 u_5 u_265) rfl hdV_X9_letter ⟨Nat.le_of_ble_eq_true rfl, Nat.le_of_ble_eq_true rfl⟩ ⟨rfl, rfl⟩ hx hb hml hown hts hK hA hP hD hS hl.1 ⟨Nat.le_of_ble_eq_true rfl, Nat.le_of_ble_eq_true rfl⟩ rfl rfl rfl (wr := (qX cI (rf 0) nH nV wk ea gi sw f1 f2 f3 f4 f5 f6 f7 f8)) (pm_cnt (fun _ => by simp only [List.countP_append, List.countP_nil, fT] <;> omega)) (fun _ => by simp only [List.map_append, List.map_nil, fX_m, bX_m, sX_m, pX_m, iaX_m, r5X_m, r6X_m, fT_m, hX_m, tX_m, xX_m, sgX_m, zaX_m, fsB_a, qX_m, mX_m]) (rest := []) rfl rfl (Nat.le_of_ble_eq_true rfl) dX9_part_325 (ws2 := (fun _ : Unit => (mX mr rf st L th (if (pl < L ∧ X pl = 115) then pl + 1 else pl) hs vs dg0 xx ++ iaX cI (rf 5) 120 X ++ qX cI (rf 0) nH nV wk ea gi sw f1 f2 f3 f4 f5 f6 f7 f8))) (fun _ => (pm_cnt (fun _ => by simp only [List.countP_append, List.countP_nil, fT] <;> omega))) (fun _ Hp locs hP hD hS => ?_)
              by_cases q_328 : X pl = 115
              · skip
                rw [show (if (pl < L ∧ X pl = 115) then (1 : Int32) else 0) = nI 1 from if_pos ⟨hpl, q_328⟩]
                rw [if_pos (⟨hpl, q_328⟩ : (pl < L ∧ X pl = 115))] at hP hD
                refine lv_if_eq (tgt := 349) hx hb dX9_part_328 (by decide) (fun c_328 => absurd c_328 (by decide +kernel)) (fun _ => ?_)
                refine lv_aload_n hx hb dX9_part_331 rfl (lv_at hl 0 rfl) ?_
                refine lv_iconst (v := (nI 0)) hx hb dX9_part_332 (by decide) ?_
                refine lv_aload_n hx hb dX9_part_333 rfl (lv_at hl 0 rfl) ?_
                refine gf_n (C := RX9) (T := TX9) (N := 15) (ci := 9) (q0 := 0) (v := .int (nI hs)) hx hb hts (iU inlX9) hown hK hP rfl rfl 11 (by decide) (kU u_260) rfl rfl dX9_part_334 ?_
                refine lv_iconst (v := (nI 1)) hx hb dX9_part_337 (by decide) ?_
                refine lv_isub hx hb dX9_part_338 ?_
                rw [pk_sub (a := hs) (b := 1) (by omega)]
                refine gp_V (ci := 9) (q0 := 0) (cq := (RX9, TX9, 15)) (c_X9_digitTo l D cI cZ cF cL mr rf st L th (pl + 1) hs vs dg0 xx X 0 (hs - 1) hL hXt (by omega) (by omega) (by omega)) (gUV u_271 u_272 u_273 u_5 u_274) rfl hdV_X9_digitTo ⟨Nat.le_of_ble_eq_true rfl, Nat.le_of_ble_eq_true rfl⟩ ⟨rfl, rfl⟩ hx hb hml hown hts hK hA hP hD hS hl.1 ⟨Nat.le_of_ble_eq_true rfl, Nat.le_of_ble_eq_true rfl⟩ rfl rfl rfl (wr := (qX cI (rf 0) nH nV wk ea gi sw f1 f2 f3 f4 f5 f6 f7 f8)) (pm_cnt (fun _ => by simp only [List.countP_append, List.countP_nil, fT] <;> omega)) (fun _ => by simp only [List.map_append, List.map_nil, fX_m, bX_m, sX_m, pX_m, iaX_m, r5X_m, r6X_m, fT_m, hX_m, tX_m, xX_m, sgX_m, zaX_m, fsB_a, qX_m, mX_m]) (rest := []) rfl rfl (Nat.le_of_ble_eq_true rfl) dX9_part_339 (ws2 := (fun _ : Unit => (mX mr rf st L th (plD X L (pl + 1) 0 (hs - 1)) hs vs (dgI X L (pl + 1)) xx ++ iaX cI (rf 5) 120 X ++ qX cI (rf 0) nH nV wk ea gi sw f1 f2 f3 f4 f5 f6 f7 f8))) (fun _ => (pm_cnt (fun _ => by simp only [List.countP_append, List.countP_nil, fT] <;> omega))) (fun _ Hp locs hP hD hS => ?_)
                rcases k1 : dg X L (pl + 1) 0 (hs - 1) with _ | d1
                · skip
                  exfalso; rw [rpP_s (by omega) (by omega) (by omega) (by omega), rpS_1 k1] at hok; cases hok
                · skip
                  rw [show (if (some d1).isSome = true then (1 : Int32) else 0) = nI 1 from rfl]
                  rw [plD_s k1, dgI_s k1] at hP hD
                  obtain ⟨b1_k1, b2_k1, -, -⟩ := dg_le k1
                  refine lv_if_eq (tgt := 349) hx hb dX9_part_342 (by decide) (fun c_342 => absurd c_342 (by decide +kernel)) (fun _ => ?_)
                  refine lv_iconst (v := (nI 1)) hx hb dX9_part_345 (by decide) ?_
                  refine lv_goto (tgt := 350) hx hb dX9_part_346 (by decide) ?_
                  refine lv_istore_n (lv' := [(2, .int (nI 1)), (0, .ref mr), (1, .int (nI 1))]) hx hb dX9_part_350 rfl hl (by decide) rfl (fun ls hl => ?_)
                  refine lv_iload_n hx hb dX9_part_351 rfl (lv_at hl 0 rfl) ?_
                  refine lv_if_eq (tgt := 374) hx hb dX9_part_352 (by decide) (fun c_352 => absurd c_352 (by decide +kernel)) (fun _ => ?_)
                  refine lv_iload_n hx hb dX9_part_355 rfl (lv_at hl 2 rfl) ?_
                  refine lv_if_eq (tgt := 374) hx hb dX9_part_356 (by decide) (fun c_356 => absurd c_356 (by decide +kernel)) (fun _ => ?_)
                  refine lv_aload_n hx hb dX9_part_359 rfl (lv_at hl 1 rfl) ?_
                  refine gf_n (C := RX9) (T := TX9) (N := 15) (ci := 9) (q0 := 0) (v := .ref (rf 0)) hx hb hts (iU inlX9) hown hK hP rfl rfl 0 (by decide) (kU u_129) rfl rfl dX9_part_360 ?_
                  refine lv_aload_n hx hb dX9_part_363 rfl (lv_at hl 1 rfl) ?_
                  refine gf_n (C := RX9) (T := TX9) (N := 15) (ci := 9) (q0 := 0) (v := .int (nI d1)) hx hb hts (iU inlX9) hown hK hP rfl rfl 13 (by decide) (kU u_270) rfl rfl dX9_part_364 ?_
                  refine gp_S (c_X9_size l D cI cZ cF cL d1 ) (gUS u_275 u_276 u_5 u_277) rfl hdS_X9_size ⟨Nat.le_of_ble_eq_true rfl, Nat.le_of_ble_eq_true rfl⟩ ⟨rfl, rfl⟩ hx hb hml hown hts hK hA hP hD hS hl.1 ⟨Nat.le_of_ble_eq_true rfl, Nat.le_of_ble_eq_true rfl⟩ (wr := (mX mr rf st L th (pl + 1 + 1) hs vs (nI d1) xx ++ iaX cI (rf 5) 120 X ++ qX cI (rf 0) nH nV wk ea gi sw f1 f2 f3 f4 f5 f6 f7 f8)) (pm_cnt (fun _ => by simp only [List.countP_append, List.countP_nil, fT] <;> omega)) (fun _ => by simp only [List.map_append, List.map_nil, fX_m, bX_m, sX_m, pX_m, iaX_m, r5X_m, r6X_m, fT_m, hX_m, tX_m, xX_m, sgX_m, zaX_m, fsB_a, qX_m, mX_m]) (rest := [.ref (rf 0)]) rfl rfl (Nat.le_of_ble_eq_true rfl) dX9_part_367 (ws2 := (fun _ : Unit => (mX mr rf st L th (pl + 1 + 1) hs vs (nI d1) xx ++ iaX cI (rf 5) 120 X ++ qX cI (rf 0) nH nV wk ea gi sw f1 f2 f3 f4 f5 f6 f7 f8))) (fun _ => (pm_cnt (fun _ => by simp only [List.countP_append, List.countP_nil, fT] <;> omega))) (fun _ Hp locs hP hD hS => ?_)
                  refine lv_iconst (v := (nI 3)) hx hb dX9_part_370 (by decide) ?_
                  refine lv_iadd hx hb dX9_part_371 ?_
                  rw [nI_add (6 + 4 * d1) 3]
                  refine lv_iconst (v := (nI 1)) hx hb dX9_part_372 (by decide) ?_
                  refine is_n (q0 := 2) (t0 := 0) (ws2 := (mX mr rf st L th (pl + 1 + 1) hs vs (nI d1) xx ++ iaX cI (rf 5) 120 X ++ qX cI (rf 0) nH nV wk ea gi sw f1 f2 f3 (va_up f4 d1 1) f5 f6 f7 f8)) hx hb hK hP hD hS rfl rfl (by omega) (by decide) dX9_part_373 (by rw [qU_4 (by omega)]; rfl) (fun Hp locs hP hD hS => ?_)
                  refine lv_iload_n hx hb dX9_part_374 rfl (lv_at hl 0 rfl) ?_
                  exact ct_z ((nI d1)) hx hb hr hlocks (by first | (rw [rpP_s (by omega) (by omega) (by omega) (by omega), rpS_1 k1, hsP_f (by omega), vsP_f (by omega)]; exact hP) | (rw [rpP_s (by omega) (by omega) (by omega) (by omega), rpS_2 k1, hsP_f (by omega), vsP_f (by omega)]; exact hP)) hS (by first | (rw [rpP_s (by omega) (by omega) (by omega) (by omega), rpS_1 k1]; rfl) | (rw [rpP_s (by omega) (by omega) (by omega) (by omega), rpS_2 k1]; rfl)) dX9_part_375
              · skip
                rw [show (if (pl < L ∧ X pl = 115) then (1 : Int32) else 0) = nI 0 from if_neg (fun z => q_328 z.2)]
                rw [if_neg (show ¬ (pl < L ∧ X pl = 115) from fun z => q_328 z.2)] at hP hD
                refine lv_if_eq (tgt := 349) hx hb dX9_part_328 (by decide) (fun _ => ?_) (fun c_328 => absurd (by decide +kernel) c_328)
                exfalso; rw [rpP_n (by omega) (by omega) (by omega) (by omega)] at hok; cases hok
          · skip
            replace c_204 := cn_nle (b := 0) (by omega) (by omega) c_204
            refine lv_aload_n hx hb dX9_part_207 rfl (lv_at hl 0 rfl) ?_
            refine gf_n (C := RX9) (T := TX9) (N := 15) (ci := 9) (q0 := 0) (v := .int (nI vs)) hx hb hts (iU inlX9) hown hK hP rfl rfl 12 (by decide) (kU u_261) rfl rfl dX9_part_208 ?_
            refine lv_if_le (tgt := 315) hx hb dX9_part_211 (by decide) (fun c_211 => ?_) (fun c_211 => ?_)
            · skip
              replace c_211 := cn_le (b := 0) (by omega) (by omega) c_211
              refine lv_aload_n hx hb dX9_part_315 rfl (lv_at hl 0 rfl) ?_
              refine gf_n (C := RX9) (T := TX9) (N := 15) (ci := 9) (q0 := 0) (v := .int (nI hs)) hx hb hts (iU inlX9) hown hK hP rfl rfl 11 (by decide) (kU u_260) rfl rfl dX9_part_316 ?_
              refine lv_if_le (tgt := 349) hx hb dX9_part_319 (by decide) (fun c_319 => ?_) (fun c_319 => ?_)
              · skip
                replace c_319 := cn_le (b := 0) (by omega) (by omega) c_319
                exfalso; rw [rpP_n (by omega) (by omega) (by omega) (by omega)] at hok; cases hok
              · skip
                replace c_319 := cn_nle (b := 0) (by omega) (by omega) c_319
                refine lv_aload_n hx hb dX9_part_322 rfl (lv_at hl 0 rfl) ?_
                refine lv_bipush (v := (nI 115)) hx hb dX9_part_323 (by decide) ?_
                refine gp_V (ci := 9) (q0 := 0) (cq := (RX9, TX9, 15)) (c_X9_letter l D cI cZ cF cL mr rf st L th pl hs vs dg0 xx X 115 hL hXt hpp (by decide)) (gUV u_262 u_263 u_264 u_5 u_265) rfl hdV_X9_letter ⟨Nat.le_of_ble_eq_true rfl, Nat.le_of_ble_eq_true rfl⟩ ⟨rfl, rfl⟩ hx hb hml hown hts hK hA hP hD hS hl.1 ⟨Nat.le_of_ble_eq_true rfl, Nat.le_of_ble_eq_true rfl⟩ rfl rfl rfl (wr := (qX cI (rf 0) nH nV wk ea gi sw f1 f2 f3 f4 f5 f6 f7 f8)) (pm_cnt (fun _ => by simp only [List.countP_append, List.countP_nil, fT] <;> omega)) (fun _ => by simp only [List.map_append, List.map_nil, fX_m, bX_m, sX_m, pX_m, iaX_m, r5X_m, r6X_m, fT_m, hX_m, tX_m, xX_m, sgX_m, zaX_m, fsB_a, qX_m, mX_m]) (rest := []) rfl rfl (Nat.le_of_ble_eq_true rfl) dX9_part_325 (ws2 := (fun _ : Unit => (mX mr rf st L th (if (pl < L ∧ X pl = 115) then pl + 1 else pl) hs vs dg0 xx ++ iaX cI (rf 5) 120 X ++ qX cI (rf 0) nH nV wk ea gi sw f1 f2 f3 f4 f5 f6 f7 f8))) (fun _ => (pm_cnt (fun _ => by simp only [List.countP_append, List.countP_nil, fT] <;> omega))) (fun _ Hp locs hP hD hS => ?_)
                by_cases q_328 : X pl = 115
                · skip
                  rw [show (if (pl < L ∧ X pl = 115) then (1 : Int32) else 0) = nI 1 from if_pos ⟨hpl, q_328⟩]
                  rw [if_pos (⟨hpl, q_328⟩ : (pl < L ∧ X pl = 115))] at hP hD
                  refine lv_if_eq (tgt := 349) hx hb dX9_part_328 (by decide) (fun c_328 => absurd c_328 (by decide +kernel)) (fun _ => ?_)
                  refine lv_aload_n hx hb dX9_part_331 rfl (lv_at hl 0 rfl) ?_
                  refine lv_iconst (v := (nI 0)) hx hb dX9_part_332 (by decide) ?_
                  refine lv_aload_n hx hb dX9_part_333 rfl (lv_at hl 0 rfl) ?_
                  refine gf_n (C := RX9) (T := TX9) (N := 15) (ci := 9) (q0 := 0) (v := .int (nI hs)) hx hb hts (iU inlX9) hown hK hP rfl rfl 11 (by decide) (kU u_260) rfl rfl dX9_part_334 ?_
                  refine lv_iconst (v := (nI 1)) hx hb dX9_part_337 (by decide) ?_
                  refine lv_isub hx hb dX9_part_338 ?_
                  rw [pk_sub (a := hs) (b := 1) (by omega)]
                  refine gp_V (ci := 9) (q0 := 0) (cq := (RX9, TX9, 15)) (c_X9_digitTo l D cI cZ cF cL mr rf st L th (pl + 1) hs vs dg0 xx X 0 (hs - 1) hL hXt (by omega) (by omega) (by omega)) (gUV u_271 u_272 u_273 u_5 u_274) rfl hdV_X9_digitTo ⟨Nat.le_of_ble_eq_true rfl, Nat.le_of_ble_eq_true rfl⟩ ⟨rfl, rfl⟩ hx hb hml hown hts hK hA hP hD hS hl.1 ⟨Nat.le_of_ble_eq_true rfl, Nat.le_of_ble_eq_true rfl⟩ rfl rfl rfl (wr := (qX cI (rf 0) nH nV wk ea gi sw f1 f2 f3 f4 f5 f6 f7 f8)) (pm_cnt (fun _ => by simp only [List.countP_append, List.countP_nil, fT] <;> omega)) (fun _ => by simp only [List.map_append, List.map_nil, fX_m, bX_m, sX_m, pX_m, iaX_m, r5X_m, r6X_m, fT_m, hX_m, tX_m, xX_m, sgX_m, zaX_m, fsB_a, qX_m, mX_m]) (rest := []) rfl rfl (Nat.le_of_ble_eq_true rfl) dX9_part_339 (ws2 := (fun _ : Unit => (mX mr rf st L th (plD X L (pl + 1) 0 (hs - 1)) hs vs (dgI X L (pl + 1)) xx ++ iaX cI (rf 5) 120 X ++ qX cI (rf 0) nH nV wk ea gi sw f1 f2 f3 f4 f5 f6 f7 f8))) (fun _ => (pm_cnt (fun _ => by simp only [List.countP_append, List.countP_nil, fT] <;> omega))) (fun _ Hp locs hP hD hS => ?_)
                  rcases k1 : dg X L (pl + 1) 0 (hs - 1) with _ | d1
                  · skip
                    exfalso; rw [rpP_s (by omega) (by omega) (by omega) (by omega), rpS_1 k1] at hok; cases hok
                  · skip
                    rw [show (if (some d1).isSome = true then (1 : Int32) else 0) = nI 1 from rfl]
                    rw [plD_s k1, dgI_s k1] at hP hD
                    obtain ⟨b1_k1, b2_k1, -, -⟩ := dg_le k1
                    refine lv_if_eq (tgt := 349) hx hb dX9_part_342 (by decide) (fun c_342 => absurd c_342 (by decide +kernel)) (fun _ => ?_)
                    refine lv_iconst (v := (nI 1)) hx hb dX9_part_345 (by decide) ?_
                    refine lv_goto (tgt := 350) hx hb dX9_part_346 (by decide) ?_
                    refine lv_istore_n (lv' := [(2, .int (nI 1)), (0, .ref mr), (1, .int (nI 1))]) hx hb dX9_part_350 rfl hl (by decide) rfl (fun ls hl => ?_)
                    refine lv_iload_n hx hb dX9_part_351 rfl (lv_at hl 0 rfl) ?_
                    refine lv_if_eq (tgt := 374) hx hb dX9_part_352 (by decide) (fun c_352 => absurd c_352 (by decide +kernel)) (fun _ => ?_)
                    refine lv_iload_n hx hb dX9_part_355 rfl (lv_at hl 2 rfl) ?_
                    refine lv_if_eq (tgt := 374) hx hb dX9_part_356 (by decide) (fun c_356 => absurd c_356 (by decide +kernel)) (fun _ => ?_)
                    refine lv_aload_n hx hb dX9_part_359 rfl (lv_at hl 1 rfl) ?_
                    refine gf_n (C := RX9) (T := TX9) (N := 15) (ci := 9) (q0 := 0) (v := .ref (rf 0)) hx hb hts (iU inlX9) hown hK hP rfl rfl 0 (by decide) (kU u_129) rfl rfl dX9_part_360 ?_
                    refine lv_aload_n hx hb dX9_part_363 rfl (lv_at hl 1 rfl) ?_
                    refine gf_n (C := RX9) (T := TX9) (N := 15) (ci := 9) (q0 := 0) (v := .int (nI d1)) hx hb hts (iU inlX9) hown hK hP rfl rfl 13 (by decide) (kU u_270) rfl rfl dX9_part_364 ?_
                    refine gp_S (c_X9_size l D cI cZ cF cL d1 ) (gUS u_275 u_276 u_5 u_277) rfl hdS_X9_size ⟨Nat.le_of_ble_eq_true rfl, Nat.le_of_ble_eq_true rfl⟩ ⟨rfl, rfl⟩ hx hb hml hown hts hK hA hP hD hS hl.1 ⟨Nat.le_of_ble_eq_true rfl, Nat.le_of_ble_eq_true rfl⟩ (wr := (mX mr rf st L th (pl + 1 + 1) hs vs (nI d1) xx ++ iaX cI (rf 5) 120 X ++ qX cI (rf 0) nH nV wk ea gi sw f1 f2 f3 f4 f5 f6 f7 f8)) (pm_cnt (fun _ => by simp only [List.countP_append, List.countP_nil, fT] <;> omega)) (fun _ => by simp only [List.map_append, List.map_nil, fX_m, bX_m, sX_m, pX_m, iaX_m, r5X_m, r6X_m, fT_m, hX_m, tX_m, xX_m, sgX_m, zaX_m, fsB_a, qX_m, mX_m]) (rest := [.ref (rf 0)]) rfl rfl (Nat.le_of_ble_eq_true rfl) dX9_part_367 (ws2 := (fun _ : Unit => (mX mr rf st L th (pl + 1 + 1) hs vs (nI d1) xx ++ iaX cI (rf 5) 120 X ++ qX cI (rf 0) nH nV wk ea gi sw f1 f2 f3 f4 f5 f6 f7 f8))) (fun _ => (pm_cnt (fun _ => by simp only [List.countP_append, List.countP_nil, fT] <;> omega))) (fun _ Hp locs hP hD hS => ?_)
                    refine lv_iconst (v := (nI 3)) hx hb dX9_part_370 (by decide) ?_
                    refine lv_iadd hx hb dX9_part_371 ?_
                    rw [nI_add (6 + 4 * d1) 3]
                    refine lv_iconst (v := (nI 1)) hx hb dX9_part_372 (by decide) ?_
                    refine is_n (q0 := 2) (t0 := 0) (ws2 := (mX mr rf st L th (pl + 1 + 1) hs vs (nI d1) xx ++ iaX cI (rf 5) 120 X ++ qX cI (rf 0) nH nV wk ea gi sw f1 f2 f3 (va_up f4 d1 1) f5 f6 f7 f8)) hx hb hK hP hD hS rfl rfl (by omega) (by decide) dX9_part_373 (by rw [qU_4 (by omega)]; rfl) (fun Hp locs hP hD hS => ?_)
                    refine lv_iload_n hx hb dX9_part_374 rfl (lv_at hl 0 rfl) ?_
                    exact ct_z ((nI d1)) hx hb hr hlocks (by first | (rw [rpP_s (by omega) (by omega) (by omega) (by omega), rpS_1 k1, hsP_f (by omega), vsP_f (by omega)]; exact hP) | (rw [rpP_s (by omega) (by omega) (by omega) (by omega), rpS_2 k1, hsP_f (by omega), vsP_f (by omega)]; exact hP)) hS (by first | (rw [rpP_s (by omega) (by omega) (by omega) (by omega), rpS_1 k1]; rfl) | (rw [rpP_s (by omega) (by omega) (by omega) (by omega), rpS_2 k1]; rfl)) dX9_part_375
                · skip
                  rw [show (if (pl < L ∧ X pl = 115) then (1 : Int32) else 0) = nI 0 from if_neg (fun z => q_328 z.2)]
                  rw [if_neg (show ¬ (pl < L ∧ X pl = 115) from fun z => q_328 z.2)] at hP hD
                  refine lv_if_eq (tgt := 349) hx hb dX9_part_328 (by decide) (fun _ => ?_) (fun c_328 => absurd (by decide +kernel) c_328)
                  exfalso; rw [rpP_n (by omega) (by omega) (by omega) (by omega)] at hok; cases hok
            · skip
              replace c_211 := cn_nle (b := 0) (by omega) (by omega) c_211
              refine lv_aload_n hx hb dX9_part_214 rfl (lv_at hl 0 rfl) ?_
              refine lv_bipush (v := (nI 108)) hx hb dX9_part_215 (by decide) ?_
              refine gp_V (ci := 9) (q0 := 0) (cq := (RX9, TX9, 15)) (c_X9_letter l D cI cZ cF cL mr rf st L th pl hs vs dg0 xx X 108 hL hXt hpp (by decide)) (gUV u_262 u_263 u_264 u_5 u_265) rfl hdV_X9_letter ⟨Nat.le_of_ble_eq_true rfl, Nat.le_of_ble_eq_true rfl⟩ ⟨rfl, rfl⟩ hx hb hml hown hts hK hA hP hD hS hl.1 ⟨Nat.le_of_ble_eq_true rfl, Nat.le_of_ble_eq_true rfl⟩ rfl rfl rfl (wr := (qX cI (rf 0) nH nV wk ea gi sw f1 f2 f3 f4 f5 f6 f7 f8)) (pm_cnt (fun _ => by simp only [List.countP_append, List.countP_nil, fT] <;> omega)) (fun _ => by simp only [List.map_append, List.map_nil, fX_m, bX_m, sX_m, pX_m, iaX_m, r5X_m, r6X_m, fT_m, hX_m, tX_m, xX_m, sgX_m, zaX_m, fsB_a, qX_m, mX_m]) (rest := []) rfl rfl (Nat.le_of_ble_eq_true rfl) dX9_part_217 (ws2 := (fun _ : Unit => (mX mr rf st L th (if (pl < L ∧ X pl = 108) then pl + 1 else pl) hs vs dg0 xx ++ iaX cI (rf 5) 120 X ++ qX cI (rf 0) nH nV wk ea gi sw f1 f2 f3 f4 f5 f6 f7 f8))) (fun _ => (pm_cnt (fun _ => by simp only [List.countP_append, List.countP_nil, fT] <;> omega))) (fun _ Hp locs hP hD hS => ?_)
              by_cases q_220 : X pl = 108
              · skip
                rw [show (if (pl < L ∧ X pl = 108) then (1 : Int32) else 0) = nI 1 from if_pos ⟨hpl, q_220⟩]
                rw [if_pos (⟨hpl, q_220⟩ : (pl < L ∧ X pl = 108))] at hP hD
                refine lv_if_eq (tgt := 315) hx hb dX9_part_220 (by decide) (fun c_220 => absurd c_220 (by decide +kernel)) (fun _ => ?_)
                refine lv_aload_n hx hb dX9_part_223 rfl (lv_at hl 0 rfl) ?_
                refine lv_iconst (v := (nI 0)) hx hb dX9_part_224 (by decide) ?_
                refine lv_aload_n hx hb dX9_part_225 rfl (lv_at hl 0 rfl) ?_
                refine gf_n (C := RX9) (T := TX9) (N := 15) (ci := 9) (q0 := 0) (v := .int (nI hs)) hx hb hts (iU inlX9) hown hK hP rfl rfl 11 (by decide) (kU u_260) rfl rfl dX9_part_226 ?_
                refine lv_iconst (v := (nI 1)) hx hb dX9_part_229 (by decide) ?_
                refine lv_isub hx hb dX9_part_230 ?_
                rw [pk_sub (a := hs) (b := 1) (by omega)]
                refine gp_V (ci := 9) (q0 := 0) (cq := (RX9, TX9, 15)) (c_X9_digitTo l D cI cZ cF cL mr rf st L th (pl + 1) hs vs dg0 xx X 0 (hs - 1) hL hXt (by omega) (by omega) (by omega)) (gUV u_271 u_272 u_273 u_5 u_274) rfl hdV_X9_digitTo ⟨Nat.le_of_ble_eq_true rfl, Nat.le_of_ble_eq_true rfl⟩ ⟨rfl, rfl⟩ hx hb hml hown hts hK hA hP hD hS hl.1 ⟨Nat.le_of_ble_eq_true rfl, Nat.le_of_ble_eq_true rfl⟩ rfl rfl rfl (wr := (qX cI (rf 0) nH nV wk ea gi sw f1 f2 f3 f4 f5 f6 f7 f8)) (pm_cnt (fun _ => by simp only [List.countP_append, List.countP_nil, fT] <;> omega)) (fun _ => by simp only [List.map_append, List.map_nil, fX_m, bX_m, sX_m, pX_m, iaX_m, r5X_m, r6X_m, fT_m, hX_m, tX_m, xX_m, sgX_m, zaX_m, fsB_a, qX_m, mX_m]) (rest := []) rfl rfl (Nat.le_of_ble_eq_true rfl) dX9_part_231 (ws2 := (fun _ : Unit => (mX mr rf st L th (plD X L (pl + 1) 0 (hs - 1)) hs vs (dgI X L (pl + 1)) xx ++ iaX cI (rf 5) 120 X ++ qX cI (rf 0) nH nV wk ea gi sw f1 f2 f3 f4 f5 f6 f7 f8))) (fun _ => (pm_cnt (fun _ => by simp only [List.countP_append, List.countP_nil, fT] <;> omega))) (fun _ Hp locs hP hD hS => ?_)
                rcases k1 : dg X L (pl + 1) 0 (hs - 1) with _ | d1
                · skip
                  exfalso; rw [rpP_l (by omega) (by omega) (by omega), rpL_1 k1] at hok; cases hok
                · skip
                  rw [show (if (some d1).isSome = true then (1 : Int32) else 0) = nI 1 from rfl]
                  rw [plD_s k1, dgI_s k1] at hP hD
                  obtain ⟨b1_k1, b2_k1, -, -⟩ := dg_le k1
                  refine lv_istore_n (lv' := [(2, .int (nI 1)), (0, .ref mr), (1, .int (nI 1))]) hx hb dX9_part_234 rfl hl (by decide) rfl (fun ls hl => ?_)
                  refine lv_aload_n hx hb dX9_part_235 rfl (lv_at hl 1 rfl) ?_
                  refine gf_n (C := RX9) (T := TX9) (N := 15) (ci := 9) (q0 := 0) (v := .int (nI d1)) hx hb hts (iU inlX9) hown hK hP rfl rfl 13 (by decide) (kU u_270) rfl rfl dX9_part_236 ?_
                  refine lv_istore_n (lv' := [(3, .int (nI d1)), (2, .int (nI 1)), (0, .ref mr), (1, .int (nI 1))]) hx hb dX9_part_239 rfl hl (by decide) rfl (fun ls hl => ?_)
                  refine lv_iload_n hx hb dX9_part_240 rfl (lv_at hl 1 rfl) ?_
                  refine lv_if_eq (tgt := 262) hx hb dX9_part_241 (by decide) (fun c_241 => absurd c_241 (by decide +kernel)) (fun _ => ?_)
                  refine lv_aload_n hx hb dX9_part_244 rfl (lv_at hl 2 rfl) ?_
                  refine lv_iconst (v := (nI 0)) hx hb dX9_part_245 (by decide) ?_
                  refine lv_aload_n hx hb dX9_part_246 rfl (lv_at hl 2 rfl) ?_
                  refine gf_n (C := RX9) (T := TX9) (N := 15) (ci := 9) (q0 := 0) (v := .int (nI vs)) hx hb hts (iU inlX9) hown hK hP rfl rfl 12 (by decide) (kU u_261) rfl rfl dX9_part_247 ?_
                  refine lv_iconst (v := (nI 1)) hx hb dX9_part_250 (by decide) ?_
                  refine lv_isub hx hb dX9_part_251 ?_
                  rw [pk_sub (a := vs) (b := 1) (by omega)]
                  refine gp_V (ci := 9) (q0 := 0) (cq := (RX9, TX9, 15)) (c_X9_digitTo l D cI cZ cF cL mr rf st L th (pl + 1 + 1) hs vs ((nI d1)) xx X 0 (vs - 1) hL hXt (by omega) (by omega) (by omega)) (gUV u_271 u_272 u_273 u_5 u_274) rfl hdV_X9_digitTo ⟨Nat.le_of_ble_eq_true rfl, Nat.le_of_ble_eq_true rfl⟩ ⟨rfl, rfl⟩ hx hb hml hown hts hK hA hP hD hS hl.1 ⟨Nat.le_of_ble_eq_true rfl, Nat.le_of_ble_eq_true rfl⟩ rfl rfl rfl (wr := (qX cI (rf 0) nH nV wk ea gi sw f1 f2 f3 f4 f5 f6 f7 f8)) (pm_cnt (fun _ => by simp only [List.countP_append, List.countP_nil, fT] <;> omega)) (fun _ => by simp only [List.map_append, List.map_nil, fX_m, bX_m, sX_m, pX_m, iaX_m, r5X_m, r6X_m, fT_m, hX_m, tX_m, xX_m, sgX_m, zaX_m, fsB_a, qX_m, mX_m]) (rest := []) rfl rfl (Nat.le_of_ble_eq_true rfl) dX9_part_252 (ws2 := (fun _ : Unit => (mX mr rf st L th (plD X L (pl + 1 + 1) 0 (vs - 1)) hs vs (dgI X L (pl + 1 + 1)) xx ++ iaX cI (rf 5) 120 X ++ qX cI (rf 0) nH nV wk ea gi sw f1 f2 f3 f4 f5 f6 f7 f8))) (fun _ => (pm_cnt (fun _ => by simp only [List.countP_append, List.countP_nil, fT] <;> omega))) (fun _ Hp locs hP hD hS => ?_)
                  rcases k2 : dg X L ((pl + 1) + 1) 0 (vs - 1) with _ | d2
                  · skip
                    exfalso; rw [rpP_l (by omega) (by omega) (by omega), rpL_2 k1 k2] at hok; cases hok
                  · skip
                    rw [show (if (some d2).isSome = true then (1 : Int32) else 0) = nI 1 from rfl]
                    rw [plD_s k2, dgI_s k2] at hP hD
                    obtain ⟨b1_k2, b2_k2, -, -⟩ := dg_le k2
                    refine lv_if_eq (tgt := 262) hx hb dX9_part_255 (by decide) (fun c_255 => absurd c_255 (by decide +kernel)) (fun _ => ?_)
                    refine lv_iconst (v := (nI 1)) hx hb dX9_part_258 (by decide) ?_
                    refine lv_goto (tgt := 263) hx hb dX9_part_259 (by decide) ?_
                    refine lv_istore_n (lv' := [(2, .int (nI 1)), (3, .int (nI d1)), (0, .ref mr), (1, .int (nI 1))]) hx hb dX9_part_263 rfl hl (by decide) rfl (fun ls hl => ?_)
                    refine lv_aload_n hx hb dX9_part_264 rfl (lv_at hl 2 rfl) ?_
                    refine gf_n (C := RX9) (T := TX9) (N := 15) (ci := 9) (q0 := 0) (v := .int (nI d2)) hx hb hts (iU inlX9) hown hK hP rfl rfl 13 (by decide) (kU u_270) rfl rfl dX9_part_265 ?_
                    refine lv_istore (lv' := [(4, .int (nI d2)), (2, .int (nI 1)), (3, .int (nI d1)), (0, .ref mr), (1, .int (nI 1))]) hx hb dX9_part_268 hl (by decide) rfl (fun ls hl => ?_)
                    refine lv_iload_n hx hb dX9_part_270 rfl (lv_at hl 1 rfl) ?_
                    refine lv_if_eq (tgt := 288) hx hb dX9_part_271 (by decide) (fun c_271 => absurd c_271 (by decide +kernel)) (fun _ => ?_)
                    refine lv_aload_n hx hb dX9_part_274 rfl (lv_at hl 3 rfl) ?_
                    refine lv_iconst (v := (nI 0)) hx hb dX9_part_275 (by decide) ?_
                    refine lv_bipush (v := (nI 9)) hx hb dX9_part_276 (by decide) ?_
                    refine gp_V (ci := 9) (q0 := 0) (cq := (RX9, TX9, 15)) (c_X9_digitTo l D cI cZ cF cL mr rf st L th ((pl + 1) + 1 + 1) hs vs ((nI d2)) xx X 0 9 hL hXt (by omega) (by omega) (by omega)) (gUV u_271 u_272 u_273 u_5 u_274) rfl hdV_X9_digitTo ⟨Nat.le_of_ble_eq_true rfl, Nat.le_of_ble_eq_true rfl⟩ ⟨rfl, rfl⟩ hx hb hml hown hts hK hA hP hD hS hl.1 ⟨Nat.le_of_ble_eq_true rfl, Nat.le_of_ble_eq_true rfl⟩ rfl rfl rfl (wr := (qX cI (rf 0) nH nV wk ea gi sw f1 f2 f3 f4 f5 f6 f7 f8)) (pm_cnt (fun _ => by simp only [List.countP_append, List.countP_nil, fT] <;> omega)) (fun _ => by simp only [List.map_append, List.map_nil, fX_m, bX_m, sX_m, pX_m, iaX_m, r5X_m, r6X_m, fT_m, hX_m, tX_m, xX_m, sgX_m, zaX_m, fsB_a, qX_m, mX_m]) (rest := []) rfl rfl (Nat.le_of_ble_eq_true rfl) dX9_part_278 (ws2 := (fun _ : Unit => (mX mr rf st L th (plD X L ((pl + 1) + 1 + 1) 0 9) hs vs (dgI X L ((pl + 1) + 1 + 1)) xx ++ iaX cI (rf 5) 120 X ++ qX cI (rf 0) nH nV wk ea gi sw f1 f2 f3 f4 f5 f6 f7 f8))) (fun _ => (pm_cnt (fun _ => by simp only [List.countP_append, List.countP_nil, fT] <;> omega))) (fun _ Hp locs hP hD hS => ?_)
                    rcases k3 : dg X L (((pl + 1) + 1) + 1) 0 9 with _ | d3
                    · skip
                      exfalso; rw [rpP_l (by omega) (by omega) (by omega), rpL_3 k1 k2 k3] at hok; cases hok
                    · skip
                      rw [show (if (some d3).isSome = true then (1 : Int32) else 0) = nI 1 from rfl]
                      rw [plD_s k3, dgI_s k3] at hP hD
                      obtain ⟨b1_k3, b2_k3, -, -⟩ := dg_le k3
                      refine lv_if_eq (tgt := 288) hx hb dX9_part_281 (by decide) (fun c_281 => absurd c_281 (by decide +kernel)) (fun _ => ?_)
                      refine lv_iconst (v := (nI 1)) hx hb dX9_part_284 (by decide) ?_
                      refine lv_goto (tgt := 289) hx hb dX9_part_285 (by decide) ?_
                      refine lv_istore_n (lv' := [(2, .int (nI 1)), (4, .int (nI d2)), (3, .int (nI d1)), (0, .ref mr), (1, .int (nI 1))]) hx hb dX9_part_289 rfl hl (by decide) rfl (fun ls hl => ?_)
                      refine lv_iload_n hx hb dX9_part_290 rfl (lv_at hl 0 rfl) ?_
                      refine lv_if_eq (tgt := 313) hx hb dX9_part_291 (by decide) (fun c_291 => absurd c_291 (by decide +kernel)) (fun _ => ?_)
                      refine lv_iload_n hx hb dX9_part_294 rfl (lv_at hl 4 rfl) ?_
                      refine lv_if_eq (tgt := 313) hx hb dX9_part_295 (by decide) (fun c_295 => absurd c_295 (by decide +kernel)) (fun _ => ?_)
                      refine lv_aload_n hx hb dX9_part_298 rfl (lv_at hl 3 rfl) ?_
                      refine gf_n (C := RX9) (T := TX9) (N := 15) (ci := 9) (q0 := 0) (v := .ref (rf 0)) hx hb hts (iU inlX9) hown hK hP rfl rfl 0 (by decide) (kU u_129) rfl rfl dX9_part_299 ?_
                      refine lv_iload_n hx hb dX9_part_302 rfl (lv_at hl 2 rfl) ?_
                      refine lv_iload hx hb dX9_part_303 (lv_at hl 1 rfl) ?_
                      refine gp_S (c_X9_like l D cI cZ cF cL d1 d2 ) (gUS u_281 u_282 u_5 u_283) rfl hdS_X9_like ⟨Nat.le_of_ble_eq_true rfl, Nat.le_of_ble_eq_true rfl⟩ ⟨rfl, rfl⟩ hx hb hml hown hts hK hA hP hD hS hl.1 ⟨Nat.le_of_ble_eq_true rfl, Nat.le_of_ble_eq_true rfl⟩ (wr := (mX mr rf st L th (((pl + 1) + 1) + 1 + 1) hs vs (nI d3) xx ++ iaX cI (rf 5) 120 X ++ qX cI (rf 0) nH nV wk ea gi sw f1 f2 f3 f4 f5 f6 f7 f8)) (pm_cnt (fun _ => by simp only [List.countP_append, List.countP_nil, fT] <;> omega)) (fun _ => by simp only [List.map_append, List.map_nil, fX_m, bX_m, sX_m, pX_m, iaX_m, r5X_m, r6X_m, fT_m, hX_m, tX_m, xX_m, sgX_m, zaX_m, fsB_a, qX_m, mX_m]) (rest := [.ref (rf 0)]) rfl rfl (Nat.le_of_ble_eq_true rfl) dX9_part_305 (ws2 := (fun _ : Unit => (mX mr rf st L th (((pl + 1) + 1) + 1 + 1) hs vs (nI d3) xx ++ iaX cI (rf 5) 120 X ++ qX cI (rf 0) nH nV wk ea gi sw f1 f2 f3 f4 f5 f6 f7 f8))) (fun _ => (pm_cnt (fun _ => by simp only [List.countP_append, List.countP_nil, fT] <;> omega))) (fun _ Hp locs hP hD hS => ?_)
                      refine lv_aload_n hx hb dX9_part_308 rfl (lv_at hl 3 rfl) ?_
                      refine gf_n (C := RX9) (T := TX9) (N := 15) (ci := 9) (q0 := 0) (v := .int (nI d3)) hx hb hts (iU inlX9) hown hK hP rfl rfl 13 (by decide) (kU u_270) rfl rfl dX9_part_309 ?_
                      refine is_n (q0 := 2) (t0 := 0) (ws2 := (mX mr rf st L th (((pl + 1) + 1) + 1 + 1) hs vs (nI d3) xx ++ iaX cI (rf 5) 120 X ++ qX cI (rf 0) nH nV wk ea gi sw f1 f2 f3 f4 f5 f6 (va_up f7 (d1 * 5 + d2) d3) f8)) hx hb hK hP hD hS rfl rfl (by omega) (by decide) dX9_part_312 (by rw [qU_7 (by omega) (by omega)]; rfl) (fun Hp locs hP hD hS => ?_)
                      refine lv_iload_n hx hb dX9_part_313 rfl (lv_at hl 0 rfl) ?_
                      exact ct_z ((nI d3)) hx hb hr hlocks (by first | (rw [rpP_l (by omega) (by omega) (by omega), rpL_1 k1, hsP_f (by omega), vsP_f (by omega)]; exact hP) | (rw [rpP_l (by omega) (by omega) (by omega), rpL_2 k1 k2, hsP_f (by omega), vsP_f (by omega)]; exact hP) | (rw [rpP_l (by omega) (by omega) (by omega), rpL_3 k1 k2 k3, hsP_f (by omega), vsP_f (by omega)]; exact hP) | (rw [rpP_l (by omega) (by omega) (by omega), rpL_4 k1 k2 k3, hsP_f (by omega), vsP_f (by omega)]; exact hP)) hS (by first | (rw [rpP_l (by omega) (by omega) (by omega), rpL_1 k1]; rfl) | (rw [rpP_l (by omega) (by omega) (by omega), rpL_2 k1 k2]; rfl) | (rw [rpP_l (by omega) (by omega) (by omega), rpL_3 k1 k2 k3]; rfl) | (rw [rpP_l (by omega) (by omega) (by omega), rpL_4 k1 k2 k3]; rfl)) dX9_part_314
              · skip
                rw [show (if (pl < L ∧ X pl = 108) then (1 : Int32) else 0) = nI 0 from if_neg (fun z => q_220 z.2)]
                rw [if_neg (show ¬ (pl < L ∧ X pl = 108) from fun z => q_220 z.2)] at hP hD
                refine lv_if_eq (tgt := 315) hx hb dX9_part_220 (by decide) (fun _ => ?_) (fun c_220 => absurd (by decide +kernel) c_220)
                refine lv_aload_n hx hb dX9_part_315 rfl (lv_at hl 0 rfl) ?_
                refine gf_n (C := RX9) (T := TX9) (N := 15) (ci := 9) (q0 := 0) (v := .int (nI hs)) hx hb hts (iU inlX9) hown hK hP rfl rfl 11 (by decide) (kU u_260) rfl rfl dX9_part_316 ?_
                refine lv_if_le (tgt := 349) hx hb dX9_part_319 (by decide) (fun c_319 => ?_) (fun c_319 => ?_)
                · skip
                  replace c_319 := cn_le (b := 0) (by omega) (by omega) c_319
                  exfalso; rw [rpP_n (by omega) (by omega) (by omega) (by omega)] at hok; cases hok
                · skip
                  replace c_319 := cn_nle (b := 0) (by omega) (by omega) c_319
                  refine lv_aload_n hx hb dX9_part_322 rfl (lv_at hl 0 rfl) ?_
                  refine lv_bipush (v := (nI 115)) hx hb dX9_part_323 (by decide) ?_
                  refine gp_V (ci := 9) (q0 := 0) (cq := (RX9, TX9, 15)) (c_X9_letter l D cI cZ cF cL mr rf st L th pl hs vs dg0 xx X 115 hL hXt hpp (by decide)) (gUV u_262 u_263 u_264 u_5 u_265) rfl hdV_X9_letter ⟨Nat.le_of_ble_eq_true rfl, Nat.le_of_ble_eq_true rfl⟩ ⟨rfl, rfl⟩ hx hb hml hown hts hK hA hP hD hS hl.1 ⟨Nat.le_of_ble_eq_true rfl, Nat.le_of_ble_eq_true rfl⟩ rfl rfl rfl (wr := (qX cI (rf 0) nH nV wk ea gi sw f1 f2 f3 f4 f5 f6 f7 f8)) (pm_cnt (fun _ => by simp only [List.countP_append, List.countP_nil, fT] <;> omega)) (fun _ => by simp only [List.map_append, List.map_nil, fX_m, bX_m, sX_m, pX_m, iaX_m, r5X_m, r6X_m, fT_m, hX_m, tX_m, xX_m, sgX_m, zaX_m, fsB_a, qX_m, mX_m]) (rest := []) rfl rfl (Nat.le_of_ble_eq_true rfl) dX9_part_325 (ws2 := (fun _ : Unit => (mX mr rf st L th (if (pl < L ∧ X pl = 115) then pl + 1 else pl) hs vs dg0 xx ++ iaX cI (rf 5) 120 X ++ qX cI (rf 0) nH nV wk ea gi sw f1 f2 f3 f4 f5 f6 f7 f8))) (fun _ => (pm_cnt (fun _ => by simp only [List.countP_append, List.countP_nil, fT] <;> omega))) (fun _ Hp locs hP hD hS => ?_)
                  by_cases q_328 : X pl = 115
                  · skip
                    rw [show (if (pl < L ∧ X pl = 115) then (1 : Int32) else 0) = nI 1 from if_pos ⟨hpl, q_328⟩]
                    rw [if_pos (⟨hpl, q_328⟩ : (pl < L ∧ X pl = 115))] at hP hD
                    refine lv_if_eq (tgt := 349) hx hb dX9_part_328 (by decide) (fun c_328 => absurd c_328 (by decide +kernel)) (fun _ => ?_)
                    refine lv_aload_n hx hb dX9_part_331 rfl (lv_at hl 0 rfl) ?_
                    refine lv_iconst (v := (nI 0)) hx hb dX9_part_332 (by decide) ?_
                    refine lv_aload_n hx hb dX9_part_333 rfl (lv_at hl 0 rfl) ?_
                    refine gf_n (C := RX9) (T := TX9) (N := 15) (ci := 9) (q0 := 0) (v := .int (nI hs)) hx hb hts (iU inlX9) hown hK hP rfl rfl 11 (by decide) (kU u_260) rfl rfl dX9_part_334 ?_
                    refine lv_iconst (v := (nI 1)) hx hb dX9_part_337 (by decide) ?_
                    refine lv_isub hx hb dX9_part_338 ?_
                    rw [pk_sub (a := hs) (b := 1) (by omega)]
                    refine gp_V (ci := 9) (q0 := 0) (cq := (RX9, TX9, 15)) (c_X9_digitTo l D cI cZ cF cL mr rf st L th (pl + 1) hs vs dg0 xx X 0 (hs - 1) hL hXt (by omega) (by omega) (by omega)) (gUV u_271 u_272 u_273 u_5 u_274) rfl hdV_X9_digitTo ⟨Nat.le_of_ble_eq_true rfl, Nat.le_of_ble_eq_true rfl⟩ ⟨rfl, rfl⟩ hx hb hml hown hts hK hA hP hD hS hl.1 ⟨Nat.le_of_ble_eq_true rfl, Nat.le_of_ble_eq_true rfl⟩ rfl rfl rfl (wr := (qX cI (rf 0) nH nV wk ea gi sw f1 f2 f3 f4 f5 f6 f7 f8)) (pm_cnt (fun _ => by simp only [List.countP_append, List.countP_nil, fT] <;> omega)) (fun _ => by simp only [List.map_append, List.map_nil, fX_m, bX_m, sX_m, pX_m, iaX_m, r5X_m, r6X_m, fT_m, hX_m, tX_m, xX_m, sgX_m, zaX_m, fsB_a, qX_m, mX_m]) (rest := []) rfl rfl (Nat.le_of_ble_eq_true rfl) dX9_part_339 (ws2 := (fun _ : Unit => (mX mr rf st L th (plD X L (pl + 1) 0 (hs - 1)) hs vs (dgI X L (pl + 1)) xx ++ iaX cI (rf 5) 120 X ++ qX cI (rf 0) nH nV wk ea gi sw f1 f2 f3 f4 f5 f6 f7 f8))) (fun _ => (pm_cnt (fun _ => by simp only [List.countP_append, List.countP_nil, fT] <;> omega))) (fun _ Hp locs hP hD hS => ?_)
                    rcases k1 : dg X L (pl + 1) 0 (hs - 1) with _ | d1
                    · skip
                      exfalso; rw [rpP_s (by omega) (by omega) (by omega) (by omega), rpS_1 k1] at hok; cases hok
                    · skip
                      rw [show (if (some d1).isSome = true then (1 : Int32) else 0) = nI 1 from rfl]
                      rw [plD_s k1, dgI_s k1] at hP hD
                      obtain ⟨b1_k1, b2_k1, -, -⟩ := dg_le k1
                      refine lv_if_eq (tgt := 349) hx hb dX9_part_342 (by decide) (fun c_342 => absurd c_342 (by decide +kernel)) (fun _ => ?_)
                      refine lv_iconst (v := (nI 1)) hx hb dX9_part_345 (by decide) ?_
                      refine lv_goto (tgt := 350) hx hb dX9_part_346 (by decide) ?_
                      refine lv_istore_n (lv' := [(2, .int (nI 1)), (0, .ref mr), (1, .int (nI 1))]) hx hb dX9_part_350 rfl hl (by decide) rfl (fun ls hl => ?_)
                      refine lv_iload_n hx hb dX9_part_351 rfl (lv_at hl 0 rfl) ?_
                      refine lv_if_eq (tgt := 374) hx hb dX9_part_352 (by decide) (fun c_352 => absurd c_352 (by decide +kernel)) (fun _ => ?_)
                      refine lv_iload_n hx hb dX9_part_355 rfl (lv_at hl 2 rfl) ?_
                      refine lv_if_eq (tgt := 374) hx hb dX9_part_356 (by decide) (fun c_356 => absurd c_356 (by decide +kernel)) (fun _ => ?_)
                      refine lv_aload_n hx hb dX9_part_359 rfl (lv_at hl 1 rfl) ?_
                      refine gf_n (C := RX9) (T := TX9) (N := 15) (ci := 9) (q0 := 0) (v := .ref (rf 0)) hx hb hts (iU inlX9) hown hK hP rfl rfl 0 (by decide) (kU u_129) rfl rfl dX9_part_360 ?_
                      refine lv_aload_n hx hb dX9_part_363 rfl (lv_at hl 1 rfl) ?_
                      refine gf_n (C := RX9) (T := TX9) (N := 15) (ci := 9) (q0 := 0) (v := .int (nI d1)) hx hb hts (iU inlX9) hown hK hP rfl rfl 13 (by decide) (kU u_270) rfl rfl dX9_part_364 ?_
                      refine gp_S (c_X9_size l D cI cZ cF cL d1 ) (gUS u_275 u_276 u_5 u_277) rfl hdS_X9_size ⟨Nat.le_of_ble_eq_true rfl, Nat.le_of_ble_eq_true rfl⟩ ⟨rfl, rfl⟩ hx hb hml hown hts hK hA hP hD hS hl.1 ⟨Nat.le_of_ble_eq_true rfl, Nat.le_of_ble_eq_true rfl⟩ (wr := (mX mr rf st L th (pl + 1 + 1) hs vs (nI d1) xx ++ iaX cI (rf 5) 120 X ++ qX cI (rf 0) nH nV wk ea gi sw f1 f2 f3 f4 f5 f6 f7 f8)) (pm_cnt (fun _ => by simp only [List.countP_append, List.countP_nil, fT] <;> omega)) (fun _ => by simp only [List.map_append, List.map_nil, fX_m, bX_m, sX_m, pX_m, iaX_m, r5X_m, r6X_m, fT_m, hX_m, tX_m, xX_m, sgX_m, zaX_m, fsB_a, qX_m, mX_m]) (rest := [.ref (rf 0)]) rfl rfl (Nat.le_of_ble_eq_true rfl) dX9_part_367 (ws2 := (fun _ : Unit => (mX mr rf st L th (pl + 1 + 1) hs vs (nI d1) xx ++ iaX cI (rf 5) 120 X ++ qX cI (rf 0) nH nV wk ea gi sw f1 f2 f3 f4 f5 f6 f7 f8))) (fun _ => (pm_cnt (fun _ => by simp only [List.countP_append, List.countP_nil, fT] <;> omega))) (fun _ Hp locs hP hD hS => ?_)
                      refine lv_iconst (v := (nI 3)) hx hb dX9_part_370 (by decide) ?_
                      refine lv_iadd hx hb dX9_part_371 ?_
                      rw [nI_add (6 + 4 * d1) 3]
                      refine lv_iconst (v := (nI 1)) hx hb dX9_part_372 (by decide) ?_
                      refine is_n (q0 := 2) (t0 := 0) (ws2 := (mX mr rf st L th (pl + 1 + 1) hs vs (nI d1) xx ++ iaX cI (rf 5) 120 X ++ qX cI (rf 0) nH nV wk ea gi sw f1 f2 f3 (va_up f4 d1 1) f5 f6 f7 f8)) hx hb hK hP hD hS rfl rfl (by omega) (by decide) dX9_part_373 (by rw [qU_4 (by omega)]; rfl) (fun Hp locs hP hD hS => ?_)
                      refine lv_iload_n hx hb dX9_part_374 rfl (lv_at hl 0 rfl) ?_
                      exact ct_z ((nI d1)) hx hb hr hlocks (by first | (rw [rpP_s (by omega) (by omega) (by omega) (by omega), rpS_1 k1, hsP_f (by omega), vsP_f (by omega)]; exact hP) | (rw [rpP_s (by omega) (by omega) (by omega) (by omega), rpS_2 k1, hsP_f (by omega), vsP_f (by omega)]; exact hP)) hS (by first | (rw [rpP_s (by omega) (by omega) (by omega) (by omega), rpS_1 k1]; rfl) | (rw [rpP_s (by omega) (by omega) (by omega) (by omega), rpS_2 k1]; rfl)) dX9_part_375
                  · skip
                    rw [show (if (pl < L ∧ X pl = 115) then (1 : Int32) else 0) = nI 0 from if_neg (fun z => q_328 z.2)]
                    rw [if_neg (show ¬ (pl < L ∧ X pl = 115) from fun z => q_328 z.2)] at hP hD
                    refine lv_if_eq (tgt := 349) hx hb dX9_part_328 (by decide) (fun _ => ?_) (fun c_328 => absurd (by decide +kernel) c_328)
                    exfalso; rw [rpP_n (by omega) (by omega) (by omega) (by omega)] at hok; cases hok
