set_option maxRecDepth 20000 in
theorem u_259 : Cond.code yX9_reads cX9_reads 3 (some .boolean) ∈ wsL_law := List.mem_of_getElem? (i := 259) (by decide +kernel)
set_option maxRecDepth 20000 in
theorem u_256 : Cond.methodLink RX9 120 yX9_reads ∈ wsL_law := List.mem_of_getElem? (i := 256) (by decide +kernel)
set_option maxRecDepth 20000 in
theorem u_257 : Cond.instanceMethod yX9_reads ∈ wsL_law := List.mem_of_getElem? (i := 257) (by decide +kernel)
set_option maxRecDepth 20000 in
theorem u_258 : Cond.selects RX9 yX9_reads yX9_reads ∈ wsL_law := List.mem_of_getElem? (i := 258) (by decide +kernel)
theorem hdV_X9_reads : yX9_reads.cls = RX9 ∧ yX9_reads.cls ≠ "java/lang/invoke/MethodHandle" ∧ yX9_reads.cls ≠ "java/lang/invoke/VarHandle" ∧ (parseMethodDescriptor yX9_reads.desc).map (fun d => d.parameters.length) = some 1 := by decide +kernel
set_option maxHeartbeats 4000000 in
set_option maxRecDepth 100000 in
theorem c_X9_errorPosition (l : Launch) (D : va_G) (cI cZ cF cL : ClassId) (mr : Nat) (rf : Nat → Nat) (st L th pl hs vs : Nat) (dg0 : Int32) (xx : Int64) (X : Nat → Nat) (hL : L ≤ 120) (hXt : ∀ k, k < 120 → X k < 256) : CT l D (tysX cI cZ cF cL) yX9_errorPosition (wA yX9_errorPosition cX9_errorPosition 1 (some .int)) (rmF 4 91) [.ref mr] (mX mr rf st L th pl hs vs dg0 xx ++ iaX cI (rf 5) 120 X) (some (.int (if (rdI X L).1 = true then (-9) else nI (rdI X L).2.1))) (fun u : Nat × Nat × Int32 => (mX mr rf st L 0 ((rdI X L).2.1) u.1 u.2.1 u.2.2 xx ++ iaX cI (rf 5) 120 X)) := by
  refine ct_in (cc := cX9_errorPosition) (maxL := 1) (ret := (some .int)) (own := RX9) (lv := [(0, .ref mr)]) (by decide +kernel) rfl rfl (Nat.le_of_ble_eq_true rfl) rfl ?_
  intro p e s m args below meth c A ls hx hb hr hml hts hown hlocks hK hA hP hD hS hl
  refine lv_aload_n hx hb dX9_errorPosition_0 rfl (lv_at hl 0 rfl) ?_
  refine lv_iconst (v := (nI 0)) hx hb dX9_errorPosition_1 (by decide) ?_
  refine pf_n (C := RX9) (T := TX9) (N := 15) (ci := 9) (q0 := 0) (ty := .int) (v := .int (nI 0)) (ws2 := (mX mr rf st L 0 pl hs vs dg0 xx ++ iaX cI (rf 5) 120 X)) hx hb hts (iU inlX9) tyX9 tyX9_ok nmX9 hown hK hP hD hS rfl rfl 8 (by decide) (kU u_173) rfl rfl (tyX9_ok 8 (by decide)) rfl rfl (Nat.le_of_ble_eq_true rfl) dX9_errorPosition_2 rfl (fun Hp locs hP hD hS => ?_)
  refine lv_aload_n hx hb dX9_errorPosition_5 rfl (lv_at hl 0 rfl) ?_
  refine lv_iconst (v := (nI 0)) hx hb dX9_errorPosition_6 (by decide) ?_
  refine gp_V (ci := 9) (q0 := 0) (cq := (RX9, TX9, 15)) (c_X9_reads0 l D cI cZ cF cL mr rf st L 0 pl hs vs dg0 xx X (by omega) (by omega)) (gUV u_256 u_257 u_258 u_5 u_259) rfl hdV_X9_reads ⟨Nat.le_of_ble_eq_true rfl, Nat.le_of_ble_eq_true rfl⟩ ⟨rfl, rfl⟩ hx hb hml hown hts hK hA hP hD hS hl.1 ⟨Nat.le_of_ble_eq_true rfl, Nat.le_of_ble_eq_true rfl⟩ rfl rfl rfl (wr := ([] : va_W)) (pm_cnt (fun _ => by simp only [List.countP_append, List.countP_nil, fT] <;> omega)) (fun _ => by simp only [List.map_append, List.map_nil, fX_m, bX_m, sX_m, pX_m, iaX_m, r5X_m, r6X_m, fT_m, hX_m, tX_m, xX_m, sgX_m, zaX_m, fsB_a, qX_m, mX_m]) (rest := []) rfl rfl (Nat.le_of_ble_eq_true rfl) dX9_errorPosition_7 (ws2 := (fun u_7 : Nat × Nat × Int32 => (mX mr rf st L 0 ((rdI X L).2.1) u_7.1 u_7.2.1 u_7.2.2 xx ++ iaX cI (rf 5) 120 X))) (fun _ => (pm_cnt (fun _ => by simp only [List.countP_append, List.countP_nil, fT] <;> omega))) (fun u_7 Hp locs hP hD hS => ?_)
  refine lv_if_eq (tgt := 18) hx hb dX9_errorPosition_10 (by decide) (fun c_10 => ?_) (fun c_10 => ?_)
  · skip
    replace c_10 := cb_z c_10
    refine lv_aload_n hx hb dX9_errorPosition_18 rfl (lv_at hl 0 rfl) ?_
    refine gf_n (C := RX9) (T := TX9) (N := 15) (ci := 9) (q0 := 0) (v := .int (nI ((rdI X L).2.1))) hx hb hts (iU inlX9) hown hK hP rfl rfl 10 (by decide) (kU u_255) rfl rfl dX9_errorPosition_19 ?_
    exact ct_i (u_7.1, u_7.2.1, u_7.2.2) hx hb hr hlocks hP hS (by first | exact (if_pos c_10).symm | exact (if_neg c_10).symm) dX9_errorPosition_22
  · skip
    replace c_10 := cb_nz c_10
    refine lv_bipush (v := ((-9))) hx hb dX9_errorPosition_13 (by decide) ?_
    refine lv_goto (tgt := 22) hx hb dX9_errorPosition_15 (by decide) ?_
    exact ct_i (u_7.1, u_7.2.1, u_7.2.2) hx hb hr hlocks hP hS (by first | exact (if_pos c_10).symm | exact (if_neg c_10).symm) dX9_errorPosition_22
set_option maxHeartbeats 4000000 in
set_option maxRecDepth 100000 in
theorem c_X9_append (l : Launch) (D : va_G) (cI cZ cF cL : ClassId) (mr : Nat) (rf : Nat → Nat) (st L th pl hs vs : Nat) (dg0 : Int32) (xx : Int64) (X : Nat → Nat) (ch : Nat) (hc : ch ≤ 255) (hL : L < 120) : CT l D (tysX cI cZ cF cL) yX9_append (wA yX9_append cX9_append 2 (some .int)) (rmF 1 22) [.ref mr, .int (nI ch)] (mX mr rf st L th pl hs vs dg0 xx ++ iaX cI (rf 5) 120 X) (some (.int (nI (L + 1)))) (fun _ : Unit => (mX mr rf st (L + 1) 0 pl hs vs dg0 xx ++ iaX cI (rf 5) 120 (va_up X L ch))) := by
  refine ct_in (cc := cX9_append) (maxL := 2) (ret := (some .int)) (own := RX9) (lv := [(0, .ref mr), (1, .int (nI ch))]) (by decide +kernel) rfl rfl (Nat.le_of_ble_eq_true rfl) rfl ?_
  intro p e s m args below meth c A ls hx hb hr hml hts hown hlocks hK hA hP hD hS hl
  refine lv_aload_n hx hb dX9_append_0 rfl (lv_at hl 0 rfl) ?_
  refine lv_iconst (v := (nI 0)) hx hb dX9_append_1 (by decide) ?_
  refine pf_n (C := RX9) (T := TX9) (N := 15) (ci := 9) (q0 := 0) (ty := .int) (v := .int (nI 0)) (ws2 := (mX mr rf st L 0 pl hs vs dg0 xx ++ iaX cI (rf 5) 120 X)) hx hb hts (iU inlX9) tyX9 tyX9_ok nmX9 hown hK hP hD hS rfl rfl 8 (by decide) (kU u_173) rfl rfl (tyX9_ok 8 (by decide)) rfl rfl (Nat.le_of_ble_eq_true rfl) dX9_append_2 rfl (fun Hp locs hP hD hS => ?_)
  refine lv_iload_n hx hb dX9_append_5 rfl (lv_at hl 1 rfl) ?_
  refine lv_iconst (v := (nI 0)) hx hb dX9_append_6 (by decide) ?_
  refine lv_sipush (v := (nI 255)) hx hb dX9_append_7 (by decide +kernel) ?_
  refine gp_S (c_X9_in l D cI cZ cF cL ((nI ch)) ((nI 0)) ((nI 255)) ) (gUS u_140 u_141 u_5 u_142) rfl hdS_X9_in ⟨Nat.le_of_ble_eq_true rfl, Nat.le_of_ble_eq_true rfl⟩ ⟨rfl, rfl⟩ hx hb hml hown hts hK hA hP hD hS hl.1 ⟨Nat.le_of_ble_eq_true rfl, Nat.le_of_ble_eq_true rfl⟩ (wr := (mX mr rf st L 0 pl hs vs dg0 xx ++ iaX cI (rf 5) 120 X)) (pm_cnt (fun _ => by simp only [List.countP_append, List.countP_nil, fT] <;> omega)) (fun _ => by simp only [List.map_append, List.map_nil, fX_m, bX_m, sX_m, pX_m, iaX_m, r5X_m, r6X_m, fT_m, hX_m, tX_m, xX_m, sgX_m, zaX_m, fsB_a, qX_m, mX_m]) (rest := []) rfl rfl (Nat.le_of_ble_eq_true rfl) dX9_append_10 (ws2 := (fun _ : Unit => (mX mr rf st L 0 pl hs vs dg0 xx ++ iaX cI (rf 5) 120 X))) (fun _ => (pm_cnt (fun _ => by simp only [List.countP_append, List.countP_nil, fT] <;> omega))) (fun _ Hp locs hP hD hS => ?_)
  refine lv_if_ne (tgt := 22) hx hb dX9_append_13 (by decide) (fun c_13 => ?_) (fun c_13 => ?_)
  · skip
    replace c_13 := cb_nz c_13
    refine lv_aload_n hx hb dX9_append_22 rfl (lv_at hl 0 rfl) ?_
    refine gf_n (C := RX9) (T := TX9) (N := 15) (ci := 9) (q0 := 0) (v := .int (nI L)) hx hb hts (iU inlX9) hown hK hP rfl rfl 7 (by decide) (kU u_174) rfl rfl dX9_append_23 ?_
    refine lv_bipush (v := (nI 120)) hx hb dX9_append_26 (by decide) ?_
    refine lv_icmp_ne (tgt := 37) hx hb dX9_append_28 (by decide) (fun c_28 => ?_) (fun c_28 => ?_)
    · skip
      replace c_28 := cn_ne c_28
      refine lv_aload_n hx hb dX9_append_37 rfl (lv_at hl 0 rfl) ?_
      refine gf_n (C := RX9) (T := TX9) (N := 15) (ci := 9) (q0 := 0) (v := .ref (rf 5)) hx hb hts (iU inlX9) hown hK hP rfl rfl 6 (by decide) (kU u_134) rfl rfl dX9_append_38 ?_
      refine lv_aload_n hx hb dX9_append_41 rfl (lv_at hl 0 rfl) ?_
      refine gf_n (C := RX9) (T := TX9) (N := 15) (ci := 9) (q0 := 0) (v := .int (nI L)) hx hb hts (iU inlX9) hown hK hP rfl rfl 7 (by decide) (kU u_174) rfl rfl dX9_append_42 ?_
      refine lv_iload_n hx hb dX9_append_45 rfl (lv_at hl 1 rfl) ?_
      refine is_n (q0 := 1) (t0 := 0) (ws2 := (mX mr rf st L 0 pl hs vs dg0 xx ++ iaX cI (rf 5) 120 (va_up X L ch))) hx hb hK hP hD hS rfl rfl (by omega) (by decide) dX9_append_46 rfl (fun Hp locs hP hD hS => ?_)
      refine lv_aload_n hx hb dX9_append_47 rfl (lv_at hl 0 rfl) ?_
      refine lv_dup hx hb dX9_append_48 rfl ?_
      refine gf_n (C := RX9) (T := TX9) (N := 15) (ci := 9) (q0 := 0) (v := .int (nI L)) hx hb hts (iU inlX9) hown hK hP rfl rfl 7 (by decide) (kU u_174) rfl rfl dX9_append_49 ?_
      refine lv_iconst (v := (nI 1)) hx hb dX9_append_52 (by decide) ?_
      refine lv_iadd hx hb dX9_append_53 ?_
      rw [nI_add L 1]
      refine pf_n (C := RX9) (T := TX9) (N := 15) (ci := 9) (q0 := 0) (ty := .int) (v := .int (nI (L + 1))) (ws2 := (mX mr rf st (L + 1) 0 pl hs vs dg0 xx ++ iaX cI (rf 5) 120 (va_up X L ch))) hx hb hts (iU inlX9) tyX9 tyX9_ok nmX9 hown hK hP hD hS rfl rfl 7 (by decide) (kU u_174) rfl rfl (tyX9_ok 7 (by decide)) rfl rfl (Nat.le_of_ble_eq_true rfl) dX9_append_54 rfl (fun Hp locs hP hD hS => ?_)
      refine lv_aload_n hx hb dX9_append_57 rfl (lv_at hl 0 rfl) ?_
      refine gf_n (C := RX9) (T := TX9) (N := 15) (ci := 9) (q0 := 0) (v := .int (nI (L + 1))) hx hb hts (iU inlX9) hown hK hP rfl rfl 7 (by decide) (kU u_174) rfl rfl dX9_append_58 ?_
      exact ct_i () hx hb hr hlocks hP hS rfl dX9_append_61
    · skip
      replace c_28 := cn_eq (by omega) (by omega) c_28
      (exfalso; omega)
  · skip
    replace c_13 := cb_z c_13
    (exact absurd ((in_n (by omega) (by decide) (by decide)).mpr ⟨by omega, by omega⟩) c_13)
set_option maxHeartbeats 4000000 in
set_option maxRecDepth 100000 in
theorem f1_X9_append (l : Launch) (D : va_G) (cI cZ cF cL : ClassId) (mr : Nat) (rf : Nat → Nat) (st L th pl hs vs : Nat) (dg0 : Int32) (xx : Int64) (X : Nat → Nat) (x : Int32) (hbad : ¬ (nI 0 ≤ x ∧ x ≤ nI 255)) : CT l D (tysX cI cZ cF cL) yX9_append (wA yX9_append cX9_append 2 (some .int)) (rmF 1 22) [.ref mr, .int x] (mX mr rf st L th pl hs vs dg0 xx ++ iaX cI (rf 5) 120 X) (some (.int (nI 0))) (fun _ : Unit => (mX mr rf st L 1 pl hs vs dg0 xx ++ iaX cI (rf 5) 120 X)) := by
  refine ct_in (cc := cX9_append) (maxL := 2) (ret := (some .int)) (own := RX9) (lv := [(0, .ref mr), (1, .int x)]) (by decide +kernel) rfl rfl (Nat.le_of_ble_eq_true rfl) rfl ?_
  intro p e s m args below meth c A ls hx hb hr hml hts hown hlocks hK hA hP hD hS hl
  refine lv_aload_n hx hb dX9_append_0 rfl (lv_at hl 0 rfl) ?_
  refine lv_iconst (v := (nI 0)) hx hb dX9_append_1 (by decide) ?_
  refine pf_n (C := RX9) (T := TX9) (N := 15) (ci := 9) (q0 := 0) (ty := .int) (v := .int (nI 0)) (ws2 := (mX mr rf st L 0 pl hs vs dg0 xx ++ iaX cI (rf 5) 120 X)) hx hb hts (iU inlX9) tyX9 tyX9_ok nmX9 hown hK hP hD hS rfl rfl 8 (by decide) (kU u_173) rfl rfl (tyX9_ok 8 (by decide)) rfl rfl (Nat.le_of_ble_eq_true rfl) dX9_append_2 rfl (fun Hp locs hP hD hS => ?_)
  refine lv_iload_n hx hb dX9_append_5 rfl (lv_at hl 1 rfl) ?_
  refine lv_iconst (v := (nI 0)) hx hb dX9_append_6 (by decide) ?_
  refine lv_sipush (v := (nI 255)) hx hb dX9_append_7 (by decide +kernel) ?_
  refine gp_S (c_X9_in l D cI cZ cF cL x ((nI 0)) ((nI 255)) ) (gUS u_140 u_141 u_5 u_142) rfl hdS_X9_in ⟨Nat.le_of_ble_eq_true rfl, Nat.le_of_ble_eq_true rfl⟩ ⟨rfl, rfl⟩ hx hb hml hown hts hK hA hP hD hS hl.1 ⟨Nat.le_of_ble_eq_true rfl, Nat.le_of_ble_eq_true rfl⟩ (wr := (mX mr rf st L 0 pl hs vs dg0 xx ++ iaX cI (rf 5) 120 X)) (pm_cnt (fun _ => by simp only [List.countP_append, List.countP_nil, fT] <;> omega)) (fun _ => by simp only [List.map_append, List.map_nil, fX_m, bX_m, sX_m, pX_m, iaX_m, r5X_m, r6X_m, fT_m, hX_m, tX_m, xX_m, sgX_m, zaX_m, fsB_a, qX_m, mX_m]) (rest := []) rfl rfl (Nat.le_of_ble_eq_true rfl) dX9_append_10 (ws2 := (fun _ : Unit => (mX mr rf st L 0 pl hs vs dg0 xx ++ iaX cI (rf 5) 120 X))) (fun _ => (pm_cnt (fun _ => by simp only [List.countP_append, List.countP_nil, fT] <;> omega))) (fun _ Hp locs hP hD hS => ?_)
  refine lv_if_ne (tgt := 22) hx hb dX9_append_13 (by decide) (fun c_13 => ?_) (fun c_13 => ?_)
  · skip
    replace c_13 := cb_nz c_13
    (exact absurd c_13 hbad)
  · skip
    replace c_13 := cb_z c_13
    refine lv_aload_n hx hb dX9_append_16 rfl (lv_at hl 0 rfl) ?_
    refine lv_iconst (v := (nI 1)) hx hb dX9_append_17 (by decide) ?_
    refine gp_V (ci := 9) (q0 := 0) (cq := (RX9, TX9, 15)) (c_X9_fails l D cI cZ cF cL mr rf st L 0 pl hs vs dg0 xx 1 ) (gUV u_175 u_176 u_177 u_5 u_178) rfl hdV_X9_fails ⟨Nat.le_of_ble_eq_true rfl, Nat.le_of_ble_eq_true rfl⟩ ⟨rfl, rfl⟩ hx hb hml hown hts hK hA hP hD hS hl.1 ⟨Nat.le_of_ble_eq_true rfl, Nat.le_of_ble_eq_true rfl⟩ rfl rfl rfl (wr := (iaX cI (rf 5) 120 X)) (pm_cnt (fun _ => by simp only [List.countP_append, List.countP_nil, fT] <;> omega)) (fun _ => by simp only [List.map_append, List.map_nil, fX_m, bX_m, sX_m, pX_m, iaX_m, r5X_m, r6X_m, fT_m, hX_m, tX_m, xX_m, sgX_m, zaX_m, fsB_a, qX_m, mX_m]) (rest := []) rfl rfl (Nat.le_of_ble_eq_true rfl) dX9_append_18 (ws2 := (fun _ : Unit => (mX mr rf st L 1 pl hs vs dg0 xx ++ iaX cI (rf 5) 120 X))) (fun _ => (pm_cnt (fun _ => by simp only [List.countP_append, List.countP_nil, fT] <;> omega))) (fun _ Hp locs hP hD hS => ?_)
    exact ct_i () hx hb hr hlocks hP hS rfl dX9_append_21
set_option maxHeartbeats 4000000 in
set_option maxRecDepth 100000 in
theorem f2_X9_append (l : Launch) (D : va_G) (cI cZ cF cL : ClassId) (mr : Nat) (rf : Nat → Nat) (st L th pl hs vs : Nat) (dg0 : Int32) (xx : Int64) (X : Nat → Nat) (ch : Nat) (hc : ch ≤ 255) (hL : L = 120) : CT l D (tysX cI cZ cF cL) yX9_append (wA yX9_append cX9_append 2 (some .int)) (rmF 1 22) [.ref mr, .int (nI ch)] (mX mr rf st L th pl hs vs dg0 xx ++ iaX cI (rf 5) 120 X) (some (.int (nI 0))) (fun _ : Unit => (mX mr rf st L 2 pl hs vs dg0 xx ++ iaX cI (rf 5) 120 X)) := by
  refine ct_in (cc := cX9_append) (maxL := 2) (ret := (some .int)) (own := RX9) (lv := [(0, .ref mr), (1, .int (nI ch))]) (by decide +kernel) rfl rfl (Nat.le_of_ble_eq_true rfl) rfl ?_
  intro p e s m args below meth c A ls hx hb hr hml hts hown hlocks hK hA hP hD hS hl
  refine lv_aload_n hx hb dX9_append_0 rfl (lv_at hl 0 rfl) ?_
  refine lv_iconst (v := (nI 0)) hx hb dX9_append_1 (by decide) ?_
  refine pf_n (C := RX9) (T := TX9) (N := 15) (ci := 9) (q0 := 0) (ty := .int) (v := .int (nI 0)) (ws2 := (mX mr rf st L 0 pl hs vs dg0 xx ++ iaX cI (rf 5) 120 X)) hx hb hts (iU inlX9) tyX9 tyX9_ok nmX9 hown hK hP hD hS rfl rfl 8 (by decide) (kU u_173) rfl rfl (tyX9_ok 8 (by decide)) rfl rfl (Nat.le_of_ble_eq_true rfl) dX9_append_2 rfl (fun Hp locs hP hD hS => ?_)
  refine lv_iload_n hx hb dX9_append_5 rfl (lv_at hl 1 rfl) ?_
  refine lv_iconst (v := (nI 0)) hx hb dX9_append_6 (by decide) ?_
  refine lv_sipush (v := (nI 255)) hx hb dX9_append_7 (by decide +kernel) ?_
  refine gp_S (c_X9_in l D cI cZ cF cL ((nI ch)) ((nI 0)) ((nI 255)) ) (gUS u_140 u_141 u_5 u_142) rfl hdS_X9_in ⟨Nat.le_of_ble_eq_true rfl, Nat.le_of_ble_eq_true rfl⟩ ⟨rfl, rfl⟩ hx hb hml hown hts hK hA hP hD hS hl.1 ⟨Nat.le_of_ble_eq_true rfl, Nat.le_of_ble_eq_true rfl⟩ (wr := (mX mr rf st L 0 pl hs vs dg0 xx ++ iaX cI (rf 5) 120 X)) (pm_cnt (fun _ => by simp only [List.countP_append, List.countP_nil, fT] <;> omega)) (fun _ => by simp only [List.map_append, List.map_nil, fX_m, bX_m, sX_m, pX_m, iaX_m, r5X_m, r6X_m, fT_m, hX_m, tX_m, xX_m, sgX_m, zaX_m, fsB_a, qX_m, mX_m]) (rest := []) rfl rfl (Nat.le_of_ble_eq_true rfl) dX9_append_10 (ws2 := (fun _ : Unit => (mX mr rf st L 0 pl hs vs dg0 xx ++ iaX cI (rf 5) 120 X))) (fun _ => (pm_cnt (fun _ => by simp only [List.countP_append, List.countP_nil, fT] <;> omega))) (fun _ Hp locs hP hD hS => ?_)
  refine lv_if_ne (tgt := 22) hx hb dX9_append_13 (by decide) (fun c_13 => ?_) (fun c_13 => ?_)
  · skip
    replace c_13 := cb_nz c_13
    refine lv_aload_n hx hb dX9_append_22 rfl (lv_at hl 0 rfl) ?_
    refine gf_n (C := RX9) (T := TX9) (N := 15) (ci := 9) (q0 := 0) (v := .int (nI L)) hx hb hts (iU inlX9) hown hK hP rfl rfl 7 (by decide) (kU u_174) rfl rfl dX9_append_23 ?_
    refine lv_bipush (v := (nI 120)) hx hb dX9_append_26 (by decide) ?_
    refine lv_icmp_ne (tgt := 37) hx hb dX9_append_28 (by decide) (fun c_28 => ?_) (fun c_28 => ?_)
    · skip
      replace c_28 := cn_ne c_28
      (exfalso; omega)
    · skip
      replace c_28 := cn_eq (by omega) (by omega) c_28
      refine lv_aload_n hx hb dX9_append_31 rfl (lv_at hl 0 rfl) ?_
      refine lv_iconst (v := (nI 2)) hx hb dX9_append_32 (by decide) ?_
      refine gp_V (ci := 9) (q0 := 0) (cq := (RX9, TX9, 15)) (c_X9_fails l D cI cZ cF cL mr rf st L 0 pl hs vs dg0 xx 2 ) (gUV u_175 u_176 u_177 u_5 u_178) rfl hdV_X9_fails ⟨Nat.le_of_ble_eq_true rfl, Nat.le_of_ble_eq_true rfl⟩ ⟨rfl, rfl⟩ hx hb hml hown hts hK hA hP hD hS hl.1 ⟨Nat.le_of_ble_eq_true rfl, Nat.le_of_ble_eq_true rfl⟩ rfl rfl rfl (wr := (iaX cI (rf 5) 120 X)) (pm_cnt (fun _ => by simp only [List.countP_append, List.countP_nil, fT] <;> omega)) (fun _ => by simp only [List.map_append, List.map_nil, fX_m, bX_m, sX_m, pX_m, iaX_m, r5X_m, r6X_m, fT_m, hX_m, tX_m, xX_m, sgX_m, zaX_m, fsB_a, qX_m, mX_m]) (rest := []) rfl rfl (Nat.le_of_ble_eq_true rfl) dX9_append_33 (ws2 := (fun _ : Unit => (mX mr rf st L 2 pl hs vs dg0 xx ++ iaX cI (rf 5) 120 X))) (fun _ => (pm_cnt (fun _ => by simp only [List.countP_append, List.countP_nil, fT] <;> omega))) (fun _ Hp locs hP hD hS => ?_)
      exact ct_i () hx hb hr hlocks hP hS rfl dX9_append_36
  · skip
    replace c_13 := cb_z c_13
    (exact absurd ((in_n (by omega) (by decide) (by decide)).mpr ⟨by omega, by omega⟩) c_13)
set_option maxHeartbeats 4000000 in
set_option maxRecDepth 100000 in
theorem c_X9_clearText (l : Launch) (D : va_G) (cI cZ cF cL : ClassId) (mr : Nat) (rf : Nat → Nat) (st L th pl hs vs : Nat) (dg0 : Int32) (xx : Int64) (X : Nat → Nat)  : CT l D (tysX cI cZ cF cL) yX9_clearText (wA yX9_clearText cX9_clearText 2 (some .int)) (rmF 0 0) [.ref mr] (mX mr rf st L th pl hs vs dg0 xx) (some (.int (nI L))) (fun _ : Unit => (mX mr rf st 0 0 pl hs vs dg0 xx)) := by
  refine ct_in (cc := cX9_clearText) (maxL := 2) (ret := (some .int)) (own := RX9) (lv := [(0, .ref mr)]) (by decide +kernel) rfl rfl (Nat.le_of_ble_eq_true rfl) rfl ?_
  intro p e s m args below meth c A ls hx hb hr hml hts hown hlocks hK hA hP hD hS hl
  refine lv_aload_n hx hb dX9_clearText_0 rfl (lv_at hl 0 rfl) ?_
  refine lv_iconst (v := (nI 0)) hx hb dX9_clearText_1 (by decide) ?_
  refine pf_n (C := RX9) (T := TX9) (N := 15) (ci := 9) (q0 := 0) (ty := .int) (v := .int (nI 0)) (ws2 := (mX mr rf st L 0 pl hs vs dg0 xx)) hx hb hts (iU inlX9) tyX9 tyX9_ok nmX9 hown hK hP hD hS rfl rfl 8 (by decide) (kU u_173) rfl rfl (tyX9_ok 8 (by decide)) rfl rfl (Nat.le_of_ble_eq_true rfl) dX9_clearText_2 rfl (fun Hp locs hP hD hS => ?_)
  refine lv_aload_n hx hb dX9_clearText_5 rfl (lv_at hl 0 rfl) ?_
  refine gf_n (C := RX9) (T := TX9) (N := 15) (ci := 9) (q0 := 0) (v := .int (nI L)) hx hb hts (iU inlX9) hown hK hP rfl rfl 7 (by decide) (kU u_174) rfl rfl dX9_clearText_6 ?_
  refine lv_istore_n (lv' := [(1, .int (nI L)), (0, .ref mr)]) hx hb dX9_clearText_9 rfl hl (by decide) rfl (fun ls hl => ?_)
  refine lv_aload_n hx hb dX9_clearText_10 rfl (lv_at hl 1 rfl) ?_
  refine lv_iconst (v := (nI 0)) hx hb dX9_clearText_11 (by decide) ?_
  refine pf_n (C := RX9) (T := TX9) (N := 15) (ci := 9) (q0 := 0) (ty := .int) (v := .int (nI 0)) (ws2 := (mX mr rf st 0 0 pl hs vs dg0 xx)) hx hb hts (iU inlX9) tyX9 tyX9_ok nmX9 hown hK hP hD hS rfl rfl 7 (by decide) (kU u_174) rfl rfl (tyX9_ok 7 (by decide)) rfl rfl (Nat.le_of_ble_eq_true rfl) dX9_clearText_12 rfl (fun Hp locs hP hD hS => ?_)
  refine lv_iload_n hx hb dX9_clearText_15 rfl (lv_at hl 0 rfl) ?_
  exact ct_i () hx hb hr hlocks hP hS rfl dX9_clearText_16
set_option maxRecDepth 20000 in
theorem u_139 : Cond.code yX9_anew cX9_anew 2 none ∈ wsL_law := List.mem_of_getElem? (i := 139) (by decide +kernel)
set_option maxRecDepth 20000 in
theorem u_136 : Cond.methodLink RX9 32 yX9_anew ∈ wsL_law := List.mem_of_getElem? (i := 136) (by decide +kernel)
set_option maxRecDepth 20000 in
theorem u_137 : Cond.instanceMethod yX9_anew ∈ wsL_law := List.mem_of_getElem? (i := 137) (by decide +kernel)
set_option maxRecDepth 20000 in
theorem u_138 : Cond.selects RX9 yX9_anew yX9_anew ∈ wsL_law := List.mem_of_getElem? (i := 138) (by decide +kernel)
theorem hdV_X9_anew : yX9_anew.cls = RX9 ∧ yX9_anew.cls ≠ "java/lang/invoke/MethodHandle" ∧ yX9_anew.cls ≠ "java/lang/invoke/VarHandle" ∧ (parseMethodDescriptor yX9_anew.desc).map (fun d => d.parameters.length) = some 0 := by decide +kernel
set_option maxHeartbeats 4000000 in
set_option maxRecDepth 100000 in
theorem c_X9_load (l : Launch) (D : va_G) (cI cZ cF cL : ClassId) (mr : Nat) (rf : Nat → Nat) (st L th pl hs vs : Nat) (dg0 : Int32) (xx : Int64) (X : Nat → Nat) (T : Nat → Nat → Nat) (zf : Nat → Nat) (hL : L ≤ 120) (hXt : ∀ k, k < 120 → X k < 256) (hok : (rdI X L).1 = true) : CT l D (tysX cI cZ cF cL) yX9_load (wA yX9_load cX9_load 1 (some .int)) (rmF 4 91) [.ref mr] (mX mr rf st L th pl hs vs dg0 xx ++ iaX cI (rf 5) 120 X ++ qX cI (rf 0) (T 0 0) (T 0 1) (T 0 2) (T 0 3) (T 0 4) (T 0 5) (T 1) (T 2) (T 3) (T 4) (T 5) (T 6) (T 7) (T 8) ++ zaX cZ (rf 4) 2 zf) (some (.int (nI (rdT X L 0 0)))) (fun u : Int32 => (mX mr rf 0 L 0 ((rdI X L).2.1) ((rdI X L).2.2.1) ((rdI X L).2.2.2.1) u xx ++ iaX cI (rf 5) 120 X ++ qX cI (rf 0) ((rdT X L) 0 0) ((rdT X L) 0 1) ((rdT X L) 0 2) ((rdT X L) 0 3) ((rdT X L) 0 4) ((rdT X L) 0 5) ((rdT X L) 1) ((rdT X L) 2) ((rdT X L) 3) ((rdT X L) 4) ((rdT X L) 5) ((rdT X L) 6) ((rdT X L) 7) ((rdT X L) 8) ++ zaX cZ (rf 4) 2 ((fun _ => 0)))) := by
  refine ct_in (cc := cX9_load) (maxL := 1) (ret := (some .int)) (own := RX9) (lv := [(0, .ref mr)]) (by decide +kernel) rfl rfl (Nat.le_of_ble_eq_true rfl) rfl ?_
  intro p e s m args below meth c A ls hx hb hr hml hts hown hlocks hK hA hP hD hS hl
  refine lv_aload_n hx hb dX9_load_0 rfl (lv_at hl 0 rfl) ?_
  refine lv_iconst (v := (nI 0)) hx hb dX9_load_1 (by decide) ?_
  refine pf_n (C := RX9) (T := TX9) (N := 15) (ci := 9) (q0 := 0) (ty := .int) (v := .int (nI 0)) (ws2 := (mX mr rf st L 0 pl hs vs dg0 xx ++ iaX cI (rf 5) 120 X ++ qX cI (rf 0) (T 0 0) (T 0 1) (T 0 2) (T 0 3) (T 0 4) (T 0 5) (T 1) (T 2) (T 3) (T 4) (T 5) (T 6) (T 7) (T 8) ++ zaX cZ (rf 4) 2 zf)) hx hb hts (iU inlX9) tyX9 tyX9_ok nmX9 hown hK hP hD hS rfl rfl 8 (by decide) (kU u_173) rfl rfl (tyX9_ok 8 (by decide)) rfl rfl (Nat.le_of_ble_eq_true rfl) dX9_load_2 rfl (fun Hp locs hP hD hS => ?_)
  refine lv_aload_n hx hb dX9_load_5 rfl (lv_at hl 0 rfl) ?_
  refine lv_iconst (v := (nI 0)) hx hb dX9_load_6 (by decide) ?_
  refine gp_V (ci := 9) (q0 := 0) (cq := (RX9, TX9, 15)) (c_X9_reads0 l D cI cZ cF cL mr rf st L 0 pl hs vs dg0 xx X (by omega) (by omega)) (gUV u_256 u_257 u_258 u_5 u_259) rfl hdV_X9_reads ⟨Nat.le_of_ble_eq_true rfl, Nat.le_of_ble_eq_true rfl⟩ ⟨rfl, rfl⟩ hx hb hml hown hts hK hA hP hD hS hl.1 ⟨Nat.le_of_ble_eq_true rfl, Nat.le_of_ble_eq_true rfl⟩ rfl rfl rfl (wr := (qX cI (rf 0) (T 0 0) (T 0 1) (T 0 2) (T 0 3) (T 0 4) (T 0 5) (T 1) (T 2) (T 3) (T 4) (T 5) (T 6) (T 7) (T 8) ++ zaX cZ (rf 4) 2 zf)) (pm_cnt (fun _ => by simp only [List.countP_append, List.countP_nil, fT] <;> omega)) (fun _ => by simp only [List.map_append, List.map_nil, fX_m, bX_m, sX_m, pX_m, iaX_m, r5X_m, r6X_m, fT_m, hX_m, tX_m, xX_m, sgX_m, zaX_m, fsB_a, qX_m, mX_m]) (rest := []) rfl rfl (Nat.le_of_ble_eq_true rfl) dX9_load_7 (ws2 := (fun u_7 : Nat × Nat × Int32 => (mX mr rf st L 0 ((rdI X L).2.1) u_7.1 u_7.2.1 u_7.2.2 xx ++ iaX cI (rf 5) 120 X ++ qX cI (rf 0) (T 0 0) (T 0 1) (T 0 2) (T 0 3) (T 0 4) (T 0 5) (T 1) (T 2) (T 3) (T 4) (T 5) (T 6) (T 7) (T 8) ++ zaX cZ (rf 4) 2 zf))) (fun _ => (pm_cnt (fun _ => by simp only [List.countP_append, List.countP_nil, fT] <;> omega))) (fun u_7 Hp locs hP hD hS => ?_)
  refine lv_if_ne (tgt := 19) hx hb dX9_load_10 (by decide) (fun c_10 => ?_) (fun c_10 => ?_)
  · skip
    replace c_10 := cb_nz c_10
    refine lv_aload_n hx hb dX9_load_19 rfl (lv_at hl 0 rfl) ?_
    have hP : va_P D vwCl (mX mr rf st L 0 ((rdI X L).2.1) u_7.1 u_7.2.1 u_7.2.2 xx ++ iaX cI (rf 5) 120 X ++ iaX cI (rf 0) 100 (qN (T 0 0) (T 0 1) (T 0 2) (T 0 3) (T 0 4) (T 0 5) (T 1) (T 2) (T 3) (T 4) (T 5) (T 6) (T 7) (T 8)) ++ zaX cZ (rf 4) 2 zf) _ := hP
    have hD : va_D A (mX mr rf st L 0 ((rdI X L).2.1) u_7.1 u_7.2.1 u_7.2.2 xx ++ iaX cI (rf 5) 120 X ++ iaX cI (rf 0) 100 (qN (T 0 0) (T 0 1) (T 0 2) (T 0 3) (T 0 4) (T 0 5) (T 1) (T 2) (T 3) (T 4) (T 5) (T 6) (T 7) (T 8)) ++ zaX cZ (rf 4) 2 zf) := hD
    refine gp_V (ci := 9) (q0 := 0) (cq := (RX9, TX9, 15)) (c_X9_anew l D cI cZ cF cL mr rf st L 0 ((rdI X L).2.1) u_7.1 u_7.2.1 u_7.2.2 xx (qN (T 0 0) (T 0 1) (T 0 2) (T 0 3) (T 0 4) (T 0 5) (T 1) (T 2) (T 3) (T 4) (T 5) (T 6) (T 7) (T 8)) ) (gUV u_136 u_137 u_138 u_5 u_139) rfl hdV_X9_anew ⟨Nat.le_of_ble_eq_true rfl, Nat.le_of_ble_eq_true rfl⟩ ⟨rfl, rfl⟩ hx hb hml hown hts hK hA hP hD hS hl.1 ⟨Nat.le_of_ble_eq_true rfl, Nat.le_of_ble_eq_true rfl⟩ rfl rfl rfl (wr := (iaX cI (rf 5) 120 X ++ zaX cZ (rf 4) 2 zf)) (pm_cnt (fun _ => by simp only [List.countP_append, List.countP_nil, fT] <;> omega)) (fun _ => by simp only [List.map_append, List.map_nil, fX_m, bX_m, sX_m, pX_m, iaX_m, r5X_m, r6X_m, fT_m, hX_m, tX_m, xX_m, sgX_m, zaX_m, fsB_a, qX_m, mX_m]) (rest := []) rfl rfl (Nat.le_of_ble_eq_true rfl) dX9_load_20 (ws2 := (fun _ : Unit => (mX mr rf st L 0 ((rdI X L).2.1) u_7.1 u_7.2.1 u_7.2.2 xx ++ iaX cI (rf 5) 120 X ++ iaX cI (rf 0) 100 q0N ++ zaX cZ (rf 4) 2 zf))) (fun _ => (pm_cnt (fun _ => by simp only [List.countP_append, List.countP_nil, fT] <;> omega))) (fun _ Hp locs hP hD hS => ?_)
    obtain ⟨hP, hD⟩ := cg_n (g := nF (qN 0 0 0 0 0 0 (fun _ => 0) (fun _ => 0) (fun _ => 0) (fun _ => 0) (fun _ => 0) (fun _ => 0) (fun _ => 5) (fun _ => 0))) (ws2 := (mX mr rf st L 0 ((rdI X L).2.1) u_7.1 u_7.2.1 u_7.2.2 xx ++ iaX cI (rf 5) 120 X ++ iaX cI (rf 0) 100 (qN 0 0 0 0 0 0 (fun _ => 0) (fun _ => 0) (fun _ => 0) (fun _ => 0) (fun _ => 0) (fun _ => 0) (fun _ => 5) (fun _ => 0)) ++ zaX cZ (rf 4) 2 zf)) hP hD 2 rfl (fun j hj => congrArg nI (qz_j j hj)) rfl
    have hP : va_P D vwCl (mX mr rf st L 0 ((rdI X L).2.1) u_7.1 u_7.2.1 u_7.2.2 xx ++ iaX cI (rf 5) 120 X ++ qX cI (rf 0) 0 0 0 0 0 0 ((fun _ => 0)) ((fun _ => 0)) ((fun _ => 0)) ((fun _ => 0)) ((fun _ => 0)) ((fun _ => 0)) ((fun _ => 5)) ((fun _ => 0)) ++ zaX cZ (rf 4) 2 zf) _ := hP
    have hD : va_D A (mX mr rf st L 0 ((rdI X L).2.1) u_7.1 u_7.2.1 u_7.2.2 xx ++ iaX cI (rf 5) 120 X ++ qX cI (rf 0) 0 0 0 0 0 0 ((fun _ => 0)) ((fun _ => 0)) ((fun _ => 0)) ((fun _ => 0)) ((fun _ => 0)) ((fun _ => 0)) ((fun _ => 5)) ((fun _ => 0)) ++ zaX cZ (rf 4) 2 zf) := hD
    refine lv_aload_n hx hb dX9_load_23 rfl (lv_at hl 0 rfl) ?_
    refine lv_iconst (v := (nI 1)) hx hb dX9_load_24 (by decide) ?_
    refine gp_V (ci := 9) (q0 := 0) (cq := (RX9, TX9, 15)) (c_X9_reads1 l D cI cZ cF cL mr rf st L 0 ((rdI X L).2.1) u_7.1 u_7.2.1 u_7.2.2 xx X hL hXt hok) (gUV u_256 u_257 u_258 u_5 u_259) rfl hdV_X9_reads ⟨Nat.le_of_ble_eq_true rfl, Nat.le_of_ble_eq_true rfl⟩ ⟨rfl, rfl⟩ hx hb hml hown hts hK hA hP hD hS hl.1 ⟨Nat.le_of_ble_eq_true rfl, Nat.le_of_ble_eq_true rfl⟩ rfl rfl rfl (wr := (zaX cZ (rf 4) 2 zf)) (pm_cnt (fun _ => by simp only [List.countP_append, List.countP_nil, fT] <;> omega)) (fun _ => by simp only [List.map_append, List.map_nil, fX_m, bX_m, sX_m, pX_m, iaX_m, r5X_m, r6X_m, fT_m, hX_m, tX_m, xX_m, sgX_m, zaX_m, fsB_a, qX_m, mX_m]) (rest := []) rfl rfl (Nat.le_of_ble_eq_true rfl) dX9_load_25 (ws2 := (fun u_25 : Int32 => (mX mr rf st L 0 ((rdI X L).2.1) ((rdI X L).2.2.1) ((rdI X L).2.2.2.1) u_25 xx ++ iaX cI (rf 5) 120 X ++ qX cI (rf 0) 0 0 0 0 0 0 ((rdI X L).2.2.2.2.1) ((rdI X L).2.2.2.2.2.1) ((fun _ => 0)) ((rdI X L).2.2.2.2.2.2.1) ((rdI X L).2.2.2.2.2.2.2.1) ((fun _ => 0)) ((rdI X L).2.2.2.2.2.2.2.2) ((fun _ => 0)) ++ zaX cZ (rf 4) 2 zf))) (fun _ => (pm_cnt (fun _ => by simp only [List.countP_append, List.countP_nil, fT] <;> omega))) (fun u_25 Hp locs hP hD hS => ?_)
    refine lv_pop hx hb dX9_load_28 rfl ?_
    refine lv_aload_n hx hb dX9_load_29 rfl (lv_at hl 0 rfl) ?_
    refine gf_n (C := RX9) (T := TX9) (N := 15) (ci := 9) (q0 := 0) (v := .ref (rf 0)) hx hb hts (iU inlX9) hown hK hP rfl rfl 0 (by decide) (kU u_129) rfl rfl dX9_load_30 ?_
    refine lv_iconst (v := (nI 0)) hx hb dX9_load_33 (by decide) ?_
    refine lv_aload_n hx hb dX9_load_34 rfl (lv_at hl 0 rfl) ?_
    refine gf_n (C := RX9) (T := TX9) (N := 15) (ci := 9) (q0 := 0) (v := .int (nI ((rdI X L).2.2.1))) hx hb hts (iU inlX9) hown hK hP rfl rfl 11 (by decide) (kU u_260) rfl rfl dX9_load_35 ?_
    refine is_n (q0 := 2) (t0 := 0) (ws2 := (mX mr rf st L 0 ((rdI X L).2.1) ((rdI X L).2.2.1) ((rdI X L).2.2.2.1) u_25 xx ++ iaX cI (rf 5) 120 X ++ qX cI (rf 0) ((rdI X L).2.2.1) 0 0 0 0 0 ((rdI X L).2.2.2.2.1) ((rdI X L).2.2.2.2.2.1) ((fun _ => 0)) ((rdI X L).2.2.2.2.2.2.1) ((rdI X L).2.2.2.2.2.2.2.1) ((fun _ => 0)) ((rdI X L).2.2.2.2.2.2.2.2) ((fun _ => 0)) ++ zaX cZ (rf 4) 2 zf)) hx hb hK hP hD hS rfl rfl (by omega) (by decide) dX9_load_38 (by rw [qU_01]; rfl) (fun Hp locs hP hD hS => ?_)
    refine lv_aload_n hx hb dX9_load_39 rfl (lv_at hl 0 rfl) ?_
    refine gf_n (C := RX9) (T := TX9) (N := 15) (ci := 9) (q0 := 0) (v := .ref (rf 0)) hx hb hts (iU inlX9) hown hK hP rfl rfl 0 (by decide) (kU u_129) rfl rfl dX9_load_40 ?_
    refine lv_iconst (v := (nI 1)) hx hb dX9_load_43 (by decide) ?_
    refine lv_aload_n hx hb dX9_load_44 rfl (lv_at hl 0 rfl) ?_
    refine gf_n (C := RX9) (T := TX9) (N := 15) (ci := 9) (q0 := 0) (v := .int (nI ((rdI X L).2.2.2.1))) hx hb hts (iU inlX9) hown hK hP rfl rfl 12 (by decide) (kU u_261) rfl rfl dX9_load_45 ?_
    refine is_n (q0 := 2) (t0 := 0) (ws2 := (mX mr rf st L 0 ((rdI X L).2.1) ((rdI X L).2.2.1) ((rdI X L).2.2.2.1) u_25 xx ++ iaX cI (rf 5) 120 X ++ qX cI (rf 0) ((rdI X L).2.2.1) ((rdI X L).2.2.2.1) 0 0 0 0 ((rdI X L).2.2.2.2.1) ((rdI X L).2.2.2.2.2.1) ((fun _ => 0)) ((rdI X L).2.2.2.2.2.2.1) ((rdI X L).2.2.2.2.2.2.2.1) ((fun _ => 0)) ((rdI X L).2.2.2.2.2.2.2.2) ((fun _ => 0)) ++ zaX cZ (rf 4) 2 zf)) hx hb hK hP hD hS rfl rfl (by omega) (by decide) dX9_load_48 (by rw [qU_02]; rfl) (fun Hp locs hP hD hS => ?_)
    refine lv_aload_n hx hb dX9_load_49 rfl (lv_at hl 0 rfl) ?_
    refine lv_iconst (v := (nI 0)) hx hb dX9_load_50 (by decide) ?_
    refine pf_n (C := RX9) (T := TX9) (N := 15) (ci := 9) (q0 := 0) (ty := .int) (v := .int (nI 0)) (ws2 := (mX mr rf 0 L 0 ((rdI X L).2.1) ((rdI X L).2.2.1) ((rdI X L).2.2.2.1) u_25 xx ++ iaX cI (rf 5) 120 X ++ qX cI (rf 0) ((rdI X L).2.2.1) ((rdI X L).2.2.2.1) 0 0 0 0 ((rdI X L).2.2.2.2.1) ((rdI X L).2.2.2.2.2.1) ((fun _ => 0)) ((rdI X L).2.2.2.2.2.2.1) ((rdI X L).2.2.2.2.2.2.2.1) ((fun _ => 0)) ((rdI X L).2.2.2.2.2.2.2.2) ((fun _ => 0)) ++ zaX cZ (rf 4) 2 zf)) hx hb hts (iU inlX9) tyX9 tyX9_ok nmX9 hown hK hP hD hS rfl rfl 3 (by decide) (kU u_309) rfl rfl (tyX9_ok 3 (by decide)) rfl rfl (Nat.le_of_ble_eq_true rfl) dX9_load_51 rfl (fun Hp locs hP hD hS => ?_)
    refine lv_aload_n hx hb dX9_load_54 rfl (lv_at hl 0 rfl) ?_
    refine gf_n (C := RX9) (T := TX9) (N := 15) (ci := 9) (q0 := 0) (v := .ref (rf 4)) hx hb hts (iU inlX9) hown hK hP rfl rfl 5 (by decide) (kU u_133) rfl rfl dX9_load_55 ?_
    refine lv_iconst (v := (nI 0)) hx hb dX9_load_58 (by decide) ?_
    refine lv_iconst (v := (nI 0)) hx hb dX9_load_59 (by decide) ?_
    refine zs_n (q0 := 3) (t0 := 1) (ws2 := (mX mr rf 0 L 0 ((rdI X L).2.1) ((rdI X L).2.2.1) ((rdI X L).2.2.2.1) u_25 xx ++ iaX cI (rf 5) 120 X ++ qX cI (rf 0) ((rdI X L).2.2.1) ((rdI X L).2.2.2.1) 0 0 0 0 ((rdI X L).2.2.2.2.1) ((rdI X L).2.2.2.2.2.1) ((fun _ => 0)) ((rdI X L).2.2.2.2.2.2.1) ((rdI X L).2.2.2.2.2.2.2.1) ((fun _ => 0)) ((rdI X L).2.2.2.2.2.2.2.2) ((fun _ => 0)) ++ zaX cZ (rf 4) 2 (va_up zf 0 0))) hx hb hK hP hD hS rfl rfl (by omega) (by decide) (by decide) dX9_load_60 rfl (fun Hp locs hP hD hS => ?_)
    refine lv_aload_n hx hb dX9_load_61 rfl (lv_at hl 0 rfl) ?_
    refine gf_n (C := RX9) (T := TX9) (N := 15) (ci := 9) (q0 := 0) (v := .ref (rf 4)) hx hb hts (iU inlX9) hown hK hP rfl rfl 5 (by decide) (kU u_133) rfl rfl dX9_load_62 ?_
    refine lv_iconst (v := (nI 1)) hx hb dX9_load_65 (by decide) ?_
    refine lv_iconst (v := (nI 0)) hx hb dX9_load_66 (by decide) ?_
    refine zs_n (q0 := 3) (t0 := 1) (ws2 := (mX mr rf 0 L 0 ((rdI X L).2.1) ((rdI X L).2.2.1) ((rdI X L).2.2.2.1) u_25 xx ++ iaX cI (rf 5) 120 X ++ qX cI (rf 0) ((rdI X L).2.2.1) ((rdI X L).2.2.2.1) 0 0 0 0 ((rdI X L).2.2.2.2.1) ((rdI X L).2.2.2.2.2.1) ((fun _ => 0)) ((rdI X L).2.2.2.2.2.2.1) ((rdI X L).2.2.2.2.2.2.2.1) ((fun _ => 0)) ((rdI X L).2.2.2.2.2.2.2.2) ((fun _ => 0)) ++ zaX cZ (rf 4) 2 (va_up (va_up zf 0 0) 1 0))) hx hb hK hP hD hS rfl rfl (by omega) (by decide) (by decide) dX9_load_67 rfl (fun Hp locs hP hD hS => ?_)
    obtain ⟨hP, hD⟩ := cg_n (g := nF ((fun _ => 0))) (ws2 := (mX mr rf 0 L 0 ((rdI X L).2.1) ((rdI X L).2.2.1) ((rdI X L).2.2.2.1) u_25 xx ++ iaX cI (rf 5) 120 X ++ qX cI (rf 0) ((rdI X L).2.2.1) ((rdI X L).2.2.2.1) 0 0 0 0 ((rdI X L).2.2.2.2.1) ((rdI X L).2.2.2.2.2.1) ((fun _ => 0)) ((rdI X L).2.2.2.2.2.2.1) ((rdI X L).2.2.2.2.2.2.2.1) ((fun _ => 0)) ((rdI X L).2.2.2.2.2.2.2.2) ((fun _ => 0)) ++ zaX cZ (rf 4) 2 ((fun _ => 0)))) hP hD 3 rfl (fun j hj => congrArg nI (show va_up (va_up zf 0 0) 1 0 j = 0 from up_all (P := fun z => z = 0) (fun _ => rfl) (fun h => up_all (P := fun z => z = 0) (fun _ => rfl) (fun h2 => by omega)))) rfl
    have hP : va_P D vwCl (mX mr rf 0 L 0 ((rdI X L).2.1) ((rdI X L).2.2.1) ((rdI X L).2.2.2.1) u_25 xx ++ iaX cI (rf 5) 120 X ++ qX cI (rf 0) ((rdT X L) 0 0) ((rdT X L) 0 1) ((rdT X L) 0 2) ((rdT X L) 0 3) ((rdT X L) 0 4) ((rdT X L) 0 5) ((rdT X L) 1) ((rdT X L) 2) ((rdT X L) 3) ((rdT X L) 4) ((rdT X L) 5) ((rdT X L) 6) ((rdT X L) 7) ((rdT X L) 8) ++ zaX cZ (rf 4) 2 ((fun _ => 0))) Hp := hP
    have hD : va_D A (mX mr rf 0 L 0 ((rdI X L).2.1) ((rdI X L).2.2.1) ((rdI X L).2.2.2.1) u_25 xx ++ iaX cI (rf 5) 120 X ++ qX cI (rf 0) ((rdT X L) 0 0) ((rdT X L) 0 1) ((rdT X L) 0 2) ((rdT X L) 0 3) ((rdT X L) 0 4) ((rdT X L) 0 5) ((rdT X L) 1) ((rdT X L) 2) ((rdT X L) 3) ((rdT X L) 4) ((rdT X L) 5) ((rdT X L) 6) ((rdT X L) 7) ((rdT X L) 8) ++ zaX cZ (rf 4) 2 ((fun _ => 0))) := hD
    refine lv_aload_n hx hb dX9_load_68 rfl (lv_at hl 0 rfl) ?_
    refine gf_n (C := RX9) (T := TX9) (N := 15) (ci := 9) (q0 := 0) (v := .int (nI ((rdI X L).2.2.1))) hx hb hts (iU inlX9) hown hK hP rfl rfl 11 (by decide) (kU u_260) rfl rfl dX9_load_69 ?_
    exact ct_i (u_25) hx hb hr hlocks hP hS rfl dX9_load_72
  · skip
    replace c_10 := cb_z c_10
    (exact absurd hok c_10)
set_option maxHeartbeats 4000000 in
set_option maxRecDepth 100000 in
theorem f1_X9_load (l : Launch) (D : va_G) (cI cZ cF cL : ClassId) (mr : Nat) (rf : Nat → Nat) (st L th pl hs vs : Nat) (dg0 : Int32) (xx : Int64) (X : Nat → Nat) (hL : L ≤ 120) (hXt : ∀ k, k < 120 → X k < 256) (hok : ¬ (rdI X L).1 = true) : CT l D (tysX cI cZ cF cL) yX9_load (wA yX9_load cX9_load 1 (some .int)) (rmF 4 91) [.ref mr] (mX mr rf st L th pl hs vs dg0 xx ++ iaX cI (rf 5) 120 X) (some (.int (nI 0))) (fun u : Nat × Nat × Int32 => (mX mr rf st L 1 ((rdI X L).2.1) u.1 u.2.1 u.2.2 xx ++ iaX cI (rf 5) 120 X)) := by
  refine ct_in (cc := cX9_load) (maxL := 1) (ret := (some .int)) (own := RX9) (lv := [(0, .ref mr)]) (by decide +kernel) rfl rfl (Nat.le_of_ble_eq_true rfl) rfl ?_
  intro p e s m args below meth c A ls hx hb hr hml hts hown hlocks hK hA hP hD hS hl
  refine lv_aload_n hx hb dX9_load_0 rfl (lv_at hl 0 rfl) ?_
  refine lv_iconst (v := (nI 0)) hx hb dX9_load_1 (by decide) ?_
  refine pf_n (C := RX9) (T := TX9) (N := 15) (ci := 9) (q0 := 0) (ty := .int) (v := .int (nI 0)) (ws2 := (mX mr rf st L 0 pl hs vs dg0 xx ++ iaX cI (rf 5) 120 X)) hx hb hts (iU inlX9) tyX9 tyX9_ok nmX9 hown hK hP hD hS rfl rfl 8 (by decide) (kU u_173) rfl rfl (tyX9_ok 8 (by decide)) rfl rfl (Nat.le_of_ble_eq_true rfl) dX9_load_2 rfl (fun Hp locs hP hD hS => ?_)
  refine lv_aload_n hx hb dX9_load_5 rfl (lv_at hl 0 rfl) ?_
  refine lv_iconst (v := (nI 0)) hx hb dX9_load_6 (by decide) ?_
  refine gp_V (ci := 9) (q0 := 0) (cq := (RX9, TX9, 15)) (c_X9_reads0 l D cI cZ cF cL mr rf st L 0 pl hs vs dg0 xx X (by omega) (by omega)) (gUV u_256 u_257 u_258 u_5 u_259) rfl hdV_X9_reads ⟨Nat.le_of_ble_eq_true rfl, Nat.le_of_ble_eq_true rfl⟩ ⟨rfl, rfl⟩ hx hb hml hown hts hK hA hP hD hS hl.1 ⟨Nat.le_of_ble_eq_true rfl, Nat.le_of_ble_eq_true rfl⟩ rfl rfl rfl (wr := ([] : va_W)) (pm_cnt (fun _ => by simp only [List.countP_append, List.countP_nil, fT] <;> omega)) (fun _ => by simp only [List.map_append, List.map_nil, fX_m, bX_m, sX_m, pX_m, iaX_m, r5X_m, r6X_m, fT_m, hX_m, tX_m, xX_m, sgX_m, zaX_m, fsB_a, qX_m, mX_m]) (rest := []) rfl rfl (Nat.le_of_ble_eq_true rfl) dX9_load_7 (ws2 := (fun u_7 : Nat × Nat × Int32 => (mX mr rf st L 0 ((rdI X L).2.1) u_7.1 u_7.2.1 u_7.2.2 xx ++ iaX cI (rf 5) 120 X))) (fun _ => (pm_cnt (fun _ => by simp only [List.countP_append, List.countP_nil, fT] <;> omega))) (fun u_7 Hp locs hP hD hS => ?_)
  refine lv_if_ne (tgt := 19) hx hb dX9_load_10 (by decide) (fun c_10 => ?_) (fun c_10 => ?_)
  · skip
    replace c_10 := cb_nz c_10
    (exact absurd c_10 hok)
  · skip
    replace c_10 := cb_z c_10
    refine lv_aload_n hx hb dX9_load_13 rfl (lv_at hl 0 rfl) ?_
    refine lv_iconst (v := (nI 1)) hx hb dX9_load_14 (by decide) ?_
    refine gp_V (ci := 9) (q0 := 0) (cq := (RX9, TX9, 15)) (c_X9_fails l D cI cZ cF cL mr rf st L 0 ((rdI X L).2.1) u_7.1 u_7.2.1 u_7.2.2 xx 1 ) (gUV u_175 u_176 u_177 u_5 u_178) rfl hdV_X9_fails ⟨Nat.le_of_ble_eq_true rfl, Nat.le_of_ble_eq_true rfl⟩ ⟨rfl, rfl⟩ hx hb hml hown hts hK hA hP hD hS hl.1 ⟨Nat.le_of_ble_eq_true rfl, Nat.le_of_ble_eq_true rfl⟩ rfl rfl rfl (wr := (iaX cI (rf 5) 120 X)) (pm_cnt (fun _ => by simp only [List.countP_append, List.countP_nil, fT] <;> omega)) (fun _ => by simp only [List.map_append, List.map_nil, fX_m, bX_m, sX_m, pX_m, iaX_m, r5X_m, r6X_m, fT_m, hX_m, tX_m, xX_m, sgX_m, zaX_m, fsB_a, qX_m, mX_m]) (rest := []) rfl rfl (Nat.le_of_ble_eq_true rfl) dX9_load_15 (ws2 := (fun _ : Unit => (mX mr rf st L 1 ((rdI X L).2.1) u_7.1 u_7.2.1 u_7.2.2 xx ++ iaX cI (rf 5) 120 X))) (fun _ => (pm_cnt (fun _ => by simp only [List.countP_append, List.countP_nil, fT] <;> omega))) (fun _ Hp locs hP hD hS => ?_)
    exact ct_i (u_7.1, u_7.2.1, u_7.2.2) hx hb hr hlocks hP hS rfl dX9_load_18
