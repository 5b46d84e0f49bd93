/-! The law's helpers: each where the program returns and where it refuses (append). -/
def oX (cL : ClassId) (o : Nat) (f : Nat → Int64) : va_W := [(o, .inl (cL, 1, .inr (.inl f)))]
theorem oX_m (cL : ClassId) (o : Nat) (f : Nat → Int64) : (oX cL o f).map Prod.fst = [o] := rfl
theorem cl_0 : vp_in (nI 0) 1 := vp_in_nI (by decide) (by decide)
set_option maxRecDepth 20000 in
theorem u_149 : Cond.methodLink RL 7 yX8_append ∈ wsL_law := List.mem_of_getElem? (i := 149) (by decide +kernel)
set_option maxRecDepth 20000 in
theorem u_150 : Cond.instanceMethod yX8_append ∈ wsL_law := List.mem_of_getElem? (i := 150) (by decide +kernel)
set_option maxRecDepth 20000 in
theorem u_151 : Cond.selects RX8 yX8_append yX8_append ∈ wsL_law := List.mem_of_getElem? (i := 151) (by decide +kernel)
set_option maxRecDepth 20000 in
theorem u_152 : Cond.code yX8_append cX8_append 2 (some .int) ∈ wsL_law := List.mem_of_getElem? (i := 152) (by decide +kernel)
set_option maxRecDepth 20000 in
theorem u_147 : Cond.classLink RL 13 "java/lang/IllegalArgumentException" ∈ wsL_law := List.mem_of_getElem? (i := 147) (by decide +kernel)
set_option maxRecDepth 20000 in
theorem u_148 : Cond.classLink RL 15 "java/lang/IllegalStateException" ∈ wsL_law := List.mem_of_getElem? (i := 148) (by decide +kernel)
theorem hdV_X8_append : yX8_append.cls = RX8 ∧ yX8_append.cls ≠ "java/lang/invoke/MethodHandle" ∧ yX8_append.cls ≠ "java/lang/invoke/VarHandle" ∧ (parseMethodDescriptor yX8_append.desc).map (fun d => d.parameters.length) = some 1 := by decide +kernel
set_option maxHeartbeats 4000000 in
set_option maxRecDepth 100000 in
theorem c_L_append (l : Launch) (D : va_G) (cI cZ cF cL : ClassId) (rx : Nat) (tt a tr : Nat → Nat) (r3 rs rz : Nat) (b : Nat → Nat) (b0 s0 r5 r6 : Nat) (X : Nat → Nat) (L pl : Nat) (ch : Nat) (o : Nat) (f : Nat → Int64) (hc : ch ≤ 255) (hL : L < 120) : CTL l D (tysX cI cZ cF cL) yL_append (wH yL_append cL_append 4 (some .int) [(0, 9, 12, 13), (0, 9, 15, 15)]) (rmF 2 60) [.ref rx, .int (nI ch), .ref o] (oX cL o f ++ (xX rx tt a tr r3 rs rz b b0 s0 r5 r6 ++ tX cI tt X L pl)) 0 0 (some (.int (nI 0))) (fun _ : Unit => (oX cL o (vp_updL f (nI 0).toNatClampNeg (nI (L + 1)).toInt64) ++ (xX rx tt a tr r3 rs rz b b0 s0 r5 r6 ++ tX cI tt (va_up X L ch) (L + 1) pl))) := by
  refine cl_in (cc := cL_append) (maxL := 4) (ret := (some .int)) (own := RL) (lv := [(0, .ref rx), (1, .int (nI ch)), (2, .ref o)]) (by decide +kernel) rfl rfl (Nat.le_of_ble_eq_true rfl) rfl ?_
  intro p e s m args below meth c A ls hx hb hr hml hts hown hlocks hK hA hP hD hS hl hKX htab
  refine lv_aload_n hx hb dL_append_0 rfl (lv_at hl 2 rfl) ?_
  refine lv_iconst (v := (nI 0)) hx hb dL_append_1 (by decide) ?_
  refine lv_aload_n hx hb dL_append_2 rfl (lv_at hl 0 rfl) ?_
  refine lv_iload_n hx hb dL_append_3 rfl (lv_at hl 1 rfl) ?_
  refine gp_V (ci := 8) (q0 := 0) (cq := (RX8, TX8, 11)) (c_X8_append l D cI cZ cF cL rx tt a tr r3 rs rz b b0 s0 r5 r6 X L pl ch hc hL) (gHV u_149 u_150 u_151 u_2 u_152) rfl hdV_X8_append ⟨Nat.le_of_ble_eq_true rfl, Nat.le_of_ble_eq_true rfl⟩ ⟨rfl, rfl⟩ hx hb hml hown hts hK hA hP hD hS hl.1 ⟨Nat.le_of_ble_eq_true rfl, Nat.le_of_ble_eq_true rfl⟩ rfl rfl rfl (wr := oX cL o f) (pm_cnt (fun _ => by simp only [List.countP_append, List.countP_nil, fT] <;> omega)) (fun _ => by simp only [List.map_append, List.map_nil, fX_m, bX_m, sX_m, pX_m, iaX_m, r5X_m, r6X_m, fT_m, hX_m, tX_m, xX_m, sgX_m, zaX_m, fsB_a]) (rest := [.int (nI 0), .ref o]) rfl rfl (Nat.le_of_ble_eq_true rfl) dL_append_4 (ws2 := (fun _ : Unit => (oX cL o f ++ (xX rx tt a tr r3 rs rz b b0 s0 r5 r6 ++ tX cI tt (va_up X L ch) (L + 1) pl)))) (fun _ => (pm_cnt (fun _ => by simp only [List.countP_append, List.countP_nil, fT] <;> omega))) (fun _ Hp locs hP hD hS => ?_)
  refine t_i2l hx hb dL_append_7 rfl ?_
  refine va_last hx hb hK.1 hP hD hS 0 3 rfl rfl cl_0 dL_append_8 (fun Hq locs1 hP hD hS => ?_)
  refine lv_goto (tgt := 18) hx hb dL_append_9 (by decide) ?_
  refine lv_iconst (v := (nI 0)) hx hb dL_append_18 (by decide) ?_
  exact cl_i () hx hb hr hlocks hP hS rfl dL_append_19
set_option maxHeartbeats 4000000 in
set_option maxRecDepth 100000 in
theorem x1_L_append (l : Launch) (D : va_G) (cI cZ cF cL : ClassId) (rx : Nat) (tt a tr : Nat → Nat) (r3 rs rz : Nat) (b : Nat → Nat) (b0 s0 r5 r6 : Nat) (X : Nat → Nat) (L pl : Nat) (x : Int32) (o : Nat) (f : Nat → Int64) (hst : l.stackTraces = false) (hbad : x < nI 0 ∨ nI 255 < x) : CTL l D (tysX cI cZ cF cL) yL_append (wH yL_append cL_append 4 (some .int) [(0, 9, 12, 13), (0, 9, 15, 15)]) (rmX 8 160) [.ref rx, .int x, .ref o] (oX cL o f ++ (xX rx tt a tr r3 rs rz b b0 s0 r5 r6 ++ tX cI tt X L pl)) 1 6 (some (.int (nI 1))) (fun _ : Unit => (oX cL o f ++ (xX rx tt a tr r3 rs rz b b0 s0 r5 r6 ++ tX cI tt X L pl))) := by
  refine cl_in (cc := cL_append) (maxL := 4) (ret := (some .int)) (own := RL) (lv := [(0, .ref rx), (1, .int x), (2, .ref o)]) (by decide +kernel) rfl rfl (Nat.le_of_ble_eq_true rfl) rfl ?_
  intro p e s m args below meth c A ls hx hb hr hml hts hown hlocks hK hA hP hD hS hl hKX htab
  refine lv_aload_n hx hb dL_append_0 rfl (lv_at hl 2 rfl) ?_
  refine lv_iconst (v := (nI 0)) hx hb dL_append_1 (by decide) ?_
  refine lv_aload_n hx hb dL_append_2 rfl (lv_at hl 0 rfl) ?_
  refine lv_iload_n hx hb dL_append_3 rfl (lv_at hl 1 rfl) ?_
  refine gx_V (ci := 8) (q0 := 0) (cq := (RX8, TX8, 11)) (x1_X8_append l D cI cZ cF cL rx tt a tr r3 rs rz b b0 s0 r5 r6 X L pl x hst hbad) (gHV u_149 u_150 u_151 u_2 u_152) rfl hdV_X8_append ⟨Nat.le_of_ble_eq_true rfl, Nat.le_of_ble_eq_true rfl⟩ ⟨rfl, rfl⟩ hx hb hml hown hts hK hKX rfl hA hP hD hS hl.1 ⟨Nat.le_of_ble_eq_true rfl, Nat.le_of_ble_eq_true rfl⟩ rfl rfl rfl (wr := oX cL o f) (pm_cnt (fun _ => by simp only [List.countP_append, List.countP_nil, fT] <;> omega)) (fun _ => by simp only [List.map_append, List.map_nil, fX_m, bX_m, sX_m, pX_m, iaX_m, r5X_m, r6X_m, fT_m, hX_m, tX_m, xX_m, sgX_m, zaX_m, fsB_a]) (rest := [.int (nI 0), .ref o]) rfl (Nat.le_of_ble_eq_true rfl) dL_append_4 (ws2 := (fun _ : Unit => (oX cL o f ++ (xX rx tt a tr r3 rs rz b b0 s0 r5 r6 ++ tX cI tt X L pl)))) (fun _ => (pm_cnt (fun _ => by simp only [List.countP_append, List.countP_nil, fT] <;> omega))) (fun _ Hp locs q9 ce9 hP hD hS hce hcv hcl => ?_)
  refine cl_catch [] [(0, 9, 15, 15)] (0, 9, 12, 13) htab hts hown hKX (by decide) (fun z hz => nomatch hz) (by decide) (by decide) (kH u_147) hce hcv hcl ?_
  refine lv_astore_n (lv' := [(3, .ref q9), (0, .ref rx), (1, .int x), (2, .ref o)]) hx hb dL_append_12 rfl hl (by decide) rfl (fun ls hl => ?_)
  refine lv_iconst (v := (nI 1)) hx hb dL_append_13 (by decide) ?_
  exact cl_i () hx hb hr hlocks hP hS rfl dL_append_14
set_option maxHeartbeats 4000000 in
set_option maxRecDepth 100000 in
theorem x2_L_append (l : Launch) (D : va_G) (cI cZ cF cL : ClassId) (rx : Nat) (tt a tr : Nat → Nat) (r3 rs rz : Nat) (b : Nat → Nat) (b0 s0 r5 r6 : Nat) (X : Nat → Nat) (L pl : Nat) (ch : Nat) (o : Nat) (f : Nat → Int64) (hst : l.stackTraces = false) (hc : ch ≤ 255) (hL : L = 120) : CTL l D (tysX cI cZ cF cL) yL_append (wH yL_append cL_append 4 (some .int) [(0, 9, 12, 13), (0, 9, 15, 15)]) (rmX 8 160) [.ref rx, .int (nI ch), .ref o] (oX cL o f ++ (xX rx tt a tr r3 rs rz b b0 s0 r5 r6 ++ tX cI tt X L pl)) 1 6 (some (.int (nI 2))) (fun _ : Unit => (oX cL o f ++ (xX rx tt a tr r3 rs rz b b0 s0 r5 r6 ++ tX cI tt X L pl))) := by
  refine cl_in (cc := cL_append) (maxL := 4) (ret := (some .int)) (own := RL) (lv := [(0, .ref rx), (1, .int (nI ch)), (2, .ref o)]) (by decide +kernel) rfl rfl (Nat.le_of_ble_eq_true rfl) rfl ?_
  intro p e s m args below meth c A ls hx hb hr hml hts hown hlocks hK hA hP hD hS hl hKX htab
  refine lv_aload_n hx hb dL_append_0 rfl (lv_at hl 2 rfl) ?_
  refine lv_iconst (v := (nI 0)) hx hb dL_append_1 (by decide) ?_
  refine lv_aload_n hx hb dL_append_2 rfl (lv_at hl 0 rfl) ?_
  refine lv_iload_n hx hb dL_append_3 rfl (lv_at hl 1 rfl) ?_
  refine gx_V (ci := 8) (q0 := 0) (cq := (RX8, TX8, 11)) (x2_X8_append l D cI cZ cF cL rx tt a tr r3 rs rz b b0 s0 r5 r6 X L pl ch hst hc hL) (gHV u_149 u_150 u_151 u_2 u_152) rfl hdV_X8_append ⟨Nat.le_of_ble_eq_true rfl, Nat.le_of_ble_eq_true rfl⟩ ⟨rfl, rfl⟩ hx hb hml hown hts hK hKX rfl hA hP hD hS hl.1 ⟨Nat.le_of_ble_eq_true rfl, Nat.le_of_ble_eq_true rfl⟩ rfl rfl rfl (wr := oX cL o f) (pm_cnt (fun _ => by simp only [List.countP_append, List.countP_nil, fT] <;> omega)) (fun _ => by simp only [List.map_append, List.map_nil, fX_m, bX_m, sX_m, pX_m, iaX_m, r5X_m, r6X_m, fT_m, hX_m, tX_m, xX_m, sgX_m, zaX_m, fsB_a]) (rest := [.int (nI 0), .ref o]) rfl (Nat.le_of_ble_eq_true rfl) dL_append_4 (ws2 := (fun _ : Unit => (oX cL o f ++ (xX rx tt a tr r3 rs rz b b0 s0 r5 r6 ++ tX cI tt X L pl)))) (fun _ => (pm_cnt (fun _ => by simp only [List.countP_append, List.countP_nil, fT] <;> omega))) (fun _ Hp locs q9 ce9 hP hD hS hce hcv hcl => ?_)
  refine cl_catch [(0, 9, 12, 13)] [] (0, 9, 15, 15) htab hts hown hKX (by decide) (fun z hz => by rcases List.mem_singleton.mp hz with rfl; exact ⟨by decide, cIAE, kH u_147, by decide⟩) (by decide) (by decide) (kH u_148) hce hcv hcl ?_
  refine lv_astore_n (lv' := [(3, .ref q9), (0, .ref rx), (1, .int (nI ch)), (2, .ref o)]) hx hb dL_append_15 rfl hl (by decide) rfl (fun ls hl => ?_)
  refine lv_iconst (v := (nI 2)) hx hb dL_append_16 (by decide) ?_
  exact cl_i () hx hb hr hlocks hP hS rfl dL_append_17
