/-! The law's own helpers that change the farm: acts, packs. -/
/-- what one act leaves -/
def AP (T : Nat → Nat → Nat) (x : Nat) (T2 : Nat → Nat → Nat) (c n : Nat) : Prop := FI T2 ∧ SI T2 x ∧ CI T2 ∧ T 0 0 ≤ T2 0 0 ∧ T2 0 1 = T 0 1 ∧ c ≤ 14 ∧ n < 14
theorem hs_c {cnt : Nat} (hc : cnt ≤ 14) : (if cnt < 14 then cnt + 1 else cnt) ≤ 14 := by split <;> omega
theorem hs_n (nx : Nat) : (nx + 1) % 14 < 14 := Nat.mod_lt _ (by decide)
theorem AP_id {T : Nat → Nat → Nat} {x cnt nx : Nat} (hF : FI T) (hS : SI T x) (hC : CI T) (hc : cnt ≤ 14) (hn : nx < 14) : AP T x T cnt nx := ⟨hF, hS, hC, Nat.le_refl _, rfl, hc, hn⟩
theorem AP_ah {T : Nat → Nat → Nat} {x cnt nx z y : Nat} (hF : FI T) (hS : SI T x) (hC : CI T) (hc : cnt ≤ 14) (hH : T 0 0 < 6) (h1 : 1 ≤ z) (h2 : z ≤ 4) (hy : y ≤ 9) : AP T x (ahT T z y) (if cnt < 14 then cnt + 1 else cnt) ((nx + 1) % 14) := by
  have h9 := hF.2.2.2.2.2
  have hV := hF.1.2
  refine ⟨FI_ah hF hH h1 h2 hy, ?_, fun v hv => ?_, Nat.le_succ _, rfl, hs_c hc, hs_n nx⟩
  · unfold SI at hS
    show kilA (T 8) (T 0 1) (T 0 0 + 1) + T 0 3 + T 0 4 + sumN (T 6) (T 0 1) = x
    have e : kilA (T 8) (T 0 1) (T 0 0 + 1) = kilA (T 8) (T 0 1) (T 0 0) + kilH (T 8) (T 0 1) (T 0 0) := rfl
    have e0 : kilH (T 8) (T 0 1) (T 0 0) = 0 := sumN_all0 _ (fun v hv => h9 _ (Or.inl (by omega)))
    omega
  · have hv2 : v < T 0 1 := hv
    have h0 := hC v hv2
    show kilV (T 8) (T 0 0 + 1) v ≤ 40
    have e : kilV (T 8) (T 0 0 + 1) v = kilV (T 8) (T 0 0) v + T 8 (T 0 0 * 5 + v) := rfl
    have e0 : T 8 (T 0 0 * 5 + v) = 0 := h9 _ (Or.inl (by omega))
    omega
theorem AP_hv {T : Nat → Nat → Nat} {x cnt nx v n : Nat} (hF : FI T) (hS : SI T x) (hC : CI T) (hc : cnt ≤ 14) (hv : v < T 0 1) (hn : n ≤ 40) : AP T x (hvT T v n) (if cnt < 14 then cnt + 1 else cnt) ((nx + 1) % 14) := ⟨FI_hv hF hv hn, hS, hC, Nat.le_refl _, rfl, hs_c hc, hs_n nx⟩
theorem AP_lk {T : Nat → Nat → Nat} {x cnt nx h v n : Nat} (hF : FI T) (hS : SI T x) (hC : CI T) (hc : cnt ≤ 14) (hn : n ≤ 9) : AP T x (lkT T h v n) (if cnt < 14 then cnt + 1 else cnt) ((nx + 1) % 14) := ⟨FI_lk hF hn, hS, hC, Nat.le_refl _, rfl, hs_c hc, hs_n nx⟩
theorem AP_sk {T : Nat → Nat → Nat} {x cnt nx h z : Nat} (hF : FI T) (hS : SI T x) (hC : CI T) (hc : cnt ≤ 14) (hh : h < T 0 0) (hz : z ≤ 1) : AP T x (skT T h z) (if cnt < 14 then cnt + 1 else cnt) ((nx + 1) % 14) := ⟨FI_sk hF hh hz, hS, hC, Nat.le_refl _, rfl, hs_c hc, hs_n nx⟩
theorem AP_ow {T : Nat → Nat → Nat} {x cnt nx h z : Nat} (hF : FI T) (hS : SI T x) (hC : CI T) (hc : cnt ≤ 14) (hh : h < T 0 0) (hz : z ≤ 9) : AP T x (owT T h z) (if cnt < 14 then cnt + 1 else cnt) ((nx + 1) % 14) := ⟨FI_ow hF hh hz, hS, hC, Nat.le_refl _, rfl, hs_c hc, hs_n nx⟩
theorem AP_gv {T : Nat → Nat → Nat} {x cnt nx h v n : Nat} (hF : FI T) (hS : SI T x) (hC : CI T) (hc : cnt ≤ 14) (hh : h < T 0 0) (hv : v < T 0 1) (hn : n ≤ T 8 (h * 5 + v)) : AP T x (gvT T h v n) (if cnt < 14 then cnt + 1 else cnt) ((nx + 1) % 14) := ⟨FI_gv hF hh hv hn, SI_gv hF hS hh hv hn, CI_gv hF hC hh hv, Nat.le_refl _, rfl, hs_c hc, hs_n nx⟩
theorem hv_5 (T : Nat → Nat → Nat) (v n : Nat) : hvT T v n 5 v = n := by
  have e : hvT T v n 5 = va_up (T 5) v n := uq_s
  rw [e, up_s]
theorem lk_7 (T : Nat → Nat → Nat) (h v n : Nat) : lkT T h v n 7 (h * 5 + v) = n := by
  have e : lkT T h v n 7 = va_up (T 7) (h * 5 + v) n := uq_s
  rw [e, up_s]
theorem sk_4 (T : Nat → Nat → Nat) (h n : Nat) : skT T h n 4 h = n := by
  have e : skT T h n 4 = va_up (T 4) h n := uq_s
  rw [e, up_s]
theorem CI_8 {T : Nat → Nat → Nat} (hC : CI T) {h v : Nat} (hh : h < T 0 0) (hv : v < T 0 1) : T 8 (h * 5 + v) ≤ 40 := Nat.le_trans (kilV_cell hh) (hC v hv)
theorem nz_i {n : Nat} (h0 : 0 < n) (h : n < 2 ^ 31) : ¬ nI n = 0 := fun q => by
  have := cn_eq (b := 0) h (by decide) q
  omega
set_option maxRecDepth 20000 in
theorem w_299 : Cond.code yX8_addHouse cX8_addHouse 2 (some .int) ∈ wsL_law := List.mem_of_getElem? (i := 299) (by decide +kernel)
set_option maxRecDepth 20000 in
theorem w_296 : Cond.methodLink RL 44 yX8_addHouse ∈ wsL_law := List.mem_of_getElem? (i := 296) (by decide +kernel)
set_option maxRecDepth 20000 in
theorem w_297 : Cond.instanceMethod yX8_addHouse ∈ wsL_law := List.mem_of_getElem? (i := 297) (by decide +kernel)
set_option maxRecDepth 20000 in
theorem w_298 : Cond.selects RX8 yX8_addHouse yX8_addHouse ∈ wsL_law := List.mem_of_getElem? (i := 298) (by decide +kernel)
set_option maxRecDepth 20000 in
theorem w_369 : Cond.code yX8_setHarvest cX8_setHarvest 4 (some .int) ∈ wsL_law := List.mem_of_getElem? (i := 369) (by decide +kernel)
set_option maxRecDepth 20000 in
theorem w_366 : Cond.methodLink RL 47 yX8_setHarvest ∈ wsL_law := List.mem_of_getElem? (i := 366) (by decide +kernel)
set_option maxRecDepth 20000 in
theorem w_367 : Cond.instanceMethod yX8_setHarvest ∈ wsL_law := List.mem_of_getElem? (i := 367) (by decide +kernel)
set_option maxRecDepth 20000 in
theorem w_368 : Cond.selects RX8 yX8_setHarvest yX8_setHarvest ∈ wsL_law := List.mem_of_getElem? (i := 368) (by decide +kernel)
set_option maxRecDepth 20000 in
theorem w_385 : Cond.code yX8_setLiking cX8_setLiking 5 (some .int) ∈ wsL_law := List.mem_of_getElem? (i := 385) (by decide +kernel)
set_option maxRecDepth 20000 in
theorem w_382 : Cond.methodLink RL 50 yX8_setLiking ∈ wsL_law := List.mem_of_getElem? (i := 382) (by decide +kernel)
set_option maxRecDepth 20000 in
theorem w_383 : Cond.instanceMethod yX8_setLiking ∈ wsL_law := List.mem_of_getElem? (i := 383) (by decide +kernel)
set_option maxRecDepth 20000 in
theorem w_384 : Cond.selects RX8 yX8_setLiking yX8_setLiking ∈ wsL_law := List.mem_of_getElem? (i := 384) (by decide +kernel)
set_option maxRecDepth 20000 in
theorem w_389 : Cond.code yX8_skip cX8_skip 3 (some .int) ∈ wsL_law := List.mem_of_getElem? (i := 389) (by decide +kernel)
set_option maxRecDepth 20000 in
theorem w_386 : Cond.methodLink RL 54 yX8_skip ∈ wsL_law := List.mem_of_getElem? (i := 386) (by decide +kernel)
set_option maxRecDepth 20000 in
theorem w_387 : Cond.instanceMethod yX8_skip ∈ wsL_law := List.mem_of_getElem? (i := 387) (by decide +kernel)
set_option maxRecDepth 20000 in
theorem w_388 : Cond.selects RX8 yX8_skip yX8_skip ∈ wsL_law := List.mem_of_getElem? (i := 388) (by decide +kernel)
set_option maxRecDepth 20000 in
theorem w_402 : Cond.code yX8_returnCrates cX8_returnCrates 3 (some .int) ∈ wsL_law := List.mem_of_getElem? (i := 402) (by decide +kernel)
set_option maxRecDepth 20000 in
theorem w_399 : Cond.methodLink RL 58 yX8_returnCrates ∈ wsL_law := List.mem_of_getElem? (i := 399) (by decide +kernel)
set_option maxRecDepth 20000 in
theorem w_400 : Cond.instanceMethod yX8_returnCrates ∈ wsL_law := List.mem_of_getElem? (i := 400) (by decide +kernel)
set_option maxRecDepth 20000 in
theorem w_401 : Cond.selects RX8 yX8_returnCrates yX8_returnCrates ∈ wsL_law := List.mem_of_getElem? (i := 401) (by decide +kernel)
set_option maxRecDepth 20000 in
theorem w_411 : Cond.code yX8_give cX8_give 4 (some .int) ∈ wsL_law := List.mem_of_getElem? (i := 411) (by decide +kernel)
set_option maxRecDepth 20000 in
theorem w_408 : Cond.methodLink RL 61 yX8_give ∈ wsL_law := List.mem_of_getElem? (i := 408) (by decide +kernel)
set_option maxRecDepth 20000 in
theorem w_409 : Cond.instanceMethod yX8_give ∈ wsL_law := List.mem_of_getElem? (i := 409) (by decide +kernel)
set_option maxRecDepth 20000 in
theorem w_410 : Cond.selects RX8 yX8_give yX8_give ∈ wsL_law := List.mem_of_getElem? (i := 410) (by decide +kernel)
theorem hdV_X8_addHouse : yX8_addHouse.cls = RX8 ∧ yX8_addHouse.cls ≠ "java/lang/invoke/MethodHandle" ∧ yX8_addHouse.cls ≠ "java/lang/invoke/VarHandle" ∧ (parseMethodDescriptor yX8_addHouse.desc).map (fun d => d.parameters.length) = some 1 := by decide +kernel
theorem hdV_X8_setHarvest : yX8_setHarvest.cls = RX8 ∧ yX8_setHarvest.cls ≠ "java/lang/invoke/MethodHandle" ∧ yX8_setHarvest.cls ≠ "java/lang/invoke/VarHandle" ∧ (parseMethodDescriptor yX8_setHarvest.desc).map (fun d => d.parameters.length) = some 2 := by decide +kernel
theorem hdV_X8_setLiking : yX8_setLiking.cls = RX8 ∧ yX8_setLiking.cls ≠ "java/lang/invoke/MethodHandle" ∧ yX8_setLiking.cls ≠ "java/lang/invoke/VarHandle" ∧ (parseMethodDescriptor yX8_setLiking.desc).map (fun d => d.parameters.length) = some 3 := by decide +kernel
theorem hdV_X8_skip : yX8_skip.cls = RX8 ∧ yX8_skip.cls ≠ "java/lang/invoke/MethodHandle" ∧ yX8_skip.cls ≠ "java/lang/invoke/VarHandle" ∧ (parseMethodDescriptor yX8_skip.desc).map (fun d => d.parameters.length) = some 2 := by decide +kernel
theorem hdV_X8_returnCrates : yX8_returnCrates.cls = RX8 ∧ yX8_returnCrates.cls ≠ "java/lang/invoke/MethodHandle" ∧ yX8_returnCrates.cls ≠ "java/lang/invoke/VarHandle" ∧ (parseMethodDescriptor yX8_returnCrates.desc).map (fun d => d.parameters.length) = some 2 := by decide +kernel
theorem hdV_X8_give : yX8_give.cls = RX8 ∧ yX8_give.cls ≠ "java/lang/invoke/MethodHandle" ∧ yX8_give.cls ≠ "java/lang/invoke/VarHandle" ∧ (parseMethodDescriptor yX8_give.desc).map (fun d => d.parameters.length) = some 3 := by decide +kernel
set_option maxHeartbeats 4000000 in
set_option maxRecDepth 100000 in
theorem c_L_acts (l : Launch) (D : va_G) (cI cZ cF cL : ClassId) (rx : Nat) (tt a tr : Nat → Nat) (r3 rs rz : Nat) (b : Nat → Nat) (b0 s0 r5 r6 : Nat) (ra : Nat) (pa : Nat → Nat → Nat) (cnt nx : Nat) (Ts : Nat → Nat → Nat → Nat) (T : Nat → Nat → Nat) (kn kw : Int32) (x y : Nat) (hc : cnt ≤ 14) (hn : nx < 14) (hT : FI T) (hSI : SI T x) (hCI : CI T) (hH0 : 0 < T 0 0) (hV0 : 0 < T 0 1) (hy : y < 2 ^ 31) : CT l D (tysX cI cZ cF cL) yL_acts (wA yL_acts cL_acts 7 (some .boolean)) (rmF 4 126) [.ref rx, .int (nI y)] (xX rx tt a tr r3 rs rz b b0 s0 r5 r6 ++ hX cF r3 ra pa cnt nx ++ fX cI a (T 0 0) (T 0 1) (T 0 2) (T 0 3) (T 0 4) (T 0 5) (T 1) (T 2) (T 3) (T 4) (T 5) (T 6) (T 7) (T 8) ++ bX b0 kn kw ++ fsB cI pa Ts 14) (some (.int (if True then 1 else 0))) (fun u : {u : (Nat → Nat → Nat) × Nat × Nat × (Nat → Nat → Nat → Nat) // AP T x u.1 u.2.1 u.2.2.1} => (xX rx tt a tr r3 rs rz b b0 s0 r5 r6 ++ hX cF r3 ra pa u.1.2.1 u.1.2.2.1 ++ fX cI a (u.1.1 0 0) (u.1.1 0 1) (u.1.1 0 2) (u.1.1 0 3) (u.1.1 0 4) (u.1.1 0 5) (u.1.1 1) (u.1.1 2) (u.1.1 3) (u.1.1 4) (u.1.1 5) (u.1.1 6) (u.1.1 7) (u.1.1 8) ++ bX b0 kn kw ++ fsB cI pa u.1.2.2.2 14)) := by
  refine ct_in (cc := cL_acts) (maxL := 7) (ret := (some .boolean)) (own := RL) (lv := [(0, .ref rx), (1, .int (nI y))]) (by decide +kernel) rfl rfl (Nat.le_of_ble_eq_true rfl) rfl ?_
  intro p e s m args below meth c A ls hx hb hr hml hts hown hlocks hK hA hP hD hS hl
  refine lv_iload_n hx hb dL_acts_0 rfl (lv_at hl 1 rfl) ?_
  refine lv_iconst (v := (nI 3)) hx hb dL_acts_1 (by decide) ?_
  refine lv_ishr hx hb dL_acts_2 ?_
  rw [show nI y >>> ((nI 3) &&& 31) = nI (y / 8) from pk_shrN (by omega) ((nI 3) &&& 31) 3 (by decide +kernel)]
  refine lv_istore_n (lv' := [(2, .int (nI (y / 8))), (0, .ref rx), (1, .int (nI y))]) hx hb dL_acts_3 rfl hl (by decide) rfl (fun ls hl => ?_)
  refine lv_iload_n hx hb dL_acts_4 rfl (lv_at hl 0 rfl) ?_
  refine lv_aload_n hx hb dL_acts_5 rfl (lv_at hl 1 rfl) ?_
  refine lv_iconst (v := (nI 0)) hx hb dL_acts_6 (by decide) ?_
  refine gp_V (ci := 8) (q0 := 0) (cq := (RX8, TX8, 11)) (c_X8_about l D cI cZ cF cL rx tt a tr r3 rs rz b b0 s0 r5 r6 T 0 hT (by omega)) (gUV w_320 w_321 w_322 w_2 w_323) rfl hdV_X8_about ⟨Nat.le_of_ble_eq_true rfl, Nat.le_of_ble_eq_true rfl⟩ ⟨rfl, rfl⟩ hx hb hml hown hts hK hA hP hD hS hl.1 ⟨Nat.le_of_ble_eq_true rfl, Nat.le_of_ble_eq_true rfl⟩ rfl rfl rfl (wr := (hX cF r3 ra pa cnt nx ++ bX b0 kn kw ++ fsB cI pa Ts 14)) (pm_cnt (fun _ => by simp only [List.countP_append, List.countP_nil, fT] <;> omega)) (fun _ => by simp only [List.map_append, List.map_nil, fX_m, bX_m, sX_m, pX_m, iaX_m, r5X_m, r6X_m, fT_m, hX_m, tX_m, xX_m, sgX_m, zaX_m, fsB_a]) (rest := [.int (nI (y / 8))]) rfl rfl (Nat.le_of_ble_eq_true rfl) dL_acts_7 (ws2 := (fun _ : Unit => (xX rx tt a tr r3 rs rz b b0 s0 r5 r6 ++ hX cF r3 ra pa cnt nx ++ fX cI a (T 0 0) (T 0 1) (T 0 2) (T 0 3) (T 0 4) (T 0 5) (T 1) (T 2) (T 3) (T 4) (T 5) (T 6) (T 7) (T 8) ++ bX b0 kn kw ++ fsB cI pa Ts 14))) (fun _ => (pm_cnt (fun _ => by simp only [List.countP_append, List.countP_nil, fT] <;> omega))) (fun _ Hp locs hP hD hS => ?_)
  rw [show (nI (abV T 0)) = (nI (T 0 0)) from rfl]
  refine lv_irem hx hb dL_acts_10 (nz_i hH0 (by have := hT.1.1; omega)) ?_
  rw [pk_rem (a := y / 8) (d := T 0 0) (by omega) hH0 (by have := hT.1.1; omega)]
  refine lv_istore_n (lv' := [(3, .int (nI ((y / 8) % (T 0 0)))), (2, .int (nI (y / 8))), (0, .ref rx), (1, .int (nI y))]) hx hb dL_acts_11 rfl hl (by decide) rfl (fun ls hl => ?_)
  refine lv_iload_n hx hb dL_acts_12 rfl (lv_at hl 1 rfl) ?_
  refine lv_iconst (v := (nI 4)) hx hb dL_acts_13 (by decide) ?_
  refine lv_ishr hx hb dL_acts_14 ?_
  rw [show nI (y / 8) >>> ((nI 4) &&& 31) = nI ((y / 8) / 16) from pk_shrN (by omega) ((nI 4) &&& 31) 4 (by decide +kernel)]
  refine lv_aload_n hx hb dL_acts_15 rfl (lv_at hl 2 rfl) ?_
  refine lv_iconst (v := (nI 1)) hx hb dL_acts_16 (by decide) ?_
  refine gp_V (ci := 8) (q0 := 0) (cq := (RX8, TX8, 11)) (c_X8_about l D cI cZ cF cL rx tt a tr r3 rs rz b b0 s0 r5 r6 T 1 hT (by omega)) (gUV w_320 w_321 w_322 w_2 w_323) rfl hdV_X8_about ⟨Nat.le_of_ble_eq_true rfl, Nat.le_of_ble_eq_true rfl⟩ ⟨rfl, rfl⟩ hx hb hml hown hts hK hA hP hD hS hl.1 ⟨Nat.le_of_ble_eq_true rfl, Nat.le_of_ble_eq_true rfl⟩ rfl rfl rfl (wr := (hX cF r3 ra pa cnt nx ++ bX b0 kn kw ++ fsB cI pa Ts 14)) (pm_cnt (fun _ => by simp only [List.countP_append, List.countP_nil, fT] <;> omega)) (fun _ => by simp only [List.map_append, List.map_nil, fX_m, bX_m, sX_m, pX_m, iaX_m, r5X_m, r6X_m, fT_m, hX_m, tX_m, xX_m, sgX_m, zaX_m, fsB_a]) (rest := [.int (nI ((y / 8) / 16))]) rfl rfl (Nat.le_of_ble_eq_true rfl) dL_acts_17 (ws2 := (fun _ : Unit => (xX rx tt a tr r3 rs rz b b0 s0 r5 r6 ++ hX cF r3 ra pa cnt nx ++ fX cI a (T 0 0) (T 0 1) (T 0 2) (T 0 3) (T 0 4) (T 0 5) (T 1) (T 2) (T 3) (T 4) (T 5) (T 6) (T 7) (T 8) ++ bX b0 kn kw ++ fsB cI pa Ts 14))) (fun _ => (pm_cnt (fun _ => by simp only [List.countP_append, List.countP_nil, fT] <;> omega))) (fun _ Hp locs hP hD hS => ?_)
  rw [show (nI (abV T 1)) = (nI (T 0 1)) from rfl]
  refine lv_irem hx hb dL_acts_20 (nz_i hV0 (by have := hT.1.2; omega)) ?_
  rw [pk_rem (a := (y / 8) / 16) (d := T 0 1) (by omega) hV0 (by have := hT.1.2; omega)]
  refine lv_istore (lv' := [(4, .int (nI (((y / 8) / 16) % (T 0 1)))), (3, .int (nI ((y / 8) % (T 0 0)))), (2, .int (nI (y / 8))), (0, .ref rx), (1, .int (nI y))]) hx hb dL_acts_21 hl (by decide) rfl (fun ls hl => ?_)
  obtain ⟨z, ez⟩ : ∃ z, z = y / 8 := ⟨_, rfl⟩
  obtain ⟨h, eh⟩ : ∃ h, h = y / 8 % T 0 0 := ⟨_, rfl⟩
  obtain ⟨v, ev⟩ : ∃ v, v = y / 8 / 16 % T 0 1 := ⟨_, rfl⟩
  have hz9 : z < 2 ^ 31 := by omega
  have hh : h < T 0 0 := by rw [eh]; exact Nat.mod_lt _ hH0
  have hv : v < T 0 1 := by rw [ev]; exact Nat.mod_lt _ hV0
  have hH6 := hT.1.1
  have hV5 := hT.1.2
  obtain ⟨g1, g2, g3, g4, g5, g6⟩ := hT.2.1 h (by omega)
  rw [show (nI (((y / 8) / 16) % (T 0 1))) = (nI v) from congrArg nI ev.symm] at hl
  rw [show (nI ((y / 8) % (T 0 0))) = (nI h) from congrArg nI eh.symm] at hl
  rw [show (nI (y / 8)) = (nI z) from congrArg nI ez.symm] at hl
  refine lv_iload_n hx hb dL_acts_23 rfl (lv_at hl 4 rfl) ?_
  refine lv_bipush (v := (nI 7)) hx hb dL_acts_24 (by decide) ?_
  refine lv_iand hx hb dL_acts_26 ?_
  rw [show nI y &&& nI 7 = nI (y % 8) from pk_andN (m := nI 7) (by omega) 3 (by decide +kernel)]
  by_cases c_27_0 : (nI (y % 8)) = nI 0
  · skip
    refine lv_tableIn (off := 41) (tgt := 68) hx hb dL_acts_27 (by rw [c_27_0]; decide +kernel) (by rw [c_27_0]; decide +kernel) (by rw [c_27_0]; decide +kernel) (by decide) ?_
    refine lv_aload_n hx hb dL_acts_68 rfl (lv_at hl 3 rfl) ?_
    refine lv_iconst (v := (nI 0)) hx hb dL_acts_69 (by decide) ?_
    refine gp_V (ci := 8) (q0 := 0) (cq := (RX8, TX8, 11)) (c_X8_about l D cI cZ cF cL rx tt a tr r3 rs rz b b0 s0 r5 r6 T 0 hT (by omega)) (gUV w_320 w_321 w_322 w_2 w_323) rfl hdV_X8_about ⟨Nat.le_of_ble_eq_true rfl, Nat.le_of_ble_eq_true rfl⟩ ⟨rfl, rfl⟩ hx hb hml hown hts hK hA hP hD hS hl.1 ⟨Nat.le_of_ble_eq_true rfl, Nat.le_of_ble_eq_true rfl⟩ rfl rfl rfl (wr := (hX cF r3 ra pa cnt nx ++ bX b0 kn kw ++ fsB cI pa Ts 14)) (pm_cnt (fun _ => by simp only [List.countP_append, List.countP_nil, fT] <;> omega)) (fun _ => by simp only [List.map_append, List.map_nil, fX_m, bX_m, sX_m, pX_m, iaX_m, r5X_m, r6X_m, fT_m, hX_m, tX_m, xX_m, sgX_m, zaX_m, fsB_a]) (rest := []) rfl rfl (Nat.le_of_ble_eq_true rfl) dL_acts_70 (ws2 := (fun _ : Unit => (xX rx tt a tr r3 rs rz b b0 s0 r5 r6 ++ hX cF r3 ra pa cnt nx ++ fX cI a (T 0 0) (T 0 1) (T 0 2) (T 0 3) (T 0 4) (T 0 5) (T 1) (T 2) (T 3) (T 4) (T 5) (T 6) (T 7) (T 8) ++ bX b0 kn kw ++ fsB cI pa Ts 14))) (fun _ => (pm_cnt (fun _ => by simp only [List.countP_append, List.countP_nil, fT] <;> omega))) (fun _ Hp locs hP hD hS => ?_)
    rw [show (nI (abV T 0)) = (nI (T 0 0)) from rfl]
    refine lv_bipush (v := (nI 6)) hx hb dL_acts_73 (by decide) ?_
    refine lv_icmp_eq (tgt := 97) hx hb dL_acts_75 (by decide) (fun c_75 => ?_) (fun c_75 => ?_)
    · skip
      replace c_75 := cn_eq (by omega) (by omega) c_75
      refine lv_iconst (v := (nI 1)) hx hb dL_acts_97 (by decide) ?_
      refine lv_goto (tgt := 102) hx hb dL_acts_98 (by decide) ?_
      exact ct_z ⟨(T, cnt, nx, Ts), (AP_id hT hSI hCI hc hn)⟩ hx hb hr hlocks hP hS (z_t trivial) dL_acts_102
    · skip
      replace c_75 := cn_ne c_75
      refine lv_aload_n hx hb dL_acts_78 rfl (lv_at hl 3 rfl) ?_
      refine lv_iconst (v := (nI 1)) hx hb dL_acts_79 (by decide) ?_
      refine lv_iload_n hx hb dL_acts_80 rfl (lv_at hl 2 rfl) ?_
      refine lv_iconst (v := (nI 4)) hx hb dL_acts_81 (by decide) ?_
      refine lv_irem hx hb dL_acts_82 (by decide) ?_
      rw [pk_rem (a := z) (d := 4) (by omega) (by omega) (by omega)]
      refine lv_iadd hx hb dL_acts_83 ?_
      rw [nI_add 1 (z % 4)]
      refine gp_V (ci := 8) (q0 := 0) (cq := (RX8, TX8, 11)) (c_X8_addHouse l D cI cZ cF cL rx tt a tr r3 rs rz b b0 s0 r5 r6 ra pa cnt nx Ts T (1 + (z % 4)) hc hn hT (by omega) (by omega) (by omega)) (gUV w_296 w_297 w_298 w_2 w_299) rfl hdV_X8_addHouse ⟨Nat.le_of_ble_eq_true rfl, Nat.le_of_ble_eq_true rfl⟩ ⟨rfl, rfl⟩ hx hb hml hown hts hK hA hP hD hS hl.1 ⟨Nat.le_of_ble_eq_true rfl, Nat.le_of_ble_eq_true rfl⟩ rfl rfl rfl (wr := (bX b0 kn kw)) (pm_cnt (fun _ => by simp only [List.countP_append, List.countP_nil, fT] <;> omega)) (fun _ => by simp only [List.map_append, List.map_nil, fX_m, bX_m, sX_m, pX_m, iaX_m, r5X_m, r6X_m, fT_m, hX_m, tX_m, xX_m, sgX_m, zaX_m, fsB_a]) (rest := []) rfl rfl (Nat.le_of_ble_eq_true rfl) dL_acts_84 (ws2 := (fun _ : Unit => (xX rx tt a tr r3 rs rz b b0 s0 r5 r6 ++ hX cF r3 ra pa (if cnt < 14 then cnt + 1 else cnt) ((nx + 1) % 14) ++ fX cI a ((ahT T (1 + (z % 4)) 0) 0 0) ((ahT T (1 + (z % 4)) 0) 0 1) ((ahT T (1 + (z % 4)) 0) 0 2) ((ahT T (1 + (z % 4)) 0) 0 3) ((ahT T (1 + (z % 4)) 0) 0 4) ((ahT T (1 + (z % 4)) 0) 0 5) ((ahT T (1 + (z % 4)) 0) 1) ((ahT T (1 + (z % 4)) 0) 2) ((ahT T (1 + (z % 4)) 0) 3) ((ahT T (1 + (z % 4)) 0) 4) ((ahT T (1 + (z % 4)) 0) 5) ((ahT T (1 + (z % 4)) 0) 6) ((ahT T (1 + (z % 4)) 0) 7) ((ahT T (1 + (z % 4)) 0) 8) ++ bX b0 kn kw ++ fsB cI pa (va_up Ts nx T) 14))) (fun _ => (pm_cnt (fun _ => by simp only [List.countP_append, List.countP_nil, fT] <;> omega))) (fun _ Hp locs hP hD hS => ?_)
      refine lv_aload_n hx hb dL_acts_87 rfl (lv_at hl 3 rfl) ?_
      refine lv_iconst (v := (nI 0)) hx hb dL_acts_88 (by decide) ?_
      refine gp_V (ci := 8) (q0 := 0) (cq := (RX8, TX8, 11)) (c_X8_about l D cI cZ cF cL rx tt a tr r3 rs rz b b0 s0 r5 r6 (ahT T (1 + (z % 4)) 0) 0 (FI_ah hT (by omega) (by omega) (by omega) (by omega)) (by omega)) (gUV w_320 w_321 w_322 w_2 w_323) rfl hdV_X8_about ⟨Nat.le_of_ble_eq_true rfl, Nat.le_of_ble_eq_true rfl⟩ ⟨rfl, rfl⟩ hx hb hml hown hts hK hA hP hD hS hl.1 ⟨Nat.le_of_ble_eq_true rfl, Nat.le_of_ble_eq_true rfl⟩ rfl rfl rfl (wr := (hX cF r3 ra pa (if cnt < 14 then cnt + 1 else cnt) ((nx + 1) % 14) ++ bX b0 kn kw ++ fsB cI pa (va_up Ts nx T) 14)) (pm_cnt (fun _ => by simp only [List.countP_append, List.countP_nil, fT] <;> omega)) (fun _ => by simp only [List.map_append, List.map_nil, fX_m, bX_m, sX_m, pX_m, iaX_m, r5X_m, r6X_m, fT_m, hX_m, tX_m, xX_m, sgX_m, zaX_m, fsB_a]) (rest := [.int (nI (T 0 0))]) rfl rfl (Nat.le_of_ble_eq_true rfl) dL_acts_89 (ws2 := (fun _ : Unit => (xX rx tt a tr r3 rs rz b b0 s0 r5 r6 ++ hX cF r3 ra pa (if cnt < 14 then cnt + 1 else cnt) ((nx + 1) % 14) ++ fX cI a ((ahT T (1 + (z % 4)) 0) 0 0) ((ahT T (1 + (z % 4)) 0) 0 1) ((ahT T (1 + (z % 4)) 0) 0 2) ((ahT T (1 + (z % 4)) 0) 0 3) ((ahT T (1 + (z % 4)) 0) 0 4) ((ahT T (1 + (z % 4)) 0) 0 5) ((ahT T (1 + (z % 4)) 0) 1) ((ahT T (1 + (z % 4)) 0) 2) ((ahT T (1 + (z % 4)) 0) 3) ((ahT T (1 + (z % 4)) 0) 4) ((ahT T (1 + (z % 4)) 0) 5) ((ahT T (1 + (z % 4)) 0) 6) ((ahT T (1 + (z % 4)) 0) 7) ((ahT T (1 + (z % 4)) 0) 8) ++ bX b0 kn kw ++ fsB cI pa (va_up Ts nx T) 14))) (fun _ => (pm_cnt (fun _ => by simp only [List.countP_append, List.countP_nil, fT] <;> omega))) (fun _ Hp locs hP hD hS => ?_)
      rw [show (nI (abV (ahT T (1 + (z % 4)) 0) 0)) = (nI (T 0 0 + 1)) from rfl]
      refine lv_iconst (v := (nI 1)) hx hb dL_acts_92 (by decide) ?_
      refine lv_isub hx hb dL_acts_93 ?_
      rw [pk_sub (a := T 0 0 + 1) (b := 1) (by omega)]
      refine lv_icmp_ne (tgt := 101) hx hb dL_acts_94 (by decide) (fun c_94 => ?_) (fun c_94 => ?_)
      · skip
        exact absurd (congrArg nI (by omega)) c_94
      · skip
        refine lv_iconst (v := (nI 1)) hx hb dL_acts_97 (by decide) ?_
        refine lv_goto (tgt := 102) hx hb dL_acts_98 (by decide) ?_
        exact ct_z ⟨(ahT T (1 + (z % 4)) 0, if cnt < 14 then cnt + 1 else cnt, (nx + 1) % 14, va_up Ts nx T), (AP_ah hT hSI hCI hc (by omega) (by omega) (by omega) (by omega))⟩ hx hb hr hlocks hP hS (z_t trivial) dL_acts_102
  by_cases c_27_1 : (nI (y % 8)) = nI 1
  · skip
    refine lv_tableIn (off := 76) (tgt := 103) hx hb dL_acts_27 (by rw [c_27_1]; decide +kernel) (by rw [c_27_1]; decide +kernel) (by rw [c_27_1]; decide +kernel) (by decide) ?_
    refine lv_aload_n hx hb dL_acts_103 rfl (lv_at hl 3 rfl) ?_
    refine lv_iload hx hb dL_acts_104 (lv_at hl 0 rfl) ?_
    refine lv_iconst (v := (nI 0)) hx hb dL_acts_106 (by decide) ?_
    refine gp_V (ci := 8) (q0 := 0) (cq := (RX8, TX8, 11)) (c_X8_vegetable l D cI cZ cF cL rx tt a tr r3 rs rz b b0 s0 r5 r6 T kn kw v 0 hT (by omega) (by omega)) (gUV w_341 w_342 w_343 w_2 w_344) rfl hdV_X8_vegetable ⟨Nat.le_of_ble_eq_true rfl, Nat.le_of_ble_eq_true rfl⟩ ⟨rfl, rfl⟩ hx hb hml hown hts hK hA hP hD hS hl.1 ⟨Nat.le_of_ble_eq_true rfl, Nat.le_of_ble_eq_true rfl⟩ rfl rfl rfl (wr := (hX cF r3 ra pa cnt nx ++ fsB cI pa Ts 14)) (pm_cnt (fun _ => by simp only [List.countP_append, List.countP_nil, fT] <;> omega)) (fun _ => by simp only [List.map_append, List.map_nil, fX_m, bX_m, sX_m, pX_m, iaX_m, r5X_m, r6X_m, fT_m, hX_m, tX_m, xX_m, sgX_m, zaX_m, fsB_a]) (rest := []) rfl rfl (Nat.le_of_ble_eq_true rfl) dL_acts_107 (ws2 := (fun _ : Unit => (xX rx tt a tr r3 rs rz b b0 s0 r5 r6 ++ hX cF r3 ra pa cnt nx ++ fX cI a (T 0 0) (T 0 1) (T 0 2) (T 0 3) (T 0 4) (T 0 5) (T 1) (T 2) (T 3) (T 4) (T 5) (T 6) (T 7) (T 8) ++ bX b0 (if 0 = 3 then (fonF T v kw (T 0 0)).1 else kn) (if 0 = 3 then (fonF T v kw (T 0 0)).2 else kw) ++ fsB cI pa Ts 14))) (fun _ => (pm_cnt (fun _ => by simp only [List.countP_append, List.countP_nil, fT] <;> omega))) (fun _ Hp locs hP hD hS => ?_)
    rw [show (veV T v kw 0) = (nI (T 5 v)) from rfl]
    have hP : va_P D vwCl (xX rx tt a tr r3 rs rz b b0 s0 r5 r6 ++ hX cF r3 ra pa cnt nx ++ fX cI a (T 0 0) (T 0 1) (T 0 2) (T 0 3) (T 0 4) (T 0 5) (T 1) (T 2) (T 3) (T 4) (T 5) (T 6) (T 7) (T 8) ++ bX b0 kn kw ++ fsB cI pa Ts 14) _ := hP
    have hD : va_D A (xX rx tt a tr r3 rs rz b b0 s0 r5 r6 ++ hX cF r3 ra pa cnt nx ++ fX cI a (T 0 0) (T 0 1) (T 0 2) (T 0 3) (T 0 4) (T 0 5) (T 1) (T 2) (T 3) (T 4) (T 5) (T 6) (T 7) (T 8) ++ bX b0 kn kw ++ fsB cI pa Ts 14) := hD
    refine lv_istore (lv' := [(5, .int (nI (T 5 v))), (4, .int (nI v)), (3, .int (nI h)), (2, .int (nI z)), (0, .ref rx), (1, .int (nI y))]) hx hb dL_acts_110 hl (by decide) rfl (fun ls hl => ?_)
    refine lv_aload_n hx hb dL_acts_112 rfl (lv_at hl 4 rfl) ?_
    refine lv_iload hx hb dL_acts_113 (lv_at hl 1 rfl) ?_
    refine lv_iload_n hx hb dL_acts_115 rfl (lv_at hl 3 rfl) ?_
    refine lv_bipush (v := (nI 9)) hx hb dL_acts_116 (by decide) ?_
    refine lv_ishr hx hb dL_acts_118 ?_
    rw [show nI z >>> ((nI 9) &&& 31) = nI (z / 512) from pk_shrN (by omega) ((nI 9) &&& 31) 9 (by decide +kernel)]
    refine lv_bipush (v := (nI 41)) hx hb dL_acts_119 (by decide) ?_
    refine lv_irem hx hb dL_acts_121 (by decide) ?_
    rw [pk_rem (a := z / 512) (d := 41) (by omega) (by omega) (by omega)]
    refine gp_V (ci := 8) (q0 := 0) (cq := (RX8, TX8, 11)) (c_X8_setHarvest l D cI cZ cF cL rx tt a tr r3 rs rz b b0 s0 r5 r6 ra pa cnt nx Ts T v ((z / 512) % 41) hc hn hT (by omega) (by omega)) (gUV w_366 w_367 w_368 w_2 w_369) rfl hdV_X8_setHarvest ⟨Nat.le_of_ble_eq_true rfl, Nat.le_of_ble_eq_true rfl⟩ ⟨rfl, rfl⟩ hx hb hml hown hts hK hA hP hD hS hl.1 ⟨Nat.le_of_ble_eq_true rfl, Nat.le_of_ble_eq_true rfl⟩ rfl rfl rfl (wr := (bX b0 kn kw)) (pm_cnt (fun _ => by simp only [List.countP_append, List.countP_nil, fT] <;> omega)) (fun _ => by simp only [List.map_append, List.map_nil, fX_m, bX_m, sX_m, pX_m, iaX_m, r5X_m, r6X_m, fT_m, hX_m, tX_m, xX_m, sgX_m, zaX_m, fsB_a]) (rest := []) rfl rfl (Nat.le_of_ble_eq_true rfl) dL_acts_122 (ws2 := (fun _ : Unit => (xX rx tt a tr r3 rs rz b b0 s0 r5 r6 ++ hX cF r3 ra pa (if cnt < 14 then cnt + 1 else cnt) ((nx + 1) % 14) ++ fX cI a ((hvT T v ((z / 512) % 41)) 0 0) ((hvT T v ((z / 512) % 41)) 0 1) ((hvT T v ((z / 512) % 41)) 0 2) ((hvT T v ((z / 512) % 41)) 0 3) ((hvT T v ((z / 512) % 41)) 0 4) ((hvT T v ((z / 512) % 41)) 0 5) ((hvT T v ((z / 512) % 41)) 1) ((hvT T v ((z / 512) % 41)) 2) ((hvT T v ((z / 512) % 41)) 3) ((hvT T v ((z / 512) % 41)) 4) ((hvT T v ((z / 512) % 41)) 5) ((hvT T v ((z / 512) % 41)) 6) ((hvT T v ((z / 512) % 41)) 7) ((hvT T v ((z / 512) % 41)) 8) ++ bX b0 kn kw ++ fsB cI pa (va_up Ts nx T) 14))) (fun _ => (pm_cnt (fun _ => by simp only [List.countP_append, List.countP_nil, fT] <;> omega))) (fun _ Hp locs hP hD hS => ?_)
    refine lv_iload hx hb dL_acts_125 (lv_at hl 0 rfl) ?_
    refine lv_icmp_ne (tgt := 151) hx hb dL_acts_127 (by decide) (fun c_127 => ?_) (fun c_127 => ?_)
    · skip
      exact absurd rfl c_127
    · skip
      refine lv_aload_n hx hb dL_acts_130 rfl (lv_at hl 4 rfl) ?_
      refine lv_iload hx hb dL_acts_131 (lv_at hl 1 rfl) ?_
      refine lv_iconst (v := (nI 0)) hx hb dL_acts_133 (by decide) ?_
      refine gp_V (ci := 8) (q0 := 0) (cq := (RX8, TX8, 11)) (c_X8_vegetable l D cI cZ cF cL rx tt a tr r3 rs rz b b0 s0 r5 r6 (hvT T v ((z / 512) % 41)) kn kw v 0 (FI_hv hT hv (by omega)) hv (by omega)) (gUV w_341 w_342 w_343 w_2 w_344) rfl hdV_X8_vegetable ⟨Nat.le_of_ble_eq_true rfl, Nat.le_of_ble_eq_true rfl⟩ ⟨rfl, rfl⟩ hx hb hml hown hts hK hA hP hD hS hl.1 ⟨Nat.le_of_ble_eq_true rfl, Nat.le_of_ble_eq_true rfl⟩ rfl rfl rfl (wr := (hX cF r3 ra pa (if cnt < 14 then cnt + 1 else cnt) ((nx + 1) % 14) ++ fsB cI pa (va_up Ts nx T) 14)) (pm_cnt (fun _ => by simp only [List.countP_append, List.countP_nil, fT] <;> omega)) (fun _ => by simp only [List.map_append, List.map_nil, fX_m, bX_m, sX_m, pX_m, iaX_m, r5X_m, r6X_m, fT_m, hX_m, tX_m, xX_m, sgX_m, zaX_m, fsB_a]) (rest := []) rfl rfl (Nat.le_of_ble_eq_true rfl) dL_acts_134 (ws2 := (fun _ : Unit => (xX rx tt a tr r3 rs rz b b0 s0 r5 r6 ++ hX cF r3 ra pa (if cnt < 14 then cnt + 1 else cnt) ((nx + 1) % 14) ++ fX cI a ((hvT T v ((z / 512) % 41)) 0 0) ((hvT T v ((z / 512) % 41)) 0 1) ((hvT T v ((z / 512) % 41)) 0 2) ((hvT T v ((z / 512) % 41)) 0 3) ((hvT T v ((z / 512) % 41)) 0 4) ((hvT T v ((z / 512) % 41)) 0 5) ((hvT T v ((z / 512) % 41)) 1) ((hvT T v ((z / 512) % 41)) 2) ((hvT T v ((z / 512) % 41)) 3) ((hvT T v ((z / 512) % 41)) 4) ((hvT T v ((z / 512) % 41)) 5) ((hvT T v ((z / 512) % 41)) 6) ((hvT T v ((z / 512) % 41)) 7) ((hvT T v ((z / 512) % 41)) 8) ++ bX b0 (if 0 = 3 then (fonF (hvT T v ((z / 512) % 41)) v kw ((hvT T v ((z / 512) % 41)) 0 0)).1 else kn) (if 0 = 3 then (fonF (hvT T v ((z / 512) % 41)) v kw ((hvT T v ((z / 512) % 41)) 0 0)).2 else kw) ++ fsB cI pa (va_up Ts nx T) 14))) (fun _ => (pm_cnt (fun _ => by simp only [List.countP_append, List.countP_nil, fT] <;> omega))) (fun _ Hp locs hP hD hS => ?_)
      rw [show (veV (hvT T v ((z / 512) % 41)) v kw 0) = (nI (z / 512 % 41)) from congrArg nI (hv_5 T v (z / 512 % 41))]
      have hP : va_P D vwCl (xX rx tt a tr r3 rs rz b b0 s0 r5 r6 ++ hX cF r3 ra pa (if cnt < 14 then cnt + 1 else cnt) ((nx + 1) % 14) ++ fX cI a ((hvT T v ((z / 512) % 41)) 0 0) ((hvT T v ((z / 512) % 41)) 0 1) ((hvT T v ((z / 512) % 41)) 0 2) ((hvT T v ((z / 512) % 41)) 0 3) ((hvT T v ((z / 512) % 41)) 0 4) ((hvT T v ((z / 512) % 41)) 0 5) ((hvT T v ((z / 512) % 41)) 1) ((hvT T v ((z / 512) % 41)) 2) ((hvT T v ((z / 512) % 41)) 3) ((hvT T v ((z / 512) % 41)) 4) ((hvT T v ((z / 512) % 41)) 5) ((hvT T v ((z / 512) % 41)) 6) ((hvT T v ((z / 512) % 41)) 7) ((hvT T v ((z / 512) % 41)) 8) ++ bX b0 kn kw ++ fsB cI pa (va_up Ts nx T) 14) _ := hP
      have hD : va_D A (xX rx tt a tr r3 rs rz b b0 s0 r5 r6 ++ hX cF r3 ra pa (if cnt < 14 then cnt + 1 else cnt) ((nx + 1) % 14) ++ fX cI a ((hvT T v ((z / 512) % 41)) 0 0) ((hvT T v ((z / 512) % 41)) 0 1) ((hvT T v ((z / 512) % 41)) 0 2) ((hvT T v ((z / 512) % 41)) 0 3) ((hvT T v ((z / 512) % 41)) 0 4) ((hvT T v ((z / 512) % 41)) 0 5) ((hvT T v ((z / 512) % 41)) 1) ((hvT T v ((z / 512) % 41)) 2) ((hvT T v ((z / 512) % 41)) 3) ((hvT T v ((z / 512) % 41)) 4) ((hvT T v ((z / 512) % 41)) 5) ((hvT T v ((z / 512) % 41)) 6) ((hvT T v ((z / 512) % 41)) 7) ((hvT T v ((z / 512) % 41)) 8) ++ bX b0 kn kw ++ fsB cI pa (va_up Ts nx T) 14) := hD
      refine lv_iload_n hx hb dL_acts_137 rfl (lv_at hl 3 rfl) ?_
      refine lv_bipush (v := (nI 9)) hx hb dL_acts_138 (by decide) ?_
      refine lv_ishr hx hb dL_acts_140 ?_
      rw [show nI z >>> ((nI 9) &&& 31) = nI (z / 512) from pk_shrN (by omega) ((nI 9) &&& 31) 9 (by decide +kernel)]
      refine lv_bipush (v := (nI 41)) hx hb dL_acts_141 (by decide) ?_
      refine lv_irem hx hb dL_acts_143 (by decide) ?_
      rw [pk_rem (a := z / 512) (d := 41) (by omega) (by omega) (by omega)]
      refine lv_icmp_ne (tgt := 151) hx hb dL_acts_144 (by decide) (fun c_144 => ?_) (fun c_144 => ?_)
      · skip
        exact absurd rfl c_144
      · skip
        refine lv_iconst (v := (nI 1)) hx hb dL_acts_147 (by decide) ?_
        refine lv_goto (tgt := 152) hx hb dL_acts_148 (by decide) ?_
        exact ct_z ⟨(hvT T v ((z / 512) % 41), if cnt < 14 then cnt + 1 else cnt, (nx + 1) % 14, va_up Ts nx T), (AP_hv hT hSI hCI hc hv (by omega))⟩ hx hb hr hlocks hP hS (z_t trivial) dL_acts_152
  by_cases c_27_2 : (nI (y % 8)) = nI 2
  · skip
    refine lv_tableIn (off := 76) (tgt := 103) hx hb dL_acts_27 (by rw [c_27_2]; decide +kernel) (by rw [c_27_2]; decide +kernel) (by rw [c_27_2]; decide +kernel) (by decide) ?_
    refine lv_aload_n hx hb dL_acts_103 rfl (lv_at hl 3 rfl) ?_
    refine lv_iload hx hb dL_acts_104 (lv_at hl 0 rfl) ?_
    refine lv_iconst (v := (nI 0)) hx hb dL_acts_106 (by decide) ?_
    refine gp_V (ci := 8) (q0 := 0) (cq := (RX8, TX8, 11)) (c_X8_vegetable l D cI cZ cF cL rx tt a tr r3 rs rz b b0 s0 r5 r6 T kn kw v 0 hT (by omega) (by omega)) (gUV w_341 w_342 w_343 w_2 w_344) rfl hdV_X8_vegetable ⟨Nat.le_of_ble_eq_true rfl, Nat.le_of_ble_eq_true rfl⟩ ⟨rfl, rfl⟩ hx hb hml hown hts hK hA hP hD hS hl.1 ⟨Nat.le_of_ble_eq_true rfl, Nat.le_of_ble_eq_true rfl⟩ rfl rfl rfl (wr := (hX cF r3 ra pa cnt nx ++ fsB cI pa Ts 14)) (pm_cnt (fun _ => by simp only [List.countP_append, List.countP_nil, fT] <;> omega)) (fun _ => by simp only [List.map_append, List.map_nil, fX_m, bX_m, sX_m, pX_m, iaX_m, r5X_m, r6X_m, fT_m, hX_m, tX_m, xX_m, sgX_m, zaX_m, fsB_a]) (rest := []) rfl rfl (Nat.le_of_ble_eq_true rfl) dL_acts_107 (ws2 := (fun _ : Unit => (xX rx tt a tr r3 rs rz b b0 s0 r5 r6 ++ hX cF r3 ra pa cnt nx ++ fX cI a (T 0 0) (T 0 1) (T 0 2) (T 0 3) (T 0 4) (T 0 5) (T 1) (T 2) (T 3) (T 4) (T 5) (T 6) (T 7) (T 8) ++ bX b0 (if 0 = 3 then (fonF T v kw (T 0 0)).1 else kn) (if 0 = 3 then (fonF T v kw (T 0 0)).2 else kw) ++ fsB cI pa Ts 14))) (fun _ => (pm_cnt (fun _ => by simp only [List.countP_append, List.countP_nil, fT] <;> omega))) (fun _ Hp locs hP hD hS => ?_)
    rw [show (veV T v kw 0) = (nI (T 5 v)) from rfl]
    have hP : va_P D vwCl (xX rx tt a tr r3 rs rz b b0 s0 r5 r6 ++ hX cF r3 ra pa cnt nx ++ fX cI a (T 0 0) (T 0 1) (T 0 2) (T 0 3) (T 0 4) (T 0 5) (T 1) (T 2) (T 3) (T 4) (T 5) (T 6) (T 7) (T 8) ++ bX b0 kn kw ++ fsB cI pa Ts 14) _ := hP
    have hD : va_D A (xX rx tt a tr r3 rs rz b b0 s0 r5 r6 ++ hX cF r3 ra pa cnt nx ++ fX cI a (T 0 0) (T 0 1) (T 0 2) (T 0 3) (T 0 4) (T 0 5) (T 1) (T 2) (T 3) (T 4) (T 5) (T 6) (T 7) (T 8) ++ bX b0 kn kw ++ fsB cI pa Ts 14) := hD
    refine lv_istore (lv' := [(5, .int (nI (T 5 v))), (4, .int (nI v)), (3, .int (nI h)), (2, .int (nI z)), (0, .ref rx), (1, .int (nI y))]) hx hb dL_acts_110 hl (by decide) rfl (fun ls hl => ?_)
    refine lv_aload_n hx hb dL_acts_112 rfl (lv_at hl 4 rfl) ?_
    refine lv_iload hx hb dL_acts_113 (lv_at hl 1 rfl) ?_
    refine lv_iload_n hx hb dL_acts_115 rfl (lv_at hl 3 rfl) ?_
    refine lv_bipush (v := (nI 9)) hx hb dL_acts_116 (by decide) ?_
    refine lv_ishr hx hb dL_acts_118 ?_
    rw [show nI z >>> ((nI 9) &&& 31) = nI (z / 512) from pk_shrN (by omega) ((nI 9) &&& 31) 9 (by decide +kernel)]
    refine lv_bipush (v := (nI 41)) hx hb dL_acts_119 (by decide) ?_
    refine lv_irem hx hb dL_acts_121 (by decide) ?_
    rw [pk_rem (a := z / 512) (d := 41) (by omega) (by omega) (by omega)]
    refine gp_V (ci := 8) (q0 := 0) (cq := (RX8, TX8, 11)) (c_X8_setHarvest l D cI cZ cF cL rx tt a tr r3 rs rz b b0 s0 r5 r6 ra pa cnt nx Ts T v ((z / 512) % 41) hc hn hT (by omega) (by omega)) (gUV w_366 w_367 w_368 w_2 w_369) rfl hdV_X8_setHarvest ⟨Nat.le_of_ble_eq_true rfl, Nat.le_of_ble_eq_true rfl⟩ ⟨rfl, rfl⟩ hx hb hml hown hts hK hA hP hD hS hl.1 ⟨Nat.le_of_ble_eq_true rfl, Nat.le_of_ble_eq_true rfl⟩ rfl rfl rfl (wr := (bX b0 kn kw)) (pm_cnt (fun _ => by simp only [List.countP_append, List.countP_nil, fT] <;> omega)) (fun _ => by simp only [List.map_append, List.map_nil, fX_m, bX_m, sX_m, pX_m, iaX_m, r5X_m, r6X_m, fT_m, hX_m, tX_m, xX_m, sgX_m, zaX_m, fsB_a]) (rest := []) rfl rfl (Nat.le_of_ble_eq_true rfl) dL_acts_122 (ws2 := (fun _ : Unit => (xX rx tt a tr r3 rs rz b b0 s0 r5 r6 ++ hX cF r3 ra pa (if cnt < 14 then cnt + 1 else cnt) ((nx + 1) % 14) ++ fX cI a ((hvT T v ((z / 512) % 41)) 0 0) ((hvT T v ((z / 512) % 41)) 0 1) ((hvT T v ((z / 512) % 41)) 0 2) ((hvT T v ((z / 512) % 41)) 0 3) ((hvT T v ((z / 512) % 41)) 0 4) ((hvT T v ((z / 512) % 41)) 0 5) ((hvT T v ((z / 512) % 41)) 1) ((hvT T v ((z / 512) % 41)) 2) ((hvT T v ((z / 512) % 41)) 3) ((hvT T v ((z / 512) % 41)) 4) ((hvT T v ((z / 512) % 41)) 5) ((hvT T v ((z / 512) % 41)) 6) ((hvT T v ((z / 512) % 41)) 7) ((hvT T v ((z / 512) % 41)) 8) ++ bX b0 kn kw ++ fsB cI pa (va_up Ts nx T) 14))) (fun _ => (pm_cnt (fun _ => by simp only [List.countP_append, List.countP_nil, fT] <;> omega))) (fun _ Hp locs hP hD hS => ?_)
    refine lv_iload hx hb dL_acts_125 (lv_at hl 0 rfl) ?_
    refine lv_icmp_ne (tgt := 151) hx hb dL_acts_127 (by decide) (fun c_127 => ?_) (fun c_127 => ?_)
    · skip
      exact absurd rfl c_127
    · skip
      refine lv_aload_n hx hb dL_acts_130 rfl (lv_at hl 4 rfl) ?_
      refine lv_iload hx hb dL_acts_131 (lv_at hl 1 rfl) ?_
      refine lv_iconst (v := (nI 0)) hx hb dL_acts_133 (by decide) ?_
      refine gp_V (ci := 8) (q0 := 0) (cq := (RX8, TX8, 11)) (c_X8_vegetable l D cI cZ cF cL rx tt a tr r3 rs rz b b0 s0 r5 r6 (hvT T v ((z / 512) % 41)) kn kw v 0 (FI_hv hT hv (by omega)) hv (by omega)) (gUV w_341 w_342 w_343 w_2 w_344) rfl hdV_X8_vegetable ⟨Nat.le_of_ble_eq_true rfl, Nat.le_of_ble_eq_true rfl⟩ ⟨rfl, rfl⟩ hx hb hml hown hts hK hA hP hD hS hl.1 ⟨Nat.le_of_ble_eq_true rfl, Nat.le_of_ble_eq_true rfl⟩ rfl rfl rfl (wr := (hX cF r3 ra pa (if cnt < 14 then cnt + 1 else cnt) ((nx + 1) % 14) ++ fsB cI pa (va_up Ts nx T) 14)) (pm_cnt (fun _ => by simp only [List.countP_append, List.countP_nil, fT] <;> omega)) (fun _ => by simp only [List.map_append, List.map_nil, fX_m, bX_m, sX_m, pX_m, iaX_m, r5X_m, r6X_m, fT_m, hX_m, tX_m, xX_m, sgX_m, zaX_m, fsB_a]) (rest := []) rfl rfl (Nat.le_of_ble_eq_true rfl) dL_acts_134 (ws2 := (fun _ : Unit => (xX rx tt a tr r3 rs rz b b0 s0 r5 r6 ++ hX cF r3 ra pa (if cnt < 14 then cnt + 1 else cnt) ((nx + 1) % 14) ++ fX cI a ((hvT T v ((z / 512) % 41)) 0 0) ((hvT T v ((z / 512) % 41)) 0 1) ((hvT T v ((z / 512) % 41)) 0 2) ((hvT T v ((z / 512) % 41)) 0 3) ((hvT T v ((z / 512) % 41)) 0 4) ((hvT T v ((z / 512) % 41)) 0 5) ((hvT T v ((z / 512) % 41)) 1) ((hvT T v ((z / 512) % 41)) 2) ((hvT T v ((z / 512) % 41)) 3) ((hvT T v ((z / 512) % 41)) 4) ((hvT T v ((z / 512) % 41)) 5) ((hvT T v ((z / 512) % 41)) 6) ((hvT T v ((z / 512) % 41)) 7) ((hvT T v ((z / 512) % 41)) 8) ++ bX b0 (if 0 = 3 then (fonF (hvT T v ((z / 512) % 41)) v kw ((hvT T v ((z / 512) % 41)) 0 0)).1 else kn) (if 0 = 3 then (fonF (hvT T v ((z / 512) % 41)) v kw ((hvT T v ((z / 512) % 41)) 0 0)).2 else kw) ++ fsB cI pa (va_up Ts nx T) 14))) (fun _ => (pm_cnt (fun _ => by simp only [List.countP_append, List.countP_nil, fT] <;> omega))) (fun _ Hp locs hP hD hS => ?_)
      rw [show (veV (hvT T v ((z / 512) % 41)) v kw 0) = (nI (z / 512 % 41)) from congrArg nI (hv_5 T v (z / 512 % 41))]
      have hP : va_P D vwCl (xX rx tt a tr r3 rs rz b b0 s0 r5 r6 ++ hX cF r3 ra pa (if cnt < 14 then cnt + 1 else cnt) ((nx + 1) % 14) ++ fX cI a ((hvT T v ((z / 512) % 41)) 0 0) ((hvT T v ((z / 512) % 41)) 0 1) ((hvT T v ((z / 512) % 41)) 0 2) ((hvT T v ((z / 512) % 41)) 0 3) ((hvT T v ((z / 512) % 41)) 0 4) ((hvT T v ((z / 512) % 41)) 0 5) ((hvT T v ((z / 512) % 41)) 1) ((hvT T v ((z / 512) % 41)) 2) ((hvT T v ((z / 512) % 41)) 3) ((hvT T v ((z / 512) % 41)) 4) ((hvT T v ((z / 512) % 41)) 5) ((hvT T v ((z / 512) % 41)) 6) ((hvT T v ((z / 512) % 41)) 7) ((hvT T v ((z / 512) % 41)) 8) ++ bX b0 kn kw ++ fsB cI pa (va_up Ts nx T) 14) _ := hP
      have hD : va_D A (xX rx tt a tr r3 rs rz b b0 s0 r5 r6 ++ hX cF r3 ra pa (if cnt < 14 then cnt + 1 else cnt) ((nx + 1) % 14) ++ fX cI a ((hvT T v ((z / 512) % 41)) 0 0) ((hvT T v ((z / 512) % 41)) 0 1) ((hvT T v ((z / 512) % 41)) 0 2) ((hvT T v ((z / 512) % 41)) 0 3) ((hvT T v ((z / 512) % 41)) 0 4) ((hvT T v ((z / 512) % 41)) 0 5) ((hvT T v ((z / 512) % 41)) 1) ((hvT T v ((z / 512) % 41)) 2) ((hvT T v ((z / 512) % 41)) 3) ((hvT T v ((z / 512) % 41)) 4) ((hvT T v ((z / 512) % 41)) 5) ((hvT T v ((z / 512) % 41)) 6) ((hvT T v ((z / 512) % 41)) 7) ((hvT T v ((z / 512) % 41)) 8) ++ bX b0 kn kw ++ fsB cI pa (va_up Ts nx T) 14) := hD
      refine lv_iload_n hx hb dL_acts_137 rfl (lv_at hl 3 rfl) ?_
      refine lv_bipush (v := (nI 9)) hx hb dL_acts_138 (by decide) ?_
      refine lv_ishr hx hb dL_acts_140 ?_
      rw [show nI z >>> ((nI 9) &&& 31) = nI (z / 512) from pk_shrN (by omega) ((nI 9) &&& 31) 9 (by decide +kernel)]
      refine lv_bipush (v := (nI 41)) hx hb dL_acts_141 (by decide) ?_
      refine lv_irem hx hb dL_acts_143 (by decide) ?_
      rw [pk_rem (a := z / 512) (d := 41) (by omega) (by omega) (by omega)]
      refine lv_icmp_ne (tgt := 151) hx hb dL_acts_144 (by decide) (fun c_144 => ?_) (fun c_144 => ?_)
      · skip
        exact absurd rfl c_144
      · skip
        refine lv_iconst (v := (nI 1)) hx hb dL_acts_147 (by decide) ?_
        refine lv_goto (tgt := 152) hx hb dL_acts_148 (by decide) ?_
        exact ct_z ⟨(hvT T v ((z / 512) % 41), if cnt < 14 then cnt + 1 else cnt, (nx + 1) % 14, va_up Ts nx T), (AP_hv hT hSI hCI hc hv (by omega))⟩ hx hb hr hlocks hP hS (z_t trivial) dL_acts_152
  by_cases c_27_3 : (nI (y % 8)) = nI 3
  · skip
    refine lv_tableIn (off := 126) (tgt := 153) hx hb dL_acts_27 (by rw [c_27_3]; decide +kernel) (by rw [c_27_3]; decide +kernel) (by rw [c_27_3]; decide +kernel) (by decide) ?_
    refine lv_aload_n hx hb dL_acts_153 rfl (lv_at hl 3 rfl) ?_
    refine lv_iload_n hx hb dL_acts_154 rfl (lv_at hl 1 rfl) ?_
    refine lv_iload hx hb dL_acts_155 (lv_at hl 0 rfl) ?_
    refine gp_V (ci := 8) (q0 := 0) (cq := (RX8, TX8, 11)) (c_X8_liking l D cI cZ cF cL rx tt a tr r3 rs rz b b0 s0 r5 r6 T h v hT (by omega) (by omega)) (gUV w_370 w_371 w_372 w_2 w_373) rfl hdV_X8_liking ⟨Nat.le_of_ble_eq_true rfl, Nat.le_of_ble_eq_true rfl⟩ ⟨rfl, rfl⟩ hx hb hml hown hts hK hA hP hD hS hl.1 ⟨Nat.le_of_ble_eq_true rfl, Nat.le_of_ble_eq_true rfl⟩ rfl rfl rfl (wr := (hX cF r3 ra pa cnt nx ++ bX b0 kn kw ++ fsB cI pa Ts 14)) (pm_cnt (fun _ => by simp only [List.countP_append, List.countP_nil, fT] <;> omega)) (fun _ => by simp only [List.map_append, List.map_nil, fX_m, bX_m, sX_m, pX_m, iaX_m, r5X_m, r6X_m, fT_m, hX_m, tX_m, xX_m, sgX_m, zaX_m, fsB_a]) (rest := []) rfl rfl (Nat.le_of_ble_eq_true rfl) dL_acts_157 (ws2 := (fun _ : Unit => (xX rx tt a tr r3 rs rz b b0 s0 r5 r6 ++ hX cF r3 ra pa cnt nx ++ fX cI a (T 0 0) (T 0 1) (T 0 2) (T 0 3) (T 0 4) (T 0 5) (T 1) (T 2) (T 3) (T 4) (T 5) (T 6) (T 7) (T 8) ++ bX b0 kn kw ++ fsB cI pa Ts 14))) (fun _ => (pm_cnt (fun _ => by simp only [List.countP_append, List.countP_nil, fT] <;> omega))) (fun _ Hp locs hP hD hS => ?_)
    refine lv_istore (lv' := [(5, .int (nI (T 7 (h * 5 + v)))), (4, .int (nI v)), (3, .int (nI h)), (2, .int (nI z)), (0, .ref rx), (1, .int (nI y))]) hx hb dL_acts_160 hl (by decide) rfl (fun ls hl => ?_)
    refine lv_aload_n hx hb dL_acts_162 rfl (lv_at hl 4 rfl) ?_
    refine lv_iload_n hx hb dL_acts_163 rfl (lv_at hl 2 rfl) ?_
    refine lv_iload hx hb dL_acts_164 (lv_at hl 1 rfl) ?_
    refine lv_iload_n hx hb dL_acts_166 rfl (lv_at hl 3 rfl) ?_
    refine lv_bipush (v := (nI 9)) hx hb dL_acts_167 (by decide) ?_
    refine lv_ishr hx hb dL_acts_169 ?_
    rw [show nI z >>> ((nI 9) &&& 31) = nI (z / 512) from pk_shrN (by omega) ((nI 9) &&& 31) 9 (by decide +kernel)]
    refine lv_bipush (v := (nI 10)) hx hb dL_acts_170 (by decide) ?_
    refine lv_irem hx hb dL_acts_172 (by decide) ?_
    rw [pk_rem (a := z / 512) (d := 10) (by omega) (by omega) (by omega)]
    refine gp_V (ci := 8) (q0 := 0) (cq := (RX8, TX8, 11)) (c_X8_setLiking l D cI cZ cF cL rx tt a tr r3 rs rz b b0 s0 r5 r6 ra pa cnt nx Ts T h v ((z / 512) % 10) hc hn hT (by omega) (by omega) (by omega)) (gUV w_382 w_383 w_384 w_2 w_385) rfl hdV_X8_setLiking ⟨Nat.le_of_ble_eq_true rfl, Nat.le_of_ble_eq_true rfl⟩ ⟨rfl, rfl⟩ hx hb hml hown hts hK hA hP hD hS hl.1 ⟨Nat.le_of_ble_eq_true rfl, Nat.le_of_ble_eq_true rfl⟩ rfl rfl rfl (wr := (bX b0 kn kw)) (pm_cnt (fun _ => by simp only [List.countP_append, List.countP_nil, fT] <;> omega)) (fun _ => by simp only [List.map_append, List.map_nil, fX_m, bX_m, sX_m, pX_m, iaX_m, r5X_m, r6X_m, fT_m, hX_m, tX_m, xX_m, sgX_m, zaX_m, fsB_a]) (rest := []) rfl rfl (Nat.le_of_ble_eq_true rfl) dL_acts_173 (ws2 := (fun _ : Unit => (xX rx tt a tr r3 rs rz b b0 s0 r5 r6 ++ hX cF r3 ra pa (if cnt < 14 then cnt + 1 else cnt) ((nx + 1) % 14) ++ fX cI a ((lkT T h v ((z / 512) % 10)) 0 0) ((lkT T h v ((z / 512) % 10)) 0 1) ((lkT T h v ((z / 512) % 10)) 0 2) ((lkT T h v ((z / 512) % 10)) 0 3) ((lkT T h v ((z / 512) % 10)) 0 4) ((lkT T h v ((z / 512) % 10)) 0 5) ((lkT T h v ((z / 512) % 10)) 1) ((lkT T h v ((z / 512) % 10)) 2) ((lkT T h v ((z / 512) % 10)) 3) ((lkT T h v ((z / 512) % 10)) 4) ((lkT T h v ((z / 512) % 10)) 5) ((lkT T h v ((z / 512) % 10)) 6) ((lkT T h v ((z / 512) % 10)) 7) ((lkT T h v ((z / 512) % 10)) 8) ++ bX b0 kn kw ++ fsB cI pa (va_up Ts nx T) 14))) (fun _ => (pm_cnt (fun _ => by simp only [List.countP_append, List.countP_nil, fT] <;> omega))) (fun _ Hp locs hP hD hS => ?_)
    refine lv_iload hx hb dL_acts_176 (lv_at hl 0 rfl) ?_
    refine lv_icmp_ne (tgt := 202) hx hb dL_acts_178 (by decide) (fun c_178 => ?_) (fun c_178 => ?_)
    · skip
      exact absurd rfl c_178
    · skip
      refine lv_aload_n hx hb dL_acts_181 rfl (lv_at hl 4 rfl) ?_
      refine lv_iload_n hx hb dL_acts_182 rfl (lv_at hl 2 rfl) ?_
      refine lv_iload hx hb dL_acts_183 (lv_at hl 1 rfl) ?_
      refine gp_V (ci := 8) (q0 := 0) (cq := (RX8, TX8, 11)) (c_X8_liking l D cI cZ cF cL rx tt a tr r3 rs rz b b0 s0 r5 r6 (lkT T h v ((z / 512) % 10)) h v (FI_lk hT (by omega)) hh hv) (gUV w_370 w_371 w_372 w_2 w_373) rfl hdV_X8_liking ⟨Nat.le_of_ble_eq_true rfl, Nat.le_of_ble_eq_true rfl⟩ ⟨rfl, rfl⟩ hx hb hml hown hts hK hA hP hD hS hl.1 ⟨Nat.le_of_ble_eq_true rfl, Nat.le_of_ble_eq_true rfl⟩ rfl rfl rfl (wr := (hX cF r3 ra pa (if cnt < 14 then cnt + 1 else cnt) ((nx + 1) % 14) ++ bX b0 kn kw ++ fsB cI pa (va_up Ts nx T) 14)) (pm_cnt (fun _ => by simp only [List.countP_append, List.countP_nil, fT] <;> omega)) (fun _ => by simp only [List.map_append, List.map_nil, fX_m, bX_m, sX_m, pX_m, iaX_m, r5X_m, r6X_m, fT_m, hX_m, tX_m, xX_m, sgX_m, zaX_m, fsB_a]) (rest := []) rfl rfl (Nat.le_of_ble_eq_true rfl) dL_acts_185 (ws2 := (fun _ : Unit => (xX rx tt a tr r3 rs rz b b0 s0 r5 r6 ++ hX cF r3 ra pa (if cnt < 14 then cnt + 1 else cnt) ((nx + 1) % 14) ++ fX cI a ((lkT T h v ((z / 512) % 10)) 0 0) ((lkT T h v ((z / 512) % 10)) 0 1) ((lkT T h v ((z / 512) % 10)) 0 2) ((lkT T h v ((z / 512) % 10)) 0 3) ((lkT T h v ((z / 512) % 10)) 0 4) ((lkT T h v ((z / 512) % 10)) 0 5) ((lkT T h v ((z / 512) % 10)) 1) ((lkT T h v ((z / 512) % 10)) 2) ((lkT T h v ((z / 512) % 10)) 3) ((lkT T h v ((z / 512) % 10)) 4) ((lkT T h v ((z / 512) % 10)) 5) ((lkT T h v ((z / 512) % 10)) 6) ((lkT T h v ((z / 512) % 10)) 7) ((lkT T h v ((z / 512) % 10)) 8) ++ bX b0 kn kw ++ fsB cI pa (va_up Ts nx T) 14))) (fun _ => (pm_cnt (fun _ => by simp only [List.countP_append, List.countP_nil, fT] <;> omega))) (fun _ Hp locs hP hD hS => ?_)
      refine lv_iload_n hx hb dL_acts_188 rfl (lv_at hl 3 rfl) ?_
      refine lv_bipush (v := (nI 9)) hx hb dL_acts_189 (by decide) ?_
      refine lv_ishr hx hb dL_acts_191 ?_
      rw [show nI z >>> ((nI 9) &&& 31) = nI (z / 512) from pk_shrN (by omega) ((nI 9) &&& 31) 9 (by decide +kernel)]
      refine lv_bipush (v := (nI 10)) hx hb dL_acts_192 (by decide) ?_
      refine lv_irem hx hb dL_acts_194 (by decide) ?_
      rw [pk_rem (a := z / 512) (d := 10) (by omega) (by omega) (by omega)]
      refine lv_icmp_ne (tgt := 202) hx hb dL_acts_195 (by decide) (fun c_195 => ?_) (fun c_195 => ?_)
      · skip
        exact absurd (congrArg nI (lk_7 T h v (z / 512 % 10))) c_195
      · skip
        refine lv_iconst (v := (nI 1)) hx hb dL_acts_198 (by decide) ?_
        refine lv_goto (tgt := 203) hx hb dL_acts_199 (by decide) ?_
        exact ct_z ⟨(lkT T h v ((z / 512) % 10), if cnt < 14 then cnt + 1 else cnt, (nx + 1) % 14, va_up Ts nx T), (AP_lk hT hSI hCI hc (by omega))⟩ hx hb hr hlocks hP hS (z_t trivial) dL_acts_203
  by_cases c_27_4 : (nI (y % 8)) = nI 4
  · skip
    refine lv_tableIn (off := 177) (tgt := 204) hx hb dL_acts_27 (by rw [c_27_4]; decide +kernel) (by rw [c_27_4]; decide +kernel) (by rw [c_27_4]; decide +kernel) (by decide) ?_
    refine lv_aload_n hx hb dL_acts_204 rfl (lv_at hl 3 rfl) ?_
    refine lv_iload_n hx hb dL_acts_205 rfl (lv_at hl 1 rfl) ?_
    refine lv_iload_n hx hb dL_acts_206 rfl (lv_at hl 2 rfl) ?_
    refine lv_bipush (v := (nI 9)) hx hb dL_acts_207 (by decide) ?_
    refine lv_ishr hx hb dL_acts_209 ?_
    rw [show nI z >>> ((nI 9) &&& 31) = nI (z / 512) from pk_shrN (by omega) ((nI 9) &&& 31) 9 (by decide +kernel)]
    refine lv_iconst (v := (nI 1)) hx hb dL_acts_210 (by decide) ?_
    refine lv_iand hx hb dL_acts_211 ?_
    rw [show nI (z / 512) &&& nI 1 = nI ((z / 512) % 2) from pk_andN (m := nI 1) (by omega) 1 (by decide +kernel)]
    refine lv_iconst (v := (nI 1)) hx hb dL_acts_212 (by decide) ?_
    refine lv_icmp_ne (tgt := 220) hx hb dL_acts_213 (by decide) (fun c_213 => ?_) (fun c_213 => ?_)
    · skip
      replace c_213 := cn_ne c_213
      refine lv_iconst (v := (nI 0)) hx hb dL_acts_220 (by decide) ?_
      refine gp_V (ci := 8) (q0 := 0) (cq := (RX8, TX8, 11)) (c_X8_skip l D cI cZ cF cL rx tt a tr r3 rs rz b b0 s0 r5 r6 ra pa cnt nx Ts T h 0 hc hn hT (by omega) (by omega)) (gUV w_386 w_387 w_388 w_2 w_389) rfl hdV_X8_skip ⟨Nat.le_of_ble_eq_true rfl, Nat.le_of_ble_eq_true rfl⟩ ⟨rfl, rfl⟩ hx hb hml hown hts hK hA hP hD hS hl.1 ⟨Nat.le_of_ble_eq_true rfl, Nat.le_of_ble_eq_true rfl⟩ rfl rfl rfl (wr := (bX b0 kn kw)) (pm_cnt (fun _ => by simp only [List.countP_append, List.countP_nil, fT] <;> omega)) (fun _ => by simp only [List.map_append, List.map_nil, fX_m, bX_m, sX_m, pX_m, iaX_m, r5X_m, r6X_m, fT_m, hX_m, tX_m, xX_m, sgX_m, zaX_m, fsB_a]) (rest := []) rfl rfl (Nat.le_of_ble_eq_true rfl) dL_acts_221 (ws2 := (fun _ : Unit => (xX rx tt a tr r3 rs rz b b0 s0 r5 r6 ++ hX cF r3 ra pa (if cnt < 14 then cnt + 1 else cnt) ((nx + 1) % 14) ++ fX cI a ((skT T h 0) 0 0) ((skT T h 0) 0 1) ((skT T h 0) 0 2) ((skT T h 0) 0 3) ((skT T h 0) 0 4) ((skT T h 0) 0 5) ((skT T h 0) 1) ((skT T h 0) 2) ((skT T h 0) 3) ((skT T h 0) 4) ((skT T h 0) 5) ((skT T h 0) 6) ((skT T h 0) 7) ((skT T h 0) 8) ++ bX b0 kn kw ++ fsB cI pa (va_up Ts nx T) 14))) (fun _ => (pm_cnt (fun _ => by simp only [List.countP_append, List.countP_nil, fT] <;> omega))) (fun _ Hp locs hP hD hS => ?_)
      refine lv_aload_n hx hb dL_acts_224 rfl (lv_at hl 3 rfl) ?_
      refine lv_bipush (v := (nI 9)) hx hb dL_acts_225 (by decide) ?_
      refine gp_V (ci := 8) (q0 := 0) (cq := (RX8, TX8, 11)) (c_X8_about l D cI cZ cF cL rx tt a tr r3 rs rz b b0 s0 r5 r6 (skT T h 0) 9 (FI_sk hT hh (by omega)) (by omega)) (gUV w_320 w_321 w_322 w_2 w_323) rfl hdV_X8_about ⟨Nat.le_of_ble_eq_true rfl, Nat.le_of_ble_eq_true rfl⟩ ⟨rfl, rfl⟩ hx hb hml hown hts hK hA hP hD hS hl.1 ⟨Nat.le_of_ble_eq_true rfl, Nat.le_of_ble_eq_true rfl⟩ rfl rfl rfl (wr := (hX cF r3 ra pa (if cnt < 14 then cnt + 1 else cnt) ((nx + 1) % 14) ++ bX b0 kn kw ++ fsB cI pa (va_up Ts nx T) 14)) (pm_cnt (fun _ => by simp only [List.countP_append, List.countP_nil, fT] <;> omega)) (fun _ => by simp only [List.map_append, List.map_nil, fX_m, bX_m, sX_m, pX_m, iaX_m, r5X_m, r6X_m, fT_m, hX_m, tX_m, xX_m, sgX_m, zaX_m, fsB_a]) (rest := [.int (nI (boxT (skT T h 0)))]) rfl rfl (Nat.le_of_ble_eq_true rfl) dL_acts_227 (ws2 := (fun _ : Unit => (xX rx tt a tr r3 rs rz b b0 s0 r5 r6 ++ hX cF r3 ra pa (if cnt < 14 then cnt + 1 else cnt) ((nx + 1) % 14) ++ fX cI a ((skT T h 0) 0 0) ((skT T h 0) 0 1) ((skT T h 0) 0 2) ((skT T h 0) 0 3) ((skT T h 0) 0 4) ((skT T h 0) 0 5) ((skT T h 0) 1) ((skT T h 0) 2) ((skT T h 0) 3) ((skT T h 0) 4) ((skT T h 0) 5) ((skT T h 0) 6) ((skT T h 0) 7) ((skT T h 0) 8) ++ bX b0 kn kw ++ fsB cI pa (va_up Ts nx T) 14))) (fun _ => (pm_cnt (fun _ => by simp only [List.countP_append, List.countP_nil, fT] <;> omega))) (fun _ Hp locs hP hD hS => ?_)
      refine lv_icmp_ne (tgt := 252) hx hb dL_acts_230 (by decide) (fun c_230 => ?_) (fun c_230 => ?_)
      · skip
        exact absurd rfl c_230
      · skip
        refine lv_aload_n hx hb dL_acts_233 rfl (lv_at hl 3 rfl) ?_
        refine lv_iload_n hx hb dL_acts_234 rfl (lv_at hl 1 rfl) ?_
        refine lv_iconst (v := (nI 3)) hx hb dL_acts_235 (by decide) ?_
        refine gp_V (ci := 8) (q0 := 0) (cq := (RX8, TX8, 11)) (c_X8_house l D cI cZ cF cL rx tt a tr r3 rs rz b b0 s0 r5 r6 (skT T h 0) h 3 (FI_sk hT hh (by omega)) hh (by omega)) (gUV w_390 w_391 w_392 w_2 w_393) rfl hdV_X8_house ⟨Nat.le_of_ble_eq_true rfl, Nat.le_of_ble_eq_true rfl⟩ ⟨rfl, rfl⟩ hx hb hml hown hts hK hA hP hD hS hl.1 ⟨Nat.le_of_ble_eq_true rfl, Nat.le_of_ble_eq_true rfl⟩ rfl rfl rfl (wr := (hX cF r3 ra pa (if cnt < 14 then cnt + 1 else cnt) ((nx + 1) % 14) ++ bX b0 kn kw ++ fsB cI pa (va_up Ts nx T) 14)) (pm_cnt (fun _ => by simp only [List.countP_append, List.countP_nil, fT] <;> omega)) (fun _ => by simp only [List.map_append, List.map_nil, fX_m, bX_m, sX_m, pX_m, iaX_m, r5X_m, r6X_m, fT_m, hX_m, tX_m, xX_m, sgX_m, zaX_m, fsB_a]) (rest := []) rfl rfl (Nat.le_of_ble_eq_true rfl) dL_acts_236 (ws2 := (fun _ : Unit => (xX rx tt a tr r3 rs rz b b0 s0 r5 r6 ++ hX cF r3 ra pa (if cnt < 14 then cnt + 1 else cnt) ((nx + 1) % 14) ++ fX cI a ((skT T h 0) 0 0) ((skT T h 0) 0 1) ((skT T h 0) 0 2) ((skT T h 0) 0 3) ((skT T h 0) 0 4) ((skT T h 0) 0 5) ((skT T h 0) 1) ((skT T h 0) 2) ((skT T h 0) 3) ((skT T h 0) 4) ((skT T h 0) 5) ((skT T h 0) 6) ((skT T h 0) 7) ((skT T h 0) 8) ++ bX b0 kn kw ++ fsB cI pa (va_up Ts nx T) 14))) (fun _ => (pm_cnt (fun _ => by simp only [List.countP_append, List.countP_nil, fT] <;> omega))) (fun _ Hp locs hP hD hS => ?_)
        refine lv_iload_n hx hb dL_acts_239 rfl (lv_at hl 2 rfl) ?_
        refine lv_bipush (v := (nI 9)) hx hb dL_acts_240 (by decide) ?_
        refine lv_ishr hx hb dL_acts_242 ?_
        rw [show nI z >>> ((nI 9) &&& 31) = nI (z / 512) from pk_shrN (by omega) ((nI 9) &&& 31) 9 (by decide +kernel)]
        refine lv_iconst (v := (nI 1)) hx hb dL_acts_243 (by decide) ?_
        refine lv_iand hx hb dL_acts_244 ?_
        rw [show nI (z / 512) &&& nI 1 = nI ((z / 512) % 2) from pk_andN (m := nI 1) (by omega) 1 (by decide +kernel)]
        refine lv_icmp_ne (tgt := 252) hx hb dL_acts_245 (by decide) (fun c_245 => ?_) (fun c_245 => ?_)
        · skip
          exact absurd (congrArg nI ((sk_4 T h _).trans (by omega))) c_245
        · skip
          refine lv_iconst (v := (nI 1)) hx hb dL_acts_248 (by decide) ?_
          refine lv_goto (tgt := 253) hx hb dL_acts_249 (by decide) ?_
          exact ct_z ⟨(skT T h 0, if cnt < 14 then cnt + 1 else cnt, (nx + 1) % 14, va_up Ts nx T), (AP_sk hT hSI hCI hc hh (by omega))⟩ hx hb hr hlocks hP hS (z_t trivial) dL_acts_253
    · skip
      replace c_213 := cn_eq (by omega) (by omega) c_213
      refine lv_iconst (v := (nI 1)) hx hb dL_acts_216 (by decide) ?_
      refine lv_goto (tgt := 221) hx hb dL_acts_217 (by decide) ?_
      refine gp_V (ci := 8) (q0 := 0) (cq := (RX8, TX8, 11)) (c_X8_skip l D cI cZ cF cL rx tt a tr r3 rs rz b b0 s0 r5 r6 ra pa cnt nx Ts T h 1 hc hn hT (by omega) (by omega)) (gUV w_386 w_387 w_388 w_2 w_389) rfl hdV_X8_skip ⟨Nat.le_of_ble_eq_true rfl, Nat.le_of_ble_eq_true rfl⟩ ⟨rfl, rfl⟩ hx hb hml hown hts hK hA hP hD hS hl.1 ⟨Nat.le_of_ble_eq_true rfl, Nat.le_of_ble_eq_true rfl⟩ rfl rfl rfl (wr := (bX b0 kn kw)) (pm_cnt (fun _ => by simp only [List.countP_append, List.countP_nil, fT] <;> omega)) (fun _ => by simp only [List.map_append, List.map_nil, fX_m, bX_m, sX_m, pX_m, iaX_m, r5X_m, r6X_m, fT_m, hX_m, tX_m, xX_m, sgX_m, zaX_m, fsB_a]) (rest := []) rfl rfl (Nat.le_of_ble_eq_true rfl) dL_acts_221 (ws2 := (fun _ : Unit => (xX rx tt a tr r3 rs rz b b0 s0 r5 r6 ++ hX cF r3 ra pa (if cnt < 14 then cnt + 1 else cnt) ((nx + 1) % 14) ++ fX cI a ((skT T h 1) 0 0) ((skT T h 1) 0 1) ((skT T h 1) 0 2) ((skT T h 1) 0 3) ((skT T h 1) 0 4) ((skT T h 1) 0 5) ((skT T h 1) 1) ((skT T h 1) 2) ((skT T h 1) 3) ((skT T h 1) 4) ((skT T h 1) 5) ((skT T h 1) 6) ((skT T h 1) 7) ((skT T h 1) 8) ++ bX b0 kn kw ++ fsB cI pa (va_up Ts nx T) 14))) (fun _ => (pm_cnt (fun _ => by simp only [List.countP_append, List.countP_nil, fT] <;> omega))) (fun _ Hp locs hP hD hS => ?_)
      refine lv_aload_n hx hb dL_acts_224 rfl (lv_at hl 3 rfl) ?_
      refine lv_bipush (v := (nI 9)) hx hb dL_acts_225 (by decide) ?_
      refine gp_V (ci := 8) (q0 := 0) (cq := (RX8, TX8, 11)) (c_X8_about l D cI cZ cF cL rx tt a tr r3 rs rz b b0 s0 r5 r6 (skT T h 1) 9 (FI_sk hT hh (by omega)) (by omega)) (gUV w_320 w_321 w_322 w_2 w_323) rfl hdV_X8_about ⟨Nat.le_of_ble_eq_true rfl, Nat.le_of_ble_eq_true rfl⟩ ⟨rfl, rfl⟩ hx hb hml hown hts hK hA hP hD hS hl.1 ⟨Nat.le_of_ble_eq_true rfl, Nat.le_of_ble_eq_true rfl⟩ rfl rfl rfl (wr := (hX cF r3 ra pa (if cnt < 14 then cnt + 1 else cnt) ((nx + 1) % 14) ++ bX b0 kn kw ++ fsB cI pa (va_up Ts nx T) 14)) (pm_cnt (fun _ => by simp only [List.countP_append, List.countP_nil, fT] <;> omega)) (fun _ => by simp only [List.map_append, List.map_nil, fX_m, bX_m, sX_m, pX_m, iaX_m, r5X_m, r6X_m, fT_m, hX_m, tX_m, xX_m, sgX_m, zaX_m, fsB_a]) (rest := [.int (nI (boxT (skT T h 1)))]) rfl rfl (Nat.le_of_ble_eq_true rfl) dL_acts_227 (ws2 := (fun _ : Unit => (xX rx tt a tr r3 rs rz b b0 s0 r5 r6 ++ hX cF r3 ra pa (if cnt < 14 then cnt + 1 else cnt) ((nx + 1) % 14) ++ fX cI a ((skT T h 1) 0 0) ((skT T h 1) 0 1) ((skT T h 1) 0 2) ((skT T h 1) 0 3) ((skT T h 1) 0 4) ((skT T h 1) 0 5) ((skT T h 1) 1) ((skT T h 1) 2) ((skT T h 1) 3) ((skT T h 1) 4) ((skT T h 1) 5) ((skT T h 1) 6) ((skT T h 1) 7) ((skT T h 1) 8) ++ bX b0 kn kw ++ fsB cI pa (va_up Ts nx T) 14))) (fun _ => (pm_cnt (fun _ => by simp only [List.countP_append, List.countP_nil, fT] <;> omega))) (fun _ Hp locs hP hD hS => ?_)
      refine lv_icmp_ne (tgt := 252) hx hb dL_acts_230 (by decide) (fun c_230 => ?_) (fun c_230 => ?_)
      · skip
        exact absurd rfl c_230
      · skip
        refine lv_aload_n hx hb dL_acts_233 rfl (lv_at hl 3 rfl) ?_
        refine lv_iload_n hx hb dL_acts_234 rfl (lv_at hl 1 rfl) ?_
        refine lv_iconst (v := (nI 3)) hx hb dL_acts_235 (by decide) ?_
        refine gp_V (ci := 8) (q0 := 0) (cq := (RX8, TX8, 11)) (c_X8_house l D cI cZ cF cL rx tt a tr r3 rs rz b b0 s0 r5 r6 (skT T h 1) h 3 (FI_sk hT hh (by omega)) hh (by omega)) (gUV w_390 w_391 w_392 w_2 w_393) rfl hdV_X8_house ⟨Nat.le_of_ble_eq_true rfl, Nat.le_of_ble_eq_true rfl⟩ ⟨rfl, rfl⟩ hx hb hml hown hts hK hA hP hD hS hl.1 ⟨Nat.le_of_ble_eq_true rfl, Nat.le_of_ble_eq_true rfl⟩ rfl rfl rfl (wr := (hX cF r3 ra pa (if cnt < 14 then cnt + 1 else cnt) ((nx + 1) % 14) ++ bX b0 kn kw ++ fsB cI pa (va_up Ts nx T) 14)) (pm_cnt (fun _ => by simp only [List.countP_append, List.countP_nil, fT] <;> omega)) (fun _ => by simp only [List.map_append, List.map_nil, fX_m, bX_m, sX_m, pX_m, iaX_m, r5X_m, r6X_m, fT_m, hX_m, tX_m, xX_m, sgX_m, zaX_m, fsB_a]) (rest := []) rfl rfl (Nat.le_of_ble_eq_true rfl) dL_acts_236 (ws2 := (fun _ : Unit => (xX rx tt a tr r3 rs rz b b0 s0 r5 r6 ++ hX cF r3 ra pa (if cnt < 14 then cnt + 1 else cnt) ((nx + 1) % 14) ++ fX cI a ((skT T h 1) 0 0) ((skT T h 1) 0 1) ((skT T h 1) 0 2) ((skT T h 1) 0 3) ((skT T h 1) 0 4) ((skT T h 1) 0 5) ((skT T h 1) 1) ((skT T h 1) 2) ((skT T h 1) 3) ((skT T h 1) 4) ((skT T h 1) 5) ((skT T h 1) 6) ((skT T h 1) 7) ((skT T h 1) 8) ++ bX b0 kn kw ++ fsB cI pa (va_up Ts nx T) 14))) (fun _ => (pm_cnt (fun _ => by simp only [List.countP_append, List.countP_nil, fT] <;> omega))) (fun _ Hp locs hP hD hS => ?_)
        refine lv_iload_n hx hb dL_acts_239 rfl (lv_at hl 2 rfl) ?_
        refine lv_bipush (v := (nI 9)) hx hb dL_acts_240 (by decide) ?_
        refine lv_ishr hx hb dL_acts_242 ?_
        rw [show nI z >>> ((nI 9) &&& 31) = nI (z / 512) from pk_shrN (by omega) ((nI 9) &&& 31) 9 (by decide +kernel)]
        refine lv_iconst (v := (nI 1)) hx hb dL_acts_243 (by decide) ?_
        refine lv_iand hx hb dL_acts_244 ?_
        rw [show nI (z / 512) &&& nI 1 = nI ((z / 512) % 2) from pk_andN (m := nI 1) (by omega) 1 (by decide +kernel)]
        refine lv_icmp_ne (tgt := 252) hx hb dL_acts_245 (by decide) (fun c_245 => ?_) (fun c_245 => ?_)
        · skip
          exact absurd (congrArg nI ((sk_4 T h _).trans (by omega))) c_245
        · skip
          refine lv_iconst (v := (nI 1)) hx hb dL_acts_248 (by decide) ?_
          refine lv_goto (tgt := 253) hx hb dL_acts_249 (by decide) ?_
          exact ct_z ⟨(skT T h 1, if cnt < 14 then cnt + 1 else cnt, (nx + 1) % 14, va_up Ts nx T), (AP_sk hT hSI hCI hc hh (by omega))⟩ hx hb hr hlocks hP hS (z_t trivial) dL_acts_253
  by_cases c_27_5 : (nI (y % 8)) = nI 5
  · skip
    refine lv_tableIn (off := 227) (tgt := 254) hx hb dL_acts_27 (by rw [c_27_5]; decide +kernel) (by rw [c_27_5]; decide +kernel) (by rw [c_27_5]; decide +kernel) (by decide) ?_
    refine lv_aload_n hx hb dL_acts_254 rfl (lv_at hl 3 rfl) ?_
    refine lv_iload_n hx hb dL_acts_255 rfl (lv_at hl 1 rfl) ?_
    refine lv_iconst (v := (nI 1)) hx hb dL_acts_256 (by decide) ?_
    refine gp_V (ci := 8) (q0 := 0) (cq := (RX8, TX8, 11)) (c_X8_house l D cI cZ cF cL rx tt a tr r3 rs rz b b0 s0 r5 r6 T h 1 hT (by omega) (by omega)) (gUV w_390 w_391 w_392 w_2 w_393) rfl hdV_X8_house ⟨Nat.le_of_ble_eq_true rfl, Nat.le_of_ble_eq_true rfl⟩ ⟨rfl, rfl⟩ hx hb hml hown hts hK hA hP hD hS hl.1 ⟨Nat.le_of_ble_eq_true rfl, Nat.le_of_ble_eq_true rfl⟩ rfl rfl rfl (wr := (hX cF r3 ra pa cnt nx ++ bX b0 kn kw ++ fsB cI pa Ts 14)) (pm_cnt (fun _ => by simp only [List.countP_append, List.countP_nil, fT] <;> omega)) (fun _ => by simp only [List.map_append, List.map_nil, fX_m, bX_m, sX_m, pX_m, iaX_m, r5X_m, r6X_m, fT_m, hX_m, tX_m, xX_m, sgX_m, zaX_m, fsB_a]) (rest := []) rfl rfl (Nat.le_of_ble_eq_true rfl) dL_acts_257 (ws2 := (fun _ : Unit => (xX rx tt a tr r3 rs rz b b0 s0 r5 r6 ++ hX cF r3 ra pa cnt nx ++ fX cI a (T 0 0) (T 0 1) (T 0 2) (T 0 3) (T 0 4) (T 0 5) (T 1) (T 2) (T 3) (T 4) (T 5) (T 6) (T 7) (T 8) ++ bX b0 kn kw ++ fsB cI pa Ts 14))) (fun _ => (pm_cnt (fun _ => by simp only [List.countP_append, List.countP_nil, fT] <;> omega))) (fun _ Hp locs hP hD hS => ?_)
    rw [show (nI (hoV T h 1)) = (nI (T 2 h)) from rfl]
    refine lv_istore (lv' := [(5, .int (nI (T 2 h))), (4, .int (nI v)), (3, .int (nI h)), (2, .int (nI z)), (0, .ref rx), (1, .int (nI y))]) hx hb dL_acts_260 hl (by decide) rfl (fun ls hl => ?_)
    refine lv_iload hx hb dL_acts_262 (lv_at hl 0 rfl) ?_
    refine lv_if_eq (tgt := 296) hx hb dL_acts_264 (by decide) (fun c_264 => ?_) (fun c_264 => ?_)
    · skip
      replace c_264 := cn_eq (b := 0) (by omega) (by omega) c_264
      refine lv_iconst (v := (nI 1)) hx hb dL_acts_296 (by decide) ?_
      refine lv_goto (tgt := 301) hx hb dL_acts_297 (by decide) ?_
      exact ct_z ⟨(T, cnt, nx, Ts), (AP_id hT hSI hCI hc hn)⟩ hx hb hr hlocks hP hS (z_t trivial) dL_acts_301
    · skip
      replace c_264 := cn_ne (b := 0) c_264
      have m1 : z / 512 % T 2 h < T 2 h := Nat.mod_lt _ (by omega)
      refine lv_aload_n hx hb dL_acts_267 rfl (lv_at hl 4 rfl) ?_
      refine lv_iload_n hx hb dL_acts_268 rfl (lv_at hl 2 rfl) ?_
      refine lv_iconst (v := (nI 1)) hx hb dL_acts_269 (by decide) ?_
      refine lv_iload_n hx hb dL_acts_270 rfl (lv_at hl 3 rfl) ?_
      refine lv_bipush (v := (nI 9)) hx hb dL_acts_271 (by decide) ?_
      refine lv_ishr hx hb dL_acts_273 ?_
      rw [show nI z >>> ((nI 9) &&& 31) = nI (z / 512) from pk_shrN (by omega) ((nI 9) &&& 31) 9 (by decide +kernel)]
      refine lv_iload hx hb dL_acts_274 (lv_at hl 0 rfl) ?_
      refine lv_irem hx hb dL_acts_276 (nz_i (by omega) (by omega)) ?_
      rw [pk_rem (a := z / 512) (d := T 2 h) (by omega) (by omega) (by omega)]
      refine lv_iadd hx hb dL_acts_277 ?_
      rw [nI_add 1 ((z / 512) % (T 2 h))]
      refine gp_V (ci := 8) (q0 := 0) (cq := (RX8, TX8, 11)) (c_X8_returnCrates l D cI cZ cF cL rx tt a tr r3 rs rz b b0 s0 r5 r6 ra pa cnt nx Ts T h (1 + ((z / 512) % (T 2 h))) hc hn hT (by omega) (by omega) (by omega) (by omega)) (gUV w_399 w_400 w_401 w_2 w_402) rfl hdV_X8_returnCrates ⟨Nat.le_of_ble_eq_true rfl, Nat.le_of_ble_eq_true rfl⟩ ⟨rfl, rfl⟩ hx hb hml hown hts hK hA hP hD hS hl.1 ⟨Nat.le_of_ble_eq_true rfl, Nat.le_of_ble_eq_true rfl⟩ rfl rfl rfl (wr := (bX b0 kn kw)) (pm_cnt (fun _ => by simp only [List.countP_append, List.countP_nil, fT] <;> omega)) (fun _ => by simp only [List.map_append, List.map_nil, fX_m, bX_m, sX_m, pX_m, iaX_m, r5X_m, r6X_m, fT_m, hX_m, tX_m, xX_m, sgX_m, zaX_m, fsB_a]) (rest := []) rfl rfl (Nat.le_of_ble_eq_true rfl) dL_acts_278 (ws2 := (fun _ : Unit => (xX rx tt a tr r3 rs rz b b0 s0 r5 r6 ++ hX cF r3 ra pa (if cnt < 14 then cnt + 1 else cnt) ((nx + 1) % 14) ++ fX cI a ((owT T h (T 2 h - (1 + ((z / 512) % (T 2 h))))) 0 0) ((owT T h (T 2 h - (1 + ((z / 512) % (T 2 h))))) 0 1) ((owT T h (T 2 h - (1 + ((z / 512) % (T 2 h))))) 0 2) ((owT T h (T 2 h - (1 + ((z / 512) % (T 2 h))))) 0 3) ((owT T h (T 2 h - (1 + ((z / 512) % (T 2 h))))) 0 4) ((owT T h (T 2 h - (1 + ((z / 512) % (T 2 h))))) 0 5) ((owT T h (T 2 h - (1 + ((z / 512) % (T 2 h))))) 1) ((owT T h (T 2 h - (1 + ((z / 512) % (T 2 h))))) 2) ((owT T h (T 2 h - (1 + ((z / 512) % (T 2 h))))) 3) ((owT T h (T 2 h - (1 + ((z / 512) % (T 2 h))))) 4) ((owT T h (T 2 h - (1 + ((z / 512) % (T 2 h))))) 5) ((owT T h (T 2 h - (1 + ((z / 512) % (T 2 h))))) 6) ((owT T h (T 2 h - (1 + ((z / 512) % (T 2 h))))) 7) ((owT T h (T 2 h - (1 + ((z / 512) % (T 2 h))))) 8) ++ bX b0 kn kw ++ fsB cI pa (va_up Ts nx T) 14))) (fun _ => (pm_cnt (fun _ => by simp only [List.countP_append, List.countP_nil, fT] <;> omega))) (fun _ Hp locs hP hD hS => ?_)
      refine lv_iload hx hb dL_acts_281 (lv_at hl 0 rfl) ?_
      refine lv_iconst (v := (nI 1)) hx hb dL_acts_283 (by decide) ?_
      refine lv_isub hx hb dL_acts_284 ?_
      rw [pk_sub (a := T 2 h) (b := 1) (by omega)]
      refine lv_iload_n hx hb dL_acts_285 rfl (lv_at hl 3 rfl) ?_
      refine lv_bipush (v := (nI 9)) hx hb dL_acts_286 (by decide) ?_
      refine lv_ishr hx hb dL_acts_288 ?_
      rw [show nI z >>> ((nI 9) &&& 31) = nI (z / 512) from pk_shrN (by omega) ((nI 9) &&& 31) 9 (by decide +kernel)]
      refine lv_iload hx hb dL_acts_289 (lv_at hl 0 rfl) ?_
      refine lv_irem hx hb dL_acts_291 (nz_i (by omega) (by omega)) ?_
      rw [pk_rem (a := z / 512) (d := T 2 h) (by omega) (by omega) (by omega)]
      refine lv_isub hx hb dL_acts_292 ?_
      rw [pk_sub (a := (T 2 h) - 1) (b := (z / 512) % (T 2 h)) (by omega)]
      refine lv_icmp_ne (tgt := 300) hx hb dL_acts_293 (by decide) (fun c_293 => ?_) (fun c_293 => ?_)
      · skip
        exact absurd (congrArg nI (by omega)) c_293
      · skip
        refine lv_iconst (v := (nI 1)) hx hb dL_acts_296 (by decide) ?_
        refine lv_goto (tgt := 301) hx hb dL_acts_297 (by decide) ?_
        exact ct_z ⟨(owT T h (T 2 h - (1 + ((z / 512) % (T 2 h)))), if cnt < 14 then cnt + 1 else cnt, (nx + 1) % 14, va_up Ts nx T), (AP_ow hT hSI hCI hc hh (by omega))⟩ hx hb hr hlocks hP hS (z_t trivial) dL_acts_301
  by_cases c_27_6 : (nI (y % 8)) = nI 6
  · skip
    refine lv_tableIn (off := 275) (tgt := 302) hx hb dL_acts_27 (by rw [c_27_6]; decide +kernel) (by rw [c_27_6]; decide +kernel) (by rw [c_27_6]; decide +kernel) (by decide) ?_
    refine lv_aload_n hx hb dL_acts_302 rfl (lv_at hl 3 rfl) ?_
    refine lv_iload_n hx hb dL_acts_303 rfl (lv_at hl 1 rfl) ?_
    refine lv_iload hx hb dL_acts_304 (lv_at hl 0 rfl) ?_
    refine gp_V (ci := 8) (q0 := 0) (cq := (RX8, TX8, 11)) (c_X8_box l D cI cZ cF cL rx tt a tr r3 rs rz b b0 s0 r5 r6 T h v hT (by omega) (by omega)) (gUV w_403 w_404 w_405 w_2 w_406) rfl hdV_X8_box ⟨Nat.le_of_ble_eq_true rfl, Nat.le_of_ble_eq_true rfl⟩ ⟨rfl, rfl⟩ hx hb hml hown hts hK hA hP hD hS hl.1 ⟨Nat.le_of_ble_eq_true rfl, Nat.le_of_ble_eq_true rfl⟩ rfl rfl rfl (wr := (hX cF r3 ra pa cnt nx ++ bX b0 kn kw ++ fsB cI pa Ts 14)) (pm_cnt (fun _ => by simp only [List.countP_append, List.countP_nil, fT] <;> omega)) (fun _ => by simp only [List.map_append, List.map_nil, fX_m, bX_m, sX_m, pX_m, iaX_m, r5X_m, r6X_m, fT_m, hX_m, tX_m, xX_m, sgX_m, zaX_m, fsB_a]) (rest := []) rfl rfl (Nat.le_of_ble_eq_true rfl) dL_acts_306 (ws2 := (fun _ : Unit => (xX rx tt a tr r3 rs rz b b0 s0 r5 r6 ++ hX cF r3 ra pa cnt nx ++ fX cI a (T 0 0) (T 0 1) (T 0 2) (T 0 3) (T 0 4) (T 0 5) (T 1) (T 2) (T 3) (T 4) (T 5) (T 6) (T 7) (T 8) ++ bX b0 kn kw ++ fsB cI pa Ts 14))) (fun _ => (pm_cnt (fun _ => by simp only [List.countP_append, List.countP_nil, fT] <;> omega))) (fun _ Hp locs hP hD hS => ?_)
    refine lv_istore (lv' := [(5, .int (nI (T 8 (h * 5 + v)))), (4, .int (nI v)), (3, .int (nI h)), (2, .int (nI z)), (0, .ref rx), (1, .int (nI y))]) hx hb dL_acts_309 hl (by decide) rfl (fun ls hl => ?_)
    refine lv_aload_n hx hb dL_acts_311 rfl (lv_at hl 4 rfl) ?_
    refine lv_iconst (v := (nI 5)) hx hb dL_acts_312 (by decide) ?_
    refine gp_V (ci := 8) (q0 := 0) (cq := (RX8, TX8, 11)) (c_X8_about l D cI cZ cF cL rx tt a tr r3 rs rz b b0 s0 r5 r6 T 5 hT (by omega)) (gUV w_320 w_321 w_322 w_2 w_323) rfl hdV_X8_about ⟨Nat.le_of_ble_eq_true rfl, Nat.le_of_ble_eq_true rfl⟩ ⟨rfl, rfl⟩ hx hb hml hown hts hK hA hP hD hS hl.1 ⟨Nat.le_of_ble_eq_true rfl, Nat.le_of_ble_eq_true rfl⟩ rfl rfl rfl (wr := (hX cF r3 ra pa cnt nx ++ bX b0 kn kw ++ fsB cI pa Ts 14)) (pm_cnt (fun _ => by simp only [List.countP_append, List.countP_nil, fT] <;> omega)) (fun _ => by simp only [List.map_append, List.map_nil, fX_m, bX_m, sX_m, pX_m, iaX_m, r5X_m, r6X_m, fT_m, hX_m, tX_m, xX_m, sgX_m, zaX_m, fsB_a]) (rest := []) rfl rfl (Nat.le_of_ble_eq_true rfl) dL_acts_313 (ws2 := (fun _ : Unit => (xX rx tt a tr r3 rs rz b b0 s0 r5 r6 ++ hX cF r3 ra pa cnt nx ++ fX cI a (T 0 0) (T 0 1) (T 0 2) (T 0 3) (T 0 4) (T 0 5) (T 1) (T 2) (T 3) (T 4) (T 5) (T 6) (T 7) (T 8) ++ bX b0 kn kw ++ fsB cI pa Ts 14))) (fun _ => (pm_cnt (fun _ => by simp only [List.countP_append, List.countP_nil, fT] <;> omega))) (fun _ Hp locs hP hD hS => ?_)
    rw [show (nI (abV T 5)) = (nI (T 0 4)) from rfl]
    refine lv_istore (lv' := [(6, .int (nI (T 0 4))), (5, .int (nI (T 8 (h * 5 + v)))), (4, .int (nI v)), (3, .int (nI h)), (2, .int (nI z)), (0, .ref rx), (1, .int (nI y))]) hx hb dL_acts_316 hl (by decide) rfl (fun ls hl => ?_)
    have k40 := CI_8 hCI hh hv
    refine lv_iload hx hb dL_acts_318 (lv_at hl 1 rfl) ?_
    refine lv_if_eq (tgt := 374) hx hb dL_acts_320 (by decide) (fun c_320 => ?_) (fun c_320 => ?_)
    · skip
      replace c_320 := cn_eq (b := 0) (by omega) (by omega) c_320
      refine lv_iconst (v := (nI 1)) hx hb dL_acts_374 (by decide) ?_
      refine lv_goto (tgt := 379) hx hb dL_acts_375 (by decide) ?_
      exact ct_z ⟨(T, cnt, nx, Ts), (AP_id hT hSI hCI hc hn)⟩ hx hb hr hlocks hP hS (z_t trivial) dL_acts_379
    · skip
      replace c_320 := cn_ne (b := 0) c_320
      have m1 : z / 512 % T 8 (h * 5 + v) < T 8 (h * 5 + v) := Nat.mod_lt _ (by omega)
      refine lv_aload_n hx hb dL_acts_323 rfl (lv_at hl 5 rfl) ?_
      refine lv_iload_n hx hb dL_acts_324 rfl (lv_at hl 3 rfl) ?_
      refine lv_iload hx hb dL_acts_325 (lv_at hl 2 rfl) ?_
      refine lv_iconst (v := (nI 1)) hx hb dL_acts_327 (by decide) ?_
      refine lv_iload_n hx hb dL_acts_328 rfl (lv_at hl 4 rfl) ?_
      refine lv_bipush (v := (nI 9)) hx hb dL_acts_329 (by decide) ?_
      refine lv_ishr hx hb dL_acts_331 ?_
      rw [show nI z >>> ((nI 9) &&& 31) = nI (z / 512) from pk_shrN (by omega) ((nI 9) &&& 31) 9 (by decide +kernel)]
      refine lv_iload hx hb dL_acts_332 (lv_at hl 1 rfl) ?_
      refine lv_irem hx hb dL_acts_334 (nz_i (by omega) (by omega)) ?_
      rw [pk_rem (a := z / 512) (d := T 8 (h * 5 + v)) (by omega) (by omega) (by omega)]
      refine lv_iadd hx hb dL_acts_335 ?_
      rw [nI_add 1 ((z / 512) % (T 8 (h * 5 + v)))]
      refine gp_V (ci := 8) (q0 := 0) (cq := (RX8, TX8, 11)) (c_X8_give l D cI cZ cF cL rx tt a tr r3 rs rz b b0 s0 r5 r6 ra pa cnt nx Ts T h v (1 + ((z / 512) % (T 8 (h * 5 + v)))) hc hn hT (by omega) (by omega) (by omega) (by omega) (by omega)) (gUV w_408 w_409 w_410 w_2 w_411) rfl hdV_X8_give ⟨Nat.le_of_ble_eq_true rfl, Nat.le_of_ble_eq_true rfl⟩ ⟨rfl, rfl⟩ hx hb hml hown hts hK hA hP hD hS hl.1 ⟨Nat.le_of_ble_eq_true rfl, Nat.le_of_ble_eq_true rfl⟩ rfl rfl rfl (wr := (bX b0 kn kw)) (pm_cnt (fun _ => by simp only [List.countP_append, List.countP_nil, fT] <;> omega)) (fun _ => by simp only [List.map_append, List.map_nil, fX_m, bX_m, sX_m, pX_m, iaX_m, r5X_m, r6X_m, fT_m, hX_m, tX_m, xX_m, sgX_m, zaX_m, fsB_a]) (rest := []) rfl rfl (Nat.le_of_ble_eq_true rfl) dL_acts_336 (ws2 := (fun _ : Unit => (xX rx tt a tr r3 rs rz b b0 s0 r5 r6 ++ hX cF r3 ra pa (if cnt < 14 then cnt + 1 else cnt) ((nx + 1) % 14) ++ fX cI a ((gvT T h v (1 + ((z / 512) % (T 8 (h * 5 + v))))) 0 0) ((gvT T h v (1 + ((z / 512) % (T 8 (h * 5 + v))))) 0 1) ((gvT T h v (1 + ((z / 512) % (T 8 (h * 5 + v))))) 0 2) ((gvT T h v (1 + ((z / 512) % (T 8 (h * 5 + v))))) 0 3) ((gvT T h v (1 + ((z / 512) % (T 8 (h * 5 + v))))) 0 4) ((gvT T h v (1 + ((z / 512) % (T 8 (h * 5 + v))))) 0 5) ((gvT T h v (1 + ((z / 512) % (T 8 (h * 5 + v))))) 1) ((gvT T h v (1 + ((z / 512) % (T 8 (h * 5 + v))))) 2) ((gvT T h v (1 + ((z / 512) % (T 8 (h * 5 + v))))) 3) ((gvT T h v (1 + ((z / 512) % (T 8 (h * 5 + v))))) 4) ((gvT T h v (1 + ((z / 512) % (T 8 (h * 5 + v))))) 5) ((gvT T h v (1 + ((z / 512) % (T 8 (h * 5 + v))))) 6) ((gvT T h v (1 + ((z / 512) % (T 8 (h * 5 + v))))) 7) ((gvT T h v (1 + ((z / 512) % (T 8 (h * 5 + v))))) 8) ++ bX b0 kn kw ++ fsB cI pa (va_up Ts nx T) 14))) (fun _ => (pm_cnt (fun _ => by simp only [List.countP_append, List.countP_nil, fT] <;> omega))) (fun _ Hp locs hP hD hS => ?_)
      refine lv_iload hx hb dL_acts_339 (lv_at hl 1 rfl) ?_
      refine lv_iconst (v := (nI 1)) hx hb dL_acts_341 (by decide) ?_
      refine lv_isub hx hb dL_acts_342 ?_
      rw [pk_sub (a := T 8 (h * 5 + v)) (b := 1) (by omega)]
      refine lv_iload_n hx hb dL_acts_343 rfl (lv_at hl 4 rfl) ?_
      refine lv_bipush (v := (nI 9)) hx hb dL_acts_344 (by decide) ?_
      refine lv_ishr hx hb dL_acts_346 ?_
      rw [show nI z >>> ((nI 9) &&& 31) = nI (z / 512) from pk_shrN (by omega) ((nI 9) &&& 31) 9 (by decide +kernel)]
      refine lv_iload hx hb dL_acts_347 (lv_at hl 1 rfl) ?_
      refine lv_irem hx hb dL_acts_349 (nz_i (by omega) (by omega)) ?_
      rw [pk_rem (a := z / 512) (d := T 8 (h * 5 + v)) (by omega) (by omega) (by omega)]
      refine lv_isub hx hb dL_acts_350 ?_
      rw [pk_sub (a := (T 8 (h * 5 + v)) - 1) (b := (z / 512) % (T 8 (h * 5 + v))) (by omega)]
      refine lv_icmp_ne (tgt := 378) hx hb dL_acts_351 (by decide) (fun c_351 => ?_) (fun c_351 => ?_)
      · skip
        exact absurd (congrArg nI (by omega)) c_351
      · skip
        refine lv_aload_n hx hb dL_acts_354 rfl (lv_at hl 5 rfl) ?_
        refine lv_iconst (v := (nI 5)) hx hb dL_acts_355 (by decide) ?_
        refine gp_V (ci := 8) (q0 := 0) (cq := (RX8, TX8, 11)) (c_X8_about l D cI cZ cF cL rx tt a tr r3 rs rz b b0 s0 r5 r6 (gvT T h v (1 + ((z / 512) % (T 8 (h * 5 + v))))) 5 (FI_gv hT hh hv (by omega)) (by omega)) (gUV w_320 w_321 w_322 w_2 w_323) rfl hdV_X8_about ⟨Nat.le_of_ble_eq_true rfl, Nat.le_of_ble_eq_true rfl⟩ ⟨rfl, rfl⟩ hx hb hml hown hts hK hA hP hD hS hl.1 ⟨Nat.le_of_ble_eq_true rfl, Nat.le_of_ble_eq_true rfl⟩ rfl rfl rfl (wr := (hX cF r3 ra pa (if cnt < 14 then cnt + 1 else cnt) ((nx + 1) % 14) ++ bX b0 kn kw ++ fsB cI pa (va_up Ts nx T) 14)) (pm_cnt (fun _ => by simp only [List.countP_append, List.countP_nil, fT] <;> omega)) (fun _ => by simp only [List.map_append, List.map_nil, fX_m, bX_m, sX_m, pX_m, iaX_m, r5X_m, r6X_m, fT_m, hX_m, tX_m, xX_m, sgX_m, zaX_m, fsB_a]) (rest := []) rfl rfl (Nat.le_of_ble_eq_true rfl) dL_acts_356 (ws2 := (fun _ : Unit => (xX rx tt a tr r3 rs rz b b0 s0 r5 r6 ++ hX cF r3 ra pa (if cnt < 14 then cnt + 1 else cnt) ((nx + 1) % 14) ++ fX cI a ((gvT T h v (1 + ((z / 512) % (T 8 (h * 5 + v))))) 0 0) ((gvT T h v (1 + ((z / 512) % (T 8 (h * 5 + v))))) 0 1) ((gvT T h v (1 + ((z / 512) % (T 8 (h * 5 + v))))) 0 2) ((gvT T h v (1 + ((z / 512) % (T 8 (h * 5 + v))))) 0 3) ((gvT T h v (1 + ((z / 512) % (T 8 (h * 5 + v))))) 0 4) ((gvT T h v (1 + ((z / 512) % (T 8 (h * 5 + v))))) 0 5) ((gvT T h v (1 + ((z / 512) % (T 8 (h * 5 + v))))) 1) ((gvT T h v (1 + ((z / 512) % (T 8 (h * 5 + v))))) 2) ((gvT T h v (1 + ((z / 512) % (T 8 (h * 5 + v))))) 3) ((gvT T h v (1 + ((z / 512) % (T 8 (h * 5 + v))))) 4) ((gvT T h v (1 + ((z / 512) % (T 8 (h * 5 + v))))) 5) ((gvT T h v (1 + ((z / 512) % (T 8 (h * 5 + v))))) 6) ((gvT T h v (1 + ((z / 512) % (T 8 (h * 5 + v))))) 7) ((gvT T h v (1 + ((z / 512) % (T 8 (h * 5 + v))))) 8) ++ bX b0 kn kw ++ fsB cI pa (va_up Ts nx T) 14))) (fun _ => (pm_cnt (fun _ => by simp only [List.countP_append, List.countP_nil, fT] <;> omega))) (fun _ Hp locs hP hD hS => ?_)
        rw [show (nI (abV (gvT T h v (1 + ((z / 512) % (T 8 (h * 5 + v))))) 5)) = (nI (T 0 4 + (1 + z / 512 % T 8 (h * 5 + v)))) from rfl]
        refine lv_iload hx hb dL_acts_359 (lv_at hl 0 rfl) ?_
        refine lv_iconst (v := (nI 1)) hx hb dL_acts_361 (by decide) ?_
        refine lv_iadd hx hb dL_acts_362 ?_
        rw [nI_add (T 0 4) 1]
        refine lv_iload_n hx hb dL_acts_363 rfl (lv_at hl 4 rfl) ?_
        refine lv_bipush (v := (nI 9)) hx hb dL_acts_364 (by decide) ?_
        refine lv_ishr hx hb dL_acts_366 ?_
        rw [show nI z >>> ((nI 9) &&& 31) = nI (z / 512) from pk_shrN (by omega) ((nI 9) &&& 31) 9 (by decide +kernel)]
        refine lv_iload hx hb dL_acts_367 (lv_at hl 1 rfl) ?_
        refine lv_irem hx hb dL_acts_369 (nz_i (by omega) (by omega)) ?_
        rw [pk_rem (a := z / 512) (d := T 8 (h * 5 + v)) (by omega) (by omega) (by omega)]
        refine lv_iadd hx hb dL_acts_370 ?_
        rw [nI_add ((T 0 4) + 1) ((z / 512) % (T 8 (h * 5 + v)))]
        refine lv_icmp_ne (tgt := 378) hx hb dL_acts_371 (by decide) (fun c_371 => ?_) (fun c_371 => ?_)
        · skip
          exact absurd (congrArg nI (by omega)) c_371
        · skip
          refine lv_iconst (v := (nI 1)) hx hb dL_acts_374 (by decide) ?_
          refine lv_goto (tgt := 379) hx hb dL_acts_375 (by decide) ?_
          exact ct_z ⟨(gvT T h v (1 + ((z / 512) % (T 8 (h * 5 + v)))), if cnt < 14 then cnt + 1 else cnt, (nx + 1) % 14, va_up Ts nx T), (AP_gv hT hSI hCI hc hh hv (by omega))⟩ hx hb hr hlocks hP hS (z_t trivial) dL_acts_379
  refine lv_tableOut (tgt := 380) hx hb dL_acts_27 (tb_out 0 7 (fun j hj => match j, hj with | 0, _ => c_27_0 | 1, _ => c_27_1 | 2, _ => c_27_2 | 3, _ => c_27_3 | 4, _ => c_27_4 | 5, _ => c_27_5 | 6, _ => c_27_6 | k + 7, hj => absurd hj (by omega)) (by decide) rfl rfl) (by decide) ?_
  refine lv_iconst (v := (nI 1)) hx hb dL_acts_380 (by decide) ?_
  exact ct_z ⟨(T, cnt, nx, Ts), (AP_id hT hSI hCI hc hn)⟩ hx hb hr hlocks hP hS (z_t trivial) dL_acts_381
