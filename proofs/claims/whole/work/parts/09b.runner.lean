def r5X (r : Nat) (a b : Nat → Nat) : va_W := [(r, .inr (5, [.ref (a 0), .ref (b 0)]))]
def r6X (r : Nat) (a b : Nat → Nat) (x : Int64) : va_W := [(r, .inr (6, [.ref (a 0), .ref (b 0), .long x]))]
theorem hhI {h n : Nat} (hh : h < 2 ^ 20) (hn : n < 2 ^ 20) : (0 ≤ nI h ∧ nI h < nI n) ↔ h < n :=
  ⟨fun q => (nI_ltI (by omega) (by omega)).mp q.2, fun q => ⟨nI_pos' (by omega), (nI_ltI (by omega) (by omega)).mpr q⟩⟩
set_option maxRecDepth 20000 in
theorem u_110 : Cond.fieldLink RX5 12 "HarvestBoxes$ScriptRunner" "farm" "LHarvestBoxes$Farm;" ∈ wsL_law := List.mem_of_getElem? (i := 110) (by decide +kernel)
set_option maxRecDepth 20000 in
theorem u_386 : Cond.code yX1_hasHouse cX1_hasHouse 2 (some .boolean) ∈ wsL_law := List.mem_of_getElem? (i := 386) (by decide +kernel)
set_option maxRecDepth 20000 in
theorem u_838 : Cond.methodLink RX5 59 yX1_hasHouse ∈ wsL_law := List.mem_of_getElem? (i := 838) (by decide +kernel)
set_option maxRecDepth 20000 in
theorem u_384 : Cond.instanceMethod yX1_hasHouse ∈ wsL_law := List.mem_of_getElem? (i := 384) (by decide +kernel)
set_option maxRecDepth 20000 in
theorem u_385 : Cond.selects RX1 yX1_hasHouse yX1_hasHouse ∈ wsL_law := List.mem_of_getElem? (i := 385) (by decide +kernel)
set_option maxRecDepth 20000 in
theorem u_421 : Cond.code yX1_hasVegetable cX1_hasVegetable 2 (some .boolean) ∈ wsL_law := List.mem_of_getElem? (i := 421) (by decide +kernel)
set_option maxRecDepth 20000 in
theorem u_828 : Cond.methodLink RX5 82 yX1_hasVegetable ∈ wsL_law := List.mem_of_getElem? (i := 828) (by decide +kernel)
set_option maxRecDepth 20000 in
theorem u_419 : Cond.instanceMethod yX1_hasVegetable ∈ wsL_law := List.mem_of_getElem? (i := 419) (by decide +kernel)
set_option maxRecDepth 20000 in
theorem u_420 : Cond.selects RX1 yX1_hasVegetable yX1_hasVegetable ∈ wsL_law := List.mem_of_getElem? (i := 420) (by decide +kernel)
theorem hdV_X1_hasHouse : yX1_hasHouse.cls = RX1 ∧ yX1_hasHouse.cls ≠ "java/lang/invoke/MethodHandle" ∧ yX1_hasHouse.cls ≠ "java/lang/invoke/VarHandle" ∧ (parseMethodDescriptor yX1_hasHouse.desc).map (fun d => d.parameters.length) = some 1 := by decide +kernel
theorem hdV_X1_hasVegetable : yX1_hasVegetable.cls = RX1 ∧ yX1_hasVegetable.cls ≠ "java/lang/invoke/MethodHandle" ∧ yX1_hasVegetable.cls ≠ "java/lang/invoke/VarHandle" ∧ (parseMethodDescriptor yX1_hasVegetable.desc).map (fun d => d.parameters.length) = some 1 := by decide +kernel
set_option maxHeartbeats 4000000 in
set_option maxRecDepth 100000 in
theorem c_X5_hasCell (l : Launch) (D : va_G) (cI cZ cF cL : ClassId) (r0 : Nat) (b : Nat → Nat) (a : Nat → Nat) (nH nV wk ea gi sw : Nat) (f1 f2 f3 f4 f5 f6 f7 f8 : Nat → Nat) (h v : Nat) (hH : nH ≤ 6) (hV : nV ≤ 5) (sh : h < 2 ^ 20) (sv : v < 2 ^ 20) : CT l D (tysX cI cZ cF cL) yX5_hasCell (wA yX5_hasCell cX5_hasCell 3 (some .boolean)) (rmF 1 21) [.ref r0, .int (nI h), .int (nI v)] (r5X r0 a b ++ fX cI a nH nV wk ea gi sw f1 f2 f3 f4 f5 f6 f7 f8) (some (.int (if (h < nH ∧ v < nV) then 1 else 0))) (fun _ : Unit => (r5X r0 a b ++ fX cI a nH nV wk ea gi sw f1 f2 f3 f4 f5 f6 f7 f8)) := by
  refine ct_in (cc := cX5_hasCell) (maxL := 3) (ret := (some .boolean)) (own := RX5) (lv := [(0, .ref r0), (1, .int (nI h)), (2, .int (nI v))]) (by decide +kernel) rfl rfl (Nat.le_of_ble_eq_true rfl) rfl ?_
  intro p e s m args below meth c A ls hx hb hr hml hts hown hlocks hK hA hP hD hS hl
  refine lv_aload_n hx hb dX5_hasCell_0 rfl (lv_at hl 0 rfl) ?_
  refine gf_n (C := RX5) (T := TX5) (N := 2) (ci := 5) (q0 := 0) (v := .ref (a 0)) hx hb hts (iU inlX5) hown hK hP rfl rfl 0 (by decide) (kU u_110) rfl rfl dX5_hasCell_1 ?_
  refine lv_iload_n hx hb dX5_hasCell_4 rfl (lv_at hl 1 rfl) ?_
  refine go_V (ci := 1) (q0 := 1) (cq := (RX1, TX1, 14)) (c_X1_hasHouse l D cI cZ cF cL a nH nV wk ea gi sw f1 f2 f3 f4 f5 f6 f7 f8 ((nI h)) (by omega)) (gUV u_838 u_384 u_385 u_20 u_386) rfl hdV_X1_hasHouse ⟨Nat.le_of_ble_eq_true rfl, Nat.le_of_ble_eq_true rfl⟩ ⟨rfl, rfl⟩ hx hb hml hown hts hK hA hP hD hS hl.1 ⟨Nat.le_of_ble_eq_true rfl, Nat.le_of_ble_eq_true rfl⟩ rfl rfl rfl [1, 2, 3, 4, 5, 6, 7, 8, 9] rfl rfl (fun _ => rfl) (rest := []) rfl rfl (Nat.le_of_ble_eq_true rfl) dX5_hasCell_5 (ws2 := (fun _ : Unit => (r5X r0 a b ++ fX cI a nH nV wk ea gi sw f1 f2 f3 f4 f5 f6 f7 f8))) (fun _ => rfl) (fun _ Hp locs hP hD hS => ?_)
  refine lv_if_eq (tgt := 26) hx hb dX5_hasCell_8 (by decide) (fun c_8 => ?_) (fun c_8 => ?_)
  · skip
    replace c_8 := cb_z c_8
    replace c_8 : ¬ h < nH := fun q => c_8 ((hhI (by omega) (by omega)).mpr q)
    refine lv_iconst (v := (nI 0)) hx hb dX5_hasCell_26 (by decide) ?_
    exact ct_z () hx hb hr hlocks hP hS (by first | exact z_f (fun q => c_8 q.1) | exact z_t ⟨c_8, c_19⟩ | exact z_f (fun q => c_19 q.2)) dX5_hasCell_27
  · skip
    replace c_8 := cb_nz c_8
    replace c_8 : h < nH := (hhI (by omega) (by omega)).mp c_8
    refine lv_aload_n hx hb dX5_hasCell_11 rfl (lv_at hl 0 rfl) ?_
    refine gf_n (C := RX5) (T := TX5) (N := 2) (ci := 5) (q0 := 0) (v := .ref (a 0)) hx hb hts (iU inlX5) hown hK hP rfl rfl 0 (by decide) (kU u_110) rfl rfl dX5_hasCell_12 ?_
    refine lv_iload_n hx hb dX5_hasCell_15 rfl (lv_at hl 2 rfl) ?_
    refine go_V (ci := 1) (q0 := 1) (cq := (RX1, TX1, 14)) (c_X1_hasVegetable l D cI cZ cF cL a nH nV wk ea gi sw f1 f2 f3 f4 f5 f6 f7 f8 ((nI v)) (by omega)) (gUV u_828 u_419 u_420 u_20 u_421) rfl hdV_X1_hasVegetable ⟨Nat.le_of_ble_eq_true rfl, Nat.le_of_ble_eq_true rfl⟩ ⟨rfl, rfl⟩ hx hb hml hown hts hK hA hP hD hS hl.1 ⟨Nat.le_of_ble_eq_true rfl, Nat.le_of_ble_eq_true rfl⟩ rfl rfl rfl [1, 2, 3, 4, 5, 6, 7, 8, 9] rfl rfl (fun _ => rfl) (rest := []) rfl rfl (Nat.le_of_ble_eq_true rfl) dX5_hasCell_16 (ws2 := (fun _ : Unit => (r5X r0 a b ++ fX cI a nH nV wk ea gi sw f1 f2 f3 f4 f5 f6 f7 f8))) (fun _ => rfl) (fun _ Hp locs hP hD hS => ?_)
    refine lv_if_eq (tgt := 26) hx hb dX5_hasCell_19 (by decide) (fun c_19 => ?_) (fun c_19 => ?_)
    · skip
      replace c_19 := cb_z c_19
      replace c_19 : ¬ v < nV := fun q => c_19 ((hhI (by omega) (by omega)).mpr q)
      refine lv_iconst (v := (nI 0)) hx hb dX5_hasCell_26 (by decide) ?_
      exact ct_z () hx hb hr hlocks hP hS (by first | exact z_f (fun q => c_8 q.1) | exact z_t ⟨c_8, c_19⟩ | exact z_f (fun q => c_19 q.2)) dX5_hasCell_27
    · skip
      replace c_19 := cb_nz c_19
      replace c_19 : v < nV := (hhI (by omega) (by omega)).mp c_19
      refine lv_iconst (v := (nI 1)) hx hb dX5_hasCell_22 (by decide) ?_
      refine lv_goto (tgt := 27) hx hb dX5_hasCell_23 (by decide) ?_
      exact ct_z () hx hb hr hlocks hP hS (by first | exact z_f (fun q => c_8 q.1) | exact z_t ⟨c_8, c_19⟩ | exact z_f (fun q => c_19 q.2)) dX5_hasCell_27
set_option maxRecDepth 20000 in
theorem u_827 : Cond.fieldLink RX5 85 "HarvestBoxes$Farm" "harvest" "[I" ∈ wsL_law := List.mem_of_getElem? (i := 827) (by decide +kernel)
set_option maxHeartbeats 4000000 in
set_option maxRecDepth 100000 in
theorem c_X5_setsHarvest (l : Launch) (D : va_G) (cI cZ cF cL : ClassId) (r0 : Nat) (b : Nat → Nat) (a : Nat → Nat) (nH nV wk ea gi sw : Nat) (f1 f2 f3 f4 f5 f6 f7 f8 : Nat → Nat) (v n : Nat) (hH : nH ≤ 6) (hV : nV ≤ 5) (sv : v < 2 ^ 20) (sn : n < 2 ^ 20) : CT l D (tysX cI cZ cF cL) yX5_setsHarvest (wA yX5_setsHarvest cX5_setsHarvest 3 (some .boolean)) (rmF 1 21) [.ref r0, .int (nI v), .int (nI n)] (r5X r0 a b ++ fX cI a nH nV wk ea gi sw f1 f2 f3 f4 f5 f6 f7 f8) (some (.int (if (v < nV ∧ n ≤ 40) then 1 else 0))) (fun _ : Unit => (r5X r0 a b ++ fX cI a nH nV wk ea gi sw f1 f2 f3 f4 (if (v < nV ∧ n ≤ 40) then va_up f5 v n else f5) f6 f7 f8)) := by
  refine ct_in (cc := cX5_setsHarvest) (maxL := 3) (ret := (some .boolean)) (own := RX5) (lv := [(0, .ref r0), (1, .int (nI v)), (2, .int (nI n))]) (by decide +kernel) rfl rfl (Nat.le_of_ble_eq_true rfl) rfl ?_
  intro p e s m args below meth c A ls hx hb hr hml hts hown hlocks hK hA hP hD hS hl
  refine lv_aload_n hx hb dX5_setsHarvest_0 rfl (lv_at hl 0 rfl) ?_
  refine gf_n (C := RX5) (T := TX5) (N := 2) (ci := 5) (q0 := 0) (v := .ref (a 0)) hx hb hts (iU inlX5) hown hK hP rfl rfl 0 (by decide) (kU u_110) rfl rfl dX5_setsHarvest_1 ?_
  refine lv_iload_n hx hb dX5_setsHarvest_4 rfl (lv_at hl 1 rfl) ?_
  refine go_V (ci := 1) (q0 := 1) (cq := (RX1, TX1, 14)) (c_X1_hasVegetable l D cI cZ cF cL a nH nV wk ea gi sw f1 f2 f3 f4 f5 f6 f7 f8 ((nI v)) (by omega)) (gUV u_828 u_419 u_420 u_20 u_421) rfl hdV_X1_hasVegetable ⟨Nat.le_of_ble_eq_true rfl, Nat.le_of_ble_eq_true rfl⟩ ⟨rfl, rfl⟩ hx hb hml hown hts hK hA hP hD hS hl.1 ⟨Nat.le_of_ble_eq_true rfl, Nat.le_of_ble_eq_true rfl⟩ rfl rfl rfl [1, 2, 3, 4, 5, 6, 7, 8, 9] rfl rfl (fun _ => rfl) (rest := []) rfl rfl (Nat.le_of_ble_eq_true rfl) dX5_setsHarvest_5 (ws2 := (fun _ : Unit => (r5X r0 a b ++ fX cI a nH nV wk ea gi sw f1 f2 f3 f4 f5 f6 f7 f8))) (fun _ => rfl) (fun _ Hp locs hP hD hS => ?_)
  refine lv_if_eq (tgt := 17) hx hb dX5_setsHarvest_8 (by decide) (fun c_8 => ?_) (fun c_8 => ?_)
  · skip
    replace c_8 := cb_z c_8
    replace c_8 : ¬ v < nV := fun q => c_8 ((hhI (by omega) (by omega)).mpr q)
    refine lv_iconst (v := (nI 0)) hx hb dX5_setsHarvest_17 (by decide) ?_
    exact ct_z () hx hb hr hlocks (by rw [if_neg (by omega)]; exact hP) hS (z_f (by omega)) dX5_setsHarvest_18
  · skip
    replace c_8 := cb_nz c_8
    replace c_8 : v < nV := (hhI (by omega) (by omega)).mp c_8
    refine lv_iload_n hx hb dX5_setsHarvest_11 rfl (lv_at hl 2 rfl) ?_
    refine lv_bipush (v := (nI 40)) hx hb dX5_setsHarvest_12 (by decide) ?_
    refine lv_icmp_le (tgt := 19) hx hb dX5_setsHarvest_14 (by decide) (fun c_14 => ?_) (fun c_14 => ?_)
    · skip
      replace c_14 := cn_le (by omega) (by omega) c_14
      refine lv_aload_n hx hb dX5_setsHarvest_19 rfl (lv_at hl 0 rfl) ?_
      refine gf_n (C := RX5) (T := TX5) (N := 2) (ci := 5) (q0 := 0) (v := .ref (a 0)) hx hb hts (iU inlX5) hown hK hP rfl rfl 0 (by decide) (kU u_110) rfl rfl dX5_setsHarvest_20 ?_
      refine gf_n (C := RX1) (T := TX1) (N := 14) (ci := 1) (q0 := 1) (v := .ref (a 5)) hx hb hts (iU inlX1) hown hK hP rfl rfl 10 (by decide) (kU u_827) rfl rfl dX5_setsHarvest_23 ?_
      refine lv_iload_n hx hb dX5_setsHarvest_26 rfl (lv_at hl 1 rfl) ?_
      refine lv_iload_n hx hb dX5_setsHarvest_27 rfl (lv_at hl 2 rfl) ?_
      refine is_n (q0 := 6) (t0 := 0) (ws2 := (r5X r0 a b ++ fX cI a nH nV wk ea gi sw f1 f2 f3 f4 (va_up f5 v n) f6 f7 f8)) hx hb hK hP hD hS rfl rfl (by omega) (by decide) dX5_setsHarvest_28 rfl (fun Hp locs hP hD hS => ?_)
      refine lv_iconst (v := (nI 1)) hx hb dX5_setsHarvest_29 (by decide) ?_
      exact ct_z () hx hb hr hlocks (by rw [if_pos ⟨c_8, c_14⟩]; exact hP) hS (z_t ⟨c_8, c_14⟩) dX5_setsHarvest_30
    · skip
      replace c_14 := cn_nle (by omega) (by omega) c_14
      refine lv_iconst (v := (nI 0)) hx hb dX5_setsHarvest_17 (by decide) ?_
      exact ct_z () hx hb hr hlocks (by rw [if_neg (by omega)]; exact hP) hS (z_f (by omega)) dX5_setsHarvest_18
set_option maxRecDepth 20000 in
theorem u_837 : Cond.code yX5_hasCell cX5_hasCell 3 (some .boolean) ∈ wsL_law := List.mem_of_getElem? (i := 837) (by decide +kernel)
set_option maxRecDepth 20000 in
theorem u_834 : Cond.methodLink RX5 67 yX5_hasCell ∈ wsL_law := List.mem_of_getElem? (i := 834) (by decide +kernel)
set_option maxRecDepth 20000 in
theorem u_835 : Cond.instanceMethod yX5_hasCell ∈ wsL_law := List.mem_of_getElem? (i := 835) (by decide +kernel)
set_option maxRecDepth 20000 in
theorem u_836 : Cond.selects RX5 yX5_hasCell yX5_hasCell ∈ wsL_law := List.mem_of_getElem? (i := 836) (by decide +kernel)
set_option maxRecDepth 20000 in
theorem u_44 : Cond.initialized RX5 ∈ wsL_law := List.mem_of_getElem? (i := 44) (by decide +kernel)
set_option maxRecDepth 20000 in
theorem u_833 : Cond.fieldLink RX5 88 "HarvestBoxes$Farm" "likings" "[I" ∈ wsL_law := List.mem_of_getElem? (i := 833) (by decide +kernel)
theorem hdV_X5_hasCell : yX5_hasCell.cls = RX5 ∧ yX5_hasCell.cls ≠ "java/lang/invoke/MethodHandle" ∧ yX5_hasCell.cls ≠ "java/lang/invoke/VarHandle" ∧ (parseMethodDescriptor yX5_hasCell.desc).map (fun d => d.parameters.length) = some 2 := by decide +kernel
set_option maxHeartbeats 4000000 in
set_option maxRecDepth 100000 in
theorem c_X5_setsLiking (l : Launch) (D : va_G) (cI cZ cF cL : ClassId) (r0 : Nat) (b : Nat → Nat) (a : Nat → Nat) (nH nV wk ea gi sw : Nat) (f1 f2 f3 f4 f5 f6 f7 f8 : Nat → Nat) (h v n : Nat) (hH : nH ≤ 6) (hV : nV ≤ 5) (sh : h < 2 ^ 20) (sv : v < 2 ^ 20) (sn : n < 2 ^ 20) : CT l D (tysX cI cZ cF cL) yX5_setsLiking (wA yX5_setsLiking cX5_setsLiking 4 (some .boolean)) (rmF 2 43) [.ref r0, .int (nI h), .int (nI v), .int (nI n)] (r5X r0 a b ++ fX cI a nH nV wk ea gi sw f1 f2 f3 f4 f5 f6 f7 f8) (some (.int (if (h < nH ∧ v < nV) then 1 else 0))) (fun _ : Unit => (r5X r0 a b ++ fX cI a nH nV wk ea gi sw f1 f2 f3 f4 f5 f6 (if (h < nH ∧ v < nV) then va_up f7 (h * 5 + v) n else f7) f8)) := by
  refine ct_in (cc := cX5_setsLiking) (maxL := 4) (ret := (some .boolean)) (own := RX5) (lv := [(0, .ref r0), (1, .int (nI h)), (2, .int (nI v)), (3, .int (nI n))]) (by decide +kernel) rfl rfl (Nat.le_of_ble_eq_true rfl) rfl ?_
  intro p e s m args below meth c A ls hx hb hr hml hts hown hlocks hK hA hP hD hS hl
  refine lv_aload_n hx hb dX5_setsLiking_0 rfl (lv_at hl 0 rfl) ?_
  refine lv_iload_n hx hb dX5_setsLiking_1 rfl (lv_at hl 1 rfl) ?_
  refine lv_iload_n hx hb dX5_setsLiking_2 rfl (lv_at hl 2 rfl) ?_
  refine go_V (ci := 5) (q0 := 0) (cq := (RX5, TX5, 2)) (c_X5_hasCell l D cI cZ cF cL r0 b a nH nV wk ea gi sw f1 f2 f3 f4 f5 f6 f7 f8 h v (by omega) (by omega) (by omega) (by omega)) (gUV u_834 u_835 u_836 u_44 u_837) rfl hdV_X5_hasCell ⟨Nat.le_of_ble_eq_true rfl, Nat.le_of_ble_eq_true rfl⟩ ⟨rfl, rfl⟩ hx hb hml hown hts hK hA hP hD hS hl.1 ⟨Nat.le_of_ble_eq_true rfl, Nat.le_of_ble_eq_true rfl⟩ rfl rfl rfl [0, 1, 2, 3, 4, 5, 6, 7, 8, 9] rfl rfl (fun _ => rfl) (rest := []) rfl rfl (Nat.le_of_ble_eq_true rfl) dX5_setsLiking_3 (ws2 := (fun _ : Unit => (r5X r0 a b ++ fX cI a nH nV wk ea gi sw f1 f2 f3 f4 f5 f6 f7 f8))) (fun _ => rfl) (fun _ Hp locs hP hD hS => ?_)
  refine lv_if_ne (tgt := 11) hx hb dX5_setsLiking_6 (by decide) (fun c_6 => ?_) (fun c_6 => ?_)
  · skip
    replace c_6 := cb_nz c_6
    refine lv_aload_n hx hb dX5_setsLiking_11 rfl (lv_at hl 0 rfl) ?_
    refine gf_n (C := RX5) (T := TX5) (N := 2) (ci := 5) (q0 := 0) (v := .ref (a 0)) hx hb hts (iU inlX5) hown hK hP rfl rfl 0 (by decide) (kU u_110) rfl rfl dX5_setsLiking_12 ?_
    refine gf_n (C := RX1) (T := TX1) (N := 14) (ci := 1) (q0 := 1) (v := .ref (a 7)) hx hb hts (iU inlX1) hown hK hP rfl rfl 12 (by decide) (kU u_833) rfl rfl dX5_setsLiking_15 ?_
    refine lv_iload_n hx hb dX5_setsLiking_18 rfl (lv_at hl 1 rfl) ?_
    refine lv_iload_n hx hb dX5_setsLiking_19 rfl (lv_at hl 2 rfl) ?_
    refine go_SN (ni := 7) (c_X8_cell l D cI cZ cF cL h v ) (gU u_245) rfl hdS_X8_cell ⟨Nat.le_of_ble_eq_true rfl, Nat.le_of_ble_eq_true rfl⟩ ⟨rfl, rfl⟩ rfl (hts _ (kU u_2)) (hts _ (kU u_244)) hx hb hml hown hts hK hA hP hD hS hl.1 ⟨Nat.le_of_ble_eq_true rfl, Nat.le_of_ble_eq_true rfl⟩ [] rfl rfl (fun _ => rfl) (rest := [.ref (a 7)]) rfl rfl (Nat.le_of_ble_eq_true rfl) dX5_setsLiking_20 (ws2 := (fun _ : Unit => (r5X r0 a b ++ fX cI a nH nV wk ea gi sw f1 f2 f3 f4 f5 f6 f7 f8))) (fun _ => rfl) (fun _ Hp locs hP hD hS => ?_)
    refine lv_iload_n hx hb dX5_setsLiking_23 rfl (lv_at hl 3 rfl) ?_
    refine is_n (q0 := 8) (t0 := 0) (ws2 := (r5X r0 a b ++ fX cI a nH nV wk ea gi sw f1 f2 f3 f4 f5 f6 (va_up f7 (h * 5 + v) n) f8)) hx hb hK hP hD hS rfl rfl (by omega) (by decide) dX5_setsLiking_24 rfl (fun Hp locs hP hD hS => ?_)
    refine lv_iconst (v := (nI 1)) hx hb dX5_setsLiking_25 (by decide) ?_
    exact ct_z () hx hb hr hlocks (by rw [if_pos c_6]; exact hP) hS (z_t c_6) dX5_setsLiking_26
  · skip
    replace c_6 := cb_z c_6
    refine lv_iconst (v := (nI 0)) hx hb dX5_setsLiking_9 (by decide) ?_
    exact ct_z () hx hb hr hlocks (by rw [if_neg c_6]; exact hP) hS (z_f c_6) dX5_setsLiking_10
set_option maxRecDepth 20000 in
theorem u_843 : Cond.fieldLink RX5 91 "HarvestBoxes$Farm" "skipping" "[I" ∈ wsL_law := List.mem_of_getElem? (i := 843) (by decide +kernel)
set_option maxHeartbeats 4000000 in
set_option maxRecDepth 100000 in
theorem c_X5_setsSkip (l : Launch) (D : va_G) (cI cZ cF cL : ClassId) (r0 : Nat) (b : Nat → Nat) (a : Nat → Nat) (nH nV wk ea gi sw : Nat) (f1 f2 f3 f4 f5 f6 f7 f8 : Nat → Nat) (h n : Nat) (hH : nH ≤ 6) (hV : nV ≤ 5) (sh : h < 2 ^ 20) (sn : n < 2 ^ 20) : CT l D (tysX cI cZ cF cL) yX5_setsSkip (wA yX5_setsSkip cX5_setsSkip 3 (some .boolean)) (rmF 1 21) [.ref r0, .int (nI h), .int (nI n)] (r5X r0 a b ++ fX cI a nH nV wk ea gi sw f1 f2 f3 f4 f5 f6 f7 f8) (some (.int (if (h < nH ∧ n ≤ 1) then 1 else 0))) (fun _ : Unit => (r5X r0 a b ++ fX cI a nH nV wk ea gi sw f1 f2 f3 (if (h < nH ∧ n ≤ 1) then va_up f4 h n else f4) f5 f6 f7 f8)) := by
  refine ct_in (cc := cX5_setsSkip) (maxL := 3) (ret := (some .boolean)) (own := RX5) (lv := [(0, .ref r0), (1, .int (nI h)), (2, .int (nI n))]) (by decide +kernel) rfl rfl (Nat.le_of_ble_eq_true rfl) rfl ?_
  intro p e s m args below meth c A ls hx hb hr hml hts hown hlocks hK hA hP hD hS hl
  refine lv_aload_n hx hb dX5_setsSkip_0 rfl (lv_at hl 0 rfl) ?_
  refine gf_n (C := RX5) (T := TX5) (N := 2) (ci := 5) (q0 := 0) (v := .ref (a 0)) hx hb hts (iU inlX5) hown hK hP rfl rfl 0 (by decide) (kU u_110) rfl rfl dX5_setsSkip_1 ?_
  refine lv_iload_n hx hb dX5_setsSkip_4 rfl (lv_at hl 1 rfl) ?_
  refine go_V (ci := 1) (q0 := 1) (cq := (RX1, TX1, 14)) (c_X1_hasHouse l D cI cZ cF cL a nH nV wk ea gi sw f1 f2 f3 f4 f5 f6 f7 f8 ((nI h)) (by omega)) (gUV u_838 u_384 u_385 u_20 u_386) rfl hdV_X1_hasHouse ⟨Nat.le_of_ble_eq_true rfl, Nat.le_of_ble_eq_true rfl⟩ ⟨rfl, rfl⟩ hx hb hml hown hts hK hA hP hD hS hl.1 ⟨Nat.le_of_ble_eq_true rfl, Nat.le_of_ble_eq_true rfl⟩ rfl rfl rfl [1, 2, 3, 4, 5, 6, 7, 8, 9] rfl rfl (fun _ => rfl) (rest := []) rfl rfl (Nat.le_of_ble_eq_true rfl) dX5_setsSkip_5 (ws2 := (fun _ : Unit => (r5X r0 a b ++ fX cI a nH nV wk ea gi sw f1 f2 f3 f4 f5 f6 f7 f8))) (fun _ => rfl) (fun _ Hp locs hP hD hS => ?_)
  refine lv_if_eq (tgt := 16) hx hb dX5_setsSkip_8 (by decide) (fun c_8 => ?_) (fun c_8 => ?_)
  · skip
    replace c_8 := cb_z c_8
    replace c_8 : ¬ h < nH := fun q => c_8 ((hhI (by omega) (by omega)).mpr q)
    refine lv_iconst (v := (nI 0)) hx hb dX5_setsSkip_16 (by decide) ?_
    exact ct_z () hx hb hr hlocks (by rw [if_neg (by omega)]; exact hP) hS (z_f (by omega)) dX5_setsSkip_17
  · skip
    replace c_8 := cb_nz c_8
    replace c_8 : h < nH := (hhI (by omega) (by omega)).mp c_8
    refine lv_iload_n hx hb dX5_setsSkip_11 rfl (lv_at hl 2 rfl) ?_
    refine lv_iconst (v := (nI 1)) hx hb dX5_setsSkip_12 (by decide) ?_
    refine lv_icmp_le (tgt := 18) hx hb dX5_setsSkip_13 (by decide) (fun c_13 => ?_) (fun c_13 => ?_)
    · skip
      replace c_13 := cn_le (by omega) (by omega) c_13
      refine lv_aload_n hx hb dX5_setsSkip_18 rfl (lv_at hl 0 rfl) ?_
      refine gf_n (C := RX5) (T := TX5) (N := 2) (ci := 5) (q0 := 0) (v := .ref (a 0)) hx hb hts (iU inlX5) hown hK hP rfl rfl 0 (by decide) (kU u_110) rfl rfl dX5_setsSkip_19 ?_
      refine gf_n (C := RX1) (T := TX1) (N := 14) (ci := 1) (q0 := 1) (v := .ref (a 4)) hx hb hts (iU inlX1) hown hK hP rfl rfl 9 (by decide) (kU u_843) rfl rfl dX5_setsSkip_22 ?_
      refine lv_iload_n hx hb dX5_setsSkip_25 rfl (lv_at hl 1 rfl) ?_
      refine lv_iload_n hx hb dX5_setsSkip_26 rfl (lv_at hl 2 rfl) ?_
      refine is_n (q0 := 5) (t0 := 0) (ws2 := (r5X r0 a b ++ fX cI a nH nV wk ea gi sw f1 f2 f3 (va_up f4 h n) f5 f6 f7 f8)) hx hb hK hP hD hS rfl rfl (by omega) (by decide) dX5_setsSkip_27 rfl (fun Hp locs hP hD hS => ?_)
      refine lv_iconst (v := (nI 1)) hx hb dX5_setsSkip_28 (by decide) ?_
      exact ct_z () hx hb hr hlocks (by rw [if_pos ⟨c_8, c_13⟩]; exact hP) hS (z_t ⟨c_8, c_13⟩) dX5_setsSkip_29
    · skip
      replace c_13 := cn_nle (by omega) (by omega) c_13
      refine lv_iconst (v := (nI 0)) hx hb dX5_setsSkip_16 (by decide) ?_
      exact ct_z () hx hb hr hlocks (by rw [if_neg (by omega)]; exact hP) hS (z_f (by omega)) dX5_setsSkip_17
set_option maxRecDepth 20000 in
theorem u_849 : Cond.fieldLink RX5 94 "HarvestBoxes$Farm" "owed" "[I" ∈ wsL_law := List.mem_of_getElem? (i := 849) (by decide +kernel)
set_option maxHeartbeats 4000000 in
set_option maxRecDepth 100000 in
theorem c_X5_returnsCrates (l : Launch) (D : va_G) (cI cZ cF cL : ClassId) (r0 : Nat) (b : Nat → Nat) (a : Nat → Nat) (nH nV wk ea gi sw : Nat) (f1 f2 f3 f4 f5 f6 f7 f8 : Nat → Nat) (h n : Nat) (hH : nH ≤ 6) (hV : nV ≤ 5) (sh : h < 2 ^ 20) (sn : n < 2 ^ 20) (b2 : ∀ h, h < 6 → f2 h ≤ 9) : CT l D (tysX cI cZ cF cL) yX5_returnsCrates (wA yX5_returnsCrates cX5_returnsCrates 3 (some .boolean)) (rmF 1 21) [.ref r0, .int (nI h), .int (nI n)] (r5X r0 a b ++ fX cI a nH nV wk ea gi sw f1 f2 f3 f4 f5 f6 f7 f8) (some (.int (if (h < nH ∧ 1 ≤ n ∧ n ≤ f2 h) then 1 else 0))) (fun _ : Unit => (r5X r0 a b ++ fX cI a nH nV wk ea gi sw f1 (if (h < nH ∧ 1 ≤ n ∧ n ≤ f2 h) then va_up f2 h (f2 h - n) else f2) f3 f4 f5 f6 f7 f8)) := by
  refine ct_in (cc := cX5_returnsCrates) (maxL := 3) (ret := (some .boolean)) (own := RX5) (lv := [(0, .ref r0), (1, .int (nI h)), (2, .int (nI n))]) (by decide +kernel) rfl rfl (Nat.le_of_ble_eq_true rfl) rfl ?_
  intro p e s m args below meth c A ls hx hb hr hml hts hown hlocks hK hA hP hD hS hl
  refine lv_aload_n hx hb dX5_returnsCrates_0 rfl (lv_at hl 0 rfl) ?_
  refine gf_n (C := RX5) (T := TX5) (N := 2) (ci := 5) (q0 := 0) (v := .ref (a 0)) hx hb hts (iU inlX5) hown hK hP rfl rfl 0 (by decide) (kU u_110) rfl rfl dX5_returnsCrates_1 ?_
  refine lv_iload_n hx hb dX5_returnsCrates_4 rfl (lv_at hl 1 rfl) ?_
  refine go_V (ci := 1) (q0 := 1) (cq := (RX1, TX1, 14)) (c_X1_hasHouse l D cI cZ cF cL a nH nV wk ea gi sw f1 f2 f3 f4 f5 f6 f7 f8 ((nI h)) (by omega)) (gUV u_838 u_384 u_385 u_20 u_386) rfl hdV_X1_hasHouse ⟨Nat.le_of_ble_eq_true rfl, Nat.le_of_ble_eq_true rfl⟩ ⟨rfl, rfl⟩ hx hb hml hown hts hK hA hP hD hS hl.1 ⟨Nat.le_of_ble_eq_true rfl, Nat.le_of_ble_eq_true rfl⟩ rfl rfl rfl [1, 2, 3, 4, 5, 6, 7, 8, 9] rfl rfl (fun _ => rfl) (rest := []) rfl rfl (Nat.le_of_ble_eq_true rfl) dX5_returnsCrates_5 (ws2 := (fun _ : Unit => (r5X r0 a b ++ fX cI a nH nV wk ea gi sw f1 f2 f3 f4 f5 f6 f7 f8))) (fun _ => rfl) (fun _ Hp locs hP hD hS => ?_)
  refine lv_if_eq (tgt := 29) hx hb dX5_returnsCrates_8 (by decide) (fun c_8 => ?_) (fun c_8 => ?_)
  · skip
    replace c_8 := cb_z c_8
    replace c_8 : ¬ h < nH := fun q => c_8 ((hhI (by omega) (by omega)).mpr q)
    refine lv_iconst (v := (nI 0)) hx hb dX5_returnsCrates_29 (by decide) ?_
    exact ct_z () hx hb hr hlocks (by rw [if_neg (by omega)]; exact hP) hS (z_f (by omega)) dX5_returnsCrates_30
  · skip
    replace c_8 := cb_nz c_8
    replace c_8 : h < nH := (hhI (by omega) (by omega)).mp c_8
    refine lv_iload_n hx hb dX5_returnsCrates_11 rfl (lv_at hl 2 rfl) ?_
    refine lv_iconst (v := (nI 1)) hx hb dX5_returnsCrates_12 (by decide) ?_
    refine lv_icmp_lt (tgt := 29) hx hb dX5_returnsCrates_13 (by decide) (fun c_13 => ?_) (fun c_13 => ?_)
    · skip
      replace c_13 := cn_lt (by omega) (by omega) c_13
      refine lv_iconst (v := (nI 0)) hx hb dX5_returnsCrates_29 (by decide) ?_
      exact ct_z () hx hb hr hlocks (by rw [if_neg (by omega)]; exact hP) hS (z_f (by omega)) dX5_returnsCrates_30
    · skip
      replace c_13 := cn_nlt (by omega) (by omega) c_13
      refine lv_aload_n hx hb dX5_returnsCrates_16 rfl (lv_at hl 0 rfl) ?_
      refine gf_n (C := RX5) (T := TX5) (N := 2) (ci := 5) (q0 := 0) (v := .ref (a 0)) hx hb hts (iU inlX5) hown hK hP rfl rfl 0 (by decide) (kU u_110) rfl rfl dX5_returnsCrates_17 ?_
      refine gf_n (C := RX1) (T := TX1) (N := 14) (ci := 1) (q0 := 1) (v := .ref (a 2)) hx hb hts (iU inlX1) hown hK hP rfl rfl 7 (by decide) (kU u_849) rfl rfl dX5_returnsCrates_20 ?_
      refine lv_iload_n hx hb dX5_returnsCrates_23 rfl (lv_at hl 1 rfl) ?_
      refine ia_n (q0 := 3) (t0 := 0) hx hb hK hP rfl rfl (by omega) (by decide) dX5_returnsCrates_24 ?_
      refine lv_iload_n hx hb dX5_returnsCrates_25 rfl (lv_at hl 2 rfl) ?_
      refine lv_icmp_ge (tgt := 31) hx hb dX5_returnsCrates_26 (by decide) (fun c_26 => ?_) (fun c_26 => ?_)
      · skip
        replace c_26 := cn_le (by have := b2 h (by omega); omega) (by have := b2 h (by omega); omega) c_26
        refine lv_aload_n hx hb dX5_returnsCrates_31 rfl (lv_at hl 0 rfl) ?_
        refine gf_n (C := RX5) (T := TX5) (N := 2) (ci := 5) (q0 := 0) (v := .ref (a 0)) hx hb hts (iU inlX5) hown hK hP rfl rfl 0 (by decide) (kU u_110) rfl rfl dX5_returnsCrates_32 ?_
        refine gf_n (C := RX1) (T := TX1) (N := 14) (ci := 1) (q0 := 1) (v := .ref (a 2)) hx hb hts (iU inlX1) hown hK hP rfl rfl 7 (by decide) (kU u_849) rfl rfl dX5_returnsCrates_35 ?_
        refine lv_iload_n hx hb dX5_returnsCrates_38 rfl (lv_at hl 1 rfl) ?_
        refine lv_dup2_11 hx hb dX5_returnsCrates_39 rfl rfl ?_
        refine ia_n (q0 := 3) (t0 := 0) hx hb hK hP rfl rfl (by omega) (by decide) dX5_returnsCrates_40 ?_
        refine lv_iload_n hx hb dX5_returnsCrates_41 rfl (lv_at hl 2 rfl) ?_
        refine lv_isub hx hb dX5_returnsCrates_42 ?_
        rw [pk_sub (a := f2 h) (b := n) c_26]
        refine is_n (q0 := 3) (t0 := 0) (ws2 := (r5X r0 a b ++ fX cI a nH nV wk ea gi sw f1 (va_up f2 h ((f2 h) - n)) f3 f4 f5 f6 f7 f8)) hx hb hK hP hD hS rfl rfl (by omega) (by decide) dX5_returnsCrates_43 rfl (fun Hp locs hP hD hS => ?_)
        refine lv_iconst (v := (nI 1)) hx hb dX5_returnsCrates_44 (by decide) ?_
        exact ct_z () hx hb hr hlocks (by rw [if_pos ⟨c_8, c_13, c_26⟩]; exact hP) hS (z_t ⟨c_8, c_13, c_26⟩) dX5_returnsCrates_45
      · skip
        replace c_26 := cn_nle (by have := b2 h (by omega); omega) (by have := b2 h (by omega); omega) c_26
        refine lv_iconst (v := (nI 0)) hx hb dX5_returnsCrates_29 (by decide) ?_
        exact ct_z () hx hb hr hlocks (by rw [if_neg (by omega)]; exact hP) hS (z_f (by omega)) dX5_returnsCrates_30
set_option maxRecDepth 20000 in
theorem u_822 : Cond.fieldLink RX5 70 "HarvestBoxes$Farm" "kilos" "[I" ∈ wsL_law := List.mem_of_getElem? (i := 822) (by decide +kernel)
set_option maxRecDepth 20000 in
theorem u_698 : Cond.code yX1_giveAway cX1_giveAway 4 none ∈ wsL_law := List.mem_of_getElem? (i := 698) (by decide +kernel)
set_option maxRecDepth 20000 in
theorem u_854 : Cond.methodLink RX5 97 yX1_giveAway ∈ wsL_law := List.mem_of_getElem? (i := 854) (by decide +kernel)
set_option maxRecDepth 20000 in
theorem u_696 : Cond.instanceMethod yX1_giveAway ∈ wsL_law := List.mem_of_getElem? (i := 696) (by decide +kernel)
set_option maxRecDepth 20000 in
theorem u_697 : Cond.selects RX1 yX1_giveAway yX1_giveAway ∈ wsL_law := List.mem_of_getElem? (i := 697) (by decide +kernel)
theorem hdV_X1_giveAway : yX1_giveAway.cls = RX1 ∧ yX1_giveAway.cls ≠ "java/lang/invoke/MethodHandle" ∧ yX1_giveAway.cls ≠ "java/lang/invoke/VarHandle" ∧ (parseMethodDescriptor yX1_giveAway.desc).map (fun d => d.parameters.length) = some 3 := by decide +kernel
set_option maxHeartbeats 4000000 in
set_option maxRecDepth 100000 in
theorem c_X5_givesAway (l : Launch) (D : va_G) (cI cZ cF cL : ClassId) (r0 : Nat) (b : Nat → Nat) (a : Nat → Nat) (nH nV wk ea gi sw : Nat) (f1 f2 f3 f4 f5 f6 f7 f8 : Nat → Nat) (h v n : Nat) (hH : nH ≤ 6) (hV : nV ≤ 5) (sh : h < 2 ^ 20) (sv : v < 2 ^ 20) (sn : n < 2 ^ 20) (b8 : ∀ k, k < 30 → f8 k ≤ 200) : CT l D (tysX cI cZ cF cL) yX5_givesAway (wA yX5_givesAway cX5_givesAway 4 (some .boolean)) (rmF 2 44) [.ref r0, .int (nI h), .int (nI v), .int (nI n)] (r5X r0 a b ++ fX cI a nH nV wk ea gi sw f1 f2 f3 f4 f5 f6 f7 f8) (some (.int (if (h < nH ∧ v < nV ∧ 1 ≤ n ∧ n ≤ f8 (h * 5 + v)) then 1 else 0))) (fun _ : Unit => (r5X r0 a b ++ fX cI a nH nV wk ea (if (h < nH ∧ v < nV ∧ 1 ≤ n ∧ n ≤ f8 (h * 5 + v)) then gi + n else gi) sw f1 f2 f3 f4 f5 f6 f7 (if (h < nH ∧ v < nV ∧ 1 ≤ n ∧ n ≤ f8 (h * 5 + v)) then va_up f8 (h * 5 + v) (f8 (h * 5 + v) - n) else f8))) := by
  refine ct_in (cc := cX5_givesAway) (maxL := 4) (ret := (some .boolean)) (own := RX5) (lv := [(0, .ref r0), (1, .int (nI h)), (2, .int (nI v)), (3, .int (nI n))]) (by decide +kernel) rfl rfl (Nat.le_of_ble_eq_true rfl) rfl ?_
  intro p e s m args below meth c A ls hx hb hr hml hts hown hlocks hK hA hP hD hS hl
  refine lv_aload_n hx hb dX5_givesAway_0 rfl (lv_at hl 0 rfl) ?_
  refine lv_iload_n hx hb dX5_givesAway_1 rfl (lv_at hl 1 rfl) ?_
  refine lv_iload_n hx hb dX5_givesAway_2 rfl (lv_at hl 2 rfl) ?_
  refine go_V (ci := 5) (q0 := 0) (cq := (RX5, TX5, 2)) (c_X5_hasCell l D cI cZ cF cL r0 b a nH nV wk ea gi sw f1 f2 f3 f4 f5 f6 f7 f8 h v (by omega) (by omega) (by omega) (by omega)) (gUV u_834 u_835 u_836 u_44 u_837) rfl hdV_X5_hasCell ⟨Nat.le_of_ble_eq_true rfl, Nat.le_of_ble_eq_true rfl⟩ ⟨rfl, rfl⟩ hx hb hml hown hts hK hA hP hD hS hl.1 ⟨Nat.le_of_ble_eq_true rfl, Nat.le_of_ble_eq_true rfl⟩ rfl rfl rfl [0, 1, 2, 3, 4, 5, 6, 7, 8, 9] rfl rfl (fun _ => rfl) (rest := []) rfl rfl (Nat.le_of_ble_eq_true rfl) dX5_givesAway_3 (ws2 := (fun _ : Unit => (r5X r0 a b ++ fX cI a nH nV wk ea gi sw f1 f2 f3 f4 f5 f6 f7 f8))) (fun _ => rfl) (fun _ Hp locs hP hD hS => ?_)
  refine lv_if_eq (tgt := 31) hx hb dX5_givesAway_6 (by decide) (fun c_6 => ?_) (fun c_6 => ?_)
  · skip
    replace c_6 := cb_z c_6
    refine lv_iconst (v := (nI 0)) hx hb dX5_givesAway_31 (by decide) ?_
    exact ct_z () hx hb hr hlocks (by rw [if_neg (by omega), if_neg (by omega)]; exact hP) hS (z_f (by omega)) dX5_givesAway_32
  · skip
    replace c_6 := cb_nz c_6
    refine lv_iload_n hx hb dX5_givesAway_9 rfl (lv_at hl 3 rfl) ?_
    refine lv_iconst (v := (nI 1)) hx hb dX5_givesAway_10 (by decide) ?_
    refine lv_icmp_lt (tgt := 31) hx hb dX5_givesAway_11 (by decide) (fun c_11 => ?_) (fun c_11 => ?_)
    · skip
      replace c_11 := cn_lt (by omega) (by omega) c_11
      refine lv_iconst (v := (nI 0)) hx hb dX5_givesAway_31 (by decide) ?_
      exact ct_z () hx hb hr hlocks (by rw [if_neg (by omega), if_neg (by omega)]; exact hP) hS (z_f (by omega)) dX5_givesAway_32
    · skip
      replace c_11 := cn_nlt (by omega) (by omega) c_11
      refine lv_aload_n hx hb dX5_givesAway_14 rfl (lv_at hl 0 rfl) ?_
      refine gf_n (C := RX5) (T := TX5) (N := 2) (ci := 5) (q0 := 0) (v := .ref (a 0)) hx hb hts (iU inlX5) hown hK hP rfl rfl 0 (by decide) (kU u_110) rfl rfl dX5_givesAway_15 ?_
      refine gf_n (C := RX1) (T := TX1) (N := 14) (ci := 1) (q0 := 1) (v := .ref (a 8)) hx hb hts (iU inlX1) hown hK hP rfl rfl 13 (by decide) (kU u_822) rfl rfl dX5_givesAway_18 ?_
      refine lv_iload_n hx hb dX5_givesAway_21 rfl (lv_at hl 1 rfl) ?_
      refine lv_iload_n hx hb dX5_givesAway_22 rfl (lv_at hl 2 rfl) ?_
      refine go_SN (ni := 7) (c_X8_cell l D cI cZ cF cL h v ) (gU u_245) rfl hdS_X8_cell ⟨Nat.le_of_ble_eq_true rfl, Nat.le_of_ble_eq_true rfl⟩ ⟨rfl, rfl⟩ rfl (hts _ (kU u_2)) (hts _ (kU u_244)) hx hb hml hown hts hK hA hP hD hS hl.1 ⟨Nat.le_of_ble_eq_true rfl, Nat.le_of_ble_eq_true rfl⟩ [] rfl rfl (fun _ => rfl) (rest := [.ref (a 8)]) rfl rfl (Nat.le_of_ble_eq_true rfl) dX5_givesAway_23 (ws2 := (fun _ : Unit => (r5X r0 a b ++ fX cI a nH nV wk ea gi sw f1 f2 f3 f4 f5 f6 f7 f8))) (fun _ => rfl) (fun _ Hp locs hP hD hS => ?_)
      refine ia_n (q0 := 9) (t0 := 0) hx hb hK hP rfl rfl (by omega) (by decide) dX5_givesAway_26 ?_
      refine lv_iload_n hx hb dX5_givesAway_27 rfl (lv_at hl 3 rfl) ?_
      refine lv_icmp_ge (tgt := 33) hx hb dX5_givesAway_28 (by decide) (fun c_28 => ?_) (fun c_28 => ?_)
      · skip
        replace c_28 := cn_le (by have := b8 (h * 5 + v) (by omega); omega) (by have := b8 (h * 5 + v) (by omega); omega) c_28
        refine lv_aload_n hx hb dX5_givesAway_33 rfl (lv_at hl 0 rfl) ?_
        refine gf_n (C := RX5) (T := TX5) (N := 2) (ci := 5) (q0 := 0) (v := .ref (a 0)) hx hb hts (iU inlX5) hown hK hP rfl rfl 0 (by decide) (kU u_110) rfl rfl dX5_givesAway_34 ?_
        refine lv_iload_n hx hb dX5_givesAway_37 rfl (lv_at hl 1 rfl) ?_
        refine lv_iload_n hx hb dX5_givesAway_38 rfl (lv_at hl 2 rfl) ?_
        refine lv_iload_n hx hb dX5_givesAway_39 rfl (lv_at hl 3 rfl) ?_
        refine go_V (ci := 1) (q0 := 1) (cq := (RX1, TX1, 14)) (c_X1_giveAway l D cI cZ cF cL a nH nV wk ea gi sw f1 f2 f3 f4 f5 f6 f7 f8 h v n (by omega) (by omega) c_28) (gUV u_854 u_696 u_697 u_20 u_698) rfl hdV_X1_giveAway ⟨Nat.le_of_ble_eq_true rfl, Nat.le_of_ble_eq_true rfl⟩ ⟨rfl, rfl⟩ hx hb hml hown hts hK hA hP hD hS hl.1 ⟨Nat.le_of_ble_eq_true rfl, Nat.le_of_ble_eq_true rfl⟩ rfl rfl rfl [1, 2, 3, 4, 5, 6, 7, 8, 9] rfl rfl (fun _ => rfl) (rest := []) rfl rfl (Nat.le_of_ble_eq_true rfl) dX5_givesAway_40 (ws2 := (fun _ : Unit => (r5X r0 a b ++ fX cI a nH nV wk ea (gi + n) sw f1 f2 f3 f4 f5 f6 f7 (va_up f8 (h * 5 + v) (f8 (h * 5 + v) - n))))) (fun _ => rfl) (fun _ Hp locs hP hD hS => ?_)
        refine lv_iconst (v := (nI 1)) hx hb dX5_givesAway_43 (by decide) ?_
        exact ct_z () hx hb hr hlocks (by rw [if_pos ⟨c_6.1, c_6.2, c_11, c_28⟩, if_pos ⟨c_6.1, c_6.2, c_11, c_28⟩]; exact hP) hS (z_t ⟨c_6.1, c_6.2, c_11, c_28⟩) dX5_givesAway_44
      · skip
        replace c_28 := cn_nle (by have := b8 (h * 5 + v) (by omega); omega) (by have := b8 (h * 5 + v) (by omega); omega) c_28
        refine lv_iconst (v := (nI 0)) hx hb dX5_givesAway_31 (by decide) ?_
        exact ct_z () hx hb hr hlocks (by rw [if_neg (by omega), if_neg (by omega)]; exact hP) hS (z_f (by omega)) dX5_givesAway_32
