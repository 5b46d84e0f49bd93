set_option maxHeartbeats 4000000 in
set_option maxRecDepth 100000 in
/-- Arrays.fill -/
theorem c_J7_fill_53178 (l : Launch) (D : va_G) (cI cZ cF cL : ClassId) (t n x : Nat) (f : Nat → Nat) (hn : n < 2 ^ 31) : CT l D (tysX cI cZ cF cL) yJ7_fill_53178 (wA yJ7_fill_53178 cJ7_fill_53178 4 none) (rmF 0 0) [.ref t, .int (nI x)] (iaX cI t n f) (none : Option Value) (iaX cI t n (filN x n f)) := by
  refine ct_in (cc := cJ7_fill_53178) (maxL := 4) (ret := none) (own := RJ7) (lv := [(0, .ref t), (1, .int (nI x))]) (by decide +kernel) rfl rfl (Nat.le_of_ble_eq_true rfl) rfl ?_
  intro p e s m args below meth c A ls hx hb hr hml hts hown hlocks hK hA hP hD hS hl
  refine lv_iconst (v := (nI 0)) hx hb dJ7_fill_53178_0 (by decide) ?_
  refine lv_istore_n (lv' := [(2, .int (nI 0)), (0, .ref t), (1, .int (nI x))]) hx hb dJ7_fill_53178_1 rfl hl (by decide) rfl (fun ls hl => ?_)
  refine lv_aload_n hx hb dJ7_fill_53178_2 rfl (lv_at hl 1 rfl) ?_
  refine va_alen hx hb hK.1 hP 0 0 rfl rfl (v := nI n) rfl dJ7_fill_53178_3 ?_
  refine lv_istore_n (lv' := [(3, .int (nI n)), (2, .int (nI 0)), (0, .ref t), (1, .int (nI x))]) hx hb dJ7_fill_53178_4 rfl hl (by decide) rfl (fun ls hl => ?_)
  have loop_5 : ∀ (dd : Nat) (i : Nat) (f0 : Nat → Nat), (i ≤ n) → (f0 = filN x i f) → (n - i) < dd → ∀ (Hp : Heap) (locs : List Loc), va_P D vwCl (iaX cI t n f0) Hp → va_D A (iaX cI t n f0) → va_S A s.heap Hp locs → ∀ ls : Array Slot, lv_has ls 4 [(3, .int (nI n)), (2, .int (nI i)), (0, .ref t), (1, .int (nI x))] → W p l e (rmF 0 0) s m args below meth c Hp locs 0 0 (MQ below (CQ D (none : Option Value) (iaX cI t n (filN x n f)) A) args s 0 0 A) (F0 m 5 ls []) := by
    intro dd
    induction dd with
    | zero => intro i f0 hi ef hm; exact absurd hm (Nat.not_lt_zero _)
    | succ dd ih =>
      intro i f0 hi ef hm Hp locs hP hD hS ls hl
      refine lv_iload_n hx hb dJ7_fill_53178_5 rfl (lv_at hl 1 rfl) ?_
      refine lv_iload_n hx hb dJ7_fill_53178_6 rfl (lv_at hl 0 rfl) ?_
      refine lv_icmp_ge (tgt := 20) hx hb dJ7_fill_53178_7 (by decide) (fun c_7 => ?_) (fun c_7 => ?_)
      · skip
        replace c_7 := cn_le (by omega) (by omega) c_7
        exact ct_v hx hb hr hlocks (by rw [ef, show i = n by omega] at hP; exact hP) hS dJ7_fill_53178_20
      · skip
        replace c_7 := cn_nle (by omega) (by omega) c_7
        refine lv_aload_n hx hb dJ7_fill_53178_10 rfl (lv_at hl 2 rfl) ?_
        refine lv_iload_n hx hb dJ7_fill_53178_11 rfl (lv_at hl 1 rfl) ?_
        refine lv_iload_n hx hb dJ7_fill_53178_12 rfl (lv_at hl 3 rfl) ?_
        refine is_n (q0 := 0) (t0 := 0) (ws2 := (iaX cI t n (va_up f0 i x))) hx hb hK hP hD hS rfl rfl (by omega) (by omega) dJ7_fill_53178_13 rfl (fun Hp locs hP hD hS => ?_)
        refine lv_iinc (v := (nI (i + 1))) (lv' := [(2, .int (nI (i + 1))), (3, .int (nI n)), (0, .ref t), (1, .int (nI x))]) hx hb dJ7_fill_53178_14 hl (k := 1) rfl (nI_add i 1) (by decide) rfl (fun ls hl => ?_)
        refine lv_goto (tgt := 5) hx hb dJ7_fill_53178_17 (by decide) ?_
        exact ih (i + 1) (va_up f0 i x) (by omega) (by rw [ef]; exact filN_s x i f) (by omega) _ _ hP hD hS _ (lv_sub hl [1, 0, 2, 3] rfl)
  exact loop_5 ((n - 0) + 1) 0 f (by omega) (filN_0 x f).symm (Nat.lt_succ_self _) _ _ hP hD hS _ (lv_sub hl [0, 1, 2, 3] rfl)
set_option maxHeartbeats 4000000 in
set_option maxRecDepth 100000 in
/-- a place in a table -/
theorem c_X8_cell (l : Launch) (D : va_G) (cI cZ cF cL : ClassId) (h v : Nat)  : CT l D (tysX cI cZ cF cL) yX8_cell (wA yX8_cell cX8_cell 2 (some .int)) (rmF 0 0) [.int (nI h), .int (nI v)] ([] : va_W) (some (.int (nI (h * 5 + v)))) ([] : va_W) := by
  refine ct_in (cc := cX8_cell) (maxL := 2) (ret := (some .int)) (own := RX8) (lv := [(0, .int (nI h)), (1, .int (nI v))]) (by decide +kernel) rfl rfl (Nat.le_of_ble_eq_true rfl) rfl ?_
  intro p e s m args below meth c A ls hx hb hr hml hts hown hlocks hK hA hP hD hS hl
  refine lv_iload_n hx hb dX8_cell_0 rfl (lv_at hl 0 rfl) ?_
  refine lv_iconst (v := (nI 5)) hx hb dX8_cell_1 (by decide) ?_
  refine lv_imul hx hb dX8_cell_2 ?_
  rw [pk_mul h 5]
  refine lv_iload_n hx hb dX8_cell_3 rfl (lv_at hl 1 rfl) ?_
  refine lv_iadd hx hb dX8_cell_4 ?_
  rw [nI_add (h * 5) v]
  exact ct_i hx hb hr hlocks hP hS rfl dX8_cell_5
set_option maxRecDepth 20000 in
theorem u_72 : Cond.fieldLink RX1 39 "HarvestBoxes$Farm" "houses" "I" ∈ wsL_law := List.mem_of_getElem? (i := 72) (by decide +kernel)
set_option maxHeartbeats 4000000 in
set_option maxRecDepth 100000 in
/-- is there such a house -/
theorem c_X1_hasHouse (l : Launch) (D : va_G) (cI cZ cF cL : ClassId) (a : Nat → Nat) (nH nV wk ea gi sw : Nat) (f1 f2 f3 f4 f5 f6 f7 f8 : Nat → Nat) (x : Int32) (hH : nH ≤ 6) : CT l D (tysX cI cZ cF cL) yX1_hasHouse (wA yX1_hasHouse cX1_hasHouse 2 (some .boolean)) (rmF 0 0) [.ref (a 0), .int x] (fX cI a nH nV wk ea gi sw f1 f2 f3 f4 f5 f6 f7 f8) (some (.int (if (0 ≤ x ∧ x < nI nH) then 1 else 0))) (fX cI a nH nV wk ea gi sw f1 f2 f3 f4 f5 f6 f7 f8) := by
  refine ct_in (cc := cX1_hasHouse) (maxL := 2) (ret := (some .boolean)) (own := RX1) (lv := [(0, .ref (a 0)), (1, .int x)]) (by decide +kernel) rfl rfl (Nat.le_of_ble_eq_true rfl) rfl ?_
  intro p e s m args below meth c A ls hx hb hr hml hts hown hlocks hK hA hP hD hS hl
  refine lv_iload_n hx hb dX1_hasHouse_0 rfl (lv_at hl 1 rfl) ?_
  refine lv_if_lt (tgt := 16) hx hb dX1_hasHouse_1 (by decide) (fun c_1 => ?_) (fun c_1 => ?_)
  · skip
    refine lv_iconst (v := (nI 0)) hx hb dX1_hasHouse_16 (by decide) ?_
    exact ct_z hx hb hr hlocks hP hS (by first | exact z_t ⟨Int32.not_lt.mp c_1, Int32.not_le.mp c_9⟩ | exact z_f (fun q => Int32.not_lt.mpr q.1 c_1) | exact z_f (fun q => Int32.not_le.mpr q.2 c_9)) dX1_hasHouse_17
  · skip
    refine lv_iload_n hx hb dX1_hasHouse_4 rfl (lv_at hl 1 rfl) ?_
    refine lv_aload_n hx hb dX1_hasHouse_5 rfl (lv_at hl 0 rfl) ?_
    refine gf_n (C := RX1) (T := TX1) (N := 14) (ci := 1) (q0 := 0) (v := .int (nI nH)) hx hb hts (iU inlX1) hown hK hP rfl rfl 0 (by decide) (kU u_72) rfl rfl dX1_hasHouse_6 ?_
    refine lv_icmp_ge (tgt := 16) hx hb dX1_hasHouse_9 (by decide) (fun c_9 => ?_) (fun c_9 => ?_)
    · skip
      refine lv_iconst (v := (nI 0)) hx hb dX1_hasHouse_16 (by decide) ?_
      exact ct_z hx hb hr hlocks hP hS (by first | exact z_t ⟨Int32.not_lt.mp c_1, Int32.not_le.mp c_9⟩ | exact z_f (fun q => Int32.not_lt.mpr q.1 c_1) | exact z_f (fun q => Int32.not_le.mpr q.2 c_9)) dX1_hasHouse_17
    · skip
      refine lv_iconst (v := (nI 1)) hx hb dX1_hasHouse_12 (by decide) ?_
      refine lv_goto (tgt := 17) hx hb dX1_hasHouse_13 (by decide) ?_
      exact ct_z hx hb hr hlocks hP hS (by first | exact z_t ⟨Int32.not_lt.mp c_1, Int32.not_le.mp c_9⟩ | exact z_f (fun q => Int32.not_lt.mpr q.1 c_1) | exact z_f (fun q => Int32.not_le.mpr q.2 c_9)) dX1_hasHouse_17
set_option maxRecDepth 20000 in
theorem u_73 : Cond.fieldLink RX1 43 "HarvestBoxes$Farm" "vegetables" "I" ∈ wsL_law := List.mem_of_getElem? (i := 73) (by decide +kernel)
set_option maxHeartbeats 4000000 in
set_option maxRecDepth 100000 in
/-- is there such a vegetable -/
theorem c_X1_hasVegetable (l : Launch) (D : va_G) (cI cZ cF cL : ClassId) (a : Nat → Nat) (nH nV wk ea gi sw : Nat) (f1 f2 f3 f4 f5 f6 f7 f8 : Nat → Nat) (x : Int32) (hV : nV ≤ 5) : CT l D (tysX cI cZ cF cL) yX1_hasVegetable (wA yX1_hasVegetable cX1_hasVegetable 2 (some .boolean)) (rmF 0 0) [.ref (a 0), .int x] (fX cI a nH nV wk ea gi sw f1 f2 f3 f4 f5 f6 f7 f8) (some (.int (if (0 ≤ x ∧ x < nI nV) then 1 else 0))) (fX cI a nH nV wk ea gi sw f1 f2 f3 f4 f5 f6 f7 f8) := by
  refine ct_in (cc := cX1_hasVegetable) (maxL := 2) (ret := (some .boolean)) (own := RX1) (lv := [(0, .ref (a 0)), (1, .int x)]) (by decide +kernel) rfl rfl (Nat.le_of_ble_eq_true rfl) rfl ?_
  intro p e s m args below meth c A ls hx hb hr hml hts hown hlocks hK hA hP hD hS hl
  refine lv_iload_n hx hb dX1_hasVegetable_0 rfl (lv_at hl 1 rfl) ?_
  refine lv_if_lt (tgt := 16) hx hb dX1_hasVegetable_1 (by decide) (fun c_1 => ?_) (fun c_1 => ?_)
  · skip
    refine lv_iconst (v := (nI 0)) hx hb dX1_hasVegetable_16 (by decide) ?_
    exact ct_z hx hb hr hlocks hP hS (by first | exact z_t ⟨Int32.not_lt.mp c_1, Int32.not_le.mp c_9⟩ | exact z_f (fun q => Int32.not_lt.mpr q.1 c_1) | exact z_f (fun q => Int32.not_le.mpr q.2 c_9)) dX1_hasVegetable_17
  · skip
    refine lv_iload_n hx hb dX1_hasVegetable_4 rfl (lv_at hl 1 rfl) ?_
    refine lv_aload_n hx hb dX1_hasVegetable_5 rfl (lv_at hl 0 rfl) ?_
    refine gf_n (C := RX1) (T := TX1) (N := 14) (ci := 1) (q0 := 0) (v := .int (nI nV)) hx hb hts (iU inlX1) hown hK hP rfl rfl 1 (by decide) (kU u_73) rfl rfl dX1_hasVegetable_6 ?_
    refine lv_icmp_ge (tgt := 16) hx hb dX1_hasVegetable_9 (by decide) (fun c_9 => ?_) (fun c_9 => ?_)
    · skip
      refine lv_iconst (v := (nI 0)) hx hb dX1_hasVegetable_16 (by decide) ?_
      exact ct_z hx hb hr hlocks hP hS (by first | exact z_t ⟨Int32.not_lt.mp c_1, Int32.not_le.mp c_9⟩ | exact z_f (fun q => Int32.not_lt.mpr q.1 c_1) | exact z_f (fun q => Int32.not_le.mpr q.2 c_9)) dX1_hasVegetable_17
    · skip
      refine lv_iconst (v := (nI 1)) hx hb dX1_hasVegetable_12 (by decide) ?_
      refine lv_goto (tgt := 17) hx hb dX1_hasVegetable_13 (by decide) ?_
      exact ct_z hx hb hr hlocks hP hS (by first | exact z_t ⟨Int32.not_lt.mp c_1, Int32.not_le.mp c_9⟩ | exact z_f (fun q => Int32.not_lt.mpr q.1 c_1) | exact z_f (fun q => Int32.not_le.mpr q.2 c_9)) dX1_hasVegetable_17
set_option maxRecDepth 20000 in
theorem u_63 : Cond.fieldLink RX1 21 "HarvestBoxes$Farm" "skipping" "[I" ∈ wsL_law := List.mem_of_getElem? (i := 63) (by decide +kernel)
set_option maxRecDepth 20000 in
theorem u_61 : Cond.fieldLink RX1 15 "HarvestBoxes$Farm" "owed" "[I" ∈ wsL_law := List.mem_of_getElem? (i := 61) (by decide +kernel)
set_option maxHeartbeats 4000000 in
set_option maxRecDepth 100000 in
theorem c_X1_getsBoxNext (l : Launch) (D : va_G) (cI cZ cF cL : ClassId) (a : Nat → Nat) (nH nV wk ea gi sw : Nat) (f1 f2 f3 f4 f5 f6 f7 f8 : Nat → Nat) (h : Nat) (hh : h < 6) (b2 : f2 h < 2 ^ 31) (b4 : f4 h < 2 ^ 31) : CT l D (tysX cI cZ cF cL) yX1_getsBoxNext (wA yX1_getsBoxNext cX1_getsBoxNext 2 (some .boolean)) (rmF 0 0) [.ref (a 0), .int (nI h)] (fX cI a nH nV wk ea gi sw f1 f2 f3 f4 f5 f6 f7 f8) (some (.int (if (getsB f2 f4 h) then 1 else 0))) (fX cI a nH nV wk ea gi sw f1 f2 f3 f4 f5 f6 f7 f8) := by
  refine ct_in (cc := cX1_getsBoxNext) (maxL := 2) (ret := (some .boolean)) (own := RX1) (lv := [(0, .ref (a 0)), (1, .int (nI h))]) (by decide +kernel) rfl rfl (Nat.le_of_ble_eq_true rfl) rfl ?_
  intro p e s m args below meth c A ls hx hb hr hml hts hown hlocks hK hA hP hD hS hl
  refine lv_aload_n hx hb dX1_getsBoxNext_0 rfl (lv_at hl 0 rfl) ?_
  refine gf_n (C := RX1) (T := TX1) (N := 14) (ci := 1) (q0 := 0) (v := .ref (a 4)) hx hb hts (iU inlX1) hown hK hP rfl rfl 9 (by decide) (kU u_63) rfl rfl dX1_getsBoxNext_1 ?_
  refine lv_iload_n hx hb dX1_getsBoxNext_4 rfl (lv_at hl 1 rfl) ?_
  refine ia_n (q0 := 4) (t0 := 0) hx hb hK hP rfl rfl (by omega) (by decide) dX1_getsBoxNext_5 ?_
  refine lv_if_ne (tgt := 23) hx hb dX1_getsBoxNext_6 (by decide) (fun c_6 => ?_) (fun c_6 => ?_)
  · skip
    replace c_6 := cn_ne (b := 0) c_6
    refine lv_iconst (v := (nI 0)) hx hb dX1_getsBoxNext_23 (by decide) ?_
    exact ct_z hx hb hr hlocks hP hS (by first | exact z_t ⟨c_6, c_16⟩ | exact z_f (fun q => c_6 q.1) | exact z_f (fun q => Nat.not_le.mpr q.2 c_16)) dX1_getsBoxNext_24
  · skip
    replace c_6 := cn_eq (b := 0) (by omega) (by omega) c_6
    refine lv_aload_n hx hb dX1_getsBoxNext_9 rfl (lv_at hl 0 rfl) ?_
    refine gf_n (C := RX1) (T := TX1) (N := 14) (ci := 1) (q0 := 0) (v := .ref (a 2)) hx hb hts (iU inlX1) hown hK hP rfl rfl 7 (by decide) (kU u_61) rfl rfl dX1_getsBoxNext_10 ?_
    refine lv_iload_n hx hb dX1_getsBoxNext_13 rfl (lv_at hl 1 rfl) ?_
    refine ia_n (q0 := 2) (t0 := 0) hx hb hK hP rfl rfl (by omega) (by decide) dX1_getsBoxNext_14 ?_
    refine lv_iconst (v := (nI 3)) hx hb dX1_getsBoxNext_15 (by decide) ?_
    refine lv_icmp_ge (tgt := 23) hx hb dX1_getsBoxNext_16 (by decide) (fun c_16 => ?_) (fun c_16 => ?_)
    · skip
      replace c_16 := cn_le (by omega) (by omega) c_16
      refine lv_iconst (v := (nI 0)) hx hb dX1_getsBoxNext_23 (by decide) ?_
      exact ct_z hx hb hr hlocks hP hS (by first | exact z_t ⟨c_6, c_16⟩ | exact z_f (fun q => c_6 q.1) | exact z_f (fun q => Nat.not_le.mpr q.2 c_16)) dX1_getsBoxNext_24
    · skip
      replace c_16 := cn_nle (by omega) (by omega) c_16
      refine lv_iconst (v := (nI 1)) hx hb dX1_getsBoxNext_19 (by decide) ?_
      refine lv_goto (tgt := 24) hx hb dX1_getsBoxNext_20 (by decide) ?_
      exact ct_z hx hb hr hlocks hP hS (by first | exact z_t ⟨c_6, c_16⟩ | exact z_f (fun q => c_6 q.1) | exact z_f (fun q => Nat.not_le.mpr q.2 c_16)) dX1_getsBoxNext_24
set_option maxRecDepth 20000 in
theorem u_345 : Cond.code yX1_getsBoxNext cX1_getsBoxNext 2 (some .boolean) ∈ wsL_law := List.mem_of_getElem? (i := 345) (by decide +kernel)
set_option maxRecDepth 20000 in
theorem u_342 : Cond.methodLink RX1 74 yX1_getsBoxNext ∈ wsL_law := List.mem_of_getElem? (i := 342) (by decide +kernel)
set_option maxRecDepth 20000 in
theorem u_343 : Cond.instanceMethod yX1_getsBoxNext ∈ wsL_law := List.mem_of_getElem? (i := 343) (by decide +kernel)
set_option maxRecDepth 20000 in
theorem u_344 : Cond.selects RX1 yX1_getsBoxNext yX1_getsBoxNext ∈ wsL_law := List.mem_of_getElem? (i := 344) (by decide +kernel)
set_option maxRecDepth 20000 in
theorem u_20 : Cond.initialized RX1 ∈ wsL_law := List.mem_of_getElem? (i := 20) (by decide +kernel)
theorem hdV_X1_getsBoxNext : yX1_getsBoxNext.cls = RX1 ∧ yX1_getsBoxNext.cls ≠ "java/lang/invoke/MethodHandle" ∧ yX1_getsBoxNext.cls ≠ "java/lang/invoke/VarHandle" ∧ (parseMethodDescriptor yX1_getsBoxNext.desc).map (fun d => d.parameters.length) = some 1 := by decide +kernel
set_option maxHeartbeats 4000000 in
set_option maxRecDepth 100000 in
theorem c_X1_housesWithBoxNext (l : Launch) (D : va_G) (cI cZ cF cL : ClassId) (a : Nat → Nat) (nH nV wk ea gi sw : Nat) (f1 f2 f3 f4 f5 f6 f7 f8 : Nat → Nat) (hH : nH ≤ 6) (b2 : ∀ h, h < 6 → f2 h < 2 ^ 31) (b4 : ∀ h, h < 6 → f4 h < 2 ^ 31) : CT l D (tysX cI cZ cF cL) yX1_housesWithBoxNext (wA yX1_housesWithBoxNext cX1_housesWithBoxNext 3 (some .int)) (rmF 1 21) [.ref (a 0)] (fX cI a nH nV wk ea gi sw f1 f2 f3 f4 f5 f6 f7 f8) (some (.int (nI (cntN (fun h => decide (getsB f2 f4 h)) nH)))) (fX cI a nH nV wk ea gi sw f1 f2 f3 f4 f5 f6 f7 f8) := by
  refine ct_in (cc := cX1_housesWithBoxNext) (maxL := 3) (ret := (some .int)) (own := RX1) (lv := [(0, .ref (a 0))]) (by decide +kernel) rfl rfl (Nat.le_of_ble_eq_true rfl) rfl ?_
  intro p e s m args below meth c A ls hx hb hr hml hts hown hlocks hK hA hP hD hS hl
  refine lv_iconst (v := (nI 0)) hx hb dX1_housesWithBoxNext_0 (by decide) ?_
  refine lv_istore_n (lv' := [(1, .int (nI 0)), (0, .ref (a 0))]) hx hb dX1_housesWithBoxNext_1 rfl hl (by decide) rfl (fun ls hl => ?_)
  refine lv_iconst (v := (nI 0)) hx hb dX1_housesWithBoxNext_2 (by decide) ?_
  refine lv_istore_n (lv' := [(2, .int (nI 0)), (1, .int (nI 0)), (0, .ref (a 0))]) hx hb dX1_housesWithBoxNext_3 rfl hl (by decide) rfl (fun ls hl => ?_)
  have loop_4 : ∀ (dd : Nat) (i : Nat) (k : Nat), (i ≤ nH) → (k = cntN (fun h => decide (getsB f2 f4 h)) i) → (nH - i) < dd → ∀ (Hp : Heap) (locs : List Loc), va_P D vwCl (fX cI a nH nV wk ea gi sw f1 f2 f3 f4 f5 f6 f7 f8) Hp → va_D A (fX cI a nH nV wk ea gi sw f1 f2 f3 f4 f5 f6 f7 f8) → va_S A s.heap Hp locs → ∀ ls : Array Slot, lv_has ls 3 [(2, .int (nI i)), (1, .int (nI k)), (0, .ref (a 0))] → W p l e (rmF 1 21) s m args below meth c Hp locs 0 0 (MQ below (CQ D (some (.int (nI (cntN (fun h => decide (getsB f2 f4 h)) nH)))) (fX cI a nH nV wk ea gi sw f1 f2 f3 f4 f5 f6 f7 f8) A) args s 0 0 A) (F0 m 4 ls []) := by
    intro dd
    induction dd with
    | zero => intro i k hi ek hm; exact absurd hm (Nat.not_lt_zero _)
    | succ dd ih =>
      intro i k hi ek hm Hp locs hP hD hS ls hl
      refine lv_iload_n hx hb dX1_housesWithBoxNext_4 rfl (lv_at hl 0 rfl) ?_
      refine lv_aload_n hx hb dX1_housesWithBoxNext_5 rfl (lv_at hl 2 rfl) ?_
      refine gf_n (C := RX1) (T := TX1) (N := 14) (ci := 1) (q0 := 0) (v := .int (nI nH)) hx hb hts (iU inlX1) hown hK hP rfl rfl 0 (by decide) (kU u_72) rfl rfl dX1_housesWithBoxNext_6 ?_
      refine lv_icmp_ge (tgt := 29) hx hb dX1_housesWithBoxNext_9 (by decide) (fun c_9 => ?_) (fun c_9 => ?_)
      · skip
        replace c_9 := cn_le (by omega) (by omega) c_9
        refine lv_iload_n hx hb dX1_housesWithBoxNext_29 rfl (lv_at hl 1 rfl) ?_
        exact ct_i hx hb hr hlocks hP hS (by rw [ek, show i = nH by omega]) dX1_housesWithBoxNext_30
      · skip
        replace c_9 := cn_nle (by omega) (by omega) c_9
        refine lv_aload_n hx hb dX1_housesWithBoxNext_12 rfl (lv_at hl 2 rfl) ?_
        refine lv_iload_n hx hb dX1_housesWithBoxNext_13 rfl (lv_at hl 0 rfl) ?_
        refine go_V (ci := 1) (q0 := 0) (cq := (RX1, TX1, 14)) (c_X1_getsBoxNext l D cI cZ cF cL a nH nV wk ea gi sw f1 f2 f3 f4 f5 f6 f7 f8 i (by omega) (b2 _ (by omega)) (b4 _ (by omega))) (gUV u_342 u_343 u_344 u_20 u_345) rfl hdV_X1_getsBoxNext ⟨Nat.le_of_ble_eq_true rfl, Nat.le_of_ble_eq_true rfl⟩ ⟨rfl, rfl⟩ hx hb hml hown hts hK hA hP hD hS hl.1 ⟨Nat.le_of_ble_eq_true rfl, Nat.le_of_ble_eq_true rfl⟩ rfl rfl rfl [0, 1, 2, 3, 4, 5, 6, 7, 8] rfl rfl rfl (rest := []) rfl rfl (Nat.le_of_ble_eq_true rfl) dX1_housesWithBoxNext_14 (ws2 := (fX cI a nH nV wk ea gi sw f1 f2 f3 f4 f5 f6 f7 f8)) rfl (fun Hp locs hP hD hS => ?_)
        refine lv_if_eq (tgt := 23) hx hb dX1_housesWithBoxNext_17 (by decide) (fun c_17 => ?_) (fun c_17 => ?_)
        · skip
          replace c_17 := cb_z c_17
          refine lv_iinc (v := (nI (i + 1))) (lv' := [(2, .int (nI (i + 1))), (1, .int (nI k)), (0, .ref (a 0))]) hx hb dX1_housesWithBoxNext_23 hl (k := 0) rfl (nI_add i 1) (by decide) rfl (fun ls hl => ?_)
          refine lv_goto (tgt := 4) hx hb dX1_housesWithBoxNext_26 (by decide) ?_
          exact ih (i + 1) k (by omega) (by rw [ek, cntN]; simp [c_17]) (by omega) _ _ hP hD hS _ (lv_sub hl [0, 1, 2] rfl)
        · skip
          replace c_17 := cb_nz c_17
          refine lv_iinc (v := (nI (k + 1))) (lv' := [(1, .int (nI (k + 1))), (2, .int (nI i)), (0, .ref (a 0))]) hx hb dX1_housesWithBoxNext_20 hl (k := 1) rfl (nI_add k 1) (by decide) rfl (fun ls hl => ?_)
          refine lv_iinc (v := (nI (i + 1))) (lv' := [(2, .int (nI (i + 1))), (1, .int (nI (k + 1))), (0, .ref (a 0))]) hx hb dX1_housesWithBoxNext_23 hl (k := 1) rfl (nI_add i 1) (by decide) rfl (fun ls hl => ?_)
          refine lv_goto (tgt := 4) hx hb dX1_housesWithBoxNext_26 (by decide) ?_
          exact ih (i + 1) (k + 1) (by omega) (by rw [ek, cntN]; simp [c_17]) (by omega) _ _ hP hD hS _ (lv_sub hl [0, 1, 2] rfl)
  exact loop_4 ((nH - 0) + 1) 0 0 (by omega) rfl (Nat.lt_succ_self _) _ _ hP hD hS _ (lv_sub hl [0, 1, 2] rfl)
