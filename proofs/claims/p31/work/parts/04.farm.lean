/-- the numbers of a farm -/
def hap (f7 f8 : Nat → Nat) (nV h : Nat) : Nat := sumN (fun v => f7 (h * 5 + v) * f8 (h * 5 + v)) nV
def kilH (f8 : Nat → Nat) (nV h : Nat) : Nat := sumN (fun v => f8 (h * 5 + v)) nV
def kilV (f8 : Nat → Nat) (nH v : Nat) : Nat := sumN (fun h => f8 (h * 5 + v)) nH
def kilA (f8 : Nat → Nat) (nV nH : Nat) : Nat := sumN (kilH f8 nV) nH
def hapA (f7 f8 : Nat → Nat) (nV nH : Nat) : Nat := sumN (hap f7 f8 nV) nH
def boxN (f2 f4 : Nat → Nat) (nH : Nat) : Nat := cntN (fun h => decide (getsB f2 f4 h)) nH
def plcN (f7 f8 : Nat → Nat) (nV nH h : Nat) : Nat := cntN (fun o => decide (hap f7 f8 nV h < hap f7 f8 nV o ∨ hap f7 f8 nV o = hap f7 f8 nV h ∧ o < h)) nH
/-- a farm's cells say only what lies in their ranges -/
theorem fX_cg {D : va_G} {cI : ClassId} {a : Nat → Nat} {h v w e g s : Nat} {f1 f2 f3 f4 f5 f6 f7 f8 g1 g2 g3 g4 g5 g6 g7 g8 : Nat → Nat} {H : Heap} (hP : va_P D vwCl (fX cI a h v w e g s f1 f2 f3 f4 f5 f6 f7 f8) H)
    (h1 : ∀ j, j < 6 → f1 j = g1 j) (h2 : ∀ j, j < 6 → f2 j = g2 j) (h3 : ∀ j, j < 6 → f3 j = g3 j) (h4 : ∀ j, j < 6 → f4 j = g4 j) (h5 : ∀ j, j < 5 → f5 j = g5 j) (h6 : ∀ j, j < 5 → f6 j = g6 j) (h7 : ∀ j, j < 30 → f7 j = g7 j) (h8 : ∀ j, j < 30 → f8 j = g8 j) : va_P D vwCl (fX cI a h v w e g s g1 g2 g3 g4 g5 g6 g7 g8) H := by
  intro k q hk
  match k, hk with
  | 0, hk => exact hP 0 q hk
  | 1, hk => cases hk; exact at_cg (hP 1 _ rfl) (fun j hj => congrArg nI (h1 j hj))
  | 2, hk => cases hk; exact at_cg (hP 2 _ rfl) (fun j hj => congrArg nI (h2 j hj))
  | 3, hk => cases hk; exact at_cg (hP 3 _ rfl) (fun j hj => congrArg nI (h3 j hj))
  | 4, hk => cases hk; exact at_cg (hP 4 _ rfl) (fun j hj => congrArg nI (h4 j hj))
  | 5, hk => cases hk; exact at_cg (hP 5 _ rfl) (fun j hj => congrArg nI (h5 j hj))
  | 6, hk => cases hk; exact at_cg (hP 6 _ rfl) (fun j hj => congrArg nI (h6 j hj))
  | 7, hk => cases hk; exact at_cg (hP 7 _ rfl) (fun j hj => congrArg nI (h7 j hj))
  | 8, hk => cases hk; exact at_cg (hP 8 _ rfl) (fun j hj => congrArg nI (h8 j hj))
  | k + 9, hk => simp [fX] at hk
theorem filN_in {x n : Nat} {f : Nat → Nat} (j : Nat) (h : j < n) : filN x n f j = x := if_pos h
set_option maxHeartbeats 4000000 in
set_option maxRecDepth 100000 in
/-- Arrays.fill -/
theorem c_J7_fill_53178 (l : Launch) (D : va_G) (cI cZ cF cL : ClassId) (t n x : Nat) (f : Nat → Nat) (hn : n < 2 ^ 31) : CT l D (tysX cI cZ cF cL) yJ7_fill_53178 (wA yJ7_fill_53178 cJ7_fill_53178 4 none) (rmF 0 0) [.ref t, .int (nI x)] (iaX cI t n f) (none : Option Value) (fun _ : Unit => (iaX cI t n (filN x n f))) := by
  refine ct_in (cc := cJ7_fill_53178) (maxL := 4) (ret := none) (own := RJ7) (lv := [(0, .ref t), (1, .int (nI x))]) (by decide +kernel) rfl rfl (Nat.le_of_ble_eq_true rfl) rfl ?_
  intro p e s m args below meth c A ls hx hb hr hml hts hown hlocks hK hA hP hD hS hl
  refine lv_iconst (v := (nI 0)) hx hb dJ7_fill_53178_0 (by decide) ?_
  refine lv_istore_n (lv' := [(2, .int (nI 0)), (0, .ref t), (1, .int (nI x))]) hx hb dJ7_fill_53178_1 rfl hl (by decide) rfl (fun ls hl => ?_)
  refine lv_aload_n hx hb dJ7_fill_53178_2 rfl (lv_at hl 1 rfl) ?_
  refine va_alen hx hb hK.1 hP 0 0 rfl rfl (v := nI n) rfl dJ7_fill_53178_3 ?_
  refine lv_istore_n (lv' := [(3, .int (nI n)), (2, .int (nI 0)), (0, .ref t), (1, .int (nI x))]) hx hb dJ7_fill_53178_4 rfl hl (by decide) rfl (fun ls hl => ?_)
  have loop_5 : ∀ (dd : Nat) (i : Nat) (f0 : Nat → Nat), (i ≤ n) → (f0 = filN x i f) → (n - i) < dd → ∀ (Hp : Heap) (locs : List Loc), va_P D vwCl (iaX cI t n f0) Hp → va_D A (iaX cI t n f0) → va_S A s.heap Hp locs → ∀ ls : Array Slot, lv_has ls 4 [(3, .int (nI n)), (2, .int (nI i)), (0, .ref t), (1, .int (nI x))] → W p l e (rmF 0 0) s m args below meth c Hp locs 0 0 (MQ below (CQ D (none : Option Value) (fun _ : Unit => (iaX cI t n (filN x n f))) A) args s 0 0 A) (F0 m 5 ls []) := by
    intro dd
    induction dd with
    | zero => intro i f0 hi ef hm; exact absurd hm (Nat.not_lt_zero _)
    | succ dd ih =>
      intro i f0 hi ef hm Hp locs hP hD hS ls hl
      refine lv_iload_n hx hb dJ7_fill_53178_5 rfl (lv_at hl 1 rfl) ?_
      refine lv_iload_n hx hb dJ7_fill_53178_6 rfl (lv_at hl 0 rfl) ?_
      refine lv_icmp_ge (tgt := 20) hx hb dJ7_fill_53178_7 (by decide) (fun c_7 => ?_) (fun c_7 => ?_)
      · skip
        replace c_7 := cn_le (by omega) (by omega) c_7
        exact ct_v () hx hb hr hlocks (by rw [ef, show i = n by omega] at hP; exact hP) hS dJ7_fill_53178_20
      · skip
        replace c_7 := cn_nle (by omega) (by omega) c_7
        refine lv_aload_n hx hb dJ7_fill_53178_10 rfl (lv_at hl 2 rfl) ?_
        refine lv_iload_n hx hb dJ7_fill_53178_11 rfl (lv_at hl 1 rfl) ?_
        refine lv_iload_n hx hb dJ7_fill_53178_12 rfl (lv_at hl 3 rfl) ?_
        refine is_n (q0 := 0) (t0 := 0) (ws2 := (iaX cI t n (va_up f0 i x))) hx hb hK hP hD hS rfl rfl (by omega) (by omega) dJ7_fill_53178_13 rfl (fun Hp locs hP hD hS => ?_)
        refine lv_iinc (v := (nI (i + 1))) (lv' := [(2, .int (nI (i + 1))), (3, .int (nI n)), (0, .ref t), (1, .int (nI x))]) hx hb dJ7_fill_53178_14 hl (k := 1) rfl (nI_add i 1) (by decide) rfl (fun ls hl => ?_)
        refine lv_goto (tgt := 5) hx hb dJ7_fill_53178_17 (by decide) ?_
        exact ih (i + 1) (va_up f0 i x) (by omega) (by rw [ef]; exact filN_s x i f) (by omega) _ _ hP hD hS _ (lv_sub hl [1, 0, 2, 3] rfl)
  exact loop_5 ((n - 0) + 1) 0 f (by omega) (filN_0 x f).symm (Nat.lt_succ_self _) _ _ hP hD hS _ (lv_sub hl [0, 1, 2, 3] rfl)
set_option maxHeartbeats 4000000 in
set_option maxRecDepth 100000 in
/-- a place in a table -/
theorem c_X8_cell (l : Launch) (D : va_G) (cI cZ cF cL : ClassId) (h v : Nat)  : CT l D (tysX cI cZ cF cL) yX8_cell (wA yX8_cell cX8_cell 2 (some .int)) (rmF 0 0) [.int (nI h), .int (nI v)] ([] : va_W) (some (.int (nI (h * 5 + v)))) (fun _ : Unit => ([] : va_W)) := by
  refine ct_in (cc := cX8_cell) (maxL := 2) (ret := (some .int)) (own := RX8) (lv := [(0, .int (nI h)), (1, .int (nI v))]) (by decide +kernel) rfl rfl (Nat.le_of_ble_eq_true rfl) rfl ?_
  intro p e s m args below meth c A ls hx hb hr hml hts hown hlocks hK hA hP hD hS hl
  refine lv_iload_n hx hb dX8_cell_0 rfl (lv_at hl 0 rfl) ?_
  refine lv_iconst (v := (nI 5)) hx hb dX8_cell_1 (by decide) ?_
  refine lv_imul hx hb dX8_cell_2 ?_
  rw [pk_mul h 5]
  refine lv_iload_n hx hb dX8_cell_3 rfl (lv_at hl 1 rfl) ?_
  refine lv_iadd hx hb dX8_cell_4 ?_
  rw [nI_add (h * 5) v]
  exact ct_i () hx hb hr hlocks hP hS rfl dX8_cell_5
set_option maxRecDepth 20000 in
theorem u_72 : Cond.fieldLink RX1 39 "HarvestBoxes$Farm" "houses" "I" ∈ wsL_law := List.mem_of_getElem? (i := 67) (by decide +kernel)
set_option maxHeartbeats 4000000 in
set_option maxRecDepth 100000 in
/-- is there such a house -/
theorem c_X1_hasHouse (l : Launch) (D : va_G) (cI cZ cF cL : ClassId) (a : Nat → Nat) (nH nV wk ea gi sw : Nat) (f1 f2 f3 f4 f5 f6 f7 f8 : Nat → Nat) (x : Int32) (hH : nH ≤ 6) : CT l D (tysX cI cZ cF cL) yX1_hasHouse (wA yX1_hasHouse cX1_hasHouse 2 (some .boolean)) (rmF 0 0) [.ref (a 0), .int x] (fX cI a nH nV wk ea gi sw f1 f2 f3 f4 f5 f6 f7 f8) (some (.int (if (0 ≤ x ∧ x < nI nH) then 1 else 0))) (fun _ : Unit => (fX cI a nH nV wk ea gi sw f1 f2 f3 f4 f5 f6 f7 f8)) := by
  refine ct_in (cc := cX1_hasHouse) (maxL := 2) (ret := (some .boolean)) (own := RX1) (lv := [(0, .ref (a 0)), (1, .int x)]) (by decide +kernel) rfl rfl (Nat.le_of_ble_eq_true rfl) rfl ?_
  intro p e s m args below meth c A ls hx hb hr hml hts hown hlocks hK hA hP hD hS hl
  refine lv_iload_n hx hb dX1_hasHouse_0 rfl (lv_at hl 1 rfl) ?_
  refine lv_if_lt (tgt := 16) hx hb dX1_hasHouse_1 (by decide) (fun c_1 => ?_) (fun c_1 => ?_)
  · skip
    refine lv_iconst (v := (nI 0)) hx hb dX1_hasHouse_16 (by decide) ?_
    exact ct_z () hx hb hr hlocks hP hS (by first | exact z_t ⟨Int32.not_lt.mp c_1, Int32.not_le.mp c_9⟩ | exact z_f (fun q => Int32.not_lt.mpr q.1 c_1) | exact z_f (fun q => Int32.not_le.mpr q.2 c_9)) dX1_hasHouse_17
  · skip
    refine lv_iload_n hx hb dX1_hasHouse_4 rfl (lv_at hl 1 rfl) ?_
    refine lv_aload_n hx hb dX1_hasHouse_5 rfl (lv_at hl 0 rfl) ?_
    refine gf_n (C := RX1) (T := TX1) (N := 14) (ci := 1) (q0 := 0) (v := .int (nI nH)) hx hb hts (iU inlX1) hown hK hP rfl rfl 0 (by decide) (kU u_72) rfl rfl dX1_hasHouse_6 ?_
    refine lv_icmp_ge (tgt := 16) hx hb dX1_hasHouse_9 (by decide) (fun c_9 => ?_) (fun c_9 => ?_)
    · skip
      refine lv_iconst (v := (nI 0)) hx hb dX1_hasHouse_16 (by decide) ?_
      exact ct_z () hx hb hr hlocks hP hS (by first | exact z_t ⟨Int32.not_lt.mp c_1, Int32.not_le.mp c_9⟩ | exact z_f (fun q => Int32.not_lt.mpr q.1 c_1) | exact z_f (fun q => Int32.not_le.mpr q.2 c_9)) dX1_hasHouse_17
    · skip
      refine lv_iconst (v := (nI 1)) hx hb dX1_hasHouse_12 (by decide) ?_
      refine lv_goto (tgt := 17) hx hb dX1_hasHouse_13 (by decide) ?_
      exact ct_z () hx hb hr hlocks hP hS (by first | exact z_t ⟨Int32.not_lt.mp c_1, Int32.not_le.mp c_9⟩ | exact z_f (fun q => Int32.not_lt.mpr q.1 c_1) | exact z_f (fun q => Int32.not_le.mpr q.2 c_9)) dX1_hasHouse_17
set_option maxRecDepth 20000 in
theorem u_73 : Cond.fieldLink RX1 43 "HarvestBoxes$Farm" "vegetables" "I" ∈ wsL_law := List.mem_of_getElem? (i := 68) (by decide +kernel)
set_option maxHeartbeats 4000000 in
set_option maxRecDepth 100000 in
/-- is there such a vegetable -/
theorem c_X1_hasVegetable (l : Launch) (D : va_G) (cI cZ cF cL : ClassId) (a : Nat → Nat) (nH nV wk ea gi sw : Nat) (f1 f2 f3 f4 f5 f6 f7 f8 : Nat → Nat) (x : Int32) (hV : nV ≤ 5) : CT l D (tysX cI cZ cF cL) yX1_hasVegetable (wA yX1_hasVegetable cX1_hasVegetable 2 (some .boolean)) (rmF 0 0) [.ref (a 0), .int x] (fX cI a nH nV wk ea gi sw f1 f2 f3 f4 f5 f6 f7 f8) (some (.int (if (0 ≤ x ∧ x < nI nV) then 1 else 0))) (fun _ : Unit => (fX cI a nH nV wk ea gi sw f1 f2 f3 f4 f5 f6 f7 f8)) := by
  refine ct_in (cc := cX1_hasVegetable) (maxL := 2) (ret := (some .boolean)) (own := RX1) (lv := [(0, .ref (a 0)), (1, .int x)]) (by decide +kernel) rfl rfl (Nat.le_of_ble_eq_true rfl) rfl ?_
  intro p e s m args below meth c A ls hx hb hr hml hts hown hlocks hK hA hP hD hS hl
  refine lv_iload_n hx hb dX1_hasVegetable_0 rfl (lv_at hl 1 rfl) ?_
  refine lv_if_lt (tgt := 16) hx hb dX1_hasVegetable_1 (by decide) (fun c_1 => ?_) (fun c_1 => ?_)
  · skip
    refine lv_iconst (v := (nI 0)) hx hb dX1_hasVegetable_16 (by decide) ?_
    exact ct_z () hx hb hr hlocks hP hS (by first | exact z_t ⟨Int32.not_lt.mp c_1, Int32.not_le.mp c_9⟩ | exact z_f (fun q => Int32.not_lt.mpr q.1 c_1) | exact z_f (fun q => Int32.not_le.mpr q.2 c_9)) dX1_hasVegetable_17
  · skip
    refine lv_iload_n hx hb dX1_hasVegetable_4 rfl (lv_at hl 1 rfl) ?_
    refine lv_aload_n hx hb dX1_hasVegetable_5 rfl (lv_at hl 0 rfl) ?_
    refine gf_n (C := RX1) (T := TX1) (N := 14) (ci := 1) (q0 := 0) (v := .int (nI nV)) hx hb hts (iU inlX1) hown hK hP rfl rfl 1 (by decide) (kU u_73) rfl rfl dX1_hasVegetable_6 ?_
    refine lv_icmp_ge (tgt := 16) hx hb dX1_hasVegetable_9 (by decide) (fun c_9 => ?_) (fun c_9 => ?_)
    · skip
      refine lv_iconst (v := (nI 0)) hx hb dX1_hasVegetable_16 (by decide) ?_
      exact ct_z () hx hb hr hlocks hP hS (by first | exact z_t ⟨Int32.not_lt.mp c_1, Int32.not_le.mp c_9⟩ | exact z_f (fun q => Int32.not_lt.mpr q.1 c_1) | exact z_f (fun q => Int32.not_le.mpr q.2 c_9)) dX1_hasVegetable_17
    · skip
      refine lv_iconst (v := (nI 1)) hx hb dX1_hasVegetable_12 (by decide) ?_
      refine lv_goto (tgt := 17) hx hb dX1_hasVegetable_13 (by decide) ?_
      exact ct_z () hx hb hr hlocks hP hS (by first | exact z_t ⟨Int32.not_lt.mp c_1, Int32.not_le.mp c_9⟩ | exact z_f (fun q => Int32.not_lt.mpr q.1 c_1) | exact z_f (fun q => Int32.not_le.mpr q.2 c_9)) dX1_hasVegetable_17
set_option maxRecDepth 20000 in
theorem u_63 : Cond.fieldLink RX1 21 "HarvestBoxes$Farm" "skipping" "[I" ∈ wsL_law := List.mem_of_getElem? (i := 58) (by decide +kernel)
set_option maxRecDepth 20000 in
theorem u_61 : Cond.fieldLink RX1 15 "HarvestBoxes$Farm" "owed" "[I" ∈ wsL_law := List.mem_of_getElem? (i := 56) (by decide +kernel)
set_option maxHeartbeats 4000000 in
set_option maxRecDepth 100000 in
theorem c_X1_getsBoxNext (l : Launch) (D : va_G) (cI cZ cF cL : ClassId) (a : Nat → Nat) (nH nV wk ea gi sw : Nat) (f1 f2 f3 f4 f5 f6 f7 f8 : Nat → Nat) (h : Nat) (hh : h < 6) (b2 : f2 h < 2 ^ 31) (b4 : f4 h < 2 ^ 31) : CT l D (tysX cI cZ cF cL) yX1_getsBoxNext (wA yX1_getsBoxNext cX1_getsBoxNext 2 (some .boolean)) (rmF 0 0) [.ref (a 0), .int (nI h)] (fX cI a nH nV wk ea gi sw f1 f2 f3 f4 f5 f6 f7 f8) (some (.int (if (getsB f2 f4 h) then 1 else 0))) (fun _ : Unit => (fX cI a nH nV wk ea gi sw f1 f2 f3 f4 f5 f6 f7 f8)) := by
  refine ct_in (cc := cX1_getsBoxNext) (maxL := 2) (ret := (some .boolean)) (own := RX1) (lv := [(0, .ref (a 0)), (1, .int (nI h))]) (by decide +kernel) rfl rfl (Nat.le_of_ble_eq_true rfl) rfl ?_
  intro p e s m args below meth c A ls hx hb hr hml hts hown hlocks hK hA hP hD hS hl
  refine lv_aload_n hx hb dX1_getsBoxNext_0 rfl (lv_at hl 0 rfl) ?_
  refine gf_n (C := RX1) (T := TX1) (N := 14) (ci := 1) (q0 := 0) (v := .ref (a 4)) hx hb hts (iU inlX1) hown hK hP rfl rfl 9 (by decide) (kU u_63) rfl rfl dX1_getsBoxNext_1 ?_
  refine lv_iload_n hx hb dX1_getsBoxNext_4 rfl (lv_at hl 1 rfl) ?_
  refine ia_n (q0 := 4) (t0 := 0) hx hb hK hP rfl rfl (by omega) (by decide) dX1_getsBoxNext_5 ?_
  refine lv_if_ne (tgt := 23) hx hb dX1_getsBoxNext_6 (by decide) (fun c_6 => ?_) (fun c_6 => ?_)
  · skip
    replace c_6 := cn_ne (b := 0) c_6
    refine lv_iconst (v := (nI 0)) hx hb dX1_getsBoxNext_23 (by decide) ?_
    exact ct_z () hx hb hr hlocks hP hS (by first | exact z_t ⟨c_6, c_16⟩ | exact z_f (fun q => c_6 q.1) | exact z_f (fun q => Nat.not_le.mpr q.2 c_16)) dX1_getsBoxNext_24
  · skip
    replace c_6 := cn_eq (b := 0) (by omega) (by omega) c_6
    refine lv_aload_n hx hb dX1_getsBoxNext_9 rfl (lv_at hl 0 rfl) ?_
    refine gf_n (C := RX1) (T := TX1) (N := 14) (ci := 1) (q0 := 0) (v := .ref (a 2)) hx hb hts (iU inlX1) hown hK hP rfl rfl 7 (by decide) (kU u_61) rfl rfl dX1_getsBoxNext_10 ?_
    refine lv_iload_n hx hb dX1_getsBoxNext_13 rfl (lv_at hl 1 rfl) ?_
    refine ia_n (q0 := 2) (t0 := 0) hx hb hK hP rfl rfl (by omega) (by decide) dX1_getsBoxNext_14 ?_
    refine lv_iconst (v := (nI 3)) hx hb dX1_getsBoxNext_15 (by decide) ?_
    refine lv_icmp_ge (tgt := 23) hx hb dX1_getsBoxNext_16 (by decide) (fun c_16 => ?_) (fun c_16 => ?_)
    · skip
      replace c_16 := cn_le (by omega) (by omega) c_16
      refine lv_iconst (v := (nI 0)) hx hb dX1_getsBoxNext_23 (by decide) ?_
      exact ct_z () hx hb hr hlocks hP hS (by first | exact z_t ⟨c_6, c_16⟩ | exact z_f (fun q => c_6 q.1) | exact z_f (fun q => Nat.not_le.mpr q.2 c_16)) dX1_getsBoxNext_24
    · skip
      replace c_16 := cn_nle (by omega) (by omega) c_16
      refine lv_iconst (v := (nI 1)) hx hb dX1_getsBoxNext_19 (by decide) ?_
      refine lv_goto (tgt := 24) hx hb dX1_getsBoxNext_20 (by decide) ?_
      exact ct_z () hx hb hr hlocks hP hS (by first | exact z_t ⟨c_6, c_16⟩ | exact z_f (fun q => c_6 q.1) | exact z_f (fun q => Nat.not_le.mpr q.2 c_16)) dX1_getsBoxNext_24
set_option maxRecDepth 20000 in
theorem u_345 : Cond.code yX1_getsBoxNext cX1_getsBoxNext 2 (some .boolean) ∈ wsL_law := List.mem_of_getElem? (i := 174) (by decide +kernel)
set_option maxRecDepth 20000 in
theorem u_342 : Cond.methodLink RX1 74 yX1_getsBoxNext ∈ wsL_law := List.mem_of_getElem? (i := 340) (by decide +kernel)
set_option maxRecDepth 20000 in
theorem u_343 : Cond.instanceMethod yX1_getsBoxNext ∈ wsL_law := List.mem_of_getElem? (i := 172) (by decide +kernel)
set_option maxRecDepth 20000 in
theorem u_344 : Cond.selects RX1 yX1_getsBoxNext yX1_getsBoxNext ∈ wsL_law := List.mem_of_getElem? (i := 173) (by decide +kernel)
set_option maxRecDepth 20000 in
theorem u_20 : Cond.initialized RX1 ∈ wsL_law := List.mem_of_getElem? (i := 15) (by decide +kernel)
theorem hdV_X1_getsBoxNext : yX1_getsBoxNext.cls = RX1 ∧ yX1_getsBoxNext.cls ≠ "java/lang/invoke/MethodHandle" ∧ yX1_getsBoxNext.cls ≠ "java/lang/invoke/VarHandle" ∧ (parseMethodDescriptor yX1_getsBoxNext.desc).map (fun d => d.parameters.length) = some 1 := by decide +kernel
set_option maxHeartbeats 4000000 in
set_option maxRecDepth 100000 in
theorem c_X1_housesWithBoxNext (l : Launch) (D : va_G) (cI cZ cF cL : ClassId) (a : Nat → Nat) (nH nV wk ea gi sw : Nat) (f1 f2 f3 f4 f5 f6 f7 f8 : Nat → Nat) (hH : nH ≤ 6) (b2 : ∀ h, h < 6 → f2 h < 2 ^ 31) (b4 : ∀ h, h < 6 → f4 h < 2 ^ 31) : CT l D (tysX cI cZ cF cL) yX1_housesWithBoxNext (wA yX1_housesWithBoxNext cX1_housesWithBoxNext 3 (some .int)) (rmF 1 21) [.ref (a 0)] (fX cI a nH nV wk ea gi sw f1 f2 f3 f4 f5 f6 f7 f8) (some (.int (nI (boxN f2 f4 nH)))) (fun _ : Unit => (fX cI a nH nV wk ea gi sw f1 f2 f3 f4 f5 f6 f7 f8)) := by
  refine ct_in (cc := cX1_housesWithBoxNext) (maxL := 3) (ret := (some .int)) (own := RX1) (lv := [(0, .ref (a 0))]) (by decide +kernel) rfl rfl (Nat.le_of_ble_eq_true rfl) rfl ?_
  intro p e s m args below meth c A ls hx hb hr hml hts hown hlocks hK hA hP hD hS hl
  refine lv_iconst (v := (nI 0)) hx hb dX1_housesWithBoxNext_0 (by decide) ?_
  refine lv_istore_n (lv' := [(1, .int (nI 0)), (0, .ref (a 0))]) hx hb dX1_housesWithBoxNext_1 rfl hl (by decide) rfl (fun ls hl => ?_)
  refine lv_iconst (v := (nI 0)) hx hb dX1_housesWithBoxNext_2 (by decide) ?_
  refine lv_istore_n (lv' := [(2, .int (nI 0)), (1, .int (nI 0)), (0, .ref (a 0))]) hx hb dX1_housesWithBoxNext_3 rfl hl (by decide) rfl (fun ls hl => ?_)
  have loop_4 : ∀ (dd : Nat) (i : Nat) (k : Nat), (i ≤ nH) → (k = cntN (fun h => decide (getsB f2 f4 h)) i) → (nH - i) < dd → ∀ (Hp : Heap) (locs : List Loc), va_P D vwCl (fX cI a nH nV wk ea gi sw f1 f2 f3 f4 f5 f6 f7 f8) Hp → va_D A (fX cI a nH nV wk ea gi sw f1 f2 f3 f4 f5 f6 f7 f8) → va_S A s.heap Hp locs → ∀ ls : Array Slot, lv_has ls 3 [(2, .int (nI i)), (1, .int (nI k)), (0, .ref (a 0))] → W p l e (rmF 1 21) s m args below meth c Hp locs 0 0 (MQ below (CQ D (some (.int (nI (boxN f2 f4 nH)))) (fun _ : Unit => (fX cI a nH nV wk ea gi sw f1 f2 f3 f4 f5 f6 f7 f8)) A) args s 0 0 A) (F0 m 4 ls []) := by
    intro dd
    induction dd with
    | zero => intro i k hi ek hm; exact absurd hm (Nat.not_lt_zero _)
    | succ dd ih =>
      intro i k hi ek hm Hp locs hP hD hS ls hl
      refine lv_iload_n hx hb dX1_housesWithBoxNext_4 rfl (lv_at hl 0 rfl) ?_
      refine lv_aload_n hx hb dX1_housesWithBoxNext_5 rfl (lv_at hl 2 rfl) ?_
      refine gf_n (C := RX1) (T := TX1) (N := 14) (ci := 1) (q0 := 0) (v := .int (nI nH)) hx hb hts (iU inlX1) hown hK hP rfl rfl 0 (by decide) (kU u_72) rfl rfl dX1_housesWithBoxNext_6 ?_
      refine lv_icmp_ge (tgt := 29) hx hb dX1_housesWithBoxNext_9 (by decide) (fun c_9 => ?_) (fun c_9 => ?_)
      · skip
        replace c_9 := cn_le (by omega) (by omega) c_9
        refine lv_iload_n hx hb dX1_housesWithBoxNext_29 rfl (lv_at hl 1 rfl) ?_
        exact ct_i () hx hb hr hlocks hP hS (by rw [ek, show i = nH by omega]; rfl) dX1_housesWithBoxNext_30
      · skip
        replace c_9 := cn_nle (by omega) (by omega) c_9
        refine lv_aload_n hx hb dX1_housesWithBoxNext_12 rfl (lv_at hl 2 rfl) ?_
        refine lv_iload_n hx hb dX1_housesWithBoxNext_13 rfl (lv_at hl 0 rfl) ?_
        refine go_V (ci := 1) (q0 := 0) (cq := (RX1, TX1, 14)) (c_X1_getsBoxNext l D cI cZ cF cL a nH nV wk ea gi sw f1 f2 f3 f4 f5 f6 f7 f8 i (by omega) (b2 _ (by omega)) (b4 _ (by omega))) (gUV u_342 u_343 u_344 u_20 u_345) rfl hdV_X1_getsBoxNext ⟨Nat.le_of_ble_eq_true rfl, Nat.le_of_ble_eq_true rfl⟩ ⟨rfl, rfl⟩ hx hb hml hown hts hK hA hP hD hS hl.1 ⟨Nat.le_of_ble_eq_true rfl, Nat.le_of_ble_eq_true rfl⟩ rfl rfl rfl [0, 1, 2, 3, 4, 5, 6, 7, 8] rfl rfl (fun _ => rfl) (rest := []) rfl rfl (Nat.le_of_ble_eq_true rfl) dX1_housesWithBoxNext_14 (ws2 := (fun _ : Unit => (fX cI a nH nV wk ea gi sw f1 f2 f3 f4 f5 f6 f7 f8))) (fun _ => rfl) (fun _ Hp locs hP hD hS => ?_)
        refine lv_if_eq (tgt := 23) hx hb dX1_housesWithBoxNext_17 (by decide) (fun c_17 => ?_) (fun c_17 => ?_)
        · skip
          replace c_17 := cb_z c_17
          refine lv_iinc (v := (nI (i + 1))) (lv' := [(2, .int (nI (i + 1))), (1, .int (nI k)), (0, .ref (a 0))]) hx hb dX1_housesWithBoxNext_23 hl (k := 0) rfl (nI_add i 1) (by decide) rfl (fun ls hl => ?_)
          refine lv_goto (tgt := 4) hx hb dX1_housesWithBoxNext_26 (by decide) ?_
          exact ih (i + 1) k (by omega) (by rw [ek, cntN]; simp [c_17]) (by omega) _ _ hP hD hS _ (lv_sub hl [0, 1, 2] rfl)
        · skip
          replace c_17 := cb_nz c_17
          refine lv_iinc (v := (nI (k + 1))) (lv' := [(1, .int (nI (k + 1))), (2, .int (nI i)), (0, .ref (a 0))]) hx hb dX1_housesWithBoxNext_20 hl (k := 1) rfl (nI_add k 1) (by decide) rfl (fun ls hl => ?_)
          refine lv_iinc (v := (nI (i + 1))) (lv' := [(2, .int (nI (i + 1))), (1, .int (nI (k + 1))), (0, .ref (a 0))]) hx hb dX1_housesWithBoxNext_23 hl (k := 1) rfl (nI_add i 1) (by decide) rfl (fun ls hl => ?_)
          refine lv_goto (tgt := 4) hx hb dX1_housesWithBoxNext_26 (by decide) ?_
          exact ih (i + 1) (k + 1) (by omega) (by rw [ek, cntN]; simp [c_17]) (by omega) _ _ hP hD hS _ (lv_sub hl [0, 1, 2] rfl)
  exact loop_4 ((nH - 0) + 1) 0 0 (by omega) rfl (Nat.lt_succ_self _) _ _ hP hD hS _ (lv_sub hl [0, 1, 2] rfl)
set_option maxRecDepth 20000 in
theorem u_67 : Cond.fieldLink RX1 33 "HarvestBoxes$Farm" "kilos" "[I" ∈ wsL_law := List.mem_of_getElem? (i := 62) (by decide +kernel)
set_option maxRecDepth 20000 in
theorem u_245 : Cond.code yX8_cell cX8_cell 2 (some .int) ∈ wsL_law := List.mem_of_getElem? (i := 162) (by decide +kernel)
set_option maxRecDepth 20000 in
theorem u_2 : Cond.initialized RX8 ∈ wsL_law := List.mem_of_getElem? (i := 2) (by decide +kernel)
set_option maxRecDepth 20000 in
theorem u_244 : Cond.static yX8_cell ∈ wsL_law := List.mem_of_getElem? (i := 161) (by decide +kernel)
theorem hdS_X8_cell : yX8_cell.cls ≠ "java/lang/invoke/MethodHandle" ∧ yX8_cell.cls ≠ "java/lang/invoke/VarHandle" ∧ (parseMethodDescriptor yX8_cell.desc).map (fun d => d.parameters.length) = some 2 := by decide +kernel
set_option maxHeartbeats 4000000 in
set_option maxRecDepth 100000 in
theorem c_X1_kilosOfHouse (l : Launch) (D : va_G) (cI cZ cF cL : ClassId) (a : Nat → Nat) (nH nV wk ea gi sw : Nat) (f1 f2 f3 f4 f5 f6 f7 f8 : Nat → Nat) (h : Nat) (hV : nV ≤ 5) (hh : h < 6) : CT l D (tysX cI cZ cF cL) yX1_kilosOfHouse (wA yX1_kilosOfHouse cX1_kilosOfHouse 4 (some .int)) (rmF 1 21) [.ref (a 0), .int (nI h)] (fX cI a nH nV wk ea gi sw f1 f2 f3 f4 f5 f6 f7 f8) (some (.int (nI (kilH f8 nV h)))) (fun _ : Unit => (fX cI a nH nV wk ea gi sw f1 f2 f3 f4 f5 f6 f7 f8)) := by
  refine ct_in (cc := cX1_kilosOfHouse) (maxL := 4) (ret := (some .int)) (own := RX1) (lv := [(0, .ref (a 0)), (1, .int (nI h))]) (by decide +kernel) rfl rfl (Nat.le_of_ble_eq_true rfl) rfl ?_
  intro p e s m args below meth c A ls hx hb hr hml hts hown hlocks hK hA hP hD hS hl
  refine lv_iconst (v := (nI 0)) hx hb dX1_kilosOfHouse_0 (by decide) ?_
  refine lv_istore_n (lv' := [(2, .int (nI 0)), (0, .ref (a 0)), (1, .int (nI h))]) hx hb dX1_kilosOfHouse_1 rfl hl (by decide) rfl (fun ls hl => ?_)
  refine lv_iconst (v := (nI 0)) hx hb dX1_kilosOfHouse_2 (by decide) ?_
  refine lv_istore_n (lv' := [(3, .int (nI 0)), (2, .int (nI 0)), (0, .ref (a 0)), (1, .int (nI h))]) hx hb dX1_kilosOfHouse_3 rfl hl (by decide) rfl (fun ls hl => ?_)
  have loop_4 : ∀ (dd : Nat) (i : Nat) (k : Nat), (i ≤ nV) → (k = sumN (fun v => f8 (h * 5 + v)) i) → (nV - i) < dd → ∀ (Hp : Heap) (locs : List Loc), va_P D vwCl (fX cI a nH nV wk ea gi sw f1 f2 f3 f4 f5 f6 f7 f8) Hp → va_D A (fX cI a nH nV wk ea gi sw f1 f2 f3 f4 f5 f6 f7 f8) → va_S A s.heap Hp locs → ∀ ls : Array Slot, lv_has ls 4 [(3, .int (nI i)), (2, .int (nI k)), (0, .ref (a 0)), (1, .int (nI h))] → W p l e (rmF 1 21) s m args below meth c Hp locs 0 0 (MQ below (CQ D (some (.int (nI (kilH f8 nV h)))) (fun _ : Unit => (fX cI a nH nV wk ea gi sw f1 f2 f3 f4 f5 f6 f7 f8)) A) args s 0 0 A) (F0 m 4 ls []) := by
    intro dd
    induction dd with
    | zero => intro i k hi ek hm; exact absurd hm (Nat.not_lt_zero _)
    | succ dd ih =>
      intro i k hi ek hm Hp locs hP hD hS ls hl
      refine lv_iload_n hx hb dX1_kilosOfHouse_4 rfl (lv_at hl 0 rfl) ?_
      refine lv_aload_n hx hb dX1_kilosOfHouse_5 rfl (lv_at hl 2 rfl) ?_
      refine gf_n (C := RX1) (T := TX1) (N := 14) (ci := 1) (q0 := 0) (v := .int (nI nV)) hx hb hts (iU inlX1) hown hK hP rfl rfl 1 (by decide) (kU u_73) rfl rfl dX1_kilosOfHouse_6 ?_
      refine lv_icmp_ge (tgt := 31) hx hb dX1_kilosOfHouse_9 (by decide) (fun c_9 => ?_) (fun c_9 => ?_)
      · skip
        replace c_9 := cn_le (by omega) (by omega) c_9
        refine lv_iload_n hx hb dX1_kilosOfHouse_31 rfl (lv_at hl 1 rfl) ?_
        exact ct_i () hx hb hr hlocks hP hS (by rw [ek, show i = nV by omega]; rfl) dX1_kilosOfHouse_32
      · skip
        replace c_9 := cn_nle (by omega) (by omega) c_9
        refine lv_iload_n hx hb dX1_kilosOfHouse_12 rfl (lv_at hl 1 rfl) ?_
        refine lv_aload_n hx hb dX1_kilosOfHouse_13 rfl (lv_at hl 2 rfl) ?_
        refine gf_n (C := RX1) (T := TX1) (N := 14) (ci := 1) (q0 := 0) (v := .ref (a 8)) hx hb hts (iU inlX1) hown hK hP rfl rfl 13 (by decide) (kU u_67) rfl rfl dX1_kilosOfHouse_14 ?_
        refine lv_iload_n hx hb dX1_kilosOfHouse_17 rfl (lv_at hl 3 rfl) ?_
        refine lv_iload_n hx hb dX1_kilosOfHouse_18 rfl (lv_at hl 0 rfl) ?_
        refine go_SN (ni := 2) (c_X8_cell l D cI cZ cF cL h i ) (gU u_245) rfl hdS_X8_cell ⟨Nat.le_of_ble_eq_true rfl, Nat.le_of_ble_eq_true rfl⟩ ⟨rfl, rfl⟩ rfl (hts _ (kU u_2)) (hts _ (kU u_244)) hx hb hml hown hts hK hA hP hD hS hl.1 ⟨Nat.le_of_ble_eq_true rfl, Nat.le_of_ble_eq_true rfl⟩ [] rfl rfl (fun _ => rfl) (rest := [.ref (a 8), .int (nI k)]) rfl rfl (Nat.le_of_ble_eq_true rfl) dX1_kilosOfHouse_19 (ws2 := (fun _ : Unit => (fX cI a nH nV wk ea gi sw f1 f2 f3 f4 f5 f6 f7 f8))) (fun _ => rfl) (fun _ Hp locs hP hD hS => ?_)
        refine ia_n (q0 := 8) (t0 := 0) hx hb hK hP rfl rfl (by omega) (by decide) dX1_kilosOfHouse_22 ?_
        refine lv_iadd hx hb dX1_kilosOfHouse_23 ?_
        rw [nI_add k (f8 (h * 5 + i))]
        refine lv_istore_n (lv' := [(2, .int (nI (k + (f8 (h * 5 + i))))), (3, .int (nI i)), (0, .ref (a 0)), (1, .int (nI h))]) hx hb dX1_kilosOfHouse_24 rfl hl (by decide) rfl (fun ls hl => ?_)
        refine lv_iinc (v := (nI (i + 1))) (lv' := [(3, .int (nI (i + 1))), (2, .int (nI (k + (f8 (h * 5 + i))))), (0, .ref (a 0)), (1, .int (nI h))]) hx hb dX1_kilosOfHouse_25 hl (k := 1) rfl (nI_add i 1) (by decide) rfl (fun ls hl => ?_)
        refine lv_goto (tgt := 4) hx hb dX1_kilosOfHouse_28 (by decide) ?_
        exact ih (i + 1) (k + (f8 (h * 5 + i))) (by omega) (by rw [ek, sumN_s]) (by omega) _ _ hP hD hS _ (lv_sub hl [0, 1, 2, 3] rfl)
  exact loop_4 ((nV - 0) + 1) 0 0 (by omega) rfl (Nat.lt_succ_self _) _ _ hP hD hS _ (lv_sub hl [0, 1, 2, 3] rfl)
set_option maxHeartbeats 4000000 in
set_option maxRecDepth 100000 in
theorem c_X1_kilosOfVegetable (l : Launch) (D : va_G) (cI cZ cF cL : ClassId) (a : Nat → Nat) (nH nV wk ea gi sw : Nat) (f1 f2 f3 f4 f5 f6 f7 f8 : Nat → Nat) (v : Nat) (hH : nH ≤ 6) (hv : v < 5) : CT l D (tysX cI cZ cF cL) yX1_kilosOfVegetable (wA yX1_kilosOfVegetable cX1_kilosOfVegetable 4 (some .int)) (rmF 1 21) [.ref (a 0), .int (nI v)] (fX cI a nH nV wk ea gi sw f1 f2 f3 f4 f5 f6 f7 f8) (some (.int (nI (kilV f8 nH v)))) (fun _ : Unit => (fX cI a nH nV wk ea gi sw f1 f2 f3 f4 f5 f6 f7 f8)) := by
  refine ct_in (cc := cX1_kilosOfVegetable) (maxL := 4) (ret := (some .int)) (own := RX1) (lv := [(0, .ref (a 0)), (1, .int (nI v))]) (by decide +kernel) rfl rfl (Nat.le_of_ble_eq_true rfl) rfl ?_
  intro p e s m args below meth c A ls hx hb hr hml hts hown hlocks hK hA hP hD hS hl
  refine lv_iconst (v := (nI 0)) hx hb dX1_kilosOfVegetable_0 (by decide) ?_
  refine lv_istore_n (lv' := [(2, .int (nI 0)), (0, .ref (a 0)), (1, .int (nI v))]) hx hb dX1_kilosOfVegetable_1 rfl hl (by decide) rfl (fun ls hl => ?_)
  refine lv_iconst (v := (nI 0)) hx hb dX1_kilosOfVegetable_2 (by decide) ?_
  refine lv_istore_n (lv' := [(3, .int (nI 0)), (2, .int (nI 0)), (0, .ref (a 0)), (1, .int (nI v))]) hx hb dX1_kilosOfVegetable_3 rfl hl (by decide) rfl (fun ls hl => ?_)
  have loop_4 : ∀ (dd : Nat) (i : Nat) (k : Nat), (i ≤ nH) → (k = sumN (fun h => f8 (h * 5 + v)) i) → (nH - i) < dd → ∀ (Hp : Heap) (locs : List Loc), va_P D vwCl (fX cI a nH nV wk ea gi sw f1 f2 f3 f4 f5 f6 f7 f8) Hp → va_D A (fX cI a nH nV wk ea gi sw f1 f2 f3 f4 f5 f6 f7 f8) → va_S A s.heap Hp locs → ∀ ls : Array Slot, lv_has ls 4 [(3, .int (nI i)), (2, .int (nI k)), (0, .ref (a 0)), (1, .int (nI v))] → W p l e (rmF 1 21) s m args below meth c Hp locs 0 0 (MQ below (CQ D (some (.int (nI (kilV f8 nH v)))) (fun _ : Unit => (fX cI a nH nV wk ea gi sw f1 f2 f3 f4 f5 f6 f7 f8)) A) args s 0 0 A) (F0 m 4 ls []) := by
    intro dd
    induction dd with
    | zero => intro i k hi ek hm; exact absurd hm (Nat.not_lt_zero _)
    | succ dd ih =>
      intro i k hi ek hm Hp locs hP hD hS ls hl
      refine lv_iload_n hx hb dX1_kilosOfVegetable_4 rfl (lv_at hl 0 rfl) ?_
      refine lv_aload_n hx hb dX1_kilosOfVegetable_5 rfl (lv_at hl 2 rfl) ?_
      refine gf_n (C := RX1) (T := TX1) (N := 14) (ci := 1) (q0 := 0) (v := .int (nI nH)) hx hb hts (iU inlX1) hown hK hP rfl rfl 0 (by decide) (kU u_72) rfl rfl dX1_kilosOfVegetable_6 ?_
      refine lv_icmp_ge (tgt := 31) hx hb dX1_kilosOfVegetable_9 (by decide) (fun c_9 => ?_) (fun c_9 => ?_)
      · skip
        replace c_9 := cn_le (by omega) (by omega) c_9
        refine lv_iload_n hx hb dX1_kilosOfVegetable_31 rfl (lv_at hl 1 rfl) ?_
        exact ct_i () hx hb hr hlocks hP hS (by rw [ek, show i = nH by omega]; rfl) dX1_kilosOfVegetable_32
      · skip
        replace c_9 := cn_nle (by omega) (by omega) c_9
        refine lv_iload_n hx hb dX1_kilosOfVegetable_12 rfl (lv_at hl 1 rfl) ?_
        refine lv_aload_n hx hb dX1_kilosOfVegetable_13 rfl (lv_at hl 2 rfl) ?_
        refine gf_n (C := RX1) (T := TX1) (N := 14) (ci := 1) (q0 := 0) (v := .ref (a 8)) hx hb hts (iU inlX1) hown hK hP rfl rfl 13 (by decide) (kU u_67) rfl rfl dX1_kilosOfVegetable_14 ?_
        refine lv_iload_n hx hb dX1_kilosOfVegetable_17 rfl (lv_at hl 0 rfl) ?_
        refine lv_iload_n hx hb dX1_kilosOfVegetable_18 rfl (lv_at hl 3 rfl) ?_
        refine go_SN (ni := 2) (c_X8_cell l D cI cZ cF cL i v ) (gU u_245) rfl hdS_X8_cell ⟨Nat.le_of_ble_eq_true rfl, Nat.le_of_ble_eq_true rfl⟩ ⟨rfl, rfl⟩ rfl (hts _ (kU u_2)) (hts _ (kU u_244)) hx hb hml hown hts hK hA hP hD hS hl.1 ⟨Nat.le_of_ble_eq_true rfl, Nat.le_of_ble_eq_true rfl⟩ [] rfl rfl (fun _ => rfl) (rest := [.ref (a 8), .int (nI k)]) rfl rfl (Nat.le_of_ble_eq_true rfl) dX1_kilosOfVegetable_19 (ws2 := (fun _ : Unit => (fX cI a nH nV wk ea gi sw f1 f2 f3 f4 f5 f6 f7 f8))) (fun _ => rfl) (fun _ Hp locs hP hD hS => ?_)
        refine ia_n (q0 := 8) (t0 := 0) hx hb hK hP rfl rfl (by omega) (by decide) dX1_kilosOfVegetable_22 ?_
        refine lv_iadd hx hb dX1_kilosOfVegetable_23 ?_
        rw [nI_add k (f8 (i * 5 + v))]
        refine lv_istore_n (lv' := [(2, .int (nI (k + (f8 (i * 5 + v))))), (3, .int (nI i)), (0, .ref (a 0)), (1, .int (nI v))]) hx hb dX1_kilosOfVegetable_24 rfl hl (by decide) rfl (fun ls hl => ?_)
        refine lv_iinc (v := (nI (i + 1))) (lv' := [(3, .int (nI (i + 1))), (2, .int (nI (k + (f8 (i * 5 + v))))), (0, .ref (a 0)), (1, .int (nI v))]) hx hb dX1_kilosOfVegetable_25 hl (k := 1) rfl (nI_add i 1) (by decide) rfl (fun ls hl => ?_)
        refine lv_goto (tgt := 4) hx hb dX1_kilosOfVegetable_28 (by decide) ?_
        exact ih (i + 1) (k + (f8 (i * 5 + v))) (by omega) (by rw [ek, sumN_s]) (by omega) _ _ hP hD hS _ (lv_sub hl [0, 1, 2, 3] rfl)
  exact loop_4 ((nH - 0) + 1) 0 0 (by omega) rfl (Nat.lt_succ_self _) _ _ hP hD hS _ (lv_sub hl [0, 1, 2, 3] rfl)
set_option maxRecDepth 20000 in
theorem u_329 : Cond.code yX1_kilosOfHouse cX1_kilosOfHouse 4 (some .int) ∈ wsL_law := List.mem_of_getElem? (i := 160) (by decide +kernel)
set_option maxRecDepth 20000 in
theorem u_326 : Cond.methodLink RX1 78 yX1_kilosOfHouse ∈ wsL_law := List.mem_of_getElem? (i := 157) (by decide +kernel)
set_option maxRecDepth 20000 in
theorem u_327 : Cond.instanceMethod yX1_kilosOfHouse ∈ wsL_law := List.mem_of_getElem? (i := 158) (by decide +kernel)
set_option maxRecDepth 20000 in
theorem u_328 : Cond.selects RX1 yX1_kilosOfHouse yX1_kilosOfHouse ∈ wsL_law := List.mem_of_getElem? (i := 159) (by decide +kernel)
theorem hdV_X1_kilosOfHouse : yX1_kilosOfHouse.cls = RX1 ∧ yX1_kilosOfHouse.cls ≠ "java/lang/invoke/MethodHandle" ∧ yX1_kilosOfHouse.cls ≠ "java/lang/invoke/VarHandle" ∧ (parseMethodDescriptor yX1_kilosOfHouse.desc).map (fun d => d.parameters.length) = some 1 := by decide +kernel
set_option maxHeartbeats 4000000 in
set_option maxRecDepth 100000 in
theorem c_X1_kilosInBoxes (l : Launch) (D : va_G) (cI cZ cF cL : ClassId) (a : Nat → Nat) (nH nV wk ea gi sw : Nat) (f1 f2 f3 f4 f5 f6 f7 f8 : Nat → Nat) (hH : nH ≤ 6) (hV : nV ≤ 5) : CT l D (tysX cI cZ cF cL) yX1_kilosInBoxes (wA yX1_kilosInBoxes cX1_kilosInBoxes 3 (some .int)) (rmF 2 44) [.ref (a 0)] (fX cI a nH nV wk ea gi sw f1 f2 f3 f4 f5 f6 f7 f8) (some (.int (nI (kilA f8 nV nH)))) (fun _ : Unit => (fX cI a nH nV wk ea gi sw f1 f2 f3 f4 f5 f6 f7 f8)) := by
  refine ct_in (cc := cX1_kilosInBoxes) (maxL := 3) (ret := (some .int)) (own := RX1) (lv := [(0, .ref (a 0))]) (by decide +kernel) rfl rfl (Nat.le_of_ble_eq_true rfl) rfl ?_
  intro p e s m args below meth c A ls hx hb hr hml hts hown hlocks hK hA hP hD hS hl
  refine lv_iconst (v := (nI 0)) hx hb dX1_kilosInBoxes_0 (by decide) ?_
  refine lv_istore_n (lv' := [(1, .int (nI 0)), (0, .ref (a 0))]) hx hb dX1_kilosInBoxes_1 rfl hl (by decide) rfl (fun ls hl => ?_)
  refine lv_iconst (v := (nI 0)) hx hb dX1_kilosInBoxes_2 (by decide) ?_
  refine lv_istore_n (lv' := [(2, .int (nI 0)), (1, .int (nI 0)), (0, .ref (a 0))]) hx hb dX1_kilosInBoxes_3 rfl hl (by decide) rfl (fun ls hl => ?_)
  have loop_4 : ∀ (dd : Nat) (i : Nat) (k : Nat), (i ≤ nH) → (k = sumN (kilH f8 nV) i) → (nH - i) < dd → ∀ (Hp : Heap) (locs : List Loc), va_P D vwCl (fX cI a nH nV wk ea gi sw f1 f2 f3 f4 f5 f6 f7 f8) Hp → va_D A (fX cI a nH nV wk ea gi sw f1 f2 f3 f4 f5 f6 f7 f8) → va_S A s.heap Hp locs → ∀ ls : Array Slot, lv_has ls 3 [(2, .int (nI i)), (1, .int (nI k)), (0, .ref (a 0))] → W p l e (rmF 2 44) s m args below meth c Hp locs 0 0 (MQ below (CQ D (some (.int (nI (kilA f8 nV nH)))) (fun _ : Unit => (fX cI a nH nV wk ea gi sw f1 f2 f3 f4 f5 f6 f7 f8)) A) args s 0 0 A) (F0 m 4 ls []) := by
    intro dd
    induction dd with
    | zero => intro i k hi ek hm; exact absurd hm (Nat.not_lt_zero _)
    | succ dd ih =>
      intro i k hi ek hm Hp locs hP hD hS ls hl
      refine lv_iload_n hx hb dX1_kilosInBoxes_4 rfl (lv_at hl 0 rfl) ?_
      refine lv_aload_n hx hb dX1_kilosInBoxes_5 rfl (lv_at hl 2 rfl) ?_
      refine gf_n (C := RX1) (T := TX1) (N := 14) (ci := 1) (q0 := 0) (v := .int (nI nH)) hx hb hts (iU inlX1) hown hK hP rfl rfl 0 (by decide) (kU u_72) rfl rfl dX1_kilosInBoxes_6 ?_
      refine lv_icmp_ge (tgt := 26) hx hb dX1_kilosInBoxes_9 (by decide) (fun c_9 => ?_) (fun c_9 => ?_)
      · skip
        replace c_9 := cn_le (by omega) (by omega) c_9
        refine lv_iload_n hx hb dX1_kilosInBoxes_26 rfl (lv_at hl 1 rfl) ?_
        exact ct_i () hx hb hr hlocks hP hS (by rw [ek, show i = nH by omega]; rfl) dX1_kilosInBoxes_27
      · skip
        replace c_9 := cn_nle (by omega) (by omega) c_9
        refine lv_iload_n hx hb dX1_kilosInBoxes_12 rfl (lv_at hl 1 rfl) ?_
        refine lv_aload_n hx hb dX1_kilosInBoxes_13 rfl (lv_at hl 2 rfl) ?_
        refine lv_iload_n hx hb dX1_kilosInBoxes_14 rfl (lv_at hl 0 rfl) ?_
        refine go_V (ci := 1) (q0 := 0) (cq := (RX1, TX1, 14)) (c_X1_kilosOfHouse l D cI cZ cF cL a nH nV wk ea gi sw f1 f2 f3 f4 f5 f6 f7 f8 i (by omega) (by omega)) (gUV u_326 u_327 u_328 u_20 u_329) rfl hdV_X1_kilosOfHouse ⟨Nat.le_of_ble_eq_true rfl, Nat.le_of_ble_eq_true rfl⟩ ⟨rfl, rfl⟩ hx hb hml hown hts hK hA hP hD hS hl.1 ⟨Nat.le_of_ble_eq_true rfl, Nat.le_of_ble_eq_true rfl⟩ rfl rfl rfl [0, 1, 2, 3, 4, 5, 6, 7, 8] rfl rfl (fun _ => rfl) (rest := [.int (nI k)]) rfl rfl (Nat.le_of_ble_eq_true rfl) dX1_kilosInBoxes_15 (ws2 := (fun _ : Unit => (fX cI a nH nV wk ea gi sw f1 f2 f3 f4 f5 f6 f7 f8))) (fun _ => rfl) (fun _ Hp locs hP hD hS => ?_)
        refine lv_iadd hx hb dX1_kilosInBoxes_18 ?_
        rw [nI_add k (kilH f8 nV i)]
        refine lv_istore_n (lv' := [(1, .int (nI (k + (kilH f8 nV i)))), (2, .int (nI i)), (0, .ref (a 0))]) hx hb dX1_kilosInBoxes_19 rfl hl (by decide) rfl (fun ls hl => ?_)
        refine lv_iinc (v := (nI (i + 1))) (lv' := [(2, .int (nI (i + 1))), (1, .int (nI (k + (kilH f8 nV i)))), (0, .ref (a 0))]) hx hb dX1_kilosInBoxes_20 hl (k := 1) rfl (nI_add i 1) (by decide) rfl (fun ls hl => ?_)
        refine lv_goto (tgt := 4) hx hb dX1_kilosInBoxes_23 (by decide) ?_
        exact ih (i + 1) (k + (kilH f8 nV i)) (by omega) (by rw [ek, sumN_s]) (by omega) _ _ hP hD hS _ (lv_sub hl [0, 1, 2] rfl)
  exact loop_4 ((nH - 0) + 1) 0 0 (by omega) rfl (Nat.lt_succ_self _) _ _ hP hD hS _ (lv_sub hl [0, 1, 2] rfl)
set_option maxRecDepth 20000 in
theorem u_65 : Cond.fieldLink RX1 27 "HarvestBoxes$Farm" "composted" "[I" ∈ wsL_law := List.mem_of_getElem? (i := 60) (by decide +kernel)
set_option maxHeartbeats 4000000 in
set_option maxRecDepth 100000 in
theorem c_X1_compostedOfAll (l : Launch) (D : va_G) (cI cZ cF cL : ClassId) (a : Nat → Nat) (nH nV wk ea gi sw : Nat) (f1 f2 f3 f4 f5 f6 f7 f8 : Nat → Nat) (hV : nV ≤ 5) : CT l D (tysX cI cZ cF cL) yX1_compostedOfAll (wA yX1_compostedOfAll cX1_compostedOfAll 3 (some .int)) (rmF 0 0) [.ref (a 0)] (fX cI a nH nV wk ea gi sw f1 f2 f3 f4 f5 f6 f7 f8) (some (.int (nI (sumN f6 nV)))) (fun _ : Unit => (fX cI a nH nV wk ea gi sw f1 f2 f3 f4 f5 f6 f7 f8)) := by
  refine ct_in (cc := cX1_compostedOfAll) (maxL := 3) (ret := (some .int)) (own := RX1) (lv := [(0, .ref (a 0))]) (by decide +kernel) rfl rfl (Nat.le_of_ble_eq_true rfl) rfl ?_
  intro p e s m args below meth c A ls hx hb hr hml hts hown hlocks hK hA hP hD hS hl
  refine lv_iconst (v := (nI 0)) hx hb dX1_compostedOfAll_0 (by decide) ?_
  refine lv_istore_n (lv' := [(1, .int (nI 0)), (0, .ref (a 0))]) hx hb dX1_compostedOfAll_1 rfl hl (by decide) rfl (fun ls hl => ?_)
  refine lv_iconst (v := (nI 0)) hx hb dX1_compostedOfAll_2 (by decide) ?_
  refine lv_istore_n (lv' := [(2, .int (nI 0)), (1, .int (nI 0)), (0, .ref (a 0))]) hx hb dX1_compostedOfAll_3 rfl hl (by decide) rfl (fun ls hl => ?_)
  have loop_4 : ∀ (dd : Nat) (i : Nat) (k : Nat), (i ≤ nV) → (k = sumN (f6) i) → (nV - i) < dd → ∀ (Hp : Heap) (locs : List Loc), va_P D vwCl (fX cI a nH nV wk ea gi sw f1 f2 f3 f4 f5 f6 f7 f8) Hp → va_D A (fX cI a nH nV wk ea gi sw f1 f2 f3 f4 f5 f6 f7 f8) → va_S A s.heap Hp locs → ∀ ls : Array Slot, lv_has ls 3 [(2, .int (nI i)), (1, .int (nI k)), (0, .ref (a 0))] → W p l e (rmF 0 0) s m args below meth c Hp locs 0 0 (MQ below (CQ D (some (.int (nI (sumN f6 nV)))) (fun _ : Unit => (fX cI a nH nV wk ea gi sw f1 f2 f3 f4 f5 f6 f7 f8)) A) args s 0 0 A) (F0 m 4 ls []) := by
    intro dd
    induction dd with
    | zero => intro i k hi ek hm; exact absurd hm (Nat.not_lt_zero _)
    | succ dd ih =>
      intro i k hi ek hm Hp locs hP hD hS ls hl
      refine lv_iload_n hx hb dX1_compostedOfAll_4 rfl (lv_at hl 0 rfl) ?_
      refine lv_aload_n hx hb dX1_compostedOfAll_5 rfl (lv_at hl 2 rfl) ?_
      refine gf_n (C := RX1) (T := TX1) (N := 14) (ci := 1) (q0 := 0) (v := .int (nI nV)) hx hb hts (iU inlX1) hown hK hP rfl rfl 1 (by decide) (kU u_73) rfl rfl dX1_compostedOfAll_6 ?_
      refine lv_icmp_ge (tgt := 27) hx hb dX1_compostedOfAll_9 (by decide) (fun c_9 => ?_) (fun c_9 => ?_)
      · skip
        replace c_9 := cn_le (by omega) (by omega) c_9
        refine lv_iload_n hx hb dX1_compostedOfAll_27 rfl (lv_at hl 1 rfl) ?_
        exact ct_i () hx hb hr hlocks hP hS (by rw [ek, show i = nV by omega]) dX1_compostedOfAll_28
      · skip
        replace c_9 := cn_nle (by omega) (by omega) c_9
        refine lv_iload_n hx hb dX1_compostedOfAll_12 rfl (lv_at hl 1 rfl) ?_
        refine lv_aload_n hx hb dX1_compostedOfAll_13 rfl (lv_at hl 2 rfl) ?_
        refine gf_n (C := RX1) (T := TX1) (N := 14) (ci := 1) (q0 := 0) (v := .ref (a 6)) hx hb hts (iU inlX1) hown hK hP rfl rfl 11 (by decide) (kU u_65) rfl rfl dX1_compostedOfAll_14 ?_
        refine lv_iload_n hx hb dX1_compostedOfAll_17 rfl (lv_at hl 0 rfl) ?_
        refine ia_n (q0 := 6) (t0 := 0) hx hb hK hP rfl rfl (by omega) (by decide) dX1_compostedOfAll_18 ?_
        refine lv_iadd hx hb dX1_compostedOfAll_19 ?_
        rw [nI_add k (f6 i)]
        refine lv_istore_n (lv' := [(1, .int (nI (k + (f6 i)))), (2, .int (nI i)), (0, .ref (a 0))]) hx hb dX1_compostedOfAll_20 rfl hl (by decide) rfl (fun ls hl => ?_)
        refine lv_iinc (v := (nI (i + 1))) (lv' := [(2, .int (nI (i + 1))), (1, .int (nI (k + (f6 i)))), (0, .ref (a 0))]) hx hb dX1_compostedOfAll_21 hl (k := 1) rfl (nI_add i 1) (by decide) rfl (fun ls hl => ?_)
        refine lv_goto (tgt := 4) hx hb dX1_compostedOfAll_24 (by decide) ?_
        exact ih (i + 1) (k + (f6 i)) (by omega) (by rw [ek, sumN_s]) (by omega) _ _ hP hD hS _ (lv_sub hl [0, 1, 2] rfl)
  exact loop_4 ((nV - 0) + 1) 0 0 (by omega) rfl (Nat.lt_succ_self _) _ _ hP hD hS _ (lv_sub hl [0, 1, 2] rfl)
set_option maxHeartbeats 4000000 in
set_option maxRecDepth 100000 in
theorem c_X1_owedByAll (l : Launch) (D : va_G) (cI cZ cF cL : ClassId) (a : Nat → Nat) (nH nV wk ea gi sw : Nat) (f1 f2 f3 f4 f5 f6 f7 f8 : Nat → Nat) (hH : nH ≤ 6) : CT l D (tysX cI cZ cF cL) yX1_owedByAll (wA yX1_owedByAll cX1_owedByAll 3 (some .int)) (rmF 0 0) [.ref (a 0)] (fX cI a nH nV wk ea gi sw f1 f2 f3 f4 f5 f6 f7 f8) (some (.int (nI (sumN f2 nH)))) (fun _ : Unit => (fX cI a nH nV wk ea gi sw f1 f2 f3 f4 f5 f6 f7 f8)) := by
  refine ct_in (cc := cX1_owedByAll) (maxL := 3) (ret := (some .int)) (own := RX1) (lv := [(0, .ref (a 0))]) (by decide +kernel) rfl rfl (Nat.le_of_ble_eq_true rfl) rfl ?_
  intro p e s m args below meth c A ls hx hb hr hml hts hown hlocks hK hA hP hD hS hl
  refine lv_iconst (v := (nI 0)) hx hb dX1_owedByAll_0 (by decide) ?_
  refine lv_istore_n (lv' := [(1, .int (nI 0)), (0, .ref (a 0))]) hx hb dX1_owedByAll_1 rfl hl (by decide) rfl (fun ls hl => ?_)
  refine lv_iconst (v := (nI 0)) hx hb dX1_owedByAll_2 (by decide) ?_
  refine lv_istore_n (lv' := [(2, .int (nI 0)), (1, .int (nI 0)), (0, .ref (a 0))]) hx hb dX1_owedByAll_3 rfl hl (by decide) rfl (fun ls hl => ?_)
  have loop_4 : ∀ (dd : Nat) (i : Nat) (k : Nat), (i ≤ nH) → (k = sumN (f2) i) → (nH - i) < dd → ∀ (Hp : Heap) (locs : List Loc), va_P D vwCl (fX cI a nH nV wk ea gi sw f1 f2 f3 f4 f5 f6 f7 f8) Hp → va_D A (fX cI a nH nV wk ea gi sw f1 f2 f3 f4 f5 f6 f7 f8) → va_S A s.heap Hp locs → ∀ ls : Array Slot, lv_has ls 3 [(2, .int (nI i)), (1, .int (nI k)), (0, .ref (a 0))] → W p l e (rmF 0 0) s m args below meth c Hp locs 0 0 (MQ below (CQ D (some (.int (nI (sumN f2 nH)))) (fun _ : Unit => (fX cI a nH nV wk ea gi sw f1 f2 f3 f4 f5 f6 f7 f8)) A) args s 0 0 A) (F0 m 4 ls []) := by
    intro dd
    induction dd with
    | zero => intro i k hi ek hm; exact absurd hm (Nat.not_lt_zero _)
    | succ dd ih =>
      intro i k hi ek hm Hp locs hP hD hS ls hl
      refine lv_iload_n hx hb dX1_owedByAll_4 rfl (lv_at hl 0 rfl) ?_
      refine lv_aload_n hx hb dX1_owedByAll_5 rfl (lv_at hl 2 rfl) ?_
      refine gf_n (C := RX1) (T := TX1) (N := 14) (ci := 1) (q0 := 0) (v := .int (nI nH)) hx hb hts (iU inlX1) hown hK hP rfl rfl 0 (by decide) (kU u_72) rfl rfl dX1_owedByAll_6 ?_
      refine lv_icmp_ge (tgt := 27) hx hb dX1_owedByAll_9 (by decide) (fun c_9 => ?_) (fun c_9 => ?_)
      · skip
        replace c_9 := cn_le (by omega) (by omega) c_9
        refine lv_iload_n hx hb dX1_owedByAll_27 rfl (lv_at hl 1 rfl) ?_
        exact ct_i () hx hb hr hlocks hP hS (by rw [ek, show i = nH by omega]) dX1_owedByAll_28
      · skip
        replace c_9 := cn_nle (by omega) (by omega) c_9
        refine lv_iload_n hx hb dX1_owedByAll_12 rfl (lv_at hl 1 rfl) ?_
        refine lv_aload_n hx hb dX1_owedByAll_13 rfl (lv_at hl 2 rfl) ?_
        refine gf_n (C := RX1) (T := TX1) (N := 14) (ci := 1) (q0 := 0) (v := .ref (a 2)) hx hb hts (iU inlX1) hown hK hP rfl rfl 7 (by decide) (kU u_61) rfl rfl dX1_owedByAll_14 ?_
        refine lv_iload_n hx hb dX1_owedByAll_17 rfl (lv_at hl 0 rfl) ?_
        refine ia_n (q0 := 2) (t0 := 0) hx hb hK hP rfl rfl (by omega) (by decide) dX1_owedByAll_18 ?_
        refine lv_iadd hx hb dX1_owedByAll_19 ?_
        rw [nI_add k (f2 i)]
        refine lv_istore_n (lv' := [(1, .int (nI (k + (f2 i)))), (2, .int (nI i)), (0, .ref (a 0))]) hx hb dX1_owedByAll_20 rfl hl (by decide) rfl (fun ls hl => ?_)
        refine lv_iinc (v := (nI (i + 1))) (lv' := [(2, .int (nI (i + 1))), (1, .int (nI (k + (f2 i)))), (0, .ref (a 0))]) hx hb dX1_owedByAll_21 hl (k := 1) rfl (nI_add i 1) (by decide) rfl (fun ls hl => ?_)
        refine lv_goto (tgt := 4) hx hb dX1_owedByAll_24 (by decide) ?_
        exact ih (i + 1) (k + (f2 i)) (by omega) (by rw [ek, sumN_s]) (by omega) _ _ hP hD hS _ (lv_sub hl [0, 1, 2] rfl)
  exact loop_4 ((nH - 0) + 1) 0 0 (by omega) rfl (Nat.lt_succ_self _) _ _ hP hD hS _ (lv_sub hl [0, 1, 2] rfl)
set_option maxRecDepth 20000 in
theorem u_66 : Cond.fieldLink RX1 30 "HarvestBoxes$Farm" "likings" "[I" ∈ wsL_law := List.mem_of_getElem? (i := 61) (by decide +kernel)
set_option maxHeartbeats 4000000 in
set_option maxRecDepth 100000 in
theorem c_X1_happinessOf (l : Launch) (D : va_G) (cI cZ cF cL : ClassId) (a : Nat → Nat) (nH nV wk ea gi sw : Nat) (f1 f2 f3 f4 f5 f6 f7 f8 : Nat → Nat) (h : Nat) (hV : nV ≤ 5) (hh : h < 6) : CT l D (tysX cI cZ cF cL) yX1_happinessOf (wA yX1_happinessOf cX1_happinessOf 4 (some .int)) (rmF 1 21) [.ref (a 0), .int (nI h)] (fX cI a nH nV wk ea gi sw f1 f2 f3 f4 f5 f6 f7 f8) (some (.int (nI (hap f7 f8 nV h)))) (fun _ : Unit => (fX cI a nH nV wk ea gi sw f1 f2 f3 f4 f5 f6 f7 f8)) := by
  refine ct_in (cc := cX1_happinessOf) (maxL := 4) (ret := (some .int)) (own := RX1) (lv := [(0, .ref (a 0)), (1, .int (nI h))]) (by decide +kernel) rfl rfl (Nat.le_of_ble_eq_true rfl) rfl ?_
  intro p e s m args below meth c A ls hx hb hr hml hts hown hlocks hK hA hP hD hS hl
  refine lv_iconst (v := (nI 0)) hx hb dX1_happinessOf_0 (by decide) ?_
  refine lv_istore_n (lv' := [(2, .int (nI 0)), (0, .ref (a 0)), (1, .int (nI h))]) hx hb dX1_happinessOf_1 rfl hl (by decide) rfl (fun ls hl => ?_)
  refine lv_iconst (v := (nI 0)) hx hb dX1_happinessOf_2 (by decide) ?_
  refine lv_istore_n (lv' := [(3, .int (nI 0)), (2, .int (nI 0)), (0, .ref (a 0)), (1, .int (nI h))]) hx hb dX1_happinessOf_3 rfl hl (by decide) rfl (fun ls hl => ?_)
  have loop_4 : ∀ (dd : Nat) (i : Nat) (k : Nat), (i ≤ nV) → (k = sumN (fun v => f7 (h * 5 + v) * f8 (h * 5 + v)) i) → (nV - i) < dd → ∀ (Hp : Heap) (locs : List Loc), va_P D vwCl (fX cI a nH nV wk ea gi sw f1 f2 f3 f4 f5 f6 f7 f8) Hp → va_D A (fX cI a nH nV wk ea gi sw f1 f2 f3 f4 f5 f6 f7 f8) → va_S A s.heap Hp locs → ∀ ls : Array Slot, lv_has ls 4 [(3, .int (nI i)), (2, .int (nI k)), (0, .ref (a 0)), (1, .int (nI h))] → W p l e (rmF 1 21) s m args below meth c Hp locs 0 0 (MQ below (CQ D (some (.int (nI (hap f7 f8 nV h)))) (fun _ : Unit => (fX cI a nH nV wk ea gi sw f1 f2 f3 f4 f5 f6 f7 f8)) A) args s 0 0 A) (F0 m 4 ls []) := by
    intro dd
    induction dd with
    | zero => intro i k hi ek hm; exact absurd hm (Nat.not_lt_zero _)
    | succ dd ih =>
      intro i k hi ek hm Hp locs hP hD hS ls hl
      refine lv_iload_n hx hb dX1_happinessOf_4 rfl (lv_at hl 0 rfl) ?_
      refine lv_aload_n hx hb dX1_happinessOf_5 rfl (lv_at hl 2 rfl) ?_
      refine gf_n (C := RX1) (T := TX1) (N := 14) (ci := 1) (q0 := 0) (v := .int (nI nV)) hx hb hts (iU inlX1) hown hK hP rfl rfl 1 (by decide) (kU u_73) rfl rfl dX1_happinessOf_6 ?_
      refine lv_icmp_ge (tgt := 42) hx hb dX1_happinessOf_9 (by decide) (fun c_9 => ?_) (fun c_9 => ?_)
      · skip
        replace c_9 := cn_le (by omega) (by omega) c_9
        refine lv_iload_n hx hb dX1_happinessOf_42 rfl (lv_at hl 1 rfl) ?_
        exact ct_i () hx hb hr hlocks hP hS (by rw [ek, show i = nV by omega]; rfl) dX1_happinessOf_43
      · skip
        replace c_9 := cn_nle (by omega) (by omega) c_9
        refine lv_iload_n hx hb dX1_happinessOf_12 rfl (lv_at hl 1 rfl) ?_
        refine lv_aload_n hx hb dX1_happinessOf_13 rfl (lv_at hl 2 rfl) ?_
        refine gf_n (C := RX1) (T := TX1) (N := 14) (ci := 1) (q0 := 0) (v := .ref (a 7)) hx hb hts (iU inlX1) hown hK hP rfl rfl 12 (by decide) (kU u_66) rfl rfl dX1_happinessOf_14 ?_
        refine lv_iload_n hx hb dX1_happinessOf_17 rfl (lv_at hl 3 rfl) ?_
        refine lv_iload_n hx hb dX1_happinessOf_18 rfl (lv_at hl 0 rfl) ?_
        refine go_SN (ni := 2) (c_X8_cell l D cI cZ cF cL h i ) (gU u_245) rfl hdS_X8_cell ⟨Nat.le_of_ble_eq_true rfl, Nat.le_of_ble_eq_true rfl⟩ ⟨rfl, rfl⟩ rfl (hts _ (kU u_2)) (hts _ (kU u_244)) hx hb hml hown hts hK hA hP hD hS hl.1 ⟨Nat.le_of_ble_eq_true rfl, Nat.le_of_ble_eq_true rfl⟩ [] rfl rfl (fun _ => rfl) (rest := [.ref (a 7), .int (nI k)]) rfl rfl (Nat.le_of_ble_eq_true rfl) dX1_happinessOf_19 (ws2 := (fun _ : Unit => (fX cI a nH nV wk ea gi sw f1 f2 f3 f4 f5 f6 f7 f8))) (fun _ => rfl) (fun _ Hp locs hP hD hS => ?_)
        refine ia_n (q0 := 7) (t0 := 0) hx hb hK hP rfl rfl (by omega) (by decide) dX1_happinessOf_22 ?_
        refine lv_aload_n hx hb dX1_happinessOf_23 rfl (lv_at hl 2 rfl) ?_
        refine gf_n (C := RX1) (T := TX1) (N := 14) (ci := 1) (q0 := 0) (v := .ref (a 8)) hx hb hts (iU inlX1) hown hK hP rfl rfl 13 (by decide) (kU u_67) rfl rfl dX1_happinessOf_24 ?_
        refine lv_iload_n hx hb dX1_happinessOf_27 rfl (lv_at hl 3 rfl) ?_
        refine lv_iload_n hx hb dX1_happinessOf_28 rfl (lv_at hl 0 rfl) ?_
        refine go_SN (ni := 2) (c_X8_cell l D cI cZ cF cL h i ) (gU u_245) rfl hdS_X8_cell ⟨Nat.le_of_ble_eq_true rfl, Nat.le_of_ble_eq_true rfl⟩ ⟨rfl, rfl⟩ rfl (hts _ (kU u_2)) (hts _ (kU u_244)) hx hb hml hown hts hK hA hP hD hS hl.1 ⟨Nat.le_of_ble_eq_true rfl, Nat.le_of_ble_eq_true rfl⟩ [] rfl rfl (fun _ => rfl) (rest := [.ref (a 8), .int (nI (f7 (h * 5 + i))), .int (nI k)]) rfl rfl (Nat.le_of_ble_eq_true rfl) dX1_happinessOf_29 (ws2 := (fun _ : Unit => (fX cI a nH nV wk ea gi sw f1 f2 f3 f4 f5 f6 f7 f8))) (fun _ => rfl) (fun _ Hp locs hP hD hS => ?_)
        refine ia_n (q0 := 8) (t0 := 0) hx hb hK hP rfl rfl (by omega) (by decide) dX1_happinessOf_32 ?_
        refine lv_imul hx hb dX1_happinessOf_33 ?_
        rw [pk_mul (f7 (h * 5 + i)) (f8 (h * 5 + i))]
        refine lv_iadd hx hb dX1_happinessOf_34 ?_
        rw [nI_add k ((f7 (h * 5 + i)) * (f8 (h * 5 + i)))]
        refine lv_istore_n (lv' := [(2, .int (nI (k + ((f7 (h * 5 + i)) * (f8 (h * 5 + i)))))), (3, .int (nI i)), (0, .ref (a 0)), (1, .int (nI h))]) hx hb dX1_happinessOf_35 rfl hl (by decide) rfl (fun ls hl => ?_)
        refine lv_iinc (v := (nI (i + 1))) (lv' := [(3, .int (nI (i + 1))), (2, .int (nI (k + ((f7 (h * 5 + i)) * (f8 (h * 5 + i)))))), (0, .ref (a 0)), (1, .int (nI h))]) hx hb dX1_happinessOf_36 hl (k := 1) rfl (nI_add i 1) (by decide) rfl (fun ls hl => ?_)
        refine lv_goto (tgt := 4) hx hb dX1_happinessOf_39 (by decide) ?_
        exact ih (i + 1) (k + ((f7 (h * 5 + i)) * (f8 (h * 5 + i)))) (by omega) (by rw [ek, sumN_s]) (by omega) _ _ hP hD hS _ (lv_sub hl [0, 1, 2, 3] rfl)
  exact loop_4 ((nV - 0) + 1) 0 0 (by omega) rfl (Nat.lt_succ_self _) _ _ hP hD hS _ (lv_sub hl [0, 1, 2, 3] rfl)
set_option maxRecDepth 20000 in
theorem u_391 : Cond.code yX1_happinessOf cX1_happinessOf 4 (some .int) ∈ wsL_law := List.mem_of_getElem? (i := 273) (by decide +kernel)
set_option maxRecDepth 20000 in
theorem u_492 : Cond.methodLink RX1 82 yX1_happinessOf ∈ wsL_law := List.mem_of_getElem? (i := 270) (by decide +kernel)
set_option maxRecDepth 20000 in
theorem u_389 : Cond.instanceMethod yX1_happinessOf ∈ wsL_law := List.mem_of_getElem? (i := 271) (by decide +kernel)
set_option maxRecDepth 20000 in
theorem u_390 : Cond.selects RX1 yX1_happinessOf yX1_happinessOf ∈ wsL_law := List.mem_of_getElem? (i := 272) (by decide +kernel)
theorem hdV_X1_happinessOf : yX1_happinessOf.cls = RX1 ∧ yX1_happinessOf.cls ≠ "java/lang/invoke/MethodHandle" ∧ yX1_happinessOf.cls ≠ "java/lang/invoke/VarHandle" ∧ (parseMethodDescriptor yX1_happinessOf.desc).map (fun d => d.parameters.length) = some 1 := by decide +kernel
set_option maxHeartbeats 4000000 in
set_option maxRecDepth 100000 in
theorem c_X1_happinessOfAll (l : Launch) (D : va_G) (cI cZ cF cL : ClassId) (a : Nat → Nat) (nH nV wk ea gi sw : Nat) (f1 f2 f3 f4 f5 f6 f7 f8 : Nat → Nat) (hH : nH ≤ 6) (hV : nV ≤ 5) : CT l D (tysX cI cZ cF cL) yX1_happinessOfAll (wA yX1_happinessOfAll cX1_happinessOfAll 3 (some .int)) (rmF 2 44) [.ref (a 0)] (fX cI a nH nV wk ea gi sw f1 f2 f3 f4 f5 f6 f7 f8) (some (.int (nI (hapA f7 f8 nV nH)))) (fun _ : Unit => (fX cI a nH nV wk ea gi sw f1 f2 f3 f4 f5 f6 f7 f8)) := by
  refine ct_in (cc := cX1_happinessOfAll) (maxL := 3) (ret := (some .int)) (own := RX1) (lv := [(0, .ref (a 0))]) (by decide +kernel) rfl rfl (Nat.le_of_ble_eq_true rfl) rfl ?_
  intro p e s m args below meth c A ls hx hb hr hml hts hown hlocks hK hA hP hD hS hl
  refine lv_iconst (v := (nI 0)) hx hb dX1_happinessOfAll_0 (by decide) ?_
  refine lv_istore_n (lv' := [(1, .int (nI 0)), (0, .ref (a 0))]) hx hb dX1_happinessOfAll_1 rfl hl (by decide) rfl (fun ls hl => ?_)
  refine lv_iconst (v := (nI 0)) hx hb dX1_happinessOfAll_2 (by decide) ?_
  refine lv_istore_n (lv' := [(2, .int (nI 0)), (1, .int (nI 0)), (0, .ref (a 0))]) hx hb dX1_happinessOfAll_3 rfl hl (by decide) rfl (fun ls hl => ?_)
  have loop_4 : ∀ (dd : Nat) (i : Nat) (k : Nat), (i ≤ nH) → (k = sumN (hap f7 f8 nV) i) → (nH - i) < dd → ∀ (Hp : Heap) (locs : List Loc), va_P D vwCl (fX cI a nH nV wk ea gi sw f1 f2 f3 f4 f5 f6 f7 f8) Hp → va_D A (fX cI a nH nV wk ea gi sw f1 f2 f3 f4 f5 f6 f7 f8) → va_S A s.heap Hp locs → ∀ ls : Array Slot, lv_has ls 3 [(2, .int (nI i)), (1, .int (nI k)), (0, .ref (a 0))] → W p l e (rmF 2 44) s m args below meth c Hp locs 0 0 (MQ below (CQ D (some (.int (nI (hapA f7 f8 nV nH)))) (fun _ : Unit => (fX cI a nH nV wk ea gi sw f1 f2 f3 f4 f5 f6 f7 f8)) A) args s 0 0 A) (F0 m 4 ls []) := by
    intro dd
    induction dd with
    | zero => intro i k hi ek hm; exact absurd hm (Nat.not_lt_zero _)
    | succ dd ih =>
      intro i k hi ek hm Hp locs hP hD hS ls hl
      refine lv_iload_n hx hb dX1_happinessOfAll_4 rfl (lv_at hl 0 rfl) ?_
      refine lv_aload_n hx hb dX1_happinessOfAll_5 rfl (lv_at hl 2 rfl) ?_
      refine gf_n (C := RX1) (T := TX1) (N := 14) (ci := 1) (q0 := 0) (v := .int (nI nH)) hx hb hts (iU inlX1) hown hK hP rfl rfl 0 (by decide) (kU u_72) rfl rfl dX1_happinessOfAll_6 ?_
      refine lv_icmp_ge (tgt := 26) hx hb dX1_happinessOfAll_9 (by decide) (fun c_9 => ?_) (fun c_9 => ?_)
      · skip
        replace c_9 := cn_le (by omega) (by omega) c_9
        refine lv_iload_n hx hb dX1_happinessOfAll_26 rfl (lv_at hl 1 rfl) ?_
        exact ct_i () hx hb hr hlocks hP hS (by rw [ek, show i = nH by omega]; rfl) dX1_happinessOfAll_27
      · skip
        replace c_9 := cn_nle (by omega) (by omega) c_9
        refine lv_iload_n hx hb dX1_happinessOfAll_12 rfl (lv_at hl 1 rfl) ?_
        refine lv_aload_n hx hb dX1_happinessOfAll_13 rfl (lv_at hl 2 rfl) ?_
        refine lv_iload_n hx hb dX1_happinessOfAll_14 rfl (lv_at hl 0 rfl) ?_
        refine go_V (ci := 1) (q0 := 0) (cq := (RX1, TX1, 14)) (c_X1_happinessOf l D cI cZ cF cL a nH nV wk ea gi sw f1 f2 f3 f4 f5 f6 f7 f8 i (by omega) (by omega)) (gUV u_492 u_389 u_390 u_20 u_391) rfl hdV_X1_happinessOf ⟨Nat.le_of_ble_eq_true rfl, Nat.le_of_ble_eq_true rfl⟩ ⟨rfl, rfl⟩ hx hb hml hown hts hK hA hP hD hS hl.1 ⟨Nat.le_of_ble_eq_true rfl, Nat.le_of_ble_eq_true rfl⟩ rfl rfl rfl [0, 1, 2, 3, 4, 5, 6, 7, 8] rfl rfl (fun _ => rfl) (rest := [.int (nI k)]) rfl rfl (Nat.le_of_ble_eq_true rfl) dX1_happinessOfAll_15 (ws2 := (fun _ : Unit => (fX cI a nH nV wk ea gi sw f1 f2 f3 f4 f5 f6 f7 f8))) (fun _ => rfl) (fun _ Hp locs hP hD hS => ?_)
        refine lv_iadd hx hb dX1_happinessOfAll_18 ?_
        rw [nI_add k (hap f7 f8 nV i)]
        refine lv_istore_n (lv' := [(1, .int (nI (k + (hap f7 f8 nV i)))), (2, .int (nI i)), (0, .ref (a 0))]) hx hb dX1_happinessOfAll_19 rfl hl (by decide) rfl (fun ls hl => ?_)
        refine lv_iinc (v := (nI (i + 1))) (lv' := [(2, .int (nI (i + 1))), (1, .int (nI (k + (hap f7 f8 nV i)))), (0, .ref (a 0))]) hx hb dX1_happinessOfAll_20 hl (k := 1) rfl (nI_add i 1) (by decide) rfl (fun ls hl => ?_)
        refine lv_goto (tgt := 4) hx hb dX1_happinessOfAll_23 (by decide) ?_
        exact ih (i + 1) (k + (hap f7 f8 nV i)) (by omega) (by rw [ek, sumN_s]) (by omega) _ _ hP hD hS _ (lv_sub hl [0, 1, 2] rfl)
  exact loop_4 ((nH - 0) + 1) 0 0 (by omega) rfl (Nat.lt_succ_self _) _ _ hP hD hS _ (lv_sub hl [0, 1, 2] rfl)
set_option maxHeartbeats 4000000 in
set_option maxRecDepth 100000 in
theorem c_X1_placeOf (l : Launch) (D : va_G) (cI cZ cF cL : ClassId) (a : Nat → Nat) (nH nV wk ea gi sw : Nat) (f1 f2 f3 f4 f5 f6 f7 f8 : Nat → Nat) (h : Nat) (hH : nH ≤ 6) (hV : nV ≤ 5) (hh : h < 6) (bh : ∀ o, o < 6 → hap f7 f8 nV o < 2 ^ 31) : CT l D (tysX cI cZ cF cL) yX1_placeOf (wA yX1_placeOf cX1_placeOf 6 (some .int)) (rmF 2 44) [.ref (a 0), .int (nI h)] (fX cI a nH nV wk ea gi sw f1 f2 f3 f4 f5 f6 f7 f8) (some (.int (nI (plcN f7 f8 nV nH h)))) (fun _ : Unit => (fX cI a nH nV wk ea gi sw f1 f2 f3 f4 f5 f6 f7 f8)) := by
  refine ct_in (cc := cX1_placeOf) (maxL := 6) (ret := (some .int)) (own := RX1) (lv := [(0, .ref (a 0)), (1, .int (nI h))]) (by decide +kernel) rfl rfl (Nat.le_of_ble_eq_true rfl) rfl ?_
  intro p e s m args below meth c A ls hx hb hr hml hts hown hlocks hK hA hP hD hS hl
  refine lv_aload_n hx hb dX1_placeOf_0 rfl (lv_at hl 0 rfl) ?_
  refine lv_iload_n hx hb dX1_placeOf_1 rfl (lv_at hl 1 rfl) ?_
  refine go_V (ci := 1) (q0 := 0) (cq := (RX1, TX1, 14)) (c_X1_happinessOf l D cI cZ cF cL a nH nV wk ea gi sw f1 f2 f3 f4 f5 f6 f7 f8 h (by omega) (by omega)) (gUV u_492 u_389 u_390 u_20 u_391) rfl hdV_X1_happinessOf ⟨Nat.le_of_ble_eq_true rfl, Nat.le_of_ble_eq_true rfl⟩ ⟨rfl, rfl⟩ hx hb hml hown hts hK hA hP hD hS hl.1 ⟨Nat.le_of_ble_eq_true rfl, Nat.le_of_ble_eq_true rfl⟩ rfl rfl rfl [0, 1, 2, 3, 4, 5, 6, 7, 8] rfl rfl (fun _ => rfl) (rest := []) rfl rfl (Nat.le_of_ble_eq_true rfl) dX1_placeOf_2 (ws2 := (fun _ : Unit => (fX cI a nH nV wk ea gi sw f1 f2 f3 f4 f5 f6 f7 f8))) (fun _ => rfl) (fun _ Hp locs hP hD hS => ?_)
  refine lv_istore_n (lv' := [(2, .int (nI (hap f7 f8 nV h))), (0, .ref (a 0)), (1, .int (nI h))]) hx hb dX1_placeOf_5 rfl hl (by decide) rfl (fun ls hl => ?_)
  refine lv_iconst (v := (nI 0)) hx hb dX1_placeOf_6 (by decide) ?_
  refine lv_istore_n (lv' := [(3, .int (nI 0)), (2, .int (nI (hap f7 f8 nV h))), (0, .ref (a 0)), (1, .int (nI h))]) hx hb dX1_placeOf_7 rfl hl (by decide) rfl (fun ls hl => ?_)
  refine lv_iconst (v := (nI 0)) hx hb dX1_placeOf_8 (by decide) ?_
  refine lv_istore (lv' := [(4, .int (nI 0)), (3, .int (nI 0)), (2, .int (nI (hap f7 f8 nV h))), (0, .ref (a 0)), (1, .int (nI h))]) hx hb dX1_placeOf_9 hl (by decide) rfl (fun ls hl => ?_)
  have loop_11 : ∀ (dd : Nat) (i : Nat) (k : Nat), (i ≤ nH) → (k = cntN (fun o => decide (hap f7 f8 nV h < hap f7 f8 nV o ∨ hap f7 f8 nV o = hap f7 f8 nV h ∧ o < h)) i) → (nH - i) < dd → ∀ (Hp : Heap) (locs : List Loc), va_P D vwCl (fX cI a nH nV wk ea gi sw f1 f2 f3 f4 f5 f6 f7 f8) Hp → va_D A (fX cI a nH nV wk ea gi sw f1 f2 f3 f4 f5 f6 f7 f8) → va_S A s.heap Hp locs → ∀ ls : Array Slot, lv_has ls 6 [(4, .int (nI i)), (3, .int (nI k)), (2, .int (nI (hap f7 f8 nV h))), (0, .ref (a 0)), (1, .int (nI h))] → W p l e (rmF 2 44) s m args below meth c Hp locs 0 0 (MQ below (CQ D (some (.int (nI (plcN f7 f8 nV nH h)))) (fun _ : Unit => (fX cI a nH nV wk ea gi sw f1 f2 f3 f4 f5 f6 f7 f8)) A) args s 0 0 A) (F0 m 11 ls []) := by
    intro dd
    induction dd with
    | zero => intro i k hi ek hm; exact absurd hm (Nat.not_lt_zero _)
    | succ dd ih =>
      intro i k hi ek hm Hp locs hP hD hS ls hl
      refine lv_iload hx hb dX1_placeOf_11 (lv_at hl 0 rfl) ?_
      refine lv_aload_n hx hb dX1_placeOf_13 rfl (lv_at hl 3 rfl) ?_
      refine gf_n (C := RX1) (T := TX1) (N := 14) (ci := 1) (q0 := 0) (v := .int (nI nH)) hx hb hts (iU inlX1) hown hK hP rfl rfl 0 (by decide) (kU u_72) rfl rfl dX1_placeOf_14 ?_
      refine lv_icmp_ge (tgt := 55) hx hb dX1_placeOf_17 (by decide) (fun c_17 => ?_) (fun c_17 => ?_)
      · skip
        replace c_17 := cn_le (by omega) (by omega) c_17
        refine lv_iload_n hx hb dX1_placeOf_55 rfl (lv_at hl 1 rfl) ?_
        exact ct_i () hx hb hr hlocks hP hS (by rw [ek, show i = nH by omega]; rfl) dX1_placeOf_56
      · skip
        replace c_17 := cn_nle (by omega) (by omega) c_17
        refine lv_aload_n hx hb dX1_placeOf_20 rfl (lv_at hl 3 rfl) ?_
        refine lv_iload hx hb dX1_placeOf_21 (lv_at hl 0 rfl) ?_
        refine go_V (ci := 1) (q0 := 0) (cq := (RX1, TX1, 14)) (c_X1_happinessOf l D cI cZ cF cL a nH nV wk ea gi sw f1 f2 f3 f4 f5 f6 f7 f8 i (by omega) (by omega)) (gUV u_492 u_389 u_390 u_20 u_391) rfl hdV_X1_happinessOf ⟨Nat.le_of_ble_eq_true rfl, Nat.le_of_ble_eq_true rfl⟩ ⟨rfl, rfl⟩ hx hb hml hown hts hK hA hP hD hS hl.1 ⟨Nat.le_of_ble_eq_true rfl, Nat.le_of_ble_eq_true rfl⟩ rfl rfl rfl [0, 1, 2, 3, 4, 5, 6, 7, 8] rfl rfl (fun _ => rfl) (rest := []) rfl rfl (Nat.le_of_ble_eq_true rfl) dX1_placeOf_23 (ws2 := (fun _ : Unit => (fX cI a nH nV wk ea gi sw f1 f2 f3 f4 f5 f6 f7 f8))) (fun _ => rfl) (fun _ Hp locs hP hD hS => ?_)
        refine lv_istore (lv' := [(5, .int (nI (hap f7 f8 nV i))), (4, .int (nI i)), (3, .int (nI k)), (2, .int (nI (hap f7 f8 nV h))), (0, .ref (a 0)), (1, .int (nI h))]) hx hb dX1_placeOf_26 hl (by decide) rfl (fun ls hl => ?_)
        refine lv_iload hx hb dX1_placeOf_28 (lv_at hl 0 rfl) ?_
        refine lv_iload_n hx hb dX1_placeOf_30 rfl (lv_at hl 3 rfl) ?_
        refine lv_icmp_gt (tgt := 46) hx hb dX1_placeOf_31 (by decide) (fun c_31 => ?_) (fun c_31 => ?_)
        · skip
          replace c_31 := cn_lt (bh _ (by omega)) (bh _ (by omega)) c_31
          refine lv_iinc (v := (nI (k + 1))) (lv' := [(3, .int (nI (k + 1))), (5, .int (nI (hap f7 f8 nV i))), (4, .int (nI i)), (2, .int (nI (hap f7 f8 nV h))), (0, .ref (a 0)), (1, .int (nI h))]) hx hb dX1_placeOf_46 hl (k := 2) rfl (nI_add k 1) (by decide) rfl (fun ls hl => ?_)
          refine lv_iinc (v := (nI (i + 1))) (lv' := [(4, .int (nI (i + 1))), (3, .int (nI (k + 1))), (5, .int (nI (hap f7 f8 nV i))), (2, .int (nI (hap f7 f8 nV h))), (0, .ref (a 0)), (1, .int (nI h))]) hx hb dX1_placeOf_49 hl (k := 2) rfl (nI_add i 1) (by decide) rfl (fun ls hl => ?_)
          refine lv_goto (tgt := 11) hx hb dX1_placeOf_52 (by decide) ?_
          exact ih (i + 1) (k + 1) (by omega) (by first | (rw [ek, cntN, if_pos (decide_eq_true (by first | assumption | omega))]) | (rw [ek, cntN, if_neg (by intro q; have q := of_decide_eq_true q; first | exact absurd q (by assumption) | omega), Nat.add_zero])) (by omega) _ _ hP hD hS _ (lv_sub hl [0, 1, 3, 4, 5] rfl)
        · skip
          replace c_31 := cn_nlt (bh _ (by omega)) (bh _ (by omega)) c_31
          refine lv_iload hx hb dX1_placeOf_34 (lv_at hl 0 rfl) ?_
          refine lv_iload_n hx hb dX1_placeOf_36 rfl (lv_at hl 3 rfl) ?_
          refine lv_icmp_ne (tgt := 49) hx hb dX1_placeOf_37 (by decide) (fun c_37 => ?_) (fun c_37 => ?_)
          · skip
            replace c_37 := cn_ne c_37
            refine lv_iinc (v := (nI (i + 1))) (lv' := [(4, .int (nI (i + 1))), (5, .int (nI (hap f7 f8 nV i))), (3, .int (nI k)), (2, .int (nI (hap f7 f8 nV h))), (0, .ref (a 0)), (1, .int (nI h))]) hx hb dX1_placeOf_49 hl (k := 1) rfl (nI_add i 1) (by decide) rfl (fun ls hl => ?_)
            refine lv_goto (tgt := 11) hx hb dX1_placeOf_52 (by decide) ?_
            exact ih (i + 1) k (by omega) (by first | (rw [ek, cntN, if_pos (decide_eq_true (by first | assumption | omega))]) | (rw [ek, cntN, if_neg (by intro q; have q := of_decide_eq_true q; first | exact absurd q (by assumption) | omega), Nat.add_zero])) (by omega) _ _ hP hD hS _ (lv_sub hl [0, 2, 3, 4, 5] rfl)
          · skip
            replace c_37 := cn_eq (bh _ (by omega)) (bh _ (by omega)) c_37
            refine lv_iload hx hb dX1_placeOf_40 (lv_at hl 1 rfl) ?_
            refine lv_iload_n hx hb dX1_placeOf_42 rfl (lv_at hl 5 rfl) ?_
            refine lv_icmp_ge (tgt := 49) hx hb dX1_placeOf_43 (by decide) (fun c_43 => ?_) (fun c_43 => ?_)
            · skip
              replace c_43 := cn_le (by omega) (by omega) c_43
              refine lv_iinc (v := (nI (i + 1))) (lv' := [(4, .int (nI (i + 1))), (5, .int (nI (hap f7 f8 nV i))), (3, .int (nI k)), (2, .int (nI (hap f7 f8 nV h))), (0, .ref (a 0)), (1, .int (nI h))]) hx hb dX1_placeOf_49 hl (k := 1) rfl (nI_add i 1) (by decide) rfl (fun ls hl => ?_)
              refine lv_goto (tgt := 11) hx hb dX1_placeOf_52 (by decide) ?_
              exact ih (i + 1) k (by omega) (by first | (rw [ek, cntN, if_pos (decide_eq_true (by first | assumption | omega))]) | (rw [ek, cntN, if_neg (by intro q; have q := of_decide_eq_true q; first | exact absurd q (by assumption) | omega), Nat.add_zero])) (by omega) _ _ hP hD hS _ (lv_sub hl [0, 2, 3, 4, 5] rfl)
            · skip
              replace c_43 := cn_nle (by omega) (by omega) c_43
              refine lv_iinc (v := (nI (k + 1))) (lv' := [(3, .int (nI (k + 1))), (5, .int (nI (hap f7 f8 nV i))), (4, .int (nI i)), (2, .int (nI (hap f7 f8 nV h))), (0, .ref (a 0)), (1, .int (nI h))]) hx hb dX1_placeOf_46 hl (k := 2) rfl (nI_add k 1) (by decide) rfl (fun ls hl => ?_)
              refine lv_iinc (v := (nI (i + 1))) (lv' := [(4, .int (nI (i + 1))), (3, .int (nI (k + 1))), (5, .int (nI (hap f7 f8 nV i))), (2, .int (nI (hap f7 f8 nV h))), (0, .ref (a 0)), (1, .int (nI h))]) hx hb dX1_placeOf_49 hl (k := 2) rfl (nI_add i 1) (by decide) rfl (fun ls hl => ?_)
              refine lv_goto (tgt := 11) hx hb dX1_placeOf_52 (by decide) ?_
              exact ih (i + 1) (k + 1) (by omega) (by first | (rw [ek, cntN, if_pos (decide_eq_true (by first | assumption | omega))]) | (rw [ek, cntN, if_neg (by intro q; have q := of_decide_eq_true q; first | exact absurd q (by assumption) | omega), Nat.add_zero])) (by omega) _ _ hP hD hS _ (lv_sub hl [0, 1, 3, 4, 5] rfl)
  exact loop_11 ((nH - 0) + 1) 0 0 (by omega) rfl (Nat.lt_succ_self _) _ _ hP hD hS _ (lv_sub hl [0, 1, 2, 3, 4] rfl)
set_option maxRecDepth 20000 in
theorem u_74 : Cond.fieldLink RX1 46 "HarvestBoxes$Farm" "weeks" "I" ∈ wsL_law := List.mem_of_getElem? (i := 69) (by decide +kernel)
set_option maxRecDepth 20000 in
theorem u_75 : Cond.fieldLink RX1 49 "HarvestBoxes$Farm" "eaten" "I" ∈ wsL_law := List.mem_of_getElem? (i := 70) (by decide +kernel)
set_option maxRecDepth 20000 in
theorem u_76 : Cond.fieldLink RX1 52 "HarvestBoxes$Farm" "given" "I" ∈ wsL_law := List.mem_of_getElem? (i := 71) (by decide +kernel)
set_option maxRecDepth 20000 in
theorem u_77 : Cond.fieldLink RX1 55 "HarvestBoxes$Farm" "swaps" "I" ∈ wsL_law := List.mem_of_getElem? (i := 72) (by decide +kernel)
set_option maxRecDepth 20000 in
theorem u_60 : Cond.fieldLink RX1 9 "HarvestBoxes$Farm" "size" "[I" ∈ wsL_law := List.mem_of_getElem? (i := 55) (by decide +kernel)
set_option maxRecDepth 20000 in
theorem u_81 : Cond.code yJ7_fill_53178 cJ7_fill_53178 4 none ∈ wsL_law := List.mem_of_getElem? (i := 76) (by decide +kernel)
set_option maxRecDepth 20000 in
theorem u_78 : Cond.methodLink RX1 58 yJ7_fill_53178 ∈ wsL_law := List.mem_of_getElem? (i := 73) (by decide +kernel)
set_option maxRecDepth 20000 in
theorem u_79 : Cond.static yJ7_fill_53178 ∈ wsL_law := List.mem_of_getElem? (i := 74) (by decide +kernel)
set_option maxRecDepth 20000 in
theorem u_80 : Cond.initialized RJ7 ∈ wsL_law := List.mem_of_getElem? (i := 75) (by decide +kernel)
set_option maxRecDepth 20000 in
theorem u_62 : Cond.fieldLink RX1 18 "HarvestBoxes$Farm" "credit" "[I" ∈ wsL_law := List.mem_of_getElem? (i := 57) (by decide +kernel)
set_option maxRecDepth 20000 in
theorem u_64 : Cond.fieldLink RX1 24 "HarvestBoxes$Farm" "harvest" "[I" ∈ wsL_law := List.mem_of_getElem? (i := 59) (by decide +kernel)
theorem hdS_J7_fill_53178 : yJ7_fill_53178.cls ≠ "java/lang/invoke/MethodHandle" ∧ yJ7_fill_53178.cls ≠ "java/lang/invoke/VarHandle" ∧ (parseMethodDescriptor yJ7_fill_53178.desc).map (fun d => d.parameters.length) = some 2 := by decide +kernel
set_option maxHeartbeats 4000000 in
set_option maxRecDepth 100000 in
/-- an empty farm -/
theorem c_X1_clear (l : Launch) (D : va_G) (cI cZ cF cL : ClassId) (a : Nat → Nat) (nH nV wk ea gi sw : Nat) (f1 f2 f3 f4 f5 f6 f7 f8 : Nat → Nat)  : CT l D (tysX cI cZ cF cL) yX1_clear (wA yX1_clear cX1_clear 1 none) (rmF 1 23) [.ref (a 0)] (fX cI a nH nV wk ea gi sw f1 f2 f3 f4 f5 f6 f7 f8) (none : Option Value) (fun _ : Unit => (fX cI a 0 0 0 0 0 0 ((fun _ => 0)) ((fun _ => 0)) ((fun _ => 0)) ((fun _ => 0)) ((fun _ => 0)) ((fun _ => 0)) ((fun _ => 5)) ((fun _ => 0)))) := by
  refine ct_in (cc := cX1_clear) (maxL := 1) (ret := none) (own := RX1) (lv := [(0, .ref (a 0))]) (by decide +kernel) rfl rfl (Nat.le_of_ble_eq_true rfl) rfl ?_
  intro p e s m args below meth c A ls hx hb hr hml hts hown hlocks hK hA hP hD hS hl
  refine lv_aload_n hx hb dX1_clear_0 rfl (lv_at hl 0 rfl) ?_
  refine lv_iconst (v := (nI 0)) hx hb dX1_clear_1 (by decide) ?_
  refine pf_n (C := RX1) (T := TX1) (N := 14) (ci := 1) (q0 := 0) (ty := .int) (v := .int (nI 0)) (ws2 := (fX cI a 0 nV wk ea gi sw f1 f2 f3 f4 f5 f6 f7 f8)) hx hb hts (iU inlX1) tyX1 tyX1_ok nmX1 hown hK hP hD hS rfl rfl 0 (by decide) (kU u_72) rfl rfl (tyX1_ok 0 (by decide)) rfl rfl (Nat.le_of_ble_eq_true rfl) dX1_clear_2 rfl (fun Hp locs hP hD hS => ?_)
  refine lv_aload_n hx hb dX1_clear_5 rfl (lv_at hl 0 rfl) ?_
  refine lv_iconst (v := (nI 0)) hx hb dX1_clear_6 (by decide) ?_
  refine pf_n (C := RX1) (T := TX1) (N := 14) (ci := 1) (q0 := 0) (ty := .int) (v := .int (nI 0)) (ws2 := (fX cI a 0 0 wk ea gi sw f1 f2 f3 f4 f5 f6 f7 f8)) hx hb hts (iU inlX1) tyX1 tyX1_ok nmX1 hown hK hP hD hS rfl rfl 1 (by decide) (kU u_73) rfl rfl (tyX1_ok 1 (by decide)) rfl rfl (Nat.le_of_ble_eq_true rfl) dX1_clear_7 rfl (fun Hp locs hP hD hS => ?_)
  refine lv_aload_n hx hb dX1_clear_10 rfl (lv_at hl 0 rfl) ?_
  refine lv_iconst (v := (nI 0)) hx hb dX1_clear_11 (by decide) ?_
  refine pf_n (C := RX1) (T := TX1) (N := 14) (ci := 1) (q0 := 0) (ty := .int) (v := .int (nI 0)) (ws2 := (fX cI a 0 0 0 ea gi sw f1 f2 f3 f4 f5 f6 f7 f8)) hx hb hts (iU inlX1) tyX1 tyX1_ok nmX1 hown hK hP hD hS rfl rfl 2 (by decide) (kU u_74) rfl rfl (tyX1_ok 2 (by decide)) rfl rfl (Nat.le_of_ble_eq_true rfl) dX1_clear_12 rfl (fun Hp locs hP hD hS => ?_)
  refine lv_aload_n hx hb dX1_clear_15 rfl (lv_at hl 0 rfl) ?_
  refine lv_iconst (v := (nI 0)) hx hb dX1_clear_16 (by decide) ?_
  refine pf_n (C := RX1) (T := TX1) (N := 14) (ci := 1) (q0 := 0) (ty := .int) (v := .int (nI 0)) (ws2 := (fX cI a 0 0 0 0 gi sw f1 f2 f3 f4 f5 f6 f7 f8)) hx hb hts (iU inlX1) tyX1 tyX1_ok nmX1 hown hK hP hD hS rfl rfl 3 (by decide) (kU u_75) rfl rfl (tyX1_ok 3 (by decide)) rfl rfl (Nat.le_of_ble_eq_true rfl) dX1_clear_17 rfl (fun Hp locs hP hD hS => ?_)
  refine lv_aload_n hx hb dX1_clear_20 rfl (lv_at hl 0 rfl) ?_
  refine lv_iconst (v := (nI 0)) hx hb dX1_clear_21 (by decide) ?_
  refine pf_n (C := RX1) (T := TX1) (N := 14) (ci := 1) (q0 := 0) (ty := .int) (v := .int (nI 0)) (ws2 := (fX cI a 0 0 0 0 0 sw f1 f2 f3 f4 f5 f6 f7 f8)) hx hb hts (iU inlX1) tyX1 tyX1_ok nmX1 hown hK hP hD hS rfl rfl 4 (by decide) (kU u_76) rfl rfl (tyX1_ok 4 (by decide)) rfl rfl (Nat.le_of_ble_eq_true rfl) dX1_clear_22 rfl (fun Hp locs hP hD hS => ?_)
  refine lv_aload_n hx hb dX1_clear_25 rfl (lv_at hl 0 rfl) ?_
  refine lv_iconst (v := (nI 0)) hx hb dX1_clear_26 (by decide) ?_
  refine pf_n (C := RX1) (T := TX1) (N := 14) (ci := 1) (q0 := 0) (ty := .int) (v := .int (nI 0)) (ws2 := (fX cI a 0 0 0 0 0 0 f1 f2 f3 f4 f5 f6 f7 f8)) hx hb hts (iU inlX1) tyX1 tyX1_ok nmX1 hown hK hP hD hS rfl rfl 5 (by decide) (kU u_77) rfl rfl (tyX1_ok 5 (by decide)) rfl rfl (Nat.le_of_ble_eq_true rfl) dX1_clear_27 rfl (fun Hp locs hP hD hS => ?_)
  refine lv_aload_n hx hb dX1_clear_30 rfl (lv_at hl 0 rfl) ?_
  refine gf_n (C := RX1) (T := TX1) (N := 14) (ci := 1) (q0 := 0) (v := .ref (a 1)) hx hb hts (iU inlX1) hown hK hP rfl rfl 6 (by decide) (kU u_60) rfl rfl dX1_clear_31 ?_
  refine lv_iconst (v := (nI 0)) hx hb dX1_clear_34 (by decide) ?_
  refine go_S (c_J7_fill_53178 l D cI cZ cF cL (a 1) 6 0 f1 (by omega)) (gUS u_78 u_79 u_80 u_81) rfl hdS_J7_fill_53178 ⟨Nat.le_of_ble_eq_true rfl, Nat.le_of_ble_eq_true rfl⟩ ⟨rfl, rfl⟩ hx hb hml hown hts hK hA hP hD hS hl.1 ⟨Nat.le_of_ble_eq_true rfl, Nat.le_of_ble_eq_true rfl⟩ [1] rfl rfl (fun _ => rfl) (rest := []) rfl rfl (Nat.le_of_ble_eq_true rfl) dX1_clear_35 (ws2 := (fun _ : Unit => (fX cI a 0 0 0 0 0 0 (filN 0 6 f1) f2 f3 f4 f5 f6 f7 f8))) (fun _ => rfl) (fun _ Hp locs hP hD hS => ?_)
  refine lv_aload_n hx hb dX1_clear_38 rfl (lv_at hl 0 rfl) ?_
  refine gf_n (C := RX1) (T := TX1) (N := 14) (ci := 1) (q0 := 0) (v := .ref (a 2)) hx hb hts (iU inlX1) hown hK hP rfl rfl 7 (by decide) (kU u_61) rfl rfl dX1_clear_39 ?_
  refine lv_iconst (v := (nI 0)) hx hb dX1_clear_42 (by decide) ?_
  refine go_S (c_J7_fill_53178 l D cI cZ cF cL (a 2) 6 0 f2 (by omega)) (gUS u_78 u_79 u_80 u_81) rfl hdS_J7_fill_53178 ⟨Nat.le_of_ble_eq_true rfl, Nat.le_of_ble_eq_true rfl⟩ ⟨rfl, rfl⟩ hx hb hml hown hts hK hA hP hD hS hl.1 ⟨Nat.le_of_ble_eq_true rfl, Nat.le_of_ble_eq_true rfl⟩ [2] rfl rfl (fun _ => rfl) (rest := []) rfl rfl (Nat.le_of_ble_eq_true rfl) dX1_clear_43 (ws2 := (fun _ : Unit => (fX cI a 0 0 0 0 0 0 (filN 0 6 f1) (filN 0 6 f2) f3 f4 f5 f6 f7 f8))) (fun _ => rfl) (fun _ Hp locs hP hD hS => ?_)
  refine lv_aload_n hx hb dX1_clear_46 rfl (lv_at hl 0 rfl) ?_
  refine gf_n (C := RX1) (T := TX1) (N := 14) (ci := 1) (q0 := 0) (v := .ref (a 3)) hx hb hts (iU inlX1) hown hK hP rfl rfl 8 (by decide) (kU u_62) rfl rfl dX1_clear_47 ?_
  refine lv_iconst (v := (nI 0)) hx hb dX1_clear_50 (by decide) ?_
  refine go_S (c_J7_fill_53178 l D cI cZ cF cL (a 3) 6 0 f3 (by omega)) (gUS u_78 u_79 u_80 u_81) rfl hdS_J7_fill_53178 ⟨Nat.le_of_ble_eq_true rfl, Nat.le_of_ble_eq_true rfl⟩ ⟨rfl, rfl⟩ hx hb hml hown hts hK hA hP hD hS hl.1 ⟨Nat.le_of_ble_eq_true rfl, Nat.le_of_ble_eq_true rfl⟩ [3] rfl rfl (fun _ => rfl) (rest := []) rfl rfl (Nat.le_of_ble_eq_true rfl) dX1_clear_51 (ws2 := (fun _ : Unit => (fX cI a 0 0 0 0 0 0 (filN 0 6 f1) (filN 0 6 f2) (filN 0 6 f3) f4 f5 f6 f7 f8))) (fun _ => rfl) (fun _ Hp locs hP hD hS => ?_)
  refine lv_aload_n hx hb dX1_clear_54 rfl (lv_at hl 0 rfl) ?_
  refine gf_n (C := RX1) (T := TX1) (N := 14) (ci := 1) (q0 := 0) (v := .ref (a 4)) hx hb hts (iU inlX1) hown hK hP rfl rfl 9 (by decide) (kU u_63) rfl rfl dX1_clear_55 ?_
  refine lv_iconst (v := (nI 0)) hx hb dX1_clear_58 (by decide) ?_
  refine go_S (c_J7_fill_53178 l D cI cZ cF cL (a 4) 6 0 f4 (by omega)) (gUS u_78 u_79 u_80 u_81) rfl hdS_J7_fill_53178 ⟨Nat.le_of_ble_eq_true rfl, Nat.le_of_ble_eq_true rfl⟩ ⟨rfl, rfl⟩ hx hb hml hown hts hK hA hP hD hS hl.1 ⟨Nat.le_of_ble_eq_true rfl, Nat.le_of_ble_eq_true rfl⟩ [4] rfl rfl (fun _ => rfl) (rest := []) rfl rfl (Nat.le_of_ble_eq_true rfl) dX1_clear_59 (ws2 := (fun _ : Unit => (fX cI a 0 0 0 0 0 0 (filN 0 6 f1) (filN 0 6 f2) (filN 0 6 f3) (filN 0 6 f4) f5 f6 f7 f8))) (fun _ => rfl) (fun _ Hp locs hP hD hS => ?_)
  refine lv_aload_n hx hb dX1_clear_62 rfl (lv_at hl 0 rfl) ?_
  refine gf_n (C := RX1) (T := TX1) (N := 14) (ci := 1) (q0 := 0) (v := .ref (a 5)) hx hb hts (iU inlX1) hown hK hP rfl rfl 10 (by decide) (kU u_64) rfl rfl dX1_clear_63 ?_
  refine lv_iconst (v := (nI 0)) hx hb dX1_clear_66 (by decide) ?_
  refine go_S (c_J7_fill_53178 l D cI cZ cF cL (a 5) 5 0 f5 (by omega)) (gUS u_78 u_79 u_80 u_81) rfl hdS_J7_fill_53178 ⟨Nat.le_of_ble_eq_true rfl, Nat.le_of_ble_eq_true rfl⟩ ⟨rfl, rfl⟩ hx hb hml hown hts hK hA hP hD hS hl.1 ⟨Nat.le_of_ble_eq_true rfl, Nat.le_of_ble_eq_true rfl⟩ [5] rfl rfl (fun _ => rfl) (rest := []) rfl rfl (Nat.le_of_ble_eq_true rfl) dX1_clear_67 (ws2 := (fun _ : Unit => (fX cI a 0 0 0 0 0 0 (filN 0 6 f1) (filN 0 6 f2) (filN 0 6 f3) (filN 0 6 f4) (filN 0 5 f5) f6 f7 f8))) (fun _ => rfl) (fun _ Hp locs hP hD hS => ?_)
  refine lv_aload_n hx hb dX1_clear_70 rfl (lv_at hl 0 rfl) ?_
  refine gf_n (C := RX1) (T := TX1) (N := 14) (ci := 1) (q0 := 0) (v := .ref (a 6)) hx hb hts (iU inlX1) hown hK hP rfl rfl 11 (by decide) (kU u_65) rfl rfl dX1_clear_71 ?_
  refine lv_iconst (v := (nI 0)) hx hb dX1_clear_74 (by decide) ?_
  refine go_S (c_J7_fill_53178 l D cI cZ cF cL (a 6) 5 0 f6 (by omega)) (gUS u_78 u_79 u_80 u_81) rfl hdS_J7_fill_53178 ⟨Nat.le_of_ble_eq_true rfl, Nat.le_of_ble_eq_true rfl⟩ ⟨rfl, rfl⟩ hx hb hml hown hts hK hA hP hD hS hl.1 ⟨Nat.le_of_ble_eq_true rfl, Nat.le_of_ble_eq_true rfl⟩ [6] rfl rfl (fun _ => rfl) (rest := []) rfl rfl (Nat.le_of_ble_eq_true rfl) dX1_clear_75 (ws2 := (fun _ : Unit => (fX cI a 0 0 0 0 0 0 (filN 0 6 f1) (filN 0 6 f2) (filN 0 6 f3) (filN 0 6 f4) (filN 0 5 f5) (filN 0 5 f6) f7 f8))) (fun _ => rfl) (fun _ Hp locs hP hD hS => ?_)
  refine lv_aload_n hx hb dX1_clear_78 rfl (lv_at hl 0 rfl) ?_
  refine gf_n (C := RX1) (T := TX1) (N := 14) (ci := 1) (q0 := 0) (v := .ref (a 7)) hx hb hts (iU inlX1) hown hK hP rfl rfl 12 (by decide) (kU u_66) rfl rfl dX1_clear_79 ?_
  refine lv_iconst (v := (nI 5)) hx hb dX1_clear_82 (by decide) ?_
  refine go_S (c_J7_fill_53178 l D cI cZ cF cL (a 7) 30 5 f7 (by omega)) (gUS u_78 u_79 u_80 u_81) rfl hdS_J7_fill_53178 ⟨Nat.le_of_ble_eq_true rfl, Nat.le_of_ble_eq_true rfl⟩ ⟨rfl, rfl⟩ hx hb hml hown hts hK hA hP hD hS hl.1 ⟨Nat.le_of_ble_eq_true rfl, Nat.le_of_ble_eq_true rfl⟩ [7] rfl rfl (fun _ => rfl) (rest := []) rfl rfl (Nat.le_of_ble_eq_true rfl) dX1_clear_83 (ws2 := (fun _ : Unit => (fX cI a 0 0 0 0 0 0 (filN 0 6 f1) (filN 0 6 f2) (filN 0 6 f3) (filN 0 6 f4) (filN 0 5 f5) (filN 0 5 f6) (filN 5 30 f7) f8))) (fun _ => rfl) (fun _ Hp locs hP hD hS => ?_)
  refine lv_aload_n hx hb dX1_clear_86 rfl (lv_at hl 0 rfl) ?_
  refine gf_n (C := RX1) (T := TX1) (N := 14) (ci := 1) (q0 := 0) (v := .ref (a 8)) hx hb hts (iU inlX1) hown hK hP rfl rfl 13 (by decide) (kU u_67) rfl rfl dX1_clear_87 ?_
  refine lv_iconst (v := (nI 0)) hx hb dX1_clear_90 (by decide) ?_
  refine go_S (c_J7_fill_53178 l D cI cZ cF cL (a 8) 30 0 f8 (by omega)) (gUS u_78 u_79 u_80 u_81) rfl hdS_J7_fill_53178 ⟨Nat.le_of_ble_eq_true rfl, Nat.le_of_ble_eq_true rfl⟩ ⟨rfl, rfl⟩ hx hb hml hown hts hK hA hP hD hS hl.1 ⟨Nat.le_of_ble_eq_true rfl, Nat.le_of_ble_eq_true rfl⟩ [8] rfl rfl (fun _ => rfl) (rest := []) rfl rfl (Nat.le_of_ble_eq_true rfl) dX1_clear_91 (ws2 := (fun _ : Unit => (fX cI a 0 0 0 0 0 0 (filN 0 6 f1) (filN 0 6 f2) (filN 0 6 f3) (filN 0 6 f4) (filN 0 5 f5) (filN 0 5 f6) (filN 5 30 f7) (filN 0 30 f8)))) (fun _ => rfl) (fun _ Hp locs hP hD hS => ?_)
  exact ct_v () hx hb hr hlocks (fX_cg hP filN_in filN_in filN_in filN_in filN_in filN_in filN_in filN_in) hS dX1_clear_94
set_option maxRecDepth 20000 in
theorem u_296 : Cond.methodLink RX1 64 arraycopyName ∈ wsL_law := List.mem_of_getElem? (i := 141) (by decide +kernel)
set_option maxRecDepth 20000 in
theorem u_297 : Cond.native arraycopyName ∈ wsL_law := List.mem_of_getElem? (i := 142) (by decide +kernel)
set_option maxRecDepth 20000 in
theorem u_298 : Cond.static arraycopyName ∈ wsL_law := List.mem_of_getElem? (i := 143) (by decide +kernel)
set_option maxRecDepth 20000 in
theorem u_299 : Cond.initialized "java/lang/System" ∈ wsL_law := List.mem_of_getElem? (i := 144) (by decide +kernel)
set_option maxHeartbeats 4000000 in
set_option maxRecDepth 100000 in
/-- a state is copied -/
theorem c_X1_copyFrom (l : Launch) (D : va_G) (cI cZ cF cL : ClassId) (a : Nat → Nat) (nH nV wk ea gi sw : Nat) (f1 f2 f3 f4 f5 f6 f7 f8 : Nat → Nat) (b : Nat → Nat) (mH mV mk ma mi mw : Nat) (e1 e2 e3 e4 e5 e6 e7 e8 : Nat → Nat)  : CT l D (tysX cI cZ cF cL) yX1_copyFrom (wA yX1_copyFrom cX1_copyFrom 2 none) (rmF 1 60) [.ref (a 0), .ref (b 0)] (fX cI a nH nV wk ea gi sw f1 f2 f3 f4 f5 f6 f7 f8 ++ fX cI b mH mV mk ma mi mw e1 e2 e3 e4 e5 e6 e7 e8) (none : Option Value) (fun _ : Unit => (fX cI a mH mV mk ma mi mw e1 e2 e3 e4 e5 e6 e7 e8 ++ fX cI b mH mV mk ma mi mw e1 e2 e3 e4 e5 e6 e7 e8)) := by
  refine ct_in (cc := cX1_copyFrom) (maxL := 2) (ret := none) (own := RX1) (lv := [(0, .ref (a 0)), (1, .ref (b 0))]) (by decide +kernel) rfl rfl (Nat.le_of_ble_eq_true rfl) rfl ?_
  intro p e s m args below meth c A ls hx hb hr hml hts hown hlocks hK hA hP hD hS hl
  refine lv_aload_n hx hb dX1_copyFrom_0 rfl (lv_at hl 0 rfl) ?_
  refine lv_aload_n hx hb dX1_copyFrom_1 rfl (lv_at hl 1 rfl) ?_
  refine gf_n (C := RX1) (T := TX1) (N := 14) (ci := 1) (q0 := 9) (v := .int (nI mH)) hx hb hts (iU inlX1) hown hK hP rfl rfl 0 (by decide) (kU u_72) rfl rfl dX1_copyFrom_2 ?_
  refine pf_n (C := RX1) (T := TX1) (N := 14) (ci := 1) (q0 := 0) (ty := .int) (v := .int (nI mH)) (ws2 := (fX cI a mH nV wk ea gi sw f1 f2 f3 f4 f5 f6 f7 f8 ++ fX cI b mH mV mk ma mi mw e1 e2 e3 e4 e5 e6 e7 e8)) hx hb hts (iU inlX1) tyX1 tyX1_ok nmX1 hown hK hP hD hS rfl rfl 0 (by decide) (kU u_72) rfl rfl (tyX1_ok 0 (by decide)) rfl rfl (Nat.le_of_ble_eq_true rfl) dX1_copyFrom_5 rfl (fun Hp locs hP hD hS => ?_)
  refine lv_aload_n hx hb dX1_copyFrom_8 rfl (lv_at hl 0 rfl) ?_
  refine lv_aload_n hx hb dX1_copyFrom_9 rfl (lv_at hl 1 rfl) ?_
  refine gf_n (C := RX1) (T := TX1) (N := 14) (ci := 1) (q0 := 9) (v := .int (nI mV)) hx hb hts (iU inlX1) hown hK hP rfl rfl 1 (by decide) (kU u_73) rfl rfl dX1_copyFrom_10 ?_
  refine pf_n (C := RX1) (T := TX1) (N := 14) (ci := 1) (q0 := 0) (ty := .int) (v := .int (nI mV)) (ws2 := (fX cI a mH mV wk ea gi sw f1 f2 f3 f4 f5 f6 f7 f8 ++ fX cI b mH mV mk ma mi mw e1 e2 e3 e4 e5 e6 e7 e8)) hx hb hts (iU inlX1) tyX1 tyX1_ok nmX1 hown hK hP hD hS rfl rfl 1 (by decide) (kU u_73) rfl rfl (tyX1_ok 1 (by decide)) rfl rfl (Nat.le_of_ble_eq_true rfl) dX1_copyFrom_13 rfl (fun Hp locs hP hD hS => ?_)
  refine lv_aload_n hx hb dX1_copyFrom_16 rfl (lv_at hl 0 rfl) ?_
  refine lv_aload_n hx hb dX1_copyFrom_17 rfl (lv_at hl 1 rfl) ?_
  refine gf_n (C := RX1) (T := TX1) (N := 14) (ci := 1) (q0 := 9) (v := .int (nI mk)) hx hb hts (iU inlX1) hown hK hP rfl rfl 2 (by decide) (kU u_74) rfl rfl dX1_copyFrom_18 ?_
  refine pf_n (C := RX1) (T := TX1) (N := 14) (ci := 1) (q0 := 0) (ty := .int) (v := .int (nI mk)) (ws2 := (fX cI a mH mV mk ea gi sw f1 f2 f3 f4 f5 f6 f7 f8 ++ fX cI b mH mV mk ma mi mw e1 e2 e3 e4 e5 e6 e7 e8)) hx hb hts (iU inlX1) tyX1 tyX1_ok nmX1 hown hK hP hD hS rfl rfl 2 (by decide) (kU u_74) rfl rfl (tyX1_ok 2 (by decide)) rfl rfl (Nat.le_of_ble_eq_true rfl) dX1_copyFrom_21 rfl (fun Hp locs hP hD hS => ?_)
  refine lv_aload_n hx hb dX1_copyFrom_24 rfl (lv_at hl 0 rfl) ?_
  refine lv_aload_n hx hb dX1_copyFrom_25 rfl (lv_at hl 1 rfl) ?_
  refine gf_n (C := RX1) (T := TX1) (N := 14) (ci := 1) (q0 := 9) (v := .int (nI ma)) hx hb hts (iU inlX1) hown hK hP rfl rfl 3 (by decide) (kU u_75) rfl rfl dX1_copyFrom_26 ?_
  refine pf_n (C := RX1) (T := TX1) (N := 14) (ci := 1) (q0 := 0) (ty := .int) (v := .int (nI ma)) (ws2 := (fX cI a mH mV mk ma gi sw f1 f2 f3 f4 f5 f6 f7 f8 ++ fX cI b mH mV mk ma mi mw e1 e2 e3 e4 e5 e6 e7 e8)) hx hb hts (iU inlX1) tyX1 tyX1_ok nmX1 hown hK hP hD hS rfl rfl 3 (by decide) (kU u_75) rfl rfl (tyX1_ok 3 (by decide)) rfl rfl (Nat.le_of_ble_eq_true rfl) dX1_copyFrom_29 rfl (fun Hp locs hP hD hS => ?_)
  refine lv_aload_n hx hb dX1_copyFrom_32 rfl (lv_at hl 0 rfl) ?_
  refine lv_aload_n hx hb dX1_copyFrom_33 rfl (lv_at hl 1 rfl) ?_
  refine gf_n (C := RX1) (T := TX1) (N := 14) (ci := 1) (q0 := 9) (v := .int (nI mi)) hx hb hts (iU inlX1) hown hK hP rfl rfl 4 (by decide) (kU u_76) rfl rfl dX1_copyFrom_34 ?_
  refine pf_n (C := RX1) (T := TX1) (N := 14) (ci := 1) (q0 := 0) (ty := .int) (v := .int (nI mi)) (ws2 := (fX cI a mH mV mk ma mi sw f1 f2 f3 f4 f5 f6 f7 f8 ++ fX cI b mH mV mk ma mi mw e1 e2 e3 e4 e5 e6 e7 e8)) hx hb hts (iU inlX1) tyX1 tyX1_ok nmX1 hown hK hP hD hS rfl rfl 4 (by decide) (kU u_76) rfl rfl (tyX1_ok 4 (by decide)) rfl rfl (Nat.le_of_ble_eq_true rfl) dX1_copyFrom_37 rfl (fun Hp locs hP hD hS => ?_)
  refine lv_aload_n hx hb dX1_copyFrom_40 rfl (lv_at hl 0 rfl) ?_
  refine lv_aload_n hx hb dX1_copyFrom_41 rfl (lv_at hl 1 rfl) ?_
  refine gf_n (C := RX1) (T := TX1) (N := 14) (ci := 1) (q0 := 9) (v := .int (nI mw)) hx hb hts (iU inlX1) hown hK hP rfl rfl 5 (by decide) (kU u_77) rfl rfl dX1_copyFrom_42 ?_
  refine pf_n (C := RX1) (T := TX1) (N := 14) (ci := 1) (q0 := 0) (ty := .int) (v := .int (nI mw)) (ws2 := (fX cI a mH mV mk ma mi mw f1 f2 f3 f4 f5 f6 f7 f8 ++ fX cI b mH mV mk ma mi mw e1 e2 e3 e4 e5 e6 e7 e8)) hx hb hts (iU inlX1) tyX1 tyX1_ok nmX1 hown hK hP hD hS rfl rfl 5 (by decide) (kU u_77) rfl rfl (tyX1_ok 5 (by decide)) rfl rfl (Nat.le_of_ble_eq_true rfl) dX1_copyFrom_45 rfl (fun Hp locs hP hD hS => ?_)
  refine lv_aload_n hx hb dX1_copyFrom_48 rfl (lv_at hl 1 rfl) ?_
  refine gf_n (C := RX1) (T := TX1) (N := 14) (ci := 1) (q0 := 9) (v := .ref (b 1)) hx hb hts (iU inlX1) hown hK hP rfl rfl 6 (by decide) (kU u_60) rfl rfl dX1_copyFrom_49 ?_
  refine lv_iconst (v := (nI 0)) hx hb dX1_copyFrom_52 (by decide) ?_
  refine lv_aload_n hx hb dX1_copyFrom_53 rfl (lv_at hl 0 rfl) ?_
  refine gf_n (C := RX1) (T := TX1) (N := 14) (ci := 1) (q0 := 0) (v := .ref (a 1)) hx hb hts (iU inlX1) hown hK hP rfl rfl 6 (by decide) (kU u_60) rfl rfl dX1_copyFrom_54 ?_
  refine lv_iconst (v := (nI 0)) hx hb dX1_copyFrom_57 (by decide) ?_
  refine lv_bipush (v := (nI 6)) hx hb dX1_copyFrom_58 (by decide) ?_
  refine cp_n (q0 := 10) (q1 := 1) (t0 := 0) (N := 6) (ws2 := (fX cI a mH mV mk ma mi mw e1 f2 f3 f4 f5 f6 f7 f8 ++ fX cI b mH mV mk ma mi mw e1 e2 e3 e4 e5 e6 e7 e8)) hx hb (by rw [hml]; exact hl.1.symm) hown (hts _ (kU u_296)) (hts _ (kU u_297)) (hts _ (kU u_298)) (hts _ (kU u_299)) hK hP hD hS rfl rfl rfl (by decide) (Nat.le_of_ble_eq_true rfl) (Nat.le_of_ble_eq_true rfl) dX1_copyFrom_60 rfl (fun Hp locs hP hD hS => ?_)
  refine lv_aload_n hx hb dX1_copyFrom_63 rfl (lv_at hl 1 rfl) ?_
  refine gf_n (C := RX1) (T := TX1) (N := 14) (ci := 1) (q0 := 9) (v := .ref (b 2)) hx hb hts (iU inlX1) hown hK hP rfl rfl 7 (by decide) (kU u_61) rfl rfl dX1_copyFrom_64 ?_
  refine lv_iconst (v := (nI 0)) hx hb dX1_copyFrom_67 (by decide) ?_
  refine lv_aload_n hx hb dX1_copyFrom_68 rfl (lv_at hl 0 rfl) ?_
  refine gf_n (C := RX1) (T := TX1) (N := 14) (ci := 1) (q0 := 0) (v := .ref (a 2)) hx hb hts (iU inlX1) hown hK hP rfl rfl 7 (by decide) (kU u_61) rfl rfl dX1_copyFrom_69 ?_
  refine lv_iconst (v := (nI 0)) hx hb dX1_copyFrom_72 (by decide) ?_
  refine lv_bipush (v := (nI 6)) hx hb dX1_copyFrom_73 (by decide) ?_
  refine cp_n (q0 := 11) (q1 := 2) (t0 := 0) (N := 6) (ws2 := (fX cI a mH mV mk ma mi mw e1 e2 f3 f4 f5 f6 f7 f8 ++ fX cI b mH mV mk ma mi mw e1 e2 e3 e4 e5 e6 e7 e8)) hx hb (by rw [hml]; exact hl.1.symm) hown (hts _ (kU u_296)) (hts _ (kU u_297)) (hts _ (kU u_298)) (hts _ (kU u_299)) hK hP hD hS rfl rfl rfl (by decide) (Nat.le_of_ble_eq_true rfl) (Nat.le_of_ble_eq_true rfl) dX1_copyFrom_75 rfl (fun Hp locs hP hD hS => ?_)
  refine lv_aload_n hx hb dX1_copyFrom_78 rfl (lv_at hl 1 rfl) ?_
  refine gf_n (C := RX1) (T := TX1) (N := 14) (ci := 1) (q0 := 9) (v := .ref (b 3)) hx hb hts (iU inlX1) hown hK hP rfl rfl 8 (by decide) (kU u_62) rfl rfl dX1_copyFrom_79 ?_
  refine lv_iconst (v := (nI 0)) hx hb dX1_copyFrom_82 (by decide) ?_
  refine lv_aload_n hx hb dX1_copyFrom_83 rfl (lv_at hl 0 rfl) ?_
  refine gf_n (C := RX1) (T := TX1) (N := 14) (ci := 1) (q0 := 0) (v := .ref (a 3)) hx hb hts (iU inlX1) hown hK hP rfl rfl 8 (by decide) (kU u_62) rfl rfl dX1_copyFrom_84 ?_
  refine lv_iconst (v := (nI 0)) hx hb dX1_copyFrom_87 (by decide) ?_
  refine lv_bipush (v := (nI 6)) hx hb dX1_copyFrom_88 (by decide) ?_
  refine cp_n (q0 := 12) (q1 := 3) (t0 := 0) (N := 6) (ws2 := (fX cI a mH mV mk ma mi mw e1 e2 e3 f4 f5 f6 f7 f8 ++ fX cI b mH mV mk ma mi mw e1 e2 e3 e4 e5 e6 e7 e8)) hx hb (by rw [hml]; exact hl.1.symm) hown (hts _ (kU u_296)) (hts _ (kU u_297)) (hts _ (kU u_298)) (hts _ (kU u_299)) hK hP hD hS rfl rfl rfl (by decide) (Nat.le_of_ble_eq_true rfl) (Nat.le_of_ble_eq_true rfl) dX1_copyFrom_90 rfl (fun Hp locs hP hD hS => ?_)
  refine lv_aload_n hx hb dX1_copyFrom_93 rfl (lv_at hl 1 rfl) ?_
  refine gf_n (C := RX1) (T := TX1) (N := 14) (ci := 1) (q0 := 9) (v := .ref (b 4)) hx hb hts (iU inlX1) hown hK hP rfl rfl 9 (by decide) (kU u_63) rfl rfl dX1_copyFrom_94 ?_
  refine lv_iconst (v := (nI 0)) hx hb dX1_copyFrom_97 (by decide) ?_
  refine lv_aload_n hx hb dX1_copyFrom_98 rfl (lv_at hl 0 rfl) ?_
  refine gf_n (C := RX1) (T := TX1) (N := 14) (ci := 1) (q0 := 0) (v := .ref (a 4)) hx hb hts (iU inlX1) hown hK hP rfl rfl 9 (by decide) (kU u_63) rfl rfl dX1_copyFrom_99 ?_
  refine lv_iconst (v := (nI 0)) hx hb dX1_copyFrom_102 (by decide) ?_
  refine lv_bipush (v := (nI 6)) hx hb dX1_copyFrom_103 (by decide) ?_
  refine cp_n (q0 := 13) (q1 := 4) (t0 := 0) (N := 6) (ws2 := (fX cI a mH mV mk ma mi mw e1 e2 e3 e4 f5 f6 f7 f8 ++ fX cI b mH mV mk ma mi mw e1 e2 e3 e4 e5 e6 e7 e8)) hx hb (by rw [hml]; exact hl.1.symm) hown (hts _ (kU u_296)) (hts _ (kU u_297)) (hts _ (kU u_298)) (hts _ (kU u_299)) hK hP hD hS rfl rfl rfl (by decide) (Nat.le_of_ble_eq_true rfl) (Nat.le_of_ble_eq_true rfl) dX1_copyFrom_105 rfl (fun Hp locs hP hD hS => ?_)
  refine lv_aload_n hx hb dX1_copyFrom_108 rfl (lv_at hl 1 rfl) ?_
  refine gf_n (C := RX1) (T := TX1) (N := 14) (ci := 1) (q0 := 9) (v := .ref (b 5)) hx hb hts (iU inlX1) hown hK hP rfl rfl 10 (by decide) (kU u_64) rfl rfl dX1_copyFrom_109 ?_
  refine lv_iconst (v := (nI 0)) hx hb dX1_copyFrom_112 (by decide) ?_
  refine lv_aload_n hx hb dX1_copyFrom_113 rfl (lv_at hl 0 rfl) ?_
  refine gf_n (C := RX1) (T := TX1) (N := 14) (ci := 1) (q0 := 0) (v := .ref (a 5)) hx hb hts (iU inlX1) hown hK hP rfl rfl 10 (by decide) (kU u_64) rfl rfl dX1_copyFrom_114 ?_
  refine lv_iconst (v := (nI 0)) hx hb dX1_copyFrom_117 (by decide) ?_
  refine lv_iconst (v := (nI 5)) hx hb dX1_copyFrom_118 (by decide) ?_
  refine cp_n (q0 := 14) (q1 := 5) (t0 := 0) (N := 5) (ws2 := (fX cI a mH mV mk ma mi mw e1 e2 e3 e4 e5 f6 f7 f8 ++ fX cI b mH mV mk ma mi mw e1 e2 e3 e4 e5 e6 e7 e8)) hx hb (by rw [hml]; exact hl.1.symm) hown (hts _ (kU u_296)) (hts _ (kU u_297)) (hts _ (kU u_298)) (hts _ (kU u_299)) hK hP hD hS rfl rfl rfl (by decide) (Nat.le_of_ble_eq_true rfl) (Nat.le_of_ble_eq_true rfl) dX1_copyFrom_119 rfl (fun Hp locs hP hD hS => ?_)
  refine lv_aload_n hx hb dX1_copyFrom_122 rfl (lv_at hl 1 rfl) ?_
  refine gf_n (C := RX1) (T := TX1) (N := 14) (ci := 1) (q0 := 9) (v := .ref (b 6)) hx hb hts (iU inlX1) hown hK hP rfl rfl 11 (by decide) (kU u_65) rfl rfl dX1_copyFrom_123 ?_
  refine lv_iconst (v := (nI 0)) hx hb dX1_copyFrom_126 (by decide) ?_
  refine lv_aload_n hx hb dX1_copyFrom_127 rfl (lv_at hl 0 rfl) ?_
  refine gf_n (C := RX1) (T := TX1) (N := 14) (ci := 1) (q0 := 0) (v := .ref (a 6)) hx hb hts (iU inlX1) hown hK hP rfl rfl 11 (by decide) (kU u_65) rfl rfl dX1_copyFrom_128 ?_
  refine lv_iconst (v := (nI 0)) hx hb dX1_copyFrom_131 (by decide) ?_
  refine lv_iconst (v := (nI 5)) hx hb dX1_copyFrom_132 (by decide) ?_
  refine cp_n (q0 := 15) (q1 := 6) (t0 := 0) (N := 5) (ws2 := (fX cI a mH mV mk ma mi mw e1 e2 e3 e4 e5 e6 f7 f8 ++ fX cI b mH mV mk ma mi mw e1 e2 e3 e4 e5 e6 e7 e8)) hx hb (by rw [hml]; exact hl.1.symm) hown (hts _ (kU u_296)) (hts _ (kU u_297)) (hts _ (kU u_298)) (hts _ (kU u_299)) hK hP hD hS rfl rfl rfl (by decide) (Nat.le_of_ble_eq_true rfl) (Nat.le_of_ble_eq_true rfl) dX1_copyFrom_133 rfl (fun Hp locs hP hD hS => ?_)
  refine lv_aload_n hx hb dX1_copyFrom_136 rfl (lv_at hl 1 rfl) ?_
  refine gf_n (C := RX1) (T := TX1) (N := 14) (ci := 1) (q0 := 9) (v := .ref (b 7)) hx hb hts (iU inlX1) hown hK hP rfl rfl 12 (by decide) (kU u_66) rfl rfl dX1_copyFrom_137 ?_
  refine lv_iconst (v := (nI 0)) hx hb dX1_copyFrom_140 (by decide) ?_
  refine lv_aload_n hx hb dX1_copyFrom_141 rfl (lv_at hl 0 rfl) ?_
  refine gf_n (C := RX1) (T := TX1) (N := 14) (ci := 1) (q0 := 0) (v := .ref (a 7)) hx hb hts (iU inlX1) hown hK hP rfl rfl 12 (by decide) (kU u_66) rfl rfl dX1_copyFrom_142 ?_
  refine lv_iconst (v := (nI 0)) hx hb dX1_copyFrom_145 (by decide) ?_
  refine lv_bipush (v := (nI 30)) hx hb dX1_copyFrom_146 (by decide) ?_
  refine cp_n (q0 := 16) (q1 := 7) (t0 := 0) (N := 30) (ws2 := (fX cI a mH mV mk ma mi mw e1 e2 e3 e4 e5 e6 e7 f8 ++ fX cI b mH mV mk ma mi mw e1 e2 e3 e4 e5 e6 e7 e8)) hx hb (by rw [hml]; exact hl.1.symm) hown (hts _ (kU u_296)) (hts _ (kU u_297)) (hts _ (kU u_298)) (hts _ (kU u_299)) hK hP hD hS rfl rfl rfl (by decide) (Nat.le_of_ble_eq_true rfl) (Nat.le_of_ble_eq_true rfl) dX1_copyFrom_148 rfl (fun Hp locs hP hD hS => ?_)
  refine lv_aload_n hx hb dX1_copyFrom_151 rfl (lv_at hl 1 rfl) ?_
  refine gf_n (C := RX1) (T := TX1) (N := 14) (ci := 1) (q0 := 9) (v := .ref (b 8)) hx hb hts (iU inlX1) hown hK hP rfl rfl 13 (by decide) (kU u_67) rfl rfl dX1_copyFrom_152 ?_
  refine lv_iconst (v := (nI 0)) hx hb dX1_copyFrom_155 (by decide) ?_
  refine lv_aload_n hx hb dX1_copyFrom_156 rfl (lv_at hl 0 rfl) ?_
  refine gf_n (C := RX1) (T := TX1) (N := 14) (ci := 1) (q0 := 0) (v := .ref (a 8)) hx hb hts (iU inlX1) hown hK hP rfl rfl 13 (by decide) (kU u_67) rfl rfl dX1_copyFrom_157 ?_
  refine lv_iconst (v := (nI 0)) hx hb dX1_copyFrom_160 (by decide) ?_
  refine lv_bipush (v := (nI 30)) hx hb dX1_copyFrom_161 (by decide) ?_
  refine cp_n (q0 := 17) (q1 := 8) (t0 := 0) (N := 30) (ws2 := (fX cI a mH mV mk ma mi mw e1 e2 e3 e4 e5 e6 e7 e8 ++ fX cI b mH mV mk ma mi mw e1 e2 e3 e4 e5 e6 e7 e8)) hx hb (by rw [hml]; exact hl.1.symm) hown (hts _ (kU u_296)) (hts _ (kU u_297)) (hts _ (kU u_298)) (hts _ (kU u_299)) hK hP hD hS rfl rfl rfl (by decide) (Nat.le_of_ble_eq_true rfl) (Nat.le_of_ble_eq_true rfl) dX1_copyFrom_163 rfl (fun Hp locs hP hD hS => ?_)
  exact ct_v () hx hb hr hlocks hP hS dX1_copyFrom_166
set_option maxHeartbeats 4000000 in
set_option maxRecDepth 100000 in
theorem c_X1_putHouse (l : Launch) (D : va_G) (cI cZ cF cL : ClassId) (a : Nat → Nat) (nH nV wk ea gi sw : Nat) (f1 f2 f3 f4 f5 f6 f7 f8 : Nat → Nat) (x y : Nat) (hH : nH < 6) : CT l D (tysX cI cZ cF cL) yX1_putHouse (wA yX1_putHouse cX1_putHouse 3 none) (rmF 0 0) [.ref (a 0), .int (nI x), .int (nI y)] (fX cI a nH nV wk ea gi sw f1 f2 f3 f4 f5 f6 f7 f8) (none : Option Value) (fun _ : Unit => (fX cI a (nH + 1) nV wk ea gi sw (va_up f1 nH x) (va_up f2 nH y) f3 f4 f5 f6 f7 f8)) := by
  refine ct_in (cc := cX1_putHouse) (maxL := 3) (ret := none) (own := RX1) (lv := [(0, .ref (a 0)), (1, .int (nI x)), (2, .int (nI y))]) (by decide +kernel) rfl rfl (Nat.le_of_ble_eq_true rfl) rfl ?_
  intro p e s m args below meth c A ls hx hb hr hml hts hown hlocks hK hA hP hD hS hl
  refine lv_aload_n hx hb dX1_putHouse_0 rfl (lv_at hl 0 rfl) ?_
  refine gf_n (C := RX1) (T := TX1) (N := 14) (ci := 1) (q0 := 0) (v := .int (nI nH)) hx hb hts (iU inlX1) hown hK hP rfl rfl 0 (by decide) (kU u_72) rfl rfl dX1_putHouse_1 ?_
  refine lv_bipush (v := (nI 6)) hx hb dX1_putHouse_4 (by decide) ?_
  refine lv_icmp_ge (tgt := 39) hx hb dX1_putHouse_6 (by decide) (fun c_6 => ?_) (fun c_6 => ?_)
  · skip
    replace c_6 := cn_le (by omega) (by omega) c_6
    (exfalso; omega)
  · skip
    replace c_6 := cn_nle (by omega) (by omega) c_6
    refine lv_aload_n hx hb dX1_putHouse_9 rfl (lv_at hl 0 rfl) ?_
    refine gf_n (C := RX1) (T := TX1) (N := 14) (ci := 1) (q0 := 0) (v := .ref (a 1)) hx hb hts (iU inlX1) hown hK hP rfl rfl 6 (by decide) (kU u_60) rfl rfl dX1_putHouse_10 ?_
    refine lv_aload_n hx hb dX1_putHouse_13 rfl (lv_at hl 0 rfl) ?_
    refine gf_n (C := RX1) (T := TX1) (N := 14) (ci := 1) (q0 := 0) (v := .int (nI nH)) hx hb hts (iU inlX1) hown hK hP rfl rfl 0 (by decide) (kU u_72) rfl rfl dX1_putHouse_14 ?_
    refine lv_iload_n hx hb dX1_putHouse_17 rfl (lv_at hl 1 rfl) ?_
    refine is_n (q0 := 1) (t0 := 0) (ws2 := (fX cI a nH nV wk ea gi sw (va_up f1 nH x) f2 f3 f4 f5 f6 f7 f8)) hx hb hK hP hD hS rfl rfl (by omega) (by decide) dX1_putHouse_18 rfl (fun Hp locs hP hD hS => ?_)
    refine lv_aload_n hx hb dX1_putHouse_19 rfl (lv_at hl 0 rfl) ?_
    refine gf_n (C := RX1) (T := TX1) (N := 14) (ci := 1) (q0 := 0) (v := .ref (a 2)) hx hb hts (iU inlX1) hown hK hP rfl rfl 7 (by decide) (kU u_61) rfl rfl dX1_putHouse_20 ?_
    refine lv_aload_n hx hb dX1_putHouse_23 rfl (lv_at hl 0 rfl) ?_
    refine gf_n (C := RX1) (T := TX1) (N := 14) (ci := 1) (q0 := 0) (v := .int (nI nH)) hx hb hts (iU inlX1) hown hK hP rfl rfl 0 (by decide) (kU u_72) rfl rfl dX1_putHouse_24 ?_
    refine lv_iload_n hx hb dX1_putHouse_27 rfl (lv_at hl 2 rfl) ?_
    refine is_n (q0 := 2) (t0 := 0) (ws2 := (fX cI a nH nV wk ea gi sw (va_up f1 nH x) (va_up f2 nH y) f3 f4 f5 f6 f7 f8)) hx hb hK hP hD hS rfl rfl (by omega) (by decide) dX1_putHouse_28 rfl (fun Hp locs hP hD hS => ?_)
    refine lv_aload_n hx hb dX1_putHouse_29 rfl (lv_at hl 0 rfl) ?_
    refine lv_dup hx hb dX1_putHouse_30 rfl ?_
    refine gf_n (C := RX1) (T := TX1) (N := 14) (ci := 1) (q0 := 0) (v := .int (nI nH)) hx hb hts (iU inlX1) hown hK hP rfl rfl 0 (by decide) (kU u_72) rfl rfl dX1_putHouse_31 ?_
    refine lv_iconst (v := (nI 1)) hx hb dX1_putHouse_34 (by decide) ?_
    refine lv_iadd hx hb dX1_putHouse_35 ?_
    rw [nI_add nH 1]
    refine pf_n (C := RX1) (T := TX1) (N := 14) (ci := 1) (q0 := 0) (ty := .int) (v := .int (nI (nH + 1))) (ws2 := (fX cI a (nH + 1) nV wk ea gi sw (va_up f1 nH x) (va_up f2 nH y) f3 f4 f5 f6 f7 f8)) hx hb hts (iU inlX1) tyX1 tyX1_ok nmX1 hown hK hP hD hS rfl rfl 0 (by decide) (kU u_72) rfl rfl (tyX1_ok 0 (by decide)) rfl rfl (Nat.le_of_ble_eq_true rfl) dX1_putHouse_36 rfl (fun Hp locs hP hD hS => ?_)
    exact ct_v () hx hb hr hlocks hP hS dX1_putHouse_39
set_option maxHeartbeats 4000000 in
set_option maxRecDepth 100000 in
theorem c_X1_putVegetable (l : Launch) (D : va_G) (cI cZ cF cL : ClassId) (a : Nat → Nat) (nH nV wk ea gi sw : Nat) (f1 f2 f3 f4 f5 f6 f7 f8 : Nat → Nat) (x : Nat) (hV : nV < 5) : CT l D (tysX cI cZ cF cL) yX1_putVegetable (wA yX1_putVegetable cX1_putVegetable 2 none) (rmF 0 0) [.ref (a 0), .int (nI x)] (fX cI a nH nV wk ea gi sw f1 f2 f3 f4 f5 f6 f7 f8) (none : Option Value) (fun _ : Unit => (fX cI a nH (nV + 1) wk ea gi sw f1 f2 f3 f4 (va_up f5 nV x) f6 f7 f8)) := by
  refine ct_in (cc := cX1_putVegetable) (maxL := 2) (ret := none) (own := RX1) (lv := [(0, .ref (a 0)), (1, .int (nI x))]) (by decide +kernel) rfl rfl (Nat.le_of_ble_eq_true rfl) rfl ?_
  intro p e s m args below meth c A ls hx hb hr hml hts hown hlocks hK hA hP hD hS hl
  refine lv_aload_n hx hb dX1_putVegetable_0 rfl (lv_at hl 0 rfl) ?_
  refine gf_n (C := RX1) (T := TX1) (N := 14) (ci := 1) (q0 := 0) (v := .int (nI nV)) hx hb hts (iU inlX1) hown hK hP rfl rfl 1 (by decide) (kU u_73) rfl rfl dX1_putVegetable_1 ?_
  refine lv_iconst (v := (nI 5)) hx hb dX1_putVegetable_4 (by decide) ?_
  refine lv_icmp_ge (tgt := 28) hx hb dX1_putVegetable_5 (by decide) (fun c_5 => ?_) (fun c_5 => ?_)
  · skip
    replace c_5 := cn_le (by omega) (by omega) c_5
    (exfalso; omega)
  · skip
    replace c_5 := cn_nle (by omega) (by omega) c_5
    refine lv_aload_n hx hb dX1_putVegetable_8 rfl (lv_at hl 0 rfl) ?_
    refine gf_n (C := RX1) (T := TX1) (N := 14) (ci := 1) (q0 := 0) (v := .ref (a 5)) hx hb hts (iU inlX1) hown hK hP rfl rfl 10 (by decide) (kU u_64) rfl rfl dX1_putVegetable_9 ?_
    refine lv_aload_n hx hb dX1_putVegetable_12 rfl (lv_at hl 0 rfl) ?_
    refine gf_n (C := RX1) (T := TX1) (N := 14) (ci := 1) (q0 := 0) (v := .int (nI nV)) hx hb hts (iU inlX1) hown hK hP rfl rfl 1 (by decide) (kU u_73) rfl rfl dX1_putVegetable_13 ?_
    refine lv_iload_n hx hb dX1_putVegetable_16 rfl (lv_at hl 1 rfl) ?_
    refine is_n (q0 := 5) (t0 := 0) (ws2 := (fX cI a nH nV wk ea gi sw f1 f2 f3 f4 (va_up f5 nV x) f6 f7 f8)) hx hb hK hP hD hS rfl rfl (by omega) (by decide) dX1_putVegetable_17 rfl (fun Hp locs hP hD hS => ?_)
    refine lv_aload_n hx hb dX1_putVegetable_18 rfl (lv_at hl 0 rfl) ?_
    refine lv_dup hx hb dX1_putVegetable_19 rfl ?_
    refine gf_n (C := RX1) (T := TX1) (N := 14) (ci := 1) (q0 := 0) (v := .int (nI nV)) hx hb hts (iU inlX1) hown hK hP rfl rfl 1 (by decide) (kU u_73) rfl rfl dX1_putVegetable_20 ?_
    refine lv_iconst (v := (nI 1)) hx hb dX1_putVegetable_23 (by decide) ?_
    refine lv_iadd hx hb dX1_putVegetable_24 ?_
    rw [nI_add nV 1]
    refine pf_n (C := RX1) (T := TX1) (N := 14) (ci := 1) (q0 := 0) (ty := .int) (v := .int (nI (nV + 1))) (ws2 := (fX cI a nH (nV + 1) wk ea gi sw f1 f2 f3 f4 (va_up f5 nV x) f6 f7 f8)) hx hb hts (iU inlX1) tyX1 tyX1_ok nmX1 hown hK hP hD hS rfl rfl 1 (by decide) (kU u_73) rfl rfl (tyX1_ok 1 (by decide)) rfl rfl (Nat.le_of_ble_eq_true rfl) dX1_putVegetable_25 rfl (fun Hp locs hP hD hS => ?_)
    exact ct_v () hx hb hr hlocks hP hS dX1_putVegetable_28
set_option maxHeartbeats 4000000 in
set_option maxRecDepth 100000 in
theorem c_X1_giveAway (l : Launch) (D : va_G) (cI cZ cF cL : ClassId) (a : Nat → Nat) (nH nV wk ea gi sw : Nat) (f1 f2 f3 f4 f5 f6 f7 f8 : Nat → Nat) (h v n : Nat) (hh : h < 6) (hv : v < 5) (hn : n ≤ f8 (h * 5 + v)) : CT l D (tysX cI cZ cF cL) yX1_giveAway (wA yX1_giveAway cX1_giveAway 4 none) (rmF 1 21) [.ref (a 0), .int (nI h), .int (nI v), .int (nI n)] (fX cI a nH nV wk ea gi sw f1 f2 f3 f4 f5 f6 f7 f8) (none : Option Value) (fun _ : Unit => (fX cI a nH nV wk ea (gi + n) sw f1 f2 f3 f4 f5 f6 f7 (va_up f8 (h * 5 + v) (f8 (h * 5 + v) - n)))) := by
  refine ct_in (cc := cX1_giveAway) (maxL := 4) (ret := none) (own := RX1) (lv := [(0, .ref (a 0)), (1, .int (nI h)), (2, .int (nI v)), (3, .int (nI n))]) (by decide +kernel) rfl rfl (Nat.le_of_ble_eq_true rfl) rfl ?_
  intro p e s m args below meth c A ls hx hb hr hml hts hown hlocks hK hA hP hD hS hl
  refine lv_aload_n hx hb dX1_giveAway_0 rfl (lv_at hl 0 rfl) ?_
  refine gf_n (C := RX1) (T := TX1) (N := 14) (ci := 1) (q0 := 0) (v := .ref (a 8)) hx hb hts (iU inlX1) hown hK hP rfl rfl 13 (by decide) (kU u_67) rfl rfl dX1_giveAway_1 ?_
  refine lv_iload_n hx hb dX1_giveAway_4 rfl (lv_at hl 1 rfl) ?_
  refine lv_iload_n hx hb dX1_giveAway_5 rfl (lv_at hl 2 rfl) ?_
  refine go_SN (ni := 2) (c_X8_cell l D cI cZ cF cL h v ) (gU u_245) rfl hdS_X8_cell ⟨Nat.le_of_ble_eq_true rfl, Nat.le_of_ble_eq_true rfl⟩ ⟨rfl, rfl⟩ rfl (hts _ (kU u_2)) (hts _ (kU u_244)) hx hb hml hown hts hK hA hP hD hS hl.1 ⟨Nat.le_of_ble_eq_true rfl, Nat.le_of_ble_eq_true rfl⟩ [] rfl rfl (fun _ => rfl) (rest := [.ref (a 8)]) rfl rfl (Nat.le_of_ble_eq_true rfl) dX1_giveAway_6 (ws2 := (fun _ : Unit => (fX cI a nH nV wk ea gi sw f1 f2 f3 f4 f5 f6 f7 f8))) (fun _ => rfl) (fun _ Hp locs hP hD hS => ?_)
  refine lv_dup2_11 hx hb dX1_giveAway_9 rfl rfl ?_
  refine ia_n (q0 := 8) (t0 := 0) hx hb hK hP rfl rfl (by omega) (by decide) dX1_giveAway_10 ?_
  refine lv_iload_n hx hb dX1_giveAway_11 rfl (lv_at hl 3 rfl) ?_
  refine lv_isub hx hb dX1_giveAway_12 ?_
  rw [pk_sub (a := f8 (h * 5 + v)) (b := n) hn]
  refine is_n (q0 := 8) (t0 := 0) (ws2 := (fX cI a nH nV wk ea gi sw f1 f2 f3 f4 f5 f6 f7 (va_up f8 (h * 5 + v) ((f8 (h * 5 + v)) - n)))) hx hb hK hP hD hS rfl rfl (by omega) (by decide) dX1_giveAway_13 rfl (fun Hp locs hP hD hS => ?_)
  refine lv_aload_n hx hb dX1_giveAway_14 rfl (lv_at hl 0 rfl) ?_
  refine lv_dup hx hb dX1_giveAway_15 rfl ?_
  refine gf_n (C := RX1) (T := TX1) (N := 14) (ci := 1) (q0 := 0) (v := .int (nI gi)) hx hb hts (iU inlX1) hown hK hP rfl rfl 4 (by decide) (kU u_76) rfl rfl dX1_giveAway_16 ?_
  refine lv_iload_n hx hb dX1_giveAway_19 rfl (lv_at hl 3 rfl) ?_
  refine lv_iadd hx hb dX1_giveAway_20 ?_
  rw [nI_add gi n]
  refine pf_n (C := RX1) (T := TX1) (N := 14) (ci := 1) (q0 := 0) (ty := .int) (v := .int (nI (gi + n))) (ws2 := (fX cI a nH nV wk ea (gi + n) sw f1 f2 f3 f4 f5 f6 f7 (va_up f8 (h * 5 + v) ((f8 (h * 5 + v)) - n)))) hx hb hts (iU inlX1) tyX1 tyX1_ok nmX1 hown hK hP hD hS rfl rfl 4 (by decide) (kU u_76) rfl rfl (tyX1_ok 4 (by decide)) rfl rfl (Nat.le_of_ble_eq_true rfl) dX1_giveAway_21 rfl (fun Hp locs hP hD hS => ?_)
  exact ct_v () hx hb hr hlocks hP hS dX1_giveAway_24
set_option maxRecDepth 20000 in
theorem u_435 : Cond.fieldLink RX0 9 "HarvestBoxes$Best" "number" "I" ∈ wsL_law := List.mem_of_getElem? (i := 194) (by decide +kernel)
set_option maxHeartbeats 4000000 in
set_option maxRecDepth 100000 in
theorem c_X0_startAnew (l : Launch) (D : va_G) (cI cZ cF cL : ClassId) (b0 : Nat) (kn kw : Int32)  : CT l D (tysX cI cZ cF cL) yX0_startAnew (wA yX0_startAnew cX0_startAnew 1 none) (rmF 0 0) [.ref b0] (bX b0 kn kw) (none : Option Value) (fun _ : Unit => (bX b0 ((-9)) kw)) := by
  refine ct_in (cc := cX0_startAnew) (maxL := 1) (ret := none) (own := RX0) (lv := [(0, .ref b0)]) (by decide +kernel) rfl rfl (Nat.le_of_ble_eq_true rfl) rfl ?_
  intro p e s m args below meth c A ls hx hb hr hml hts hown hlocks hK hA hP hD hS hl
  refine lv_aload_n hx hb dX0_startAnew_0 rfl (lv_at hl 0 rfl) ?_
  refine lv_bipush (v := ((-9))) hx hb dX0_startAnew_1 (by decide) ?_
  refine pf_n (C := RX0) (T := TX0) (N := 2) (ci := 0) (q0 := 0) (ty := .int) (v := .int ((-9))) (ws2 := (bX b0 ((-9)) kw)) hx hb hts (iU inlX0) tyX0 tyX0_ok nmX0 hown hK hP hD hS rfl rfl 0 (by decide) (kU u_435) rfl rfl (tyX0_ok 0 (by decide)) rfl rfl (Nat.le_of_ble_eq_true rfl) dX0_startAnew_3 rfl (fun Hp locs hP hD hS => ?_)
  exact ct_v () hx hb hr hlocks hP hS dX0_startAnew_6
set_option maxRecDepth 20000 in
theorem u_441 : Cond.fieldLink RX0 15 "HarvestBoxes$Best" "worth" "I" ∈ wsL_law := List.mem_of_getElem? (i := 199) (by decide +kernel)
set_option maxHeartbeats 4000000 in
set_option maxRecDepth 100000 in
theorem c_X0_offer (l : Launch) (D : va_G) (cI cZ cF cL : ClassId) (b0 : Nat) (kn kw : Int32) (x : Nat) (y : Int32)  : CT l D (tysX cI cZ cF cL) yX0_offer (wA yX0_offer cX0_offer 3 none) (rmF 0 0) [.ref b0, .int (nI x), .int y] (bX b0 kn kw) (none : Option Value) (fun _ : Unit => (bX b0 (if (kn = (-9) ∨ kw < y) then nI x else kn) (if (kn = (-9) ∨ kw < y) then y else kw))) := by
  refine ct_in (cc := cX0_offer) (maxL := 3) (ret := none) (own := RX0) (lv := [(0, .ref b0), (1, .int (nI x)), (2, .int y)]) (by decide +kernel) rfl rfl (Nat.le_of_ble_eq_true rfl) rfl ?_
  intro p e s m args below meth c A ls hx hb hr hml hts hown hlocks hK hA hP hD hS hl
  refine lv_aload_n hx hb dX0_offer_0 rfl (lv_at hl 0 rfl) ?_
  refine gf_n (C := RX0) (T := TX0) (N := 2) (ci := 0) (q0 := 0) (v := .int kn) hx hb hts (iU inlX0) hown hK hP rfl rfl 0 (by decide) (kU u_435) rfl rfl dX0_offer_1 ?_
  refine lv_bipush (v := ((-9))) hx hb dX0_offer_4 (by decide) ?_
  refine lv_icmp_eq (tgt := 17) hx hb dX0_offer_6 (by decide) (fun c_6 => ?_) (fun c_6 => ?_)
  · skip
    refine lv_aload_n hx hb dX0_offer_17 rfl (lv_at hl 0 rfl) ?_
    refine lv_iload_n hx hb dX0_offer_18 rfl (lv_at hl 1 rfl) ?_
    refine pf_n (C := RX0) (T := TX0) (N := 2) (ci := 0) (q0 := 0) (ty := .int) (v := .int (nI x)) (ws2 := (bX b0 (nI x) kw)) hx hb hts (iU inlX0) tyX0 tyX0_ok nmX0 hown hK hP hD hS rfl rfl 0 (by decide) (kU u_435) rfl rfl (tyX0_ok 0 (by decide)) rfl rfl (Nat.le_of_ble_eq_true rfl) dX0_offer_19 rfl (fun Hp locs hP hD hS => ?_)
    refine lv_aload_n hx hb dX0_offer_22 rfl (lv_at hl 0 rfl) ?_
    refine lv_iload_n hx hb dX0_offer_23 rfl (lv_at hl 2 rfl) ?_
    refine pf_n (C := RX0) (T := TX0) (N := 2) (ci := 0) (q0 := 0) (ty := .int) (v := .int y) (ws2 := (bX b0 (nI x) y)) hx hb hts (iU inlX0) tyX0 tyX0_ok nmX0 hown hK hP hD hS rfl rfl 1 (by decide) (kU u_441) rfl rfl (tyX0_ok 1 (by decide)) rfl rfl (Nat.le_of_ble_eq_true rfl) dX0_offer_24 rfl (fun Hp locs hP hD hS => ?_)
    exact ct_v () hx hb hr hlocks (by first | (rw [if_pos (Or.inl c_6), if_pos (Or.inl c_6)]; exact hP) | (rw [if_pos (Or.inr (Int32.not_le.mp c_14)), if_pos (Or.inr (Int32.not_le.mp c_14))]; exact hP) | (have q : ¬ (kn = (-9) ∨ kw < y) := fun q => q.elim c_6 (fun z => Int32.not_lt.mpr c_14 z); rw [if_neg q, if_neg q]; exact hP)) hS dX0_offer_27
  · skip
    refine lv_iload_n hx hb dX0_offer_9 rfl (lv_at hl 2 rfl) ?_
    refine lv_aload_n hx hb dX0_offer_10 rfl (lv_at hl 0 rfl) ?_
    refine gf_n (C := RX0) (T := TX0) (N := 2) (ci := 0) (q0 := 0) (v := .int kw) hx hb hts (iU inlX0) hown hK hP rfl rfl 1 (by decide) (kU u_441) rfl rfl dX0_offer_11 ?_
    refine lv_icmp_le (tgt := 27) hx hb dX0_offer_14 (by decide) (fun c_14 => ?_) (fun c_14 => ?_)
    · skip
      exact ct_v () hx hb hr hlocks (by first | (rw [if_pos (Or.inl c_6), if_pos (Or.inl c_6)]; exact hP) | (rw [if_pos (Or.inr (Int32.not_le.mp c_14)), if_pos (Or.inr (Int32.not_le.mp c_14))]; exact hP) | (have q : ¬ (kn = (-9) ∨ kw < y) := fun q => q.elim c_6 (fun z => Int32.not_lt.mpr c_14 z); rw [if_neg q, if_neg q]; exact hP)) hS dX0_offer_27
    · skip
      refine lv_aload_n hx hb dX0_offer_17 rfl (lv_at hl 0 rfl) ?_
      refine lv_iload_n hx hb dX0_offer_18 rfl (lv_at hl 1 rfl) ?_
      refine pf_n (C := RX0) (T := TX0) (N := 2) (ci := 0) (q0 := 0) (ty := .int) (v := .int (nI x)) (ws2 := (bX b0 (nI x) kw)) hx hb hts (iU inlX0) tyX0 tyX0_ok nmX0 hown hK hP hD hS rfl rfl 0 (by decide) (kU u_435) rfl rfl (tyX0_ok 0 (by decide)) rfl rfl (Nat.le_of_ble_eq_true rfl) dX0_offer_19 rfl (fun Hp locs hP hD hS => ?_)
      refine lv_aload_n hx hb dX0_offer_22 rfl (lv_at hl 0 rfl) ?_
      refine lv_iload_n hx hb dX0_offer_23 rfl (lv_at hl 2 rfl) ?_
      refine pf_n (C := RX0) (T := TX0) (N := 2) (ci := 0) (q0 := 0) (ty := .int) (v := .int y) (ws2 := (bX b0 (nI x) y)) hx hb hts (iU inlX0) tyX0 tyX0_ok nmX0 hown hK hP hD hS rfl rfl 1 (by decide) (kU u_441) rfl rfl (tyX0_ok 1 (by decide)) rfl rfl (Nat.le_of_ble_eq_true rfl) dX0_offer_24 rfl (fun Hp locs hP hD hS => ?_)
      exact ct_v () hx hb hr hlocks (by first | (rw [if_pos (Or.inl c_6), if_pos (Or.inl c_6)]; exact hP) | (rw [if_pos (Or.inr (Int32.not_le.mp c_14)), if_pos (Or.inr (Int32.not_le.mp c_14))]; exact hP) | (have q : ¬ (kn = (-9) ∨ kw < y) := fun q => q.elim c_6 (fun z => Int32.not_lt.mpr c_14 z); rw [if_neg q, if_neg q]; exact hP)) hS dX0_offer_27
set_option maxHeartbeats 4000000 in
set_option maxRecDepth 100000 in
theorem c_X0_number (l : Launch) (D : va_G) (cI cZ cF cL : ClassId) (b0 : Nat) (kn kw : Int32)  : CT l D (tysX cI cZ cF cL) yX0_number (wA yX0_number cX0_number 1 (some .int)) (rmF 0 0) [.ref b0] (bX b0 kn kw) (some (.int kn)) (fun _ : Unit => (bX b0 kn kw)) := by
  refine ct_in (cc := cX0_number) (maxL := 1) (ret := (some .int)) (own := RX0) (lv := [(0, .ref b0)]) (by decide +kernel) rfl rfl (Nat.le_of_ble_eq_true rfl) rfl ?_
  intro p e s m args below meth c A ls hx hb hr hml hts hown hlocks hK hA hP hD hS hl
  refine lv_aload_n hx hb dX0_number_0 rfl (lv_at hl 0 rfl) ?_
  refine gf_n (C := RX0) (T := TX0) (N := 2) (ci := 0) (q0 := 0) (v := .int kn) hx hb hts (iU inlX0) hown hK hP rfl rfl 0 (by decide) (kU u_435) rfl rfl dX0_number_1 ?_
  exact ct_i () hx hb hr hlocks hP hS rfl dX0_number_4

