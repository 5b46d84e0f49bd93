theorem le_m1 {x : Int32} {n : Nat} (hn : n ≤ 6) : x ≤ nI n - nI 1 ↔ x < nI n := by
  rw [Int32.le_iff_toInt_le, Int32.lt_iff_toInt_lt, pk_sub_toInt (by omega) (by omega), nI_toInt (by omega)]
  omega
theorem in_n {i lo hi : Nat} (hi1 : i < 2 ^ 31) (h1 : lo < 2 ^ 31) (h2 : hi < 2 ^ 31) : (nI lo ≤ nI i ∧ nI i ≤ nI hi) ↔ (lo ≤ i ∧ i ≤ hi) := and_congr (nI_leI h1 hi1) (nI_leI hi1 h2)
set_option maxHeartbeats 4000000 in
set_option maxRecDepth 100000 in
theorem c_X9_in (l : Launch) (D : va_G) (cI cZ cF cL : ClassId) (x lo hi : Int32)  : CT l D (tysX cI cZ cF cL) yX9_in (wA yX9_in cX9_in 3 (some .boolean)) (rmF 0 0) [.int x, .int lo, .int hi] ([] : va_W) (some (.int (if (lo ≤ x ∧ x ≤ hi) then 1 else 0))) (fun _ : Unit => ([] : va_W)) := by
  refine ct_in (cc := cX9_in) (maxL := 3) (ret := (some .boolean)) (own := RX9) (lv := [(0, .int x), (1, .int lo), (2, .int hi)]) (by decide +kernel) rfl rfl (Nat.le_of_ble_eq_true rfl) rfl ?_
  intro p e s m args below meth c A ls hx hb hr hml hts hown hlocks hK hA hP hD hS hl
  refine lv_iload_n hx hb dX9_in_0 rfl (lv_at hl 0 rfl) ?_
  refine lv_iload_n hx hb dX9_in_1 rfl (lv_at hl 1 rfl) ?_
  refine lv_icmp_lt (tgt := 14) hx hb dX9_in_2 (by decide) (fun c_2 => ?_) (fun c_2 => ?_)
  · skip
    refine lv_iconst (v := (nI 0)) hx hb dX9_in_14 (by decide) ?_
    exact ct_z () hx hb hr hlocks hP hS (by first | exact z_t ⟨Int32.not_lt.mp c_2, Int32.not_lt.mp c_7⟩ | exact z_f (fun q => Int32.not_lt.mpr q.1 c_2) | exact z_f (fun q => Int32.not_lt.mpr q.2 c_7)) dX9_in_15
  · skip
    refine lv_iload_n hx hb dX9_in_5 rfl (lv_at hl 0 rfl) ?_
    refine lv_iload_n hx hb dX9_in_6 rfl (lv_at hl 2 rfl) ?_
    refine lv_icmp_gt (tgt := 14) hx hb dX9_in_7 (by decide) (fun c_7 => ?_) (fun c_7 => ?_)
    · skip
      refine lv_iconst (v := (nI 0)) hx hb dX9_in_14 (by decide) ?_
      exact ct_z () hx hb hr hlocks hP hS (by first | exact z_t ⟨Int32.not_lt.mp c_2, Int32.not_lt.mp c_7⟩ | exact z_f (fun q => Int32.not_lt.mpr q.1 c_2) | exact z_f (fun q => Int32.not_lt.mpr q.2 c_7)) dX9_in_15
    · skip
      refine lv_iconst (v := (nI 1)) hx hb dX9_in_10 (by decide) ?_
      refine lv_goto (tgt := 15) hx hb dX9_in_11 (by decide) ?_
      exact ct_z () hx hb hr hlocks hP hS (by first | exact z_t ⟨Int32.not_lt.mp c_2, Int32.not_lt.mp c_7⟩ | exact z_f (fun q => Int32.not_lt.mpr q.1 c_2) | exact z_f (fun q => Int32.not_lt.mpr q.2 c_7)) dX9_in_15
set_option maxRecDepth 20000 in
theorem u_173 : Cond.fieldLink RX9 35 "HarvestBoxesModel" "thrown" "I" ∈ wsL_law := List.mem_of_getElem? (i := 173) (by decide +kernel)
set_option maxHeartbeats 4000000 in
set_option maxRecDepth 100000 in
theorem c_X9_fails (l : Launch) (D : va_G) (cI cZ cF cL : ClassId) (mr : Nat) (rf : Nat → Nat) (st ln th pl hs vs : Nat) (dg : Int32) (xx : Int64) (k : Nat)  : CT l D (tysX cI cZ cF cL) yX9_fails (wA yX9_fails cX9_fails 2 (some .int)) (rmF 0 0) [.ref mr, .int (nI k)] (mX mr rf st ln th pl hs vs dg xx) (some (.int (nI 0))) (fun _ : Unit => (mX mr rf st ln k pl hs vs dg xx)) := by
  refine ct_in (cc := cX9_fails) (maxL := 2) (ret := (some .int)) (own := RX9) (lv := [(0, .ref mr), (1, .int (nI k))]) (by decide +kernel) rfl rfl (Nat.le_of_ble_eq_true rfl) rfl ?_
  intro p e s m args below meth c A ls hx hb hr hml hts hown hlocks hK hA hP hD hS hl
  refine lv_aload_n hx hb dX9_fails_0 rfl (lv_at hl 0 rfl) ?_
  refine lv_iload_n hx hb dX9_fails_1 rfl (lv_at hl 1 rfl) ?_
  refine pf_n (C := RX9) (T := TX9) (N := 15) (ci := 9) (q0 := 0) (ty := .int) (v := .int (nI k)) (ws2 := (mX mr rf st ln k pl hs vs dg xx)) hx hb hts (iU inlX9) tyX9 tyX9_ok nmX9 hown hK hP hD hS rfl rfl 8 (by decide) (kU u_173) rfl rfl (tyX9_ok 8 (by decide)) rfl rfl (Nat.le_of_ble_eq_true rfl) dX9_fails_2 rfl (fun Hp locs hP hD hS => ?_)
  refine lv_iconst (v := (nI 0)) hx hb dX9_fails_5 (by decide) ?_
  exact ct_i () hx hb hr hlocks hP hS rfl dX9_fails_6
set_option maxHeartbeats 4000000 in
set_option maxRecDepth 100000 in
theorem c_X9_thrown (l : Launch) (D : va_G) (cI cZ cF cL : ClassId) (mr : Nat) (rf : Nat → Nat) (st ln th pl hs vs : Nat) (dg : Int32) (xx : Int64)  : CT l D (tysX cI cZ cF cL) yX9_thrown (wA yX9_thrown cX9_thrown 1 (some .int)) (rmF 0 0) [.ref mr] (mX mr rf st ln th pl hs vs dg xx) (some (.int (nI th))) (fun _ : Unit => (mX mr rf st ln th pl hs vs dg xx)) := by
  refine ct_in (cc := cX9_thrown) (maxL := 1) (ret := (some .int)) (own := RX9) (lv := [(0, .ref mr)]) (by decide +kernel) rfl rfl (Nat.le_of_ble_eq_true rfl) rfl ?_
  intro p e s m args below meth c A ls hx hb hr hml hts hown hlocks hK hA hP hD hS hl
  refine lv_aload_n hx hb dX9_thrown_0 rfl (lv_at hl 0 rfl) ?_
  refine gf_n (C := RX9) (T := TX9) (N := 15) (ci := 9) (q0 := 0) (v := .int (nI th)) hx hb hts (iU inlX9) hown hK hP rfl rfl 8 (by decide) (kU u_173) rfl rfl dX9_thrown_1 ?_
  exact ct_i () hx hb hr hlocks hP hS rfl dX9_thrown_4
set_option maxHeartbeats 4000000 in
set_option maxRecDepth 100000 in
theorem c_X9_size (l : Launch) (D : va_G) (cI cZ cF cL : ClassId) (h : Nat)  : CT l D (tysX cI cZ cF cL) yX9_size (wA yX9_size cX9_size 1 (some .int)) (rmF 0 0) [.int (nI h)] ([] : va_W) (some (.int (nI (6 + 4 * h)))) (fun _ : Unit => ([] : va_W)) := by
  refine ct_in (cc := cX9_size) (maxL := 1) (ret := (some .int)) (own := RX9) (lv := [(0, .int (nI h))]) (by decide +kernel) rfl rfl (Nat.le_of_ble_eq_true rfl) rfl ?_
  intro p e s m args below meth c A ls hx hb hr hml hts hown hlocks hK hA hP hD hS hl
  refine lv_bipush (v := (nI 6)) hx hb dX9_size_0 (by decide) ?_
  refine lv_iconst (v := (nI 4)) hx hb dX9_size_2 (by decide) ?_
  refine lv_iload_n hx hb dX9_size_3 rfl (lv_at hl 0 rfl) ?_
  refine lv_imul hx hb dX9_size_4 ?_
  rw [pk_mul 4 h]
  refine lv_iadd hx hb dX9_size_5 ?_
  rw [nI_add 6 (4 * h)]
  exact ct_i () hx hb hr hlocks hP hS rfl dX9_size_6
set_option maxHeartbeats 4000000 in
set_option maxRecDepth 100000 in
theorem c_X9_harvest (l : Launch) (D : va_G) (cI cZ cF cL : ClassId) (v : Nat)  : CT l D (tysX cI cZ cF cL) yX9_harvest (wA yX9_harvest cX9_harvest 1 (some .int)) (rmF 0 0) [.int (nI v)] ([] : va_W) (some (.int (nI (30 + 2 * v)))) (fun _ : Unit => ([] : va_W)) := by
  refine ct_in (cc := cX9_harvest) (maxL := 1) (ret := (some .int)) (own := RX9) (lv := [(0, .int (nI v))]) (by decide +kernel) rfl rfl (Nat.le_of_ble_eq_true rfl) rfl ?_
  intro p e s m args below meth c A ls hx hb hr hml hts hown hlocks hK hA hP hD hS hl
  refine lv_bipush (v := (nI 30)) hx hb dX9_harvest_0 (by decide) ?_
  refine lv_iconst (v := (nI 2)) hx hb dX9_harvest_2 (by decide) ?_
  refine lv_iload_n hx hb dX9_harvest_3 rfl (lv_at hl 0 rfl) ?_
  refine lv_imul hx hb dX9_harvest_4 ?_
  rw [pk_mul 2 v]
  refine lv_iadd hx hb dX9_harvest_5 ?_
  rw [nI_add 30 (2 * v)]
  exact ct_i () hx hb hr hlocks hP hS rfl dX9_harvest_6
set_option maxHeartbeats 4000000 in
set_option maxRecDepth 100000 in
theorem c_X9_like (l : Launch) (D : va_G) (cI cZ cF cL : ClassId) (h v : Nat)  : CT l D (tysX cI cZ cF cL) yX9_like (wA yX9_like cX9_like 2 (some .int)) (rmF 0 0) [.int (nI h), .int (nI v)] ([] : va_W) (some (.int (nI (40 + 5 * h + v)))) (fun _ : Unit => ([] : va_W)) := by
  refine ct_in (cc := cX9_like) (maxL := 2) (ret := (some .int)) (own := RX9) (lv := [(0, .int (nI h)), (1, .int (nI v))]) (by decide +kernel) rfl rfl (Nat.le_of_ble_eq_true rfl) rfl ?_
  intro p e s m args below meth c A ls hx hb hr hml hts hown hlocks hK hA hP hD hS hl
  refine lv_bipush (v := (nI 40)) hx hb dX9_like_0 (by decide) ?_
  refine lv_iconst (v := (nI 5)) hx hb dX9_like_2 (by decide) ?_
  refine lv_iload_n hx hb dX9_like_3 rfl (lv_at hl 0 rfl) ?_
  refine lv_imul hx hb dX9_like_4 ?_
  rw [pk_mul 5 h]
  refine lv_iadd hx hb dX9_like_5 ?_
  rw [nI_add 40 (5 * h)]
  refine lv_iload_n hx hb dX9_like_6 rfl (lv_at hl 1 rfl) ?_
  refine lv_iadd hx hb dX9_like_7 ?_
  rw [nI_add (40 + (5 * h)) v]
  exact ct_i () hx hb hr hlocks hP hS rfl dX9_like_8
set_option maxHeartbeats 4000000 in
set_option maxRecDepth 100000 in
theorem c_X9_kilos (l : Launch) (D : va_G) (cI cZ cF cL : ClassId) (h v : Nat)  : CT l D (tysX cI cZ cF cL) yX9_kilos (wA yX9_kilos cX9_kilos 2 (some .int)) (rmF 0 0) [.int (nI h), .int (nI v)] ([] : va_W) (some (.int (nI (70 + 5 * h + v)))) (fun _ : Unit => ([] : va_W)) := by
  refine ct_in (cc := cX9_kilos) (maxL := 2) (ret := (some .int)) (own := RX9) (lv := [(0, .int (nI h)), (1, .int (nI v))]) (by decide +kernel) rfl rfl (Nat.le_of_ble_eq_true rfl) rfl ?_
  intro p e s m args below meth c A ls hx hb hr hml hts hown hlocks hK hA hP hD hS hl
  refine lv_bipush (v := (nI 70)) hx hb dX9_kilos_0 (by decide) ?_
  refine lv_iconst (v := (nI 5)) hx hb dX9_kilos_2 (by decide) ?_
  refine lv_iload_n hx hb dX9_kilos_3 rfl (lv_at hl 0 rfl) ?_
  refine lv_imul hx hb dX9_kilos_4 ?_
  rw [pk_mul 5 h]
  refine lv_iadd hx hb dX9_kilos_5 ?_
  rw [nI_add 70 (5 * h)]
  refine lv_iload_n hx hb dX9_kilos_6 rfl (lv_at hl 1 rfl) ?_
  refine lv_iadd hx hb dX9_kilos_7 ?_
  rw [nI_add (70 + (5 * h)) v]
  exact ct_i () hx hb hr hlocks hP hS rfl dX9_kilos_8
set_option maxRecDepth 20000 in
theorem u_129 : Cond.fieldLink RX9 7 "HarvestBoxesModel" "q" "[I" ∈ wsL_law := List.mem_of_getElem? (i := 129) (by decide +kernel)
set_option maxRecDepth 20000 in
theorem u_142 : Cond.code yX9_in cX9_in 3 (some .boolean) ∈ wsL_law := List.mem_of_getElem? (i := 142) (by decide +kernel)
set_option maxRecDepth 20000 in
theorem u_140 : Cond.methodLink RX9 39 yX9_in ∈ wsL_law := List.mem_of_getElem? (i := 140) (by decide +kernel)
set_option maxRecDepth 20000 in
theorem u_141 : Cond.static yX9_in ∈ wsL_law := List.mem_of_getElem? (i := 141) (by decide +kernel)
set_option maxRecDepth 20000 in
theorem u_5 : Cond.initialized RX9 ∈ wsL_law := List.mem_of_getElem? (i := 5) (by decide +kernel)
theorem hdS_X9_in : yX9_in.cls ≠ "java/lang/invoke/MethodHandle" ∧ yX9_in.cls ≠ "java/lang/invoke/VarHandle" ∧ (parseMethodDescriptor yX9_in.desc).map (fun d => d.parameters.length) = some 3 := by decide +kernel
set_option maxHeartbeats 4000000 in
set_option maxRecDepth 100000 in
theorem c_X9_isHouse (l : Launch) (D : va_G) (cI cZ cF cL : ClassId) (mr : Nat) (rf : Nat → Nat) (st ln th pl hs vs : Nat) (dg : Int32) (xx : Int64) (nH nV wk ea gi sw : Nat) (f1 f2 f3 f4 f5 f6 f7 f8 : Nat → Nat) (x : Int32) (hH : nH ≤ 6) (hV : nV ≤ 5) : CT l D (tysX cI cZ cF cL) yX9_isHouse (wA yX9_isHouse cX9_isHouse 2 (some .boolean)) (rmF 1 22) [.ref mr, .int x] (mX mr rf st ln th pl hs vs dg xx ++ qX cI (rf 0) nH nV wk ea gi sw f1 f2 f3 f4 f5 f6 f7 f8) (some (.int (if (0 ≤ x ∧ x < nI nH) then 1 else 0))) (fun _ : Unit => (mX mr rf st ln th pl hs vs dg xx ++ qX cI (rf 0) nH nV wk ea gi sw f1 f2 f3 f4 f5 f6 f7 f8)) := by
  refine ct_in (cc := cX9_isHouse) (maxL := 2) (ret := (some .boolean)) (own := RX9) (lv := [(0, .ref mr), (1, .int x)]) (by decide +kernel) rfl rfl (Nat.le_of_ble_eq_true rfl) rfl ?_
  intro p e s m args below meth c A ls hx hb hr hml hts hown hlocks hK hA hP hD hS hl
  refine lv_iload_n hx hb dX9_isHouse_0 rfl (lv_at hl 1 rfl) ?_
  refine lv_iconst (v := (nI 0)) hx hb dX9_isHouse_1 (by decide) ?_
  refine lv_aload_n hx hb dX9_isHouse_2 rfl (lv_at hl 0 rfl) ?_
  refine gf_n (C := RX9) (T := TX9) (N := 15) (ci := 9) (q0 := 0) (v := .ref (rf 0)) hx hb hts (iU inlX9) hown hK hP rfl rfl 0 (by decide) (kU u_129) rfl rfl dX9_isHouse_3 ?_
  refine lv_iconst (v := (nI 0)) hx hb dX9_isHouse_6 (by decide) ?_
  refine ia_n (q0 := 1) (t0 := 0) hx hb hK hP rfl rfl (by omega) (by decide) dX9_isHouse_7 ?_
  rw [show qN nH nV wk ea gi sw f1 f2 f3 f4 f5 f6 f7 f8 0 = nH from rfl]
  refine lv_iconst (v := (nI 1)) hx hb dX9_isHouse_8 (by decide) ?_
  refine lv_isub hx hb dX9_isHouse_9 ?_
  refine gp_S (c_X9_in l D cI cZ cF cL x ((nI 0)) (((nI nH) - (nI 1))) ) (gUS u_140 u_141 u_5 u_142) rfl hdS_X9_in ⟨Nat.le_of_ble_eq_true rfl, Nat.le_of_ble_eq_true rfl⟩ ⟨rfl, rfl⟩ hx hb hml hown hts hK hA hP hD hS hl.1 ⟨Nat.le_of_ble_eq_true rfl, Nat.le_of_ble_eq_true rfl⟩ (wr := (mX mr rf st ln th pl hs vs dg xx ++ qX cI (rf 0) nH nV wk ea gi sw f1 f2 f3 f4 f5 f6 f7 f8)) (pm_cnt (fun _ => by simp only [List.countP_append, List.countP_nil, fT] <;> omega)) (fun _ => by simp only [List.map_append, List.map_nil, fX_m, bX_m, sX_m, pX_m, iaX_m, r5X_m, r6X_m, fT_m, hX_m, tX_m, xX_m, sgX_m, zaX_m, fsB_a, qX_m, mX_m]) (rest := []) rfl rfl (Nat.le_of_ble_eq_true rfl) dX9_isHouse_10 (ws2 := (fun _ : Unit => (mX mr rf st ln th pl hs vs dg xx ++ qX cI (rf 0) nH nV wk ea gi sw f1 f2 f3 f4 f5 f6 f7 f8))) (fun _ => (pm_cnt (fun _ => by simp only [List.countP_append, List.countP_nil, fT] <;> omega))) (fun _ Hp locs hP hD hS => ?_)
  exact ct_z () hx hb hr hlocks hP hS (zc (and_congr Iff.rfl (le_m1 (by omega)))) dX9_isHouse_13
set_option maxHeartbeats 4000000 in
set_option maxRecDepth 100000 in
theorem c_X9_isVegetable (l : Launch) (D : va_G) (cI cZ cF cL : ClassId) (mr : Nat) (rf : Nat → Nat) (st ln th pl hs vs : Nat) (dg : Int32) (xx : Int64) (nH nV wk ea gi sw : Nat) (f1 f2 f3 f4 f5 f6 f7 f8 : Nat → Nat) (x : Int32) (hH : nH ≤ 6) (hV : nV ≤ 5) : CT l D (tysX cI cZ cF cL) yX9_isVegetable (wA yX9_isVegetable cX9_isVegetable 2 (some .boolean)) (rmF 1 22) [.ref mr, .int x] (mX mr rf st ln th pl hs vs dg xx ++ qX cI (rf 0) nH nV wk ea gi sw f1 f2 f3 f4 f5 f6 f7 f8) (some (.int (if (0 ≤ x ∧ x < nI nV) then 1 else 0))) (fun _ : Unit => (mX mr rf st ln th pl hs vs dg xx ++ qX cI (rf 0) nH nV wk ea gi sw f1 f2 f3 f4 f5 f6 f7 f8)) := by
  refine ct_in (cc := cX9_isVegetable) (maxL := 2) (ret := (some .boolean)) (own := RX9) (lv := [(0, .ref mr), (1, .int x)]) (by decide +kernel) rfl rfl (Nat.le_of_ble_eq_true rfl) rfl ?_
  intro p e s m args below meth c A ls hx hb hr hml hts hown hlocks hK hA hP hD hS hl
  refine lv_iload_n hx hb dX9_isVegetable_0 rfl (lv_at hl 1 rfl) ?_
  refine lv_iconst (v := (nI 0)) hx hb dX9_isVegetable_1 (by decide) ?_
  refine lv_aload_n hx hb dX9_isVegetable_2 rfl (lv_at hl 0 rfl) ?_
  refine gf_n (C := RX9) (T := TX9) (N := 15) (ci := 9) (q0 := 0) (v := .ref (rf 0)) hx hb hts (iU inlX9) hown hK hP rfl rfl 0 (by decide) (kU u_129) rfl rfl dX9_isVegetable_3 ?_
  refine lv_iconst (v := (nI 1)) hx hb dX9_isVegetable_6 (by decide) ?_
  refine ia_n (q0 := 1) (t0 := 0) hx hb hK hP rfl rfl (by omega) (by decide) dX9_isVegetable_7 ?_
  rw [show qN nH nV wk ea gi sw f1 f2 f3 f4 f5 f6 f7 f8 1 = nV from rfl]
  refine lv_iconst (v := (nI 1)) hx hb dX9_isVegetable_8 (by decide) ?_
  refine lv_isub hx hb dX9_isVegetable_9 ?_
  refine gp_S (c_X9_in l D cI cZ cF cL x ((nI 0)) (((nI nV) - (nI 1))) ) (gUS u_140 u_141 u_5 u_142) rfl hdS_X9_in ⟨Nat.le_of_ble_eq_true rfl, Nat.le_of_ble_eq_true rfl⟩ ⟨rfl, rfl⟩ hx hb hml hown hts hK hA hP hD hS hl.1 ⟨Nat.le_of_ble_eq_true rfl, Nat.le_of_ble_eq_true rfl⟩ (wr := (mX mr rf st ln th pl hs vs dg xx ++ qX cI (rf 0) nH nV wk ea gi sw f1 f2 f3 f4 f5 f6 f7 f8)) (pm_cnt (fun _ => by simp only [List.countP_append, List.countP_nil, fT] <;> omega)) (fun _ => by simp only [List.map_append, List.map_nil, fX_m, bX_m, sX_m, pX_m, iaX_m, r5X_m, r6X_m, fT_m, hX_m, tX_m, xX_m, sgX_m, zaX_m, fsB_a, qX_m, mX_m]) (rest := []) rfl rfl (Nat.le_of_ble_eq_true rfl) dX9_isVegetable_10 (ws2 := (fun _ : Unit => (mX mr rf st ln th pl hs vs dg xx ++ qX cI (rf 0) nH nV wk ea gi sw f1 f2 f3 f4 f5 f6 f7 f8))) (fun _ => (pm_cnt (fun _ => by simp only [List.countP_append, List.countP_nil, fT] <;> omega))) (fun _ Hp locs hP hD hS => ?_)
  exact ct_z () hx hb hr hlocks hP hS (zc (and_congr Iff.rfl (le_m1 (by omega)))) dX9_isVegetable_13
set_option maxRecDepth 20000 in
theorem u_277 : Cond.code yX9_size cX9_size 1 (some .int) ∈ wsL_law := List.mem_of_getElem? (i := 277) (by decide +kernel)
set_option maxRecDepth 20000 in
theorem u_275 : Cond.methodLink RX9 46 yX9_size ∈ wsL_law := List.mem_of_getElem? (i := 275) (by decide +kernel)
set_option maxRecDepth 20000 in
theorem u_276 : Cond.static yX9_size ∈ wsL_law := List.mem_of_getElem? (i := 276) (by decide +kernel)
theorem hdS_X9_size : yX9_size.cls ≠ "java/lang/invoke/MethodHandle" ∧ yX9_size.cls ≠ "java/lang/invoke/VarHandle" ∧ (parseMethodDescriptor yX9_size.desc).map (fun d => d.parameters.length) = some 1 := by decide +kernel
set_option maxHeartbeats 4000000 in
set_option maxRecDepth 100000 in
theorem c_X9_getsBox (l : Launch) (D : va_G) (cI cZ cF cL : ClassId) (mr : Nat) (rf : Nat → Nat) (st ln th pl hs vs : Nat) (dg : Int32) (xx : Int64) (nH nV wk ea gi sw : Nat) (f1 f2 f3 f4 f5 f6 f7 f8 : Nat → Nat) (h : Nat) (hh : h < 6) (b2 : ∀ h, h < 6 → f2 h < 2 ^ 31) (b4 : ∀ h, h < 6 → f4 h < 2 ^ 31) : CT l D (tysX cI cZ cF cL) yX9_getsBox (wA yX9_getsBox cX9_getsBox 2 (some .boolean)) (rmF 1 20) [.ref mr, .int (nI h)] (mX mr rf st ln th pl hs vs dg xx ++ qX cI (rf 0) nH nV wk ea gi sw f1 f2 f3 f4 f5 f6 f7 f8) (some (.int (if (getsB f2 f4 h) then 1 else 0))) (fun _ : Unit => (mX mr rf st ln th pl hs vs dg xx ++ qX cI (rf 0) nH nV wk ea gi sw f1 f2 f3 f4 f5 f6 f7 f8)) := by
  refine ct_in (cc := cX9_getsBox) (maxL := 2) (ret := (some .boolean)) (own := RX9) (lv := [(0, .ref mr), (1, .int (nI h))]) (by decide +kernel) rfl rfl (Nat.le_of_ble_eq_true rfl) rfl ?_
  intro p e s m args below meth c A ls hx hb hr hml hts hown hlocks hK hA hP hD hS hl
  refine lv_aload_n hx hb dX9_getsBox_0 rfl (lv_at hl 0 rfl) ?_
  refine gf_n (C := RX9) (T := TX9) (N := 15) (ci := 9) (q0 := 0) (v := .ref (rf 0)) hx hb hts (iU inlX9) hown hK hP rfl rfl 0 (by decide) (kU u_129) rfl rfl dX9_getsBox_1 ?_
  refine lv_iload_n hx hb dX9_getsBox_4 rfl (lv_at hl 1 rfl) ?_
  refine gp_S (c_X9_size l D cI cZ cF cL h ) (gUS u_275 u_276 u_5 u_277) rfl hdS_X9_size ⟨Nat.le_of_ble_eq_true rfl, Nat.le_of_ble_eq_true rfl⟩ ⟨rfl, rfl⟩ hx hb hml hown hts hK hA hP hD hS hl.1 ⟨Nat.le_of_ble_eq_true rfl, Nat.le_of_ble_eq_true rfl⟩ (wr := (mX mr rf st ln th pl hs vs dg xx ++ qX cI (rf 0) nH nV wk ea gi sw f1 f2 f3 f4 f5 f6 f7 f8)) (pm_cnt (fun _ => by simp only [List.countP_append, List.countP_nil, fT] <;> omega)) (fun _ => by simp only [List.map_append, List.map_nil, fX_m, bX_m, sX_m, pX_m, iaX_m, r5X_m, r6X_m, fT_m, hX_m, tX_m, xX_m, sgX_m, zaX_m, fsB_a, qX_m, mX_m]) (rest := [.ref (rf 0)]) rfl rfl (Nat.le_of_ble_eq_true rfl) dX9_getsBox_5 (ws2 := (fun _ : Unit => (mX mr rf st ln th pl hs vs dg xx ++ qX cI (rf 0) nH nV wk ea gi sw f1 f2 f3 f4 f5 f6 f7 f8))) (fun _ => (pm_cnt (fun _ => by simp only [List.countP_append, List.countP_nil, fT] <;> omega))) (fun _ Hp locs hP hD hS => ?_)
  refine lv_iconst (v := (nI 3)) hx hb dX9_getsBox_8 (by decide) ?_
  refine lv_iadd hx hb dX9_getsBox_9 ?_
  rw [nI_add (6 + 4 * h) 3]
  refine ia_n (q0 := 1) (t0 := 0) hx hb hK hP rfl rfl (by omega) (by decide) dX9_getsBox_10 ?_
  rw [qR_4 (by omega)]
  refine lv_if_ne (tgt := 33) hx hb dX9_getsBox_11 (by decide) (fun c_11 => ?_) (fun c_11 => ?_)
  · skip
    replace c_11 := cn_ne (b := 0) c_11
    refine lv_iconst (v := (nI 0)) hx hb dX9_getsBox_33 (by decide) ?_
    exact ct_z () hx hb hr hlocks hP hS (by first | exact z_t ⟨c_11, c_26⟩ | exact z_f (fun q => c_11 q.1) | exact z_f (fun q => Nat.not_le.mpr q.2 c_26)) dX9_getsBox_34
  · skip
    replace c_11 := cn_eq (b := 0) (b4 h hh) (by decide) c_11
    refine lv_aload_n hx hb dX9_getsBox_14 rfl (lv_at hl 0 rfl) ?_
    refine gf_n (C := RX9) (T := TX9) (N := 15) (ci := 9) (q0 := 0) (v := .ref (rf 0)) hx hb hts (iU inlX9) hown hK hP rfl rfl 0 (by decide) (kU u_129) rfl rfl dX9_getsBox_15 ?_
    refine lv_iload_n hx hb dX9_getsBox_18 rfl (lv_at hl 1 rfl) ?_
    refine gp_S (c_X9_size l D cI cZ cF cL h ) (gUS u_275 u_276 u_5 u_277) rfl hdS_X9_size ⟨Nat.le_of_ble_eq_true rfl, Nat.le_of_ble_eq_true rfl⟩ ⟨rfl, rfl⟩ hx hb hml hown hts hK hA hP hD hS hl.1 ⟨Nat.le_of_ble_eq_true rfl, Nat.le_of_ble_eq_true rfl⟩ (wr := (mX mr rf st ln th pl hs vs dg xx ++ qX cI (rf 0) nH nV wk ea gi sw f1 f2 f3 f4 f5 f6 f7 f8)) (pm_cnt (fun _ => by simp only [List.countP_append, List.countP_nil, fT] <;> omega)) (fun _ => by simp only [List.map_append, List.map_nil, fX_m, bX_m, sX_m, pX_m, iaX_m, r5X_m, r6X_m, fT_m, hX_m, tX_m, xX_m, sgX_m, zaX_m, fsB_a, qX_m, mX_m]) (rest := [.ref (rf 0)]) rfl rfl (Nat.le_of_ble_eq_true rfl) dX9_getsBox_19 (ws2 := (fun _ : Unit => (mX mr rf st ln th pl hs vs dg xx ++ qX cI (rf 0) nH nV wk ea gi sw f1 f2 f3 f4 f5 f6 f7 f8))) (fun _ => (pm_cnt (fun _ => by simp only [List.countP_append, List.countP_nil, fT] <;> omega))) (fun _ Hp locs hP hD hS => ?_)
    refine lv_iconst (v := (nI 1)) hx hb dX9_getsBox_22 (by decide) ?_
    refine lv_iadd hx hb dX9_getsBox_23 ?_
    rw [nI_add (6 + 4 * h) 1]
    refine ia_n (q0 := 1) (t0 := 0) hx hb hK hP rfl rfl (by omega) (by decide) dX9_getsBox_24 ?_
    rw [qR_2 (by omega)]
    refine lv_iconst (v := (nI 3)) hx hb dX9_getsBox_25 (by decide) ?_
    refine lv_icmp_ge (tgt := 33) hx hb dX9_getsBox_26 (by decide) (fun c_26 => ?_) (fun c_26 => ?_)
    · skip
      replace c_26 := cn_le (by have := b2 h hh; omega) (by have := b2 h hh; omega) c_26
      refine lv_iconst (v := (nI 0)) hx hb dX9_getsBox_33 (by decide) ?_
      exact ct_z () hx hb hr hlocks hP hS (by first | exact z_t ⟨c_11, c_26⟩ | exact z_f (fun q => c_11 q.1) | exact z_f (fun q => Nat.not_le.mpr q.2 c_26)) dX9_getsBox_34
    · skip
      replace c_26 := cn_nle (by have := b2 h hh; omega) (by have := b2 h hh; omega) c_26
      refine lv_iconst (v := (nI 1)) hx hb dX9_getsBox_29 (by decide) ?_
      refine lv_goto (tgt := 34) hx hb dX9_getsBox_30 (by decide) ?_
      exact ct_z () hx hb hr hlocks hP hS (by first | exact z_t ⟨c_11, c_26⟩ | exact z_f (fun q => c_11 q.1) | exact z_f (fun q => Nat.not_le.mpr q.2 c_26)) dX9_getsBox_34
set_option maxRecDepth 20000 in
theorem u_364 : Cond.code yX9_getsBox cX9_getsBox 2 (some .boolean) ∈ wsL_law := List.mem_of_getElem? (i := 364) (by decide +kernel)
set_option maxRecDepth 20000 in
theorem u_361 : Cond.methodLink RX9 50 yX9_getsBox ∈ wsL_law := List.mem_of_getElem? (i := 361) (by decide +kernel)
set_option maxRecDepth 20000 in
theorem u_362 : Cond.instanceMethod yX9_getsBox ∈ wsL_law := List.mem_of_getElem? (i := 362) (by decide +kernel)
set_option maxRecDepth 20000 in
theorem u_363 : Cond.selects RX9 yX9_getsBox yX9_getsBox ∈ wsL_law := List.mem_of_getElem? (i := 363) (by decide +kernel)
theorem hdV_X9_getsBox : yX9_getsBox.cls = RX9 ∧ yX9_getsBox.cls ≠ "java/lang/invoke/MethodHandle" ∧ yX9_getsBox.cls ≠ "java/lang/invoke/VarHandle" ∧ (parseMethodDescriptor yX9_getsBox.desc).map (fun d => d.parameters.length) = some 1 := by decide +kernel
set_option maxHeartbeats 4000000 in
set_option maxRecDepth 100000 in
theorem c_X9_boxes (l : Launch) (D : va_G) (cI cZ cF cL : ClassId) (mr : Nat) (rf : Nat → Nat) (st ln th pl hs vs : Nat) (dg : Int32) (xx : Int64) (nH nV wk ea gi sw : Nat) (f1 f2 f3 f4 f5 f6 f7 f8 : Nat → Nat) (hH : nH ≤ 6) (b2 : ∀ h, h < 6 → f2 h < 2 ^ 31) (b4 : ∀ h, h < 6 → f4 h < 2 ^ 31) : CT l D (tysX cI cZ cF cL) yX9_boxes (wA yX9_boxes cX9_boxes 3 (some .int)) (rmF 2 41) [.ref mr] (mX mr rf st ln th pl hs vs dg xx ++ qX cI (rf 0) nH nV wk ea gi sw f1 f2 f3 f4 f5 f6 f7 f8) (some (.int (nI (boxN f2 f4 nH)))) (fun _ : Unit => (mX mr rf st ln th pl hs vs dg xx ++ qX cI (rf 0) nH nV wk ea gi sw f1 f2 f3 f4 f5 f6 f7 f8)) := by
  refine ct_in (cc := cX9_boxes) (maxL := 3) (ret := (some .int)) (own := RX9) (lv := [(0, .ref mr)]) (by decide +kernel) rfl rfl (Nat.le_of_ble_eq_true rfl) rfl ?_
  intro p e s m args below meth c A ls hx hb hr hml hts hown hlocks hK hA hP hD hS hl
  refine lv_iconst (v := (nI 0)) hx hb dX9_boxes_0 (by decide) ?_
  refine lv_istore_n (lv' := [(1, .int (nI 0)), (0, .ref mr)]) hx hb dX9_boxes_1 rfl hl (by decide) rfl (fun ls hl => ?_)
  refine lv_iconst (v := (nI 0)) hx hb dX9_boxes_2 (by decide) ?_
  refine lv_istore_n (lv' := [(2, .int (nI 0)), (1, .int (nI 0)), (0, .ref mr)]) hx hb dX9_boxes_3 rfl hl (by decide) rfl (fun ls hl => ?_)
  have loop_4 : ∀ (dd : Nat) (i : Nat) (k : Nat), (i ≤ nH) → (k = cntN (fun h => decide (getsB f2 f4 h)) i) → (nH - i) < dd → ∀ (Hp : Heap) (locs : List Loc), va_P D vwCl (mX mr rf st ln th pl hs vs dg xx ++ qX cI (rf 0) nH nV wk ea gi sw f1 f2 f3 f4 f5 f6 f7 f8) Hp → va_D A (mX mr rf st ln th pl hs vs dg xx ++ qX cI (rf 0) nH nV wk ea gi sw f1 f2 f3 f4 f5 f6 f7 f8) → va_S A s.heap Hp locs → ∀ ls : Array Slot, lv_has ls 3 [(2, .int (nI i)), (1, .int (nI k)), (0, .ref mr)] → W p l e (rmF 2 41) s m args below meth c Hp locs 0 0 (MQ below (CQ D (some (.int (nI (boxN f2 f4 nH)))) (fun _ : Unit => (mX mr rf st ln th pl hs vs dg xx ++ qX cI (rf 0) nH nV wk ea gi sw f1 f2 f3 f4 f5 f6 f7 f8)) A) args s 0 0 A) (F0 m 4 ls []) := by
    intro dd
    induction dd with
    | zero => intro i k hi ek hm; exact absurd hm (Nat.not_lt_zero _)
    | succ dd ih_4 =>
      intro i k hi ek hm Hp locs hP hD hS ls hl
      refine lv_iload_n hx hb dX9_boxes_4 rfl (lv_at hl 0 rfl) ?_
      refine lv_aload_n hx hb dX9_boxes_5 rfl (lv_at hl 2 rfl) ?_
      refine gf_n (C := RX9) (T := TX9) (N := 15) (ci := 9) (q0 := 0) (v := .ref (rf 0)) hx hb hts (iU inlX9) hown hK hP rfl rfl 0 (by decide) (kU u_129) rfl rfl dX9_boxes_6 ?_
      refine lv_iconst (v := (nI 0)) hx hb dX9_boxes_9 (by decide) ?_
      refine ia_n (q0 := 1) (t0 := 0) hx hb hK hP rfl rfl (by omega) (by decide) dX9_boxes_10 ?_
      rw [show qN nH nV wk ea gi sw f1 f2 f3 f4 f5 f6 f7 f8 0 = nH from rfl]
      refine lv_icmp_ge (tgt := 36) hx hb dX9_boxes_11 (by decide) (fun c_11 => ?_) (fun c_11 => ?_)
      · skip
        replace c_11 := cn_le (by omega) (by omega) c_11
        refine lv_iload_n hx hb dX9_boxes_36 rfl (lv_at hl 1 rfl) ?_
        exact ct_i () hx hb hr hlocks hP hS (by rw [ek, show i = nH by omega]; rfl) dX9_boxes_37
      · skip
        replace c_11 := cn_nle (by omega) (by omega) c_11
        refine lv_iload_n hx hb dX9_boxes_14 rfl (lv_at hl 1 rfl) ?_
        refine lv_aload_n hx hb dX9_boxes_15 rfl (lv_at hl 2 rfl) ?_
        refine lv_iload_n hx hb dX9_boxes_16 rfl (lv_at hl 0 rfl) ?_
        refine gp_V (ci := 9) (q0 := 0) (cq := (RX9, TX9, 15)) (c_X9_getsBox l D cI cZ cF cL mr rf st ln th pl hs vs dg xx nH nV wk ea gi sw f1 f2 f3 f4 f5 f6 f7 f8 i (by omega) b2 b4) (gUV u_361 u_362 u_363 u_5 u_364) rfl hdV_X9_getsBox ⟨Nat.le_of_ble_eq_true rfl, Nat.le_of_ble_eq_true rfl⟩ ⟨rfl, rfl⟩ hx hb hml hown hts hK hA hP hD hS hl.1 ⟨Nat.le_of_ble_eq_true rfl, Nat.le_of_ble_eq_true rfl⟩ rfl rfl rfl (wr := ([] : va_W)) (pm_cnt (fun _ => by simp only [List.countP_append, List.countP_nil, fT] <;> omega)) (fun _ => by simp only [List.map_append, List.map_nil, fX_m, bX_m, sX_m, pX_m, iaX_m, r5X_m, r6X_m, fT_m, hX_m, tX_m, xX_m, sgX_m, zaX_m, fsB_a, qX_m, mX_m]) (rest := [.int (nI k)]) rfl rfl (Nat.le_of_ble_eq_true rfl) dX9_boxes_17 (ws2 := (fun _ : Unit => (mX mr rf st ln th pl hs vs dg xx ++ qX cI (rf 0) nH nV wk ea gi sw f1 f2 f3 f4 f5 f6 f7 f8))) (fun _ => (pm_cnt (fun _ => by simp only [List.countP_append, List.countP_nil, fT] <;> omega))) (fun _ Hp locs hP hD hS => ?_)
        refine lv_if_eq (tgt := 27) hx hb dX9_boxes_20 (by decide) (fun c_20 => ?_) (fun c_20 => ?_)
        · skip
          replace c_20 := cb_z c_20
          refine lv_iconst (v := (nI 0)) hx hb dX9_boxes_27 (by decide) ?_
          refine lv_iadd hx hb dX9_boxes_28 ?_
          rw [nI_add k 0]
          refine lv_istore_n (lv' := [(1, .int (nI (k + 0))), (2, .int (nI i)), (0, .ref mr)]) hx hb dX9_boxes_29 rfl hl (by decide) rfl (fun ls hl => ?_)
          refine lv_iinc (v := (nI (i + 1))) (lv' := [(2, .int (nI (i + 1))), (1, .int (nI (k + 0))), (0, .ref mr)]) hx hb dX9_boxes_30 hl (k := 1) rfl (nI_add i 1) (by decide) rfl (fun ls hl => ?_)
          refine lv_goto (tgt := 4) hx hb dX9_boxes_33 (by decide) ?_
          exact ih_4 (i + 1) (k + 0) (by omega) (by rw [ek, cntN]; simp [c_20]) (by omega) _ _ hP hD hS _ (lv_sub hl [0, 1, 2] rfl)
        · skip
          replace c_20 := cb_nz c_20
          refine lv_iconst (v := (nI 1)) hx hb dX9_boxes_23 (by decide) ?_
          refine lv_goto (tgt := 28) hx hb dX9_boxes_24 (by decide) ?_
          refine lv_iadd hx hb dX9_boxes_28 ?_
          rw [nI_add k 1]
          refine lv_istore_n (lv' := [(1, .int (nI (k + 1))), (2, .int (nI i)), (0, .ref mr)]) hx hb dX9_boxes_29 rfl hl (by decide) rfl (fun ls hl => ?_)
          refine lv_iinc (v := (nI (i + 1))) (lv' := [(2, .int (nI (i + 1))), (1, .int (nI (k + 1))), (0, .ref mr)]) hx hb dX9_boxes_30 hl (k := 1) rfl (nI_add i 1) (by decide) rfl (fun ls hl => ?_)
          refine lv_goto (tgt := 4) hx hb dX9_boxes_33 (by decide) ?_
          exact ih_4 (i + 1) (k + 1) (by omega) (by rw [ek, cntN]; simp [c_20]) (by omega) _ _ hP hD hS _ (lv_sub hl [0, 1, 2] rfl)
  exact loop_4 ((nH - 0) + 1) 0 0 (by omega) rfl (Nat.lt_succ_self _) _ _ hP hD hS _ (lv_sub hl [0, 1, 2] rfl)
set_option maxHeartbeats 4000000 in
set_option maxRecDepth 100000 in
theorem c_X9_partOf (l : Launch) (D : va_G) (cI cZ cF cL : ClassId) (mr : Nat) (rf : Nat → Nat) (st ln th pl hs vs : Nat) (dg : Int32) (xx : Int64) (nH nV wk ea gi sw : Nat) (f1 f2 f3 f4 f5 f6 f7 f8 : Nat → Nat) (h : Nat) (hh : h < 6) (b3 : ∀ h, h < 6 → f3 h < 2 ^ 31) (b2 : ∀ h, h < 6 → f2 h < 2 ^ 31) (b4 : ∀ h, h < 6 → f4 h < 2 ^ 31) : CT l D (tysX cI cZ cF cL) yX9_partOf (wA yX9_partOf cX9_partOf 2 (some .int)) (rmF 2 41) [.ref mr, .int (nI h)] (mX mr rf st ln th pl hs vs dg xx ++ qX cI (rf 0) nH nV wk ea gi sw f1 f2 f3 f4 f5 f6 f7 f8) (some (.int (nI (partN f1 f2 f3 f4 h)))) (fun _ : Unit => (mX mr rf st ln th pl hs vs dg xx ++ qX cI (rf 0) nH nV wk ea gi sw f1 f2 f3 f4 f5 f6 f7 f8)) := by
  refine ct_in (cc := cX9_partOf) (maxL := 2) (ret := (some .int)) (own := RX9) (lv := [(0, .ref mr), (1, .int (nI h))]) (by decide +kernel) rfl rfl (Nat.le_of_ble_eq_true rfl) rfl ?_
  intro p e s m args below meth c A ls hx hb hr hml hts hown hlocks hK hA hP hD hS hl
  refine lv_aload_n hx hb dX9_partOf_0 rfl (lv_at hl 0 rfl) ?_
  refine lv_iload_n hx hb dX9_partOf_1 rfl (lv_at hl 1 rfl) ?_
  refine gp_V (ci := 9) (q0 := 0) (cq := (RX9, TX9, 15)) (c_X9_getsBox l D cI cZ cF cL mr rf st ln th pl hs vs dg xx nH nV wk ea gi sw f1 f2 f3 f4 f5 f6 f7 f8 h (by omega) b2 b4) (gUV u_361 u_362 u_363 u_5 u_364) rfl hdV_X9_getsBox ⟨Nat.le_of_ble_eq_true rfl, Nat.le_of_ble_eq_true rfl⟩ ⟨rfl, rfl⟩ hx hb hml hown hts hK hA hP hD hS hl.1 ⟨Nat.le_of_ble_eq_true rfl, Nat.le_of_ble_eq_true rfl⟩ rfl rfl rfl (wr := ([] : va_W)) (pm_cnt (fun _ => by simp only [List.countP_append, List.countP_nil, fT] <;> omega)) (fun _ => by simp only [List.map_append, List.map_nil, fX_m, bX_m, sX_m, pX_m, iaX_m, r5X_m, r6X_m, fT_m, hX_m, tX_m, xX_m, sgX_m, zaX_m, fsB_a, qX_m, mX_m]) (rest := []) rfl rfl (Nat.le_of_ble_eq_true rfl) dX9_partOf_2 (ws2 := (fun _ : Unit => (mX mr rf st ln th pl hs vs dg xx ++ qX cI (rf 0) nH nV wk ea gi sw f1 f2 f3 f4 f5 f6 f7 f8))) (fun _ => (pm_cnt (fun _ => by simp only [List.countP_append, List.countP_nil, fT] <;> omega))) (fun _ Hp locs hP hD hS => ?_)
  refine lv_if_ne (tgt := 12) hx hb dX9_partOf_5 (by decide) (fun c_5 => ?_) (fun c_5 => ?_)
  · skip
    replace c_5 := cb_nz c_5
    refine lv_aload_n hx hb dX9_partOf_12 rfl (lv_at hl 0 rfl) ?_
    refine gf_n (C := RX9) (T := TX9) (N := 15) (ci := 9) (q0 := 0) (v := .ref (rf 0)) hx hb hts (iU inlX9) hown hK hP rfl rfl 0 (by decide) (kU u_129) rfl rfl dX9_partOf_13 ?_
    refine lv_iload_n hx hb dX9_partOf_16 rfl (lv_at hl 1 rfl) ?_
    refine gp_S (c_X9_size l D cI cZ cF cL h ) (gUS u_275 u_276 u_5 u_277) rfl hdS_X9_size ⟨Nat.le_of_ble_eq_true rfl, Nat.le_of_ble_eq_true rfl⟩ ⟨rfl, rfl⟩ hx hb hml hown hts hK hA hP hD hS hl.1 ⟨Nat.le_of_ble_eq_true rfl, Nat.le_of_ble_eq_true rfl⟩ (wr := (mX mr rf st ln th pl hs vs dg xx ++ qX cI (rf 0) nH nV wk ea gi sw f1 f2 f3 f4 f5 f6 f7 f8)) (pm_cnt (fun _ => by simp only [List.countP_append, List.countP_nil, fT] <;> omega)) (fun _ => by simp only [List.map_append, List.map_nil, fX_m, bX_m, sX_m, pX_m, iaX_m, r5X_m, r6X_m, fT_m, hX_m, tX_m, xX_m, sgX_m, zaX_m, fsB_a, qX_m, mX_m]) (rest := [.ref (rf 0)]) rfl rfl (Nat.le_of_ble_eq_true rfl) dX9_partOf_17 (ws2 := (fun _ : Unit => (mX mr rf st ln th pl hs vs dg xx ++ qX cI (rf 0) nH nV wk ea gi sw f1 f2 f3 f4 f5 f6 f7 f8))) (fun _ => (pm_cnt (fun _ => by simp only [List.countP_append, List.countP_nil, fT] <;> omega))) (fun _ Hp locs hP hD hS => ?_)
    refine lv_iconst (v := (nI 2)) hx hb dX9_partOf_20 (by decide) ?_
    refine lv_iadd hx hb dX9_partOf_21 ?_
    rw [nI_add (6 + 4 * h) 2]
    refine ia_n (q0 := 1) (t0 := 0) hx hb hK hP rfl rfl (by omega) (by decide) dX9_partOf_22 ?_
    rw [qR_3 (by omega)]
    refine lv_if_le (tgt := 40) hx hb dX9_partOf_23 (by decide) (fun c_23 => ?_) (fun c_23 => ?_)
    · skip
      replace c_23 := cn_le (b := 0) (b3 h hh) (by decide) c_23
      refine lv_aload_n hx hb dX9_partOf_40 rfl (lv_at hl 0 rfl) ?_
      refine gf_n (C := RX9) (T := TX9) (N := 15) (ci := 9) (q0 := 0) (v := .ref (rf 0)) hx hb hts (iU inlX9) hown hK hP rfl rfl 0 (by decide) (kU u_129) rfl rfl dX9_partOf_41 ?_
      refine lv_iload_n hx hb dX9_partOf_44 rfl (lv_at hl 1 rfl) ?_
      refine gp_S (c_X9_size l D cI cZ cF cL h ) (gUS u_275 u_276 u_5 u_277) rfl hdS_X9_size ⟨Nat.le_of_ble_eq_true rfl, Nat.le_of_ble_eq_true rfl⟩ ⟨rfl, rfl⟩ hx hb hml hown hts hK hA hP hD hS hl.1 ⟨Nat.le_of_ble_eq_true rfl, Nat.le_of_ble_eq_true rfl⟩ (wr := (mX mr rf st ln th pl hs vs dg xx ++ qX cI (rf 0) nH nV wk ea gi sw f1 f2 f3 f4 f5 f6 f7 f8)) (pm_cnt (fun _ => by simp only [List.countP_append, List.countP_nil, fT] <;> omega)) (fun _ => by simp only [List.map_append, List.map_nil, fX_m, bX_m, sX_m, pX_m, iaX_m, r5X_m, r6X_m, fT_m, hX_m, tX_m, xX_m, sgX_m, zaX_m, fsB_a, qX_m, mX_m]) (rest := [.ref (rf 0)]) rfl rfl (Nat.le_of_ble_eq_true rfl) dX9_partOf_45 (ws2 := (fun _ : Unit => (mX mr rf st ln th pl hs vs dg xx ++ qX cI (rf 0) nH nV wk ea gi sw f1 f2 f3 f4 f5 f6 f7 f8))) (fun _ => (pm_cnt (fun _ => by simp only [List.countP_append, List.countP_nil, fT] <;> omega))) (fun _ Hp locs hP hD hS => ?_)
      refine ia_n (q0 := 1) (t0 := 0) hx hb hK hP rfl rfl (by omega) (by decide) dX9_partOf_48 ?_
      rw [qR_1 (by omega)]
      exact ct_i () hx hb hr hlocks hP hS (by first | (unfold partN; rw [if_neg c_5]) | (unfold partN; rw [if_pos c_5, if_pos c_23]) | (unfold partN; rw [if_pos c_5, if_neg (by omega), Nat.add_zero])) dX9_partOf_49
    · skip
      replace c_23 := cn_nle (b := 0) (b3 h hh) (by decide) c_23
      refine lv_aload_n hx hb dX9_partOf_26 rfl (lv_at hl 0 rfl) ?_
      refine gf_n (C := RX9) (T := TX9) (N := 15) (ci := 9) (q0 := 0) (v := .ref (rf 0)) hx hb hts (iU inlX9) hown hK hP rfl rfl 0 (by decide) (kU u_129) rfl rfl dX9_partOf_27 ?_
      refine lv_iload_n hx hb dX9_partOf_30 rfl (lv_at hl 1 rfl) ?_
      refine gp_S (c_X9_size l D cI cZ cF cL h ) (gUS u_275 u_276 u_5 u_277) rfl hdS_X9_size ⟨Nat.le_of_ble_eq_true rfl, Nat.le_of_ble_eq_true rfl⟩ ⟨rfl, rfl⟩ hx hb hml hown hts hK hA hP hD hS hl.1 ⟨Nat.le_of_ble_eq_true rfl, Nat.le_of_ble_eq_true rfl⟩ (wr := (mX mr rf st ln th pl hs vs dg xx ++ qX cI (rf 0) nH nV wk ea gi sw f1 f2 f3 f4 f5 f6 f7 f8)) (pm_cnt (fun _ => by simp only [List.countP_append, List.countP_nil, fT] <;> omega)) (fun _ => by simp only [List.map_append, List.map_nil, fX_m, bX_m, sX_m, pX_m, iaX_m, r5X_m, r6X_m, fT_m, hX_m, tX_m, xX_m, sgX_m, zaX_m, fsB_a, qX_m, mX_m]) (rest := [.ref (rf 0)]) rfl rfl (Nat.le_of_ble_eq_true rfl) dX9_partOf_31 (ws2 := (fun _ : Unit => (mX mr rf st ln th pl hs vs dg xx ++ qX cI (rf 0) nH nV wk ea gi sw f1 f2 f3 f4 f5 f6 f7 f8))) (fun _ => (pm_cnt (fun _ => by simp only [List.countP_append, List.countP_nil, fT] <;> omega))) (fun _ Hp locs hP hD hS => ?_)
      refine ia_n (q0 := 1) (t0 := 0) hx hb hK hP rfl rfl (by omega) (by decide) dX9_partOf_34 ?_
      rw [qR_1 (by omega)]
      refine lv_iconst (v := (nI 1)) hx hb dX9_partOf_35 (by decide) ?_
      refine lv_iadd hx hb dX9_partOf_36 ?_
      rw [nI_add (f1 h) 1]
      refine lv_goto (tgt := 49) hx hb dX9_partOf_37 (by decide) ?_
      exact ct_i () hx hb hr hlocks hP hS (by first | (unfold partN; rw [if_neg c_5]) | (unfold partN; rw [if_pos c_5, if_pos c_23]) | (unfold partN; rw [if_pos c_5, if_neg (by omega), Nat.add_zero])) dX9_partOf_49
  · skip
    replace c_5 := cb_z c_5
    refine lv_iconst (v := (nI 0)) hx hb dX9_partOf_8 (by decide) ?_
    refine lv_goto (tgt := 49) hx hb dX9_partOf_9 (by decide) ?_
    exact ct_i () hx hb hr hlocks hP hS (by first | (unfold partN; rw [if_neg c_5]) | (unfold partN; rw [if_pos c_5, if_pos c_23]) | (unfold partN; rw [if_pos c_5, if_neg (by omega), Nat.add_zero])) dX9_partOf_49
set_option maxRecDepth 20000 in
theorem u_283 : Cond.code yX9_like cX9_like 2 (some .int) ∈ wsL_law := List.mem_of_getElem? (i := 283) (by decide +kernel)
set_option maxRecDepth 20000 in
theorem u_281 : Cond.methodLink RX9 54 yX9_like ∈ wsL_law := List.mem_of_getElem? (i := 281) (by decide +kernel)
set_option maxRecDepth 20000 in
theorem u_282 : Cond.static yX9_like ∈ wsL_law := List.mem_of_getElem? (i := 282) (by decide +kernel)
set_option maxRecDepth 20000 in
theorem u_356 : Cond.code yX9_kilos cX9_kilos 2 (some .int) ∈ wsL_law := List.mem_of_getElem? (i := 356) (by decide +kernel)
set_option maxRecDepth 20000 in
theorem u_354 : Cond.methodLink RX9 64 yX9_kilos ∈ wsL_law := List.mem_of_getElem? (i := 354) (by decide +kernel)
set_option maxRecDepth 20000 in
theorem u_355 : Cond.static yX9_kilos ∈ wsL_law := List.mem_of_getElem? (i := 355) (by decide +kernel)
theorem hdS_X9_like : yX9_like.cls ≠ "java/lang/invoke/MethodHandle" ∧ yX9_like.cls ≠ "java/lang/invoke/VarHandle" ∧ (parseMethodDescriptor yX9_like.desc).map (fun d => d.parameters.length) = some 2 := by decide +kernel
theorem hdS_X9_kilos : yX9_kilos.cls ≠ "java/lang/invoke/MethodHandle" ∧ yX9_kilos.cls ≠ "java/lang/invoke/VarHandle" ∧ (parseMethodDescriptor yX9_kilos.desc).map (fun d => d.parameters.length) = some 2 := by decide +kernel
set_option maxHeartbeats 4000000 in
set_option maxRecDepth 100000 in
theorem c_X9_happiness (l : Launch) (D : va_G) (cI cZ cF cL : ClassId) (mr : Nat) (rf : Nat → Nat) (st ln th pl hs vs : Nat) (dg : Int32) (xx : Int64) (nH nV wk ea gi sw : Nat) (f1 f2 f3 f4 f5 f6 f7 f8 : Nat → Nat) (h : Nat) (hh : h < 6) (hV : nV ≤ 5) : CT l D (tysX cI cZ cF cL) yX9_happiness (wA yX9_happiness cX9_happiness 4 (some .int)) (rmF 1 21) [.ref mr, .int (nI h)] (mX mr rf st ln th pl hs vs dg xx ++ qX cI (rf 0) nH nV wk ea gi sw f1 f2 f3 f4 f5 f6 f7 f8) (some (.int (nI (hap f7 f8 nV h)))) (fun _ : Unit => (mX mr rf st ln th pl hs vs dg xx ++ qX cI (rf 0) nH nV wk ea gi sw f1 f2 f3 f4 f5 f6 f7 f8)) := by
  refine ct_in (cc := cX9_happiness) (maxL := 4) (ret := (some .int)) (own := RX9) (lv := [(0, .ref mr), (1, .int (nI h))]) (by decide +kernel) rfl rfl (Nat.le_of_ble_eq_true rfl) rfl ?_
  intro p e s m args below meth c A ls hx hb hr hml hts hown hlocks hK hA hP hD hS hl
  refine lv_iconst (v := (nI 0)) hx hb dX9_happiness_0 (by decide) ?_
  refine lv_istore_n (lv' := [(2, .int (nI 0)), (0, .ref mr), (1, .int (nI h))]) hx hb dX9_happiness_1 rfl hl (by decide) rfl (fun ls hl => ?_)
  refine lv_iconst (v := (nI 0)) hx hb dX9_happiness_2 (by decide) ?_
  refine lv_istore_n (lv' := [(3, .int (nI 0)), (2, .int (nI 0)), (0, .ref mr), (1, .int (nI h))]) hx hb dX9_happiness_3 rfl hl (by decide) rfl (fun ls hl => ?_)
  have loop_4 : ∀ (dd : Nat) (i : Nat) (k : Nat), (i ≤ nV) → (k = sumN (fun v => f7 (h * 5 + v) * f8 (h * 5 + v)) i) → (nV - i) < dd → ∀ (Hp : Heap) (locs : List Loc), va_P D vwCl (mX mr rf st ln th pl hs vs dg xx ++ qX cI (rf 0) nH nV wk ea gi sw f1 f2 f3 f4 f5 f6 f7 f8) Hp → va_D A (mX mr rf st ln th pl hs vs dg xx ++ qX cI (rf 0) nH nV wk ea gi sw f1 f2 f3 f4 f5 f6 f7 f8) → va_S A s.heap Hp locs → ∀ ls : Array Slot, lv_has ls 4 [(3, .int (nI i)), (2, .int (nI k)), (0, .ref mr), (1, .int (nI h))] → W p l e (rmF 1 21) s m args below meth c Hp locs 0 0 (MQ below (CQ D (some (.int (nI (hap f7 f8 nV h)))) (fun _ : Unit => (mX mr rf st ln th pl hs vs dg xx ++ qX cI (rf 0) nH nV wk ea gi sw f1 f2 f3 f4 f5 f6 f7 f8)) A) args s 0 0 A) (F0 m 4 ls []) := by
    intro dd
    induction dd with
    | zero => intro i k hi ek hm; exact absurd hm (Nat.not_lt_zero _)
    | succ dd ih_4 =>
      intro i k hi ek hm Hp locs hP hD hS ls hl
      refine lv_iload_n hx hb dX9_happiness_4 rfl (lv_at hl 0 rfl) ?_
      refine lv_aload_n hx hb dX9_happiness_5 rfl (lv_at hl 2 rfl) ?_
      refine gf_n (C := RX9) (T := TX9) (N := 15) (ci := 9) (q0 := 0) (v := .ref (rf 0)) hx hb hts (iU inlX9) hown hK hP rfl rfl 0 (by decide) (kU u_129) rfl rfl dX9_happiness_6 ?_
      refine lv_iconst (v := (nI 1)) hx hb dX9_happiness_9 (by decide) ?_
      refine ia_n (q0 := 1) (t0 := 0) hx hb hK hP rfl rfl (by omega) (by decide) dX9_happiness_10 ?_
      rw [show qN nH nV wk ea gi sw f1 f2 f3 f4 f5 f6 f7 f8 1 = nV from rfl]
      refine lv_icmp_ge (tgt := 44) hx hb dX9_happiness_11 (by decide) (fun c_11 => ?_) (fun c_11 => ?_)
      · skip
        replace c_11 := cn_le (by omega) (by omega) c_11
        refine lv_iload_n hx hb dX9_happiness_44 rfl (lv_at hl 1 rfl) ?_
        exact ct_i () hx hb hr hlocks hP hS (by rw [ek, show i = nV by omega]; rfl) dX9_happiness_45
      · skip
        replace c_11 := cn_nle (by omega) (by omega) c_11
        refine lv_iload_n hx hb dX9_happiness_14 rfl (lv_at hl 1 rfl) ?_
        refine lv_aload_n hx hb dX9_happiness_15 rfl (lv_at hl 2 rfl) ?_
        refine gf_n (C := RX9) (T := TX9) (N := 15) (ci := 9) (q0 := 0) (v := .ref (rf 0)) hx hb hts (iU inlX9) hown hK hP rfl rfl 0 (by decide) (kU u_129) rfl rfl dX9_happiness_16 ?_
        refine lv_iload_n hx hb dX9_happiness_19 rfl (lv_at hl 3 rfl) ?_
        refine lv_iload_n hx hb dX9_happiness_20 rfl (lv_at hl 0 rfl) ?_
        refine gp_S (c_X9_like l D cI cZ cF cL h i ) (gUS u_281 u_282 u_5 u_283) rfl hdS_X9_like ⟨Nat.le_of_ble_eq_true rfl, Nat.le_of_ble_eq_true rfl⟩ ⟨rfl, rfl⟩ hx hb hml hown hts hK hA hP hD hS hl.1 ⟨Nat.le_of_ble_eq_true rfl, Nat.le_of_ble_eq_true rfl⟩ (wr := (mX mr rf st ln th pl hs vs dg xx ++ qX cI (rf 0) nH nV wk ea gi sw f1 f2 f3 f4 f5 f6 f7 f8)) (pm_cnt (fun _ => by simp only [List.countP_append, List.countP_nil, fT] <;> omega)) (fun _ => by simp only [List.map_append, List.map_nil, fX_m, bX_m, sX_m, pX_m, iaX_m, r5X_m, r6X_m, fT_m, hX_m, tX_m, xX_m, sgX_m, zaX_m, fsB_a, qX_m, mX_m]) (rest := [.ref (rf 0), .int (nI k)]) rfl rfl (Nat.le_of_ble_eq_true rfl) dX9_happiness_21 (ws2 := (fun _ : Unit => (mX mr rf st ln th pl hs vs dg xx ++ qX cI (rf 0) nH nV wk ea gi sw f1 f2 f3 f4 f5 f6 f7 f8))) (fun _ => (pm_cnt (fun _ => by simp only [List.countP_append, List.countP_nil, fT] <;> omega))) (fun _ Hp locs hP hD hS => ?_)
        refine ia_n (q0 := 1) (t0 := 0) hx hb hK hP rfl rfl (by omega) (by decide) dX9_happiness_24 ?_
        rw [qR_7 (by omega) (by omega)]
        refine lv_aload_n hx hb dX9_happiness_25 rfl (lv_at hl 2 rfl) ?_
        refine gf_n (C := RX9) (T := TX9) (N := 15) (ci := 9) (q0 := 0) (v := .ref (rf 0)) hx hb hts (iU inlX9) hown hK hP rfl rfl 0 (by decide) (kU u_129) rfl rfl dX9_happiness_26 ?_
        refine lv_iload_n hx hb dX9_happiness_29 rfl (lv_at hl 3 rfl) ?_
        refine lv_iload_n hx hb dX9_happiness_30 rfl (lv_at hl 0 rfl) ?_
        refine gp_S (c_X9_kilos l D cI cZ cF cL h i ) (gUS u_354 u_355 u_5 u_356) rfl hdS_X9_kilos ⟨Nat.le_of_ble_eq_true rfl, Nat.le_of_ble_eq_true rfl⟩ ⟨rfl, rfl⟩ hx hb hml hown hts hK hA hP hD hS hl.1 ⟨Nat.le_of_ble_eq_true rfl, Nat.le_of_ble_eq_true rfl⟩ (wr := (mX mr rf st ln th pl hs vs dg xx ++ qX cI (rf 0) nH nV wk ea gi sw f1 f2 f3 f4 f5 f6 f7 f8)) (pm_cnt (fun _ => by simp only [List.countP_append, List.countP_nil, fT] <;> omega)) (fun _ => by simp only [List.map_append, List.map_nil, fX_m, bX_m, sX_m, pX_m, iaX_m, r5X_m, r6X_m, fT_m, hX_m, tX_m, xX_m, sgX_m, zaX_m, fsB_a, qX_m, mX_m]) (rest := [.ref (rf 0), .int (nI (f7 (h * 5 + i))), .int (nI k)]) rfl rfl (Nat.le_of_ble_eq_true rfl) dX9_happiness_31 (ws2 := (fun _ : Unit => (mX mr rf st ln th pl hs vs dg xx ++ qX cI (rf 0) nH nV wk ea gi sw f1 f2 f3 f4 f5 f6 f7 f8))) (fun _ => (pm_cnt (fun _ => by simp only [List.countP_append, List.countP_nil, fT] <;> omega))) (fun _ Hp locs hP hD hS => ?_)
        refine ia_n (q0 := 1) (t0 := 0) hx hb hK hP rfl rfl (by omega) (by decide) dX9_happiness_34 ?_
        rw [qR_8 (by omega) (by omega)]
        refine lv_imul hx hb dX9_happiness_35 ?_
        rw [pk_mul (f7 (h * 5 + i)) (f8 (h * 5 + i))]
        refine lv_iadd hx hb dX9_happiness_36 ?_
        rw [nI_add k ((f7 (h * 5 + i)) * (f8 (h * 5 + i)))]
        refine lv_istore_n (lv' := [(2, .int (nI (k + ((f7 (h * 5 + i)) * (f8 (h * 5 + i)))))), (3, .int (nI i)), (0, .ref mr), (1, .int (nI h))]) hx hb dX9_happiness_37 rfl hl (by decide) rfl (fun ls hl => ?_)
        refine lv_iinc (v := (nI (i + 1))) (lv' := [(3, .int (nI (i + 1))), (2, .int (nI (k + ((f7 (h * 5 + i)) * (f8 (h * 5 + i)))))), (0, .ref mr), (1, .int (nI h))]) hx hb dX9_happiness_38 hl (k := 1) rfl (nI_add i 1) (by decide) rfl (fun ls hl => ?_)
        refine lv_goto (tgt := 4) hx hb dX9_happiness_41 (by decide) ?_
        exact ih_4 (i + 1) (k + ((f7 (h * 5 + i)) * (f8 (h * 5 + i)))) (by omega) (by rw [ek, sumN_s]) (by omega) _ _ hP hD hS _ (lv_sub hl [0, 1, 2, 3] rfl)
  exact loop_4 ((nV - 0) + 1) 0 0 (by omega) rfl (Nat.lt_succ_self _) _ _ hP hD hS _ (lv_sub hl [0, 1, 2, 3] rfl)
set_option maxHeartbeats 4000000 in
set_option maxRecDepth 100000 in
theorem c_X9_ofHouse (l : Launch) (D : va_G) (cI cZ cF cL : ClassId) (mr : Nat) (rf : Nat → Nat) (st ln th pl hs vs : Nat) (dg : Int32) (xx : Int64) (nH nV wk ea gi sw : Nat) (f1 f2 f3 f4 f5 f6 f7 f8 : Nat → Nat) (h : Nat) (hh : h < 6) (hV : nV ≤ 5) : CT l D (tysX cI cZ cF cL) yX9_ofHouse (wA yX9_ofHouse cX9_ofHouse 4 (some .int)) (rmF 1 21) [.ref mr, .int (nI h)] (mX mr rf st ln th pl hs vs dg xx ++ qX cI (rf 0) nH nV wk ea gi sw f1 f2 f3 f4 f5 f6 f7 f8) (some (.int (nI (kilH f8 nV h)))) (fun _ : Unit => (mX mr rf st ln th pl hs vs dg xx ++ qX cI (rf 0) nH nV wk ea gi sw f1 f2 f3 f4 f5 f6 f7 f8)) := by
  refine ct_in (cc := cX9_ofHouse) (maxL := 4) (ret := (some .int)) (own := RX9) (lv := [(0, .ref mr), (1, .int (nI h))]) (by decide +kernel) rfl rfl (Nat.le_of_ble_eq_true rfl) rfl ?_
  intro p e s m args below meth c A ls hx hb hr hml hts hown hlocks hK hA hP hD hS hl
  refine lv_iconst (v := (nI 0)) hx hb dX9_ofHouse_0 (by decide) ?_
  refine lv_istore_n (lv' := [(2, .int (nI 0)), (0, .ref mr), (1, .int (nI h))]) hx hb dX9_ofHouse_1 rfl hl (by decide) rfl (fun ls hl => ?_)
  refine lv_iconst (v := (nI 0)) hx hb dX9_ofHouse_2 (by decide) ?_
  refine lv_istore_n (lv' := [(3, .int (nI 0)), (2, .int (nI 0)), (0, .ref mr), (1, .int (nI h))]) hx hb dX9_ofHouse_3 rfl hl (by decide) rfl (fun ls hl => ?_)
  have loop_4 : ∀ (dd : Nat) (i : Nat) (k : Nat), (i ≤ nV) → (k = sumN (fun v => f8 (h * 5 + v)) i) → (nV - i) < dd → ∀ (Hp : Heap) (locs : List Loc), va_P D vwCl (mX mr rf st ln th pl hs vs dg xx ++ qX cI (rf 0) nH nV wk ea gi sw f1 f2 f3 f4 f5 f6 f7 f8) Hp → va_D A (mX mr rf st ln th pl hs vs dg xx ++ qX cI (rf 0) nH nV wk ea gi sw f1 f2 f3 f4 f5 f6 f7 f8) → va_S A s.heap Hp locs → ∀ ls : Array Slot, lv_has ls 4 [(3, .int (nI i)), (2, .int (nI k)), (0, .ref mr), (1, .int (nI h))] → W p l e (rmF 1 21) s m args below meth c Hp locs 0 0 (MQ below (CQ D (some (.int (nI (kilH f8 nV h)))) (fun _ : Unit => (mX mr rf st ln th pl hs vs dg xx ++ qX cI (rf 0) nH nV wk ea gi sw f1 f2 f3 f4 f5 f6 f7 f8)) A) args s 0 0 A) (F0 m 4 ls []) := by
    intro dd
    induction dd with
    | zero => intro i k hi ek hm; exact absurd hm (Nat.not_lt_zero _)
    | succ dd ih_4 =>
      intro i k hi ek hm Hp locs hP hD hS ls hl
      refine lv_iload_n hx hb dX9_ofHouse_4 rfl (lv_at hl 0 rfl) ?_
      refine lv_aload_n hx hb dX9_ofHouse_5 rfl (lv_at hl 2 rfl) ?_
      refine gf_n (C := RX9) (T := TX9) (N := 15) (ci := 9) (q0 := 0) (v := .ref (rf 0)) hx hb hts (iU inlX9) hown hK hP rfl rfl 0 (by decide) (kU u_129) rfl rfl dX9_ofHouse_6 ?_
      refine lv_iconst (v := (nI 1)) hx hb dX9_ofHouse_9 (by decide) ?_
      refine ia_n (q0 := 1) (t0 := 0) hx hb hK hP rfl rfl (by omega) (by decide) dX9_ofHouse_10 ?_
      rw [show qN nH nV wk ea gi sw f1 f2 f3 f4 f5 f6 f7 f8 1 = nV from rfl]
      refine lv_icmp_ge (tgt := 33) hx hb dX9_ofHouse_11 (by decide) (fun c_11 => ?_) (fun c_11 => ?_)
      · skip
        replace c_11 := cn_le (by omega) (by omega) c_11
        refine lv_iload_n hx hb dX9_ofHouse_33 rfl (lv_at hl 1 rfl) ?_
        exact ct_i () hx hb hr hlocks hP hS (by rw [ek, show i = nV by omega]; rfl) dX9_ofHouse_34
      · skip
        replace c_11 := cn_nle (by omega) (by omega) c_11
        refine lv_iload_n hx hb dX9_ofHouse_14 rfl (lv_at hl 1 rfl) ?_
        refine lv_aload_n hx hb dX9_ofHouse_15 rfl (lv_at hl 2 rfl) ?_
        refine gf_n (C := RX9) (T := TX9) (N := 15) (ci := 9) (q0 := 0) (v := .ref (rf 0)) hx hb hts (iU inlX9) hown hK hP rfl rfl 0 (by decide) (kU u_129) rfl rfl dX9_ofHouse_16 ?_
        refine lv_iload_n hx hb dX9_ofHouse_19 rfl (lv_at hl 3 rfl) ?_
        refine lv_iload_n hx hb dX9_ofHouse_20 rfl (lv_at hl 0 rfl) ?_
        refine gp_S (c_X9_kilos l D cI cZ cF cL h i ) (gUS u_354 u_355 u_5 u_356) rfl hdS_X9_kilos ⟨Nat.le_of_ble_eq_true rfl, Nat.le_of_ble_eq_true rfl⟩ ⟨rfl, rfl⟩ hx hb hml hown hts hK hA hP hD hS hl.1 ⟨Nat.le_of_ble_eq_true rfl, Nat.le_of_ble_eq_true rfl⟩ (wr := (mX mr rf st ln th pl hs vs dg xx ++ qX cI (rf 0) nH nV wk ea gi sw f1 f2 f3 f4 f5 f6 f7 f8)) (pm_cnt (fun _ => by simp only [List.countP_append, List.countP_nil, fT] <;> omega)) (fun _ => by simp only [List.map_append, List.map_nil, fX_m, bX_m, sX_m, pX_m, iaX_m, r5X_m, r6X_m, fT_m, hX_m, tX_m, xX_m, sgX_m, zaX_m, fsB_a, qX_m, mX_m]) (rest := [.ref (rf 0), .int (nI k)]) rfl rfl (Nat.le_of_ble_eq_true rfl) dX9_ofHouse_21 (ws2 := (fun _ : Unit => (mX mr rf st ln th pl hs vs dg xx ++ qX cI (rf 0) nH nV wk ea gi sw f1 f2 f3 f4 f5 f6 f7 f8))) (fun _ => (pm_cnt (fun _ => by simp only [List.countP_append, List.countP_nil, fT] <;> omega))) (fun _ Hp locs hP hD hS => ?_)
        refine ia_n (q0 := 1) (t0 := 0) hx hb hK hP rfl rfl (by omega) (by decide) dX9_ofHouse_24 ?_
        rw [qR_8 (by omega) (by omega)]
        refine lv_iadd hx hb dX9_ofHouse_25 ?_
        rw [nI_add k (f8 (h * 5 + i))]
        refine lv_istore_n (lv' := [(2, .int (nI (k + (f8 (h * 5 + i))))), (3, .int (nI i)), (0, .ref mr), (1, .int (nI h))]) hx hb dX9_ofHouse_26 rfl hl (by decide) rfl (fun ls hl => ?_)
        refine lv_iinc (v := (nI (i + 1))) (lv' := [(3, .int (nI (i + 1))), (2, .int (nI (k + (f8 (h * 5 + i))))), (0, .ref mr), (1, .int (nI h))]) hx hb dX9_ofHouse_27 hl (k := 1) rfl (nI_add i 1) (by decide) rfl (fun ls hl => ?_)
        refine lv_goto (tgt := 4) hx hb dX9_ofHouse_30 (by decide) ?_
        exact ih_4 (i + 1) (k + (f8 (h * 5 + i))) (by omega) (by rw [ek, sumN_s]) (by omega) _ _ hP hD hS _ (lv_sub hl [0, 1, 2, 3] rfl)
  exact loop_4 ((nV - 0) + 1) 0 0 (by omega) rfl (Nat.lt_succ_self _) _ _ hP hD hS _ (lv_sub hl [0, 1, 2, 3] rfl)
set_option maxHeartbeats 4000000 in
set_option maxRecDepth 100000 in
theorem c_X9_ofVegetable (l : Launch) (D : va_G) (cI cZ cF cL : ClassId) (mr : Nat) (rf : Nat → Nat) (st ln th pl hs vs : Nat) (dg : Int32) (xx : Int64) (nH nV wk ea gi sw : Nat) (f1 f2 f3 f4 f5 f6 f7 f8 : Nat → Nat) (v : Nat) (hv : v < 5) (hH : nH ≤ 6) : CT l D (tysX cI cZ cF cL) yX9_ofVegetable (wA yX9_ofVegetable cX9_ofVegetable 4 (some .int)) (rmF 1 21) [.ref mr, .int (nI v)] (mX mr rf st ln th pl hs vs dg xx ++ qX cI (rf 0) nH nV wk ea gi sw f1 f2 f3 f4 f5 f6 f7 f8) (some (.int (nI (kilV f8 nH v)))) (fun _ : Unit => (mX mr rf st ln th pl hs vs dg xx ++ qX cI (rf 0) nH nV wk ea gi sw f1 f2 f3 f4 f5 f6 f7 f8)) := by
  refine ct_in (cc := cX9_ofVegetable) (maxL := 4) (ret := (some .int)) (own := RX9) (lv := [(0, .ref mr), (1, .int (nI v))]) (by decide +kernel) rfl rfl (Nat.le_of_ble_eq_true rfl) rfl ?_
  intro p e s m args below meth c A ls hx hb hr hml hts hown hlocks hK hA hP hD hS hl
  refine lv_iconst (v := (nI 0)) hx hb dX9_ofVegetable_0 (by decide) ?_
  refine lv_istore_n (lv' := [(2, .int (nI 0)), (0, .ref mr), (1, .int (nI v))]) hx hb dX9_ofVegetable_1 rfl hl (by decide) rfl (fun ls hl => ?_)
  refine lv_iconst (v := (nI 0)) hx hb dX9_ofVegetable_2 (by decide) ?_
  refine lv_istore_n (lv' := [(3, .int (nI 0)), (2, .int (nI 0)), (0, .ref mr), (1, .int (nI v))]) hx hb dX9_ofVegetable_3 rfl hl (by decide) rfl (fun ls hl => ?_)
  have loop_4 : ∀ (dd : Nat) (i : Nat) (k : Nat), (i ≤ nH) → (k = sumN (fun h => f8 (h * 5 + v)) i) → (nH - i) < dd → ∀ (Hp : Heap) (locs : List Loc), va_P D vwCl (mX mr rf st ln th pl hs vs dg xx ++ qX cI (rf 0) nH nV wk ea gi sw f1 f2 f3 f4 f5 f6 f7 f8) Hp → va_D A (mX mr rf st ln th pl hs vs dg xx ++ qX cI (rf 0) nH nV wk ea gi sw f1 f2 f3 f4 f5 f6 f7 f8) → va_S A s.heap Hp locs → ∀ ls : Array Slot, lv_has ls 4 [(3, .int (nI i)), (2, .int (nI k)), (0, .ref mr), (1, .int (nI v))] → W p l e (rmF 1 21) s m args below meth c Hp locs 0 0 (MQ below (CQ D (some (.int (nI (kilV f8 nH v)))) (fun _ : Unit => (mX mr rf st ln th pl hs vs dg xx ++ qX cI (rf 0) nH nV wk ea gi sw f1 f2 f3 f4 f5 f6 f7 f8)) A) args s 0 0 A) (F0 m 4 ls []) := by
    intro dd
    induction dd with
    | zero => intro i k hi ek hm; exact absurd hm (Nat.not_lt_zero _)
    | succ dd ih_4 =>
      intro i k hi ek hm Hp locs hP hD hS ls hl
      refine lv_iload_n hx hb dX9_ofVegetable_4 rfl (lv_at hl 0 rfl) ?_
      refine lv_aload_n hx hb dX9_ofVegetable_5 rfl (lv_at hl 2 rfl) ?_
      refine gf_n (C := RX9) (T := TX9) (N := 15) (ci := 9) (q0 := 0) (v := .ref (rf 0)) hx hb hts (iU inlX9) hown hK hP rfl rfl 0 (by decide) (kU u_129) rfl rfl dX9_ofVegetable_6 ?_
      refine lv_iconst (v := (nI 0)) hx hb dX9_ofVegetable_9 (by decide) ?_
      refine ia_n (q0 := 1) (t0 := 0) hx hb hK hP rfl rfl (by omega) (by decide) dX9_ofVegetable_10 ?_
      rw [show qN nH nV wk ea gi sw f1 f2 f3 f4 f5 f6 f7 f8 0 = nH from rfl]
      refine lv_icmp_ge (tgt := 33) hx hb dX9_ofVegetable_11 (by decide) (fun c_11 => ?_) (fun c_11 => ?_)
      · skip
        replace c_11 := cn_le (by omega) (by omega) c_11
        refine lv_iload_n hx hb dX9_ofVegetable_33 rfl (lv_at hl 1 rfl) ?_
        exact ct_i () hx hb hr hlocks hP hS (by rw [ek, show i = nH by omega]; rfl) dX9_ofVegetable_34
      · skip
        replace c_11 := cn_nle (by omega) (by omega) c_11
        refine lv_iload_n hx hb dX9_ofVegetable_14 rfl (lv_at hl 1 rfl) ?_
        refine lv_aload_n hx hb dX9_ofVegetable_15 rfl (lv_at hl 2 rfl) ?_
        refine gf_n (C := RX9) (T := TX9) (N := 15) (ci := 9) (q0 := 0) (v := .ref (rf 0)) hx hb hts (iU inlX9) hown hK hP rfl rfl 0 (by decide) (kU u_129) rfl rfl dX9_ofVegetable_16 ?_
        refine lv_iload_n hx hb dX9_ofVegetable_19 rfl (lv_at hl 0 rfl) ?_
        refine lv_iload_n hx hb dX9_ofVegetable_20 rfl (lv_at hl 3 rfl) ?_
        refine gp_S (c_X9_kilos l D cI cZ cF cL i v ) (gUS u_354 u_355 u_5 u_356) rfl hdS_X9_kilos ⟨Nat.le_of_ble_eq_true rfl, Nat.le_of_ble_eq_true rfl⟩ ⟨rfl, rfl⟩ hx hb hml hown hts hK hA hP hD hS hl.1 ⟨Nat.le_of_ble_eq_true rfl, Nat.le_of_ble_eq_true rfl⟩ (wr := (mX mr rf st ln th pl hs vs dg xx ++ qX cI (rf 0) nH nV wk ea gi sw f1 f2 f3 f4 f5 f6 f7 f8)) (pm_cnt (fun _ => by simp only [List.countP_append, List.countP_nil, fT] <;> omega)) (fun _ => by simp only [List.map_append, List.map_nil, fX_m, bX_m, sX_m, pX_m, iaX_m, r5X_m, r6X_m, fT_m, hX_m, tX_m, xX_m, sgX_m, zaX_m, fsB_a, qX_m, mX_m]) (rest := [.ref (rf 0), .int (nI k)]) rfl rfl (Nat.le_of_ble_eq_true rfl) dX9_ofVegetable_21 (ws2 := (fun _ : Unit => (mX mr rf st ln th pl hs vs dg xx ++ qX cI (rf 0) nH nV wk ea gi sw f1 f2 f3 f4 f5 f6 f7 f8))) (fun _ => (pm_cnt (fun _ => by simp only [List.countP_append, List.countP_nil, fT] <;> omega))) (fun _ Hp locs hP hD hS => ?_)
        refine ia_n (q0 := 1) (t0 := 0) hx hb hK hP rfl rfl (by omega) (by decide) dX9_ofVegetable_24 ?_
        rw [qR_8 (by omega) (by omega)]
        refine lv_iadd hx hb dX9_ofVegetable_25 ?_
        rw [nI_add k (f8 (i * 5 + v))]
        refine lv_istore_n (lv' := [(2, .int (nI (k + (f8 (i * 5 + v))))), (3, .int (nI i)), (0, .ref mr), (1, .int (nI v))]) hx hb dX9_ofVegetable_26 rfl hl (by decide) rfl (fun ls hl => ?_)
        refine lv_iinc (v := (nI (i + 1))) (lv' := [(3, .int (nI (i + 1))), (2, .int (nI (k + (f8 (i * 5 + v))))), (0, .ref mr), (1, .int (nI v))]) hx hb dX9_ofVegetable_27 hl (k := 1) rfl (nI_add i 1) (by decide) rfl (fun ls hl => ?_)
        refine lv_goto (tgt := 4) hx hb dX9_ofVegetable_30 (by decide) ?_
        exact ih_4 (i + 1) (k + (f8 (i * 5 + v))) (by omega) (by rw [ek, sumN_s]) (by omega) _ _ hP hD hS _ (lv_sub hl [0, 1, 2, 3] rfl)
  exact loop_4 ((nH - 0) + 1) 0 0 (by omega) rfl (Nat.lt_succ_self _) _ _ hP hD hS _ (lv_sub hl [0, 1, 2, 3] rfl)
def hapB (f7 f8 : Nat → Nat) (nV : Nat) (one : Int32) (n : Nat) : Nat := sumN (fun h => if nI h = one then 0 else hap f7 f8 nV h) n
set_option maxRecDepth 20000 in
theorem u_404 : Cond.code yX9_happiness cX9_happiness 4 (some .int) ∈ wsL_law := List.mem_of_getElem? (i := 404) (by decide +kernel)
set_option maxRecDepth 20000 in
theorem u_401 : Cond.methodLink RX9 88 yX9_happiness ∈ wsL_law := List.mem_of_getElem? (i := 401) (by decide +kernel)
set_option maxRecDepth 20000 in
theorem u_402 : Cond.instanceMethod yX9_happiness ∈ wsL_law := List.mem_of_getElem? (i := 402) (by decide +kernel)
set_option maxRecDepth 20000 in
theorem u_403 : Cond.selects RX9 yX9_happiness yX9_happiness ∈ wsL_law := List.mem_of_getElem? (i := 403) (by decide +kernel)
theorem hdV_X9_happiness : yX9_happiness.cls = RX9 ∧ yX9_happiness.cls ≠ "java/lang/invoke/MethodHandle" ∧ yX9_happiness.cls ≠ "java/lang/invoke/VarHandle" ∧ (parseMethodDescriptor yX9_happiness.desc).map (fun d => d.parameters.length) = some 1 := by decide +kernel
set_option maxHeartbeats 4000000 in
set_option maxRecDepth 100000 in
theorem c_X9_happinessBut (l : Launch) (D : va_G) (cI cZ cF cL : ClassId) (mr : Nat) (rf : Nat → Nat) (st ln th pl hs vs : Nat) (dg : Int32) (xx : Int64) (nH nV wk ea gi sw : Nat) (f1 f2 f3 f4 f5 f6 f7 f8 : Nat → Nat) (one : Int32) (hH : nH ≤ 6) (hV : nV ≤ 5) : CT l D (tysX cI cZ cF cL) yX9_happinessBut (wA yX9_happinessBut cX9_happinessBut 4 (some .int)) (rmF 2 44) [.ref mr, .int one] (mX mr rf st ln th pl hs vs dg xx ++ qX cI (rf 0) nH nV wk ea gi sw f1 f2 f3 f4 f5 f6 f7 f8) (some (.int (nI (hapB f7 f8 nV one nH)))) (fun _ : Unit => (mX mr rf st ln th pl hs vs dg xx ++ qX cI (rf 0) nH nV wk ea gi sw f1 f2 f3 f4 f5 f6 f7 f8)) := by
  refine ct_in (cc := cX9_happinessBut) (maxL := 4) (ret := (some .int)) (own := RX9) (lv := [(0, .ref mr), (1, .int one)]) (by decide +kernel) rfl rfl (Nat.le_of_ble_eq_true rfl) rfl ?_
  intro p e s m args below meth c A ls hx hb hr hml hts hown hlocks hK hA hP hD hS hl
  refine lv_iconst (v := (nI 0)) hx hb dX9_happinessBut_0 (by decide) ?_
  refine lv_istore_n (lv' := [(2, .int (nI 0)), (0, .ref mr), (1, .int one)]) hx hb dX9_happinessBut_1 rfl hl (by decide) rfl (fun ls hl => ?_)
  refine lv_iconst (v := (nI 0)) hx hb dX9_happinessBut_2 (by decide) ?_
  refine lv_istore_n (lv' := [(3, .int (nI 0)), (2, .int (nI 0)), (0, .ref mr), (1, .int one)]) hx hb dX9_happinessBut_3 rfl hl (by decide) rfl (fun ls hl => ?_)
  have loop_4 : ∀ (dd : Nat) (i : Nat) (k : Nat), (i ≤ nH) → (k = hapB f7 f8 nV one i) → (nH - i) < dd → ∀ (Hp : Heap) (locs : List Loc), va_P D vwCl (mX mr rf st ln th pl hs vs dg xx ++ qX cI (rf 0) nH nV wk ea gi sw f1 f2 f3 f4 f5 f6 f7 f8) Hp → va_D A (mX mr rf st ln th pl hs vs dg xx ++ qX cI (rf 0) nH nV wk ea gi sw f1 f2 f3 f4 f5 f6 f7 f8) → va_S A s.heap Hp locs → ∀ ls : Array Slot, lv_has ls 4 [(3, .int (nI i)), (2, .int (nI k)), (0, .ref mr), (1, .int one)] → W p l e (rmF 2 44) s m args below meth c Hp locs 0 0 (MQ below (CQ D (some (.int (nI (hapB f7 f8 nV one nH)))) (fun _ : Unit => (mX mr rf st ln th pl hs vs dg xx ++ qX cI (rf 0) nH nV wk ea gi sw f1 f2 f3 f4 f5 f6 f7 f8)) A) args s 0 0 A) (F0 m 4 ls []) := by
    intro dd
    induction dd with
    | zero => intro i k hi ek hm; exact absurd hm (Nat.not_lt_zero _)
    | succ dd ih_4 =>
      intro i k hi ek hm Hp locs hP hD hS ls hl
      refine lv_iload_n hx hb dX9_happinessBut_4 rfl (lv_at hl 0 rfl) ?_
      refine lv_aload_n hx hb dX9_happinessBut_5 rfl (lv_at hl 2 rfl) ?_
      refine gf_n (C := RX9) (T := TX9) (N := 15) (ci := 9) (q0 := 0) (v := .ref (rf 0)) hx hb hts (iU inlX9) hown hK hP rfl rfl 0 (by decide) (kU u_129) rfl rfl dX9_happinessBut_6 ?_
      refine lv_iconst (v := (nI 0)) hx hb dX9_happinessBut_9 (by decide) ?_
      refine ia_n (q0 := 1) (t0 := 0) hx hb hK hP rfl rfl (by omega) (by decide) dX9_happinessBut_10 ?_
      rw [show qN nH nV wk ea gi sw f1 f2 f3 f4 f5 f6 f7 f8 0 = nH from rfl]
      refine lv_icmp_ge (tgt := 37) hx hb dX9_happinessBut_11 (by decide) (fun c_11 => ?_) (fun c_11 => ?_)
      · skip
        replace c_11 := cn_le (by omega) (by omega) c_11
        refine lv_iload_n hx hb dX9_happinessBut_37 rfl (lv_at hl 1 rfl) ?_
        exact ct_i () hx hb hr hlocks hP hS (by rw [ek, show i = nH by omega]) dX9_happinessBut_38
      · skip
        replace c_11 := cn_nle (by omega) (by omega) c_11
        refine lv_iload_n hx hb dX9_happinessBut_14 rfl (lv_at hl 1 rfl) ?_
        refine lv_iload_n hx hb dX9_happinessBut_15 rfl (lv_at hl 0 rfl) ?_
        refine lv_iload_n hx hb dX9_happinessBut_16 rfl (lv_at hl 3 rfl) ?_
        refine lv_icmp_ne (tgt := 24) hx hb dX9_happinessBut_17 (by decide) (fun c_17 => ?_) (fun c_17 => ?_)
        · skip
          refine lv_aload_n hx hb dX9_happinessBut_24 rfl (lv_at hl 2 rfl) ?_
          refine lv_iload_n hx hb dX9_happinessBut_25 rfl (lv_at hl 0 rfl) ?_
          refine gp_V (ci := 9) (q0 := 0) (cq := (RX9, TX9, 15)) (c_X9_happiness l D cI cZ cF cL mr rf st ln th pl hs vs dg xx nH nV wk ea gi sw f1 f2 f3 f4 f5 f6 f7 f8 i (by omega) (by omega)) (gUV u_401 u_402 u_403 u_5 u_404) rfl hdV_X9_happiness ⟨Nat.le_of_ble_eq_true rfl, Nat.le_of_ble_eq_true rfl⟩ ⟨rfl, rfl⟩ hx hb hml hown hts hK hA hP hD hS hl.1 ⟨Nat.le_of_ble_eq_true rfl, Nat.le_of_ble_eq_true rfl⟩ rfl rfl rfl (wr := ([] : va_W)) (pm_cnt (fun _ => by simp only [List.countP_append, List.countP_nil, fT] <;> omega)) (fun _ => by simp only [List.map_append, List.map_nil, fX_m, bX_m, sX_m, pX_m, iaX_m, r5X_m, r6X_m, fT_m, hX_m, tX_m, xX_m, sgX_m, zaX_m, fsB_a, qX_m, mX_m]) (rest := [.int (nI k)]) rfl rfl (Nat.le_of_ble_eq_true rfl) dX9_happinessBut_26 (ws2 := (fun _ : Unit => (mX mr rf st ln th pl hs vs dg xx ++ qX cI (rf 0) nH nV wk ea gi sw f1 f2 f3 f4 f5 f6 f7 f8))) (fun _ => (pm_cnt (fun _ => by simp only [List.countP_append, List.countP_nil, fT] <;> omega))) (fun _ Hp locs hP hD hS => ?_)
          refine lv_iadd hx hb dX9_happinessBut_29 ?_
          rw [nI_add k (hap f7 f8 nV i)]
          refine lv_istore_n (lv' := [(2, .int (nI (k + (hap f7 f8 nV i)))), (3, .int (nI i)), (0, .ref mr), (1, .int one)]) hx hb dX9_happinessBut_30 rfl hl (by decide) rfl (fun ls hl => ?_)
          refine lv_iinc (v := (nI (i + 1))) (lv' := [(3, .int (nI (i + 1))), (2, .int (nI (k + (hap f7 f8 nV i)))), (0, .ref mr), (1, .int one)]) hx hb dX9_happinessBut_31 hl (k := 1) rfl (nI_add i 1) (by decide) rfl (fun ls hl => ?_)
          refine lv_goto (tgt := 4) hx hb dX9_happinessBut_34 (by decide) ?_
          exact ih_4 (i + 1) (k + (hap f7 f8 nV i)) (by omega) (by first | (rw [ek]; unfold hapB; rw [sumN_s]; congr 1; exact (if_pos c_17).symm) | (rw [ek]; unfold hapB; rw [sumN_s]; congr 1; exact (if_neg c_17).symm)) (by omega) _ _ hP hD hS _ (lv_sub hl [0, 1, 2, 3] rfl)
        · skip
          refine lv_iconst (v := (nI 0)) hx hb dX9_happinessBut_20 (by decide) ?_
          refine lv_goto (tgt := 29) hx hb dX9_happinessBut_21 (by decide) ?_
          refine lv_iadd hx hb dX9_happinessBut_29 ?_
          rw [nI_add k 0]
          refine lv_istore_n (lv' := [(2, .int (nI (k + 0))), (3, .int (nI i)), (0, .ref mr), (1, .int one)]) hx hb dX9_happinessBut_30 rfl hl (by decide) rfl (fun ls hl => ?_)
          refine lv_iinc (v := (nI (i + 1))) (lv' := [(3, .int (nI (i + 1))), (2, .int (nI (k + 0))), (0, .ref mr), (1, .int one)]) hx hb dX9_happinessBut_31 hl (k := 1) rfl (nI_add i 1) (by decide) rfl (fun ls hl => ?_)
          refine lv_goto (tgt := 4) hx hb dX9_happinessBut_34 (by decide) ?_
          exact ih_4 (i + 1) (k + 0) (by omega) (by first | (rw [ek]; unfold hapB; rw [sumN_s]; congr 1; exact (if_pos c_17).symm) | (rw [ek]; unfold hapB; rw [sumN_s]; congr 1; exact (if_neg c_17).symm)) (by omega) _ _ hP hD hS _ (lv_sub hl [0, 1, 2, 3] rfl)
  exact loop_4 ((nH - 0) + 1) 0 0 (by omega) rfl (Nat.lt_succ_self _) _ _ hP hD hS _ (lv_sub hl [0, 1, 2, 3] rfl)
set_option maxRecDepth 20000 in
theorem u_280 : Cond.code yX9_harvest cX9_harvest 1 (some .int) ∈ wsL_law := List.mem_of_getElem? (i := 280) (by decide +kernel)
set_option maxRecDepth 20000 in
theorem u_278 : Cond.methodLink RX9 61 yX9_harvest ∈ wsL_law := List.mem_of_getElem? (i := 278) (by decide +kernel)
set_option maxRecDepth 20000 in
theorem u_279 : Cond.static yX9_harvest ∈ wsL_law := List.mem_of_getElem? (i := 279) (by decide +kernel)
theorem hdS_X9_harvest : yX9_harvest.cls ≠ "java/lang/invoke/MethodHandle" ∧ yX9_harvest.cls ≠ "java/lang/invoke/VarHandle" ∧ (parseMethodDescriptor yX9_harvest.desc).map (fun d => d.parameters.length) = some 1 := by decide +kernel
set_option maxHeartbeats 4000000 in
set_option maxRecDepth 100000 in
theorem c_X9_compost (l : Launch) (D : va_G) (cI cZ cF cL : ClassId) (mr : Nat) (rf : Nat → Nat) (st ln th pl hs vs : Nat) (dg : Int32) (xx : Int64) (nH nV wk ea gi sw : Nat) (f1 f2 f3 f4 f5 f6 f7 f8 : Nat → Nat) (hV : nV ≤ 5) : CT l D (tysX cI cZ cF cL) yX9_compost (wA yX9_compost cX9_compost 3 (some .int)) (rmF 1 20) [.ref mr] (mX mr rf st ln th pl hs vs dg xx ++ qX cI (rf 0) nH nV wk ea gi sw f1 f2 f3 f4 f5 f6 f7 f8) (some (.int (nI (sumN f6 nV)))) (fun _ : Unit => (mX mr rf st ln th pl hs vs dg xx ++ qX cI (rf 0) nH nV wk ea gi sw f1 f2 f3 f4 f5 f6 f7 f8)) := by
  refine ct_in (cc := cX9_compost) (maxL := 3) (ret := (some .int)) (own := RX9) (lv := [(0, .ref mr)]) (by decide +kernel) rfl rfl (Nat.le_of_ble_eq_true rfl) rfl ?_
  intro p e s m args below meth c A ls hx hb hr hml hts hown hlocks hK hA hP hD hS hl
  refine lv_iconst (v := (nI 0)) hx hb dX9_compost_0 (by decide) ?_
  refine lv_istore_n (lv' := [(1, .int (nI 0)), (0, .ref mr)]) hx hb dX9_compost_1 rfl hl (by decide) rfl (fun ls hl => ?_)
  refine lv_iconst (v := (nI 0)) hx hb dX9_compost_2 (by decide) ?_
  refine lv_istore_n (lv' := [(2, .int (nI 0)), (1, .int (nI 0)), (0, .ref mr)]) hx hb dX9_compost_3 rfl hl (by decide) rfl (fun ls hl => ?_)
  have loop_4 : ∀ (dd : Nat) (i : Nat) (k : Nat), (i ≤ nV) → (k = sumN (f6) i) → (nV - i) < dd → ∀ (Hp : Heap) (locs : List Loc), va_P D vwCl (mX mr rf st ln th pl hs vs dg xx ++ qX cI (rf 0) nH nV wk ea gi sw f1 f2 f3 f4 f5 f6 f7 f8) Hp → va_D A (mX mr rf st ln th pl hs vs dg xx ++ qX cI (rf 0) nH nV wk ea gi sw f1 f2 f3 f4 f5 f6 f7 f8) → va_S A s.heap Hp locs → ∀ ls : Array Slot, lv_has ls 3 [(2, .int (nI i)), (1, .int (nI k)), (0, .ref mr)] → W p l e (rmF 1 20) s m args below meth c Hp locs 0 0 (MQ below (CQ D (some (.int (nI (sumN f6 nV)))) (fun _ : Unit => (mX mr rf st ln th pl hs vs dg xx ++ qX cI (rf 0) nH nV wk ea gi sw f1 f2 f3 f4 f5 f6 f7 f8)) A) args s 0 0 A) (F0 m 4 ls []) := by
    intro dd
    induction dd with
    | zero => intro i k hi ek hm; exact absurd hm (Nat.not_lt_zero _)
    | succ dd ih_4 =>
      intro i k hi ek hm Hp locs hP hD hS ls hl
      refine lv_iload_n hx hb dX9_compost_4 rfl (lv_at hl 0 rfl) ?_
      refine lv_aload_n hx hb dX9_compost_5 rfl (lv_at hl 2 rfl) ?_
      refine gf_n (C := RX9) (T := TX9) (N := 15) (ci := 9) (q0 := 0) (v := .ref (rf 0)) hx hb hts (iU inlX9) hown hK hP rfl rfl 0 (by decide) (kU u_129) rfl rfl dX9_compost_6 ?_
      refine lv_iconst (v := (nI 1)) hx hb dX9_compost_9 (by decide) ?_
      refine ia_n (q0 := 1) (t0 := 0) hx hb hK hP rfl rfl (by omega) (by decide) dX9_compost_10 ?_
      rw [show qN nH nV wk ea gi sw f1 f2 f3 f4 f5 f6 f7 f8 1 = nV from rfl]
      refine lv_icmp_ge (tgt := 34) hx hb dX9_compost_11 (by decide) (fun c_11 => ?_) (fun c_11 => ?_)
      · skip
        replace c_11 := cn_le (by omega) (by omega) c_11
        refine lv_iload_n hx hb dX9_compost_34 rfl (lv_at hl 1 rfl) ?_
        exact ct_i () hx hb hr hlocks hP hS (by rw [ek, show i = nV by omega]) dX9_compost_35
      · skip
        replace c_11 := cn_nle (by omega) (by omega) c_11
        refine lv_iload_n hx hb dX9_compost_14 rfl (lv_at hl 1 rfl) ?_
        refine lv_aload_n hx hb dX9_compost_15 rfl (lv_at hl 2 rfl) ?_
        refine gf_n (C := RX9) (T := TX9) (N := 15) (ci := 9) (q0 := 0) (v := .ref (rf 0)) hx hb hts (iU inlX9) hown hK hP rfl rfl 0 (by decide) (kU u_129) rfl rfl dX9_compost_16 ?_
        refine lv_iload_n hx hb dX9_compost_19 rfl (lv_at hl 0 rfl) ?_
        refine gp_S (c_X9_harvest l D cI cZ cF cL i ) (gUS u_278 u_279 u_5 u_280) rfl hdS_X9_harvest ⟨Nat.le_of_ble_eq_true rfl, Nat.le_of_ble_eq_true rfl⟩ ⟨rfl, rfl⟩ hx hb hml hown hts hK hA hP hD hS hl.1 ⟨Nat.le_of_ble_eq_true rfl, Nat.le_of_ble_eq_true rfl⟩ (wr := (mX mr rf st ln th pl hs vs dg xx ++ qX cI (rf 0) nH nV wk ea gi sw f1 f2 f3 f4 f5 f6 f7 f8)) (pm_cnt (fun _ => by simp only [List.countP_append, List.countP_nil, fT] <;> omega)) (fun _ => by simp only [List.map_append, List.map_nil, fX_m, bX_m, sX_m, pX_m, iaX_m, r5X_m, r6X_m, fT_m, hX_m, tX_m, xX_m, sgX_m, zaX_m, fsB_a, qX_m, mX_m]) (rest := [.ref (rf 0), .int (nI k)]) rfl rfl (Nat.le_of_ble_eq_true rfl) dX9_compost_20 (ws2 := (fun _ : Unit => (mX mr rf st ln th pl hs vs dg xx ++ qX cI (rf 0) nH nV wk ea gi sw f1 f2 f3 f4 f5 f6 f7 f8))) (fun _ => (pm_cnt (fun _ => by simp only [List.countP_append, List.countP_nil, fT] <;> omega))) (fun _ Hp locs hP hD hS => ?_)
        refine lv_iconst (v := (nI 1)) hx hb dX9_compost_23 (by decide) ?_
        refine lv_iadd hx hb dX9_compost_24 ?_
        rw [nI_add (30 + 2 * i) 1]
        refine ia_n (q0 := 1) (t0 := 0) hx hb hK hP rfl rfl (by omega) (by decide) dX9_compost_25 ?_
        rw [qR_6 (by omega)]
        refine lv_iadd hx hb dX9_compost_26 ?_
        rw [nI_add k (f6 i)]
        refine lv_istore_n (lv' := [(1, .int (nI (k + (f6 i)))), (2, .int (nI i)), (0, .ref mr)]) hx hb dX9_compost_27 rfl hl (by decide) rfl (fun ls hl => ?_)
        refine lv_iinc (v := (nI (i + 1))) (lv' := [(2, .int (nI (i + 1))), (1, .int (nI (k + (f6 i)))), (0, .ref mr)]) hx hb dX9_compost_28 hl (k := 1) rfl (nI_add i 1) (by decide) rfl (fun ls hl => ?_)
        refine lv_goto (tgt := 4) hx hb dX9_compost_31 (by decide) ?_
        exact ih_4 (i + 1) (k + (f6 i)) (by omega) (by rw [ek, sumN_s]) (by omega) _ _ hP hD hS _ (lv_sub hl [0, 1, 2] rfl)
  exact loop_4 ((nV - 0) + 1) 0 0 (by omega) rfl (Nat.lt_succ_self _) _ _ hP hD hS _ (lv_sub hl [0, 1, 2] rfl)
set_option maxRecDepth 20000 in
theorem u_910 : Cond.fieldLink RX9 165 "HarvestBoxesModel" "x" "J" ∈ wsL_law := List.mem_of_getElem? (i := 910) (by decide +kernel)
set_option maxRecDepth 20000 in
theorem u_919 : Cond.constantLong RX9 169 (6364136223846793005) ∈ wsL_law := List.mem_of_getElem? (i := 919) (by decide +kernel)
set_option maxRecDepth 20000 in
theorem u_920 : Cond.constantLong RX9 171 (1442695040888963407) ∈ wsL_law := List.mem_of_getElem? (i := 920) (by decide +kernel)
set_option maxHeartbeats 4000000 in
set_option maxRecDepth 100000 in
theorem c_X9_draws (l : Launch) (D : va_G) (cI cZ cF cL : ClassId) (mr : Nat) (rf : Nat → Nat) (st ln th pl hs vs : Nat) (dg : Int32) (xx : Int64)  : CT l D (tysX cI cZ cF cL) yX9_draws (wA yX9_draws cX9_draws 1 (some .int)) (rmF 0 0) [.ref mr] (mX mr rf st ln th pl hs vs dg xx) (some (.int (nI (drR (drX xx))))) (fun _ : Unit => (mX mr rf st ln th pl hs vs dg (drX xx))) := by
  refine ct_in (cc := cX9_draws) (maxL := 1) (ret := (some .int)) (own := RX9) (lv := [(0, .ref mr)]) (by decide +kernel) rfl rfl (Nat.le_of_ble_eq_true rfl) rfl ?_
  intro p e s m args below meth c A ls hx hb hr hml hts hown hlocks hK hA hP hD hS hl
  refine lv_aload_n hx hb dX9_draws_0 rfl (lv_at hl 0 rfl) ?_
  refine lv_aload_n hx hb dX9_draws_1 rfl (lv_at hl 0 rfl) ?_
  refine gf_n (C := RX9) (T := TX9) (N := 15) (ci := 9) (q0 := 0) (v := .long xx) hx hb hts (iU inlX9) hown hK hP rfl rfl 14 (by decide) (kU u_910) rfl rfl dX9_draws_2 ?_
  refine lv_ldc2 (v := (6364136223846793005)) hx hb hown (hts _ (kU u_919)) dX9_draws_5 ?_
  refine lv_lmul hx hb dX9_draws_8 ?_
  refine lv_ldc2 (v := (1442695040888963407)) hx hb hown (hts _ (kU u_920)) dX9_draws_9 ?_
  refine lv_ladd hx hb dX9_draws_12 ?_
  refine pf_n (C := RX9) (T := TX9) (N := 15) (ci := 9) (q0 := 0) (ty := .long) (v := .long ((xx * ((6364136223846793005))) + ((1442695040888963407)))) (ws2 := (mX mr rf st ln th pl hs vs dg ((xx * ((6364136223846793005))) + ((1442695040888963407))))) hx hb hts (iU inlX9) tyX9 tyX9_ok nmX9 hown hK hP hD hS rfl rfl 14 (by decide) (kU u_910) rfl rfl (tyX9_ok 14 (by decide)) rfl rfl (Nat.le_of_ble_eq_true rfl) dX9_draws_13 rfl (fun Hp locs hP hD hS => ?_)
  refine lv_aload_n hx hb dX9_draws_16 rfl (lv_at hl 0 rfl) ?_
  refine gf_n (C := RX9) (T := TX9) (N := 15) (ci := 9) (q0 := 0) (v := .long ((xx * ((6364136223846793005))) + ((1442695040888963407)))) hx hb hts (iU inlX9) hown hK hP rfl rfl 14 (by decide) (kU u_910) rfl rfl dX9_draws_17 ?_
  refine lv_bipush (v := (nI 33)) hx hb dX9_draws_20 (by decide) ?_
  refine lv_lushr (v := (((xx * ((6364136223846793005))) + ((1442695040888963407))).toUInt64 >>> ((nI 33).toInt64.toUInt64 &&& Int64.toUInt64 63)).toInt64) hx hb dX9_draws_22 rfl ?_
  refine lv_l2i (v := ((((xx * ((6364136223846793005))) + ((1442695040888963407))).toUInt64 >>> ((nI 33).toInt64.toUInt64 &&& Int64.toUInt64 63)).toInt64).toInt32) hx hb dX9_draws_23 rfl ?_
  exact ct_i () hx hb hr hlocks hP hS (drR_eq _) dX9_draws_24
set_option maxHeartbeats 4000000 in
set_option maxRecDepth 100000 in
theorem c_X9_gives (l : Launch) (D : va_G) (cI cZ cF cL : ClassId) (mr : Nat) (rf : Nat → Nat) (st ln th pl hs vs : Nat) (dg : Int32) (xx : Int64) (nH nV wk ea gi sw : Nat) (f1 f2 f3 f4 f5 f6 f7 f8 : Nat → Nat) (h v n : Nat) (hh : h < 6) (hv : v < 5) (hn : n ≤ f8 (h * 5 + v)) : CT l D (tysX cI cZ cF cL) yX9_gives (wA yX9_gives cX9_gives 4 (some .int)) (rmF 1 21) [.ref mr, .int (nI h), .int (nI v), .int (nI n)] (mX mr rf st ln th pl hs vs dg xx ++ qX cI (rf 0) nH nV wk ea gi sw f1 f2 f3 f4 f5 f6 f7 f8) (some (.int (nI (f8 (h * 5 + v) - n)))) (fun _ : Unit => (mX mr rf st ln th pl hs vs dg xx ++ qX cI (rf 0) nH nV wk ea (gi + n) sw f1 f2 f3 f4 f5 f6 f7 (va_up f8 (h * 5 + v) (f8 (h * 5 + v) - n)))) := by
  refine ct_in (cc := cX9_gives) (maxL := 4) (ret := (some .int)) (own := RX9) (lv := [(0, .ref mr), (1, .int (nI h)), (2, .int (nI v)), (3, .int (nI n))]) (by decide +kernel) rfl rfl (Nat.le_of_ble_eq_true rfl) rfl ?_
  intro p e s m args below meth c A ls hx hb hr hml hts hown hlocks hK hA hP hD hS hl
  refine lv_aload_n hx hb dX9_gives_0 rfl (lv_at hl 0 rfl) ?_
  refine gf_n (C := RX9) (T := TX9) (N := 15) (ci := 9) (q0 := 0) (v := .ref (rf 0)) hx hb hts (iU inlX9) hown hK hP rfl rfl 0 (by decide) (kU u_129) rfl rfl dX9_gives_1 ?_
  refine lv_iload_n hx hb dX9_gives_4 rfl (lv_at hl 1 rfl) ?_
  refine lv_iload_n hx hb dX9_gives_5 rfl (lv_at hl 2 rfl) ?_
  refine gp_S (c_X9_kilos l D cI cZ cF cL h v ) (gUS u_354 u_355 u_5 u_356) rfl hdS_X9_kilos ⟨Nat.le_of_ble_eq_true rfl, Nat.le_of_ble_eq_true rfl⟩ ⟨rfl, rfl⟩ hx hb hml hown hts hK hA hP hD hS hl.1 ⟨Nat.le_of_ble_eq_true rfl, Nat.le_of_ble_eq_true rfl⟩ (wr := (mX mr rf st ln th pl hs vs dg xx ++ qX cI (rf 0) nH nV wk ea gi sw f1 f2 f3 f4 f5 f6 f7 f8)) (pm_cnt (fun _ => by simp only [List.countP_append, List.countP_nil, fT] <;> omega)) (fun _ => by simp only [List.map_append, List.map_nil, fX_m, bX_m, sX_m, pX_m, iaX_m, r5X_m, r6X_m, fT_m, hX_m, tX_m, xX_m, sgX_m, zaX_m, fsB_a, qX_m, mX_m]) (rest := [.ref (rf 0)]) rfl rfl (Nat.le_of_ble_eq_true rfl) dX9_gives_6 (ws2 := (fun _ : Unit => (mX mr rf st ln th pl hs vs dg xx ++ qX cI (rf 0) nH nV wk ea gi sw f1 f2 f3 f4 f5 f6 f7 f8))) (fun _ => (pm_cnt (fun _ => by simp only [List.countP_append, List.countP_nil, fT] <;> omega))) (fun _ Hp locs hP hD hS => ?_)
  refine lv_dup2_11 hx hb dX9_gives_9 rfl rfl ?_
  refine ia_n (q0 := 1) (t0 := 0) hx hb hK hP rfl rfl (by omega) (by decide) dX9_gives_10 ?_
  rw [qR_8 (by omega) (by omega)]
  refine lv_iload_n hx hb dX9_gives_11 rfl (lv_at hl 3 rfl) ?_
  refine lv_isub hx hb dX9_gives_12 ?_
  rw [pk_sub (a := f8 (h * 5 + v)) (b := n) hn]
  refine is_n (q0 := 1) (t0 := 0) (ws2 := (mX mr rf st ln th pl hs vs dg xx ++ qX cI (rf 0) nH nV wk ea gi sw f1 f2 f3 f4 f5 f6 f7 (va_up f8 (h * 5 + v) ((f8 (h * 5 + v)) - n)))) hx hb hK hP hD hS rfl rfl (by omega) (by decide) dX9_gives_13 (by rw [qU_8 (by omega) (by omega)]; rfl) (fun Hp locs hP hD hS => ?_)
  refine lv_aload_n hx hb dX9_gives_14 rfl (lv_at hl 0 rfl) ?_
  refine gf_n (C := RX9) (T := TX9) (N := 15) (ci := 9) (q0 := 0) (v := .ref (rf 0)) hx hb hts (iU inlX9) hown hK hP rfl rfl 0 (by decide) (kU u_129) rfl rfl dX9_gives_15 ?_
  refine lv_iconst (v := (nI 4)) hx hb dX9_gives_18 (by decide) ?_
  refine lv_dup2_11 hx hb dX9_gives_19 rfl rfl ?_
  refine ia_n (q0 := 1) (t0 := 0) hx hb hK hP rfl rfl (by omega) (by decide) dX9_gives_20 ?_
  rw [show qN nH nV wk ea gi sw f1 f2 f3 f4 f5 f6 f7 (va_up f8 (h * 5 + v) ((f8 (h * 5 + v)) - n)) 4 = gi from rfl]
  refine lv_iload_n hx hb dX9_gives_21 rfl (lv_at hl 3 rfl) ?_
  refine lv_iadd hx hb dX9_gives_22 ?_
  rw [nI_add gi n]
  refine is_n (q0 := 1) (t0 := 0) (ws2 := (mX mr rf st ln th pl hs vs dg xx ++ qX cI (rf 0) nH nV wk ea (gi + n) sw f1 f2 f3 f4 f5 f6 f7 (va_up f8 (h * 5 + v) ((f8 (h * 5 + v)) - n)))) hx hb hK hP hD hS rfl rfl (by omega) (by decide) dX9_gives_23 (by rw [qU_05]; rfl) (fun Hp locs hP hD hS => ?_)
  refine lv_aload_n hx hb dX9_gives_24 rfl (lv_at hl 0 rfl) ?_
  refine gf_n (C := RX9) (T := TX9) (N := 15) (ci := 9) (q0 := 0) (v := .ref (rf 0)) hx hb hts (iU inlX9) hown hK hP rfl rfl 0 (by decide) (kU u_129) rfl rfl dX9_gives_25 ?_
  refine lv_iload_n hx hb dX9_gives_28 rfl (lv_at hl 1 rfl) ?_
  refine lv_iload_n hx hb dX9_gives_29 rfl (lv_at hl 2 rfl) ?_
  refine gp_S (c_X9_kilos l D cI cZ cF cL h v ) (gUS u_354 u_355 u_5 u_356) rfl hdS_X9_kilos ⟨Nat.le_of_ble_eq_true rfl, Nat.le_of_ble_eq_true rfl⟩ ⟨rfl, rfl⟩ hx hb hml hown hts hK hA hP hD hS hl.1 ⟨Nat.le_of_ble_eq_true rfl, Nat.le_of_ble_eq_true rfl⟩ (wr := (mX mr rf st ln th pl hs vs dg xx ++ qX cI (rf 0) nH nV wk ea (gi + n) sw f1 f2 f3 f4 f5 f6 f7 (va_up f8 (h * 5 + v) ((f8 (h * 5 + v)) - n)))) (pm_cnt (fun _ => by simp only [List.countP_append, List.countP_nil, fT] <;> omega)) (fun _ => by simp only [List.map_append, List.map_nil, fX_m, bX_m, sX_m, pX_m, iaX_m, r5X_m, r6X_m, fT_m, hX_m, tX_m, xX_m, sgX_m, zaX_m, fsB_a, qX_m, mX_m]) (rest := [.ref (rf 0)]) rfl rfl (Nat.le_of_ble_eq_true rfl) dX9_gives_30 (ws2 := (fun _ : Unit => (mX mr rf st ln th pl hs vs dg xx ++ qX cI (rf 0) nH nV wk ea (gi + n) sw f1 f2 f3 f4 f5 f6 f7 (va_up f8 (h * 5 + v) ((f8 (h * 5 + v)) - n))))) (fun _ => (pm_cnt (fun _ => by simp only [List.countP_append, List.countP_nil, fT] <;> omega))) (fun _ Hp locs hP hD hS => ?_)
  refine ia_n (q0 := 1) (t0 := 0) hx hb hK hP rfl rfl (by omega) (by decide) dX9_gives_33 ?_
  rw [qR_8 (by omega) (by omega)]
  exact ct_i () hx hb hr hlocks hP hS (congrArg nI up_s) dX9_gives_34
