theorem sumN_tail {f : Nat → Nat} {m : Nat} : ∀ n, m ≤ n → (∀ k, m ≤ k → k < n → f k = 0) → sumN f n = sumN f m
  | 0, h, _ => by rw [show m = 0 by omega]
  | n + 1, h, h0 => by
    by_cases q : m = n + 1
    · rw [q]
    · rw [sumN_s, sumN_tail n (by omega) (fun k h1 h2 => h0 k h1 (by omega)), h0 n (by omega) (by omega), Nat.add_zero]
theorem sum30 (f : Nat → Nat) : sumN f 30 = sumN (fun h => sumN (fun v => f (h * 5 + v)) 5) 6 := by
  simp only [sumN, Nat.zero_add, Nat.reduceMul, Nat.reduceAdd, Nat.zero_mul, Nat.add_zero]
  omega
theorem kilA_30 {f8 : Nat → Nat} {nH nV : Nat} (hH : nH ≤ 6) (hV : nV ≤ 5) (h9 : ∀ k, outC nH nV k → f8 k = 0) : kilA f8 nV nH = sumN f8 30 := by
  rw [sum30]
  unfold kilA kilH
  rw [sumN_tail 6 hH (f := fun h => sumN (fun v => f8 (h * 5 + v)) 5) (m := nH) (fun h h1 h2 => by
    show sumN (fun v => f8 (h * 5 + v)) 5 = 0
    rw [sumN_tail 5 (Nat.zero_le 5) (f := fun v => f8 (h * 5 + v)) (m := 0) (fun v _ hv => h9 _ (Or.inl (by omega)))]
    rfl)]
  exact sumN_cong (fun h hh => (sumN_tail 5 hV (f := fun v => f8 (h * 5 + v)) (m := nV) (fun v h1 h2 => h9 _ (Or.inr (by omega)))).symm)
theorem box_pos {f1 f2 f3 f4 : Nat → Nat} : ∀ n, (∀ h, h < n → 1 ≤ f1 h) → (0 < boxN f2 f4 n ↔ 0 < sumN (partN f1 f2 f3 f4) n)
  | 0, _ => Iff.rfl
  | n + 1, b1 => by
    have ih := box_pos (f1 := f1) (f2 := f2) (f3 := f3) (f4 := f4) n (fun h hh => b1 h (by omega))
    unfold boxN at ih ⊢
    rw [cntN, sumN_s]
    by_cases c : getsB f2 f4 n
    · have := pt_pos (f3 := f3) c (b1 n (by omega))
      rw [if_pos (decide_eq_true c)]
      omega
    · rw [pt_zero c, if_neg (by rw [decide_eq_true_eq]; exact c)]
      omega
theorem pkV_0 {f5 f7 pt : Nat → Nat} {P nH v : Nat} {s : (Nat → Nat) × (Nat → Nat)} (hP : P = 0) (h : ∀ j, j < nH → pt j = 0) : pkV f5 f7 pt P nH v s = (s.1, va_up s.2 v (s.2 v + f5 v)) := by
  subst hP
  unfold pkV
  rw [dlK_z, shS_z, Nat.sub_zero]
  have hk : kz f7 pt (glN f7 pt v nH s.1 (s.2 v) 0).2.1 v nH = none := (kz_none nH).mpr (fun j hj q => by rw [h j hj] at q; omega)
  have z := glN_z hk (f5 v)
  rw [Nat.zero_add] at z
  rw [z]
  rfl
theorem sum_0 {f : Nat → Nat} : ∀ n, sumN f n = 0 → ∀ j, j < n → f j = 0
  | 0, _, j, hj => absurd hj (Nat.not_lt_zero j)
  | n + 1, h, j, hj => by
    rw [sumN_s] at h
    by_cases e : j = n
    · subst e; omega
    · exact sum_0 n (by omega) j (by omega)
theorem qN_cg {H V wk ea gi sw H' V' wk' ea' gi' sw' : Nat} {f1 f2 f3 f4 f5 f6 f7 f8 g1 g2 g3 g4 g5 g6 g7 g8 : Nat → Nat} (e0 : H = H') (e1 : V = V') (e2 : wk = wk') (e3 : ea = ea') (e4 : gi = gi') (e5 : sw = sw')
    (h1 : ∀ j, j < 6 → f1 j = g1 j) (h2 : ∀ j, j < 6 → f2 j = g2 j) (h3 : ∀ j, j < 6 → f3 j = g3 j) (h4 : ∀ j, j < 6 → f4 j = g4 j) (h5 : ∀ j, j < 5 → f5 j = g5 j) (h6 : ∀ j, j < 5 → f6 j = g6 j) (h7 : ∀ j, j < 30 → f7 j = g7 j) (h8 : ∀ j, j < 30 → f8 j = g8 j) :
    ∀ j, j < 100 → qN H V wk ea gi sw f1 f2 f3 f4 f5 f6 f7 f8 j = qN H' V' wk' ea' gi' sw' g1 g2 g3 g4 g5 g6 g7 g8 j := by
  intro j hj
  subst e0 e1 e2 e3 e4 e5
  unfold qN
  repeat' split
  all_goals first | rfl | exact h1 _ (by omega) | exact h2 _ (by omega) | exact h3 _ (by omega) | exact h4 _ (by omega) | exact h5 _ (by omega) | exact h6 _ (by omega) | exact h7 _ (by omega) | exact h8 _ (by omega)
theorem qR_8r {H V wk ea gi sw j : Nat} {f1 f2 f3 f4 f5 f6 f7 f8 : Nat → Nat} : qN H V wk ea gi sw f1 f2 f3 f4 f5 f6 f7 f8 (70 + j) = f8 j := by
  unfold qN
  rw [if_neg (by omega), if_neg (by omega), if_neg (by omega), if_neg (by omega), Nat.add_sub_cancel_left]
theorem qU_8r {H V wk ea gi sw j x : Nat} {f1 f2 f3 f4 f5 f6 f7 f8 : Nat → Nat} : va_up (qN H V wk ea gi sw f1 f2 f3 f4 f5 f6 f7 f8) (70 + j) x = qN H V wk ea gi sw f1 f2 f3 f4 f5 f6 f7 (va_up f8 j x) := by
  funext k
  by_cases e : k = 70 + j
  · subst e; rw [uq_s, qR_8r, up_s]
  · rw [uq_n e]; unfold qN
    repeat' split
    all_goals first | rfl | (exfalso; omega) | exact (up_n (by omega)).symm
theorem eat_s {H V wk ea gi sw i j : Nat} {f1 f2 f3 f4 f5 f6 f7 f8 y : Nat → Nat} (ey : y = qN H V wk (ea + sumN f8 j) gi sw f1 f2 f3 f4 f5 f6 f7 (filN 0 j f8)) (hi : i = 70 + j) : va_up (va_up y 3 (y 3 + y i)) i 0 = qN H V wk (ea + sumN f8 (j + 1)) gi sw f1 f2 f3 f4 f5 f6 f7 (filN 0 (j + 1) f8) := by
  subst ey hi
  rw [qR_8r, show qN H V wk (ea + sumN f8 j) gi sw f1 f2 f3 f4 f5 f6 f7 (filN 0 j f8) 3 = ea + sumN f8 j from rfl, show filN 0 j f8 j = f8 j from if_neg (Nat.lt_irrefl j), qU_04, qU_8r, filN_s, sumN_s, Nat.add_assoc]
set_option maxRecDepth 20000 in
theorem u_360 : Cond.code yX9_boxes cX9_boxes 3 (some .int) ∈ wsL_law := List.mem_of_getElem? (i := 360) (by decide +kernel)
set_option maxRecDepth 20000 in
theorem u_357 : Cond.methodLink RX9 78 yX9_boxes ∈ wsL_law := List.mem_of_getElem? (i := 357) (by decide +kernel)
set_option maxRecDepth 20000 in
theorem u_358 : Cond.instanceMethod yX9_boxes ∈ wsL_law := List.mem_of_getElem? (i := 358) (by decide +kernel)
set_option maxRecDepth 20000 in
theorem u_359 : Cond.selects RX9 yX9_boxes yX9_boxes ∈ wsL_law := List.mem_of_getElem? (i := 359) (by decide +kernel)
set_option maxRecDepth 20000 in
theorem u_668 : Cond.code yX9_swaps cX9_swaps 7 (some .int) ∈ wsL_law := List.mem_of_getElem? (i := 668) (by decide +kernel)
set_option maxRecDepth 20000 in
theorem u_665 : Cond.methodLink RX9 85 yX9_swaps ∈ wsL_law := List.mem_of_getElem? (i := 665) (by decide +kernel)
set_option maxRecDepth 20000 in
theorem u_666 : Cond.instanceMethod yX9_swaps ∈ wsL_law := List.mem_of_getElem? (i := 666) (by decide +kernel)
set_option maxRecDepth 20000 in
theorem u_667 : Cond.selects RX9 yX9_swaps yX9_swaps ∈ wsL_law := List.mem_of_getElem? (i := 667) (by decide +kernel)
set_option maxRecDepth 20000 in
theorem u_656 : Cond.code yX9_shareOut cX9_shareOut 6 none ∈ wsL_law := List.mem_of_getElem? (i := 656) (by decide +kernel)
set_option maxRecDepth 20000 in
theorem u_653 : Cond.methodLink RX9 81 yX9_shareOut ∈ wsL_law := List.mem_of_getElem? (i := 653) (by decide +kernel)
set_option maxRecDepth 20000 in
theorem u_654 : Cond.instanceMethod yX9_shareOut ∈ wsL_law := List.mem_of_getElem? (i := 654) (by decide +kernel)
set_option maxRecDepth 20000 in
theorem u_655 : Cond.selects RX9 yX9_shareOut yX9_shareOut ∈ wsL_law := List.mem_of_getElem? (i := 655) (by decide +kernel)
theorem hdV_X9_boxes : yX9_boxes.cls = RX9 ∧ yX9_boxes.cls ≠ "java/lang/invoke/MethodHandle" ∧ yX9_boxes.cls ≠ "java/lang/invoke/VarHandle" ∧ (parseMethodDescriptor yX9_boxes.desc).map (fun d => d.parameters.length) = some 0 := by decide +kernel
theorem hdV_X9_swaps : yX9_swaps.cls = RX9 ∧ yX9_swaps.cls ≠ "java/lang/invoke/MethodHandle" ∧ yX9_swaps.cls ≠ "java/lang/invoke/VarHandle" ∧ (parseMethodDescriptor yX9_swaps.desc).map (fun d => d.parameters.length) = some 0 := by decide +kernel
theorem hdV_X9_shareOut : yX9_shareOut.cls = RX9 ∧ yX9_shareOut.cls ≠ "java/lang/invoke/MethodHandle" ∧ yX9_shareOut.cls ≠ "java/lang/invoke/VarHandle" ∧ (parseMethodDescriptor yX9_shareOut.desc).map (fun d => d.parameters.length) = some 1 := by decide +kernel
set_option maxHeartbeats 4000000 in
set_option maxRecDepth 100000 in
theorem c_X9_packs (l : Launch) (D : va_G) (cI cZ cF cL : ClassId) (mr : Nat) (rf : Nat → Nat) (st ln th pl hs vs : Nat) (dg : Int32) (xx : Int64) (T : Nat → Nat → Nat) (g : Nat → Nat) (hT : FI T) : CT l D (tysX cI cZ cF cL) yX9_packs (wA yX9_packs cX9_packs 5 (some .int)) (rmF 4 100) [.ref mr] (mX mr rf st ln th pl hs vs dg xx ++ qX cI (rf 0) (T 0 0) (T 0 1) (T 0 2) (T 0 3) (T 0 4) (T 0 5) (T 1) (T 2) (T 3) (T 4) (T 5) (T 6) (T 7) (T 8) ++ iaX cI (rf 6) 6 g) (some (.int (nI (packT T 0 5)))) (fun u : (Nat → Nat) => (mX mr rf st ln th pl hs vs dg xx ++ qX cI (rf 0) ((packT T) 0 0) ((packT T) 0 1) ((packT T) 0 2) ((packT T) 0 3) ((packT T) 0 4) ((packT T) 0 5) ((packT T) 1) ((packT T) 2) ((packT T) 3) ((packT T) 4) ((packT T) 5) ((packT T) 6) ((packT T) 7) ((packT T) 8) ++ iaX cI (rf 6) 6 u)) := by
  refine ct_in (cc := cX9_packs) (maxL := 5) (ret := (some .int)) (own := RX9) (lv := [(0, .ref mr)]) (by decide +kernel) rfl rfl (Nat.le_of_ble_eq_true rfl) rfl ?_
  intro p e s m args below meth c A ls hx hb hr hml hts hown hlocks hK hA hP hD hS hl
  have hH := hT.1.1
  have hV := hT.1.2
  refine lv_bipush (v := (nI 70)) hx hb dX9_packs_0 (by decide) ?_
  have hP : va_P D vwCl (mX mr rf st ln th pl hs vs dg xx ++ iaX cI (rf 0) 100 (qN (T 0 0) (T 0 1) (T 0 2) (T 0 3) (T 0 4) (T 0 5) (T 1) (T 2) (T 3) (T 4) (T 5) (T 6) (T 7) (T 8)) ++ iaX cI (rf 6) 6 g) _ := hP
  have hD : va_D A (mX mr rf st ln th pl hs vs dg xx ++ iaX cI (rf 0) 100 (qN (T 0 0) (T 0 1) (T 0 2) (T 0 3) (T 0 4) (T 0 5) (T 1) (T 2) (T 3) (T 4) (T 5) (T 6) (T 7) (T 8)) ++ iaX cI (rf 6) 6 g) := hD
  refine lv_istore_n (lv' := [(1, .int (nI 70)), (0, .ref mr)]) hx hb dX9_packs_2 rfl hl (by decide) rfl (fun ls hl => ?_)
  have loop_3 : ∀ (dd : Nat) (i : Nat) (y : Nat → Nat) (j : Nat), (i = 70 + j ∧ j ≤ 30) → (y = qN (T 0 0) (T 0 1) (T 0 2) (T 0 3 + sumN (T 8) j) (T 0 4) (T 0 5) (T 1) (T 2) (T 3) (T 4) (T 5) (T 6) (T 7) (filN 0 j (T 8))) → (100 - i) < dd → ∀ (Hp : Heap) (locs : List Loc), va_P D vwCl (mX mr rf st ln th pl hs vs dg xx ++ iaX cI (rf 0) 100 y ++ iaX cI (rf 6) 6 g) Hp → va_D A (mX mr rf st ln th pl hs vs dg xx ++ iaX cI (rf 0) 100 y ++ iaX cI (rf 6) 6 g) → va_S A s.heap Hp locs → ∀ ls : Array Slot, lv_has ls 5 [(1, .int (nI i)), (0, .ref mr)] → W p l e (rmF 4 100) s m args below meth c Hp locs 0 0 (MQ below (CQ D (some (.int (nI (packT T 0 5)))) (fun u : (Nat → Nat) => (mX mr rf st ln th pl hs vs dg xx ++ qX cI (rf 0) ((packT T) 0 0) ((packT T) 0 1) ((packT T) 0 2) ((packT T) 0 3) ((packT T) 0 4) ((packT T) 0 5) ((packT T) 1) ((packT T) 2) ((packT T) 3) ((packT T) 4) ((packT T) 5) ((packT T) 6) ((packT T) 7) ((packT T) 8) ++ iaX cI (rf 6) 6 u)) A) args s 0 0 A) (F0 m 3 ls []) := by
    intro dd
    induction dd with
    | zero => intro i y j hj ey hm; exact absurd hm (Nat.not_lt_zero _)
    | succ dd ih_3 =>
      intro i y j hj ey hm Hp locs hP hD hS ls hl
      refine lv_iload_n hx hb dX9_packs_3 rfl (lv_at hl 0 rfl) ?_
      refine lv_bipush (v := (nI 100)) hx hb dX9_packs_4 (by decide) ?_
      refine lv_icmp_ge (tgt := 37) hx hb dX9_packs_6 (by decide) (fun c_6 => ?_) (fun c_6 => ?_)
      · skip
        replace c_6 := cn_le (by omega) (by omega) c_6
        obtain ⟨hP, hD⟩ := cg_n (g := nF (qN (T 0 0) (T 0 1) (T 0 2) (T 0 3 + sumN (T 8) 30) (T 0 4) (T 0 5) (T 1) (T 2) (T 3) (T 4) (T 5) (T 6) (T 7) (fun _ => 0))) (ws2 := (mX mr rf st ln th pl hs vs dg xx ++ iaX cI (rf 0) 100 (qN (T 0 0) (T 0 1) (T 0 2) (T 0 3 + sumN (T 8) 30) (T 0 4) (T 0 5) (T 1) (T 2) (T 3) (T 4) (T 5) (T 6) (T 7) (fun _ => 0)) ++ iaX cI (rf 6) 6 g)) hP hD 1 rfl (fun k hk => by rw [ey, show j = 30 by omega]; exact congrArg nI (qN_cg rfl rfl rfl rfl rfl rfl (fun _ _ => rfl) (fun _ _ => rfl) (fun _ _ => rfl) (fun _ _ => rfl) (fun _ _ => rfl) (fun _ _ => rfl) (fun _ _ => rfl) (fun q hq => if_pos hq) k hk)) rfl
        have hP : va_P D vwCl (mX mr rf st ln th pl hs vs dg xx ++ qX cI (rf 0) (T 0 0) (T 0 1) (T 0 2) (T 0 3 + sumN (T 8) 30) (T 0 4) (T 0 5) (T 1) (T 2) (T 3) (T 4) (T 5) (T 6) (T 7) ((fun _ => 0)) ++ iaX cI (rf 6) 6 g) _ := hP
        have hD : va_D A (mX mr rf st ln th pl hs vs dg xx ++ qX cI (rf 0) (T 0 0) (T 0 1) (T 0 2) (T 0 3 + sumN (T 8) 30) (T 0 4) (T 0 5) (T 1) (T 2) (T 3) (T 4) (T 5) (T 6) (T 7) ((fun _ => 0)) ++ iaX cI (rf 6) 6 g) := hD
        refine lv_aload_n hx hb dX9_packs_37 rfl (lv_at hl 1 rfl) ?_
        refine gp_V (ci := 9) (q0 := 0) (cq := (RX9, TX9, 15)) (c_X9_boxes l D cI cZ cF cL mr rf st ln th pl hs vs dg xx (T 0 0) (T 0 1) (T 0 2) (T 0 3 + sumN (T 8) 30) (T 0 4) (T 0 5) (T 1) (T 2) (T 3) (T 4) (T 5) (T 6) (T 7) ((fun _ => 0)) hH (fun h hh => by have := (hT.2.1 h hh).2.1; omega) (fun h hh => by have := (hT.2.1 h hh).2.2.2.1; omega)) (gUV u_357 u_358 u_359 u_5 u_360) rfl hdV_X9_boxes ⟨Nat.le_of_ble_eq_true rfl, Nat.le_of_ble_eq_true rfl⟩ ⟨rfl, rfl⟩ hx hb hml hown hts hK hA hP hD hS hl.1 ⟨Nat.le_of_ble_eq_true rfl, Nat.le_of_ble_eq_true rfl⟩ rfl rfl rfl (wr := (iaX cI (rf 6) 6 g)) (pm_cnt (fun _ => by simp only [List.countP_append, List.countP_nil, fT] <;> omega)) (fun _ => by simp only [List.map_append, List.map_nil, fX_m, bX_m, sX_m, pX_m, iaX_m, r5X_m, r6X_m, fT_m, hX_m, tX_m, xX_m, sgX_m, zaX_m, fsB_a, qX_m, mX_m]) (rest := []) rfl rfl (Nat.le_of_ble_eq_true rfl) dX9_packs_38 (ws2 := (fun _ : Unit => (mX mr rf st ln th pl hs vs dg xx ++ qX cI (rf 0) (T 0 0) (T 0 1) (T 0 2) (T 0 3 + sumN (T 8) 30) (T 0 4) (T 0 5) (T 1) (T 2) (T 3) (T 4) (T 5) (T 6) (T 7) ((fun _ => 0)) ++ iaX cI (rf 6) 6 g))) (fun _ => (pm_cnt (fun _ => by simp only [List.countP_append, List.countP_nil, fT] <;> omega))) (fun _ Hp locs hP hD hS => ?_)
        refine lv_if_le (tgt := 48) hx hb dX9_packs_41 (by decide) (fun c_41 => ?_) (fun c_41 => ?_)
        · skip
          replace c_41 := cn_le (b := 0) (by have := FI_box T; omega) (by decide) c_41
          have hP0 : sumN (partN (T 1) (T 2) (T 3) (T 4)) (T 0 0) = 0 := by have := (box_pos (f1 := T 1) (f2 := T 2) (f3 := T 3) (f4 := T 4) (T 0 0) (fun h hh => (hT.2.1 h (by omega)).2.2.2.2.1 hh)).mpr; omega
          refine lv_iconst (v := (nI 0)) hx hb dX9_packs_48 (by decide) ?_
          refine lv_istore_n (lv' := [(1, .int (nI 0)), (0, .ref mr)]) hx hb dX9_packs_49 rfl hl (by decide) rfl (fun ls hl => ?_)
          refine lv_iconst (v := (nI 0)) hx hb dX9_packs_50 (by decide) ?_
          refine lv_istore_n (lv' := [(2, .int (nI 0)), (1, .int (nI 0)), (0, .ref mr)]) hx hb dX9_packs_51 rfl hl (by decide) rfl (fun ls hl => ?_)
          have loop_52 : ∀ (dd : Nat) (i : Nat) (h6 : Nat → Nat) (h8 : Nat → Nat) (y2 : Nat → Nat), (i ≤ T 0 1) → (h8 = (pkS (T 5) (T 6) (T 7) (partN (T 1) (T 2) (T 3) (T 4)) (sumN (partN (T 1) (T 2) (T 3) (T 4)) (T 0 0)) (T 0 0) i).1) → (h6 = (pkS (T 5) (T 6) (T 7) (partN (T 1) (T 2) (T 3) (T 4)) (sumN (partN (T 1) (T 2) (T 3) (T 4)) (T 0 0)) (T 0 0) i).2) → (T 0 1 - i) < dd → ∀ (Hp : Heap) (locs : List Loc), va_P D vwCl (mX mr rf st ln th pl hs vs dg xx ++ qX cI (rf 0) (T 0 0) (T 0 1) (T 0 2) (T 0 3 + sumN (T 8) 30) (T 0 4) (T 0 5) (T 1) (T 2) (T 3) (T 4) (T 5) h6 (T 7) h8 ++ iaX cI (rf 6) 6 y2) Hp → va_D A (mX mr rf st ln th pl hs vs dg xx ++ qX cI (rf 0) (T 0 0) (T 0 1) (T 0 2) (T 0 3 + sumN (T 8) 30) (T 0 4) (T 0 5) (T 1) (T 2) (T 3) (T 4) (T 5) h6 (T 7) h8 ++ iaX cI (rf 6) 6 y2) → va_S A s.heap Hp locs → ∀ ls : Array Slot, lv_has ls 5 [(2, .int (nI i)), (1, .int (nI 0)), (0, .ref mr)] → W p l e (rmF 4 100) s m args below meth c Hp locs 0 0 (MQ below (CQ D (some (.int (nI (packT T 0 5)))) (fun u : (Nat → Nat) => (mX mr rf st ln th pl hs vs dg xx ++ qX cI (rf 0) ((packT T) 0 0) ((packT T) 0 1) ((packT T) 0 2) ((packT T) 0 3) ((packT T) 0 4) ((packT T) 0 5) ((packT T) 1) ((packT T) 2) ((packT T) 3) ((packT T) 4) ((packT T) 5) ((packT T) 6) ((packT T) 7) ((packT T) 8) ++ iaX cI (rf 6) 6 u)) A) args s 0 0 A) (F0 m 52 ls []) := by
            intro dd
            induction dd with
            | zero => intro i h6 h8 y2 hi e8 e6 hm; exact absurd hm (Nat.not_lt_zero _)
            | succ dd ih_52 =>
              intro i h6 h8 y2 hi e8 e6 hm Hp locs hP hD hS ls hl
              refine lv_iload_n hx hb dX9_packs_52 rfl (lv_at hl 0 rfl) ?_
              refine lv_aload_n hx hb dX9_packs_53 rfl (lv_at hl 2 rfl) ?_
              refine gf_n (C := RX9) (T := TX9) (N := 15) (ci := 9) (q0 := 0) (v := .ref (rf 0)) hx hb hts (iU inlX9) hown hK hP rfl rfl 0 (by decide) (kU u_129) rfl rfl dX9_packs_54 ?_
              refine lv_iconst (v := (nI 1)) hx hb dX9_packs_57 (by decide) ?_
              refine ia_n (q0 := 1) (t0 := 0) hx hb hK hP rfl rfl (by omega) (by decide) dX9_packs_58 ?_
              rw [show qN (T 0 0) (T 0 1) (T 0 2) (T 0 3 + sumN (T 8) 30) (T 0 4) (T 0 5) (T 1) (T 2) (T 3) (T 4) (T 5) h6 (T 7) h8 1 = (T 0 1) from rfl]
              refine lv_icmp_ge (tgt := 103) hx hb dX9_packs_59 (by decide) (fun c_59 => ?_) (fun c_59 => ?_)
              · skip
                replace c_59 := cn_le (by omega) (by omega) c_59
                refine lv_aload_n hx hb dX9_packs_103 rfl (lv_at hl 2 rfl) ?_
                refine gp_V (ci := 9) (q0 := 0) (cq := (RX9, TX9, 15)) (c_X9_swaps l D cI cZ cF cL mr rf st ln th pl hs vs dg xx (T 0 0) (T 0 1) (T 0 2) (T 0 3 + sumN (T 8) 30) (T 0 4) (T 0 5) (T 1) (T 2) (T 3) (T 4) (T 5) h6 (T 7) h8 hH hV hT.2.2.2.1 (by rw [e8, show i = T 0 1 by omega]; exact pkT_sum hT)) (gUV u_665 u_666 u_667 u_5 u_668) rfl hdV_X9_swaps ⟨Nat.le_of_ble_eq_true rfl, Nat.le_of_ble_eq_true rfl⟩ ⟨rfl, rfl⟩ hx hb hml hown hts hK hA hP hD hS hl.1 ⟨Nat.le_of_ble_eq_true rfl, Nat.le_of_ble_eq_true rfl⟩ rfl rfl rfl (wr := (iaX cI (rf 6) 6 y2)) (pm_cnt (fun _ => by simp only [List.countP_append, List.countP_nil, fT] <;> omega)) (fun _ => by simp only [List.map_append, List.map_nil, fX_m, bX_m, sX_m, pX_m, iaX_m, r5X_m, r6X_m, fT_m, hX_m, tX_m, xX_m, sgX_m, zaX_m, fsB_a, qX_m, mX_m]) (rest := []) rfl rfl (Nat.le_of_ble_eq_true rfl) dX9_packs_104 (ws2 := (fun _ : Unit => (mX mr rf st ln th pl hs vs dg xx ++ qX cI (rf 0) (T 0 0) (T 0 1) (T 0 2) (T 0 3 + sumN (T 8) 30) (T 0 4) (T 0 5) (T 1) (T 2) (T 3) (T 4) (T 5) h6 (T 7) ((swR (T 7) (T 0 0) (T 0 1) 1801 h8).2) ++ iaX cI (rf 6) 6 y2))) (fun _ => (pm_cnt (fun _ => by simp only [List.countP_append, List.countP_nil, fT] <;> omega))) (fun _ Hp locs hP hD hS => ?_)
                refine lv_istore_n (lv' := [(2, .int (nI ((swR (T 7) (T 0 0) (T 0 1) 1801 h8).1))), (1, .int (nI 0)), (0, .ref mr)]) hx hb dX9_packs_107 rfl hl (by decide) rfl (fun ls hl => ?_)
                refine lv_iconst (v := (nI 0)) hx hb dX9_packs_108 (by decide) ?_
                refine lv_istore_n (lv' := [(3, .int (nI 0)), (2, .int (nI ((swR (T 7) (T 0 0) (T 0 1) 1801 h8).1))), (1, .int (nI 0)), (0, .ref mr)]) hx hb dX9_packs_109 rfl hl (by decide) rfl (fun ls hl => ?_)
                have loop_110 : ∀ (dd : Nat) (i3 : Nat) (h2 : Nat → Nat) (h3 : Nat → Nat) (h4 : Nat → Nat), (i3 ≤ T 0 0) → (h2 = tabN (fun h => if 0 < ptT T h then min 9 (T 2 h + 1) else T 2 h) i3 (T 2)) → (h3 = tabN (fun h => if 0 < ptT T h then T 3 h - 1 else if T 4 h = 1 then min 9 (T 3 h + T 1 h) else T 3 h) i3 (T 3)) → (h4 = filN 0 i3 (T 4)) → (T 0 0 - i3) < dd → ∀ (Hp : Heap) (locs : List Loc), va_P D vwCl (mX mr rf st ln th pl hs vs dg xx ++ qX cI (rf 0) (T 0 0) (T 0 1) (T 0 2) (T 0 3 + sumN (T 8) 30) (T 0 4) (T 0 5) (T 1) h2 h3 h4 (T 5) h6 (T 7) ((swR (T 7) (T 0 0) (T 0 1) 1801 h8).2) ++ iaX cI (rf 6) 6 y2) Hp → va_D A (mX mr rf st ln th pl hs vs dg xx ++ qX cI (rf 0) (T 0 0) (T 0 1) (T 0 2) (T 0 3 + sumN (T 8) 30) (T 0 4) (T 0 5) (T 1) h2 h3 h4 (T 5) h6 (T 7) ((swR (T 7) (T 0 0) (T 0 1) 1801 h8).2) ++ iaX cI (rf 6) 6 y2) → va_S A s.heap Hp locs → ∀ ls : Array Slot, lv_has ls 5 [(3, .int (nI i3)), (2, .int (nI ((swR (T 7) (T 0 0) (T 0 1) 1801 h8).1))), (1, .int (nI 0)), (0, .ref mr)] → W p l e (rmF 4 100) s m args below meth c Hp locs 0 0 (MQ below (CQ D (some (.int (nI (packT T 0 5)))) (fun u : (Nat → Nat) => (mX mr rf st ln th pl hs vs dg xx ++ qX cI (rf 0) ((packT T) 0 0) ((packT T) 0 1) ((packT T) 0 2) ((packT T) 0 3) ((packT T) 0 4) ((packT T) 0 5) ((packT T) 1) ((packT T) 2) ((packT T) 3) ((packT T) 4) ((packT T) 5) ((packT T) 6) ((packT T) 7) ((packT T) 8) ++ iaX cI (rf 6) 6 u)) A) args s 0 0 A) (F0 m 110 ls []) := by
                  intro dd
                  induction dd with
                  | zero => intro i3 h2 h3 h4 hi3 e2 e3 e4 hm; exact absurd hm (Nat.not_lt_zero _)
                  | succ dd ih_110 =>
                    intro i3 h2 h3 h4 hi3 e2 e3 e4 hm Hp locs hP hD hS ls hl
                    refine lv_iload_n hx hb dX9_packs_110 rfl (lv_at hl 0 rfl) ?_
                    refine lv_aload_n hx hb dX9_packs_111 rfl (lv_at hl 3 rfl) ?_
                    refine gf_n (C := RX9) (T := TX9) (N := 15) (ci := 9) (q0 := 0) (v := .ref (rf 0)) hx hb hts (iU inlX9) hown hK hP rfl rfl 0 (by decide) (kU u_129) rfl rfl dX9_packs_112 ?_
                    refine lv_iconst (v := (nI 0)) hx hb dX9_packs_115 (by decide) ?_
                    refine ia_n (q0 := 1) (t0 := 0) hx hb hK hP rfl rfl (by omega) (by decide) dX9_packs_116 ?_
                    rw [show qN (T 0 0) (T 0 1) (T 0 2) (T 0 3 + sumN (T 8) 30) (T 0 4) (T 0 5) (T 1) h2 h3 h4 (T 5) h6 (T 7) ((swR (T 7) (T 0 0) (T 0 1) 1801 h8).2) 0 = (T 0 0) from rfl]
                    refine lv_icmp_ge (tgt := 261) hx hb dX9_packs_117 (by decide) (fun c_117 => ?_) (fun c_117 => ?_)
                    · skip
                      replace c_117 := cn_le (by omega) (by omega) c_117
                      refine lv_iconst (v := (nI 0)) hx hb dX9_packs_261 (by decide) ?_
                      refine lv_istore_n (lv' := [(3, .int (nI 0)), (2, .int (nI ((swR (T 7) (T 0 0) (T 0 1) 1801 h8).1))), (1, .int (nI 0)), (0, .ref mr)]) hx hb dX9_packs_262 rfl hl (by decide) rfl (fun ls hl => ?_)
                      have loop_263 : ∀ (dd : Nat) (i4 : Nat) (h5 : Nat → Nat), (i4 ≤ T 0 1) → (h5 = filN 0 i4 (T 5)) → (T 0 1 - i4) < dd → ∀ (Hp : Heap) (locs : List Loc), va_P D vwCl (mX mr rf st ln th pl hs vs dg xx ++ qX cI (rf 0) (T 0 0) (T 0 1) (T 0 2) (T 0 3 + sumN (T 8) 30) (T 0 4) (T 0 5) (T 1) h2 h3 h4 h5 h6 (T 7) ((swR (T 7) (T 0 0) (T 0 1) 1801 h8).2) ++ iaX cI (rf 6) 6 y2) Hp → va_D A (mX mr rf st ln th pl hs vs dg xx ++ qX cI (rf 0) (T 0 0) (T 0 1) (T 0 2) (T 0 3 + sumN (T 8) 30) (T 0 4) (T 0 5) (T 1) h2 h3 h4 h5 h6 (T 7) ((swR (T 7) (T 0 0) (T 0 1) 1801 h8).2) ++ iaX cI (rf 6) 6 y2) → va_S A s.heap Hp locs → ∀ ls : Array Slot, lv_has ls 5 [(3, .int (nI i4)), (2, .int (nI ((swR (T 7) (T 0 0) (T 0 1) 1801 h8).1))), (1, .int (nI 0)), (0, .ref mr)] → W p l e (rmF 4 100) s m args below meth c Hp locs 0 0 (MQ below (CQ D (some (.int (nI (packT T 0 5)))) (fun u : (Nat → Nat) => (mX mr rf st ln th pl hs vs dg xx ++ qX cI (rf 0) ((packT T) 0 0) ((packT T) 0 1) ((packT T) 0 2) ((packT T) 0 3) ((packT T) 0 4) ((packT T) 0 5) ((packT T) 1) ((packT T) 2) ((packT T) 3) ((packT T) 4) ((packT T) 5) ((packT T) 6) ((packT T) 7) ((packT T) 8) ++ iaX cI (rf 6) 6 u)) A) args s 0 0 A) (F0 m 263 ls []) := by
                        intro dd
                        induction dd with
                        | zero => intro i4 h5 hi4 e5 hm; exact absurd hm (Nat.not_lt_zero _)
                        | succ dd ih_263 =>
                          intro i4 h5 hi4 e5 hm Hp locs hP hD hS ls hl
                          refine lv_iload_n hx hb dX9_packs_263 rfl (lv_at hl 0 rfl) ?_
                          refine lv_aload_n hx hb dX9_packs_264 rfl (lv_at hl 3 rfl) ?_
                          refine gf_n (C := RX9) (T := TX9) (N := 15) (ci := 9) (q0 := 0) (v := .ref (rf 0)) hx hb hts (iU inlX9) hown hK hP rfl rfl 0 (by decide) (kU u_129) rfl rfl dX9_packs_265 ?_
                          refine lv_iconst (v := (nI 1)) hx hb dX9_packs_268 (by decide) ?_
                          refine ia_n (q0 := 1) (t0 := 0) hx hb hK hP rfl rfl (by omega) (by decide) dX9_packs_269 ?_
                          rw [show qN (T 0 0) (T 0 1) (T 0 2) (T 0 3 + sumN (T 8) 30) (T 0 4) (T 0 5) (T 1) h2 h3 h4 h5 h6 (T 7) ((swR (T 7) (T 0 0) (T 0 1) 1801 h8).2) 1 = (T 0 1) from rfl]
                          refine lv_icmp_ge (tgt := 289) hx hb dX9_packs_270 (by decide) (fun c_270 => ?_) (fun c_270 => ?_)
                          · skip
                            replace c_270 := cn_le (by omega) (by omega) c_270
                            refine lv_aload_n hx hb dX9_packs_289 rfl (lv_at hl 3 rfl) ?_
                            refine gf_n (C := RX9) (T := TX9) (N := 15) (ci := 9) (q0 := 0) (v := .ref (rf 0)) hx hb hts (iU inlX9) hown hK hP rfl rfl 0 (by decide) (kU u_129) rfl rfl dX9_packs_290 ?_
                            refine lv_iconst (v := (nI 5)) hx hb dX9_packs_293 (by decide) ?_
                            refine lv_iload_n hx hb dX9_packs_294 rfl (lv_at hl 1 rfl) ?_
                            refine is_n (q0 := 1) (t0 := 0) (ws2 := (mX mr rf st ln th pl hs vs dg xx ++ qX cI (rf 0) (T 0 0) (T 0 1) (T 0 2) (T 0 3 + sumN (T 8) 30) (T 0 4) ((swR (T 7) (T 0 0) (T 0 1) 1801 h8).1) (T 1) h2 h3 h4 h5 h6 (T 7) ((swR (T 7) (T 0 0) (T 0 1) 1801 h8).2) ++ iaX cI (rf 6) 6 y2)) hx hb hK hP hD hS rfl rfl (by omega) (by decide) dX9_packs_295 (by rw [qU_06]; rfl) (fun Hp locs hP hD hS => ?_)
                            refine lv_aload_n hx hb dX9_packs_296 rfl (lv_at hl 3 rfl) ?_
                            refine gf_n (C := RX9) (T := TX9) (N := 15) (ci := 9) (q0 := 0) (v := .ref (rf 0)) hx hb hts (iU inlX9) hown hK hP rfl rfl 0 (by decide) (kU u_129) rfl rfl dX9_packs_297 ?_
                            refine lv_iconst (v := (nI 2)) hx hb dX9_packs_300 (by decide) ?_
                            refine lv_dup2_11 hx hb dX9_packs_301 rfl rfl ?_
                            refine ia_n (q0 := 1) (t0 := 0) hx hb hK hP rfl rfl (by omega) (by decide) dX9_packs_302 ?_
                            rw [show qN (T 0 0) (T 0 1) (T 0 2) (T 0 3 + sumN (T 8) 30) (T 0 4) ((swR (T 7) (T 0 0) (T 0 1) 1801 h8).1) (T 1) h2 h3 h4 h5 h6 (T 7) ((swR (T 7) (T 0 0) (T 0 1) 1801 h8).2) 2 = (T 0 2) from rfl]
                            refine lv_iconst (v := (nI 1)) hx hb dX9_packs_303 (by decide) ?_
                            refine lv_iadd hx hb dX9_packs_304 ?_
                            rw [nI_add (T 0 2) 1]
                            refine is_n (q0 := 1) (t0 := 0) (ws2 := (mX mr rf st ln th pl hs vs dg xx ++ qX cI (rf 0) (T 0 0) (T 0 1) ((T 0 2) + 1) (T 0 3 + sumN (T 8) 30) (T 0 4) ((swR (T 7) (T 0 0) (T 0 1) 1801 h8).1) (T 1) h2 h3 h4 h5 h6 (T 7) ((swR (T 7) (T 0 0) (T 0 1) 1801 h8).2) ++ iaX cI (rf 6) 6 y2)) hx hb hK hP hD hS rfl rfl (by omega) (by decide) dX9_packs_305 (by rw [qU_03]; rfl) (fun Hp locs hP hD hS => ?_)
                            obtain ⟨hP, hD⟩ := cg_n (g := nF (qN ((packT T) 0 0) ((packT T) 0 1) ((packT T) 0 2) ((packT T) 0 3) ((packT T) 0 4) ((packT T) 0 5) ((packT T) 1) ((packT T) 2) ((packT T) 3) ((packT T) 4) ((packT T) 5) ((packT T) 6) ((packT T) 7) ((packT T) 8))) (ws2 := (mX mr rf st ln th pl hs vs dg xx ++ qX cI (rf 0) ((packT T) 0 0) ((packT T) 0 1) ((packT T) 0 2) ((packT T) 0 3) ((packT T) 0 4) ((packT T) 0 5) ((packT T) 1) ((packT T) 2) ((packT T) 3) ((packT T) 4) ((packT T) 5) ((packT T) 6) ((packT T) 7) ((packT T) 8) ++ iaX cI (rf 6) 6 y2)) hP hD 1 rfl (fun j hj => congrArg nI (qN_cg rfl rfl rfl (by rw [← kilA_30 hH hV hT.2.2.2.2.2]; rfl) rfl (by rw [e8, show i = T 0 1 by omega]; rfl) (fun _ _ => rfl) (fun k hk => by rw [e2, show i3 = T 0 0 by omega]; rfl) (fun k hk => by rw [e3, show i3 = T 0 0 by omega]; rfl) (fun k hk => by rw [e4, show i3 = T 0 0 by omega]; show (if k < T 0 0 then 0 else T 4 k) = 0; split; rfl; exact ((hT.2.1 k hk).2.2.2.2.2 (by omega)).2.2) (fun k hk => by rw [e5, show i4 = T 0 1 by omega]; show (if k < T 0 1 then 0 else T 5 k) = 0; split; rfl; exact (hT.2.2.1 k hk).2 (by omega)) (fun k hk => by rw [e6, show i = T 0 1 by omega]; rfl) (fun _ _ => rfl) (fun k hk => by rw [e8, show i = T 0 1 by omega]; rfl) j hj)) rfl
                            refine lv_iload_n hx hb dX9_packs_306 rfl (lv_at hl 1 rfl) ?_
                            exact ct_i (y2) hx hb hr hlocks hP hS (by rw [e8, show i = T 0 1 by omega]; rfl) dX9_packs_307
                          · skip
                            replace c_270 := cn_nle (by omega) (by omega) c_270
                            refine lv_aload_n hx hb dX9_packs_273 rfl (lv_at hl 3 rfl) ?_
                            refine gf_n (C := RX9) (T := TX9) (N := 15) (ci := 9) (q0 := 0) (v := .ref (rf 0)) hx hb hts (iU inlX9) hown hK hP rfl rfl 0 (by decide) (kU u_129) rfl rfl dX9_packs_274 ?_
                            refine lv_iload_n hx hb dX9_packs_277 rfl (lv_at hl 0 rfl) ?_
                            refine gp_S (c_X9_harvest l D cI cZ cF cL i4 ) (gUS u_278 u_279 u_5 u_280) rfl hdS_X9_harvest ⟨Nat.le_of_ble_eq_true rfl, Nat.le_of_ble_eq_true rfl⟩ ⟨rfl, rfl⟩ hx hb hml hown hts hK hA hP hD hS hl.1 ⟨Nat.le_of_ble_eq_true rfl, Nat.le_of_ble_eq_true rfl⟩ (wr := (mX mr rf st ln th pl hs vs dg xx ++ qX cI (rf 0) (T 0 0) (T 0 1) (T 0 2) (T 0 3 + sumN (T 8) 30) (T 0 4) (T 0 5) (T 1) h2 h3 h4 h5 h6 (T 7) ((swR (T 7) (T 0 0) (T 0 1) 1801 h8).2) ++ iaX cI (rf 6) 6 y2)) (pm_cnt (fun _ => by simp only [List.countP_append, List.countP_nil, fT] <;> omega)) (fun _ => by simp only [List.map_append, List.map_nil, fX_m, bX_m, sX_m, pX_m, iaX_m, r5X_m, r6X_m, fT_m, hX_m, tX_m, xX_m, sgX_m, zaX_m, fsB_a, qX_m, mX_m]) (rest := [.ref (rf 0)]) rfl rfl (Nat.le_of_ble_eq_true rfl) dX9_packs_278 (ws2 := (fun _ : Unit => (mX mr rf st ln th pl hs vs dg xx ++ qX cI (rf 0) (T 0 0) (T 0 1) (T 0 2) (T 0 3 + sumN (T 8) 30) (T 0 4) (T 0 5) (T 1) h2 h3 h4 h5 h6 (T 7) ((swR (T 7) (T 0 0) (T 0 1) 1801 h8).2) ++ iaX cI (rf 6) 6 y2))) (fun _ => (pm_cnt (fun _ => by simp only [List.countP_append, List.countP_nil, fT] <;> omega))) (fun _ Hp locs hP hD hS => ?_)
                            refine lv_iconst (v := (nI 0)) hx hb dX9_packs_281 (by decide) ?_
                            refine is_n (q0 := 1) (t0 := 0) (ws2 := (mX mr rf st ln th pl hs vs dg xx ++ qX cI (rf 0) (T 0 0) (T 0 1) (T 0 2) (T 0 3 + sumN (T 8) 30) (T 0 4) (T 0 5) (T 1) h2 h3 h4 (va_up h5 i4 0) h6 (T 7) ((swR (T 7) (T 0 0) (T 0 1) 1801 h8).2) ++ iaX cI (rf 6) 6 y2)) hx hb hK hP hD hS rfl rfl (by omega) (by decide) dX9_packs_282 (by rw [qU_5 (by omega)]; rfl) (fun Hp locs hP hD hS => ?_)
                            refine lv_iinc (v := (nI (i4 + 1))) (lv' := [(3, .int (nI (i4 + 1))), (2, .int (nI ((swR (T 7) (T 0 0) (T 0 1) 1801 h8).1))), (1, .int (nI 0)), (0, .ref mr)]) hx hb dX9_packs_283 hl (k := 0) rfl (nI_add i4 1) (by decide) rfl (fun ls hl => ?_)
                            refine lv_goto (tgt := 263) hx hb dX9_packs_286 (by decide) ?_
                            exact ih_263 (i4 + 1) (va_up h5 i4 0) (by omega) (by rw [e5]; exact filN_s 0 i4 _) (by omega) _ _ hP hD hS _ (lv_sub hl [0, 1, 2, 3] rfl)
                      exact loop_263 ((T 0 1 - 0) + 1) 0 (T 5) (Nat.zero_le _) (filN_0 _ _).symm (Nat.lt_succ_self _) _ _ hP hD hS _ (lv_sub hl [0, 1, 2, 3] rfl)
                    · skip
                      replace c_117 := cn_nle (by omega) (by omega) c_117
                      have e2i : h2 i3 = T 2 i3 := by rw [e2, tabN_out (Nat.le_refl i3)]
                      have e3i : h3 i3 = T 3 i3 := by rw [e3, tabN_out (Nat.le_refl i3)]
                      have e4i : h4 i3 = T 4 i3 := by rw [e4]; exact if_neg (Nat.lt_irrefl i3)
                      obtain ⟨a1, a2, a3, a4, a5, -⟩ := hT.2.1 i3 (by omega)
                      have a6 := a5 (by omega)
                      refine lv_iload_n hx hb dX9_packs_120 rfl (lv_at hl 0 rfl) ?_
                      refine gp_S (c_X9_size l D cI cZ cF cL i3 ) (gUS u_275 u_276 u_5 u_277) rfl hdS_X9_size ⟨Nat.le_of_ble_eq_true rfl, Nat.le_of_ble_eq_true rfl⟩ ⟨rfl, rfl⟩ hx hb hml hown hts hK hA hP hD hS hl.1 ⟨Nat.le_of_ble_eq_true rfl, Nat.le_of_ble_eq_true rfl⟩ (wr := (mX mr rf st ln th pl hs vs dg xx ++ qX cI (rf 0) (T 0 0) (T 0 1) (T 0 2) (T 0 3 + sumN (T 8) 30) (T 0 4) (T 0 5) (T 1) h2 h3 h4 (T 5) h6 (T 7) ((swR (T 7) (T 0 0) (T 0 1) 1801 h8).2) ++ iaX cI (rf 6) 6 y2)) (pm_cnt (fun _ => by simp only [List.countP_append, List.countP_nil, fT] <;> omega)) (fun _ => by simp only [List.map_append, List.map_nil, fX_m, bX_m, sX_m, pX_m, iaX_m, r5X_m, r6X_m, fT_m, hX_m, tX_m, xX_m, sgX_m, zaX_m, fsB_a, qX_m, mX_m]) (rest := []) rfl rfl (Nat.le_of_ble_eq_true rfl) dX9_packs_121 (ws2 := (fun _ : Unit => (mX mr rf st ln th pl hs vs dg xx ++ qX cI (rf 0) (T 0 0) (T 0 1) (T 0 2) (T 0 3 + sumN (T 8) 30) (T 0 4) (T 0 5) (T 1) h2 h3 h4 (T 5) h6 (T 7) ((swR (T 7) (T 0 0) (T 0 1) 1801 h8).2) ++ iaX cI (rf 6) 6 y2))) (fun _ => (pm_cnt (fun _ => by simp only [List.countP_append, List.countP_nil, fT] <;> omega))) (fun _ Hp locs hP hD hS => ?_)
                      refine lv_istore (lv' := [(4, .int (nI (6 + 4 * i3))), (3, .int (nI i3)), (2, .int (nI ((swR (T 7) (T 0 0) (T 0 1) 1801 h8).1))), (1, .int (nI 0)), (0, .ref mr)]) hx hb dX9_packs_124 hl (by decide) rfl (fun ls hl => ?_)
                      refine lv_aload_n hx hb dX9_packs_126 rfl (lv_at hl 4 rfl) ?_
                      refine lv_iload_n hx hb dX9_packs_127 rfl (lv_at hl 1 rfl) ?_
                      refine gp_V (ci := 9) (q0 := 0) (cq := (RX9, TX9, 15)) (c_X9_getsBox l D cI cZ cF cL mr rf st ln th pl hs vs dg xx (T 0 0) (T 0 1) (T 0 2) (T 0 3 + sumN (T 8) 30) (T 0 4) (T 0 5) (T 1) h2 h3 h4 (T 5) h6 (T 7) ((swR (T 7) (T 0 0) (T 0 1) 1801 h8).2) i3 (by omega) (fun k hk => by rw [e2]; exact tabN_all (P := fun z => z < 2 ^ 31) (fun _ => by have := (hT.2.1 k hk).2.1; split <;> omega) (fun _ => by have := (hT.2.1 k hk).2.1; omega)) (fun k hk => by rw [e4]; have := (hT.2.1 k hk).2.2.2.1; show (if k < i3 then 0 else T 4 k) < 2 ^ 31; split <;> omega)) (gUV u_361 u_362 u_363 u_5 u_364) rfl hdV_X9_getsBox ⟨Nat.le_of_ble_eq_true rfl, Nat.le_of_ble_eq_true rfl⟩ ⟨rfl, rfl⟩ hx hb hml hown hts hK hA hP hD hS hl.1 ⟨Nat.le_of_ble_eq_true rfl, Nat.le_of_ble_eq_true rfl⟩ rfl rfl rfl (wr := (iaX cI (rf 6) 6 y2)) (pm_cnt (fun _ => by simp only [List.countP_append, List.countP_nil, fT] <;> omega)) (fun _ => by simp only [List.map_append, List.map_nil, fX_m, bX_m, sX_m, pX_m, iaX_m, r5X_m, r6X_m, fT_m, hX_m, tX_m, xX_m, sgX_m, zaX_m, fsB_a, qX_m, mX_m]) (rest := []) rfl rfl (Nat.le_of_ble_eq_true rfl) dX9_packs_128 (ws2 := (fun _ : Unit => (mX mr rf st ln th pl hs vs dg xx ++ qX cI (rf 0) (T 0 0) (T 0 1) (T 0 2) (T 0 3 + sumN (T 8) 30) (T 0 4) (T 0 5) (T 1) h2 h3 h4 (T 5) h6 (T 7) ((swR (T 7) (T 0 0) (T 0 1) 1801 h8).2) ++ iaX cI (rf 6) 6 y2))) (fun _ => (pm_cnt (fun _ => by simp only [List.countP_append, List.countP_nil, fT] <;> omega))) (fun _ Hp locs hP hD hS => ?_)
                      refine lv_if_eq (tgt := 179) hx hb dX9_packs_131 (by decide) (fun c_131 => ?_) (fun c_131 => ?_)
                      · skip
                        replace c_131 := cb_z c_131
                        replace c_131 : ¬ getsB (T 2) (T 4) i3 := fun q => c_131 ⟨by rw [e4i]; exact q.1, by rw [e2i]; exact q.2⟩
                        have hpt : ¬ 0 < ptT T i3 := by rw [show ptT T i3 = 0 from pt_zero c_131]; exact Nat.lt_irrefl 0
                        refine lv_aload_n hx hb dX9_packs_179 rfl (lv_at hl 4 rfl) ?_
                        refine gf_n (C := RX9) (T := TX9) (N := 15) (ci := 9) (q0 := 0) (v := .ref (rf 0)) hx hb hts (iU inlX9) hown hK hP rfl rfl 0 (by decide) (kU u_129) rfl rfl dX9_packs_180 ?_
                        refine lv_iload hx hb dX9_packs_183 (lv_at hl 0 rfl) ?_
                        refine lv_iconst (v := (nI 3)) hx hb dX9_packs_185 (by decide) ?_
                        refine lv_iadd hx hb dX9_packs_186 ?_
                        rw [nI_add (6 + 4 * i3) 3]
                        refine ia_n (q0 := 1) (t0 := 0) hx hb hK hP rfl rfl (by omega) (by decide) dX9_packs_187 ?_
                        rw [qR_4 (by omega)]
                        refine lv_iconst (v := (nI 1)) hx hb dX9_packs_188 (by decide) ?_
                        refine lv_icmp_ne (tgt := 245) hx hb dX9_packs_189 (by decide) (fun c_189 => ?_) (fun c_189 => ?_)
                        · skip
                          replace c_189 := cn_ne c_189
                          refine lv_aload_n hx hb dX9_packs_245 rfl (lv_at hl 4 rfl) ?_
                          refine gf_n (C := RX9) (T := TX9) (N := 15) (ci := 9) (q0 := 0) (v := .ref (rf 0)) hx hb hts (iU inlX9) hown hK hP rfl rfl 0 (by decide) (kU u_129) rfl rfl dX9_packs_246 ?_
                          refine lv_iload hx hb dX9_packs_249 (lv_at hl 0 rfl) ?_
                          refine lv_iconst (v := (nI 3)) hx hb dX9_packs_251 (by decide) ?_
                          refine lv_iadd hx hb dX9_packs_252 ?_
                          rw [nI_add (6 + 4 * i3) 3]
                          refine lv_iconst (v := (nI 0)) hx hb dX9_packs_253 (by decide) ?_
                          refine is_n (q0 := 1) (t0 := 0) (ws2 := (mX mr rf st ln th pl hs vs dg xx ++ qX cI (rf 0) (T 0 0) (T 0 1) (T 0 2) (T 0 3 + sumN (T 8) 30) (T 0 4) (T 0 5) (T 1) h2 h3 (va_up h4 i3 0) (T 5) h6 (T 7) ((swR (T 7) (T 0 0) (T 0 1) 1801 h8).2) ++ iaX cI (rf 6) 6 y2)) hx hb hK hP hD hS rfl rfl (by omega) (by decide) dX9_packs_254 (by rw [qU_4 (by omega)]; rfl) (fun Hp locs hP hD hS => ?_)
                          refine lv_iinc (v := (nI (i3 + 1))) (lv' := [(3, .int (nI (i3 + 1))), (4, .int (nI (6 + 4 * i3))), (2, .int (nI ((swR (T 7) (T 0 0) (T 0 1) 1801 h8).1))), (1, .int (nI 0)), (0, .ref mr)]) hx hb dX9_packs_255 hl (k := 1) rfl (nI_add i3 1) (by decide) rfl (fun ls hl => ?_)
                          refine lv_goto (tgt := 110) hx hb dX9_packs_258 (by decide) ?_
                          exact ih_110 (i3 + 1) h2 h3 (va_up h4 i3 0) (by omega) (by first | (rw [show h2 i3 + 1 = (fun h => if 0 < ptT T h then min 9 (T 2 h + 1) else T 2 h) i3 from by rw [e2i]; exact ((if_pos hpt).trans (Nat.min_eq_right (by have := c_131.2; omega))).symm, e2, tabN_s]) | (rw [e2]; exact (tabN_k (show (fun h => if 0 < ptT T h then min 9 (T 2 h + 1) else T 2 h) i3 = T 2 i3 from if_neg hpt)).symm)) (by first | (rw [show h3 i3 - 1 = (fun h => if 0 < ptT T h then T 3 h - 1 else if T 4 h = 1 then min 9 (T 3 h + T 1 h) else T 3 h) i3 from by rw [e3i]; exact (if_pos hpt).symm, e3, tabN_s]) | (rw [show h3 i3 - 0 = (fun h => if 0 < ptT T h then T 3 h - 1 else if T 4 h = 1 then min 9 (T 3 h + T 1 h) else T 3 h) i3 from by rw [e3i]; rw [e3i] at c_166; exact (show T 3 i3 - 0 = T 3 i3 - 1 by omega).trans (if_pos hpt).symm, e3, tabN_s]) | (rw [show h3 i3 + T 1 i3 = (fun h => if 0 < ptT T h then T 3 h - 1 else if T 4 h = 1 then min 9 (T 3 h + T 1 h) else T 3 h) i3 from by rw [e3i]; rw [e3i] at c_219; exact ((if_neg hpt).trans ((if_pos (by rw [← e4i]; exact c_189)).trans (Nat.min_eq_right c_219))).symm, e3, tabN_s]) | (rw [e3i] at c_219; rw [e3]; exact (congrArg (va_up (tabN (fun h => if 0 < ptT T h then T 3 h - 1 else if T 4 h = 1 then min 9 (T 3 h + T 1 h) else T 3 h) i3 (T 3)) i3) ((if_neg hpt).trans ((if_pos (by rw [← e4i]; exact c_189)).trans (Nat.min_eq_left (Nat.le_of_lt c_219)))).symm).trans (tabN_s _ _ _)) | (rw [e3]; exact (tabN_k (show (fun h => if 0 < ptT T h then T 3 h - 1 else if T 4 h = 1 then min 9 (T 3 h + T 1 h) else T 3 h) i3 = T 3 i3 from (if_neg hpt).trans (if_neg (by rw [← e4i]; exact c_189)))).symm)) (by rw [e4]; exact filN_s 0 i3 _) (by omega) _ _ hP hD hS _ (lv_sub hl [0, 2, 3, 4] rfl)
                        · skip
                          replace c_189 := cn_eq (by rw [e4i]; omega) (by decide) c_189
                          refine lv_aload_n hx hb dX9_packs_192 rfl (lv_at hl 4 rfl) ?_
                          refine gf_n (C := RX9) (T := TX9) (N := 15) (ci := 9) (q0 := 0) (v := .ref (rf 0)) hx hb hts (iU inlX9) hown hK hP rfl rfl 0 (by decide) (kU u_129) rfl rfl dX9_packs_193 ?_
                          refine lv_iload hx hb dX9_packs_196 (lv_at hl 0 rfl) ?_
                          refine lv_iconst (v := (nI 2)) hx hb dX9_packs_198 (by decide) ?_
                          refine lv_iadd hx hb dX9_packs_199 ?_
                          rw [nI_add (6 + 4 * i3) 2]
                          refine lv_aload_n hx hb dX9_packs_200 rfl (lv_at hl 4 rfl) ?_
                          refine gf_n (C := RX9) (T := TX9) (N := 15) (ci := 9) (q0 := 0) (v := .ref (rf 0)) hx hb hts (iU inlX9) hown hK hP rfl rfl 0 (by decide) (kU u_129) rfl rfl dX9_packs_201 ?_
                          refine lv_iload hx hb dX9_packs_204 (lv_at hl 0 rfl) ?_
                          refine lv_iconst (v := (nI 2)) hx hb dX9_packs_206 (by decide) ?_
                          refine lv_iadd hx hb dX9_packs_207 ?_
                          rw [nI_add (6 + 4 * i3) 2]
                          refine ia_n (q0 := 1) (t0 := 0) hx hb hK hP rfl rfl (by omega) (by decide) dX9_packs_208 ?_
                          rw [qR_3 (by omega)]
                          refine lv_aload_n hx hb dX9_packs_209 rfl (lv_at hl 4 rfl) ?_
                          refine gf_n (C := RX9) (T := TX9) (N := 15) (ci := 9) (q0 := 0) (v := .ref (rf 0)) hx hb hts (iU inlX9) hown hK hP rfl rfl 0 (by decide) (kU u_129) rfl rfl dX9_packs_210 ?_
                          refine lv_iload hx hb dX9_packs_213 (lv_at hl 0 rfl) ?_
                          refine ia_n (q0 := 1) (t0 := 0) hx hb hK hP rfl rfl (by omega) (by decide) dX9_packs_215 ?_
                          rw [qR_1 (by omega)]
                          refine lv_iadd hx hb dX9_packs_216 ?_
                          rw [nI_add (h3 i3) ((T 1) i3)]
                          refine lv_bipush (v := (nI 9)) hx hb dX9_packs_217 (by decide) ?_
                          refine lv_icmp_le (tgt := 227) hx hb dX9_packs_219 (by decide) (fun c_219 => ?_) (fun c_219 => ?_)
                          · skip
                            replace c_219 := cn_le (by rw [e3i]; omega) (by decide) c_219
                            refine lv_aload_n hx hb dX9_packs_227 rfl (lv_at hl 4 rfl) ?_
                            refine gf_n (C := RX9) (T := TX9) (N := 15) (ci := 9) (q0 := 0) (v := .ref (rf 0)) hx hb hts (iU inlX9) hown hK hP rfl rfl 0 (by decide) (kU u_129) rfl rfl dX9_packs_228 ?_
                            refine lv_iload hx hb dX9_packs_231 (lv_at hl 0 rfl) ?_
                            refine lv_iconst (v := (nI 2)) hx hb dX9_packs_233 (by decide) ?_
                            refine lv_iadd hx hb dX9_packs_234 ?_
                            rw [nI_add (6 + 4 * i3) 2]
                            refine ia_n (q0 := 1) (t0 := 0) hx hb hK hP rfl rfl (by omega) (by decide) dX9_packs_235 ?_
                            rw [qR_3 (by omega)]
                            refine lv_aload_n hx hb dX9_packs_236 rfl (lv_at hl 4 rfl) ?_
                            refine gf_n (C := RX9) (T := TX9) (N := 15) (ci := 9) (q0 := 0) (v := .ref (rf 0)) hx hb hts (iU inlX9) hown hK hP rfl rfl 0 (by decide) (kU u_129) rfl rfl dX9_packs_237 ?_
                            refine lv_iload hx hb dX9_packs_240 (lv_at hl 0 rfl) ?_
                            refine ia_n (q0 := 1) (t0 := 0) hx hb hK hP rfl rfl (by omega) (by decide) dX9_packs_242 ?_
                            rw [qR_1 (by omega)]
                            refine lv_iadd hx hb dX9_packs_243 ?_
                            rw [nI_add (h3 i3) ((T 1) i3)]
                            refine is_n (q0 := 1) (t0 := 0) (ws2 := (mX mr rf st ln th pl hs vs dg xx ++ qX cI (rf 0) (T 0 0) (T 0 1) (T 0 2) (T 0 3 + sumN (T 8) 30) (T 0 4) (T 0 5) (T 1) h2 (va_up h3 i3 ((h3 i3) + ((T 1) i3))) h4 (T 5) h6 (T 7) ((swR (T 7) (T 0 0) (T 0 1) 1801 h8).2) ++ iaX cI (rf 6) 6 y2)) hx hb hK hP hD hS rfl rfl (by omega) (by decide) dX9_packs_244 (by rw [qU_3 (by omega)]; rfl) (fun Hp locs hP hD hS => ?_)
                            refine lv_aload_n hx hb dX9_packs_245 rfl (lv_at hl 4 rfl) ?_
                            refine gf_n (C := RX9) (T := TX9) (N := 15) (ci := 9) (q0 := 0) (v := .ref (rf 0)) hx hb hts (iU inlX9) hown hK hP rfl rfl 0 (by decide) (kU u_129) rfl rfl dX9_packs_246 ?_
                            refine lv_iload hx hb dX9_packs_249 (lv_at hl 0 rfl) ?_
                            refine lv_iconst (v := (nI 3)) hx hb dX9_packs_251 (by decide) ?_
                            refine lv_iadd hx hb dX9_packs_252 ?_
                            rw [nI_add (6 + 4 * i3) 3]
                            refine lv_iconst (v := (nI 0)) hx hb dX9_packs_253 (by decide) ?_
                            refine is_n (q0 := 1) (t0 := 0) (ws2 := (mX mr rf st ln th pl hs vs dg xx ++ qX cI (rf 0) (T 0 0) (T 0 1) (T 0 2) (T 0 3 + sumN (T 8) 30) (T 0 4) (T 0 5) (T 1) h2 (va_up h3 i3 ((h3 i3) + ((T 1) i3))) (va_up h4 i3 0) (T 5) h6 (T 7) ((swR (T 7) (T 0 0) (T 0 1) 1801 h8).2) ++ iaX cI (rf 6) 6 y2)) hx hb hK hP hD hS rfl rfl (by omega) (by decide) dX9_packs_254 (by rw [qU_4 (by omega)]; rfl) (fun Hp locs hP hD hS => ?_)
                            refine lv_iinc (v := (nI (i3 + 1))) (lv' := [(3, .int (nI (i3 + 1))), (4, .int (nI (6 + 4 * i3))), (2, .int (nI ((swR (T 7) (T 0 0) (T 0 1) 1801 h8).1))), (1, .int (nI 0)), (0, .ref mr)]) hx hb dX9_packs_255 hl (k := 1) rfl (nI_add i3 1) (by decide) rfl (fun ls hl => ?_)
                            refine lv_goto (tgt := 110) hx hb dX9_packs_258 (by decide) ?_
                            exact ih_110 (i3 + 1) h2 (va_up h3 i3 ((h3 i3) + ((T 1) i3))) (va_up h4 i3 0) (by omega) (by first | (rw [show h2 i3 + 1 = (fun h => if 0 < ptT T h then min 9 (T 2 h + 1) else T 2 h) i3 from by rw [e2i]; exact ((if_pos hpt).trans (Nat.min_eq_right (by have := c_131.2; omega))).symm, e2, tabN_s]) | (rw [e2]; exact (tabN_k (show (fun h => if 0 < ptT T h then min 9 (T 2 h + 1) else T 2 h) i3 = T 2 i3 from if_neg hpt)).symm)) (by first | (rw [show h3 i3 - 1 = (fun h => if 0 < ptT T h then T 3 h - 1 else if T 4 h = 1 then min 9 (T 3 h + T 1 h) else T 3 h) i3 from by rw [e3i]; exact (if_pos hpt).symm, e3, tabN_s]) | (rw [show h3 i3 - 0 = (fun h => if 0 < ptT T h then T 3 h - 1 else if T 4 h = 1 then min 9 (T 3 h + T 1 h) else T 3 h) i3 from by rw [e3i]; rw [e3i] at c_166; exact (show T 3 i3 - 0 = T 3 i3 - 1 by omega).trans (if_pos hpt).symm, e3, tabN_s]) | (rw [show h3 i3 + T 1 i3 = (fun h => if 0 < ptT T h then T 3 h - 1 else if T 4 h = 1 then min 9 (T 3 h + T 1 h) else T 3 h) i3 from by rw [e3i]; rw [e3i] at c_219; exact ((if_neg hpt).trans ((if_pos (by rw [← e4i]; exact c_189)).trans (Nat.min_eq_right c_219))).symm, e3, tabN_s]) | (rw [e3i] at c_219; rw [e3]; exact (congrArg (va_up (tabN (fun h => if 0 < ptT T h then T 3 h - 1 else if T 4 h = 1 then min 9 (T 3 h + T 1 h) else T 3 h) i3 (T 3)) i3) ((if_neg hpt).trans ((if_pos (by rw [← e4i]; exact c_189)).trans (Nat.min_eq_left (Nat.le_of_lt c_219)))).symm).trans (tabN_s _ _ _)) | (rw [e3]; exact (tabN_k (show (fun h => if 0 < ptT T h then T 3 h - 1 else if T 4 h = 1 then min 9 (T 3 h + T 1 h) else T 3 h) i3 = T 3 i3 from (if_neg hpt).trans (if_neg (by rw [← e4i]; exact c_189)))).symm)) (by rw [e4]; exact filN_s 0 i3 _) (by omega) _ _ hP hD hS _ (lv_sub hl [0, 2, 3, 4] rfl)
                          · skip
                            replace c_219 := cn_nle (by rw [e3i]; omega) (by decide) c_219
                            refine lv_bipush (v := (nI 9)) hx hb dX9_packs_222 (by decide) ?_
                            refine lv_goto (tgt := 244) hx hb dX9_packs_224 (by decide) ?_
                            refine is_n (q0 := 1) (t0 := 0) (ws2 := (mX mr rf st ln th pl hs vs dg xx ++ qX cI (rf 0) (T 0 0) (T 0 1) (T 0 2) (T 0 3 + sumN (T 8) 30) (T 0 4) (T 0 5) (T 1) h2 (va_up h3 i3 9) h4 (T 5) h6 (T 7) ((swR (T 7) (T 0 0) (T 0 1) 1801 h8).2) ++ iaX cI (rf 6) 6 y2)) hx hb hK hP hD hS rfl rfl (by omega) (by decide) dX9_packs_244 (by rw [qU_3 (by omega)]; rfl) (fun Hp locs hP hD hS => ?_)
                            refine lv_aload_n hx hb dX9_packs_245 rfl (lv_at hl 4 rfl) ?_
                            refine gf_n (C := RX9) (T := TX9) (N := 15) (ci := 9) (q0 := 0) (v := .ref (rf 0)) hx hb hts (iU inlX9) hown hK hP rfl rfl 0 (by decide) (kU u_129) rfl rfl dX9_packs_246 ?_
                            refine lv_iload hx hb dX9_packs_249 (lv_at hl 0 rfl) ?_
                            refine lv_iconst (v := (nI 3)) hx hb dX9_packs_251 (by decide) ?_
                            refine lv_iadd hx hb dX9_packs_252 ?_
                            rw [nI_add (6 + 4 * i3) 3]
                            refine lv_iconst (v := (nI 0)) hx hb dX9_packs_253 (by decide) ?_
                            refine is_n (q0 := 1) (t0 := 0) (ws2 := (mX mr rf st ln th pl hs vs dg xx ++ qX cI (rf 0) (T 0 0) (T 0 1) (T 0 2) (T 0 3 + sumN (T 8) 30) (T 0 4) (T 0 5) (T 1) h2 (va_up h3 i3 9) (va_up h4 i3 0) (T 5) h6 (T 7) ((swR (T 7) (T 0 0) (T 0 1) 1801 h8).2) ++ iaX cI (rf 6) 6 y2)) hx hb hK hP hD hS rfl rfl (by omega) (by decide) dX9_packs_254 (by rw [qU_4 (by omega)]; rfl) (fun Hp locs hP hD hS => ?_)
                            refine lv_iinc (v := (nI (i3 + 1))) (lv' := [(3, .int (nI (i3 + 1))), (4, .int (nI (6 + 4 * i3))), (2, .int (nI ((swR (T 7) (T 0 0) (T 0 1) 1801 h8).1))), (1, .int (nI 0)), (0, .ref mr)]) hx hb dX9_packs_255 hl (k := 1) rfl (nI_add i3 1) (by decide) rfl (fun ls hl => ?_)
                            refine lv_goto (tgt := 110) hx hb dX9_packs_258 (by decide) ?_
                            exact ih_110 (i3 + 1) h2 (va_up h3 i3 9) (va_up h4 i3 0) (by omega) (by first | (rw [show h2 i3 + 1 = (fun h => if 0 < ptT T h then min 9 (T 2 h + 1) else T 2 h) i3 from by rw [e2i]; exact ((if_pos hpt).trans (Nat.min_eq_right (by have := c_131.2; omega))).symm, e2, tabN_s]) | (rw [e2]; exact (tabN_k (show (fun h => if 0 < ptT T h then min 9 (T 2 h + 1) else T 2 h) i3 = T 2 i3 from if_neg hpt)).symm)) (by first | (rw [show h3 i3 - 1 = (fun h => if 0 < ptT T h then T 3 h - 1 else if T 4 h = 1 then min 9 (T 3 h + T 1 h) else T 3 h) i3 from by rw [e3i]; exact (if_pos hpt).symm, e3, tabN_s]) | (rw [show h3 i3 - 0 = (fun h => if 0 < ptT T h then T 3 h - 1 else if T 4 h = 1 then min 9 (T 3 h + T 1 h) else T 3 h) i3 from by rw [e3i]; rw [e3i] at c_166; exact (show T 3 i3 - 0 = T 3 i3 - 1 by omega).trans (if_pos hpt).symm, e3, tabN_s]) | (rw [show h3 i3 + T 1 i3 = (fun h => if 0 < ptT T h then T 3 h - 1 else if T 4 h = 1 then min 9 (T 3 h + T 1 h) else T 3 h) i3 from by rw [e3i]; rw [e3i] at c_219; exact ((if_neg hpt).trans ((if_pos (by rw [← e4i]; exact c_189)).trans (Nat.min_eq_right c_219))).symm, e3, tabN_s]) | (rw [e3i] at c_219; rw [e3]; exact (congrArg (va_up (tabN (fun h => if 0 < ptT T h then T 3 h - 1 else if T 4 h = 1 then min 9 (T 3 h + T 1 h) else T 3 h) i3 (T 3)) i3) ((if_neg hpt).trans ((if_pos (by rw [← e4i]; exact c_189)).trans (Nat.min_eq_left (Nat.le_of_lt c_219)))).symm).trans (tabN_s _ _ _)) | (rw [e3]; exact (tabN_k (show (fun h => if 0 < ptT T h then T 3 h - 1 else if T 4 h = 1 then min 9 (T 3 h + T 1 h) else T 3 h) i3 = T 3 i3 from (if_neg hpt).trans (if_neg (by rw [← e4i]; exact c_189)))).symm)) (by rw [e4]; exact filN_s 0 i3 _) (by omega) _ _ hP hD hS _ (lv_sub hl [0, 2, 3, 4] rfl)
                      · skip
                        replace c_131 := cb_nz c_131
                        replace c_131 : getsB (T 2) (T 4) i3 := ⟨by rw [← e4i]; exact c_131.1, by rw [← e2i]; exact c_131.2⟩
                        have hpt : 0 < ptT T i3 := pt_pos c_131 a6
                        refine lv_aload_n hx hb dX9_packs_134 rfl (lv_at hl 4 rfl) ?_
                        refine gf_n (C := RX9) (T := TX9) (N := 15) (ci := 9) (q0 := 0) (v := .ref (rf 0)) hx hb hts (iU inlX9) hown hK hP rfl rfl 0 (by decide) (kU u_129) rfl rfl dX9_packs_135 ?_
                        refine lv_iload hx hb dX9_packs_138 (lv_at hl 0 rfl) ?_
                        refine lv_iconst (v := (nI 1)) hx hb dX9_packs_140 (by decide) ?_
                        refine lv_iadd hx hb dX9_packs_141 ?_
                        rw [nI_add (6 + 4 * i3) 1]
                        refine lv_dup2_11 hx hb dX9_packs_142 rfl rfl ?_
                        refine ia_n (q0 := 1) (t0 := 0) hx hb hK hP rfl rfl (by omega) (by decide) dX9_packs_143 ?_
                        rw [qR_2 (by omega)]
                        refine lv_iconst (v := (nI 1)) hx hb dX9_packs_144 (by decide) ?_
                        refine lv_iadd hx hb dX9_packs_145 ?_
                        rw [nI_add (h2 i3) 1]
                        refine is_n (q0 := 1) (t0 := 0) (ws2 := (mX mr rf st ln th pl hs vs dg xx ++ qX cI (rf 0) (T 0 0) (T 0 1) (T 0 2) (T 0 3 + sumN (T 8) 30) (T 0 4) (T 0 5) (T 1) (va_up h2 i3 ((h2 i3) + 1)) h3 h4 (T 5) h6 (T 7) ((swR (T 7) (T 0 0) (T 0 1) 1801 h8).2) ++ iaX cI (rf 6) 6 y2)) hx hb hK hP hD hS rfl rfl (by omega) (by decide) dX9_packs_146 (by rw [qU_2 (by omega)]; rfl) (fun Hp locs hP hD hS => ?_)
                        refine lv_aload_n hx hb dX9_packs_147 rfl (lv_at hl 4 rfl) ?_
                        refine gf_n (C := RX9) (T := TX9) (N := 15) (ci := 9) (q0 := 0) (v := .ref (rf 0)) hx hb hts (iU inlX9) hown hK hP rfl rfl 0 (by decide) (kU u_129) rfl rfl dX9_packs_148 ?_
                        refine lv_iload hx hb dX9_packs_151 (lv_at hl 0 rfl) ?_
                        refine lv_iconst (v := (nI 2)) hx hb dX9_packs_153 (by decide) ?_
                        refine lv_iadd hx hb dX9_packs_154 ?_
                        rw [nI_add (6 + 4 * i3) 2]
                        refine lv_dup2_11 hx hb dX9_packs_155 rfl rfl ?_
                        refine ia_n (q0 := 1) (t0 := 0) hx hb hK hP rfl rfl (by omega) (by decide) dX9_packs_156 ?_
                        rw [qR_3 (by omega)]
                        refine lv_aload_n hx hb dX9_packs_157 rfl (lv_at hl 4 rfl) ?_
                        refine gf_n (C := RX9) (T := TX9) (N := 15) (ci := 9) (q0 := 0) (v := .ref (rf 0)) hx hb hts (iU inlX9) hown hK hP rfl rfl 0 (by decide) (kU u_129) rfl rfl dX9_packs_158 ?_
                        refine lv_iload hx hb dX9_packs_161 (lv_at hl 0 rfl) ?_
                        refine lv_iconst (v := (nI 2)) hx hb dX9_packs_163 (by decide) ?_
                        refine lv_iadd hx hb dX9_packs_164 ?_
                        rw [nI_add (6 + 4 * i3) 2]
                        refine ia_n (q0 := 1) (t0 := 0) hx hb hK hP rfl rfl (by omega) (by decide) dX9_packs_165 ?_
                        rw [qR_3 (by omega)]
                        refine lv_if_le (tgt := 173) hx hb dX9_packs_166 (by decide) (fun c_166 => ?_) (fun c_166 => ?_)
                        · skip
                          replace c_166 := cn_le (b := 0) (by rw [e3i]; omega) (by decide) c_166
                          refine lv_iconst (v := (nI 0)) hx hb dX9_packs_173 (by decide) ?_
                          refine lv_isub hx hb dX9_packs_174 ?_
                          rw [pk_sub (a := h3 i3) (b := 0) (by omega)]
                          refine is_n (q0 := 1) (t0 := 0) (ws2 := (mX mr rf st ln th pl hs vs dg xx ++ qX cI (rf 0) (T 0 0) (T 0 1) (T 0 2) (T 0 3 + sumN (T 8) 30) (T 0 4) (T 0 5) (T 1) (va_up h2 i3 ((h2 i3) + 1)) (va_up h3 i3 ((h3 i3) - 0)) h4 (T 5) h6 (T 7) ((swR (T 7) (T 0 0) (T 0 1) 1801 h8).2) ++ iaX cI (rf 6) 6 y2)) hx hb hK hP hD hS rfl rfl (by omega) (by decide) dX9_packs_175 (by rw [qU_3 (by omega)]; rfl) (fun Hp locs hP hD hS => ?_)
                          refine lv_goto (tgt := 245) hx hb dX9_packs_176 (by decide) ?_
                          refine lv_aload_n hx hb dX9_packs_245 rfl (lv_at hl 4 rfl) ?_
                          refine gf_n (C := RX9) (T := TX9) (N := 15) (ci := 9) (q0 := 0) (v := .ref (rf 0)) hx hb hts (iU inlX9) hown hK hP rfl rfl 0 (by decide) (kU u_129) rfl rfl dX9_packs_246 ?_
                          refine lv_iload hx hb dX9_packs_249 (lv_at hl 0 rfl) ?_
                          refine lv_iconst (v := (nI 3)) hx hb dX9_packs_251 (by decide) ?_
                          refine lv_iadd hx hb dX9_packs_252 ?_
                          rw [nI_add (6 + 4 * i3) 3]
                          refine lv_iconst (v := (nI 0)) hx hb dX9_packs_253 (by decide) ?_
                          refine is_n (q0 := 1) (t0 := 0) (ws2 := (mX mr rf st ln th pl hs vs dg xx ++ qX cI (rf 0) (T 0 0) (T 0 1) (T 0 2) (T 0 3 + sumN (T 8) 30) (T 0 4) (T 0 5) (T 1) (va_up h2 i3 ((h2 i3) + 1)) (va_up h3 i3 ((h3 i3) - 0)) (va_up h4 i3 0) (T 5) h6 (T 7) ((swR (T 7) (T 0 0) (T 0 1) 1801 h8).2) ++ iaX cI (rf 6) 6 y2)) hx hb hK hP hD hS rfl rfl (by omega) (by decide) dX9_packs_254 (by rw [qU_4 (by omega)]; rfl) (fun Hp locs hP hD hS => ?_)
                          refine lv_iinc (v := (nI (i3 + 1))) (lv' := [(3, .int (nI (i3 + 1))), (4, .int (nI (6 + 4 * i3))), (2, .int (nI ((swR (T 7) (T 0 0) (T 0 1) 1801 h8).1))), (1, .int (nI 0)), (0, .ref mr)]) hx hb dX9_packs_255 hl (k := 1) rfl (nI_add i3 1) (by decide) rfl (fun ls hl => ?_)
                          refine lv_goto (tgt := 110) hx hb dX9_packs_258 (by decide) ?_
                          exact ih_110 (i3 + 1) (va_up h2 i3 ((h2 i3) + 1)) (va_up h3 i3 ((h3 i3) - 0)) (va_up h4 i3 0) (by omega) (by first | (rw [show h2 i3 + 1 = (fun h => if 0 < ptT T h then min 9 (T 2 h + 1) else T 2 h) i3 from by rw [e2i]; exact ((if_pos hpt).trans (Nat.min_eq_right (by have := c_131.2; omega))).symm, e2, tabN_s]) | (rw [e2]; exact (tabN_k (show (fun h => if 0 < ptT T h then min 9 (T 2 h + 1) else T 2 h) i3 = T 2 i3 from if_neg hpt)).symm)) (by first | (rw [show h3 i3 - 1 = (fun h => if 0 < ptT T h then T 3 h - 1 else if T 4 h = 1 then min 9 (T 3 h + T 1 h) else T 3 h) i3 from by rw [e3i]; exact (if_pos hpt).symm, e3, tabN_s]) | (rw [show h3 i3 - 0 = (fun h => if 0 < ptT T h then T 3 h - 1 else if T 4 h = 1 then min 9 (T 3 h + T 1 h) else T 3 h) i3 from by rw [e3i]; rw [e3i] at c_166; exact (show T 3 i3 - 0 = T 3 i3 - 1 by omega).trans (if_pos hpt).symm, e3, tabN_s]) | (rw [show h3 i3 + T 1 i3 = (fun h => if 0 < ptT T h then T 3 h - 1 else if T 4 h = 1 then min 9 (T 3 h + T 1 h) else T 3 h) i3 from by rw [e3i]; rw [e3i] at c_219; exact ((if_neg hpt).trans ((if_pos (by rw [← e4i]; exact c_189)).trans (Nat.min_eq_right c_219))).symm, e3, tabN_s]) | (rw [e3i] at c_219; rw [e3]; exact (congrArg (va_up (tabN (fun h => if 0 < ptT T h then T 3 h - 1 else if T 4 h = 1 then min 9 (T 3 h + T 1 h) else T 3 h) i3 (T 3)) i3) ((if_neg hpt).trans ((if_pos (by rw [← e4i]; exact c_189)).trans (Nat.min_eq_left (Nat.le_of_lt c_219)))).symm).trans (tabN_s _ _ _)) | (rw [e3]; exact (tabN_k (show (fun h => if 0 < ptT T h then T 3 h - 1 else if T 4 h = 1 then min 9 (T 3 h + T 1 h) else T 3 h) i3 = T 3 i3 from (if_neg hpt).trans (if_neg (by rw [← e4i]; exact c_189)))).symm)) (by rw [e4]; exact filN_s 0 i3 _) (by omega) _ _ hP hD hS _ (lv_sub hl [0, 2, 3, 4] rfl)
                        · skip
                          replace c_166 := cn_nle (b := 0) (by rw [e3i]; omega) (by decide) c_166
                          refine lv_iconst (v := (nI 1)) hx hb dX9_packs_169 (by decide) ?_
                          refine lv_goto (tgt := 174) hx hb dX9_packs_170 (by decide) ?_
                          refine lv_isub hx hb dX9_packs_174 ?_
                          rw [pk_sub (a := h3 i3) (b := 1) (by omega)]
                          refine is_n (q0 := 1) (t0 := 0) (ws2 := (mX mr rf st ln th pl hs vs dg xx ++ qX cI (rf 0) (T 0 0) (T 0 1) (T 0 2) (T 0 3 + sumN (T 8) 30) (T 0 4) (T 0 5) (T 1) (va_up h2 i3 ((h2 i3) + 1)) (va_up h3 i3 ((h3 i3) - 1)) h4 (T 5) h6 (T 7) ((swR (T 7) (T 0 0) (T 0 1) 1801 h8).2) ++ iaX cI (rf 6) 6 y2)) hx hb hK hP hD hS rfl rfl (by omega) (by decide) dX9_packs_175 (by rw [qU_3 (by omega)]; rfl) (fun Hp locs hP hD hS => ?_)
                          refine lv_goto (tgt := 245) hx hb dX9_packs_176 (by decide) ?_
                          refine lv_aload_n hx hb dX9_packs_245 rfl (lv_at hl 4 rfl) ?_
                          refine gf_n (C := RX9) (T := TX9) (N := 15) (ci := 9) (q0 := 0) (v := .ref (rf 0)) hx hb hts (iU inlX9) hown hK hP rfl rfl 0 (by decide) (kU u_129) rfl rfl dX9_packs_246 ?_
                          refine lv_iload hx hb dX9_packs_249 (lv_at hl 0 rfl) ?_
                          refine lv_iconst (v := (nI 3)) hx hb dX9_packs_251 (by decide) ?_
                          refine lv_iadd hx hb dX9_packs_252 ?_
                          rw [nI_add (6 + 4 * i3) 3]
                          refine lv_iconst (v := (nI 0)) hx hb dX9_packs_253 (by decide) ?_
                          refine is_n (q0 := 1) (t0 := 0) (ws2 := (mX mr rf st ln th pl hs vs dg xx ++ qX cI (rf 0) (T 0 0) (T 0 1) (T 0 2) (T 0 3 + sumN (T 8) 30) (T 0 4) (T 0 5) (T 1) (va_up h2 i3 ((h2 i3) + 1)) (va_up h3 i3 ((h3 i3) - 1)) (va_up h4 i3 0) (T 5) h6 (T 7) ((swR (T 7) (T 0 0) (T 0 1) 1801 h8).2) ++ iaX cI (rf 6) 6 y2)) hx hb hK hP hD hS rfl rfl (by omega) (by decide) dX9_packs_254 (by rw [qU_4 (by omega)]; rfl) (fun Hp locs hP hD hS => ?_)
                          refine lv_iinc (v := (nI (i3 + 1))) (lv' := [(3, .int (nI (i3 + 1))), (4, .int (nI (6 + 4 * i3))), (2, .int (nI ((swR (T 7) (T 0 0) (T 0 1) 1801 h8).1))), (1, .int (nI 0)), (0, .ref mr)]) hx hb dX9_packs_255 hl (k := 1) rfl (nI_add i3 1) (by decide) rfl (fun ls hl => ?_)
                          refine lv_goto (tgt := 110) hx hb dX9_packs_258 (by decide) ?_
                          exact ih_110 (i3 + 1) (va_up h2 i3 ((h2 i3) + 1)) (va_up h3 i3 ((h3 i3) - 1)) (va_up h4 i3 0) (by omega) (by first | (rw [show h2 i3 + 1 = (fun h => if 0 < ptT T h then min 9 (T 2 h + 1) else T 2 h) i3 from by rw [e2i]; exact ((if_pos hpt).trans (Nat.min_eq_right (by have := c_131.2; omega))).symm, e2, tabN_s]) | (rw [e2]; exact (tabN_k (show (fun h => if 0 < ptT T h then min 9 (T 2 h + 1) else T 2 h) i3 = T 2 i3 from if_neg hpt)).symm)) (by first | (rw [show h3 i3 - 1 = (fun h => if 0 < ptT T h then T 3 h - 1 else if T 4 h = 1 then min 9 (T 3 h + T 1 h) else T 3 h) i3 from by rw [e3i]; exact (if_pos hpt).symm, e3, tabN_s]) | (rw [show h3 i3 - 0 = (fun h => if 0 < ptT T h then T 3 h - 1 else if T 4 h = 1 then min 9 (T 3 h + T 1 h) else T 3 h) i3 from by rw [e3i]; rw [e3i] at c_166; exact (show T 3 i3 - 0 = T 3 i3 - 1 by omega).trans (if_pos hpt).symm, e3, tabN_s]) | (rw [show h3 i3 + T 1 i3 = (fun h => if 0 < ptT T h then T 3 h - 1 else if T 4 h = 1 then min 9 (T 3 h + T 1 h) else T 3 h) i3 from by rw [e3i]; rw [e3i] at c_219; exact ((if_neg hpt).trans ((if_pos (by rw [← e4i]; exact c_189)).trans (Nat.min_eq_right c_219))).symm, e3, tabN_s]) | (rw [e3i] at c_219; rw [e3]; exact (congrArg (va_up (tabN (fun h => if 0 < ptT T h then T 3 h - 1 else if T 4 h = 1 then min 9 (T 3 h + T 1 h) else T 3 h) i3 (T 3)) i3) ((if_neg hpt).trans ((if_pos (by rw [← e4i]; exact c_189)).trans (Nat.min_eq_left (Nat.le_of_lt c_219)))).symm).trans (tabN_s _ _ _)) | (rw [e3]; exact (tabN_k (show (fun h => if 0 < ptT T h then T 3 h - 1 else if T 4 h = 1 then min 9 (T 3 h + T 1 h) else T 3 h) i3 = T 3 i3 from (if_neg hpt).trans (if_neg (by rw [← e4i]; exact c_189)))).symm)) (by rw [e4]; exact filN_s 0 i3 _) (by omega) _ _ hP hD hS _ (lv_sub hl [0, 2, 3, 4] rfl)
                exact loop_110 ((T 0 0 - 0) + 1) 0 (T 2) (T 3) (T 4) (Nat.zero_le _) (tabN_0 _ _).symm (tabN_0 _ _).symm (filN_0 _ _).symm (Nat.lt_succ_self _) _ _ hP hD hS _ (lv_sub hl [0, 1, 2, 3] rfl)
              · skip
                replace c_59 := cn_nle (by omega) (by omega) c_59
                refine lv_iload_n hx hb dX9_packs_62 rfl (lv_at hl 1 rfl) ?_
                refine lv_if_eq (tgt := 74) hx hb dX9_packs_63 (by decide) (fun _ => ?_) (fun c_63 => absurd (by decide +kernel) c_63)
                refine lv_aload_n hx hb dX9_packs_74 rfl (lv_at hl 2 rfl) ?_
                refine gf_n (C := RX9) (T := TX9) (N := 15) (ci := 9) (q0 := 0) (v := .ref (rf 0)) hx hb hts (iU inlX9) hown hK hP rfl rfl 0 (by decide) (kU u_129) rfl rfl dX9_packs_75 ?_
                refine lv_iload_n hx hb dX9_packs_78 rfl (lv_at hl 0 rfl) ?_
                refine gp_S (c_X9_harvest l D cI cZ cF cL i ) (gUS u_278 u_279 u_5 u_280) rfl hdS_X9_harvest ⟨Nat.le_of_ble_eq_true rfl, Nat.le_of_ble_eq_true rfl⟩ ⟨rfl, rfl⟩ hx hb hml hown hts hK hA hP hD hS hl.1 ⟨Nat.le_of_ble_eq_true rfl, Nat.le_of_ble_eq_true rfl⟩ (wr := (mX mr rf st ln th pl hs vs dg xx ++ qX cI (rf 0) (T 0 0) (T 0 1) (T 0 2) (T 0 3 + sumN (T 8) 30) (T 0 4) (T 0 5) (T 1) (T 2) (T 3) (T 4) (T 5) h6 (T 7) h8 ++ iaX cI (rf 6) 6 y2)) (pm_cnt (fun _ => by simp only [List.countP_append, List.countP_nil, fT] <;> omega)) (fun _ => by simp only [List.map_append, List.map_nil, fX_m, bX_m, sX_m, pX_m, iaX_m, r5X_m, r6X_m, fT_m, hX_m, tX_m, xX_m, sgX_m, zaX_m, fsB_a, qX_m, mX_m]) (rest := [.ref (rf 0)]) rfl rfl (Nat.le_of_ble_eq_true rfl) dX9_packs_79 (ws2 := (fun _ : Unit => (mX mr rf st ln th pl hs vs dg xx ++ qX cI (rf 0) (T 0 0) (T 0 1) (T 0 2) (T 0 3 + sumN (T 8) 30) (T 0 4) (T 0 5) (T 1) (T 2) (T 3) (T 4) (T 5) h6 (T 7) h8 ++ iaX cI (rf 6) 6 y2))) (fun _ => (pm_cnt (fun _ => by simp only [List.countP_append, List.countP_nil, fT] <;> omega))) (fun _ Hp locs hP hD hS => ?_)
                refine lv_iconst (v := (nI 1)) hx hb dX9_packs_82 (by decide) ?_
                refine lv_iadd hx hb dX9_packs_83 ?_
                rw [nI_add (30 + 2 * i) 1]
                refine lv_dup2_11 hx hb dX9_packs_84 rfl rfl ?_
                refine ia_n (q0 := 1) (t0 := 0) hx hb hK hP rfl rfl (by omega) (by decide) dX9_packs_85 ?_
                rw [qR_6 (by omega)]
                refine lv_aload_n hx hb dX9_packs_86 rfl (lv_at hl 2 rfl) ?_
                refine gf_n (C := RX9) (T := TX9) (N := 15) (ci := 9) (q0 := 0) (v := .ref (rf 0)) hx hb hts (iU inlX9) hown hK hP rfl rfl 0 (by decide) (kU u_129) rfl rfl dX9_packs_87 ?_
                refine lv_iload_n hx hb dX9_packs_90 rfl (lv_at hl 0 rfl) ?_
                refine gp_S (c_X9_harvest l D cI cZ cF cL i ) (gUS u_278 u_279 u_5 u_280) rfl hdS_X9_harvest ⟨Nat.le_of_ble_eq_true rfl, Nat.le_of_ble_eq_true rfl⟩ ⟨rfl, rfl⟩ hx hb hml hown hts hK hA hP hD hS hl.1 ⟨Nat.le_of_ble_eq_true rfl, Nat.le_of_ble_eq_true rfl⟩ (wr := (mX mr rf st ln th pl hs vs dg xx ++ qX cI (rf 0) (T 0 0) (T 0 1) (T 0 2) (T 0 3 + sumN (T 8) 30) (T 0 4) (T 0 5) (T 1) (T 2) (T 3) (T 4) (T 5) h6 (T 7) h8 ++ iaX cI (rf 6) 6 y2)) (pm_cnt (fun _ => by simp only [List.countP_append, List.countP_nil, fT] <;> omega)) (fun _ => by simp only [List.map_append, List.map_nil, fX_m, bX_m, sX_m, pX_m, iaX_m, r5X_m, r6X_m, fT_m, hX_m, tX_m, xX_m, sgX_m, zaX_m, fsB_a, qX_m, mX_m]) (rest := [.ref (rf 0), .int (nI (h6 i)), .int (nI ((30 + 2 * i) + 1)), .ref (rf 0)]) rfl rfl (Nat.le_of_ble_eq_true rfl) dX9_packs_91 (ws2 := (fun _ : Unit => (mX mr rf st ln th pl hs vs dg xx ++ qX cI (rf 0) (T 0 0) (T 0 1) (T 0 2) (T 0 3 + sumN (T 8) 30) (T 0 4) (T 0 5) (T 1) (T 2) (T 3) (T 4) (T 5) h6 (T 7) h8 ++ iaX cI (rf 6) 6 y2))) (fun _ => (pm_cnt (fun _ => by simp only [List.countP_append, List.countP_nil, fT] <;> omega))) (fun _ Hp locs hP hD hS => ?_)
                refine ia_n (q0 := 1) (t0 := 0) hx hb hK hP rfl rfl (by omega) (by decide) dX9_packs_94 ?_
                rw [qR_5 (by omega)]
                refine lv_iadd hx hb dX9_packs_95 ?_
                rw [nI_add (h6 i) ((T 5) i)]
                refine is_n (q0 := 1) (t0 := 0) (ws2 := (mX mr rf st ln th pl hs vs dg xx ++ qX cI (rf 0) (T 0 0) (T 0 1) (T 0 2) (T 0 3 + sumN (T 8) 30) (T 0 4) (T 0 5) (T 1) (T 2) (T 3) (T 4) (T 5) (va_up h6 i ((h6 i) + ((T 5) i))) (T 7) h8 ++ iaX cI (rf 6) 6 y2)) hx hb hK hP hD hS rfl rfl (by omega) (by decide) dX9_packs_96 (by rw [qU_6 (by omega)]; rfl) (fun Hp locs hP hD hS => ?_)
                refine lv_iinc (v := (nI (i + 1))) (lv' := [(2, .int (nI (i + 1))), (1, .int (nI 0)), (0, .ref mr)]) hx hb dX9_packs_97 hl (k := 0) rfl (nI_add i 1) (by decide) rfl (fun ls hl => ?_)
                refine lv_goto (tgt := 52) hx hb dX9_packs_100 (by decide) ?_
                exact ih_52 (i + 1) (va_up h6 i ((h6 i) + ((T 5) i))) h8 y2 (by omega) (by first | (rw [e8, e6]; rfl) | (rw [e8]; exact (congrArg Prod.fst (pkV_0 (v := i) (f5 := T 5) (f7 := T 7) (nH := T 0 0) (s := pkS (T 5) (T 6) (T 7) (partN (T 1) (T 2) (T 3) (T 4)) (sumN (partN (T 1) (T 2) (T 3) (T 4)) (T 0 0)) (T 0 0) i) hP0 (sum_0 _ hP0))).symm)) (by first | (rw [e8, e6]; rfl) | (rw [e6]; exact (congrArg Prod.snd (pkV_0 (v := i) (f5 := T 5) (f7 := T 7) (nH := T 0 0) (s := pkS (T 5) (T 6) (T 7) (partN (T 1) (T 2) (T 3) (T 4)) (sumN (partN (T 1) (T 2) (T 3) (T 4)) (T 0 0)) (T 0 0) i) hP0 (sum_0 _ hP0))).symm)) (by omega) _ _ hP hD hS _ (lv_sub hl [0, 1, 2] rfl)
          exact loop_52 ((T 0 1 - 0) + 1) 0 (T 6) ((fun _ => 0)) g (Nat.zero_le _) rfl rfl (Nat.lt_succ_self _) _ _ hP hD hS _ (lv_sub hl [0, 1, 2] rfl)
        · skip
          replace c_41 := cn_nle (b := 0) (by have := FI_box T; omega) (by decide) c_41
          have hPP : 0 < sumN (partN (T 1) (T 2) (T 3) (T 4)) (T 0 0) := (box_pos (f1 := T 1) (f2 := T 2) (f3 := T 3) (f4 := T 4) (T 0 0) (fun h hh => (hT.2.1 h (by omega)).2.2.2.2.1 hh)).mp c_41
          refine lv_iconst (v := (nI 1)) hx hb dX9_packs_44 (by decide) ?_
          refine lv_goto (tgt := 49) hx hb dX9_packs_45 (by decide) ?_
          refine lv_istore_n (lv' := [(1, .int (nI 1)), (0, .ref mr)]) hx hb dX9_packs_49 rfl hl (by decide) rfl (fun ls hl => ?_)
          refine lv_iconst (v := (nI 0)) hx hb dX9_packs_50 (by decide) ?_
          refine lv_istore_n (lv' := [(2, .int (nI 0)), (1, .int (nI 1)), (0, .ref mr)]) hx hb dX9_packs_51 rfl hl (by decide) rfl (fun ls hl => ?_)
          have loop_52 : ∀ (dd : Nat) (i : Nat) (h6 : Nat → Nat) (h8 : Nat → Nat) (y2 : Nat → Nat), (i ≤ T 0 1) → (h8 = (pkS (T 5) (T 6) (T 7) (partN (T 1) (T 2) (T 3) (T 4)) (sumN (partN (T 1) (T 2) (T 3) (T 4)) (T 0 0)) (T 0 0) i).1) → (h6 = (pkS (T 5) (T 6) (T 7) (partN (T 1) (T 2) (T 3) (T 4)) (sumN (partN (T 1) (T 2) (T 3) (T 4)) (T 0 0)) (T 0 0) i).2) → (T 0 1 - i) < dd → ∀ (Hp : Heap) (locs : List Loc), va_P D vwCl (mX mr rf st ln th pl hs vs dg xx ++ qX cI (rf 0) (T 0 0) (T 0 1) (T 0 2) (T 0 3 + sumN (T 8) 30) (T 0 4) (T 0 5) (T 1) (T 2) (T 3) (T 4) (T 5) h6 (T 7) h8 ++ iaX cI (rf 6) 6 y2) Hp → va_D A (mX mr rf st ln th pl hs vs dg xx ++ qX cI (rf 0) (T 0 0) (T 0 1) (T 0 2) (T 0 3 + sumN (T 8) 30) (T 0 4) (T 0 5) (T 1) (T 2) (T 3) (T 4) (T 5) h6 (T 7) h8 ++ iaX cI (rf 6) 6 y2) → va_S A s.heap Hp locs → ∀ ls : Array Slot, lv_has ls 5 [(2, .int (nI i)), (1, .int (nI 1)), (0, .ref mr)] → W p l e (rmF 4 100) s m args below meth c Hp locs 0 0 (MQ below (CQ D (some (.int (nI (packT T 0 5)))) (fun u : (Nat → Nat) => (mX mr rf st ln th pl hs vs dg xx ++ qX cI (rf 0) ((packT T) 0 0) ((packT T) 0 1) ((packT T) 0 2) ((packT T) 0 3) ((packT T) 0 4) ((packT T) 0 5) ((packT T) 1) ((packT T) 2) ((packT T) 3) ((packT T) 4) ((packT T) 5) ((packT T) 6) ((packT T) 7) ((packT T) 8) ++ iaX cI (rf 6) 6 u)) A) args s 0 0 A) (F0 m 52 ls []) := by
            intro dd
            induction dd with
            | zero => intro i h6 h8 y2 hi e8 e6 hm; exact absurd hm (Nat.not_lt_zero _)
            | succ dd ih_52 =>
              intro i h6 h8 y2 hi e8 e6 hm Hp locs hP hD hS ls hl
              refine lv_iload_n hx hb dX9_packs_52 rfl (lv_at hl 0 rfl) ?_
              refine lv_aload_n hx hb dX9_packs_53 rfl (lv_at hl 2 rfl) ?_
              refine gf_n (C := RX9) (T := TX9) (N := 15) (ci := 9) (q0 := 0) (v := .ref (rf 0)) hx hb hts (iU inlX9) hown hK hP rfl rfl 0 (by decide) (kU u_129) rfl rfl dX9_packs_54 ?_
              refine lv_iconst (v := (nI 1)) hx hb dX9_packs_57 (by decide) ?_
              refine ia_n (q0 := 1) (t0 := 0) hx hb hK hP rfl rfl (by omega) (by decide) dX9_packs_58 ?_
              rw [show qN (T 0 0) (T 0 1) (T 0 2) (T 0 3 + sumN (T 8) 30) (T 0 4) (T 0 5) (T 1) (T 2) (T 3) (T 4) (T 5) h6 (T 7) h8 1 = (T 0 1) from rfl]
              refine lv_icmp_ge (tgt := 103) hx hb dX9_packs_59 (by decide) (fun c_59 => ?_) (fun c_59 => ?_)
              · skip
                replace c_59 := cn_le (by omega) (by omega) c_59
                refine lv_aload_n hx hb dX9_packs_103 rfl (lv_at hl 2 rfl) ?_
                refine gp_V (ci := 9) (q0 := 0) (cq := (RX9, TX9, 15)) (c_X9_swaps l D cI cZ cF cL mr rf st ln th pl hs vs dg xx (T 0 0) (T 0 1) (T 0 2) (T 0 3 + sumN (T 8) 30) (T 0 4) (T 0 5) (T 1) (T 2) (T 3) (T 4) (T 5) h6 (T 7) h8 hH hV hT.2.2.2.1 (by rw [e8, show i = T 0 1 by omega]; exact pkT_sum hT)) (gUV u_665 u_666 u_667 u_5 u_668) rfl hdV_X9_swaps ⟨Nat.le_of_ble_eq_true rfl, Nat.le_of_ble_eq_true rfl⟩ ⟨rfl, rfl⟩ hx hb hml hown hts hK hA hP hD hS hl.1 ⟨Nat.le_of_ble_eq_true rfl, Nat.le_of_ble_eq_true rfl⟩ rfl rfl rfl (wr := (iaX cI (rf 6) 6 y2)) (pm_cnt (fun _ => by simp only [List.countP_append, List.countP_nil, fT] <;> omega)) (fun _ => by simp only [List.map_append, List.map_nil, fX_m, bX_m, sX_m, pX_m, iaX_m, r5X_m, r6X_m, fT_m, hX_m, tX_m, xX_m, sgX_m, zaX_m, fsB_a, qX_m, mX_m]) (rest := []) rfl rfl (Nat.le_of_ble_eq_true rfl) dX9_packs_104 (ws2 := (fun _ : Unit => (mX mr rf st ln th pl hs vs dg xx ++ qX cI (rf 0) (T 0 0) (T 0 1) (T 0 2) (T 0 3 + sumN (T 8) 30) (T 0 4) (T 0 5) (T 1) (T 2) (T 3) (T 4) (T 5) h6 (T 7) ((swR (T 7) (T 0 0) (T 0 1) 1801 h8).2) ++ iaX cI (rf 6) 6 y2))) (fun _ => (pm_cnt (fun _ => by simp only [List.countP_append, List.countP_nil, fT] <;> omega))) (fun _ Hp locs hP hD hS => ?_)
                refine lv_istore_n (lv' := [(2, .int (nI ((swR (T 7) (T 0 0) (T 0 1) 1801 h8).1))), (1, .int (nI 1)), (0, .ref mr)]) hx hb dX9_packs_107 rfl hl (by decide) rfl (fun ls hl => ?_)
                refine lv_iconst (v := (nI 0)) hx hb dX9_packs_108 (by decide) ?_
                refine lv_istore_n (lv' := [(3, .int (nI 0)), (2, .int (nI ((swR (T 7) (T 0 0) (T 0 1) 1801 h8).1))), (1, .int (nI 1)), (0, .ref mr)]) hx hb dX9_packs_109 rfl hl (by decide) rfl (fun ls hl => ?_)
                have loop_110 : ∀ (dd : Nat) (i3 : Nat) (h2 : Nat → Nat) (h3 : Nat → Nat) (h4 : Nat → Nat), (i3 ≤ T 0 0) → (h2 = tabN (fun h => if 0 < ptT T h then min 9 (T 2 h + 1) else T 2 h) i3 (T 2)) → (h3 = tabN (fun h => if 0 < ptT T h then T 3 h - 1 else if T 4 h = 1 then min 9 (T 3 h + T 1 h) else T 3 h) i3 (T 3)) → (h4 = filN 0 i3 (T 4)) → (T 0 0 - i3) < dd → ∀ (Hp : Heap) (locs : List Loc), va_P D vwCl (mX mr rf st ln th pl hs vs dg xx ++ qX cI (rf 0) (T 0 0) (T 0 1) (T 0 2) (T 0 3 + sumN (T 8) 30) (T 0 4) (T 0 5) (T 1) h2 h3 h4 (T 5) h6 (T 7) ((swR (T 7) (T 0 0) (T 0 1) 1801 h8).2) ++ iaX cI (rf 6) 6 y2) Hp → va_D A (mX mr rf st ln th pl hs vs dg xx ++ qX cI (rf 0) (T 0 0) (T 0 1) (T 0 2) (T 0 3 + sumN (T 8) 30) (T 0 4) (T 0 5) (T 1) h2 h3 h4 (T 5) h6 (T 7) ((swR (T 7) (T 0 0) (T 0 1) 1801 h8).2) ++ iaX cI (rf 6) 6 y2) → va_S A s.heap Hp locs → ∀ ls : Array Slot, lv_has ls 5 [(3, .int (nI i3)), (2, .int (nI ((swR (T 7) (T 0 0) (T 0 1) 1801 h8).1))), (1, .int (nI 1)), (0, .ref mr)] → W p l e (rmF 4 100) s m args below meth c Hp locs 0 0 (MQ below (CQ D (some (.int (nI (packT T 0 5)))) (fun u : (Nat → Nat) => (mX mr rf st ln th pl hs vs dg xx ++ qX cI (rf 0) ((packT T) 0 0) ((packT T) 0 1) ((packT T) 0 2) ((packT T) 0 3) ((packT T) 0 4) ((packT T) 0 5) ((packT T) 1) ((packT T) 2) ((packT T) 3) ((packT T) 4) ((packT T) 5) ((packT T) 6) ((packT T) 7) ((packT T) 8) ++ iaX cI (rf 6) 6 u)) A) args s 0 0 A) (F0 m 110 ls []) := by
                  intro dd
                  induction dd with
                  | zero => intro i3 h2 h3 h4 hi3 e2 e3 e4 hm; exact absurd hm (Nat.not_lt_zero _)
                  | succ dd ih_110 =>
                    intro i3 h2 h3 h4 hi3 e2 e3 e4 hm Hp locs hP hD hS ls hl
                    refine lv_iload_n hx hb dX9_packs_110 rfl (lv_at hl 0 rfl) ?_
                    refine lv_aload_n hx hb dX9_packs_111 rfl (lv_at hl 3 rfl) ?_
                    refine gf_n (C := RX9) (T := TX9) (N := 15) (ci := 9) (q0 := 0) (v := .ref (rf 0)) hx hb hts (iU inlX9) hown hK hP rfl rfl 0 (by decide) (kU u_129) rfl rfl dX9_packs_112 ?_
                    refine lv_iconst (v := (nI 0)) hx hb dX9_packs_115 (by decide) ?_
                    refine ia_n (q0 := 1) (t0 := 0) hx hb hK hP rfl rfl (by omega) (by decide) dX9_packs_116 ?_
                    rw [show qN (T 0 0) (T 0 1) (T 0 2) (T 0 3 + sumN (T 8) 30) (T 0 4) (T 0 5) (T 1) h2 h3 h4 (T 5) h6 (T 7) ((swR (T 7) (T 0 0) (T 0 1) 1801 h8).2) 0 = (T 0 0) from rfl]
                    refine lv_icmp_ge (tgt := 261) hx hb dX9_packs_117 (by decide) (fun c_117 => ?_) (fun c_117 => ?_)
                    · skip
                      replace c_117 := cn_le (by omega) (by omega) c_117
                      refine lv_iconst (v := (nI 0)) hx hb dX9_packs_261 (by decide) ?_
                      refine lv_istore_n (lv' := [(3, .int (nI 0)), (2, .int (nI ((swR (T 7) (T 0 0) (T 0 1) 1801 h8).1))), (1, .int (nI 1)), (0, .ref mr)]) hx hb dX9_packs_262 rfl hl (by decide) rfl (fun ls hl => ?_)
                      have loop_263 : ∀ (dd : Nat) (i4 : Nat) (h5 : Nat → Nat), (i4 ≤ T 0 1) → (h5 = filN 0 i4 (T 5)) → (T 0 1 - i4) < dd → ∀ (Hp : Heap) (locs : List Loc), va_P D vwCl (mX mr rf st ln th pl hs vs dg xx ++ qX cI (rf 0) (T 0 0) (T 0 1) (T 0 2) (T 0 3 + sumN (T 8) 30) (T 0 4) (T 0 5) (T 1) h2 h3 h4 h5 h6 (T 7) ((swR (T 7) (T 0 0) (T 0 1) 1801 h8).2) ++ iaX cI (rf 6) 6 y2) Hp → va_D A (mX mr rf st ln th pl hs vs dg xx ++ qX cI (rf 0) (T 0 0) (T 0 1) (T 0 2) (T 0 3 + sumN (T 8) 30) (T 0 4) (T 0 5) (T 1) h2 h3 h4 h5 h6 (T 7) ((swR (T 7) (T 0 0) (T 0 1) 1801 h8).2) ++ iaX cI (rf 6) 6 y2) → va_S A s.heap Hp locs → ∀ ls : Array Slot, lv_has ls 5 [(3, .int (nI i4)), (2, .int (nI ((swR (T 7) (T 0 0) (T 0 1) 1801 h8).1))), (1, .int (nI 1)), (0, .ref mr)] → W p l e (rmF 4 100) s m args below meth c Hp locs 0 0 (MQ below (CQ D (some (.int (nI (packT T 0 5)))) (fun u : (Nat → Nat) => (mX mr rf st ln th pl hs vs dg xx ++ qX cI (rf 0) ((packT T) 0 0) ((packT T) 0 1) ((packT T) 0 2) ((packT T) 0 3) ((packT T) 0 4) ((packT T) 0 5) ((packT T) 1) ((packT T) 2) ((packT T) 3) ((packT T) 4) ((packT T) 5) ((packT T) 6) ((packT T) 7) ((packT T) 8) ++ iaX cI (rf 6) 6 u)) A) args s 0 0 A) (F0 m 263 ls []) := by
                        intro dd
                        induction dd with
                        | zero => intro i4 h5 hi4 e5 hm; exact absurd hm (Nat.not_lt_zero _)
                        | succ dd ih_263 =>
                          intro i4 h5 hi4 e5 hm Hp locs hP hD hS ls hl
                          refine lv_iload_n hx hb dX9_packs_263 rfl (lv_at hl 0 rfl) ?_
                          refine lv_aload_n hx hb dX9_packs_264 rfl (lv_at hl 3 rfl) ?_
                          refine gf_n (C := RX9) (T := TX9) (N := 15) (ci := 9) (q0 := 0) (v := .ref (rf 0)) hx hb hts (iU inlX9) hown hK hP rfl rfl 0 (by decide) (kU u_129) rfl rfl dX9_packs_265 ?_
                          refine lv_iconst (v := (nI 1)) hx hb dX9_packs_268 (by decide) ?_
                          refine ia_n (q0 := 1) (t0 := 0) hx hb hK hP rfl rfl (by omega) (by decide) dX9_packs_269 ?_
                          rw [show qN (T 0 0) (T 0 1) (T 0 2) (T 0 3 + sumN (T 8) 30) (T 0 4) (T 0 5) (T 1) h2 h3 h4 h5 h6 (T 7) ((swR (T 7) (T 0 0) (T 0 1) 1801 h8).2) 1 = (T 0 1) from rfl]
                          refine lv_icmp_ge (tgt := 289) hx hb dX9_packs_270 (by decide) (fun c_270 => ?_) (fun c_270 => ?_)
                          · skip
                            replace c_270 := cn_le (by omega) (by omega) c_270
                            refine lv_aload_n hx hb dX9_packs_289 rfl (lv_at hl 3 rfl) ?_
                            refine gf_n (C := RX9) (T := TX9) (N := 15) (ci := 9) (q0 := 0) (v := .ref (rf 0)) hx hb hts (iU inlX9) hown hK hP rfl rfl 0 (by decide) (kU u_129) rfl rfl dX9_packs_290 ?_
                            refine lv_iconst (v := (nI 5)) hx hb dX9_packs_293 (by decide) ?_
                            refine lv_iload_n hx hb dX9_packs_294 rfl (lv_at hl 1 rfl) ?_
                            refine is_n (q0 := 1) (t0 := 0) (ws2 := (mX mr rf st ln th pl hs vs dg xx ++ qX cI (rf 0) (T 0 0) (T 0 1) (T 0 2) (T 0 3 + sumN (T 8) 30) (T 0 4) ((swR (T 7) (T 0 0) (T 0 1) 1801 h8).1) (T 1) h2 h3 h4 h5 h6 (T 7) ((swR (T 7) (T 0 0) (T 0 1) 1801 h8).2) ++ iaX cI (rf 6) 6 y2)) hx hb hK hP hD hS rfl rfl (by omega) (by decide) dX9_packs_295 (by rw [qU_06]; rfl) (fun Hp locs hP hD hS => ?_)
                            refine lv_aload_n hx hb dX9_packs_296 rfl (lv_at hl 3 rfl) ?_
                            refine gf_n (C := RX9) (T := TX9) (N := 15) (ci := 9) (q0 := 0) (v := .ref (rf 0)) hx hb hts (iU inlX9) hown hK hP rfl rfl 0 (by decide) (kU u_129) rfl rfl dX9_packs_297 ?_
                            refine lv_iconst (v := (nI 2)) hx hb dX9_packs_300 (by decide) ?_
                            refine lv_dup2_11 hx hb dX9_packs_301 rfl rfl ?_
                            refine ia_n (q0 := 1) (t0 := 0) hx hb hK hP rfl rfl (by omega) (by decide) dX9_packs_302 ?_
                            rw [show qN (T 0 0) (T 0 1) (T 0 2) (T 0 3 + sumN (T 8) 30) (T 0 4) ((swR (T 7) (T 0 0) (T 0 1) 1801 h8).1) (T 1) h2 h3 h4 h5 h6 (T 7) ((swR (T 7) (T 0 0) (T 0 1) 1801 h8).2) 2 = (T 0 2) from rfl]
                            refine lv_iconst (v := (nI 1)) hx hb dX9_packs_303 (by decide) ?_
                            refine lv_iadd hx hb dX9_packs_304 ?_
                            rw [nI_add (T 0 2) 1]
                            refine is_n (q0 := 1) (t0 := 0) (ws2 := (mX mr rf st ln th pl hs vs dg xx ++ qX cI (rf 0) (T 0 0) (T 0 1) ((T 0 2) + 1) (T 0 3 + sumN (T 8) 30) (T 0 4) ((swR (T 7) (T 0 0) (T 0 1) 1801 h8).1) (T 1) h2 h3 h4 h5 h6 (T 7) ((swR (T 7) (T 0 0) (T 0 1) 1801 h8).2) ++ iaX cI (rf 6) 6 y2)) hx hb hK hP hD hS rfl rfl (by omega) (by decide) dX9_packs_305 (by rw [qU_03]; rfl) (fun Hp locs hP hD hS => ?_)
                            obtain ⟨hP, hD⟩ := cg_n (g := nF (qN ((packT T) 0 0) ((packT T) 0 1) ((packT T) 0 2) ((packT T) 0 3) ((packT T) 0 4) ((packT T) 0 5) ((packT T) 1) ((packT T) 2) ((packT T) 3) ((packT T) 4) ((packT T) 5) ((packT T) 6) ((packT T) 7) ((packT T) 8))) (ws2 := (mX mr rf st ln th pl hs vs dg xx ++ qX cI (rf 0) ((packT T) 0 0) ((packT T) 0 1) ((packT T) 0 2) ((packT T) 0 3) ((packT T) 0 4) ((packT T) 0 5) ((packT T) 1) ((packT T) 2) ((packT T) 3) ((packT T) 4) ((packT T) 5) ((packT T) 6) ((packT T) 7) ((packT T) 8) ++ iaX cI (rf 6) 6 y2)) hP hD 1 rfl (fun j hj => congrArg nI (qN_cg rfl rfl rfl (by rw [← kilA_30 hH hV hT.2.2.2.2.2]; rfl) rfl (by rw [e8, show i = T 0 1 by omega]; rfl) (fun _ _ => rfl) (fun k hk => by rw [e2, show i3 = T 0 0 by omega]; rfl) (fun k hk => by rw [e3, show i3 = T 0 0 by omega]; rfl) (fun k hk => by rw [e4, show i3 = T 0 0 by omega]; show (if k < T 0 0 then 0 else T 4 k) = 0; split; rfl; exact ((hT.2.1 k hk).2.2.2.2.2 (by omega)).2.2) (fun k hk => by rw [e5, show i4 = T 0 1 by omega]; show (if k < T 0 1 then 0 else T 5 k) = 0; split; rfl; exact (hT.2.2.1 k hk).2 (by omega)) (fun k hk => by rw [e6, show i = T 0 1 by omega]; rfl) (fun _ _ => rfl) (fun k hk => by rw [e8, show i = T 0 1 by omega]; rfl) j hj)) rfl
                            refine lv_iload_n hx hb dX9_packs_306 rfl (lv_at hl 1 rfl) ?_
                            exact ct_i (y2) hx hb hr hlocks hP hS (by rw [e8, show i = T 0 1 by omega]; rfl) dX9_packs_307
                          · skip
                            replace c_270 := cn_nle (by omega) (by omega) c_270
                            refine lv_aload_n hx hb dX9_packs_273 rfl (lv_at hl 3 rfl) ?_
                            refine gf_n (C := RX9) (T := TX9) (N := 15) (ci := 9) (q0 := 0) (v := .ref (rf 0)) hx hb hts (iU inlX9) hown hK hP rfl rfl 0 (by decide) (kU u_129) rfl rfl dX9_packs_274 ?_
                            refine lv_iload_n hx hb dX9_packs_277 rfl (lv_at hl 0 rfl) ?_
                            refine gp_S (c_X9_harvest l D cI cZ cF cL i4 ) (gUS u_278 u_279 u_5 u_280) rfl hdS_X9_harvest ⟨Nat.le_of_ble_eq_true rfl, Nat.le_of_ble_eq_true rfl⟩ ⟨rfl, rfl⟩ hx hb hml hown hts hK hA hP hD hS hl.1 ⟨Nat.le_of_ble_eq_true rfl, Nat.le_of_ble_eq_true rfl⟩ (wr := (mX mr rf st ln th pl hs vs dg xx ++ qX cI (rf 0) (T 0 0) (T 0 1) (T 0 2) (T 0 3 + sumN (T 8) 30) (T 0 4) (T 0 5) (T 1) h2 h3 h4 h5 h6 (T 7) ((swR (T 7) (T 0 0) (T 0 1) 1801 h8).2) ++ iaX cI (rf 6) 6 y2)) (pm_cnt (fun _ => by simp only [List.countP_append, List.countP_nil, fT] <;> omega)) (fun _ => by simp only [List.map_append, List.map_nil, fX_m, bX_m, sX_m, pX_m, iaX_m, r5X_m, r6X_m, fT_m, hX_m, tX_m, xX_m, sgX_m, zaX_m, fsB_a, qX_m, mX_m]) (rest := [.ref (rf 0)]) rfl rfl (Nat.le_of_ble_eq_true rfl) dX9_packs_278 (ws2 := (fun _ : Unit => (mX mr rf st ln th pl hs vs dg xx ++ qX cI (rf 0) (T 0 0) (T 0 1) (T 0 2) (T 0 3 + sumN (T 8) 30) (T 0 4) (T 0 5) (T 1) h2 h3 h4 h5 h6 (T 7) ((swR (T 7) (T 0 0) (T 0 1) 1801 h8).2) ++ iaX cI (rf 6) 6 y2))) (fun _ => (pm_cnt (fun _ => by simp only [List.countP_append, List.countP_nil, fT] <;> omega))) (fun _ Hp locs hP hD hS => ?_)
                            refine lv_iconst (v := (nI 0)) hx hb dX9_packs_281 (by decide) ?_
                            refine is_n (q0 := 1) (t0 := 0) (ws2 := (mX mr rf st ln th pl hs vs dg xx ++ qX cI (rf 0) (T 0 0) (T 0 1) (T 0 2) (T 0 3 + sumN (T 8) 30) (T 0 4) (T 0 5) (T 1) h2 h3 h4 (va_up h5 i4 0) h6 (T 7) ((swR (T 7) (T 0 0) (T 0 1) 1801 h8).2) ++ iaX cI (rf 6) 6 y2)) hx hb hK hP hD hS rfl rfl (by omega) (by decide) dX9_packs_282 (by rw [qU_5 (by omega)]; rfl) (fun Hp locs hP hD hS => ?_)
                            refine lv_iinc (v := (nI (i4 + 1))) (lv' := [(3, .int (nI (i4 + 1))), (2, .int (nI ((swR (T 7) (T 0 0) (T 0 1) 1801 h8).1))), (1, .int (nI 1)), (0, .ref mr)]) hx hb dX9_packs_283 hl (k := 0) rfl (nI_add i4 1) (by decide) rfl (fun ls hl => ?_)
                            refine lv_goto (tgt := 263) hx hb dX9_packs_286 (by decide) ?_
                            exact ih_263 (i4 + 1) (va_up h5 i4 0) (by omega) (by rw [e5]; exact filN_s 0 i4 _) (by omega) _ _ hP hD hS _ (lv_sub hl [0, 1, 2, 3] rfl)
                      exact loop_263 ((T 0 1 - 0) + 1) 0 (T 5) (Nat.zero_le _) (filN_0 _ _).symm (Nat.lt_succ_self _) _ _ hP hD hS _ (lv_sub hl [0, 1, 2, 3] rfl)
                    · skip
                      replace c_117 := cn_nle (by omega) (by omega) c_117
                      have e2i : h2 i3 = T 2 i3 := by rw [e2, tabN_out (Nat.le_refl i3)]
                      have e3i : h3 i3 = T 3 i3 := by rw [e3, tabN_out (Nat.le_refl i3)]
                      have e4i : h4 i3 = T 4 i3 := by rw [e4]; exact if_neg (Nat.lt_irrefl i3)
                      obtain ⟨a1, a2, a3, a4, a5, -⟩ := hT.2.1 i3 (by omega)
                      have a6 := a5 (by omega)
                      refine lv_iload_n hx hb dX9_packs_120 rfl (lv_at hl 0 rfl) ?_
                      refine gp_S (c_X9_size l D cI cZ cF cL i3 ) (gUS u_275 u_276 u_5 u_277) rfl hdS_X9_size ⟨Nat.le_of_ble_eq_true rfl, Nat.le_of_ble_eq_true rfl⟩ ⟨rfl, rfl⟩ hx hb hml hown hts hK hA hP hD hS hl.1 ⟨Nat.le_of_ble_eq_true rfl, Nat.le_of_ble_eq_true rfl⟩ (wr := (mX mr rf st ln th pl hs vs dg xx ++ qX cI (rf 0) (T 0 0) (T 0 1) (T 0 2) (T 0 3 + sumN (T 8) 30) (T 0 4) (T 0 5) (T 1) h2 h3 h4 (T 5) h6 (T 7) ((swR (T 7) (T 0 0) (T 0 1) 1801 h8).2) ++ iaX cI (rf 6) 6 y2)) (pm_cnt (fun _ => by simp only [List.countP_append, List.countP_nil, fT] <;> omega)) (fun _ => by simp only [List.map_append, List.map_nil, fX_m, bX_m, sX_m, pX_m, iaX_m, r5X_m, r6X_m, fT_m, hX_m, tX_m, xX_m, sgX_m, zaX_m, fsB_a, qX_m, mX_m]) (rest := []) rfl rfl (Nat.le_of_ble_eq_true rfl) dX9_packs_121 (ws2 := (fun _ : Unit => (mX mr rf st ln th pl hs vs dg xx ++ qX cI (rf 0) (T 0 0) (T 0 1) (T 0 2) (T 0 3 + sumN (T 8) 30) (T 0 4) (T 0 5) (T 1) h2 h3 h4 (T 5) h6 (T 7) ((swR (T 7) (T 0 0) (T 0 1) 1801 h8).2) ++ iaX cI (rf 6) 6 y2))) (fun _ => (pm_cnt (fun _ => by simp only [List.countP_append, List.countP_nil, fT] <;> omega))) (fun _ Hp locs hP hD hS => ?_)
                      refine lv_istore (lv' := [(4, .int (nI (6 + 4 * i3))), (3, .int (nI i3)), (2, .int (nI ((swR (T 7) (T 0 0) (T 0 1) 1801 h8).1))), (1, .int (nI 1)), (0, .ref mr)]) hx hb dX9_packs_124 hl (by decide) rfl (fun ls hl => ?_)
                      refine lv_aload_n hx hb dX9_packs_126 rfl (lv_at hl 4 rfl) ?_
                      refine lv_iload_n hx hb dX9_packs_127 rfl (lv_at hl 1 rfl) ?_
                      refine gp_V (ci := 9) (q0 := 0) (cq := (RX9, TX9, 15)) (c_X9_getsBox l D cI cZ cF cL mr rf st ln th pl hs vs dg xx (T 0 0) (T 0 1) (T 0 2) (T 0 3 + sumN (T 8) 30) (T 0 4) (T 0 5) (T 1) h2 h3 h4 (T 5) h6 (T 7) ((swR (T 7) (T 0 0) (T 0 1) 1801 h8).2) i3 (by omega) (fun k hk => by rw [e2]; exact tabN_all (P := fun z => z < 2 ^ 31) (fun _ => by have := (hT.2.1 k hk).2.1; split <;> omega) (fun _ => by have := (hT.2.1 k hk).2.1; omega)) (fun k hk => by rw [e4]; have := (hT.2.1 k hk).2.2.2.1; show (if k < i3 then 0 else T 4 k) < 2 ^ 31; split <;> omega)) (gUV u_361 u_362 u_363 u_5 u_364) rfl hdV_X9_getsBox ⟨Nat.le_of_ble_eq_true rfl, Nat.le_of_ble_eq_true rfl⟩ ⟨rfl, rfl⟩ hx hb hml hown hts hK hA hP hD hS hl.1 ⟨Nat.le_of_ble_eq_true rfl, Nat.le_of_ble_eq_true rfl⟩ rfl rfl rfl (wr := (iaX cI (rf 6) 6 y2)) (pm_cnt (fun _ => by simp only [List.countP_append, List.countP_nil, fT] <;> omega)) (fun _ => by simp only [List.map_append, List.map_nil, fX_m, bX_m, sX_m, pX_m, iaX_m, r5X_m, r6X_m, fT_m, hX_m, tX_m, xX_m, sgX_m, zaX_m, fsB_a, qX_m, mX_m]) (rest := []) rfl rfl (Nat.le_of_ble_eq_true rfl) dX9_packs_128 (ws2 := (fun _ : Unit => (mX mr rf st ln th pl hs vs dg xx ++ qX cI (rf 0) (T 0 0) (T 0 1) (T 0 2) (T 0 3 + sumN (T 8) 30) (T 0 4) (T 0 5) (T 1) h2 h3 h4 (T 5) h6 (T 7) ((swR (T 7) (T 0 0) (T 0 1) 1801 h8).2) ++ iaX cI (rf 6) 6 y2))) (fun _ => (pm_cnt (fun _ => by simp only [List.countP_append, List.countP_nil, fT] <;> omega))) (fun _ Hp locs hP hD hS => ?_)
                      refine lv_if_eq (tgt := 179) hx hb dX9_packs_131 (by decide) (fun c_131 => ?_) (fun c_131 => ?_)
                      · skip
                        replace c_131 := cb_z c_131
                        replace c_131 : ¬ getsB (T 2) (T 4) i3 := fun q => c_131 ⟨by rw [e4i]; exact q.1, by rw [e2i]; exact q.2⟩
                        have hpt : ¬ 0 < ptT T i3 := by rw [show ptT T i3 = 0 from pt_zero c_131]; exact Nat.lt_irrefl 0
                        refine lv_aload_n hx hb dX9_packs_179 rfl (lv_at hl 4 rfl) ?_
                        refine gf_n (C := RX9) (T := TX9) (N := 15) (ci := 9) (q0 := 0) (v := .ref (rf 0)) hx hb hts (iU inlX9) hown hK hP rfl rfl 0 (by decide) (kU u_129) rfl rfl dX9_packs_180 ?_
                        refine lv_iload hx hb dX9_packs_183 (lv_at hl 0 rfl) ?_
                        refine lv_iconst (v := (nI 3)) hx hb dX9_packs_185 (by decide) ?_
                        refine lv_iadd hx hb dX9_packs_186 ?_
                        rw [nI_add (6 + 4 * i3) 3]
                        refine ia_n (q0 := 1) (t0 := 0) hx hb hK hP rfl rfl (by omega) (by decide) dX9_packs_187 ?_
                        rw [qR_4 (by omega)]
                        refine lv_iconst (v := (nI 1)) hx hb dX9_packs_188 (by decide) ?_
                        refine lv_icmp_ne (tgt := 245) hx hb dX9_packs_189 (by decide) (fun c_189 => ?_) (fun c_189 => ?_)
                        · skip
                          replace c_189 := cn_ne c_189
                          refine lv_aload_n hx hb dX9_packs_245 rfl (lv_at hl 4 rfl) ?_
                          refine gf_n (C := RX9) (T := TX9) (N := 15) (ci := 9) (q0 := 0) (v := .ref (rf 0)) hx hb hts (iU inlX9) hown hK hP rfl rfl 0 (by decide) (kU u_129) rfl rfl dX9_packs_246 ?_
                          refine lv_iload hx hb dX9_packs_249 (lv_at hl 0 rfl) ?_
                          refine lv_iconst (v := (nI 3)) hx hb dX9_packs_251 (by decide) ?_
                          refine lv_iadd hx hb dX9_packs_252 ?_
                          rw [nI_add (6 + 4 * i3) 3]
                          refine lv_iconst (v := (nI 0)) hx hb dX9_packs_253 (by decide) ?_
                          refine is_n (q0 := 1) (t0 := 0) (ws2 := (mX mr rf st ln th pl hs vs dg xx ++ qX cI (rf 0) (T 0 0) (T 0 1) (T 0 2) (T 0 3 + sumN (T 8) 30) (T 0 4) (T 0 5) (T 1) h2 h3 (va_up h4 i3 0) (T 5) h6 (T 7) ((swR (T 7) (T 0 0) (T 0 1) 1801 h8).2) ++ iaX cI (rf 6) 6 y2)) hx hb hK hP hD hS rfl rfl (by omega) (by decide) dX9_packs_254 (by rw [qU_4 (by omega)]; rfl) (fun Hp locs hP hD hS => ?_)
                          refine lv_iinc (v := (nI (i3 + 1))) (lv' := [(3, .int (nI (i3 + 1))), (4, .int (nI (6 + 4 * i3))), (2, .int (nI ((swR (T 7) (T 0 0) (T 0 1) 1801 h8).1))), (1, .int (nI 1)), (0, .ref mr)]) hx hb dX9_packs_255 hl (k := 1) rfl (nI_add i3 1) (by decide) rfl (fun ls hl => ?_)
                          refine lv_goto (tgt := 110) hx hb dX9_packs_258 (by decide) ?_
                          exact ih_110 (i3 + 1) h2 h3 (va_up h4 i3 0) (by omega) (by first | (rw [show h2 i3 + 1 = (fun h => if 0 < ptT T h then min 9 (T 2 h + 1) else T 2 h) i3 from by rw [e2i]; exact ((if_pos hpt).trans (Nat.min_eq_right (by have := c_131.2; omega))).symm, e2, tabN_s]) | (rw [e2]; exact (tabN_k (show (fun h => if 0 < ptT T h then min 9 (T 2 h + 1) else T 2 h) i3 = T 2 i3 from if_neg hpt)).symm)) (by first | (rw [show h3 i3 - 1 = (fun h => if 0 < ptT T h then T 3 h - 1 else if T 4 h = 1 then min 9 (T 3 h + T 1 h) else T 3 h) i3 from by rw [e3i]; exact (if_pos hpt).symm, e3, tabN_s]) | (rw [show h3 i3 - 0 = (fun h => if 0 < ptT T h then T 3 h - 1 else if T 4 h = 1 then min 9 (T 3 h + T 1 h) else T 3 h) i3 from by rw [e3i]; rw [e3i] at c_166; exact (show T 3 i3 - 0 = T 3 i3 - 1 by omega).trans (if_pos hpt).symm, e3, tabN_s]) | (rw [show h3 i3 + T 1 i3 = (fun h => if 0 < ptT T h then T 3 h - 1 else if T 4 h = 1 then min 9 (T 3 h + T 1 h) else T 3 h) i3 from by rw [e3i]; rw [e3i] at c_219; exact ((if_neg hpt).trans ((if_pos (by rw [← e4i]; exact c_189)).trans (Nat.min_eq_right c_219))).symm, e3, tabN_s]) | (rw [e3i] at c_219; rw [e3]; exact (congrArg (va_up (tabN (fun h => if 0 < ptT T h then T 3 h - 1 else if T 4 h = 1 then min 9 (T 3 h + T 1 h) else T 3 h) i3 (T 3)) i3) ((if_neg hpt).trans ((if_pos (by rw [← e4i]; exact c_189)).trans (Nat.min_eq_left (Nat.le_of_lt c_219)))).symm).trans (tabN_s _ _ _)) | (rw [e3]; exact (tabN_k (show (fun h => if 0 < ptT T h then T 3 h - 1 else if T 4 h = 1 then min 9 (T 3 h + T 1 h) else T 3 h) i3 = T 3 i3 from (if_neg hpt).trans (if_neg (by rw [← e4i]; exact c_189)))).symm)) (by rw [e4]; exact filN_s 0 i3 _) (by omega) _ _ hP hD hS _ (lv_sub hl [0, 2, 3, 4] rfl)
                        · skip
                          replace c_189 := cn_eq (by rw [e4i]; omega) (by decide) c_189
                          refine lv_aload_n hx hb dX9_packs_192 rfl (lv_at hl 4 rfl) ?_
                          refine gf_n (C := RX9) (T := TX9) (N := 15) (ci := 9) (q0 := 0) (v := .ref (rf 0)) hx hb hts (iU inlX9) hown hK hP rfl rfl 0 (by decide) (kU u_129) rfl rfl dX9_packs_193 ?_
                          refine lv_iload hx hb dX9_packs_196 (lv_at hl 0 rfl) ?_
                          refine lv_iconst (v := (nI 2)) hx hb dX9_packs_198 (by decide) ?_
                          refine lv_iadd hx hb dX9_packs_199 ?_
                          rw [nI_add (6 + 4 * i3) 2]
                          refine lv_aload_n hx hb dX9_packs_200 rfl (lv_at hl 4 rfl) ?_
                          refine gf_n (C := RX9) (T := TX9) (N := 15) (ci := 9) (q0 := 0) (v := .ref (rf 0)) hx hb hts (iU inlX9) hown hK hP rfl rfl 0 (by decide) (kU u_129) rfl rfl dX9_packs_201 ?_
                          refine lv_iload hx hb dX9_packs_204 (lv_at hl 0 rfl) ?_
                          refine lv_iconst (v := (nI 2)) hx hb dX9_packs_206 (by decide) ?_
                          refine lv_iadd hx hb dX9_packs_207 ?_
                          rw [nI_add (6 + 4 * i3) 2]
                          refine ia_n (q0 := 1) (t0 := 0) hx hb hK hP rfl rfl (by omega) (by decide) dX9_packs_208 ?_
                          rw [qR_3 (by omega)]
                          refine lv_aload_n hx hb dX9_packs_209 rfl (lv_at hl 4 rfl) ?_
                          refine gf_n (C := RX9) (T := TX9) (N := 15) (ci := 9) (q0 := 0) (v := .ref (rf 0)) hx hb hts (iU inlX9) hown hK hP rfl rfl 0 (by decide) (kU u_129) rfl rfl dX9_packs_210 ?_
                          refine lv_iload hx hb dX9_packs_213 (lv_at hl 0 rfl) ?_
                          refine ia_n (q0 := 1) (t0 := 0) hx hb hK hP rfl rfl (by omega) (by decide) dX9_packs_215 ?_
                          rw [qR_1 (by omega)]
                          refine lv_iadd hx hb dX9_packs_216 ?_
                          rw [nI_add (h3 i3) ((T 1) i3)]
                          refine lv_bipush (v := (nI 9)) hx hb dX9_packs_217 (by decide) ?_
                          refine lv_icmp_le (tgt := 227) hx hb dX9_packs_219 (by decide) (fun c_219 => ?_) (fun c_219 => ?_)
                          · skip
                            replace c_219 := cn_le (by rw [e3i]; omega) (by decide) c_219
                            refine lv_aload_n hx hb dX9_packs_227 rfl (lv_at hl 4 rfl) ?_
                            refine gf_n (C := RX9) (T := TX9) (N := 15) (ci := 9) (q0 := 0) (v := .ref (rf 0)) hx hb hts (iU inlX9) hown hK hP rfl rfl 0 (by decide) (kU u_129) rfl rfl dX9_packs_228 ?_
                            refine lv_iload hx hb dX9_packs_231 (lv_at hl 0 rfl) ?_
                            refine lv_iconst (v := (nI 2)) hx hb dX9_packs_233 (by decide) ?_
                            refine lv_iadd hx hb dX9_packs_234 ?_
                            rw [nI_add (6 + 4 * i3) 2]
                            refine ia_n (q0 := 1) (t0 := 0) hx hb hK hP rfl rfl (by omega) (by decide) dX9_packs_235 ?_
                            rw [qR_3 (by omega)]
                            refine lv_aload_n hx hb dX9_packs_236 rfl (lv_at hl 4 rfl) ?_
                            refine gf_n (C := RX9) (T := TX9) (N := 15) (ci := 9) (q0 := 0) (v := .ref (rf 0)) hx hb hts (iU inlX9) hown hK hP rfl rfl 0 (by decide) (kU u_129) rfl rfl dX9_packs_237 ?_
                            refine lv_iload hx hb dX9_packs_240 (lv_at hl 0 rfl) ?_
                            refine ia_n (q0 := 1) (t0 := 0) hx hb hK hP rfl rfl (by omega) (by decide) dX9_packs_242 ?_
                            rw [qR_1 (by omega)]
                            refine lv_iadd hx hb dX9_packs_243 ?_
                            rw [nI_add (h3 i3) ((T 1) i3)]
                            refine is_n (q0 := 1) (t0 := 0) (ws2 := (mX mr rf st ln th pl hs vs dg xx ++ qX cI (rf 0) (T 0 0) (T 0 1) (T 0 2) (T 0 3 + sumN (T 8) 30) (T 0 4) (T 0 5) (T 1) h2 (va_up h3 i3 ((h3 i3) + ((T 1) i3))) h4 (T 5) h6 (T 7) ((swR (T 7) (T 0 0) (T 0 1) 1801 h8).2) ++ iaX cI (rf 6) 6 y2)) hx hb hK hP hD hS rfl rfl (by omega) (by decide) dX9_packs_244 (by rw [qU_3 (by omega)]; rfl) (fun Hp locs hP hD hS => ?_)
                            refine lv_aload_n hx hb dX9_packs_245 rfl (lv_at hl 4 rfl) ?_
                            refine gf_n (C := RX9) (T := TX9) (N := 15) (ci := 9) (q0 := 0) (v := .ref (rf 0)) hx hb hts (iU inlX9) hown hK hP rfl rfl 0 (by decide) (kU u_129) rfl rfl dX9_packs_246 ?_
                            refine lv_iload hx hb dX9_packs_249 (lv_at hl 0 rfl) ?_
                            refine lv_iconst (v := (nI 3)) hx hb dX9_packs_251 (by decide) ?_
                            refine lv_iadd hx hb dX9_packs_252 ?_
                            rw [nI_add (6 + 4 * i3) 3]
                            refine lv_iconst (v := (nI 0)) hx hb dX9_packs_253 (by decide) ?_
                            refine is_n (q0 := 1) (t0 := 0) (ws2 := (mX mr rf st ln th pl hs vs dg xx ++ qX cI (rf 0) (T 0 0) (T 0 1) (T 0 2) (T 0 3 + sumN (T 8) 30) (T 0 4) (T 0 5) (T 1) h2 (va_up h3 i3 ((h3 i3) + ((T 1) i3))) (va_up h4 i3 0) (T 5) h6 (T 7) ((swR (T 7) (T 0 0) (T 0 1) 1801 h8).2) ++ iaX cI (rf 6) 6 y2)) hx hb hK hP hD hS rfl rfl (by omega) (by decide) dX9_packs_254 (by rw [qU_4 (by omega)]; rfl) (fun Hp locs hP hD hS => ?_)
                            refine lv_iinc (v := (nI (i3 + 1))) (lv' := [(3, .int (nI (i3 + 1))), (4, .int (nI (6 + 4 * i3))), (2, .int (nI ((swR (T 7) (T 0 0) (T 0 1) 1801 h8).1))), (1, .int (nI 1)), (0, .ref mr)]) hx hb dX9_packs_255 hl (k := 1) rfl (nI_add i3 1) (by decide) rfl (fun ls hl => ?_)
                            refine lv_goto (tgt := 110) hx hb dX9_packs_258 (by decide) ?_
                            exact ih_110 (i3 + 1) h2 (va_up h3 i3 ((h3 i3) + ((T 1) i3))) (va_up h4 i3 0) (by omega) (by first | (rw [show h2 i3 + 1 = (fun h => if 0 < ptT T h then min 9 (T 2 h + 1) else T 2 h) i3 from by rw [e2i]; exact ((if_pos hpt).trans (Nat.min_eq_right (by have := c_131.2; omega))).symm, e2, tabN_s]) | (rw [e2]; exact (tabN_k (show (fun h => if 0 < ptT T h then min 9 (T 2 h + 1) else T 2 h) i3 = T 2 i3 from if_neg hpt)).symm)) (by first | (rw [show h3 i3 - 1 = (fun h => if 0 < ptT T h then T 3 h - 1 else if T 4 h = 1 then min 9 (T 3 h + T 1 h) else T 3 h) i3 from by rw [e3i]; exact (if_pos hpt).symm, e3, tabN_s]) | (rw [show h3 i3 - 0 = (fun h => if 0 < ptT T h then T 3 h - 1 else if T 4 h = 1 then min 9 (T 3 h + T 1 h) else T 3 h) i3 from by rw [e3i]; rw [e3i] at c_166; exact (show T 3 i3 - 0 = T 3 i3 - 1 by omega).trans (if_pos hpt).symm, e3, tabN_s]) | (rw [show h3 i3 + T 1 i3 = (fun h => if 0 < ptT T h then T 3 h - 1 else if T 4 h = 1 then min 9 (T 3 h + T 1 h) else T 3 h) i3 from by rw [e3i]; rw [e3i] at c_219; exact ((if_neg hpt).trans ((if_pos (by rw [← e4i]; exact c_189)).trans (Nat.min_eq_right c_219))).symm, e3, tabN_s]) | (rw [e3i] at c_219; rw [e3]; exact (congrArg (va_up (tabN (fun h => if 0 < ptT T h then T 3 h - 1 else if T 4 h = 1 then min 9 (T 3 h + T 1 h) else T 3 h) i3 (T 3)) i3) ((if_neg hpt).trans ((if_pos (by rw [← e4i]; exact c_189)).trans (Nat.min_eq_left (Nat.le_of_lt c_219)))).symm).trans (tabN_s _ _ _)) | (rw [e3]; exact (tabN_k (show (fun h => if 0 < ptT T h then T 3 h - 1 else if T 4 h = 1 then min 9 (T 3 h + T 1 h) else T 3 h) i3 = T 3 i3 from (if_neg hpt).trans (if_neg (by rw [← e4i]; exact c_189)))).symm)) (by rw [e4]; exact filN_s 0 i3 _) (by omega) _ _ hP hD hS _ (lv_sub hl [0, 2, 3, 4] rfl)
                          · skip
                            replace c_219 := cn_nle (by rw [e3i]; omega) (by decide) c_219
                            refine lv_bipush (v := (nI 9)) hx hb dX9_packs_222 (by decide) ?_
                            refine lv_goto (tgt := 244) hx hb dX9_packs_224 (by decide) ?_
                            refine is_n (q0 := 1) (t0 := 0) (ws2 := (mX mr rf st ln th pl hs vs dg xx ++ qX cI (rf 0) (T 0 0) (T 0 1) (T 0 2) (T 0 3 + sumN (T 8) 30) (T 0 4) (T 0 5) (T 1) h2 (va_up h3 i3 9) h4 (T 5) h6 (T 7) ((swR (T 7) (T 0 0) (T 0 1) 1801 h8).2) ++ iaX cI (rf 6) 6 y2)) hx hb hK hP hD hS rfl rfl (by omega) (by decide) dX9_packs_244 (by rw [qU_3 (by omega)]; rfl) (fun Hp locs hP hD hS => ?_)
                            refine lv_aload_n hx hb dX9_packs_245 rfl (lv_at hl 4 rfl) ?_
                            refine gf_n (C := RX9) (T := TX9) (N := 15) (ci := 9) (q0 := 0) (v := .ref (rf 0)) hx hb hts (iU inlX9) hown hK hP rfl rfl 0 (by decide) (kU u_129) rfl rfl dX9_packs_246 ?_
                            refine lv_iload hx hb dX9_packs_249 (lv_at hl 0 rfl) ?_
                            refine lv_iconst (v := (nI 3)) hx hb dX9_packs_251 (by decide) ?_
                            refine lv_iadd hx hb dX9_packs_252 ?_
                            rw [nI_add (6 + 4 * i3) 3]
                            refine lv_iconst (v := (nI 0)) hx hb dX9_packs_253 (by decide) ?_
                            refine is_n (q0 := 1) (t0 := 0) (ws2 := (mX mr rf st ln th pl hs vs dg xx ++ qX cI (rf 0) (T 0 0) (T 0 1) (T 0 2) (T 0 3 + sumN (T 8) 30) (T 0 4) (T 0 5) (T 1) h2 (va_up h3 i3 9) (va_up h4 i3 0) (T 5) h6 (T 7) ((swR (T 7) (T 0 0) (T 0 1) 1801 h8).2) ++ iaX cI (rf 6) 6 y2)) hx hb hK hP hD hS rfl rfl (by omega) (by decide) dX9_packs_254 (by rw [qU_4 (by omega)]; rfl) (fun Hp locs hP hD hS => ?_)
                            refine lv_iinc (v := (nI (i3 + 1))) (lv' := [(3, .int (nI (i3 + 1))), (4, .int (nI (6 + 4 * i3))), (2, .int (nI ((swR (T 7) (T 0 0) (T 0 1) 1801 h8).1))), (1, .int (nI 1)), (0, .ref mr)]) hx hb dX9_packs_255 hl (k := 1) rfl (nI_add i3 1) (by decide) rfl (fun ls hl => ?_)
                            refine lv_goto (tgt := 110) hx hb dX9_packs_258 (by decide) ?_
                            exact ih_110 (i3 + 1) h2 (va_up h3 i3 9) (va_up h4 i3 0) (by omega) (by first | (rw [show h2 i3 + 1 = (fun h => if 0 < ptT T h then min 9 (T 2 h + 1) else T 2 h) i3 from by rw [e2i]; exact ((if_pos hpt).trans (Nat.min_eq_right (by have := c_131.2; omega))).symm, e2, tabN_s]) | (rw [e2]; exact (tabN_k (show (fun h => if 0 < ptT T h then min 9 (T 2 h + 1) else T 2 h) i3 = T 2 i3 from if_neg hpt)).symm)) (by first | (rw [show h3 i3 - 1 = (fun h => if 0 < ptT T h then T 3 h - 1 else if T 4 h = 1 then min 9 (T 3 h + T 1 h) else T 3 h) i3 from by rw [e3i]; exact (if_pos hpt).symm, e3, tabN_s]) | (rw [show h3 i3 - 0 = (fun h => if 0 < ptT T h then T 3 h - 1 else if T 4 h = 1 then min 9 (T 3 h + T 1 h) else T 3 h) i3 from by rw [e3i]; rw [e3i] at c_166; exact (show T 3 i3 - 0 = T 3 i3 - 1 by omega).trans (if_pos hpt).symm, e3, tabN_s]) | (rw [show h3 i3 + T 1 i3 = (fun h => if 0 < ptT T h then T 3 h - 1 else if T 4 h = 1 then min 9 (T 3 h + T 1 h) else T 3 h) i3 from by rw [e3i]; rw [e3i] at c_219; exact ((if_neg hpt).trans ((if_pos (by rw [← e4i]; exact c_189)).trans (Nat.min_eq_right c_219))).symm, e3, tabN_s]) | (rw [e3i] at c_219; rw [e3]; exact (congrArg (va_up (tabN (fun h => if 0 < ptT T h then T 3 h - 1 else if T 4 h = 1 then min 9 (T 3 h + T 1 h) else T 3 h) i3 (T 3)) i3) ((if_neg hpt).trans ((if_pos (by rw [← e4i]; exact c_189)).trans (Nat.min_eq_left (Nat.le_of_lt c_219)))).symm).trans (tabN_s _ _ _)) | (rw [e3]; exact (tabN_k (show (fun h => if 0 < ptT T h then T 3 h - 1 else if T 4 h = 1 then min 9 (T 3 h + T 1 h) else T 3 h) i3 = T 3 i3 from (if_neg hpt).trans (if_neg (by rw [← e4i]; exact c_189)))).symm)) (by rw [e4]; exact filN_s 0 i3 _) (by omega) _ _ hP hD hS _ (lv_sub hl [0, 2, 3, 4] rfl)
                      · skip
                        replace c_131 := cb_nz c_131
                        replace c_131 : getsB (T 2) (T 4) i3 := ⟨by rw [← e4i]; exact c_131.1, by rw [← e2i]; exact c_131.2⟩
                        have hpt : 0 < ptT T i3 := pt_pos c_131 a6
                        refine lv_aload_n hx hb dX9_packs_134 rfl (lv_at hl 4 rfl) ?_
                        refine gf_n (C := RX9) (T := TX9) (N := 15) (ci := 9) (q0 := 0) (v := .ref (rf 0)) hx hb hts (iU inlX9) hown hK hP rfl rfl 0 (by decide) (kU u_129) rfl rfl dX9_packs_135 ?_
                        refine lv_iload hx hb dX9_packs_138 (lv_at hl 0 rfl) ?_
                        refine lv_iconst (v := (nI 1)) hx hb dX9_packs_140 (by decide) ?_
                        refine lv_iadd hx hb dX9_packs_141 ?_
                        rw [nI_add (6 + 4 * i3) 1]
                        refine lv_dup2_11 hx hb dX9_packs_142 rfl rfl ?_
                        refine ia_n (q0 := 1) (t0 := 0) hx hb hK hP rfl rfl (by omega) (by decide) dX9_packs_143 ?_
                        rw [qR_2 (by omega)]
                        refine lv_iconst (v := (nI 1)) hx hb dX9_packs_144 (by decide) ?_
                        refine lv_iadd hx hb dX9_packs_145 ?_
                        rw [nI_add (h2 i3) 1]
                        refine is_n (q0 := 1) (t0 := 0) (ws2 := (mX mr rf st ln th pl hs vs dg xx ++ qX cI (rf 0) (T 0 0) (T 0 1) (T 0 2) (T 0 3 + sumN (T 8) 30) (T 0 4) (T 0 5) (T 1) (va_up h2 i3 ((h2 i3) + 1)) h3 h4 (T 5) h6 (T 7) ((swR (T 7) (T 0 0) (T 0 1) 1801 h8).2) ++ iaX cI (rf 6) 6 y2)) hx hb hK hP hD hS rfl rfl (by omega) (by decide) dX9_packs_146 (by rw [qU_2 (by omega)]; rfl) (fun Hp locs hP hD hS => ?_)
                        refine lv_aload_n hx hb dX9_packs_147 rfl (lv_at hl 4 rfl) ?_
                        refine gf_n (C := RX9) (T := TX9) (N := 15) (ci := 9) (q0 := 0) (v := .ref (rf 0)) hx hb hts (iU inlX9) hown hK hP rfl rfl 0 (by decide) (kU u_129) rfl rfl dX9_packs_148 ?_
                        refine lv_iload hx hb dX9_packs_151 (lv_at hl 0 rfl) ?_
                        refine lv_iconst (v := (nI 2)) hx hb dX9_packs_153 (by decide) ?_
                        refine lv_iadd hx hb dX9_packs_154 ?_
                        rw [nI_add (6 + 4 * i3) 2]
                        refine lv_dup2_11 hx hb dX9_packs_155 rfl rfl ?_
                        refine ia_n (q0 := 1) (t0 := 0) hx hb hK hP rfl rfl (by omega) (by decide) dX9_packs_156 ?_
                        rw [qR_3 (by omega)]
                        refine lv_aload_n hx hb dX9_packs_157 rfl (lv_at hl 4 rfl) ?_
                        refine gf_n (C := RX9) (T := TX9) (N := 15) (ci := 9) (q0 := 0) (v := .ref (rf 0)) hx hb hts (iU inlX9) hown hK hP rfl rfl 0 (by decide) (kU u_129) rfl rfl dX9_packs_158 ?_
                        refine lv_iload hx hb dX9_packs_161 (lv_at hl 0 rfl) ?_
                        refine lv_iconst (v := (nI 2)) hx hb dX9_packs_163 (by decide) ?_
                        refine lv_iadd hx hb dX9_packs_164 ?_
                        rw [nI_add (6 + 4 * i3) 2]
                        refine ia_n (q0 := 1) (t0 := 0) hx hb hK hP rfl rfl (by omega) (by decide) dX9_packs_165 ?_
                        rw [qR_3 (by omega)]
                        refine lv_if_le (tgt := 173) hx hb dX9_packs_166 (by decide) (fun c_166 => ?_) (fun c_166 => ?_)
                        · skip
                          replace c_166 := cn_le (b := 0) (by rw [e3i]; omega) (by decide) c_166
                          refine lv_iconst (v := (nI 0)) hx hb dX9_packs_173 (by decide) ?_
                          refine lv_isub hx hb dX9_packs_174 ?_
                          rw [pk_sub (a := h3 i3) (b := 0) (by omega)]
                          refine is_n (q0 := 1) (t0 := 0) (ws2 := (mX mr rf st ln th pl hs vs dg xx ++ qX cI (rf 0) (T 0 0) (T 0 1) (T 0 2) (T 0 3 + sumN (T 8) 30) (T 0 4) (T 0 5) (T 1) (va_up h2 i3 ((h2 i3) + 1)) (va_up h3 i3 ((h3 i3) - 0)) h4 (T 5) h6 (T 7) ((swR (T 7) (T 0 0) (T 0 1) 1801 h8).2) ++ iaX cI (rf 6) 6 y2)) hx hb hK hP hD hS rfl rfl (by omega) (by decide) dX9_packs_175 (by rw [qU_3 (by omega)]; rfl) (fun Hp locs hP hD hS => ?_)
                          refine lv_goto (tgt := 245) hx hb dX9_packs_176 (by decide) ?_
                          refine lv_aload_n hx hb dX9_packs_245 rfl (lv_at hl 4 rfl) ?_
                          refine gf_n (C := RX9) (T := TX9) (N := 15) (ci := 9) (q0 := 0) (v := .ref (rf 0)) hx hb hts (iU inlX9) hown hK hP rfl rfl 0 (by decide) (kU u_129) rfl rfl dX9_packs_246 ?_
                          refine lv_iload hx hb dX9_packs_249 (lv_at hl 0 rfl) ?_
                          refine lv_iconst (v := (nI 3)) hx hb dX9_packs_251 (by decide) ?_
                          refine lv_iadd hx hb dX9_packs_252 ?_
                          rw [nI_add (6 + 4 * i3) 3]
                          refine lv_iconst (v := (nI 0)) hx hb dX9_packs_253 (by decide) ?_
                          refine is_n (q0 := 1) (t0 := 0) (ws2 := (mX mr rf st ln th pl hs vs dg xx ++ qX cI (rf 0) (T 0 0) (T 0 1) (T 0 2) (T 0 3 + sumN (T 8) 30) (T 0 4) (T 0 5) (T 1) (va_up h2 i3 ((h2 i3) + 1)) (va_up h3 i3 ((h3 i3) - 0)) (va_up h4 i3 0) (T 5) h6 (T 7) ((swR (T 7) (T 0 0) (T 0 1) 1801 h8).2) ++ iaX cI (rf 6) 6 y2)) hx hb hK hP hD hS rfl rfl (by omega) (by decide) dX9_packs_254 (by rw [qU_4 (by omega)]; rfl) (fun Hp locs hP hD hS => ?_)
                          refine lv_iinc (v := (nI (i3 + 1))) (lv' := [(3, .int (nI (i3 + 1))), (4, .int (nI (6 + 4 * i3))), (2, .int (nI ((swR (T 7) (T 0 0) (T 0 1) 1801 h8).1))), (1, .int (nI 1)), (0, .ref mr)]) hx hb dX9_packs_255 hl (k := 1) rfl (nI_add i3 1) (by decide) rfl (fun ls hl => ?_)
                          refine lv_goto (tgt := 110) hx hb dX9_packs_258 (by decide) ?_
                          exact ih_110 (i3 + 1) (va_up h2 i3 ((h2 i3) + 1)) (va_up h3 i3 ((h3 i3) - 0)) (va_up h4 i3 0) (by omega) (by first | (rw [show h2 i3 + 1 = (fun h => if 0 < ptT T h then min 9 (T 2 h + 1) else T 2 h) i3 from by rw [e2i]; exact ((if_pos hpt).trans (Nat.min_eq_right (by have := c_131.2; omega))).symm, e2, tabN_s]) | (rw [e2]; exact (tabN_k (show (fun h => if 0 < ptT T h then min 9 (T 2 h + 1) else T 2 h) i3 = T 2 i3 from if_neg hpt)).symm)) (by first | (rw [show h3 i3 - 1 = (fun h => if 0 < ptT T h then T 3 h - 1 else if T 4 h = 1 then min 9 (T 3 h + T 1 h) else T 3 h) i3 from by rw [e3i]; exact (if_pos hpt).symm, e3, tabN_s]) | (rw [show h3 i3 - 0 = (fun h => if 0 < ptT T h then T 3 h - 1 else if T 4 h = 1 then min 9 (T 3 h + T 1 h) else T 3 h) i3 from by rw [e3i]; rw [e3i] at c_166; exact (show T 3 i3 - 0 = T 3 i3 - 1 by omega).trans (if_pos hpt).symm, e3, tabN_s]) | (rw [show h3 i3 + T 1 i3 = (fun h => if 0 < ptT T h then T 3 h - 1 else if T 4 h = 1 then min 9 (T 3 h + T 1 h) else T 3 h) i3 from by rw [e3i]; rw [e3i] at c_219; exact ((if_neg hpt).trans ((if_pos (by rw [← e4i]; exact c_189)).trans (Nat.min_eq_right c_219))).symm, e3, tabN_s]) | (rw [e3i] at c_219; rw [e3]; exact (congrArg (va_up (tabN (fun h => if 0 < ptT T h then T 3 h - 1 else if T 4 h = 1 then min 9 (T 3 h + T 1 h) else T 3 h) i3 (T 3)) i3) ((if_neg hpt).trans ((if_pos (by rw [← e4i]; exact c_189)).trans (Nat.min_eq_left (Nat.le_of_lt c_219)))).symm).trans (tabN_s _ _ _)) | (rw [e3]; exact (tabN_k (show (fun h => if 0 < ptT T h then T 3 h - 1 else if T 4 h = 1 then min 9 (T 3 h + T 1 h) else T 3 h) i3 = T 3 i3 from (if_neg hpt).trans (if_neg (by rw [← e4i]; exact c_189)))).symm)) (by rw [e4]; exact filN_s 0 i3 _) (by omega) _ _ hP hD hS _ (lv_sub hl [0, 2, 3, 4] rfl)
                        · skip
                          replace c_166 := cn_nle (b := 0) (by rw [e3i]; omega) (by decide) c_166
                          refine lv_iconst (v := (nI 1)) hx hb dX9_packs_169 (by decide) ?_
                          refine lv_goto (tgt := 174) hx hb dX9_packs_170 (by decide) ?_
                          refine lv_isub hx hb dX9_packs_174 ?_
                          rw [pk_sub (a := h3 i3) (b := 1) (by omega)]
                          refine is_n (q0 := 1) (t0 := 0) (ws2 := (mX mr rf st ln th pl hs vs dg xx ++ qX cI (rf 0) (T 0 0) (T 0 1) (T 0 2) (T 0 3 + sumN (T 8) 30) (T 0 4) (T 0 5) (T 1) (va_up h2 i3 ((h2 i3) + 1)) (va_up h3 i3 ((h3 i3) - 1)) h4 (T 5) h6 (T 7) ((swR (T 7) (T 0 0) (T 0 1) 1801 h8).2) ++ iaX cI (rf 6) 6 y2)) hx hb hK hP hD hS rfl rfl (by omega) (by decide) dX9_packs_175 (by rw [qU_3 (by omega)]; rfl) (fun Hp locs hP hD hS => ?_)
                          refine lv_goto (tgt := 245) hx hb dX9_packs_176 (by decide) ?_
                          refine lv_aload_n hx hb dX9_packs_245 rfl (lv_at hl 4 rfl) ?_
                          refine gf_n (C := RX9) (T := TX9) (N := 15) (ci := 9) (q0 := 0) (v := .ref (rf 0)) hx hb hts (iU inlX9) hown hK hP rfl rfl 0 (by decide) (kU u_129) rfl rfl dX9_packs_246 ?_
                          refine lv_iload hx hb dX9_packs_249 (lv_at hl 0 rfl) ?_
                          refine lv_iconst (v := (nI 3)) hx hb dX9_packs_251 (by decide) ?_
                          refine lv_iadd hx hb dX9_packs_252 ?_
                          rw [nI_add (6 + 4 * i3) 3]
                          refine lv_iconst (v := (nI 0)) hx hb dX9_packs_253 (by decide) ?_
                          refine is_n (q0 := 1) (t0 := 0) (ws2 := (mX mr rf st ln th pl hs vs dg xx ++ qX cI (rf 0) (T 0 0) (T 0 1) (T 0 2) (T 0 3 + sumN (T 8) 30) (T 0 4) (T 0 5) (T 1) (va_up h2 i3 ((h2 i3) + 1)) (va_up h3 i3 ((h3 i3) - 1)) (va_up h4 i3 0) (T 5) h6 (T 7) ((swR (T 7) (T 0 0) (T 0 1) 1801 h8).2) ++ iaX cI (rf 6) 6 y2)) hx hb hK hP hD hS rfl rfl (by omega) (by decide) dX9_packs_254 (by rw [qU_4 (by omega)]; rfl) (fun Hp locs hP hD hS => ?_)
                          refine lv_iinc (v := (nI (i3 + 1))) (lv' := [(3, .int (nI (i3 + 1))), (4, .int (nI (6 + 4 * i3))), (2, .int (nI ((swR (T 7) (T 0 0) (T 0 1) 1801 h8).1))), (1, .int (nI 1)), (0, .ref mr)]) hx hb dX9_packs_255 hl (k := 1) rfl (nI_add i3 1) (by decide) rfl (fun ls hl => ?_)
                          refine lv_goto (tgt := 110) hx hb dX9_packs_258 (by decide) ?_
                          exact ih_110 (i3 + 1) (va_up h2 i3 ((h2 i3) + 1)) (va_up h3 i3 ((h3 i3) - 1)) (va_up h4 i3 0) (by omega) (by first | (rw [show h2 i3 + 1 = (fun h => if 0 < ptT T h then min 9 (T 2 h + 1) else T 2 h) i3 from by rw [e2i]; exact ((if_pos hpt).trans (Nat.min_eq_right (by have := c_131.2; omega))).symm, e2, tabN_s]) | (rw [e2]; exact (tabN_k (show (fun h => if 0 < ptT T h then min 9 (T 2 h + 1) else T 2 h) i3 = T 2 i3 from if_neg hpt)).symm)) (by first | (rw [show h3 i3 - 1 = (fun h => if 0 < ptT T h then T 3 h - 1 else if T 4 h = 1 then min 9 (T 3 h + T 1 h) else T 3 h) i3 from by rw [e3i]; exact (if_pos hpt).symm, e3, tabN_s]) | (rw [show h3 i3 - 0 = (fun h => if 0 < ptT T h then T 3 h - 1 else if T 4 h = 1 then min 9 (T 3 h + T 1 h) else T 3 h) i3 from by rw [e3i]; rw [e3i] at c_166; exact (show T 3 i3 - 0 = T 3 i3 - 1 by omega).trans (if_pos hpt).symm, e3, tabN_s]) | (rw [show h3 i3 + T 1 i3 = (fun h => if 0 < ptT T h then T 3 h - 1 else if T 4 h = 1 then min 9 (T 3 h + T 1 h) else T 3 h) i3 from by rw [e3i]; rw [e3i] at c_219; exact ((if_neg hpt).trans ((if_pos (by rw [← e4i]; exact c_189)).trans (Nat.min_eq_right c_219))).symm, e3, tabN_s]) | (rw [e3i] at c_219; rw [e3]; exact (congrArg (va_up (tabN (fun h => if 0 < ptT T h then T 3 h - 1 else if T 4 h = 1 then min 9 (T 3 h + T 1 h) else T 3 h) i3 (T 3)) i3) ((if_neg hpt).trans ((if_pos (by rw [← e4i]; exact c_189)).trans (Nat.min_eq_left (Nat.le_of_lt c_219)))).symm).trans (tabN_s _ _ _)) | (rw [e3]; exact (tabN_k (show (fun h => if 0 < ptT T h then T 3 h - 1 else if T 4 h = 1 then min 9 (T 3 h + T 1 h) else T 3 h) i3 = T 3 i3 from (if_neg hpt).trans (if_neg (by rw [← e4i]; exact c_189)))).symm)) (by rw [e4]; exact filN_s 0 i3 _) (by omega) _ _ hP hD hS _ (lv_sub hl [0, 2, 3, 4] rfl)
                exact loop_110 ((T 0 0 - 0) + 1) 0 (T 2) (T 3) (T 4) (Nat.zero_le _) (tabN_0 _ _).symm (tabN_0 _ _).symm (filN_0 _ _).symm (Nat.lt_succ_self _) _ _ hP hD hS _ (lv_sub hl [0, 1, 2, 3] rfl)
              · skip
                replace c_59 := cn_nle (by omega) (by omega) c_59
                refine lv_iload_n hx hb dX9_packs_62 rfl (lv_at hl 1 rfl) ?_
                refine lv_if_eq (tgt := 74) hx hb dX9_packs_63 (by decide) (fun c_63 => absurd c_63 (by decide +kernel)) (fun _ => ?_)
                refine lv_aload_n hx hb dX9_packs_66 rfl (lv_at hl 2 rfl) ?_
                refine lv_iload_n hx hb dX9_packs_67 rfl (lv_at hl 0 rfl) ?_
                refine gp_V (ci := 9) (q0 := 0) (cq := (RX9, TX9, 15)) (c_X9_shareOut l D cI cZ cF cL mr rf st ln th pl hs vs dg xx (T 0 0) (T 0 1) (T 0 2) (T 0 3 + sumN (T 8) 30) (T 0 4) (T 0 5) (T 1) (T 2) (T 3) (T 4) (T 5) h6 (T 7) h8 y2 i hH (by omega) (fun h hh => (hT.2.1 h (by omega)).2.2.2.2.1 hh) (fun h hh => (hT.2.1 h hh).1) (fun h hh => (hT.2.1 h hh).2.1) (fun h hh => (hT.2.1 h hh).2.2.1) (fun h hh => (hT.2.1 h hh).2.2.2.1) (hT.2.2.1 i (by omega)).1 hT.2.2.2.1 hPP) (gUV u_653 u_654 u_655 u_5 u_656) rfl hdV_X9_shareOut ⟨Nat.le_of_ble_eq_true rfl, Nat.le_of_ble_eq_true rfl⟩ ⟨rfl, rfl⟩ hx hb hml hown hts hK hA hP hD hS hl.1 ⟨Nat.le_of_ble_eq_true rfl, Nat.le_of_ble_eq_true rfl⟩ rfl rfl rfl (wr := ([] : va_W)) (pm_cnt (fun _ => by simp only [List.countP_append, List.countP_nil, fT] <;> omega)) (fun _ => by simp only [List.map_append, List.map_nil, fX_m, bX_m, sX_m, pX_m, iaX_m, r5X_m, r6X_m, fT_m, hX_m, tX_m, xX_m, sgX_m, zaX_m, fsB_a, qX_m, mX_m]) (rest := []) rfl rfl (Nat.le_of_ble_eq_true rfl) dX9_packs_68 (ws2 := (fun u_68 : (Nat → Nat) => (mX mr rf st ln th pl hs vs dg xx ++ qX cI (rf 0) (T 0 0) (T 0 1) (T 0 2) (T 0 3 + sumN (T 8) 30) (T 0 4) (T 0 5) (T 1) (T 2) (T 3) (T 4) (T 5) (va_up h6 i (glN (T 7) (partN (T 1) (T 2) (T 3) (T 4)) i (T 0 0) (dlK h8 ((T 5) i) (partN (T 1) (T 2) (T 3) (T 4)) (sumN (partN (T 1) (T 2) (T 3) (T 4)) (T 0 0)) i (T 0 0)) (h6 i) ((T 5) i - shS ((T 5) i) (partN (T 1) (T 2) (T 3) (T 4)) (sumN (partN (T 1) (T 2) (T 3) (T 4)) (T 0 0)) (T 0 0))).2.2) (T 7) ((glN (T 7) (partN (T 1) (T 2) (T 3) (T 4)) i (T 0 0) (dlK h8 ((T 5) i) (partN (T 1) (T 2) (T 3) (T 4)) (sumN (partN (T 1) (T 2) (T 3) (T 4)) (T 0 0)) i (T 0 0)) (h6 i) ((T 5) i - shS ((T 5) i) (partN (T 1) (T 2) (T 3) (T 4)) (sumN (partN (T 1) (T 2) (T 3) (T 4)) (T 0 0)) (T 0 0))).1) ++ iaX cI (rf 6) 6 u_68))) (fun _ => (pm_cnt (fun _ => by simp only [List.countP_append, List.countP_nil, fT] <;> omega))) (fun u_68 Hp locs hP hD hS => ?_)
                refine lv_goto (tgt := 97) hx hb dX9_packs_71 (by decide) ?_
                refine lv_iinc (v := (nI (i + 1))) (lv' := [(2, .int (nI (i + 1))), (1, .int (nI 1)), (0, .ref mr)]) hx hb dX9_packs_97 hl (k := 0) rfl (nI_add i 1) (by decide) rfl (fun ls hl => ?_)
                refine lv_goto (tgt := 52) hx hb dX9_packs_100 (by decide) ?_
                exact ih_52 (i + 1) (va_up h6 i (glN (T 7) (partN (T 1) (T 2) (T 3) (T 4)) i (T 0 0) (dlK h8 ((T 5) i) (partN (T 1) (T 2) (T 3) (T 4)) (sumN (partN (T 1) (T 2) (T 3) (T 4)) (T 0 0)) i (T 0 0)) (h6 i) ((T 5) i - shS ((T 5) i) (partN (T 1) (T 2) (T 3) (T 4)) (sumN (partN (T 1) (T 2) (T 3) (T 4)) (T 0 0)) (T 0 0))).2.2) ((glN (T 7) (partN (T 1) (T 2) (T 3) (T 4)) i (T 0 0) (dlK h8 ((T 5) i) (partN (T 1) (T 2) (T 3) (T 4)) (sumN (partN (T 1) (T 2) (T 3) (T 4)) (T 0 0)) i (T 0 0)) (h6 i) ((T 5) i - shS ((T 5) i) (partN (T 1) (T 2) (T 3) (T 4)) (sumN (partN (T 1) (T 2) (T 3) (T 4)) (T 0 0)) (T 0 0))).1) u_68 (by omega) (by first | (rw [e8, e6]; rfl) | (rw [e8]; exact (congrArg Prod.fst (pkV_0 (v := i) (f5 := T 5) (f7 := T 7) (nH := T 0 0) (s := pkS (T 5) (T 6) (T 7) (partN (T 1) (T 2) (T 3) (T 4)) (sumN (partN (T 1) (T 2) (T 3) (T 4)) (T 0 0)) (T 0 0) i) hP0 (sum_0 _ hP0))).symm)) (by first | (rw [e8, e6]; rfl) | (rw [e6]; exact (congrArg Prod.snd (pkV_0 (v := i) (f5 := T 5) (f7 := T 7) (nH := T 0 0) (s := pkS (T 5) (T 6) (T 7) (partN (T 1) (T 2) (T 3) (T 4)) (sumN (partN (T 1) (T 2) (T 3) (T 4)) (T 0 0)) (T 0 0) i) hP0 (sum_0 _ hP0))).symm)) (by omega) _ _ hP hD hS _ (lv_sub hl [0, 1, 2] rfl)
          exact loop_52 ((T 0 1 - 0) + 1) 0 (T 6) ((fun _ => 0)) g (Nat.zero_le _) rfl rfl (Nat.lt_succ_self _) _ _ hP hD hS _ (lv_sub hl [0, 1, 2] rfl)
      · skip
        replace c_6 := cn_nle (by omega) (by omega) c_6
        refine lv_aload_n hx hb dX9_packs_9 rfl (lv_at hl 1 rfl) ?_
        refine gf_n (C := RX9) (T := TX9) (N := 15) (ci := 9) (q0 := 0) (v := .ref (rf 0)) hx hb hts (iU inlX9) hown hK hP rfl rfl 0 (by decide) (kU u_129) rfl rfl dX9_packs_10 ?_
        refine lv_iconst (v := (nI 3)) hx hb dX9_packs_13 (by decide) ?_
        refine lv_dup2_11 hx hb dX9_packs_14 rfl rfl ?_
        refine ia_n (q0 := 1) (t0 := 0) hx hb hK hP rfl rfl (by omega) (by decide) dX9_packs_15 ?_
        refine lv_aload_n hx hb dX9_packs_16 rfl (lv_at hl 1 rfl) ?_
        refine gf_n (C := RX9) (T := TX9) (N := 15) (ci := 9) (q0 := 0) (v := .ref (rf 0)) hx hb hts (iU inlX9) hown hK hP rfl rfl 0 (by decide) (kU u_129) rfl rfl dX9_packs_17 ?_
        refine lv_iload_n hx hb dX9_packs_20 rfl (lv_at hl 0 rfl) ?_
        refine ia_n (q0 := 1) (t0 := 0) hx hb hK hP rfl rfl (by omega) (by decide) dX9_packs_21 ?_
        refine lv_iadd hx hb dX9_packs_22 ?_
        rw [nI_add (y 3) (y i)]
        refine is_n (q0 := 1) (t0 := 0) (ws2 := (mX mr rf st ln th pl hs vs dg xx ++ iaX cI (rf 0) 100 (va_up y 3 ((y 3) + (y i))) ++ iaX cI (rf 6) 6 g)) hx hb hK hP hD hS rfl rfl (by omega) (by decide) dX9_packs_23 rfl (fun Hp locs hP hD hS => ?_)
        refine lv_aload_n hx hb dX9_packs_24 rfl (lv_at hl 1 rfl) ?_
        refine gf_n (C := RX9) (T := TX9) (N := 15) (ci := 9) (q0 := 0) (v := .ref (rf 0)) hx hb hts (iU inlX9) hown hK hP rfl rfl 0 (by decide) (kU u_129) rfl rfl dX9_packs_25 ?_
        refine lv_iload_n hx hb dX9_packs_28 rfl (lv_at hl 0 rfl) ?_
        refine lv_iconst (v := (nI 0)) hx hb dX9_packs_29 (by decide) ?_
        refine is_n (q0 := 1) (t0 := 0) (ws2 := (mX mr rf st ln th pl hs vs dg xx ++ iaX cI (rf 0) 100 (va_up (va_up y 3 ((y 3) + (y i))) i 0) ++ iaX cI (rf 6) 6 g)) hx hb hK hP hD hS rfl rfl (by omega) (by decide) dX9_packs_30 rfl (fun Hp locs hP hD hS => ?_)
        refine lv_iinc (v := (nI (i + 1))) (lv' := [(1, .int (nI (i + 1))), (0, .ref mr)]) hx hb dX9_packs_31 hl (k := 0) rfl (nI_add i 1) (by decide) rfl (fun ls hl => ?_)
        refine lv_goto (tgt := 3) hx hb dX9_packs_34 (by decide) ?_
        exact ih_3 (i + 1) (va_up (va_up y 3 ((y 3) + (y i))) i 0) (j + 1) (by omega) (eat_s ey hj.1) (by omega) _ _ hP hD hS _ (lv_sub hl [0, 1] rfl)
  exact loop_3 ((100 - 70) + 1) 70 (qN (T 0 0) (T 0 1) (T 0 2) (T 0 3) (T 0 4) (T 0 5) (T 1) (T 2) (T 3) (T 4) (T 5) (T 6) (T 7) (T 8)) 0 (by omega) (by rw [filN_0]; rfl) (Nat.lt_succ_self _) _ _ hP hD hS _ (lv_sub hl [0, 1] rfl)
