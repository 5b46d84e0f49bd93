theorem up_same (f : Nat → Nat) (k : Nat) : va_up f k (f k) = f := by
  funext j
  by_cases e : j = k
  · subst e; rw [up_s]
  · rw [up_n e]
theorem up_up (f : Nat → Nat) (k x y : Nat) : va_up (va_up f k x) k y = va_up f k y := by
  funext j
  by_cases e : j = k
  · subst e; rw [up_s, up_s]
  · rw [up_n e, up_n e, up_n e]
theorem tabN_k {p g : Nat → Nat} {n : Nat} (h : p n = g n) : tabN p (n + 1) g = tabN p n g := by
  rw [← tabN_s, h]
  have e : tabN p n g n = g n := tabN_out (Nat.le_refl n)
  rw [← e]
  exact up_same _ _
theorem partN_le {f1 f2 f3 f4 : Nat → Nat} {h : Nat} (h1 : f1 h ≤ 4) : partN f1 f2 f3 f4 h ≤ 5 := by
  unfold partN
  split
  · split <;> omega
  · omega
theorem wz_at {x y : Nat} (hx : x < 2 ^ 29) (hy : y < 2 ^ 29) : (nI x - nI (2 * y)).toInt = (x : Int) - 2 * (y : Int) := by
  rw [pk_sub_toInt (by omega) (by omega)]
  omega
theorem sumN_c {f : Nat → Nat} {c : Nat} : ∀ n, (∀ k, k < n → f k ≤ c) → sumN f n ≤ c * n
  | 0, _ => Nat.zero_le _
  | n + 1, h => by
    have h1 := sumN_c n (fun k hk => h k (Nat.lt_succ_of_lt hk))
    have h2 := h n (Nat.lt_succ_self n)
    rw [sumN_s, Nat.mul_succ]
    omega
theorem bst_v {f7 f8 : Nat → Nat} {nH nV a b i : Nat} (hb : b < 6) (hi : nV ≤ i) (h5 : i ≤ 5) : bst f7 f8 nH nV (150 * a + 25 * b + 25) = bst f7 f8 nH nV (150 * a + 25 * b + 5 * i) := by
  rw [show 150 * a + 25 * b + 25 = (150 * a + 25 * b + 5 * i) + (25 - 5 * i) by omega]
  exact bst_skip _ (fun k h1 h2 => gk_bad (by omega))
theorem bst_w {f7 f8 : Nat → Nat} {nH nV a b i j : Nat} (hb : b < 6) (h : i < 5) (hi : nV ≤ j) (h5 : j ≤ 5) : bst f7 f8 nH nV (150 * a + 25 * b + 5 * (i + 1)) = bst f7 f8 nH nV (150 * a + 25 * b + 5 * i + j) := by
  rw [show 150 * a + 25 * b + 5 * (i + 1) = (150 * a + 25 * b + 5 * i + j) + (5 - j) by omega]
  exact bst_skip _ (fun k h1 h2 => gk_bad (by omega))
theorem bst_w0 {f7 f8 : Nat → Nat} {nH nV a b i : Nat} (hb : b < 6) (h : i < 5) (h0 : f8 (a * 5 + i) = 0) : bst f7 f8 nH nV (150 * a + 25 * b + 5 * (i + 1)) = bst f7 f8 nH nV (150 * a + 25 * b + 5 * i) := by
  rw [show 150 * a + 25 * b + 5 * (i + 1) = (150 * a + 25 * b + 5 * i) + 5 by omega]
  refine bst_skip _ (fun k h1 h2 => ?_)
  obtain ⟨w, hw, rfl⟩ : ∃ w, w < 5 ∧ k = 150 * a + 25 * b + 5 * i + w := ⟨k - (150 * a + 25 * b + 5 * i), by omega, by omega⟩
  rw [gk_at f7 f8 nH nV hb h hw]
  exact if_neg (fun q => by omega)
theorem bst_ab {f7 f8 : Nat → Nat} {nH nV i : Nat} (h : i < 6) : bst f7 f8 nH nV (150 * i) = bst f7 f8 nH nV (150 * i + 25 * (i + 1)) :=
  (bst_skip _ (fun k h1 h2 => gk_bad (by omega))).symm
theorem bst_b {f7 f8 : Nat → Nat} {nH nV i j : Nat} (hj : nH ≤ j) (h6 : j ≤ 6) : bst f7 f8 nH nV (150 * i + 25 * j) = bst f7 f8 nH nV (150 * (i + 1)) := by
  rw [show 150 * (i + 1) = (150 * i + 25 * j) + (150 - 25 * j) by omega]
  exact (bst_skip _ (fun k h1 h2 => gk_bad (by omega))).symm
theorem bst_a {f7 f8 : Nat → Nat} {nH nV i : Nat} (hi : nH ≤ i) (h6 : i ≤ 6) : bst f7 f8 nH nV 900 = bst f7 f8 nH nV (150 * i) := by
  rw [show 900 = 150 * i + (900 - 150 * i) by omega]
  exact bst_skip _ (fun k h1 h2 => gk_bad (by omega))
theorem bw_no {f7 f8 : Nat → Nat} {nH nV a b i j : Nat} (hb : b < 6) (hi : i < 5) (hj : j < 5) (h : gai f7 f8 nH nV a b i j ≤ (bst f7 f8 nH nV (150 * a + 25 * b + 5 * i + j)).2) : bst f7 f8 nH nV (150 * a + 25 * b + 5 * i + (j + 1)) = bst f7 f8 nH nV (150 * a + 25 * b + 5 * i + j) :=
  bst_no (n := 150 * a + 25 * b + 5 * i + j) (by rw [gk_at f7 f8 nH nV hb hi hj]; exact h)
theorem bw_0 {f7 f8 : Nat → Nat} {nH nV a b i j : Nat} (hb : b < 6) (hi : i < 5) (hj : j < 5) (h : ¬ (0 < f8 (a * 5 + i) ∧ 0 < f8 (b * 5 + j) ∧ f7 (a * 5 + i) < f7 (a * 5 + j) ∧ f7 (b * 5 + j) < f7 (b * 5 + i))) : bst f7 f8 nH nV (150 * a + 25 * b + 5 * i + (j + 1)) = bst f7 f8 nH nV (150 * a + 25 * b + 5 * i + j) :=
  bw_no hb hi hj (by
    rw [show gai f7 f8 nH nV a b i j = 0 from if_neg (fun q => h q.2.2.2.2)]
    exact Nat.zero_le _)
theorem gai_p {f7 f8 : Nat → Nat} {nH nV a b i j : Nat} (hab : a < b) (hbH : b < nH) (hiV : i < nV) (hjV : j < nV) (h1 : 0 < f8 (a * 5 + i)) (h2 : 0 < f8 (b * 5 + j)) (h3 : f7 (a * 5 + i) < f7 (a * 5 + j)) (h4 : f7 (b * 5 + j) < f7 (b * 5 + i)) : gai f7 f8 nH nV a b i j = f7 (a * 5 + j) - f7 (a * 5 + i) + (f7 (b * 5 + i) - f7 (b * 5 + j)) := if_pos ⟨hab, hbH, hiV, hjV, h1, h2, h3, h4⟩
theorem bw_yes {f7 f8 : Nat → Nat} {nH nV a b i j : Nat} (hb : b < 6) (hi : i < 5) (hj : j < 5) (h : (bst f7 f8 nH nV (150 * a + 25 * b + 5 * i + j)).2 < gai f7 f8 nH nV a b i j) : bst f7 f8 nH nV (150 * a + 25 * b + 5 * i + (j + 1)) = (150 * a + 25 * b + 5 * i + j, gai f7 f8 nH nV a b i j) := by
  have e := gk_at f7 f8 nH nV hb hi hj (a := a)
  have h2 := bst_yes (n := 150 * a + 25 * b + 5 * i + j) (by rw [e]; exact h)
  rw [e] at h2
  exact h2
theorem sl_at {a b i j g y1 y2 y3 y4 : Nat} (hb : b < 6) (hi : i < 5) (hj : j < 5) (h : 0 < g) : slA y1 (150 * a + 25 * b + 5 * i + j, g) = a ∧ slB y2 (150 * a + 25 * b + 5 * i + j, g) = b ∧ slV y3 (150 * a + 25 * b + 5 * i + j, g) = i ∧ slW y4 (150 * a + 25 * b + 5 * i + j, g) = j := by
  unfold slA slB slV slW
  dsimp only
  rw [if_pos h, if_pos h, if_pos h, if_pos h]
  exact ⟨by omega, by omega, by omega, by omega⟩
set_option maxRecDepth 20000 in
theorem u_623 : Cond.fieldLink RX7 24 "HarvestBoxes$Farm" "vegetables" "I" ∈ wsL_law := List.mem_of_getElem? (i := 219) (by decide +kernel)
set_option maxRecDepth 20000 in
theorem u_624 : Cond.fieldLink RX7 27 "HarvestBoxes$Farm" "kilos" "[I" ∈ wsL_law := List.mem_of_getElem? (i := 220) (by decide +kernel)
set_option maxRecDepth 20000 in
theorem u_625 : Cond.fieldLink RX7 31 "HarvestBoxes$Farm" "likings" "[I" ∈ wsL_law := List.mem_of_getElem? (i := 221) (by decide +kernel)
set_option maxRecDepth 20000 in
theorem u_617 : Cond.fieldLink RX7 9 "HarvestBoxes$Swap" "gain" "I" ∈ wsL_law := List.mem_of_getElem? (i := 213) (by decide +kernel)
set_option maxRecDepth 20000 in
theorem u_626 : Cond.fieldLink RX7 34 "HarvestBoxes$Swap" "a" "I" ∈ wsL_law := List.mem_of_getElem? (i := 222) (by decide +kernel)
set_option maxRecDepth 20000 in
theorem u_627 : Cond.fieldLink RX7 37 "HarvestBoxes$Swap" "b" "I" ∈ wsL_law := List.mem_of_getElem? (i := 223) (by decide +kernel)
set_option maxRecDepth 20000 in
theorem u_628 : Cond.fieldLink RX7 40 "HarvestBoxes$Swap" "v" "I" ∈ wsL_law := List.mem_of_getElem? (i := 224) (by decide +kernel)
set_option maxRecDepth 20000 in
theorem u_629 : Cond.fieldLink RX7 43 "HarvestBoxes$Swap" "w" "I" ∈ wsL_law := List.mem_of_getElem? (i := 225) (by decide +kernel)
set_option maxHeartbeats 4000000 in
set_option maxRecDepth 100000 in
theorem c_X7_findBetween (l : Launch) (D : va_G) (cI cZ cF cL : ClassId) (s0 : Nat) (x1 x2 x3 x4 x5 : Nat) (a : Nat → Nat) (nH nV wk ea gi sw : Nat) (f1 f2 f3 f4 f5 f6 f7 f8 : Nat → Nat) (y1 y2 y3 y4 one other : Nat) (hH : nH ≤ 6) (hV : nV ≤ 5) (hoo : one < other) (hoH : other < nH) (b7 : ∀ k, k < 30 → f7 k ≤ 9) (b8 : ∀ k, k < 30 → f8 k < 2 ^ 31) (e1 : x1 = slA y1 (bst f7 f8 nH nV (150 * one + 25 * other))) (e2 : x2 = slB y2 (bst f7 f8 nH nV (150 * one + 25 * other))) (e3 : x3 = slV y3 (bst f7 f8 nH nV (150 * one + 25 * other))) (e4 : x4 = slW y4 (bst f7 f8 nH nV (150 * one + 25 * other))) (e5 : x5 = (bst f7 f8 nH nV (150 * one + 25 * other)).2) : CT l D (tysX cI cZ cF cL) yX7_findBetween (wA yX7_findBetween cX7_findBetween 11 none) (rmF 0 0) [.ref s0, .ref (a 0), .int (nI one), .int (nI other)] (sX s0 x1 x2 x3 x4 x5 ++ fX cI a nH nV wk ea gi sw f1 f2 f3 f4 f5 f6 f7 f8) (none : Option Value) (fun _ : Unit => (sX s0 (slA y1 (bst f7 f8 nH nV (150 * one + 25 * other + 25))) (slB y2 (bst f7 f8 nH nV (150 * one + 25 * other + 25))) (slV y3 (bst f7 f8 nH nV (150 * one + 25 * other + 25))) (slW y4 (bst f7 f8 nH nV (150 * one + 25 * other + 25))) ((bst f7 f8 nH nV (150 * one + 25 * other + 25)).2) ++ fX cI a nH nV wk ea gi sw f1 f2 f3 f4 f5 f6 f7 f8)) := by
  refine ct_in (cc := cX7_findBetween) (maxL := 11) (ret := none) (own := RX7) (lv := [(0, .ref s0), (1, .ref (a 0)), (2, .int (nI one)), (3, .int (nI other))]) (by decide +kernel) rfl rfl (Nat.le_of_ble_eq_true rfl) rfl ?_
  intro p e s m args below meth c A ls hx hb hr hml hts hown hlocks hK hA hP hD hS hl
  refine lv_iload_n hx hb dX7_findBetween_0 rfl (lv_at hl 2 rfl) ?_
  refine lv_iconst (v := (nI 5)) hx hb dX7_findBetween_1 (by decide) ?_
  refine lv_imul hx hb dX7_findBetween_2 ?_
  rw [pk_mul one 5]
  refine lv_istore (lv' := [(4, .int (nI (one * 5))), (0, .ref s0), (1, .ref (a 0)), (2, .int (nI one)), (3, .int (nI other))]) hx hb dX7_findBetween_3 hl (by decide) rfl (fun ls hl => ?_)
  refine lv_iload_n hx hb dX7_findBetween_5 rfl (lv_at hl 4 rfl) ?_
  refine lv_iconst (v := (nI 5)) hx hb dX7_findBetween_6 (by decide) ?_
  refine lv_imul hx hb dX7_findBetween_7 ?_
  rw [pk_mul other 5]
  refine lv_istore (lv' := [(5, .int (nI (other * 5))), (4, .int (nI (one * 5))), (0, .ref s0), (1, .ref (a 0)), (2, .int (nI one)), (3, .int (nI other))]) hx hb dX7_findBetween_8 hl (by decide) rfl (fun ls hl => ?_)
  refine lv_iconst (v := (nI 0)) hx hb dX7_findBetween_10 (by decide) ?_
  refine lv_istore (lv' := [(6, .int (nI 0)), (5, .int (nI (other * 5))), (4, .int (nI (one * 5))), (0, .ref s0), (1, .ref (a 0)), (2, .int (nI one)), (3, .int (nI other))]) hx hb dX7_findBetween_11 hl (by decide) rfl (fun ls hl => ?_)
  have loop_13 : ∀ (dd : Nat) (i : Nat) (z1 : Nat) (z2 : Nat) (z3 : Nat) (z4 : Nat) (z5 : Nat), (i ≤ nV) → (z1 = slA y1 (bst f7 f8 nH nV (150 * one + 25 * other + 5 * i))) → (z2 = slB y2 (bst f7 f8 nH nV (150 * one + 25 * other + 5 * i))) → (z3 = slV y3 (bst f7 f8 nH nV (150 * one + 25 * other + 5 * i))) → (z4 = slW y4 (bst f7 f8 nH nV (150 * one + 25 * other + 5 * i))) → (z5 = (bst f7 f8 nH nV (150 * one + 25 * other + 5 * i)).2) → (nV - i) < dd → ∀ (Hp : Heap) (locs : List Loc), va_P D vwCl (sX s0 z1 z2 z3 z4 z5 ++ fX cI a nH nV wk ea gi sw f1 f2 f3 f4 f5 f6 f7 f8) Hp → va_D A (sX s0 z1 z2 z3 z4 z5 ++ fX cI a nH nV wk ea gi sw f1 f2 f3 f4 f5 f6 f7 f8) → va_S A s.heap Hp locs → ∀ ls : Array Slot, lv_has ls 11 [(6, .int (nI i)), (5, .int (nI (other * 5))), (4, .int (nI (one * 5))), (0, .ref s0), (1, .ref (a 0)), (2, .int (nI one)), (3, .int (nI other))] → W p l e (rmF 0 0) s m args below meth c Hp locs 0 0 (MQ below (CQ D (none : Option Value) (fun _ : Unit => (sX s0 (slA y1 (bst f7 f8 nH nV (150 * one + 25 * other + 25))) (slB y2 (bst f7 f8 nH nV (150 * one + 25 * other + 25))) (slV y3 (bst f7 f8 nH nV (150 * one + 25 * other + 25))) (slW y4 (bst f7 f8 nH nV (150 * one + 25 * other + 25))) ((bst f7 f8 nH nV (150 * one + 25 * other + 25)).2) ++ fX cI a nH nV wk ea gi sw f1 f2 f3 f4 f5 f6 f7 f8)) A) args s 0 0 A) (F0 m 13 ls []) := by
    intro dd
    induction dd with
    | zero => intro i z1 z2 z3 z4 z5 hi p1 p2 p3 p4 p5 hm; exact absurd hm (Nat.not_lt_zero _)
    | succ dd ih_13 =>
      intro i z1 z2 z3 z4 z5 hi p1 p2 p3 p4 p5 hm Hp locs hP hD hS ls hl
      refine lv_iload hx hb dX7_findBetween_13 (lv_at hl 0 rfl) ?_
      refine lv_aload_n hx hb dX7_findBetween_15 rfl (lv_at hl 4 rfl) ?_
      refine gf_n (C := RX1) (T := TX1) (N := 14) (ci := 1) (q0 := 1) (v := .int (nI nV)) hx hb hts (iU inlX1) hown hK hP rfl rfl 1 (by decide) (kU u_623) rfl rfl dX7_findBetween_16 ?_
      refine lv_icmp_ge (tgt := 189) hx hb dX7_findBetween_19 (by decide) (fun c_19 => ?_) (fun c_19 => ?_)
      · skip
        replace c_19 := cn_le (by omega) (by omega) c_19
        exact ct_v () hx hb hr hlocks (by rw [p1, p2, p3, p4, p5, ← bst_v (by omega) c_19 (by omega)] at hP; exact hP) hS dX7_findBetween_189
      · skip
        replace c_19 := cn_nle (by omega) (by omega) c_19
        refine lv_aload_n hx hb dX7_findBetween_22 rfl (lv_at hl 4 rfl) ?_
        refine gf_n (C := RX1) (T := TX1) (N := 14) (ci := 1) (q0 := 1) (v := .ref (a 8)) hx hb hts (iU inlX1) hown hK hP rfl rfl 13 (by decide) (kU u_624) rfl rfl dX7_findBetween_23 ?_
        refine lv_iload hx hb dX7_findBetween_26 (lv_at hl 2 rfl) ?_
        refine lv_iload hx hb dX7_findBetween_28 (lv_at hl 0 rfl) ?_
        refine lv_iadd hx hb dX7_findBetween_30 ?_
        rw [nI_add (one * 5) i]
        refine ia_n (q0 := 9) (t0 := 0) hx hb hK hP rfl rfl (by omega) (by decide) dX7_findBetween_31 ?_
        refine lv_if_ne (tgt := 38) hx hb dX7_findBetween_32 (by decide) (fun c_32 => ?_) (fun c_32 => ?_)
        · skip
          replace c_32 := cn_ne (b := 0) c_32
          refine lv_iconst (v := (nI 0)) hx hb dX7_findBetween_38 (by decide) ?_
          refine lv_istore (lv' := [(7, .int (nI 0)), (6, .int (nI i)), (5, .int (nI (other * 5))), (4, .int (nI (one * 5))), (0, .ref s0), (1, .ref (a 0)), (2, .int (nI one)), (3, .int (nI other))]) hx hb dX7_findBetween_39 hl (by decide) rfl (fun ls hl => ?_)
          have loop_41 : ∀ (dd : Nat) (j : Nat) (w1 : Nat) (w2 : Nat) (w3 : Nat) (w4 : Nat) (w5 : Nat), (j ≤ nV) → (w1 = slA y1 (bst f7 f8 nH nV (150 * one + 25 * other + 5 * i + j))) → (w2 = slB y2 (bst f7 f8 nH nV (150 * one + 25 * other + 5 * i + j))) → (w3 = slV y3 (bst f7 f8 nH nV (150 * one + 25 * other + 5 * i + j))) → (w4 = slW y4 (bst f7 f8 nH nV (150 * one + 25 * other + 5 * i + j))) → (w5 = (bst f7 f8 nH nV (150 * one + 25 * other + 5 * i + j)).2) → (nV - j) < dd → ∀ (Hp : Heap) (locs : List Loc), va_P D vwCl (sX s0 w1 w2 w3 w4 w5 ++ fX cI a nH nV wk ea gi sw f1 f2 f3 f4 f5 f6 f7 f8) Hp → va_D A (sX s0 w1 w2 w3 w4 w5 ++ fX cI a nH nV wk ea gi sw f1 f2 f3 f4 f5 f6 f7 f8) → va_S A s.heap Hp locs → ∀ ls : Array Slot, lv_has ls 11 [(7, .int (nI j)), (6, .int (nI i)), (5, .int (nI (other * 5))), (4, .int (nI (one * 5))), (0, .ref s0), (1, .ref (a 0)), (2, .int (nI one)), (3, .int (nI other))] → W p l e (rmF 0 0) s m args below meth c Hp locs 0 0 (MQ below (CQ D (none : Option Value) (fun _ : Unit => (sX s0 (slA y1 (bst f7 f8 nH nV (150 * one + 25 * other + 25))) (slB y2 (bst f7 f8 nH nV (150 * one + 25 * other + 25))) (slV y3 (bst f7 f8 nH nV (150 * one + 25 * other + 25))) (slW y4 (bst f7 f8 nH nV (150 * one + 25 * other + 25))) ((bst f7 f8 nH nV (150 * one + 25 * other + 25)).2) ++ fX cI a nH nV wk ea gi sw f1 f2 f3 f4 f5 f6 f7 f8)) A) args s 0 0 A) (F0 m 41 ls []) := by
            intro dd
            induction dd with
            | zero => intro j w1 w2 w3 w4 w5 hj q1 q2 q3 q4 q5 hm; exact absurd hm (Nat.not_lt_zero _)
            | succ dd ih_41 =>
              intro j w1 w2 w3 w4 w5 hj q1 q2 q3 q4 q5 hm Hp locs hP hD hS ls hl
              refine lv_iload hx hb dX7_findBetween_41 (lv_at hl 0 rfl) ?_
              refine lv_aload_n hx hb dX7_findBetween_43 rfl (lv_at hl 5 rfl) ?_
              refine gf_n (C := RX1) (T := TX1) (N := 14) (ci := 1) (q0 := 1) (v := .int (nI nV)) hx hb hts (iU inlX1) hown hK hP rfl rfl 1 (by decide) (kU u_623) rfl rfl dX7_findBetween_44 ?_
              refine lv_icmp_ge (tgt := 183) hx hb dX7_findBetween_47 (by decide) (fun c_47 => ?_) (fun c_47 => ?_)
              · skip
                replace c_47 := cn_le (by omega) (by omega) c_47
                refine lv_iinc (v := (nI (i + 1))) (lv' := [(6, .int (nI (i + 1))), (7, .int (nI j)), (5, .int (nI (other * 5))), (4, .int (nI (one * 5))), (0, .ref s0), (1, .ref (a 0)), (2, .int (nI one)), (3, .int (nI other))]) hx hb dX7_findBetween_183 hl (k := 1) rfl (nI_add i 1) (by decide) rfl (fun ls hl => ?_)
                refine lv_goto (tgt := 13) hx hb dX7_findBetween_186 (by decide) ?_
                exact ih_13 (i + 1) w1 w2 w3 w4 w5 (by omega) (by first | (rw [bst_w0 (by omega) (by omega) c_32]; exact p1) | (rw [bst_w (by omega) (by omega) (by omega) (by omega)]; exact q1)) (by first | (rw [bst_w0 (by omega) (by omega) c_32]; exact p2) | (rw [bst_w (by omega) (by omega) (by omega) (by omega)]; exact q2)) (by first | (rw [bst_w0 (by omega) (by omega) c_32]; exact p3) | (rw [bst_w (by omega) (by omega) (by omega) (by omega)]; exact q3)) (by first | (rw [bst_w0 (by omega) (by omega) c_32]; exact p4) | (rw [bst_w (by omega) (by omega) (by omega) (by omega)]; exact q4)) (by first | (rw [bst_w0 (by omega) (by omega) c_32]; exact p5) | (rw [bst_w (by omega) (by omega) (by omega) (by omega)]; exact q5)) (by omega) _ _ hP hD hS _ (lv_sub hl [0, 2, 3, 4, 5, 6, 7] rfl)
              · skip
                replace c_47 := cn_nle (by omega) (by omega) c_47
                refine lv_aload_n hx hb dX7_findBetween_50 rfl (lv_at hl 5 rfl) ?_
                refine gf_n (C := RX1) (T := TX1) (N := 14) (ci := 1) (q0 := 1) (v := .ref (a 8)) hx hb hts (iU inlX1) hown hK hP rfl rfl 13 (by decide) (kU u_624) rfl rfl dX7_findBetween_51 ?_
                refine lv_iload hx hb dX7_findBetween_54 (lv_at hl 2 rfl) ?_
                refine lv_iload hx hb dX7_findBetween_56 (lv_at hl 0 rfl) ?_
                refine lv_iadd hx hb dX7_findBetween_58 ?_
                rw [nI_add (other * 5) j]
                refine ia_n (q0 := 9) (t0 := 0) hx hb hK hP rfl rfl (by omega) (by decide) dX7_findBetween_59 ?_
                refine lv_if_ne (tgt := 66) hx hb dX7_findBetween_60 (by decide) (fun c_60 => ?_) (fun c_60 => ?_)
                · skip
                  replace c_60 := cn_ne (b := 0) c_60
                  refine lv_aload_n hx hb dX7_findBetween_66 rfl (lv_at hl 5 rfl) ?_
                  refine gf_n (C := RX1) (T := TX1) (N := 14) (ci := 1) (q0 := 1) (v := .ref (a 7)) hx hb hts (iU inlX1) hown hK hP rfl rfl 12 (by decide) (kU u_625) rfl rfl dX7_findBetween_67 ?_
                  refine lv_iload hx hb dX7_findBetween_70 (lv_at hl 3 rfl) ?_
                  refine lv_iload hx hb dX7_findBetween_72 (lv_at hl 0 rfl) ?_
                  refine lv_iadd hx hb dX7_findBetween_74 ?_
                  rw [nI_add (one * 5) j]
                  refine ia_n (q0 := 8) (t0 := 0) hx hb hK hP rfl rfl (by omega) (by decide) dX7_findBetween_75 ?_
                  refine lv_aload_n hx hb dX7_findBetween_76 rfl (lv_at hl 5 rfl) ?_
                  refine gf_n (C := RX1) (T := TX1) (N := 14) (ci := 1) (q0 := 1) (v := .ref (a 7)) hx hb hts (iU inlX1) hown hK hP rfl rfl 12 (by decide) (kU u_625) rfl rfl dX7_findBetween_77 ?_
                  refine lv_iload hx hb dX7_findBetween_80 (lv_at hl 3 rfl) ?_
                  refine lv_iload hx hb dX7_findBetween_82 (lv_at hl 1 rfl) ?_
                  refine lv_iadd hx hb dX7_findBetween_84 ?_
                  rw [nI_add (one * 5) i]
                  refine ia_n (q0 := 8) (t0 := 0) hx hb hK hP rfl rfl (by omega) (by decide) dX7_findBetween_85 ?_
                  refine lv_isub hx hb dX7_findBetween_86 ?_
                  refine lv_istore (lv' := [(8, .int ((nI (f7 ((one * 5) + j))) - (nI (f7 ((one * 5) + i))))), (7, .int (nI j)), (6, .int (nI i)), (5, .int (nI (other * 5))), (4, .int (nI (one * 5))), (0, .ref s0), (1, .ref (a 0)), (2, .int (nI one)), (3, .int (nI other))]) hx hb dX7_findBetween_87 hl (by decide) rfl (fun ls hl => ?_)
                  refine lv_aload_n hx hb dX7_findBetween_89 rfl (lv_at hl 6 rfl) ?_
                  refine gf_n (C := RX1) (T := TX1) (N := 14) (ci := 1) (q0 := 1) (v := .ref (a 7)) hx hb hts (iU inlX1) hown hK hP rfl rfl 12 (by decide) (kU u_625) rfl rfl dX7_findBetween_90 ?_
                  refine lv_iload hx hb dX7_findBetween_93 (lv_at hl 3 rfl) ?_
                  refine lv_iload hx hb dX7_findBetween_95 (lv_at hl 2 rfl) ?_
                  refine lv_iadd hx hb dX7_findBetween_97 ?_
                  rw [nI_add (other * 5) i]
                  refine ia_n (q0 := 8) (t0 := 0) hx hb hK hP rfl rfl (by omega) (by decide) dX7_findBetween_98 ?_
                  refine lv_aload_n hx hb dX7_findBetween_99 rfl (lv_at hl 6 rfl) ?_
                  refine gf_n (C := RX1) (T := TX1) (N := 14) (ci := 1) (q0 := 1) (v := .ref (a 7)) hx hb hts (iU inlX1) hown hK hP rfl rfl 12 (by decide) (kU u_625) rfl rfl dX7_findBetween_100 ?_
                  refine lv_iload hx hb dX7_findBetween_103 (lv_at hl 3 rfl) ?_
                  refine lv_iload hx hb dX7_findBetween_105 (lv_at hl 1 rfl) ?_
                  refine lv_iadd hx hb dX7_findBetween_107 ?_
                  rw [nI_add (other * 5) j]
                  refine ia_n (q0 := 8) (t0 := 0) hx hb hK hP rfl rfl (by omega) (by decide) dX7_findBetween_108 ?_
                  refine lv_isub hx hb dX7_findBetween_109 ?_
                  refine lv_istore (lv' := [(9, .int ((nI (f7 ((other * 5) + i))) - (nI (f7 ((other * 5) + j))))), (8, .int ((nI (f7 ((one * 5) + j))) - (nI (f7 ((one * 5) + i))))), (7, .int (nI j)), (6, .int (nI i)), (5, .int (nI (other * 5))), (4, .int (nI (one * 5))), (0, .ref s0), (1, .ref (a 0)), (2, .int (nI one)), (3, .int (nI other))]) hx hb dX7_findBetween_110 hl (by decide) rfl (fun ls hl => ?_)
                  refine lv_iload hx hb dX7_findBetween_112 (lv_at hl 1 rfl) ?_
                  refine lv_if_le (tgt := 126) hx hb dX7_findBetween_114 (by decide) (fun c_114 => ?_) (fun c_114 => ?_)
                  · skip
                    replace c_114 := d_le (Nat.lt_of_le_of_lt (b7 _ (by omega)) (by decide)) (Nat.lt_of_le_of_lt (b7 _ (by omega)) (by decide)) c_114
                    have hnx := bw_0 (f8 := f8) (nH := nH) (nV := nV) (a := one) (b := other) (i := i) (j := j) (by omega) (by omega) (by omega) (fun q => absurd q.2.2.1 (Nat.not_lt.mpr c_114))
                    refine lv_iconst (v := (nI 0)) hx hb dX7_findBetween_126 (by decide) ?_
                    refine lv_istore (lv' := [(10, .int (nI 0)), (9, .int ((nI (f7 ((other * 5) + i))) - (nI (f7 ((other * 5) + j))))), (8, .int ((nI (f7 ((one * 5) + j))) - (nI (f7 ((one * 5) + i))))), (7, .int (nI j)), (6, .int (nI i)), (5, .int (nI (other * 5))), (4, .int (nI (one * 5))), (0, .ref s0), (1, .ref (a 0)), (2, .int (nI one)), (3, .int (nI other))]) hx hb dX7_findBetween_127 hl (by decide) rfl (fun ls hl => ?_)
                    refine lv_iload hx hb dX7_findBetween_129 (lv_at hl 0 rfl) ?_
                    refine lv_if_eq (tgt := 177) hx hb dX7_findBetween_131 (by decide) (fun _ => ?_) (fun c_131 => absurd (by decide +kernel) c_131)
                    refine lv_iinc (v := (nI (j + 1))) (lv' := [(7, .int (nI (j + 1))), (10, .int (nI 0)), (9, .int ((nI (f7 ((other * 5) + i))) - (nI (f7 ((other * 5) + j))))), (8, .int ((nI (f7 ((one * 5) + j))) - (nI (f7 ((one * 5) + i))))), (6, .int (nI i)), (5, .int (nI (other * 5))), (4, .int (nI (one * 5))), (0, .ref s0), (1, .ref (a 0)), (2, .int (nI one)), (3, .int (nI other))]) hx hb dX7_findBetween_177 hl (k := 3) rfl (nI_add j 1) (by decide) rfl (fun ls hl => ?_)
                    refine lv_goto (tgt := 41) hx hb dX7_findBetween_180 (by decide) ?_
                    exact ih_41 (j + 1) w1 w2 w3 w4 w5 (by omega) (by first | (rw [hnx]; exact q1) | (rw [hnx]; exact (sl_at (y1 := y1) (y2 := y2) (y3 := y3) (y4 := y4) (by omega) (by omega) (by omega) hgp).1.symm)) (by first | (rw [hnx]; exact q2) | (rw [hnx]; exact (sl_at (y1 := y1) (y2 := y2) (y3 := y3) (y4 := y4) (by omega) (by omega) (by omega) hgp).2.1.symm)) (by first | (rw [hnx]; exact q3) | (rw [hnx]; exact (sl_at (y1 := y1) (y2 := y2) (y3 := y3) (y4 := y4) (by omega) (by omega) (by omega) hgp).2.2.1.symm)) (by first | (rw [hnx]; exact q4) | (rw [hnx]; exact (sl_at (y1 := y1) (y2 := y2) (y3 := y3) (y4 := y4) (by omega) (by omega) (by omega) hgp).2.2.2.symm)) (by first | (rw [hnx]; exact q5) | (rw [hnx]; exact hga.symm)) (by omega) _ _ hP hD hS _ (lv_sub hl [0, 4, 5, 6, 7, 8, 9, 10] rfl)
                  · skip
                    replace c_114 := d_nle (Nat.lt_of_le_of_lt (b7 _ (by omega)) (by decide)) (Nat.lt_of_le_of_lt (b7 _ (by omega)) (by decide)) c_114
                    refine lv_iload hx hb dX7_findBetween_117 (lv_at hl 0 rfl) ?_
                    refine lv_if_le (tgt := 126) hx hb dX7_findBetween_119 (by decide) (fun c_119 => ?_) (fun c_119 => ?_)
                    · skip
                      replace c_119 := d_le (Nat.lt_of_le_of_lt (b7 _ (by omega)) (by decide)) (Nat.lt_of_le_of_lt (b7 _ (by omega)) (by decide)) c_119
                      have hnx := bw_0 (f8 := f8) (nH := nH) (nV := nV) (a := one) (b := other) (i := i) (j := j) (by omega) (by omega) (by omega) (fun q => absurd q.2.2.2 (Nat.not_lt.mpr c_119))
                      refine lv_iconst (v := (nI 0)) hx hb dX7_findBetween_126 (by decide) ?_
                      refine lv_istore (lv' := [(10, .int (nI 0)), (9, .int ((nI (f7 ((other * 5) + i))) - (nI (f7 ((other * 5) + j))))), (8, .int ((nI (f7 ((one * 5) + j))) - (nI (f7 ((one * 5) + i))))), (7, .int (nI j)), (6, .int (nI i)), (5, .int (nI (other * 5))), (4, .int (nI (one * 5))), (0, .ref s0), (1, .ref (a 0)), (2, .int (nI one)), (3, .int (nI other))]) hx hb dX7_findBetween_127 hl (by decide) rfl (fun ls hl => ?_)
                      refine lv_iload hx hb dX7_findBetween_129 (lv_at hl 0 rfl) ?_
                      refine lv_if_eq (tgt := 177) hx hb dX7_findBetween_131 (by decide) (fun _ => ?_) (fun c_131 => absurd (by decide +kernel) c_131)
                      refine lv_iinc (v := (nI (j + 1))) (lv' := [(7, .int (nI (j + 1))), (10, .int (nI 0)), (9, .int ((nI (f7 ((other * 5) + i))) - (nI (f7 ((other * 5) + j))))), (8, .int ((nI (f7 ((one * 5) + j))) - (nI (f7 ((one * 5) + i))))), (6, .int (nI i)), (5, .int (nI (other * 5))), (4, .int (nI (one * 5))), (0, .ref s0), (1, .ref (a 0)), (2, .int (nI one)), (3, .int (nI other))]) hx hb dX7_findBetween_177 hl (k := 3) rfl (nI_add j 1) (by decide) rfl (fun ls hl => ?_)
                      refine lv_goto (tgt := 41) hx hb dX7_findBetween_180 (by decide) ?_
                      exact ih_41 (j + 1) w1 w2 w3 w4 w5 (by omega) (by first | (rw [hnx]; exact q1) | (rw [hnx]; exact (sl_at (y1 := y1) (y2 := y2) (y3 := y3) (y4 := y4) (by omega) (by omega) (by omega) hgp).1.symm)) (by first | (rw [hnx]; exact q2) | (rw [hnx]; exact (sl_at (y1 := y1) (y2 := y2) (y3 := y3) (y4 := y4) (by omega) (by omega) (by omega) hgp).2.1.symm)) (by first | (rw [hnx]; exact q3) | (rw [hnx]; exact (sl_at (y1 := y1) (y2 := y2) (y3 := y3) (y4 := y4) (by omega) (by omega) (by omega) hgp).2.2.1.symm)) (by first | (rw [hnx]; exact q4) | (rw [hnx]; exact (sl_at (y1 := y1) (y2 := y2) (y3 := y3) (y4 := y4) (by omega) (by omega) (by omega) hgp).2.2.2.symm)) (by first | (rw [hnx]; exact q5) | (rw [hnx]; exact hga.symm)) (by omega) _ _ hP hD hS _ (lv_sub hl [0, 4, 5, 6, 7, 8, 9, 10] rfl)
                    · skip
                      replace c_119 := d_nle (Nat.lt_of_le_of_lt (b7 _ (by omega)) (by decide)) (Nat.lt_of_le_of_lt (b7 _ (by omega)) (by decide)) c_119
                      have hga := gai_p (f7 := f7) (f8 := f8) hoo hoH c_19 c_47 (by omega) (by omega) c_114 c_119
                      have hgp : 0 < gai f7 f8 nH nV one other i j := by omega
                      have hb1 := b7 (one * 5 + j) (by omega)
                      have hb2 := b7 (other * 5 + i) (by omega)
                      have hb5 := bst_le (f8 := f8) hH hV b7 (150 * one + 25 * other + 5 * i + j)
                      refine lv_iconst (v := (nI 1)) hx hb dX7_findBetween_122 (by decide) ?_
                      refine lv_goto (tgt := 127) hx hb dX7_findBetween_123 (by decide) ?_
                      refine lv_istore (lv' := [(10, .int (nI 1)), (9, .int ((nI (f7 ((other * 5) + i))) - (nI (f7 ((other * 5) + j))))), (8, .int ((nI (f7 ((one * 5) + j))) - (nI (f7 ((one * 5) + i))))), (7, .int (nI j)), (6, .int (nI i)), (5, .int (nI (other * 5))), (4, .int (nI (one * 5))), (0, .ref s0), (1, .ref (a 0)), (2, .int (nI one)), (3, .int (nI other))]) hx hb dX7_findBetween_127 hl (by decide) rfl (fun ls hl => ?_)
                      refine lv_iload hx hb dX7_findBetween_129 (lv_at hl 0 rfl) ?_
                      refine lv_if_eq (tgt := 177) hx hb dX7_findBetween_131 (by decide) (fun c_131 => absurd c_131 (by decide +kernel)) (fun _ => ?_)
                      refine lv_iload hx hb dX7_findBetween_134 (lv_at hl 2 rfl) ?_
                      refine lv_iload hx hb dX7_findBetween_136 (lv_at hl 1 rfl) ?_
                      refine lv_iadd hx hb dX7_findBetween_138 ?_
                      rw [show (((nI (f7 ((one * 5) + j))) - (nI (f7 ((one * 5) + i)))) + ((nI (f7 ((other * 5) + i))) - (nI (f7 ((other * 5) + j))))) = (nI (f7 (one * 5 + j) - f7 (one * 5 + i) + (f7 (other * 5 + i) - f7 (other * 5 + j)))) from (by rw [pk_sub (Nat.le_of_lt c_114), pk_sub (Nat.le_of_lt c_119), nI_add])]
                      refine lv_aload_n hx hb dX7_findBetween_139 rfl (lv_at hl 7 rfl) ?_
                      refine gf_n (C := RX7) (T := TX7) (N := 5) (ci := 7) (q0 := 0) (v := .int (nI w5)) hx hb hts (iU inlX7) hown hK hP rfl rfl 4 (by decide) (kU u_617) rfl rfl dX7_findBetween_140 ?_
                      refine lv_icmp_le (tgt := 177) hx hb dX7_findBetween_143 (by decide) (fun c_143 => ?_) (fun c_143 => ?_)
                      · skip
                        replace c_143 := cn_le (by omega) (by omega) c_143
                        have hnx := bw_no (a := one) (b := other) (i := i) (j := j) (by omega) (by omega) (by omega) (by rw [hga, ← q5]; exact c_143)
                        refine lv_iinc (v := (nI (j + 1))) (lv' := [(7, .int (nI (j + 1))), (10, .int (nI 1)), (9, .int ((nI (f7 ((other * 5) + i))) - (nI (f7 ((other * 5) + j))))), (8, .int ((nI (f7 ((one * 5) + j))) - (nI (f7 ((one * 5) + i))))), (6, .int (nI i)), (5, .int (nI (other * 5))), (4, .int (nI (one * 5))), (0, .ref s0), (1, .ref (a 0)), (2, .int (nI one)), (3, .int (nI other))]) hx hb dX7_findBetween_177 hl (k := 3) rfl (nI_add j 1) (by decide) rfl (fun ls hl => ?_)
                        refine lv_goto (tgt := 41) hx hb dX7_findBetween_180 (by decide) ?_
                        exact ih_41 (j + 1) w1 w2 w3 w4 w5 (by omega) (by first | (rw [hnx]; exact q1) | (rw [hnx]; exact (sl_at (y1 := y1) (y2 := y2) (y3 := y3) (y4 := y4) (by omega) (by omega) (by omega) hgp).1.symm)) (by first | (rw [hnx]; exact q2) | (rw [hnx]; exact (sl_at (y1 := y1) (y2 := y2) (y3 := y3) (y4 := y4) (by omega) (by omega) (by omega) hgp).2.1.symm)) (by first | (rw [hnx]; exact q3) | (rw [hnx]; exact (sl_at (y1 := y1) (y2 := y2) (y3 := y3) (y4 := y4) (by omega) (by omega) (by omega) hgp).2.2.1.symm)) (by first | (rw [hnx]; exact q4) | (rw [hnx]; exact (sl_at (y1 := y1) (y2 := y2) (y3 := y3) (y4 := y4) (by omega) (by omega) (by omega) hgp).2.2.2.symm)) (by first | (rw [hnx]; exact q5) | (rw [hnx]; exact hga.symm)) (by omega) _ _ hP hD hS _ (lv_sub hl [0, 4, 5, 6, 7, 8, 9, 10] rfl)
                      · skip
                        replace c_143 := cn_nle (by omega) (by omega) c_143
                        have hnx := bw_yes (a := one) (b := other) (i := i) (j := j) (by omega) (by omega) (by omega) (by rw [hga, ← q5]; exact c_143)
                        refine lv_aload_n hx hb dX7_findBetween_146 rfl (lv_at hl 7 rfl) ?_
                        refine lv_iload_n hx hb dX7_findBetween_147 rfl (lv_at hl 9 rfl) ?_
                        refine pf_n (C := RX7) (T := TX7) (N := 5) (ci := 7) (q0 := 0) (ty := .int) (v := .int (nI one)) (ws2 := (sX s0 one w2 w3 w4 w5 ++ fX cI a nH nV wk ea gi sw f1 f2 f3 f4 f5 f6 f7 f8)) hx hb hts (iU inlX7) tyX7 tyX7_ok nmX7 hown hK hP hD hS rfl rfl 0 (by decide) (kU u_626) rfl rfl (tyX7_ok 0 (by decide)) rfl rfl (Nat.le_of_ble_eq_true rfl) dX7_findBetween_148 rfl (fun Hp locs hP hD hS => ?_)
                        refine lv_aload_n hx hb dX7_findBetween_151 rfl (lv_at hl 7 rfl) ?_
                        refine lv_iload_n hx hb dX7_findBetween_152 rfl (lv_at hl 10 rfl) ?_
                        refine pf_n (C := RX7) (T := TX7) (N := 5) (ci := 7) (q0 := 0) (ty := .int) (v := .int (nI other)) (ws2 := (sX s0 one other w3 w4 w5 ++ fX cI a nH nV wk ea gi sw f1 f2 f3 f4 f5 f6 f7 f8)) hx hb hts (iU inlX7) tyX7 tyX7_ok nmX7 hown hK hP hD hS rfl rfl 1 (by decide) (kU u_627) rfl rfl (tyX7_ok 1 (by decide)) rfl rfl (Nat.le_of_ble_eq_true rfl) dX7_findBetween_153 rfl (fun Hp locs hP hD hS => ?_)
                        refine lv_aload_n hx hb dX7_findBetween_156 rfl (lv_at hl 7 rfl) ?_
                        refine lv_iload hx hb dX7_findBetween_157 (lv_at hl 4 rfl) ?_
                        refine pf_n (C := RX7) (T := TX7) (N := 5) (ci := 7) (q0 := 0) (ty := .int) (v := .int (nI i)) (ws2 := (sX s0 one other i w4 w5 ++ fX cI a nH nV wk ea gi sw f1 f2 f3 f4 f5 f6 f7 f8)) hx hb hts (iU inlX7) tyX7 tyX7_ok nmX7 hown hK hP hD hS rfl rfl 2 (by decide) (kU u_628) rfl rfl (tyX7_ok 2 (by decide)) rfl rfl (Nat.le_of_ble_eq_true rfl) dX7_findBetween_159 rfl (fun Hp locs hP hD hS => ?_)
                        refine lv_aload_n hx hb dX7_findBetween_162 rfl (lv_at hl 7 rfl) ?_
                        refine lv_iload hx hb dX7_findBetween_163 (lv_at hl 3 rfl) ?_
                        refine pf_n (C := RX7) (T := TX7) (N := 5) (ci := 7) (q0 := 0) (ty := .int) (v := .int (nI j)) (ws2 := (sX s0 one other i j w5 ++ fX cI a nH nV wk ea gi sw f1 f2 f3 f4 f5 f6 f7 f8)) hx hb hts (iU inlX7) tyX7 tyX7_ok nmX7 hown hK hP hD hS rfl rfl 3 (by decide) (kU u_629) rfl rfl (tyX7_ok 3 (by decide)) rfl rfl (Nat.le_of_ble_eq_true rfl) dX7_findBetween_165 rfl (fun Hp locs hP hD hS => ?_)
                        refine lv_aload_n hx hb dX7_findBetween_168 rfl (lv_at hl 7 rfl) ?_
                        refine lv_iload hx hb dX7_findBetween_169 (lv_at hl 2 rfl) ?_
                        refine lv_iload hx hb dX7_findBetween_171 (lv_at hl 1 rfl) ?_
                        refine lv_iadd hx hb dX7_findBetween_173 ?_
                        rw [show (((nI (f7 ((one * 5) + j))) - (nI (f7 ((one * 5) + i)))) + ((nI (f7 ((other * 5) + i))) - (nI (f7 ((other * 5) + j))))) = (nI (f7 (one * 5 + j) - f7 (one * 5 + i) + (f7 (other * 5 + i) - f7 (other * 5 + j)))) from (by rw [pk_sub (Nat.le_of_lt c_114), pk_sub (Nat.le_of_lt c_119), nI_add])]
                        refine pf_n (C := RX7) (T := TX7) (N := 5) (ci := 7) (q0 := 0) (ty := .int) (v := .int (nI (f7 (one * 5 + j) - f7 (one * 5 + i) + (f7 (other * 5 + i) - f7 (other * 5 + j))))) (ws2 := (sX s0 one other i j (f7 (one * 5 + j) - f7 (one * 5 + i) + (f7 (other * 5 + i) - f7 (other * 5 + j))) ++ fX cI a nH nV wk ea gi sw f1 f2 f3 f4 f5 f6 f7 f8)) hx hb hts (iU inlX7) tyX7 tyX7_ok nmX7 hown hK hP hD hS rfl rfl 4 (by decide) (kU u_617) rfl rfl (tyX7_ok 4 (by decide)) rfl rfl (Nat.le_of_ble_eq_true rfl) dX7_findBetween_174 rfl (fun Hp locs hP hD hS => ?_)
                        refine lv_iinc (v := (nI (j + 1))) (lv' := [(7, .int (nI (j + 1))), (10, .int (nI 1)), (9, .int ((nI (f7 ((other * 5) + i))) - (nI (f7 ((other * 5) + j))))), (8, .int ((nI (f7 ((one * 5) + j))) - (nI (f7 ((one * 5) + i))))), (6, .int (nI i)), (5, .int (nI (other * 5))), (4, .int (nI (one * 5))), (0, .ref s0), (1, .ref (a 0)), (2, .int (nI one)), (3, .int (nI other))]) hx hb dX7_findBetween_177 hl (k := 3) rfl (nI_add j 1) (by decide) rfl (fun ls hl => ?_)
                        refine lv_goto (tgt := 41) hx hb dX7_findBetween_180 (by decide) ?_
                        exact ih_41 (j + 1) one other i j (f7 (one * 5 + j) - f7 (one * 5 + i) + (f7 (other * 5 + i) - f7 (other * 5 + j))) (by omega) (by first | (rw [hnx]; exact q1) | (rw [hnx]; exact (sl_at (y1 := y1) (y2 := y2) (y3 := y3) (y4 := y4) (by omega) (by omega) (by omega) hgp).1.symm)) (by first | (rw [hnx]; exact q2) | (rw [hnx]; exact (sl_at (y1 := y1) (y2 := y2) (y3 := y3) (y4 := y4) (by omega) (by omega) (by omega) hgp).2.1.symm)) (by first | (rw [hnx]; exact q3) | (rw [hnx]; exact (sl_at (y1 := y1) (y2 := y2) (y3 := y3) (y4 := y4) (by omega) (by omega) (by omega) hgp).2.2.1.symm)) (by first | (rw [hnx]; exact q4) | (rw [hnx]; exact (sl_at (y1 := y1) (y2 := y2) (y3 := y3) (y4 := y4) (by omega) (by omega) (by omega) hgp).2.2.2.symm)) (by first | (rw [hnx]; exact q5) | (rw [hnx]; exact hga.symm)) (by omega) _ _ hP hD hS _ (lv_sub hl [0, 4, 5, 6, 7, 8, 9, 10] rfl)
                · skip
                  replace c_60 := cn_eq (b := 0) (b8 _ (by omega)) (by decide) c_60
                  have hnx := bw_0 (f7 := f7) (nH := nH) (nV := nV) (a := one) (b := other) (i := i) (j := j) (by omega) (by omega) (by omega) (fun q => absurd c_60 (Nat.ne_of_gt q.2.1))
                  refine lv_goto (tgt := 177) hx hb dX7_findBetween_63 (by decide) ?_
                  refine lv_iinc (v := (nI (j + 1))) (lv' := [(7, .int (nI (j + 1))), (6, .int (nI i)), (5, .int (nI (other * 5))), (4, .int (nI (one * 5))), (0, .ref s0), (1, .ref (a 0)), (2, .int (nI one)), (3, .int (nI other))]) hx hb dX7_findBetween_177 hl (k := 0) rfl (nI_add j 1) (by decide) rfl (fun ls hl => ?_)
                  refine lv_goto (tgt := 41) hx hb dX7_findBetween_180 (by decide) ?_
                  exact ih_41 (j + 1) w1 w2 w3 w4 w5 (by omega) (by first | (rw [hnx]; exact q1) | (rw [hnx]; exact (sl_at (y1 := y1) (y2 := y2) (y3 := y3) (y4 := y4) (by omega) (by omega) (by omega) hgp).1.symm)) (by first | (rw [hnx]; exact q2) | (rw [hnx]; exact (sl_at (y1 := y1) (y2 := y2) (y3 := y3) (y4 := y4) (by omega) (by omega) (by omega) hgp).2.1.symm)) (by first | (rw [hnx]; exact q3) | (rw [hnx]; exact (sl_at (y1 := y1) (y2 := y2) (y3 := y3) (y4 := y4) (by omega) (by omega) (by omega) hgp).2.2.1.symm)) (by first | (rw [hnx]; exact q4) | (rw [hnx]; exact (sl_at (y1 := y1) (y2 := y2) (y3 := y3) (y4 := y4) (by omega) (by omega) (by omega) hgp).2.2.2.symm)) (by first | (rw [hnx]; exact q5) | (rw [hnx]; exact hga.symm)) (by omega) _ _ hP hD hS _ (lv_sub hl [0, 1, 2, 3, 4, 5, 6, 7] rfl)
          exact loop_41 ((nV - 0) + 1) 0 z1 z2 z3 z4 z5 (by omega) p1 p2 p3 p4 p5 (Nat.lt_succ_self _) _ _ hP hD hS _ (lv_sub hl [0, 1, 2, 3, 4, 5, 6, 7] rfl)
        · skip
          replace c_32 := cn_eq (b := 0) (b8 _ (by omega)) (by decide) c_32
          refine lv_goto (tgt := 183) hx hb dX7_findBetween_35 (by decide) ?_
          refine lv_iinc (v := (nI (i + 1))) (lv' := [(6, .int (nI (i + 1))), (5, .int (nI (other * 5))), (4, .int (nI (one * 5))), (0, .ref s0), (1, .ref (a 0)), (2, .int (nI one)), (3, .int (nI other))]) hx hb dX7_findBetween_183 hl (k := 0) rfl (nI_add i 1) (by decide) rfl (fun ls hl => ?_)
          refine lv_goto (tgt := 13) hx hb dX7_findBetween_186 (by decide) ?_
          exact ih_13 (i + 1) z1 z2 z3 z4 z5 (by omega) (by first | (rw [bst_w0 (by omega) (by omega) c_32]; exact p1) | (rw [bst_w (by omega) (by omega) (by omega) (by omega)]; exact q1)) (by first | (rw [bst_w0 (by omega) (by omega) c_32]; exact p2) | (rw [bst_w (by omega) (by omega) (by omega) (by omega)]; exact q2)) (by first | (rw [bst_w0 (by omega) (by omega) c_32]; exact p3) | (rw [bst_w (by omega) (by omega) (by omega) (by omega)]; exact q3)) (by first | (rw [bst_w0 (by omega) (by omega) c_32]; exact p4) | (rw [bst_w (by omega) (by omega) (by omega) (by omega)]; exact q4)) (by first | (rw [bst_w0 (by omega) (by omega) c_32]; exact p5) | (rw [bst_w (by omega) (by omega) (by omega) (by omega)]; exact q5)) (by omega) _ _ hP hD hS _ (lv_sub hl [0, 1, 2, 3, 4, 5, 6] rfl)
  exact loop_13 ((nV - 0) + 1) 0 x1 x2 x3 x4 x5 (by omega) e1 e2 e3 e4 e5 (Nat.lt_succ_self _) _ _ hP hD hS _ (lv_sub hl [0, 1, 2, 3, 4, 5, 6] rfl)

