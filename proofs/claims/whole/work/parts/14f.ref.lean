theorem pk_dec {k : Nat} (h : 1 ≤ k) : nI k + Int32.ofInt (-1) = nI (k - 1) := by
  obtain ⟨n, rfl⟩ : ∃ n, k = n + 1 := ⟨k - 1, by omega⟩
  exact pk_m1 n
theorem tab_up {p g : Nat → Nat} {n b x : Nat} (h : b < n) : va_up (tabN p n g) b x = tabN (va_up p b x) n g := by
  funext k
  by_cases e : k = b
  · subst e; rw [up_s, tabN_in h, up_s]
  · rw [up_n e]
    by_cases q : k < n
    · rw [tabN_in q, tabN_in q, up_n e]
    · rw [tabN_out (by omega), tabN_out (by omega)]
theorem kz_tab {f7 pt p g : Nat → Nat} {v n : Nat} : kz f7 pt (tabN p n g) v n = kz f7 pt p v n := kz_cg n (fun _ h => tabN_in h)
theorem glR_y {f7 pt : Nat → Nat} {v nH : Nat} {f8 : Nat → Nat} {c n b : Nat} {h0 y g : Nat → Nat} (e8 : h0 = (glN f7 pt v nH f8 c n).1) (e2 : y = tabN (glN f7 pt v nH f8 c n).2.1 nH g) (hk : kz f7 pt y v nH = some b) (hb : b < nH) :
    va_up h0 (b * 5 + v) (h0 (b * 5 + v) + 1) = (glN f7 pt v nH f8 c (n + 1)).1 ∧ va_up y b (y b + 1) = tabN (glN f7 pt v nH f8 c (n + 1)).2.1 nH g ∧ (glN f7 pt v nH f8 c (n + 1)).2.2 = (glN f7 pt v nH f8 c n).2.2 := by
  rw [e2, kz_tab] at hk
  have h := glN_y hk
  rw [h, e8, e2, tabN_in hb, tab_up hb]
  exact ⟨rfl, rfl, rfl⟩
theorem glR_n {f7 pt : Nat → Nat} {v nH : Nat} {f8 : Nat → Nat} {c n G k : Nat} {h0 y g : Nat → Nat} (e8 : h0 = (glN f7 pt v nH f8 c n).1) (e2 : y = tabN (glN f7 pt v nH f8 c n).2.1 nH g) (hc : (glN f7 pt v nH f8 c n).2.2 = c) (hn : n ≤ G) (ek : k = G - n) (h : k ≤ 0 ∨ kz f7 pt y v nH = none) :
    (glN f7 pt v nH f8 c G).1 = h0 ∧ (glN f7 pt v nH f8 c G).2.2 = c + k := by
  rcases h with h | h
  · have e : n = G := by omega
    subst e
    exact ⟨e8.symm, by rw [hc]; omega⟩
  · rw [e2, kz_tab] at h
    have z := glN_z h (G - n)
    rw [show n + (G - n) = G by omega] at z
    rw [z, e8, hc, ek]
    exact ⟨rfl, rfl⟩
set_option maxRecDepth 20000 in
theorem u_664 : Cond.code yX9_greedy cX9_greedy 5 (some .int) ∈ wsL_law := List.mem_of_getElem? (i := 664) (by decide +kernel)
set_option maxRecDepth 20000 in
theorem u_661 : Cond.methodLink RX9 67 yX9_greedy ∈ wsL_law := List.mem_of_getElem? (i := 661) (by decide +kernel)
set_option maxRecDepth 20000 in
theorem u_662 : Cond.instanceMethod yX9_greedy ∈ wsL_law := List.mem_of_getElem? (i := 662) (by decide +kernel)
set_option maxRecDepth 20000 in
theorem u_663 : Cond.selects RX9 yX9_greedy yX9_greedy ∈ wsL_law := List.mem_of_getElem? (i := 663) (by decide +kernel)
set_option maxRecDepth 20000 in
theorem u_660 : Cond.code yX9_partOf cX9_partOf 2 (some .int) ∈ wsL_law := List.mem_of_getElem? (i := 660) (by decide +kernel)
set_option maxRecDepth 20000 in
theorem u_657 : Cond.methodLink RX9 58 yX9_partOf ∈ wsL_law := List.mem_of_getElem? (i := 657) (by decide +kernel)
set_option maxRecDepth 20000 in
theorem u_658 : Cond.instanceMethod yX9_partOf ∈ wsL_law := List.mem_of_getElem? (i := 658) (by decide +kernel)
set_option maxRecDepth 20000 in
theorem u_659 : Cond.selects RX9 yX9_partOf yX9_partOf ∈ wsL_law := List.mem_of_getElem? (i := 659) (by decide +kernel)
theorem hdV_X9_greedy : yX9_greedy.cls = RX9 ∧ yX9_greedy.cls ≠ "java/lang/invoke/MethodHandle" ∧ yX9_greedy.cls ≠ "java/lang/invoke/VarHandle" ∧ (parseMethodDescriptor yX9_greedy.desc).map (fun d => d.parameters.length) = some 1 := by decide +kernel
theorem hdV_X9_partOf : yX9_partOf.cls = RX9 ∧ yX9_partOf.cls ≠ "java/lang/invoke/MethodHandle" ∧ yX9_partOf.cls ≠ "java/lang/invoke/VarHandle" ∧ (parseMethodDescriptor yX9_partOf.desc).map (fun d => d.parameters.length) = some 1 := by decide +kernel
set_option maxHeartbeats 4000000 in
set_option maxRecDepth 100000 in
theorem c_X9_shareOut (l : Launch) (D : va_G) (cI cZ cF cL : ClassId) (mr : Nat) (rf : Nat → Nat) (st ln th pl hs vs : Nat) (dg : Int32) (xx : Int64) (nH nV wk ea gi sw : Nat) (f1 f2 f3 f4 f5 f6 f7 f8 : Nat → Nat) (g : Nat → Nat) (v : Nat) (hH : nH ≤ 6) (hv : v < 5) (b1 : ∀ h, h < nH → 1 ≤ f1 h) (b14 : ∀ h, h < 6 → f1 h ≤ 4) (b2 : ∀ h, h < 6 → f2 h ≤ 9) (b3 : ∀ h, h < 6 → f3 h ≤ 9) (b4 : ∀ h, h < 6 → f4 h ≤ 1) (hL : f5 v ≤ 40) (b7 : ∀ k, k < 30 → f7 k ≤ 9) (hPP : 0 < sumN (partN f1 f2 f3 f4) nH) : CT l D (tysX cI cZ cF cL) yX9_shareOut (wA yX9_shareOut cX9_shareOut 6 none) (rmF 3 65) [.ref mr, .int (nI v)] (mX mr rf st ln th pl hs vs dg xx ++ qX cI (rf 0) nH nV wk ea gi sw f1 f2 f3 f4 f5 f6 f7 f8 ++ iaX cI (rf 6) 6 g) (none : Option Value) (fun u : (Nat → Nat) => (mX mr rf st ln th pl hs vs dg xx ++ qX cI (rf 0) nH nV wk ea gi sw f1 f2 f3 f4 f5 (va_up f6 v (glN f7 (partN f1 f2 f3 f4) v nH (dlK f8 (f5 v) (partN f1 f2 f3 f4) (sumN (partN f1 f2 f3 f4) nH) v nH) (f6 v) (f5 v - shS (f5 v) (partN f1 f2 f3 f4) (sumN (partN f1 f2 f3 f4) nH) nH)).2.2) f7 ((glN f7 (partN f1 f2 f3 f4) v nH (dlK f8 (f5 v) (partN f1 f2 f3 f4) (sumN (partN f1 f2 f3 f4) nH) v nH) (f6 v) (f5 v - shS (f5 v) (partN f1 f2 f3 f4) (sumN (partN f1 f2 f3 f4) nH) nH)).1) ++ iaX cI (rf 6) 6 u)) := by
  refine ct_in (cc := cX9_shareOut) (maxL := 6) (ret := none) (own := RX9) (lv := [(0, .ref mr), (1, .int (nI v))]) (by decide +kernel) rfl rfl (Nat.le_of_ble_eq_true rfl) rfl ?_
  intro p e s m args below meth c A ls hx hb hr hml hts hown hlocks hK hA hP hD hS hl
  have hp5 : ∀ h, h < nH → partN f1 f2 f3 f4 h ≤ 5 := fun h hh => partN_le (b14 h (by omega))
  have hP3 : sumN (partN f1 f2 f3 f4) nH < 2 ^ 31 := Nat.lt_of_le_of_lt (sumN_c nH hp5) (by omega)
  have hGG : f5 v - shS (f5 v) (partN f1 f2 f3 f4) (sumN (partN f1 f2 f3 f4) nH) nH ≤ 40 := by omega
  refine lv_iconst (v := (nI 0)) hx hb dX9_shareOut_0 (by decide) ?_
  refine lv_istore_n (lv' := [(2, .int (nI 0)), (0, .ref mr), (1, .int (nI v))]) hx hb dX9_shareOut_1 rfl hl (by decide) rfl (fun ls hl => ?_)
  refine lv_iconst (v := (nI 0)) hx hb dX9_shareOut_2 (by decide) ?_
  refine lv_istore_n (lv' := [(3, .int (nI 0)), (2, .int (nI 0)), (0, .ref mr), (1, .int (nI v))]) hx hb dX9_shareOut_3 rfl hl (by decide) rfl (fun ls hl => ?_)
  have loop_4 : ∀ (dd : Nat) (i : Nat) (k : Nat) (y : Nat → Nat), (i ≤ nH) → (k = sumN (partN f1 f2 f3 f4) i) → (y = filN 0 i g) → (nH - i) < dd → ∀ (Hp : Heap) (locs : List Loc), va_P D vwCl (mX mr rf st ln th pl hs vs dg xx ++ qX cI (rf 0) nH nV wk ea gi sw f1 f2 f3 f4 f5 f6 f7 f8 ++ iaX cI (rf 6) 6 y) Hp → va_D A (mX mr rf st ln th pl hs vs dg xx ++ qX cI (rf 0) nH nV wk ea gi sw f1 f2 f3 f4 f5 f6 f7 f8 ++ iaX cI (rf 6) 6 y) → va_S A s.heap Hp locs → ∀ ls : Array Slot, lv_has ls 6 [(3, .int (nI i)), (2, .int (nI k)), (0, .ref mr), (1, .int (nI v))] → W p l e (rmF 3 65) s m args below meth c Hp locs 0 0 (MQ below (CQ D (none : Option Value) (fun u : (Nat → Nat) => (mX mr rf st ln th pl hs vs dg xx ++ qX cI (rf 0) nH nV wk ea gi sw f1 f2 f3 f4 f5 (va_up f6 v (glN f7 (partN f1 f2 f3 f4) v nH (dlK f8 (f5 v) (partN f1 f2 f3 f4) (sumN (partN f1 f2 f3 f4) nH) v nH) (f6 v) (f5 v - shS (f5 v) (partN f1 f2 f3 f4) (sumN (partN f1 f2 f3 f4) nH) nH)).2.2) f7 ((glN f7 (partN f1 f2 f3 f4) v nH (dlK f8 (f5 v) (partN f1 f2 f3 f4) (sumN (partN f1 f2 f3 f4) nH) v nH) (f6 v) (f5 v - shS (f5 v) (partN f1 f2 f3 f4) (sumN (partN f1 f2 f3 f4) nH) nH)).1) ++ iaX cI (rf 6) 6 u)) A) args s 0 0 A) (F0 m 4 ls []) := by
    intro dd
    induction dd with
    | zero => intro i k y hi ek ey hm; exact absurd hm (Nat.not_lt_zero _)
    | succ dd ih_4 =>
      intro i k y hi ek ey hm Hp locs hP hD hS ls hl
      refine lv_iload_n hx hb dX9_shareOut_4 rfl (lv_at hl 0 rfl) ?_
      refine lv_aload_n hx hb dX9_shareOut_5 rfl (lv_at hl 2 rfl) ?_
      refine gf_n (C := RX9) (T := TX9) (N := 15) (ci := 9) (q0 := 0) (v := .ref (rf 0)) hx hb hts (iU inlX9) hown hK hP rfl rfl 0 (by decide) (kU u_129) rfl rfl dX9_shareOut_6 ?_
      refine lv_iconst (v := (nI 0)) hx hb dX9_shareOut_9 (by decide) ?_
      refine ia_n (q0 := 1) (t0 := 0) hx hb hK hP rfl rfl (by omega) (by decide) dX9_shareOut_10 ?_
      rw [show qN nH nV wk ea gi sw f1 f2 f3 f4 f5 f6 f7 f8 0 = nH from rfl]
      refine lv_icmp_ge (tgt := 35) hx hb dX9_shareOut_11 (by decide) (fun c_11 => ?_) (fun c_11 => ?_)
      · skip
        replace c_11 := cn_le (by omega) (by omega) c_11
        obtain ⟨hP, hD⟩ := cg_n (g := nF (tabN (fun _ => 0) nH g)) (ws2 := (mX mr rf st ln th pl hs vs dg xx ++ qX cI (rf 0) nH nV wk ea gi sw f1 f2 f3 f4 f5 f6 f7 f8 ++ iaX cI (rf 6) 6 (tabN (fun _ => 0) nH g))) hP hD 2 rfl (fun j hj => by rw [ey, show i = nH by omega]; rfl) rfl
        rw [show (nI k) = (nI (sumN (partN f1 f2 f3 f4) nH)) from (by rw [ek, show i = nH by omega])] at hl
        refine lv_aload_n hx hb dX9_shareOut_35 rfl (lv_at hl 2 rfl) ?_
        refine gf_n (C := RX9) (T := TX9) (N := 15) (ci := 9) (q0 := 0) (v := .ref (rf 0)) hx hb hts (iU inlX9) hown hK hP rfl rfl 0 (by decide) (kU u_129) rfl rfl dX9_shareOut_36 ?_
        refine lv_iload_n hx hb dX9_shareOut_39 rfl (lv_at hl 3 rfl) ?_
        refine gp_S (c_X9_harvest l D cI cZ cF cL v ) (gUS u_278 u_279 u_5 u_280) rfl hdS_X9_harvest ⟨Nat.le_of_ble_eq_true rfl, Nat.le_of_ble_eq_true rfl⟩ ⟨rfl, rfl⟩ hx hb hml hown hts hK hA hP hD hS hl.1 ⟨Nat.le_of_ble_eq_true rfl, Nat.le_of_ble_eq_true rfl⟩ (wr := (mX mr rf st ln th pl hs vs dg xx ++ qX cI (rf 0) nH nV wk ea gi sw f1 f2 f3 f4 f5 f6 f7 f8 ++ iaX cI (rf 6) 6 (tabN (fun _ => 0) nH g))) (pm_cnt (fun _ => by simp only [List.countP_append, List.countP_nil, fT] <;> omega)) (fun _ => by simp only [List.map_append, List.map_nil, fX_m, bX_m, sX_m, pX_m, iaX_m, r5X_m, r6X_m, fT_m, hX_m, tX_m, xX_m, sgX_m, zaX_m, fsB_a, qX_m, mX_m]) (rest := [.ref (rf 0)]) rfl rfl (Nat.le_of_ble_eq_true rfl) dX9_shareOut_40 (ws2 := (fun _ : Unit => (mX mr rf st ln th pl hs vs dg xx ++ qX cI (rf 0) nH nV wk ea gi sw f1 f2 f3 f4 f5 f6 f7 f8 ++ iaX cI (rf 6) 6 (tabN (fun _ => 0) nH g)))) (fun _ => (pm_cnt (fun _ => by simp only [List.countP_append, List.countP_nil, fT] <;> omega))) (fun _ Hp locs hP hD hS => ?_)
        refine ia_n (q0 := 1) (t0 := 0) hx hb hK hP rfl rfl (by omega) (by decide) dX9_shareOut_43 ?_
        rw [qR_5 (by omega)]
        refine lv_istore_n (lv' := [(3, .int (nI (f5 v))), (2, .int (nI (sumN (partN f1 f2 f3 f4) nH))), (0, .ref mr), (1, .int (nI v))]) hx hb dX9_shareOut_44 rfl hl (by decide) rfl (fun ls hl => ?_)
        refine lv_iconst (v := (nI 0)) hx hb dX9_shareOut_45 (by decide) ?_
        refine lv_istore (lv' := [(4, .int (nI 0)), (3, .int (nI (f5 v))), (2, .int (nI (sumN (partN f1 f2 f3 f4) nH))), (0, .ref mr), (1, .int (nI v))]) hx hb dX9_shareOut_46 hl (by decide) rfl (fun ls hl => ?_)
        have loop_48 : ∀ (dd : Nat) (i2 : Nat) (k2 : Nat) (f0 : Nat → Nat), (i2 ≤ nH) → (k2 = f5 v - shS (f5 v) (partN f1 f2 f3 f4) (sumN (partN f1 f2 f3 f4) nH) i2) → (f0 = dlK f8 (f5 v) (partN f1 f2 f3 f4) (sumN (partN f1 f2 f3 f4) nH) v i2) → (nH - i2) < dd → ∀ (Hp : Heap) (locs : List Loc), va_P D vwCl (mX mr rf st ln th pl hs vs dg xx ++ qX cI (rf 0) nH nV wk ea gi sw f1 f2 f3 f4 f5 f6 f7 f0 ++ iaX cI (rf 6) 6 (tabN (fun _ => 0) nH g)) Hp → va_D A (mX mr rf st ln th pl hs vs dg xx ++ qX cI (rf 0) nH nV wk ea gi sw f1 f2 f3 f4 f5 f6 f7 f0 ++ iaX cI (rf 6) 6 (tabN (fun _ => 0) nH g)) → va_S A s.heap Hp locs → ∀ ls : Array Slot, lv_has ls 6 [(4, .int (nI i2)), (3, .int (nI k2)), (2, .int (nI (sumN (partN f1 f2 f3 f4) nH))), (0, .ref mr), (1, .int (nI v))] → W p l e (rmF 3 65) s m args below meth c Hp locs 0 0 (MQ below (CQ D (none : Option Value) (fun u : (Nat → Nat) => (mX mr rf st ln th pl hs vs dg xx ++ qX cI (rf 0) nH nV wk ea gi sw f1 f2 f3 f4 f5 (va_up f6 v (glN f7 (partN f1 f2 f3 f4) v nH (dlK f8 (f5 v) (partN f1 f2 f3 f4) (sumN (partN f1 f2 f3 f4) nH) v nH) (f6 v) (f5 v - shS (f5 v) (partN f1 f2 f3 f4) (sumN (partN f1 f2 f3 f4) nH) nH)).2.2) f7 ((glN f7 (partN f1 f2 f3 f4) v nH (dlK f8 (f5 v) (partN f1 f2 f3 f4) (sumN (partN f1 f2 f3 f4) nH) v nH) (f6 v) (f5 v - shS (f5 v) (partN f1 f2 f3 f4) (sumN (partN f1 f2 f3 f4) nH) nH)).1) ++ iaX cI (rf 6) 6 u)) A) args s 0 0 A) (F0 m 48 ls []) := by
          intro dd
          induction dd with
          | zero => intro i2 k2 f0 hi2 ek2 ef hm; exact absurd hm (Nat.not_lt_zero _)
          | succ dd ih_48 =>
            intro i2 k2 f0 hi2 ek2 ef hm Hp locs hP hD hS ls hl
            refine lv_iload hx hb dX9_shareOut_48 (lv_at hl 0 rfl) ?_
            refine lv_aload_n hx hb dX9_shareOut_50 rfl (lv_at hl 3 rfl) ?_
            refine gf_n (C := RX9) (T := TX9) (N := 15) (ci := 9) (q0 := 0) (v := .ref (rf 0)) hx hb hts (iU inlX9) hown hK hP rfl rfl 0 (by decide) (kU u_129) rfl rfl dX9_shareOut_51 ?_
            refine lv_iconst (v := (nI 0)) hx hb dX9_shareOut_54 (by decide) ?_
            refine ia_n (q0 := 1) (t0 := 0) hx hb hK hP rfl rfl (by omega) (by decide) dX9_shareOut_55 ?_
            rw [show qN nH nV wk ea gi sw f1 f2 f3 f4 f5 f6 f7 f0 0 = nH from rfl]
            refine lv_icmp_ge (tgt := 103) hx hb dX9_shareOut_56 (by decide) (fun c_56 => ?_) (fun c_56 => ?_)
            · skip
              replace c_56 := cn_le (by omega) (by omega) c_56
              refine lv_aload_n hx hb dX9_shareOut_103 rfl (lv_at hl 3 rfl) ?_
              refine lv_iload_n hx hb dX9_shareOut_104 rfl (lv_at hl 4 rfl) ?_
              refine gp_V (ci := 9) (q0 := 0) (cq := (RX9, TX9, 15)) (c_X9_greedy l D cI cZ cF cL mr rf st ln th pl hs vs dg xx nH nV wk ea gi sw f1 f2 f3 f4 f5 f6 f7 f0 (tabN (fun _ => 0) nH g) v hH (by omega) b1 b14 b2 b3 b4 b7 (fun h hh => by rw [tabN_in hh]; exact Nat.zero_le _)) (gUV u_661 u_662 u_663 u_5 u_664) rfl hdV_X9_greedy ⟨Nat.le_of_ble_eq_true rfl, Nat.le_of_ble_eq_true rfl⟩ ⟨rfl, rfl⟩ hx hb hml hown hts hK hA hP hD hS hl.1 ⟨Nat.le_of_ble_eq_true rfl, Nat.le_of_ble_eq_true rfl⟩ rfl rfl rfl (wr := ([] : va_W)) (pm_cnt (fun _ => by simp only [List.countP_append, List.countP_nil, fT] <;> omega)) (fun _ => by simp only [List.map_append, List.map_nil, fX_m, bX_m, sX_m, pX_m, iaX_m, r5X_m, r6X_m, fT_m, hX_m, tX_m, xX_m, sgX_m, zaX_m, fsB_a, qX_m, mX_m]) (rest := []) rfl rfl (Nat.le_of_ble_eq_true rfl) dX9_shareOut_105 (ws2 := (fun _ : Unit => (mX mr rf st ln th pl hs vs dg xx ++ qX cI (rf 0) nH nV wk ea gi sw f1 f2 f3 f4 f5 f6 f7 f0 ++ iaX cI (rf 6) 6 (tabN (fun _ => 0) nH g)))) (fun _ => (pm_cnt (fun _ => by simp only [List.countP_append, List.countP_nil, fT] <;> omega))) (fun _ Hp locs hP hD hS => ?_)
              refine lv_istore (lv' := [(4, .int (encM (kz f7 (partN f1 f2 f3 f4) (tabN (fun _ => 0) nH g) v nH))), (3, .int (nI k2)), (2, .int (nI (sumN (partN f1 f2 f3 f4) nH))), (0, .ref mr), (1, .int (nI v))]) hx hb dX9_shareOut_108 hl (by decide) rfl (fun ls hl => ?_)
              have loop_110 : ∀ (dd : Nat) (k3 : Nat) (m1 : Int32) (h0 : Nat → Nat) (y2 : Nat → Nat) (n : Nat), (n ≤ f5 v - shS (f5 v) (partN f1 f2 f3 f4) (sumN (partN f1 f2 f3 f4) nH) nH) → (k3 = f5 v - shS (f5 v) (partN f1 f2 f3 f4) (sumN (partN f1 f2 f3 f4) nH) nH - n) → (h0 = (glN f7 (partN f1 f2 f3 f4) v nH (dlK f8 (f5 v) (partN f1 f2 f3 f4) (sumN (partN f1 f2 f3 f4) nH) v nH) (f6 v) n).1) → (y2 = tabN (glN f7 (partN f1 f2 f3 f4) v nH (dlK f8 (f5 v) (partN f1 f2 f3 f4) (sumN (partN f1 f2 f3 f4) nH) v nH) (f6 v) n).2.1 nH g) → (m1 = encM (kz f7 (partN f1 f2 f3 f4) y2 v nH)) → ((glN f7 (partN f1 f2 f3 f4) v nH (dlK f8 (f5 v) (partN f1 f2 f3 f4) (sumN (partN f1 f2 f3 f4) nH) v nH) (f6 v) n).2.2 = f6 v) → k3 < dd → ∀ (Hp : Heap) (locs : List Loc), va_P D vwCl (mX mr rf st ln th pl hs vs dg xx ++ qX cI (rf 0) nH nV wk ea gi sw f1 f2 f3 f4 f5 f6 f7 h0 ++ iaX cI (rf 6) 6 y2) Hp → va_D A (mX mr rf st ln th pl hs vs dg xx ++ qX cI (rf 0) nH nV wk ea gi sw f1 f2 f3 f4 f5 f6 f7 h0 ++ iaX cI (rf 6) 6 y2) → va_S A s.heap Hp locs → ∀ ls : Array Slot, lv_has ls 6 [(4, .int m1), (3, .int (nI k3)), (2, .int (nI (sumN (partN f1 f2 f3 f4) nH))), (0, .ref mr), (1, .int (nI v))] → W p l e (rmF 3 65) s m args below meth c Hp locs 0 0 (MQ below (CQ D (none : Option Value) (fun u : (Nat → Nat) => (mX mr rf st ln th pl hs vs dg xx ++ qX cI (rf 0) nH nV wk ea gi sw f1 f2 f3 f4 f5 (va_up f6 v (glN f7 (partN f1 f2 f3 f4) v nH (dlK f8 (f5 v) (partN f1 f2 f3 f4) (sumN (partN f1 f2 f3 f4) nH) v nH) (f6 v) (f5 v - shS (f5 v) (partN f1 f2 f3 f4) (sumN (partN f1 f2 f3 f4) nH) nH)).2.2) f7 ((glN f7 (partN f1 f2 f3 f4) v nH (dlK f8 (f5 v) (partN f1 f2 f3 f4) (sumN (partN f1 f2 f3 f4) nH) v nH) (f6 v) (f5 v - shS (f5 v) (partN f1 f2 f3 f4) (sumN (partN f1 f2 f3 f4) nH) nH)).1) ++ iaX cI (rf 6) 6 u)) A) args s 0 0 A) (F0 m 110 ls []) := by
                intro dd
                induction dd with
                | zero => intro k3 m1 h0 y2 n hn eG e8 e2 ew hc hm; exact absurd hm (Nat.not_lt_zero _)
                | succ dd ih_110 =>
                  intro k3 m1 h0 y2 n hn eG e8 e2 ew hc hm Hp locs hP hD hS ls hl
                  refine lv_iload_n hx hb dX9_shareOut_110 rfl (lv_at hl 1 rfl) ?_
                  refine lv_if_le (tgt := 158) hx hb dX9_shareOut_111 (by decide) (fun c_111 => ?_) (fun c_111 => ?_)
                  · skip
                    replace c_111 := cn_le (b := 0) (by omega) (by omega) c_111
                    refine lv_aload_n hx hb dX9_shareOut_158 rfl (lv_at hl 3 rfl) ?_
                    refine gf_n (C := RX9) (T := TX9) (N := 15) (ci := 9) (q0 := 0) (v := .ref (rf 0)) hx hb hts (iU inlX9) hown hK hP rfl rfl 0 (by decide) (kU u_129) rfl rfl dX9_shareOut_159 ?_
                    refine lv_iload_n hx hb dX9_shareOut_162 rfl (lv_at hl 4 rfl) ?_
                    refine gp_S (c_X9_harvest l D cI cZ cF cL v ) (gUS u_278 u_279 u_5 u_280) rfl hdS_X9_harvest ⟨Nat.le_of_ble_eq_true rfl, Nat.le_of_ble_eq_true rfl⟩ ⟨rfl, rfl⟩ hx hb hml hown hts hK hA hP hD hS hl.1 ⟨Nat.le_of_ble_eq_true rfl, Nat.le_of_ble_eq_true rfl⟩ (wr := (mX mr rf st ln th pl hs vs dg xx ++ qX cI (rf 0) nH nV wk ea gi sw f1 f2 f3 f4 f5 f6 f7 h0 ++ iaX cI (rf 6) 6 y2)) (pm_cnt (fun _ => by simp only [List.countP_append, List.countP_nil, fT] <;> omega)) (fun _ => by simp only [List.map_append, List.map_nil, fX_m, bX_m, sX_m, pX_m, iaX_m, r5X_m, r6X_m, fT_m, hX_m, tX_m, xX_m, sgX_m, zaX_m, fsB_a, qX_m, mX_m]) (rest := [.ref (rf 0)]) rfl rfl (Nat.le_of_ble_eq_true rfl) dX9_shareOut_163 (ws2 := (fun _ : Unit => (mX mr rf st ln th pl hs vs dg xx ++ qX cI (rf 0) nH nV wk ea gi sw f1 f2 f3 f4 f5 f6 f7 h0 ++ iaX cI (rf 6) 6 y2))) (fun _ => (pm_cnt (fun _ => by simp only [List.countP_append, List.countP_nil, fT] <;> omega))) (fun _ Hp locs hP hD hS => ?_)
                    refine lv_iconst (v := (nI 1)) hx hb dX9_shareOut_166 (by decide) ?_
                    refine lv_iadd hx hb dX9_shareOut_167 ?_
                    rw [nI_add (30 + 2 * v) 1]
                    refine lv_dup2_11 hx hb dX9_shareOut_168 rfl rfl ?_
                    refine ia_n (q0 := 1) (t0 := 0) hx hb hK hP rfl rfl (by omega) (by decide) dX9_shareOut_169 ?_
                    rw [qR_6 (by omega)]
                    refine lv_iload_n hx hb dX9_shareOut_170 rfl (lv_at hl 1 rfl) ?_
                    refine lv_iadd hx hb dX9_shareOut_171 ?_
                    rw [nI_add (f6 v) k3]
                    refine is_n (q0 := 1) (t0 := 0) (ws2 := (mX mr rf st ln th pl hs vs dg xx ++ qX cI (rf 0) nH nV wk ea gi sw f1 f2 f3 f4 f5 (va_up f6 v ((f6 v) + k3)) f7 h0 ++ iaX cI (rf 6) 6 y2)) hx hb hK hP hD hS rfl rfl (by omega) (by decide) dX9_shareOut_172 (by rw [qU_6 (by omega)]; rfl) (fun Hp locs hP hD hS => ?_)
                    exact ct_v (y2) hx hb hr hlocks (by first | (rw [(glR_n e8 e2 hc hn eG (Or.inl c_111)).1, (glR_n e8 e2 hc hn eG (Or.inl c_111)).2]; exact hP) | (rw [(glR_n e8 e2 hc hn eG (Or.inr hk)).1, (glR_n e8 e2 hc hn eG (Or.inr hk)).2]; exact hP)) hS dX9_shareOut_173
                  · skip
                    replace c_111 := cn_nle (b := 0) (by omega) (by omega) c_111
                    rcases hk : kz f7 (partN f1 f2 f3 f4) y2 v nH with _ | bb
                    · skip
                      obtain rfl : m1 = (-1) := by rw [ew, hk]; rfl
                      refine lv_iload hx hb dX9_shareOut_114 (lv_at hl 0 rfl) ?_
                      refine lv_if_lt (tgt := 158) hx hb dX9_shareOut_116 (by decide) (fun _ => ?_) (fun c_116 => absurd (by decide +kernel) c_116)
                      refine lv_aload_n hx hb dX9_shareOut_158 rfl (lv_at hl 3 rfl) ?_
                      refine gf_n (C := RX9) (T := TX9) (N := 15) (ci := 9) (q0 := 0) (v := .ref (rf 0)) hx hb hts (iU inlX9) hown hK hP rfl rfl 0 (by decide) (kU u_129) rfl rfl dX9_shareOut_159 ?_
                      refine lv_iload_n hx hb dX9_shareOut_162 rfl (lv_at hl 4 rfl) ?_
                      refine gp_S (c_X9_harvest l D cI cZ cF cL v ) (gUS u_278 u_279 u_5 u_280) rfl hdS_X9_harvest ⟨Nat.le_of_ble_eq_true rfl, Nat.le_of_ble_eq_true rfl⟩ ⟨rfl, rfl⟩ hx hb hml hown hts hK hA hP hD hS hl.1 ⟨Nat.le_of_ble_eq_true rfl, Nat.le_of_ble_eq_true rfl⟩ (wr := (mX mr rf st ln th pl hs vs dg xx ++ qX cI (rf 0) nH nV wk ea gi sw f1 f2 f3 f4 f5 f6 f7 h0 ++ iaX cI (rf 6) 6 y2)) (pm_cnt (fun _ => by simp only [List.countP_append, List.countP_nil, fT] <;> omega)) (fun _ => by simp only [List.map_append, List.map_nil, fX_m, bX_m, sX_m, pX_m, iaX_m, r5X_m, r6X_m, fT_m, hX_m, tX_m, xX_m, sgX_m, zaX_m, fsB_a, qX_m, mX_m]) (rest := [.ref (rf 0)]) rfl rfl (Nat.le_of_ble_eq_true rfl) dX9_shareOut_163 (ws2 := (fun _ : Unit => (mX mr rf st ln th pl hs vs dg xx ++ qX cI (rf 0) nH nV wk ea gi sw f1 f2 f3 f4 f5 f6 f7 h0 ++ iaX cI (rf 6) 6 y2))) (fun _ => (pm_cnt (fun _ => by simp only [List.countP_append, List.countP_nil, fT] <;> omega))) (fun _ Hp locs hP hD hS => ?_)
                      refine lv_iconst (v := (nI 1)) hx hb dX9_shareOut_166 (by decide) ?_
                      refine lv_iadd hx hb dX9_shareOut_167 ?_
                      rw [nI_add (30 + 2 * v) 1]
                      refine lv_dup2_11 hx hb dX9_shareOut_168 rfl rfl ?_
                      refine ia_n (q0 := 1) (t0 := 0) hx hb hK hP rfl rfl (by omega) (by decide) dX9_shareOut_169 ?_
                      rw [qR_6 (by omega)]
                      refine lv_iload_n hx hb dX9_shareOut_170 rfl (lv_at hl 1 rfl) ?_
                      refine lv_iadd hx hb dX9_shareOut_171 ?_
                      rw [nI_add (f6 v) k3]
                      refine is_n (q0 := 1) (t0 := 0) (ws2 := (mX mr rf st ln th pl hs vs dg xx ++ qX cI (rf 0) nH nV wk ea gi sw f1 f2 f3 f4 f5 (va_up f6 v ((f6 v) + k3)) f7 h0 ++ iaX cI (rf 6) 6 y2)) hx hb hK hP hD hS rfl rfl (by omega) (by decide) dX9_shareOut_172 (by rw [qU_6 (by omega)]; rfl) (fun Hp locs hP hD hS => ?_)
                      exact ct_v (y2) hx hb hr hlocks (by first | (rw [(glR_n e8 e2 hc hn eG (Or.inl c_111)).1, (glR_n e8 e2 hc hn eG (Or.inl c_111)).2]; exact hP) | (rw [(glR_n e8 e2 hc hn eG (Or.inr hk)).1, (glR_n e8 e2 hc hn eG (Or.inr hk)).2]; exact hP)) hS dX9_shareOut_173
                    · skip
                      obtain rfl : m1 = nI bb := by rw [ew, hk]; rfl
                      have hbl := kz_lt nH bb hk
                      refine lv_iload hx hb dX9_shareOut_114 (lv_at hl 0 rfl) ?_
                      refine lv_if_lt (tgt := 158) hx hb dX9_shareOut_116 (by decide) (fun c_116 => ?_) (fun c_116 => ?_)
                      · skip
                        replace c_116 := cn_lt (b := 0) (by omega) (by omega) c_116
                        (exact absurd c_116 (by omega))
                      · skip
                        replace c_116 := cn_nlt (b := 0) (by omega) (by omega) c_116
                        refine lv_aload_n hx hb dX9_shareOut_119 rfl (lv_at hl 3 rfl) ?_
                        refine gf_n (C := RX9) (T := TX9) (N := 15) (ci := 9) (q0 := 0) (v := .ref (rf 0)) hx hb hts (iU inlX9) hown hK hP rfl rfl 0 (by decide) (kU u_129) rfl rfl dX9_shareOut_120 ?_
                        refine lv_iload hx hb dX9_shareOut_123 (lv_at hl 0 rfl) ?_
                        refine lv_iload_n hx hb dX9_shareOut_125 rfl (lv_at hl 4 rfl) ?_
                        refine gp_S (c_X9_kilos l D cI cZ cF cL bb v ) (gUS u_354 u_355 u_5 u_356) rfl hdS_X9_kilos ⟨Nat.le_of_ble_eq_true rfl, Nat.le_of_ble_eq_true rfl⟩ ⟨rfl, rfl⟩ hx hb hml hown hts hK hA hP hD hS hl.1 ⟨Nat.le_of_ble_eq_true rfl, Nat.le_of_ble_eq_true rfl⟩ (wr := (mX mr rf st ln th pl hs vs dg xx ++ qX cI (rf 0) nH nV wk ea gi sw f1 f2 f3 f4 f5 f6 f7 h0 ++ iaX cI (rf 6) 6 y2)) (pm_cnt (fun _ => by simp only [List.countP_append, List.countP_nil, fT] <;> omega)) (fun _ => by simp only [List.map_append, List.map_nil, fX_m, bX_m, sX_m, pX_m, iaX_m, r5X_m, r6X_m, fT_m, hX_m, tX_m, xX_m, sgX_m, zaX_m, fsB_a, qX_m, mX_m]) (rest := [.ref (rf 0)]) rfl rfl (Nat.le_of_ble_eq_true rfl) dX9_shareOut_126 (ws2 := (fun _ : Unit => (mX mr rf st ln th pl hs vs dg xx ++ qX cI (rf 0) nH nV wk ea gi sw f1 f2 f3 f4 f5 f6 f7 h0 ++ iaX cI (rf 6) 6 y2))) (fun _ => (pm_cnt (fun _ => by simp only [List.countP_append, List.countP_nil, fT] <;> omega))) (fun _ Hp locs hP hD hS => ?_)
                        refine lv_dup2_11 hx hb dX9_shareOut_129 rfl rfl ?_
                        refine ia_n (q0 := 1) (t0 := 0) hx hb hK hP rfl rfl (by omega) (by decide) dX9_shareOut_130 ?_
                        rw [qR_8 (by omega) (by omega)]
                        refine lv_iconst (v := (nI 1)) hx hb dX9_shareOut_131 (by decide) ?_
                        refine lv_iadd hx hb dX9_shareOut_132 ?_
                        rw [nI_add (h0 (bb * 5 + v)) 1]
                        refine is_n (q0 := 1) (t0 := 0) (ws2 := (mX mr rf st ln th pl hs vs dg xx ++ qX cI (rf 0) nH nV wk ea gi sw f1 f2 f3 f4 f5 f6 f7 (va_up h0 (bb * 5 + v) ((h0 (bb * 5 + v)) + 1)) ++ iaX cI (rf 6) 6 y2)) hx hb hK hP hD hS rfl rfl (by omega) (by decide) dX9_shareOut_133 (by rw [qU_8 (by omega) (by omega)]; rfl) (fun Hp locs hP hD hS => ?_)
                        refine lv_aload_n hx hb dX9_shareOut_134 rfl (lv_at hl 3 rfl) ?_
                        refine gf_n (C := RX9) (T := TX9) (N := 15) (ci := 9) (q0 := 0) (v := .ref (rf 6)) hx hb hts (iU inlX9) hown hK hP rfl rfl 9 (by decide) (kU u_135) rfl rfl dX9_shareOut_135 ?_
                        refine lv_iload hx hb dX9_shareOut_138 (lv_at hl 0 rfl) ?_
                        refine lv_dup2_11 hx hb dX9_shareOut_140 rfl rfl ?_
                        refine ia_n (q0 := 2) (t0 := 0) hx hb hK hP rfl rfl (by omega) (by decide) dX9_shareOut_141 ?_
                        refine lv_iconst (v := (nI 1)) hx hb dX9_shareOut_142 (by decide) ?_
                        refine lv_iadd hx hb dX9_shareOut_143 ?_
                        rw [nI_add (y2 bb) 1]
                        refine is_n (q0 := 2) (t0 := 0) (ws2 := (mX mr rf st ln th pl hs vs dg xx ++ qX cI (rf 0) nH nV wk ea gi sw f1 f2 f3 f4 f5 f6 f7 (va_up h0 (bb * 5 + v) ((h0 (bb * 5 + v)) + 1)) ++ iaX cI (rf 6) 6 (va_up y2 bb ((y2 bb) + 1)))) hx hb hK hP hD hS rfl rfl (by omega) (by decide) dX9_shareOut_144 rfl (fun Hp locs hP hD hS => ?_)
                        refine lv_iinc (v := (nI (k3 - 1))) (lv' := [(3, .int (nI (k3 - 1))), (4, .int (nI bb)), (2, .int (nI (sumN (partN f1 f2 f3 f4) nH))), (0, .ref mr), (1, .int (nI v))]) hx hb dX9_shareOut_145 hl (k := 1) rfl (pk_dec (by omega)) (by decide) rfl (fun ls hl => ?_)
                        refine lv_aload_n hx hb dX9_shareOut_148 rfl (lv_at hl 3 rfl) ?_
                        refine lv_iload_n hx hb dX9_shareOut_149 rfl (lv_at hl 4 rfl) ?_
                        refine gp_V (ci := 9) (q0 := 0) (cq := (RX9, TX9, 15)) (c_X9_greedy l D cI cZ cF cL mr rf st ln th pl hs vs dg xx nH nV wk ea gi sw f1 f2 f3 f4 f5 f6 f7 (va_up h0 (bb * 5 + v) ((h0 (bb * 5 + v)) + 1)) (va_up y2 bb ((y2 bb) + 1)) v hH (by omega) b1 b14 b2 b3 b4 b7 (fun h hh => by have q : ∀ j, j < nH → y2 j ≤ 40 := (fun j hj => by rw [e2, tabN_in hj]; exact Nat.le_trans (glN_g _ _ _ _ _ _ _ _) (by omega)); exact up_all (P := fun z => z ≤ 1000) (fun _ => by have := q bb hbl; omega) (fun _ => by have := q h hh; omega))) (gUV u_661 u_662 u_663 u_5 u_664) rfl hdV_X9_greedy ⟨Nat.le_of_ble_eq_true rfl, Nat.le_of_ble_eq_true rfl⟩ ⟨rfl, rfl⟩ hx hb hml hown hts hK hA hP hD hS hl.1 ⟨Nat.le_of_ble_eq_true rfl, Nat.le_of_ble_eq_true rfl⟩ rfl rfl rfl (wr := ([] : va_W)) (pm_cnt (fun _ => by simp only [List.countP_append, List.countP_nil, fT] <;> omega)) (fun _ => by simp only [List.map_append, List.map_nil, fX_m, bX_m, sX_m, pX_m, iaX_m, r5X_m, r6X_m, fT_m, hX_m, tX_m, xX_m, sgX_m, zaX_m, fsB_a, qX_m, mX_m]) (rest := []) rfl rfl (Nat.le_of_ble_eq_true rfl) dX9_shareOut_150 (ws2 := (fun _ : Unit => (mX mr rf st ln th pl hs vs dg xx ++ qX cI (rf 0) nH nV wk ea gi sw f1 f2 f3 f4 f5 f6 f7 (va_up h0 (bb * 5 + v) ((h0 (bb * 5 + v)) + 1)) ++ iaX cI (rf 6) 6 (va_up y2 bb ((y2 bb) + 1))))) (fun _ => (pm_cnt (fun _ => by simp only [List.countP_append, List.countP_nil, fT] <;> omega))) (fun _ Hp locs hP hD hS => ?_)
                        refine lv_istore (lv' := [(4, .int (encM (kz f7 (partN f1 f2 f3 f4) (va_up y2 bb ((y2 bb) + 1)) v nH))), (3, .int (nI (k3 - 1))), (2, .int (nI (sumN (partN f1 f2 f3 f4) nH))), (0, .ref mr), (1, .int (nI v))]) hx hb dX9_shareOut_153 hl (by decide) rfl (fun ls hl => ?_)
                        refine lv_goto (tgt := 110) hx hb dX9_shareOut_155 (by decide) ?_
                        exact ih_110 (k3 - 1) ((encM (kz f7 (partN f1 f2 f3 f4) (va_up y2 bb ((y2 bb) + 1)) v nH))) (va_up h0 (bb * 5 + v) ((h0 (bb * 5 + v)) + 1)) (va_up y2 bb ((y2 bb) + 1)) (n + 1) (by omega) (by omega) (glR_y e8 e2 hk hbl).1 (glR_y e8 e2 hk hbl).2.1 rfl (by rw [(glR_y e8 e2 hk hbl).2.2]; exact hc) (by omega) _ _ hP hD hS _ (lv_sub hl [0, 1, 2, 3, 4] rfl)
              exact loop_110 (k2 + 1) k2 ((encM (kz f7 (partN f1 f2 f3 f4) (tabN (fun _ => 0) nH g) v nH))) f0 (tabN (fun _ => 0) nH g) 0 (Nat.zero_le _) (by rw [ek2, show i2 = nH by omega]; rfl) (by rw [ef, show i2 = nH by omega]; rfl) rfl rfl rfl (Nat.lt_succ_self _) _ _ hP hD hS _ (lv_sub hl [0, 1, 2, 3, 4] rfl)
            · skip
              replace c_56 := cn_nle (by omega) (by omega) c_56
              refine lv_aload_n hx hb dX9_shareOut_59 rfl (lv_at hl 3 rfl) ?_
              refine gf_n (C := RX9) (T := TX9) (N := 15) (ci := 9) (q0 := 0) (v := .ref (rf 0)) hx hb hts (iU inlX9) hown hK hP rfl rfl 0 (by decide) (kU u_129) rfl rfl dX9_shareOut_60 ?_
              refine lv_iload_n hx hb dX9_shareOut_63 rfl (lv_at hl 4 rfl) ?_
              refine gp_S (c_X9_harvest l D cI cZ cF cL v ) (gUS u_278 u_279 u_5 u_280) rfl hdS_X9_harvest ⟨Nat.le_of_ble_eq_true rfl, Nat.le_of_ble_eq_true rfl⟩ ⟨rfl, rfl⟩ hx hb hml hown hts hK hA hP hD hS hl.1 ⟨Nat.le_of_ble_eq_true rfl, Nat.le_of_ble_eq_true rfl⟩ (wr := (mX mr rf st ln th pl hs vs dg xx ++ qX cI (rf 0) nH nV wk ea gi sw f1 f2 f3 f4 f5 f6 f7 f0 ++ iaX cI (rf 6) 6 (tabN (fun _ => 0) nH g))) (pm_cnt (fun _ => by simp only [List.countP_append, List.countP_nil, fT] <;> omega)) (fun _ => by simp only [List.map_append, List.map_nil, fX_m, bX_m, sX_m, pX_m, iaX_m, r5X_m, r6X_m, fT_m, hX_m, tX_m, xX_m, sgX_m, zaX_m, fsB_a, qX_m, mX_m]) (rest := [.ref (rf 0)]) rfl rfl (Nat.le_of_ble_eq_true rfl) dX9_shareOut_64 (ws2 := (fun _ : Unit => (mX mr rf st ln th pl hs vs dg xx ++ qX cI (rf 0) nH nV wk ea gi sw f1 f2 f3 f4 f5 f6 f7 f0 ++ iaX cI (rf 6) 6 (tabN (fun _ => 0) nH g)))) (fun _ => (pm_cnt (fun _ => by simp only [List.countP_append, List.countP_nil, fT] <;> omega))) (fun _ Hp locs hP hD hS => ?_)
              refine ia_n (q0 := 1) (t0 := 0) hx hb hK hP rfl rfl (by omega) (by decide) dX9_shareOut_67 ?_
              rw [qR_5 (by omega)]
              refine lv_aload_n hx hb dX9_shareOut_68 rfl (lv_at hl 3 rfl) ?_
              refine lv_iload hx hb dX9_shareOut_69 (lv_at hl 0 rfl) ?_
              refine gp_V (ci := 9) (q0 := 0) (cq := (RX9, TX9, 15)) (c_X9_partOf l D cI cZ cF cL mr rf st ln th pl hs vs dg xx nH nV wk ea gi sw f1 f2 f3 f4 f5 f6 f7 f0 i2 (by omega) (fun h hh => Nat.lt_of_le_of_lt (b3 h hh) (by decide)) (fun h hh => Nat.lt_of_le_of_lt (b2 h hh) (by decide)) (fun h hh => Nat.lt_of_le_of_lt (b4 h hh) (by decide))) (gUV u_657 u_658 u_659 u_5 u_660) rfl hdV_X9_partOf ⟨Nat.le_of_ble_eq_true rfl, Nat.le_of_ble_eq_true rfl⟩ ⟨rfl, rfl⟩ hx hb hml hown hts hK hA hP hD hS hl.1 ⟨Nat.le_of_ble_eq_true rfl, Nat.le_of_ble_eq_true rfl⟩ rfl rfl rfl (wr := (iaX cI (rf 6) 6 (tabN (fun _ => 0) nH g))) (pm_cnt (fun _ => by simp only [List.countP_append, List.countP_nil, fT] <;> omega)) (fun _ => by simp only [List.map_append, List.map_nil, fX_m, bX_m, sX_m, pX_m, iaX_m, r5X_m, r6X_m, fT_m, hX_m, tX_m, xX_m, sgX_m, zaX_m, fsB_a, qX_m, mX_m]) (rest := [.int (nI (f5 v))]) rfl rfl (Nat.le_of_ble_eq_true rfl) dX9_shareOut_71 (ws2 := (fun _ : Unit => (mX mr rf st ln th pl hs vs dg xx ++ qX cI (rf 0) nH nV wk ea gi sw f1 f2 f3 f4 f5 f6 f7 f0 ++ iaX cI (rf 6) 6 (tabN (fun _ => 0) nH g)))) (fun _ => (pm_cnt (fun _ => by simp only [List.countP_append, List.countP_nil, fT] <;> omega))) (fun _ Hp locs hP hD hS => ?_)
              refine lv_imul hx hb dX9_shareOut_74 ?_
              rw [pk_mul (f5 v) (partN f1 f2 f3 f4 i2)]
              refine lv_iload_n hx hb dX9_shareOut_75 rfl (lv_at hl 2 rfl) ?_
              refine lv_idiv hx hb dX9_shareOut_76 (nI_ne0 hPP hP3) ?_
              rw [pk_div (a := (f5 v) * (partN f1 f2 f3 f4 i2)) (d := sumN (partN f1 f2 f3 f4) nH) (by have := Nat.mul_le_mul hL (hp5 i2 (by omega)); omega) hPP hP3]
              refine lv_istore (lv' := [(5, .int (nI (((f5 v) * (partN f1 f2 f3 f4 i2)) / (sumN (partN f1 f2 f3 f4) nH)))), (4, .int (nI i2)), (3, .int (nI k2)), (2, .int (nI (sumN (partN f1 f2 f3 f4) nH))), (0, .ref mr), (1, .int (nI v))]) hx hb dX9_shareOut_77 hl (by decide) rfl (fun ls hl => ?_)
              refine lv_aload_n hx hb dX9_shareOut_79 rfl (lv_at hl 4 rfl) ?_
              refine gf_n (C := RX9) (T := TX9) (N := 15) (ci := 9) (q0 := 0) (v := .ref (rf 0)) hx hb hts (iU inlX9) hown hK hP rfl rfl 0 (by decide) (kU u_129) rfl rfl dX9_shareOut_80 ?_
              refine lv_iload hx hb dX9_shareOut_83 (lv_at hl 1 rfl) ?_
              refine lv_iload_n hx hb dX9_shareOut_85 rfl (lv_at hl 5 rfl) ?_
              refine gp_S (c_X9_kilos l D cI cZ cF cL i2 v ) (gUS u_354 u_355 u_5 u_356) rfl hdS_X9_kilos ⟨Nat.le_of_ble_eq_true rfl, Nat.le_of_ble_eq_true rfl⟩ ⟨rfl, rfl⟩ hx hb hml hown hts hK hA hP hD hS hl.1 ⟨Nat.le_of_ble_eq_true rfl, Nat.le_of_ble_eq_true rfl⟩ (wr := (mX mr rf st ln th pl hs vs dg xx ++ qX cI (rf 0) nH nV wk ea gi sw f1 f2 f3 f4 f5 f6 f7 f0 ++ iaX cI (rf 6) 6 (tabN (fun _ => 0) nH g))) (pm_cnt (fun _ => by simp only [List.countP_append, List.countP_nil, fT] <;> omega)) (fun _ => by simp only [List.map_append, List.map_nil, fX_m, bX_m, sX_m, pX_m, iaX_m, r5X_m, r6X_m, fT_m, hX_m, tX_m, xX_m, sgX_m, zaX_m, fsB_a, qX_m, mX_m]) (rest := [.ref (rf 0)]) rfl rfl (Nat.le_of_ble_eq_true rfl) dX9_shareOut_86 (ws2 := (fun _ : Unit => (mX mr rf st ln th pl hs vs dg xx ++ qX cI (rf 0) nH nV wk ea gi sw f1 f2 f3 f4 f5 f6 f7 f0 ++ iaX cI (rf 6) 6 (tabN (fun _ => 0) nH g)))) (fun _ => (pm_cnt (fun _ => by simp only [List.countP_append, List.countP_nil, fT] <;> omega))) (fun _ Hp locs hP hD hS => ?_)
              refine lv_iload hx hb dX9_shareOut_89 (lv_at hl 0 rfl) ?_
              refine is_n (q0 := 1) (t0 := 0) (ws2 := (mX mr rf st ln th pl hs vs dg xx ++ qX cI (rf 0) nH nV wk ea gi sw f1 f2 f3 f4 f5 f6 f7 (va_up f0 (i2 * 5 + v) (((f5 v) * (partN f1 f2 f3 f4 i2)) / (sumN (partN f1 f2 f3 f4) nH))) ++ iaX cI (rf 6) 6 (tabN (fun _ => 0) nH g))) hx hb hK hP hD hS rfl rfl (by omega) (by decide) dX9_shareOut_91 (by rw [qU_8 (by omega) (by omega)]; rfl) (fun Hp locs hP hD hS => ?_)
              refine lv_iload_n hx hb dX9_shareOut_92 rfl (lv_at hl 2 rfl) ?_
              refine lv_iload hx hb dX9_shareOut_93 (lv_at hl 0 rfl) ?_
              refine lv_isub hx hb dX9_shareOut_95 ?_
              rw [pk_sub (a := k2) (b := ((f5 v) * (partN f1 f2 f3 f4 i2)) / (sumN (partN f1 f2 f3 f4) nH)) (by have := shS_lei (L := f5 v) (Nat.le_refl (sumN (partN f1 f2 f3 f4) nH)) (i2 + 1) (by omega); rw [show shS (f5 v) (partN f1 f2 f3 f4) (sumN (partN f1 f2 f3 f4) nH) (i2 + 1) = shS (f5 v) (partN f1 f2 f3 f4) (sumN (partN f1 f2 f3 f4) nH) i2 + f5 v * partN f1 f2 f3 f4 i2 / (sumN (partN f1 f2 f3 f4) nH) from rfl] at this; omega)]
              refine lv_istore_n (lv' := [(3, .int (nI (k2 - (((f5 v) * (partN f1 f2 f3 f4 i2)) / (sumN (partN f1 f2 f3 f4) nH))))), (5, .int (nI (((f5 v) * (partN f1 f2 f3 f4 i2)) / (sumN (partN f1 f2 f3 f4) nH)))), (4, .int (nI i2)), (2, .int (nI (sumN (partN f1 f2 f3 f4) nH))), (0, .ref mr), (1, .int (nI v))]) hx hb dX9_shareOut_96 rfl hl (by decide) rfl (fun ls hl => ?_)
              refine lv_iinc (v := (nI (i2 + 1))) (lv' := [(4, .int (nI (i2 + 1))), (3, .int (nI (k2 - (((f5 v) * (partN f1 f2 f3 f4 i2)) / (sumN (partN f1 f2 f3 f4) nH))))), (5, .int (nI (((f5 v) * (partN f1 f2 f3 f4 i2)) / (sumN (partN f1 f2 f3 f4) nH)))), (2, .int (nI (sumN (partN f1 f2 f3 f4) nH))), (0, .ref mr), (1, .int (nI v))]) hx hb dX9_shareOut_97 hl (k := 2) rfl (nI_add i2 1) (by decide) rfl (fun ls hl => ?_)
              refine lv_goto (tgt := 48) hx hb dX9_shareOut_100 (by decide) ?_
              exact ih_48 (i2 + 1) (k2 - (((f5 v) * (partN f1 f2 f3 f4 i2)) / (sumN (partN f1 f2 f3 f4) nH))) (va_up f0 (i2 * 5 + v) (((f5 v) * (partN f1 f2 f3 f4 i2)) / (sumN (partN f1 f2 f3 f4) nH))) (by omega) (by rw [show shS (f5 v) (partN f1 f2 f3 f4) (sumN (partN f1 f2 f3 f4) nH) (i2 + 1) = shS (f5 v) (partN f1 f2 f3 f4) (sumN (partN f1 f2 f3 f4) nH) i2 + f5 v * partN f1 f2 f3 f4 i2 / (sumN (partN f1 f2 f3 f4) nH) from rfl, ek2, Nat.sub_sub]) (by rw [ef]; exact dlK_s f8 (f5 v) (partN f1 f2 f3 f4) hPP hv i2) (by omega) _ _ hP hD hS _ (lv_sub hl [0, 1, 3, 4, 5] rfl)
        exact loop_48 ((nH - 0) + 1) 0 (f5 v) f8 (by omega) rfl (dlK_0 _ _ _ _ _).symm (Nat.lt_succ_self _) _ _ hP hD hS _ (lv_sub hl [0, 1, 2, 3, 4] rfl)
      · skip
        replace c_11 := cn_nle (by omega) (by omega) c_11
        refine lv_iload_n hx hb dX9_shareOut_14 rfl (lv_at hl 1 rfl) ?_
        refine lv_aload_n hx hb dX9_shareOut_15 rfl (lv_at hl 2 rfl) ?_
        refine lv_iload_n hx hb dX9_shareOut_16 rfl (lv_at hl 0 rfl) ?_
        refine gp_V (ci := 9) (q0 := 0) (cq := (RX9, TX9, 15)) (c_X9_partOf l D cI cZ cF cL mr rf st ln th pl hs vs dg xx nH nV wk ea gi sw f1 f2 f3 f4 f5 f6 f7 f8 i (by omega) (fun h hh => Nat.lt_of_le_of_lt (b3 h hh) (by decide)) (fun h hh => Nat.lt_of_le_of_lt (b2 h hh) (by decide)) (fun h hh => Nat.lt_of_le_of_lt (b4 h hh) (by decide))) (gUV u_657 u_658 u_659 u_5 u_660) rfl hdV_X9_partOf ⟨Nat.le_of_ble_eq_true rfl, Nat.le_of_ble_eq_true rfl⟩ ⟨rfl, rfl⟩ hx hb hml hown hts hK hA hP hD hS hl.1 ⟨Nat.le_of_ble_eq_true rfl, Nat.le_of_ble_eq_true rfl⟩ rfl rfl rfl (wr := (iaX cI (rf 6) 6 y)) (pm_cnt (fun _ => by simp only [List.countP_append, List.countP_nil, fT] <;> omega)) (fun _ => by simp only [List.map_append, List.map_nil, fX_m, bX_m, sX_m, pX_m, iaX_m, r5X_m, r6X_m, fT_m, hX_m, tX_m, xX_m, sgX_m, zaX_m, fsB_a, qX_m, mX_m]) (rest := [.int (nI k)]) rfl rfl (Nat.le_of_ble_eq_true rfl) dX9_shareOut_17 (ws2 := (fun _ : Unit => (mX mr rf st ln th pl hs vs dg xx ++ qX cI (rf 0) nH nV wk ea gi sw f1 f2 f3 f4 f5 f6 f7 f8 ++ iaX cI (rf 6) 6 y))) (fun _ => (pm_cnt (fun _ => by simp only [List.countP_append, List.countP_nil, fT] <;> omega))) (fun _ Hp locs hP hD hS => ?_)
        refine lv_iadd hx hb dX9_shareOut_20 ?_
        rw [nI_add k (partN f1 f2 f3 f4 i)]
        refine lv_istore_n (lv' := [(2, .int (nI (k + (partN f1 f2 f3 f4 i)))), (3, .int (nI i)), (0, .ref mr), (1, .int (nI v))]) hx hb dX9_shareOut_21 rfl hl (by decide) rfl (fun ls hl => ?_)
        refine lv_aload_n hx hb dX9_shareOut_22 rfl (lv_at hl 2 rfl) ?_
        refine gf_n (C := RX9) (T := TX9) (N := 15) (ci := 9) (q0 := 0) (v := .ref (rf 6)) hx hb hts (iU inlX9) hown hK hP rfl rfl 9 (by decide) (kU u_135) rfl rfl dX9_shareOut_23 ?_
        refine lv_iload_n hx hb dX9_shareOut_26 rfl (lv_at hl 1 rfl) ?_
        refine lv_iconst (v := (nI 0)) hx hb dX9_shareOut_27 (by decide) ?_
        refine is_n (q0 := 2) (t0 := 0) (ws2 := (mX mr rf st ln th pl hs vs dg xx ++ qX cI (rf 0) nH nV wk ea gi sw f1 f2 f3 f4 f5 f6 f7 f8 ++ iaX cI (rf 6) 6 (va_up y i 0))) hx hb hK hP hD hS rfl rfl (by omega) (by decide) dX9_shareOut_28 rfl (fun Hp locs hP hD hS => ?_)
        refine lv_iinc (v := (nI (i + 1))) (lv' := [(3, .int (nI (i + 1))), (2, .int (nI (k + (partN f1 f2 f3 f4 i)))), (0, .ref mr), (1, .int (nI v))]) hx hb dX9_shareOut_29 hl (k := 1) rfl (nI_add i 1) (by decide) rfl (fun ls hl => ?_)
        refine lv_goto (tgt := 4) hx hb dX9_shareOut_32 (by decide) ?_
        exact ih_4 (i + 1) (k + (partN f1 f2 f3 f4 i)) (va_up y i 0) (by omega) (by rw [ek, sumN_s]) (by rw [ey]; exact filN_s 0 i g) (by omega) _ _ hP hD hS _ (lv_sub hl [0, 1, 2, 3] rfl)
  exact loop_4 ((nH - 0) + 1) 0 0 g (by omega) rfl (filN_0 0 g).symm (Nat.lt_succ_self _) _ _ hP hD hS _ (lv_sub hl [0, 1, 2, 3] rfl)
