set_option maxRecDepth 20000 in
theorem u_861 : Cond.constantLong RX9 160 (10000) ∈ wsL_law := List.mem_of_getElem? (i := 861) (by decide +kernel)
set_option maxRecDepth 20000 in
theorem u_865 : Cond.code yX9_succeeds cX9_succeeds 6 (some .boolean) ∈ wsL_law := List.mem_of_getElem? (i := 865) (by decide +kernel)
set_option maxRecDepth 20000 in
theorem u_862 : Cond.methodLink RX9 162 yX9_succeeds ∈ wsL_law := List.mem_of_getElem? (i := 862) (by decide +kernel)
set_option maxRecDepth 20000 in
theorem u_863 : Cond.instanceMethod yX9_succeeds ∈ wsL_law := List.mem_of_getElem? (i := 863) (by decide +kernel)
set_option maxRecDepth 20000 in
theorem u_864 : Cond.selects RX9 yX9_succeeds yX9_succeeds ∈ wsL_law := List.mem_of_getElem? (i := 864) (by decide +kernel)
theorem hdV_X9_succeeds : yX9_succeeds.cls = RX9 ∧ yX9_succeeds.cls ≠ "java/lang/invoke/MethodHandle" ∧ yX9_succeeds.cls ≠ "java/lang/invoke/VarHandle" ∧ (parseMethodDescriptor yX9_succeeds.desc).map (fun d => d.parameters.length) = some 1 := by decide +kernel
set_option maxHeartbeats 4000000 in
set_option maxRecDepth 100000 in
theorem c_X9_runScript (l : Launch) (D : va_G) (cI cZ cF cL : ClassId) (mr : Nat) (rf : Nat → Nat) (st ln th pl hs vs : Nat) (dg : Int32) (xx : Int64) (T : Nat → Nat → Nat) (h1 g : Nat → Nat) (n S : Nat) (hT : FI T) (h1n : 1 ≤ n) (hn4 : n ≤ 4) (hS0 : S < 2 ^ 63) (hz : S / 10000 ^ n = 0) : CT l D (tysX cI cZ cF cL) yX9_runScript (wA yX9_runScript cX9_runScript 8 (some .int)) (rmF 7 173) [.ref mr, .int (nI n), .long (lN S)] (mX mr rf st ln th pl hs vs dg xx ++ qX cI (rf 0) (T 0 0) (T 0 1) (T 0 2) (T 0 3) (T 0 4) (T 0 5) (T 1) (T 2) (T 3) (T 4) (T 5) (T 6) (T 7) (T 8) ++ iaX cI (rf 1) 100 h1 ++ iaX cI (rf 6) 6 g) (some (.int (scF T S n n 0))) (fun u : (Nat → Nat) => (mX mr rf st ln 0 pl hs vs dg xx ++ qX cI (rf 0) (T 0 0) (T 0 1) (T 0 2) (T 0 3) (T 0 4) (T 0 5) (T 1) (T 2) (T 3) (T 4) (T 5) (T 6) (T 7) (T 8) ++ iaX cI (rf 1) 100 (qN (T 0 0) (T 0 1) (T 0 2) (T 0 3) (T 0 4) (T 0 5) (T 1) (T 2) (T 3) (T 4) (T 5) (T 6) (T 7) (T 8)) ++ iaX cI (rf 6) 6 u)) := by
  refine ct_in (cc := cX9_runScript) (maxL := 8) (ret := (some .int)) (own := RX9) (lv := [(0, .ref mr), (1, .int (nI n)), (2, .long (lN S))]) (by decide +kernel) rfl rfl (Nat.le_of_ble_eq_true rfl) rfl ?_
  intro p e s m args below meth c A ls hx hb hr hml hts hown hlocks hK hA hP hD hS hl
  have hH := hT.1.1
  have hV := hT.1.2
  refine lv_aload_n hx hb dX9_runScript_0 rfl (lv_at hl 0 rfl) ?_
  refine lv_iconst (v := (nI 0)) hx hb dX9_runScript_1 (by decide) ?_
  refine pf_n (C := RX9) (T := TX9) (N := 15) (ci := 9) (q0 := 0) (ty := .int) (v := .int (nI 0)) (ws2 := (mX mr rf st ln 0 pl hs vs dg xx ++ qX cI (rf 0) (T 0 0) (T 0 1) (T 0 2) (T 0 3) (T 0 4) (T 0 5) (T 1) (T 2) (T 3) (T 4) (T 5) (T 6) (T 7) (T 8) ++ iaX cI (rf 1) 100 h1 ++ iaX cI (rf 6) 6 g)) hx hb hts (iU inlX9) tyX9 tyX9_ok nmX9 hown hK hP hD hS rfl rfl 8 (by decide) (kU u_173) rfl rfl (tyX9_ok 8 (by decide)) rfl rfl (Nat.le_of_ble_eq_true rfl) dX9_runScript_2 rfl (fun Hp locs hP hD hS => ?_)
  refine lv_lconst (v := 1) hx hb dX9_runScript_5 (by decide) ?_
  rw [show ((1) : Int64) = lN 1 from by decide +kernel]
  refine lv_lstore (lv' := [(4, .long (lN 1)), (0, .ref mr), (1, .int (nI n)), (2, .long (lN S))]) hx hb dX9_runScript_6 hl (by decide) rfl (fun ls hl => ?_)
  refine lv_iconst (v := (nI 0)) hx hb dX9_runScript_8 (by decide) ?_
  refine lv_istore (lv' := [(6, .int (nI 0)), (4, .long (lN 1)), (0, .ref mr), (1, .int (nI n)), (2, .long (lN S))]) hx hb dX9_runScript_9 hl (by decide) rfl (fun ls hl => ?_)
  have loop_11 : ∀ (dd : Nat) (k : Nat) (u : Nat), (k ≤ n) → (u = 10000 ^ k) → (n - k) < dd → ∀ (Hp : Heap) (locs : List Loc), va_P D vwCl (mX mr rf st ln 0 pl hs vs dg xx ++ qX cI (rf 0) (T 0 0) (T 0 1) (T 0 2) (T 0 3) (T 0 4) (T 0 5) (T 1) (T 2) (T 3) (T 4) (T 5) (T 6) (T 7) (T 8) ++ iaX cI (rf 1) 100 h1 ++ iaX cI (rf 6) 6 g) Hp → va_D A (mX mr rf st ln 0 pl hs vs dg xx ++ qX cI (rf 0) (T 0 0) (T 0 1) (T 0 2) (T 0 3) (T 0 4) (T 0 5) (T 1) (T 2) (T 3) (T 4) (T 5) (T 6) (T 7) (T 8) ++ iaX cI (rf 1) 100 h1 ++ iaX cI (rf 6) 6 g) → va_S A s.heap Hp locs → ∀ ls : Array Slot, lv_has ls 8 [(6, .int (nI k)), (4, .long (lN u)), (0, .ref mr), (1, .int (nI n)), (2, .long (lN S))] → W p l e (rmF 7 173) s m args below meth c Hp locs 0 0 (MQ below (CQ D (some (.int (scF T S n n 0))) (fun u : (Nat → Nat) => (mX mr rf st ln 0 pl hs vs dg xx ++ qX cI (rf 0) (T 0 0) (T 0 1) (T 0 2) (T 0 3) (T 0 4) (T 0 5) (T 1) (T 2) (T 3) (T 4) (T 5) (T 6) (T 7) (T 8) ++ iaX cI (rf 1) 100 (qN (T 0 0) (T 0 1) (T 0 2) (T 0 3) (T 0 4) (T 0 5) (T 1) (T 2) (T 3) (T 4) (T 5) (T 6) (T 7) (T 8)) ++ iaX cI (rf 6) 6 u)) A) args s 0 0 A) (F0 m 11 ls []) := by
    intro dd
    induction dd with
    | zero => intro k u hk eu hm; exact absurd hm (Nat.not_lt_zero _)
    | succ dd ih_11 =>
      intro k u hk eu hm Hp locs hP hD hS ls hl
      refine lv_iload hx hb dX9_runScript_11 (lv_at hl 0 rfl) ?_
      refine lv_iload_n hx hb dX9_runScript_13 rfl (lv_at hl 3 rfl) ?_
      refine lv_icmp_ge (tgt := 37) hx hb dX9_runScript_14 (by decide) (fun c_14 => ?_) (fun c_14 => ?_)
      · skip
        replace c_14 := cn_le (by omega) (by omega) c_14
        have hkn : k = n := by omega
        have hu4 := u_lt hn4
        refine lv_iload_n hx hb dX9_runScript_37 rfl (lv_at hl 3 rfl) ?_
        refine lv_iconst (v := (nI 1)) hx hb dX9_runScript_38 (by decide) ?_
        refine lv_iconst (v := (nI 4)) hx hb dX9_runScript_39 (by decide) ?_
        refine gp_S (c_X9_in l D cI cZ cF cL ((nI n)) ((nI 1)) ((nI 4)) ) (gUS u_140 u_141 u_5 u_142) rfl hdS_X9_in ⟨Nat.le_of_ble_eq_true rfl, Nat.le_of_ble_eq_true rfl⟩ ⟨rfl, rfl⟩ hx hb hml hown hts hK hA hP hD hS hl.1 ⟨Nat.le_of_ble_eq_true rfl, Nat.le_of_ble_eq_true rfl⟩ (wr := (mX mr rf st ln 0 pl hs vs dg xx ++ qX cI (rf 0) (T 0 0) (T 0 1) (T 0 2) (T 0 3) (T 0 4) (T 0 5) (T 1) (T 2) (T 3) (T 4) (T 5) (T 6) (T 7) (T 8) ++ iaX cI (rf 1) 100 h1 ++ iaX cI (rf 6) 6 g)) (pm_cnt (fun _ => by simp only [List.countP_append, List.countP_nil, fT] <;> omega)) (fun _ => by simp only [List.map_append, List.map_nil, fX_m, bX_m, sX_m, pX_m, iaX_m, r5X_m, r6X_m, fT_m, hX_m, tX_m, xX_m, sgX_m, zaX_m, fsB_a, qX_m, mX_m]) (rest := []) rfl rfl (Nat.le_of_ble_eq_true rfl) dX9_runScript_40 (ws2 := (fun _ : Unit => (mX mr rf st ln 0 pl hs vs dg xx ++ qX cI (rf 0) (T 0 0) (T 0 1) (T 0 2) (T 0 3) (T 0 4) (T 0 5) (T 1) (T 2) (T 3) (T 4) (T 5) (T 6) (T 7) (T 8) ++ iaX cI (rf 1) 100 h1 ++ iaX cI (rf 6) 6 g))) (fun _ => (pm_cnt (fun _ => by simp only [List.countP_append, List.countP_nil, fT] <;> omega))) (fun _ Hp locs hP hD hS => ?_)
        refine lv_if_eq (tgt := 59) hx hb dX9_runScript_43 (by decide) (fun c_43 => ?_) (fun c_43 => ?_)
        · skip
          replace c_43 := cb_z c_43
          (exact absurd ((in_n (by omega) (by decide) (by decide)).mpr ⟨by omega, by omega⟩) c_43)
        · skip
          replace c_43 := cb_nz c_43
          refine lv_lload_n hx hb dX9_runScript_46 rfl (lv_at hl 4 rfl) ?_
          refine lv_lconst (v := 0) hx hb dX9_runScript_47 (by decide) ?_
          refine W.lcmp hx hb dX9_runScript_48 ?_
          refine lv_if_lt (tgt := 59) hx hb dX9_runScript_49 (by decide) (fun c_49 => ?_) (fun c_49 => ?_)
          · skip
            (exact absurd c_49 (lc_n hS0))
          · skip
            refine lv_lload_n hx hb dX9_runScript_52 rfl (lv_at hl 4 rfl) ?_
            refine lv_lload hx hb dX9_runScript_53 (lv_at hl 1 rfl) ?_
            refine W.lcmp hx hb dX9_runScript_55 ?_
            refine lv_if_lt (tgt := 65) hx hb dX9_runScript_56 (by decide) (fun c_56 => ?_) (fun c_56 => ?_)
            · skip
              refine lv_aload_n hx hb dX9_runScript_65 rfl (lv_at hl 2 rfl) ?_
              have hP : va_P D vwCl (mX mr rf st ln 0 pl hs vs dg xx ++ iaX cI (rf 0) 100 (qN (T 0 0) (T 0 1) (T 0 2) (T 0 3) (T 0 4) (T 0 5) (T 1) (T 2) (T 3) (T 4) (T 5) (T 6) (T 7) (T 8)) ++ iaX cI (rf 1) 100 h1 ++ iaX cI (rf 6) 6 g) _ := hP
              have hD : va_D A (mX mr rf st ln 0 pl hs vs dg xx ++ iaX cI (rf 0) 100 (qN (T 0 0) (T 0 1) (T 0 2) (T 0 3) (T 0 4) (T 0 5) (T 1) (T 2) (T 3) (T 4) (T 5) (T 6) (T 7) (T 8)) ++ iaX cI (rf 1) 100 h1 ++ iaX cI (rf 6) 6 g) := hD
              refine gp_V (ci := 9) (q0 := 0) (cq := (RX9, TX9, 15)) (c_X9_keep l D cI cZ cF cL mr rf st ln 0 pl hs vs dg xx (qN (T 0 0) (T 0 1) (T 0 2) (T 0 3) (T 0 4) (T 0 5) (T 1) (T 2) (T 3) (T 4) (T 5) (T 6) (T 7) (T 8)) h1 ) (gUV u_737 u_738 u_739 u_5 u_740) rfl hdV_X9_keep ⟨Nat.le_of_ble_eq_true rfl, Nat.le_of_ble_eq_true rfl⟩ ⟨rfl, rfl⟩ hx hb hml hown hts hK hA hP hD hS hl.1 ⟨Nat.le_of_ble_eq_true rfl, Nat.le_of_ble_eq_true rfl⟩ rfl rfl rfl (wr := (iaX cI (rf 6) 6 g)) (pm_cnt (fun _ => by simp only [List.countP_append, List.countP_nil, fT] <;> omega)) (fun _ => by simp only [List.map_append, List.map_nil, fX_m, bX_m, sX_m, pX_m, iaX_m, r5X_m, r6X_m, fT_m, hX_m, tX_m, xX_m, sgX_m, zaX_m, fsB_a, qX_m, mX_m]) (rest := []) rfl rfl (Nat.le_of_ble_eq_true rfl) dX9_runScript_66 (ws2 := (fun _ : Unit => (mX mr rf st ln 0 pl hs vs dg xx ++ iaX cI (rf 0) 100 (qN (T 0 0) (T 0 1) (T 0 2) (T 0 3) (T 0 4) (T 0 5) (T 1) (T 2) (T 3) (T 4) (T 5) (T 6) (T 7) (T 8)) ++ iaX cI (rf 1) 100 (qN (T 0 0) (T 0 1) (T 0 2) (T 0 3) (T 0 4) (T 0 5) (T 1) (T 2) (T 3) (T 4) (T 5) (T 6) (T 7) (T 8)) ++ iaX cI (rf 6) 6 g))) (fun _ => (pm_cnt (fun _ => by simp only [List.countP_append, List.countP_nil, fT] <;> omega))) (fun _ Hp locs hP hD hS => ?_)
              have hP : va_P D vwCl (mX mr rf st ln 0 pl hs vs dg xx ++ qX cI (rf 0) (T 0 0) (T 0 1) (T 0 2) (T 0 3) (T 0 4) (T 0 5) (T 1) (T 2) (T 3) (T 4) (T 5) (T 6) (T 7) (T 8) ++ iaX cI (rf 1) 100 (qN (T 0 0) (T 0 1) (T 0 2) (T 0 3) (T 0 4) (T 0 5) (T 1) (T 2) (T 3) (T 4) (T 5) (T 6) (T 7) (T 8)) ++ iaX cI (rf 6) 6 g) _ := hP
              have hD : va_D A (mX mr rf st ln 0 pl hs vs dg xx ++ qX cI (rf 0) (T 0 0) (T 0 1) (T 0 2) (T 0 3) (T 0 4) (T 0 5) (T 1) (T 2) (T 3) (T 4) (T 5) (T 6) (T 7) (T 8) ++ iaX cI (rf 1) 100 (qN (T 0 0) (T 0 1) (T 0 2) (T 0 3) (T 0 4) (T 0 5) (T 1) (T 2) (T 3) (T 4) (T 5) (T 6) (T 7) (T 8)) ++ iaX cI (rf 6) 6 g) := hD
              refine lv_bipush (v := ((-9))) hx hb dX9_runScript_69 (by decide) ?_
              refine lv_istore (lv' := [(6, .int ((-9))), (4, .long (lN u)), (0, .ref mr), (1, .int (nI n)), (2, .long (lN S))]) hx hb dX9_runScript_71 hl (by decide) rfl (fun ls hl => ?_)
              refine lv_iconst (v := (nI 0)) hx hb dX9_runScript_73 (by decide) ?_
              refine lv_istore (lv' := [(7, .int (nI 0)), (6, .int ((-9))), (4, .long (lN u)), (0, .ref mr), (1, .int (nI n)), (2, .long (lN S))]) hx hb dX9_runScript_74 hl (by decide) rfl (fun ls hl => ?_)
              have loop_76 : ∀ (dd : Nat) (j : Nat) (fl : Int32) (w : Nat) (t : Nat → Nat → Nat) (yg : Nat → Nat), (j ≤ n) → (w = 10000 ^ (n - j)) → (FI t) → ((fl = (-9) ∧ t = scT T S n j ∧ scF T S n n 0 = scF T S n (n - j) j) ∨ (¬ fl < 0 ∧ scF T S n n 0 = fl)) → (n - j) < dd → ∀ (Hp : Heap) (locs : List Loc), va_P D vwCl (mX mr rf st ln 0 pl hs vs dg xx ++ qX cI (rf 0) (t 0 0) (t 0 1) (t 0 2) (t 0 3) (t 0 4) (t 0 5) (t 1) (t 2) (t 3) (t 4) (t 5) (t 6) (t 7) (t 8) ++ iaX cI (rf 1) 100 (qN (T 0 0) (T 0 1) (T 0 2) (T 0 3) (T 0 4) (T 0 5) (T 1) (T 2) (T 3) (T 4) (T 5) (T 6) (T 7) (T 8)) ++ iaX cI (rf 6) 6 yg) Hp → va_D A (mX mr rf st ln 0 pl hs vs dg xx ++ qX cI (rf 0) (t 0 0) (t 0 1) (t 0 2) (t 0 3) (t 0 4) (t 0 5) (t 1) (t 2) (t 3) (t 4) (t 5) (t 6) (t 7) (t 8) ++ iaX cI (rf 1) 100 (qN (T 0 0) (T 0 1) (T 0 2) (T 0 3) (T 0 4) (T 0 5) (T 1) (T 2) (T 3) (T 4) (T 5) (T 6) (T 7) (T 8)) ++ iaX cI (rf 6) 6 yg) → va_S A s.heap Hp locs → ∀ ls : Array Slot, lv_has ls 8 [(7, .int (nI j)), (6, .int fl), (4, .long (lN w)), (0, .ref mr), (1, .int (nI n)), (2, .long (lN S))] → W p l e (rmF 7 173) s m args below meth c Hp locs 0 0 (MQ below (CQ D (some (.int (scF T S n n 0))) (fun u : (Nat → Nat) => (mX mr rf st ln 0 pl hs vs dg xx ++ qX cI (rf 0) (T 0 0) (T 0 1) (T 0 2) (T 0 3) (T 0 4) (T 0 5) (T 1) (T 2) (T 3) (T 4) (T 5) (T 6) (T 7) (T 8) ++ iaX cI (rf 1) 100 (qN (T 0 0) (T 0 1) (T 0 2) (T 0 3) (T 0 4) (T 0 5) (T 1) (T 2) (T 3) (T 4) (T 5) (T 6) (T 7) (T 8)) ++ iaX cI (rf 6) 6 u)) A) args s 0 0 A) (F0 m 76 ls []) := by
                intro dd
                induction dd with
                | zero => intro j fl w t yg hj ew hF hsr hm; exact absurd hm (Nat.not_lt_zero _)
                | succ dd ih_76 =>
                  intro j fl w t yg hj ew hF hsr hm Hp locs hP hD hS ls hl
                  refine lv_iload hx hb dX9_runScript_76 (lv_at hl 0 rfl) ?_
                  refine lv_iload_n hx hb dX9_runScript_78 rfl (lv_at hl 4 rfl) ?_
                  refine lv_icmp_ge (tgt := 126) hx hb dX9_runScript_79 (by decide) (fun c_79 => ?_) (fun c_79 => ?_)
                  · skip
                    replace c_79 := cn_le (by omega) (by omega) c_79
                    refine lv_aload_n hx hb dX9_runScript_126 rfl (lv_at hl 3 rfl) ?_
                    have hP : va_P D vwCl (mX mr rf st ln 0 pl hs vs dg xx ++ iaX cI (rf 0) 100 (qN (t 0 0) (t 0 1) (t 0 2) (t 0 3) (t 0 4) (t 0 5) (t 1) (t 2) (t 3) (t 4) (t 5) (t 6) (t 7) (t 8)) ++ iaX cI (rf 1) 100 (qN (T 0 0) (T 0 1) (T 0 2) (T 0 3) (T 0 4) (T 0 5) (T 1) (T 2) (T 3) (T 4) (T 5) (T 6) (T 7) (T 8)) ++ iaX cI (rf 6) 6 yg) _ := hP
                    have hD : va_D A (mX mr rf st ln 0 pl hs vs dg xx ++ iaX cI (rf 0) 100 (qN (t 0 0) (t 0 1) (t 0 2) (t 0 3) (t 0 4) (t 0 5) (t 1) (t 2) (t 3) (t 4) (t 5) (t 6) (t 7) (t 8)) ++ iaX cI (rf 1) 100 (qN (T 0 0) (T 0 1) (T 0 2) (T 0 3) (T 0 4) (T 0 5) (T 1) (T 2) (T 3) (T 4) (T 5) (T 6) (T 7) (T 8)) ++ iaX cI (rf 6) 6 yg) := hD
                    refine gp_V (ci := 9) (q0 := 0) (cq := (RX9, TX9, 15)) (c_X9_bringBack l D cI cZ cF cL mr rf st ln 0 pl hs vs dg xx (qN (t 0 0) (t 0 1) (t 0 2) (t 0 3) (t 0 4) (t 0 5) (t 1) (t 2) (t 3) (t 4) (t 5) (t 6) (t 7) (t 8)) (qN (T 0 0) (T 0 1) (T 0 2) (T 0 3) (T 0 4) (T 0 5) (T 1) (T 2) (T 3) (T 4) (T 5) (T 6) (T 7) (T 8)) ) (gUV u_741 u_742 u_743 u_5 u_744) rfl hdV_X9_bringBack ⟨Nat.le_of_ble_eq_true rfl, Nat.le_of_ble_eq_true rfl⟩ ⟨rfl, rfl⟩ hx hb hml hown hts hK hA hP hD hS hl.1 ⟨Nat.le_of_ble_eq_true rfl, Nat.le_of_ble_eq_true rfl⟩ rfl rfl rfl (wr := (iaX cI (rf 6) 6 yg)) (pm_cnt (fun _ => by simp only [List.countP_append, List.countP_nil, fT] <;> omega)) (fun _ => by simp only [List.map_append, List.map_nil, fX_m, bX_m, sX_m, pX_m, iaX_m, r5X_m, r6X_m, fT_m, hX_m, tX_m, xX_m, sgX_m, zaX_m, fsB_a, qX_m, mX_m]) (rest := []) rfl rfl (Nat.le_of_ble_eq_true rfl) dX9_runScript_127 (ws2 := (fun _ : Unit => (mX mr rf st ln 0 pl hs vs dg xx ++ iaX cI (rf 0) 100 (qN (T 0 0) (T 0 1) (T 0 2) (T 0 3) (T 0 4) (T 0 5) (T 1) (T 2) (T 3) (T 4) (T 5) (T 6) (T 7) (T 8)) ++ iaX cI (rf 1) 100 (qN (T 0 0) (T 0 1) (T 0 2) (T 0 3) (T 0 4) (T 0 5) (T 1) (T 2) (T 3) (T 4) (T 5) (T 6) (T 7) (T 8)) ++ iaX cI (rf 6) 6 yg))) (fun _ => (pm_cnt (fun _ => by simp only [List.countP_append, List.countP_nil, fT] <;> omega))) (fun _ Hp locs hP hD hS => ?_)
                    have hP : va_P D vwCl (mX mr rf st ln 0 pl hs vs dg xx ++ qX cI (rf 0) (T 0 0) (T 0 1) (T 0 2) (T 0 3) (T 0 4) (T 0 5) (T 1) (T 2) (T 3) (T 4) (T 5) (T 6) (T 7) (T 8) ++ iaX cI (rf 1) 100 (qN (T 0 0) (T 0 1) (T 0 2) (T 0 3) (T 0 4) (T 0 5) (T 1) (T 2) (T 3) (T 4) (T 5) (T 6) (T 7) (T 8)) ++ iaX cI (rf 6) 6 yg) _ := hP
                    have hD : va_D A (mX mr rf st ln 0 pl hs vs dg xx ++ qX cI (rf 0) (T 0 0) (T 0 1) (T 0 2) (T 0 3) (T 0 4) (T 0 5) (T 1) (T 2) (T 3) (T 4) (T 5) (T 6) (T 7) (T 8) ++ iaX cI (rf 1) 100 (qN (T 0 0) (T 0 1) (T 0 2) (T 0 3) (T 0 4) (T 0 5) (T 1) (T 2) (T 3) (T 4) (T 5) (T 6) (T 7) (T 8)) ++ iaX cI (rf 6) 6 yg) := hD
                    refine lv_iload hx hb dX9_runScript_130 (lv_at hl 1 rfl) ?_
                    exact ct_i (yg) hx hb hr hlocks hP hS (by rcases hsr with ⟨s1, s2, s3⟩ | ⟨s1, s2⟩; (first | (rw [s3, show n - j = 0 by omega, s1]; rfl) | (exfalso; rw [s1] at c_84; exact absurd c_84 (by decide))); exact s2.symm) dX9_runScript_132
                  · skip
                    replace c_79 := cn_nle (by omega) (by omega) c_79
                    refine lv_iload hx hb dX9_runScript_82 (lv_at hl 1 rfl) ?_
                    refine lv_if_ge (tgt := 126) hx hb dX9_runScript_84 (by decide) (fun c_84 => ?_) (fun c_84 => ?_)
                    · skip
                      refine lv_aload_n hx hb dX9_runScript_126 rfl (lv_at hl 3 rfl) ?_
                      have hP : va_P D vwCl (mX mr rf st ln 0 pl hs vs dg xx ++ iaX cI (rf 0) 100 (qN (t 0 0) (t 0 1) (t 0 2) (t 0 3) (t 0 4) (t 0 5) (t 1) (t 2) (t 3) (t 4) (t 5) (t 6) (t 7) (t 8)) ++ iaX cI (rf 1) 100 (qN (T 0 0) (T 0 1) (T 0 2) (T 0 3) (T 0 4) (T 0 5) (T 1) (T 2) (T 3) (T 4) (T 5) (T 6) (T 7) (T 8)) ++ iaX cI (rf 6) 6 yg) _ := hP
                      have hD : va_D A (mX mr rf st ln 0 pl hs vs dg xx ++ iaX cI (rf 0) 100 (qN (t 0 0) (t 0 1) (t 0 2) (t 0 3) (t 0 4) (t 0 5) (t 1) (t 2) (t 3) (t 4) (t 5) (t 6) (t 7) (t 8)) ++ iaX cI (rf 1) 100 (qN (T 0 0) (T 0 1) (T 0 2) (T 0 3) (T 0 4) (T 0 5) (T 1) (T 2) (T 3) (T 4) (T 5) (T 6) (T 7) (T 8)) ++ iaX cI (rf 6) 6 yg) := hD
                      refine gp_V (ci := 9) (q0 := 0) (cq := (RX9, TX9, 15)) (c_X9_bringBack l D cI cZ cF cL mr rf st ln 0 pl hs vs dg xx (qN (t 0 0) (t 0 1) (t 0 2) (t 0 3) (t 0 4) (t 0 5) (t 1) (t 2) (t 3) (t 4) (t 5) (t 6) (t 7) (t 8)) (qN (T 0 0) (T 0 1) (T 0 2) (T 0 3) (T 0 4) (T 0 5) (T 1) (T 2) (T 3) (T 4) (T 5) (T 6) (T 7) (T 8)) ) (gUV u_741 u_742 u_743 u_5 u_744) rfl hdV_X9_bringBack ⟨Nat.le_of_ble_eq_true rfl, Nat.le_of_ble_eq_true rfl⟩ ⟨rfl, rfl⟩ hx hb hml hown hts hK hA hP hD hS hl.1 ⟨Nat.le_of_ble_eq_true rfl, Nat.le_of_ble_eq_true rfl⟩ rfl rfl rfl (wr := (iaX cI (rf 6) 6 yg)) (pm_cnt (fun _ => by simp only [List.countP_append, List.countP_nil, fT] <;> omega)) (fun _ => by simp only [List.map_append, List.map_nil, fX_m, bX_m, sX_m, pX_m, iaX_m, r5X_m, r6X_m, fT_m, hX_m, tX_m, xX_m, sgX_m, zaX_m, fsB_a, qX_m, mX_m]) (rest := []) rfl rfl (Nat.le_of_ble_eq_true rfl) dX9_runScript_127 (ws2 := (fun _ : Unit => (mX mr rf st ln 0 pl hs vs dg xx ++ iaX cI (rf 0) 100 (qN (T 0 0) (T 0 1) (T 0 2) (T 0 3) (T 0 4) (T 0 5) (T 1) (T 2) (T 3) (T 4) (T 5) (T 6) (T 7) (T 8)) ++ iaX cI (rf 1) 100 (qN (T 0 0) (T 0 1) (T 0 2) (T 0 3) (T 0 4) (T 0 5) (T 1) (T 2) (T 3) (T 4) (T 5) (T 6) (T 7) (T 8)) ++ iaX cI (rf 6) 6 yg))) (fun _ => (pm_cnt (fun _ => by simp only [List.countP_append, List.countP_nil, fT] <;> omega))) (fun _ Hp locs hP hD hS => ?_)
                      have hP : va_P D vwCl (mX mr rf st ln 0 pl hs vs dg xx ++ qX cI (rf 0) (T 0 0) (T 0 1) (T 0 2) (T 0 3) (T 0 4) (T 0 5) (T 1) (T 2) (T 3) (T 4) (T 5) (T 6) (T 7) (T 8) ++ iaX cI (rf 1) 100 (qN (T 0 0) (T 0 1) (T 0 2) (T 0 3) (T 0 4) (T 0 5) (T 1) (T 2) (T 3) (T 4) (T 5) (T 6) (T 7) (T 8)) ++ iaX cI (rf 6) 6 yg) _ := hP
                      have hD : va_D A (mX mr rf st ln 0 pl hs vs dg xx ++ qX cI (rf 0) (T 0 0) (T 0 1) (T 0 2) (T 0 3) (T 0 4) (T 0 5) (T 1) (T 2) (T 3) (T 4) (T 5) (T 6) (T 7) (T 8) ++ iaX cI (rf 1) 100 (qN (T 0 0) (T 0 1) (T 0 2) (T 0 3) (T 0 4) (T 0 5) (T 1) (T 2) (T 3) (T 4) (T 5) (T 6) (T 7) (T 8)) ++ iaX cI (rf 6) 6 yg) := hD
                      refine lv_iload hx hb dX9_runScript_130 (lv_at hl 1 rfl) ?_
                      exact ct_i (yg) hx hb hr hlocks hP hS (by rcases hsr with ⟨s1, s2, s3⟩ | ⟨s1, s2⟩; (first | (rw [s3, show n - j = 0 by omega, s1]; rfl) | (exfalso; rw [s1] at c_84; exact absurd c_84 (by decide))); exact s2.symm) dX9_runScript_132
                    · skip
                      obtain ⟨s1, s2, s3⟩ : fl = (-9) ∧ t = scT T S n j ∧ scF T S n n 0 = scF T S n (n - j) j := hsr.elim id (fun q => absurd (Int32.not_le.mp c_84) q.1)
                      refine lv_lload hx hb dX9_runScript_87 (lv_at hl 2 rfl) ?_
                      refine lv_ldc2 (v := (10000)) hx hb hown (hts _ (kU u_861)) dX9_runScript_89 ?_
                      rw [show ((10000) : Int64) = lN 10000 from by decide +kernel]
                      refine lv_ldiv hx hb dX9_runScript_92 (by decide +kernel) ?_
                      rw [pk_lDiv (a := w) (b := 10000) (by rw [ew]; exact Nat.lt_of_le_of_lt (Nat.pow_le_pow_right (by decide) (by omega)) hu4) (by decide) (by decide)]
                      rw [show (lN (w / 10000)) = (lN (10000 ^ (n - 1 - j))) from (congrArg lN (by rw [ew]; exact u_dv c_79))]
                      refine lv_lstore (lv' := [(4, .long (lN (10000 ^ (n - 1 - j)))), (7, .int (nI j)), (6, .int fl), (0, .ref mr), (1, .int (nI n)), (2, .long (lN S))]) hx hb dX9_runScript_93 hl (by decide) rfl (fun ls hl => ?_)
                      have hw0 : 0 < 10000 ^ (n - 1 - j) := Nat.pow_pos (by decide)
                      have hw1 : 10000 ^ (n - 1 - j) < 2 ^ 63 := Nat.lt_of_le_of_lt (Nat.pow_le_pow_right (by decide) (by omega)) hu4
                      have hg9 : grC S n j < 10000 := Nat.mod_lt _ (by decide)
                      refine lv_aload_n hx hb dX9_runScript_95 rfl (lv_at hl 3 rfl) ?_
                      refine lv_lload_n hx hb dX9_runScript_96 rfl (lv_at hl 5 rfl) ?_
                      refine lv_lload hx hb dX9_runScript_97 (lv_at hl 0 rfl) ?_
                      refine lv_ldiv hx hb dX9_runScript_99 (lN_ne0 hw0 hw1) ?_
                      rw [pk_lDiv (a := S) (b := 10000 ^ (n - 1 - j)) hS0 hw0 hw1]
                      refine lv_ldc2 (v := (10000)) hx hb hown (hts _ (kU u_861)) dX9_runScript_100 ?_
                      rw [show ((10000) : Int64) = lN 10000 from by decide +kernel]
                      refine lv_lrem hx hb dX9_runScript_103 (by decide +kernel) ?_
                      rw [pk_lRem (a := S / (10000 ^ (n - 1 - j))) (b := 10000) (Nat.lt_of_le_of_lt (Nat.div_le_self _ _) hS0) (by decide) (by decide)]
                      refine lv_l2i (v := nI ((S / (10000 ^ (n - 1 - j))) % 10000)) hx hb dX9_runScript_104 (lN_i _) ?_
                      rw [show (nI ((S / (10000 ^ (n - 1 - j))) % 10000)) = (nI (grC S n j)) from rfl]
                      refine gp_V (ci := 9) (q0 := 0) (cq := (RX9, TX9, 15)) (c_X9_succeeds l D cI cZ cF cL mr rf st ln 0 pl hs vs dg xx t yg (grC S n j) hF hg9) (gUV u_862 u_863 u_864 u_5 u_865) rfl hdV_X9_succeeds ⟨Nat.le_of_ble_eq_true rfl, Nat.le_of_ble_eq_true rfl⟩ ⟨rfl, rfl⟩ hx hb hml hown hts hK hA hP hD hS hl.1 ⟨Nat.le_of_ble_eq_true rfl, Nat.le_of_ble_eq_true rfl⟩ rfl rfl rfl (wr := (iaX cI (rf 1) 100 (qN (T 0 0) (T 0 1) (T 0 2) (T 0 3) (T 0 4) (T 0 5) (T 1) (T 2) (T 3) (T 4) (T 5) (T 6) (T 7) (T 8)))) (pm_cnt (fun _ => by simp only [List.countP_append, List.countP_nil, fT] <;> omega)) (fun _ => by simp only [List.map_append, List.map_nil, fX_m, bX_m, sX_m, pX_m, iaX_m, r5X_m, r6X_m, fT_m, hX_m, tX_m, xX_m, sgX_m, zaX_m, fsB_a, qX_m, mX_m]) (rest := []) rfl rfl (Nat.le_of_ble_eq_true rfl) dX9_runScript_105 (ws2 := (fun u_105 : (Nat → Nat) => (mX mr rf st ln 0 pl hs vs dg xx ++ qX cI (rf 0) ((doG t (grC S n j)) 0 0) ((doG t (grC S n j)) 0 1) ((doG t (grC S n j)) 0 2) ((doG t (grC S n j)) 0 3) ((doG t (grC S n j)) 0 4) ((doG t (grC S n j)) 0 5) ((doG t (grC S n j)) 1) ((doG t (grC S n j)) 2) ((doG t (grC S n j)) 3) ((doG t (grC S n j)) 4) ((doG t (grC S n j)) 5) ((doG t (grC S n j)) 6) ((doG t (grC S n j)) 7) ((doG t (grC S n j)) 8) ++ iaX cI (rf 1) 100 (qN (T 0 0) (T 0 1) (T 0 2) (T 0 3) (T 0 4) (T 0 5) (T 1) (T 2) (T 3) (T 4) (T 5) (T 6) (T 7) (T 8)) ++ iaX cI (rf 6) 6 u_105))) (fun _ => (pm_cnt (fun _ => by simp only [List.countP_append, List.countP_nil, fT] <;> omega))) (fun u_105 Hp locs hP hD hS => ?_)
                      refine lv_if_eq (tgt := 116) hx hb dX9_runScript_108 (by decide) (fun c_108 => ?_) (fun c_108 => ?_)
                      · skip
                        replace c_108 := cb_z c_108
                        have hnx : (nI j = (-9) ∧ doG t (grC S n j) = scT T S n (j + 1) ∧ scF T S n n 0 = scF T S n (n - (j + 1)) (j + 1)) ∨ (¬ nI j < 0 ∧ scF T S n n 0 = nI j) := Or.inr ⟨fun q => absurd (cn_lt (b := 0) (by omega) (by decide) q) (Nat.not_lt_zero _), by rw [s3]; exact scF_stop c_79 (by rw [← s2]; exact c_108)⟩
                        refine lv_iload hx hb dX9_runScript_116 (lv_at hl 1 rfl) ?_
                        clear hw0 hw1 hg9 ew hu4 hz hS0 eu
                        refine lv_istore (lv' := [(6, .int (nI j)), (4, .long (lN (10000 ^ (n - 1 - j)))), (7, .int (nI j)), (0, .ref mr), (1, .int (nI n)), (2, .long (lN S))]) hx hb dX9_runScript_118 hl (by decide) rfl (fun ls hl => ?_)
                        refine lv_iinc (v := (nI (j + 1))) (lv' := [(7, .int (nI (j + 1))), (6, .int (nI j)), (4, .long (lN (10000 ^ (n - 1 - j)))), (0, .ref mr), (1, .int (nI n)), (2, .long (lN S))]) hx hb dX9_runScript_120 hl (k := 2) rfl (nI_add j 1) (by decide) rfl (fun ls hl => ?_)
                        refine lv_goto (tgt := 76) hx hb dX9_runScript_123 (by decide) ?_
                        exact ih_76 (j + 1) ((nI j)) (10000 ^ (n - 1 - j)) (doG t (grC S n j)) u_105 (Nat.succ_le_of_lt c_79) (by rw [Nat.sub_sub, Nat.add_comm 1 j]) (FI_do hF (Nat.le_of_lt_succ (Nat.mod_lt _ (by decide)))) hnx (Nat.lt_of_lt_of_le (Nat.sub_lt_sub_left c_79 (Nat.lt_succ_self j)) (Nat.le_of_lt_succ hm)) _ _ hP hD hS _ (lv_sub hl [0, 1, 2, 3, 4, 5] rfl)
                      · skip
                        replace c_108 := cb_nz c_108
                        have hnx : (fl = (-9) ∧ doG t (grC S n j) = scT T S n (j + 1) ∧ scF T S n n 0 = scF T S n (n - (j + 1)) (j + 1)) ∨ (¬ fl < 0 ∧ scF T S n n 0 = fl) := Or.inl ⟨s1, by rw [s2]; rfl, by rw [s3]; exact scF_go c_79 (by rw [← s2]; exact c_108)⟩
                        refine lv_iload hx hb dX9_runScript_111 (lv_at hl 2 rfl) ?_
                        refine lv_goto (tgt := 118) hx hb dX9_runScript_113 (by decide) ?_
                        clear hw0 hw1 hg9 ew hu4 hz hS0 eu
                        refine lv_istore (lv' := [(6, .int fl), (4, .long (lN (10000 ^ (n - 1 - j)))), (7, .int (nI j)), (0, .ref mr), (1, .int (nI n)), (2, .long (lN S))]) hx hb dX9_runScript_118 hl (by decide) rfl (fun ls hl => ?_)
                        refine lv_iinc (v := (nI (j + 1))) (lv' := [(7, .int (nI (j + 1))), (6, .int fl), (4, .long (lN (10000 ^ (n - 1 - j)))), (0, .ref mr), (1, .int (nI n)), (2, .long (lN S))]) hx hb dX9_runScript_120 hl (k := 2) rfl (nI_add j 1) (by decide) rfl (fun ls hl => ?_)
                        refine lv_goto (tgt := 76) hx hb dX9_runScript_123 (by decide) ?_
                        exact ih_76 (j + 1) fl (10000 ^ (n - 1 - j)) (doG t (grC S n j)) u_105 (Nat.succ_le_of_lt c_79) (by rw [Nat.sub_sub, Nat.add_comm 1 j]) (FI_do hF (Nat.le_of_lt_succ (Nat.mod_lt _ (by decide)))) hnx (Nat.lt_of_lt_of_le (Nat.sub_lt_sub_left c_79 (Nat.lt_succ_self j)) (Nat.le_of_lt_succ hm)) _ _ hP hD hS _ (lv_sub hl [0, 1, 2, 3, 4, 5] rfl)
              exact loop_76 ((n - 0) + 1) 0 (((-9))) u T g (Nat.zero_le _) (by rw [eu, hkn, Nat.sub_zero]) hT (Or.inl ⟨rfl, rfl, rfl⟩) (Nat.lt_succ_self _) _ _ hP hD hS _ (lv_sub hl [0, 1, 2, 3, 4, 5] rfl)
            · skip
              (exact absurd ((lcm_lt hS0 (by rw [eu, hkn]; exact hu4)).mpr (by rw [eu, hkn]; exact u_z hz)) c_56)
      · skip
        replace c_14 := cn_nle (by omega) (by omega) c_14
        refine lv_iload hx hb dX9_runScript_17 (lv_at hl 0 rfl) ?_
        refine lv_iconst (v := (nI 4)) hx hb dX9_runScript_19 (by decide) ?_
        refine lv_icmp_ge (tgt := 37) hx hb dX9_runScript_20 (by decide) (fun c_20 => ?_) (fun c_20 => ?_)
        · skip
          replace c_20 := cn_le (by omega) (by omega) c_20
          have hkn : k = n := by omega
          have hu4 := u_lt hn4
          refine lv_iload_n hx hb dX9_runScript_37 rfl (lv_at hl 3 rfl) ?_
          refine lv_iconst (v := (nI 1)) hx hb dX9_runScript_38 (by decide) ?_
          refine lv_iconst (v := (nI 4)) hx hb dX9_runScript_39 (by decide) ?_
          refine gp_S (c_X9_in l D cI cZ cF cL ((nI n)) ((nI 1)) ((nI 4)) ) (gUS u_140 u_141 u_5 u_142) rfl hdS_X9_in ⟨Nat.le_of_ble_eq_true rfl, Nat.le_of_ble_eq_true rfl⟩ ⟨rfl, rfl⟩ hx hb hml hown hts hK hA hP hD hS hl.1 ⟨Nat.le_of_ble_eq_true rfl, Nat.le_of_ble_eq_true rfl⟩ (wr := (mX mr rf st ln 0 pl hs vs dg xx ++ qX cI (rf 0) (T 0 0) (T 0 1) (T 0 2) (T 0 3) (T 0 4) (T 0 5) (T 1) (T 2) (T 3) (T 4) (T 5) (T 6) (T 7) (T 8) ++ iaX cI (rf 1) 100 h1 ++ iaX cI (rf 6) 6 g)) (pm_cnt (fun _ => by simp only [List.countP_append, List.countP_nil, fT] <;> omega)) (fun _ => by simp only [List.map_append, List.map_nil, fX_m, bX_m, sX_m, pX_m, iaX_m, r5X_m, r6X_m, fT_m, hX_m, tX_m, xX_m, sgX_m, zaX_m, fsB_a, qX_m, mX_m]) (rest := []) rfl rfl (Nat.le_of_ble_eq_true rfl) dX9_runScript_40 (ws2 := (fun _ : Unit => (mX mr rf st ln 0 pl hs vs dg xx ++ qX cI (rf 0) (T 0 0) (T 0 1) (T 0 2) (T 0 3) (T 0 4) (T 0 5) (T 1) (T 2) (T 3) (T 4) (T 5) (T 6) (T 7) (T 8) ++ iaX cI (rf 1) 100 h1 ++ iaX cI (rf 6) 6 g))) (fun _ => (pm_cnt (fun _ => by simp only [List.countP_append, List.countP_nil, fT] <;> omega))) (fun _ Hp locs hP hD hS => ?_)
          refine lv_if_eq (tgt := 59) hx hb dX9_runScript_43 (by decide) (fun c_43 => ?_) (fun c_43 => ?_)
          · skip
            replace c_43 := cb_z c_43
            (exact absurd ((in_n (by omega) (by decide) (by decide)).mpr ⟨by omega, by omega⟩) c_43)
          · skip
            replace c_43 := cb_nz c_43
            refine lv_lload_n hx hb dX9_runScript_46 rfl (lv_at hl 4 rfl) ?_
            refine lv_lconst (v := 0) hx hb dX9_runScript_47 (by decide) ?_
            refine W.lcmp hx hb dX9_runScript_48 ?_
            refine lv_if_lt (tgt := 59) hx hb dX9_runScript_49 (by decide) (fun c_49 => ?_) (fun c_49 => ?_)
            · skip
              (exact absurd c_49 (lc_n hS0))
            · skip
              refine lv_lload_n hx hb dX9_runScript_52 rfl (lv_at hl 4 rfl) ?_
              refine lv_lload hx hb dX9_runScript_53 (lv_at hl 1 rfl) ?_
              refine W.lcmp hx hb dX9_runScript_55 ?_
              refine lv_if_lt (tgt := 65) hx hb dX9_runScript_56 (by decide) (fun c_56 => ?_) (fun c_56 => ?_)
              · skip
                refine lv_aload_n hx hb dX9_runScript_65 rfl (lv_at hl 2 rfl) ?_
                have hP : va_P D vwCl (mX mr rf st ln 0 pl hs vs dg xx ++ iaX cI (rf 0) 100 (qN (T 0 0) (T 0 1) (T 0 2) (T 0 3) (T 0 4) (T 0 5) (T 1) (T 2) (T 3) (T 4) (T 5) (T 6) (T 7) (T 8)) ++ iaX cI (rf 1) 100 h1 ++ iaX cI (rf 6) 6 g) _ := hP
                have hD : va_D A (mX mr rf st ln 0 pl hs vs dg xx ++ iaX cI (rf 0) 100 (qN (T 0 0) (T 0 1) (T 0 2) (T 0 3) (T 0 4) (T 0 5) (T 1) (T 2) (T 3) (T 4) (T 5) (T 6) (T 7) (T 8)) ++ iaX cI (rf 1) 100 h1 ++ iaX cI (rf 6) 6 g) := hD
                refine gp_V (ci := 9) (q0 := 0) (cq := (RX9, TX9, 15)) (c_X9_keep l D cI cZ cF cL mr rf st ln 0 pl hs vs dg xx (qN (T 0 0) (T 0 1) (T 0 2) (T 0 3) (T 0 4) (T 0 5) (T 1) (T 2) (T 3) (T 4) (T 5) (T 6) (T 7) (T 8)) h1 ) (gUV u_737 u_738 u_739 u_5 u_740) rfl hdV_X9_keep ⟨Nat.le_of_ble_eq_true rfl, Nat.le_of_ble_eq_true rfl⟩ ⟨rfl, rfl⟩ hx hb hml hown hts hK hA hP hD hS hl.1 ⟨Nat.le_of_ble_eq_true rfl, Nat.le_of_ble_eq_true rfl⟩ rfl rfl rfl (wr := (iaX cI (rf 6) 6 g)) (pm_cnt (fun _ => by simp only [List.countP_append, List.countP_nil, fT] <;> omega)) (fun _ => by simp only [List.map_append, List.map_nil, fX_m, bX_m, sX_m, pX_m, iaX_m, r5X_m, r6X_m, fT_m, hX_m, tX_m, xX_m, sgX_m, zaX_m, fsB_a, qX_m, mX_m]) (rest := []) rfl rfl (Nat.le_of_ble_eq_true rfl) dX9_runScript_66 (ws2 := (fun _ : Unit => (mX mr rf st ln 0 pl hs vs dg xx ++ iaX cI (rf 0) 100 (qN (T 0 0) (T 0 1) (T 0 2) (T 0 3) (T 0 4) (T 0 5) (T 1) (T 2) (T 3) (T 4) (T 5) (T 6) (T 7) (T 8)) ++ iaX cI (rf 1) 100 (qN (T 0 0) (T 0 1) (T 0 2) (T 0 3) (T 0 4) (T 0 5) (T 1) (T 2) (T 3) (T 4) (T 5) (T 6) (T 7) (T 8)) ++ iaX cI (rf 6) 6 g))) (fun _ => (pm_cnt (fun _ => by simp only [List.countP_append, List.countP_nil, fT] <;> omega))) (fun _ Hp locs hP hD hS => ?_)
                have hP : va_P D vwCl (mX mr rf st ln 0 pl hs vs dg xx ++ qX cI (rf 0) (T 0 0) (T 0 1) (T 0 2) (T 0 3) (T 0 4) (T 0 5) (T 1) (T 2) (T 3) (T 4) (T 5) (T 6) (T 7) (T 8) ++ iaX cI (rf 1) 100 (qN (T 0 0) (T 0 1) (T 0 2) (T 0 3) (T 0 4) (T 0 5) (T 1) (T 2) (T 3) (T 4) (T 5) (T 6) (T 7) (T 8)) ++ iaX cI (rf 6) 6 g) _ := hP
                have hD : va_D A (mX mr rf st ln 0 pl hs vs dg xx ++ qX cI (rf 0) (T 0 0) (T 0 1) (T 0 2) (T 0 3) (T 0 4) (T 0 5) (T 1) (T 2) (T 3) (T 4) (T 5) (T 6) (T 7) (T 8) ++ iaX cI (rf 1) 100 (qN (T 0 0) (T 0 1) (T 0 2) (T 0 3) (T 0 4) (T 0 5) (T 1) (T 2) (T 3) (T 4) (T 5) (T 6) (T 7) (T 8)) ++ iaX cI (rf 6) 6 g) := hD
                refine lv_bipush (v := ((-9))) hx hb dX9_runScript_69 (by decide) ?_
                refine lv_istore (lv' := [(6, .int ((-9))), (4, .long (lN u)), (0, .ref mr), (1, .int (nI n)), (2, .long (lN S))]) hx hb dX9_runScript_71 hl (by decide) rfl (fun ls hl => ?_)
                refine lv_iconst (v := (nI 0)) hx hb dX9_runScript_73 (by decide) ?_
                refine lv_istore (lv' := [(7, .int (nI 0)), (6, .int ((-9))), (4, .long (lN u)), (0, .ref mr), (1, .int (nI n)), (2, .long (lN S))]) hx hb dX9_runScript_74 hl (by decide) rfl (fun ls hl => ?_)
                have loop_76 : ∀ (dd : Nat) (j : Nat) (fl : Int32) (w : Nat) (t : Nat → Nat → Nat) (yg : Nat → Nat), (j ≤ n) → (w = 10000 ^ (n - j)) → (FI t) → ((fl = (-9) ∧ t = scT T S n j ∧ scF T S n n 0 = scF T S n (n - j) j) ∨ (¬ fl < 0 ∧ scF T S n n 0 = fl)) → (n - j) < dd → ∀ (Hp : Heap) (locs : List Loc), va_P D vwCl (mX mr rf st ln 0 pl hs vs dg xx ++ qX cI (rf 0) (t 0 0) (t 0 1) (t 0 2) (t 0 3) (t 0 4) (t 0 5) (t 1) (t 2) (t 3) (t 4) (t 5) (t 6) (t 7) (t 8) ++ iaX cI (rf 1) 100 (qN (T 0 0) (T 0 1) (T 0 2) (T 0 3) (T 0 4) (T 0 5) (T 1) (T 2) (T 3) (T 4) (T 5) (T 6) (T 7) (T 8)) ++ iaX cI (rf 6) 6 yg) Hp → va_D A (mX mr rf st ln 0 pl hs vs dg xx ++ qX cI (rf 0) (t 0 0) (t 0 1) (t 0 2) (t 0 3) (t 0 4) (t 0 5) (t 1) (t 2) (t 3) (t 4) (t 5) (t 6) (t 7) (t 8) ++ iaX cI (rf 1) 100 (qN (T 0 0) (T 0 1) (T 0 2) (T 0 3) (T 0 4) (T 0 5) (T 1) (T 2) (T 3) (T 4) (T 5) (T 6) (T 7) (T 8)) ++ iaX cI (rf 6) 6 yg) → va_S A s.heap Hp locs → ∀ ls : Array Slot, lv_has ls 8 [(7, .int (nI j)), (6, .int fl), (4, .long (lN w)), (0, .ref mr), (1, .int (nI n)), (2, .long (lN S))] → W p l e (rmF 7 173) s m args below meth c Hp locs 0 0 (MQ below (CQ D (some (.int (scF T S n n 0))) (fun u : (Nat → Nat) => (mX mr rf st ln 0 pl hs vs dg xx ++ qX cI (rf 0) (T 0 0) (T 0 1) (T 0 2) (T 0 3) (T 0 4) (T 0 5) (T 1) (T 2) (T 3) (T 4) (T 5) (T 6) (T 7) (T 8) ++ iaX cI (rf 1) 100 (qN (T 0 0) (T 0 1) (T 0 2) (T 0 3) (T 0 4) (T 0 5) (T 1) (T 2) (T 3) (T 4) (T 5) (T 6) (T 7) (T 8)) ++ iaX cI (rf 6) 6 u)) A) args s 0 0 A) (F0 m 76 ls []) := by
                  intro dd
                  induction dd with
                  | zero => intro j fl w t yg hj ew hF hsr hm; exact absurd hm (Nat.not_lt_zero _)
                  | succ dd ih_76 =>
                    intro j fl w t yg hj ew hF hsr hm Hp locs hP hD hS ls hl
                    refine lv_iload hx hb dX9_runScript_76 (lv_at hl 0 rfl) ?_
                    refine lv_iload_n hx hb dX9_runScript_78 rfl (lv_at hl 4 rfl) ?_
                    refine lv_icmp_ge (tgt := 126) hx hb dX9_runScript_79 (by decide) (fun c_79 => ?_) (fun c_79 => ?_)
                    · skip
                      replace c_79 := cn_le (by omega) (by omega) c_79
                      refine lv_aload_n hx hb dX9_runScript_126 rfl (lv_at hl 3 rfl) ?_
                      have hP : va_P D vwCl (mX mr rf st ln 0 pl hs vs dg xx ++ iaX cI (rf 0) 100 (qN (t 0 0) (t 0 1) (t 0 2) (t 0 3) (t 0 4) (t 0 5) (t 1) (t 2) (t 3) (t 4) (t 5) (t 6) (t 7) (t 8)) ++ iaX cI (rf 1) 100 (qN (T 0 0) (T 0 1) (T 0 2) (T 0 3) (T 0 4) (T 0 5) (T 1) (T 2) (T 3) (T 4) (T 5) (T 6) (T 7) (T 8)) ++ iaX cI (rf 6) 6 yg) _ := hP
                      have hD : va_D A (mX mr rf st ln 0 pl hs vs dg xx ++ iaX cI (rf 0) 100 (qN (t 0 0) (t 0 1) (t 0 2) (t 0 3) (t 0 4) (t 0 5) (t 1) (t 2) (t 3) (t 4) (t 5) (t 6) (t 7) (t 8)) ++ iaX cI (rf 1) 100 (qN (T 0 0) (T 0 1) (T 0 2) (T 0 3) (T 0 4) (T 0 5) (T 1) (T 2) (T 3) (T 4) (T 5) (T 6) (T 7) (T 8)) ++ iaX cI (rf 6) 6 yg) := hD
                      refine gp_V (ci := 9) (q0 := 0) (cq := (RX9, TX9, 15)) (c_X9_bringBack l D cI cZ cF cL mr rf st ln 0 pl hs vs dg xx (qN (t 0 0) (t 0 1) (t 0 2) (t 0 3) (t 0 4) (t 0 5) (t 1) (t 2) (t 3) (t 4) (t 5) (t 6) (t 7) (t 8)) (qN (T 0 0) (T 0 1) (T 0 2) (T 0 3) (T 0 4) (T 0 5) (T 1) (T 2) (T 3) (T 4) (T 5) (T 6) (T 7) (T 8)) ) (gUV u_741 u_742 u_743 u_5 u_744) rfl hdV_X9_bringBack ⟨Nat.le_of_ble_eq_true rfl, Nat.le_of_ble_eq_true rfl⟩ ⟨rfl, rfl⟩ hx hb hml hown hts hK hA hP hD hS hl.1 ⟨Nat.le_of_ble_eq_true rfl, Nat.le_of_ble_eq_true rfl⟩ rfl rfl rfl (wr := (iaX cI (rf 6) 6 yg)) (pm_cnt (fun _ => by simp only [List.countP_append, List.countP_nil, fT] <;> omega)) (fun _ => by simp only [List.map_append, List.map_nil, fX_m, bX_m, sX_m, pX_m, iaX_m, r5X_m, r6X_m, fT_m, hX_m, tX_m, xX_m, sgX_m, zaX_m, fsB_a, qX_m, mX_m]) (rest := []) rfl rfl (Nat.le_of_ble_eq_true rfl) dX9_runScript_127 (ws2 := (fun _ : Unit => (mX mr rf st ln 0 pl hs vs dg xx ++ iaX cI (rf 0) 100 (qN (T 0 0) (T 0 1) (T 0 2) (T 0 3) (T 0 4) (T 0 5) (T 1) (T 2) (T 3) (T 4) (T 5) (T 6) (T 7) (T 8)) ++ iaX cI (rf 1) 100 (qN (T 0 0) (T 0 1) (T 0 2) (T 0 3) (T 0 4) (T 0 5) (T 1) (T 2) (T 3) (T 4) (T 5) (T 6) (T 7) (T 8)) ++ iaX cI (rf 6) 6 yg))) (fun _ => (pm_cnt (fun _ => by simp only [List.countP_append, List.countP_nil, fT] <;> omega))) (fun _ Hp locs hP hD hS => ?_)
                      have hP : va_P D vwCl (mX mr rf st ln 0 pl hs vs dg xx ++ qX cI (rf 0) (T 0 0) (T 0 1) (T 0 2) (T 0 3) (T 0 4) (T 0 5) (T 1) (T 2) (T 3) (T 4) (T 5) (T 6) (T 7) (T 8) ++ iaX cI (rf 1) 100 (qN (T 0 0) (T 0 1) (T 0 2) (T 0 3) (T 0 4) (T 0 5) (T 1) (T 2) (T 3) (T 4) (T 5) (T 6) (T 7) (T 8)) ++ iaX cI (rf 6) 6 yg) _ := hP
                      have hD : va_D A (mX mr rf st ln 0 pl hs vs dg xx ++ qX cI (rf 0) (T 0 0) (T 0 1) (T 0 2) (T 0 3) (T 0 4) (T 0 5) (T 1) (T 2) (T 3) (T 4) (T 5) (T 6) (T 7) (T 8) ++ iaX cI (rf 1) 100 (qN (T 0 0) (T 0 1) (T 0 2) (T 0 3) (T 0 4) (T 0 5) (T 1) (T 2) (T 3) (T 4) (T 5) (T 6) (T 7) (T 8)) ++ iaX cI (rf 6) 6 yg) := hD
                      refine lv_iload hx hb dX9_runScript_130 (lv_at hl 1 rfl) ?_
                      exact ct_i (yg) hx hb hr hlocks hP hS (by rcases hsr with ⟨s1, s2, s3⟩ | ⟨s1, s2⟩; (first | (rw [s3, show n - j = 0 by omega, s1]; rfl) | (exfalso; rw [s1] at c_84; exact absurd c_84 (by decide))); exact s2.symm) dX9_runScript_132
                    · skip
                      replace c_79 := cn_nle (by omega) (by omega) c_79
                      refine lv_iload hx hb dX9_runScript_82 (lv_at hl 1 rfl) ?_
                      refine lv_if_ge (tgt := 126) hx hb dX9_runScript_84 (by decide) (fun c_84 => ?_) (fun c_84 => ?_)
                      · skip
                        refine lv_aload_n hx hb dX9_runScript_126 rfl (lv_at hl 3 rfl) ?_
                        have hP : va_P D vwCl (mX mr rf st ln 0 pl hs vs dg xx ++ iaX cI (rf 0) 100 (qN (t 0 0) (t 0 1) (t 0 2) (t 0 3) (t 0 4) (t 0 5) (t 1) (t 2) (t 3) (t 4) (t 5) (t 6) (t 7) (t 8)) ++ iaX cI (rf 1) 100 (qN (T 0 0) (T 0 1) (T 0 2) (T 0 3) (T 0 4) (T 0 5) (T 1) (T 2) (T 3) (T 4) (T 5) (T 6) (T 7) (T 8)) ++ iaX cI (rf 6) 6 yg) _ := hP
                        have hD : va_D A (mX mr rf st ln 0 pl hs vs dg xx ++ iaX cI (rf 0) 100 (qN (t 0 0) (t 0 1) (t 0 2) (t 0 3) (t 0 4) (t 0 5) (t 1) (t 2) (t 3) (t 4) (t 5) (t 6) (t 7) (t 8)) ++ iaX cI (rf 1) 100 (qN (T 0 0) (T 0 1) (T 0 2) (T 0 3) (T 0 4) (T 0 5) (T 1) (T 2) (T 3) (T 4) (T 5) (T 6) (T 7) (T 8)) ++ iaX cI (rf 6) 6 yg) := hD
                        refine gp_V (ci := 9) (q0 := 0) (cq := (RX9, TX9, 15)) (c_X9_bringBack l D cI cZ cF cL mr rf st ln 0 pl hs vs dg xx (qN (t 0 0) (t 0 1) (t 0 2) (t 0 3) (t 0 4) (t 0 5) (t 1) (t 2) (t 3) (t 4) (t 5) (t 6) (t 7) (t 8)) (qN (T 0 0) (T 0 1) (T 0 2) (T 0 3) (T 0 4) (T 0 5) (T 1) (T 2) (T 3) (T 4) (T 5) (T 6) (T 7) (T 8)) ) (gUV u_741 u_742 u_743 u_5 u_744) rfl hdV_X9_bringBack ⟨Nat.le_of_ble_eq_true rfl, Nat.le_of_ble_eq_true rfl⟩ ⟨rfl, rfl⟩ hx hb hml hown hts hK hA hP hD hS hl.1 ⟨Nat.le_of_ble_eq_true rfl, Nat.le_of_ble_eq_true rfl⟩ rfl rfl rfl (wr := (iaX cI (rf 6) 6 yg)) (pm_cnt (fun _ => by simp only [List.countP_append, List.countP_nil, fT] <;> omega)) (fun _ => by simp only [List.map_append, List.map_nil, fX_m, bX_m, sX_m, pX_m, iaX_m, r5X_m, r6X_m, fT_m, hX_m, tX_m, xX_m, sgX_m, zaX_m, fsB_a, qX_m, mX_m]) (rest := []) rfl rfl (Nat.le_of_ble_eq_true rfl) dX9_runScript_127 (ws2 := (fun _ : Unit => (mX mr rf st ln 0 pl hs vs dg xx ++ iaX cI (rf 0) 100 (qN (T 0 0) (T 0 1) (T 0 2) (T 0 3) (T 0 4) (T 0 5) (T 1) (T 2) (T 3) (T 4) (T 5) (T 6) (T 7) (T 8)) ++ iaX cI (rf 1) 100 (qN (T 0 0) (T 0 1) (T 0 2) (T 0 3) (T 0 4) (T 0 5) (T 1) (T 2) (T 3) (T 4) (T 5) (T 6) (T 7) (T 8)) ++ iaX cI (rf 6) 6 yg))) (fun _ => (pm_cnt (fun _ => by simp only [List.countP_append, List.countP_nil, fT] <;> omega))) (fun _ Hp locs hP hD hS => ?_)
                        have hP : va_P D vwCl (mX mr rf st ln 0 pl hs vs dg xx ++ qX cI (rf 0) (T 0 0) (T 0 1) (T 0 2) (T 0 3) (T 0 4) (T 0 5) (T 1) (T 2) (T 3) (T 4) (T 5) (T 6) (T 7) (T 8) ++ iaX cI (rf 1) 100 (qN (T 0 0) (T 0 1) (T 0 2) (T 0 3) (T 0 4) (T 0 5) (T 1) (T 2) (T 3) (T 4) (T 5) (T 6) (T 7) (T 8)) ++ iaX cI (rf 6) 6 yg) _ := hP
                        have hD : va_D A (mX mr rf st ln 0 pl hs vs dg xx ++ qX cI (rf 0) (T 0 0) (T 0 1) (T 0 2) (T 0 3) (T 0 4) (T 0 5) (T 1) (T 2) (T 3) (T 4) (T 5) (T 6) (T 7) (T 8) ++ iaX cI (rf 1) 100 (qN (T 0 0) (T 0 1) (T 0 2) (T 0 3) (T 0 4) (T 0 5) (T 1) (T 2) (T 3) (T 4) (T 5) (T 6) (T 7) (T 8)) ++ iaX cI (rf 6) 6 yg) := hD
                        refine lv_iload hx hb dX9_runScript_130 (lv_at hl 1 rfl) ?_
                        exact ct_i (yg) hx hb hr hlocks hP hS (by rcases hsr with ⟨s1, s2, s3⟩ | ⟨s1, s2⟩; (first | (rw [s3, show n - j = 0 by omega, s1]; rfl) | (exfalso; rw [s1] at c_84; exact absurd c_84 (by decide))); exact s2.symm) dX9_runScript_132
                      · skip
                        obtain ⟨s1, s2, s3⟩ : fl = (-9) ∧ t = scT T S n j ∧ scF T S n n 0 = scF T S n (n - j) j := hsr.elim id (fun q => absurd (Int32.not_le.mp c_84) q.1)
                        refine lv_lload hx hb dX9_runScript_87 (lv_at hl 2 rfl) ?_
                        refine lv_ldc2 (v := (10000)) hx hb hown (hts _ (kU u_861)) dX9_runScript_89 ?_
                        rw [show ((10000) : Int64) = lN 10000 from by decide +kernel]
                        refine lv_ldiv hx hb dX9_runScript_92 (by decide +kernel) ?_
                        rw [pk_lDiv (a := w) (b := 10000) (by rw [ew]; exact Nat.lt_of_le_of_lt (Nat.pow_le_pow_right (by decide) (by omega)) hu4) (by decide) (by decide)]
                        rw [show (lN (w / 10000)) = (lN (10000 ^ (n - 1 - j))) from (congrArg lN (by rw [ew]; exact u_dv c_79))]
                        refine lv_lstore (lv' := [(4, .long (lN (10000 ^ (n - 1 - j)))), (7, .int (nI j)), (6, .int fl), (0, .ref mr), (1, .int (nI n)), (2, .long (lN S))]) hx hb dX9_runScript_93 hl (by decide) rfl (fun ls hl => ?_)
                        have hw0 : 0 < 10000 ^ (n - 1 - j) := Nat.pow_pos (by decide)
                        have hw1 : 10000 ^ (n - 1 - j) < 2 ^ 63 := Nat.lt_of_le_of_lt (Nat.pow_le_pow_right (by decide) (by omega)) hu4
                        have hg9 : grC S n j < 10000 := Nat.mod_lt _ (by decide)
                        refine lv_aload_n hx hb dX9_runScript_95 rfl (lv_at hl 3 rfl) ?_
                        refine lv_lload_n hx hb dX9_runScript_96 rfl (lv_at hl 5 rfl) ?_
                        refine lv_lload hx hb dX9_runScript_97 (lv_at hl 0 rfl) ?_
                        refine lv_ldiv hx hb dX9_runScript_99 (lN_ne0 hw0 hw1) ?_
                        rw [pk_lDiv (a := S) (b := 10000 ^ (n - 1 - j)) hS0 hw0 hw1]
                        refine lv_ldc2 (v := (10000)) hx hb hown (hts _ (kU u_861)) dX9_runScript_100 ?_
                        rw [show ((10000) : Int64) = lN 10000 from by decide +kernel]
                        refine lv_lrem hx hb dX9_runScript_103 (by decide +kernel) ?_
                        rw [pk_lRem (a := S / (10000 ^ (n - 1 - j))) (b := 10000) (Nat.lt_of_le_of_lt (Nat.div_le_self _ _) hS0) (by decide) (by decide)]
                        refine lv_l2i (v := nI ((S / (10000 ^ (n - 1 - j))) % 10000)) hx hb dX9_runScript_104 (lN_i _) ?_
                        rw [show (nI ((S / (10000 ^ (n - 1 - j))) % 10000)) = (nI (grC S n j)) from rfl]
                        refine gp_V (ci := 9) (q0 := 0) (cq := (RX9, TX9, 15)) (c_X9_succeeds l D cI cZ cF cL mr rf st ln 0 pl hs vs dg xx t yg (grC S n j) hF hg9) (gUV u_862 u_863 u_864 u_5 u_865) rfl hdV_X9_succeeds ⟨Nat.le_of_ble_eq_true rfl, Nat.le_of_ble_eq_true rfl⟩ ⟨rfl, rfl⟩ hx hb hml hown hts hK hA hP hD hS hl.1 ⟨Nat.le_of_ble_eq_true rfl, Nat.le_of_ble_eq_true rfl⟩ rfl rfl rfl (wr := (iaX cI (rf 1) 100 (qN (T 0 0) (T 0 1) (T 0 2) (T 0 3) (T 0 4) (T 0 5) (T 1) (T 2) (T 3) (T 4) (T 5) (T 6) (T 7) (T 8)))) (pm_cnt (fun _ => by simp only [List.countP_append, List.countP_nil, fT] <;> omega)) (fun _ => by simp only [List.map_append, List.map_nil, fX_m, bX_m, sX_m, pX_m, iaX_m, r5X_m, r6X_m, fT_m, hX_m, tX_m, xX_m, sgX_m, zaX_m, fsB_a, qX_m, mX_m]) (rest := []) rfl rfl (Nat.le_of_ble_eq_true rfl) dX9_runScript_105 (ws2 := (fun u_105 : (Nat → Nat) => (mX mr rf st ln 0 pl hs vs dg xx ++ qX cI (rf 0) ((doG t (grC S n j)) 0 0) ((doG t (grC S n j)) 0 1) ((doG t (grC S n j)) 0 2) ((doG t (grC S n j)) 0 3) ((doG t (grC S n j)) 0 4) ((doG t (grC S n j)) 0 5) ((doG t (grC S n j)) 1) ((doG t (grC S n j)) 2) ((doG t (grC S n j)) 3) ((doG t (grC S n j)) 4) ((doG t (grC S n j)) 5) ((doG t (grC S n j)) 6) ((doG t (grC S n j)) 7) ((doG t (grC S n j)) 8) ++ iaX cI (rf 1) 100 (qN (T 0 0) (T 0 1) (T 0 2) (T 0 3) (T 0 4) (T 0 5) (T 1) (T 2) (T 3) (T 4) (T 5) (T 6) (T 7) (T 8)) ++ iaX cI (rf 6) 6 u_105))) (fun _ => (pm_cnt (fun _ => by simp only [List.countP_append, List.countP_nil, fT] <;> omega))) (fun u_105 Hp locs hP hD hS => ?_)
                        refine lv_if_eq (tgt := 116) hx hb dX9_runScript_108 (by decide) (fun c_108 => ?_) (fun c_108 => ?_)
                        · skip
                          replace c_108 := cb_z c_108
                          have hnx : (nI j = (-9) ∧ doG t (grC S n j) = scT T S n (j + 1) ∧ scF T S n n 0 = scF T S n (n - (j + 1)) (j + 1)) ∨ (¬ nI j < 0 ∧ scF T S n n 0 = nI j) := Or.inr ⟨fun q => absurd (cn_lt (b := 0) (by omega) (by decide) q) (Nat.not_lt_zero _), by rw [s3]; exact scF_stop c_79 (by rw [← s2]; exact c_108)⟩
                          refine lv_iload hx hb dX9_runScript_116 (lv_at hl 1 rfl) ?_
                          clear hw0 hw1 hg9 ew hu4 hz hS0 eu
                          refine lv_istore (lv' := [(6, .int (nI j)), (4, .long (lN (10000 ^ (n - 1 - j)))), (7, .int (nI j)), (0, .ref mr), (1, .int (nI n)), (2, .long (lN S))]) hx hb dX9_runScript_118 hl (by decide) rfl (fun ls hl => ?_)
                          refine lv_iinc (v := (nI (j + 1))) (lv' := [(7, .int (nI (j + 1))), (6, .int (nI j)), (4, .long (lN (10000 ^ (n - 1 - j)))), (0, .ref mr), (1, .int (nI n)), (2, .long (lN S))]) hx hb dX9_runScript_120 hl (k := 2) rfl (nI_add j 1) (by decide) rfl (fun ls hl => ?_)
                          refine lv_goto (tgt := 76) hx hb dX9_runScript_123 (by decide) ?_
                          exact ih_76 (j + 1) ((nI j)) (10000 ^ (n - 1 - j)) (doG t (grC S n j)) u_105 (Nat.succ_le_of_lt c_79) (by rw [Nat.sub_sub, Nat.add_comm 1 j]) (FI_do hF (Nat.le_of_lt_succ (Nat.mod_lt _ (by decide)))) hnx (Nat.lt_of_lt_of_le (Nat.sub_lt_sub_left c_79 (Nat.lt_succ_self j)) (Nat.le_of_lt_succ hm)) _ _ hP hD hS _ (lv_sub hl [0, 1, 2, 3, 4, 5] rfl)
                        · skip
                          replace c_108 := cb_nz c_108
                          have hnx : (fl = (-9) ∧ doG t (grC S n j) = scT T S n (j + 1) ∧ scF T S n n 0 = scF T S n (n - (j + 1)) (j + 1)) ∨ (¬ fl < 0 ∧ scF T S n n 0 = fl) := Or.inl ⟨s1, by rw [s2]; rfl, by rw [s3]; exact scF_go c_79 (by rw [← s2]; exact c_108)⟩
                          refine lv_iload hx hb dX9_runScript_111 (lv_at hl 2 rfl) ?_
                          refine lv_goto (tgt := 118) hx hb dX9_runScript_113 (by decide) ?_
                          clear hw0 hw1 hg9 ew hu4 hz hS0 eu
                          refine lv_istore (lv' := [(6, .int fl), (4, .long (lN (10000 ^ (n - 1 - j)))), (7, .int (nI j)), (0, .ref mr), (1, .int (nI n)), (2, .long (lN S))]) hx hb dX9_runScript_118 hl (by decide) rfl (fun ls hl => ?_)
                          refine lv_iinc (v := (nI (j + 1))) (lv' := [(7, .int (nI (j + 1))), (6, .int fl), (4, .long (lN (10000 ^ (n - 1 - j)))), (0, .ref mr), (1, .int (nI n)), (2, .long (lN S))]) hx hb dX9_runScript_120 hl (k := 2) rfl (nI_add j 1) (by decide) rfl (fun ls hl => ?_)
                          refine lv_goto (tgt := 76) hx hb dX9_runScript_123 (by decide) ?_
                          exact ih_76 (j + 1) fl (10000 ^ (n - 1 - j)) (doG t (grC S n j)) u_105 (Nat.succ_le_of_lt c_79) (by rw [Nat.sub_sub, Nat.add_comm 1 j]) (FI_do hF (Nat.le_of_lt_succ (Nat.mod_lt _ (by decide)))) hnx (Nat.lt_of_lt_of_le (Nat.sub_lt_sub_left c_79 (Nat.lt_succ_self j)) (Nat.le_of_lt_succ hm)) _ _ hP hD hS _ (lv_sub hl [0, 1, 2, 3, 4, 5] rfl)
                exact loop_76 ((n - 0) + 1) 0 (((-9))) u T g (Nat.zero_le _) (by rw [eu, hkn, Nat.sub_zero]) hT (Or.inl ⟨rfl, rfl, rfl⟩) (Nat.lt_succ_self _) _ _ hP hD hS _ (lv_sub hl [0, 1, 2, 3, 4, 5] rfl)
              · skip
                (exact absurd ((lcm_lt hS0 (by rw [eu, hkn]; exact hu4)).mpr (by rw [eu, hkn]; exact u_z hz)) c_56)
        · skip
          replace c_20 := cn_nle (by omega) (by omega) c_20
          refine lv_lload hx hb dX9_runScript_23 (lv_at hl 1 rfl) ?_
          refine lv_ldc2 (v := (10000)) hx hb hown (hts _ (kU u_861)) dX9_runScript_25 ?_
          rw [show ((10000) : Int64) = lN 10000 from by decide +kernel]
          refine lv_lmul hx hb dX9_runScript_28 ?_
          rw [lN_mul u 10000]
          refine lv_lstore (lv' := [(4, .long (lN (u * 10000))), (6, .int (nI k)), (0, .ref mr), (1, .int (nI n)), (2, .long (lN S))]) hx hb dX9_runScript_29 hl (by decide) rfl (fun ls hl => ?_)
          refine lv_iinc (v := (nI (k + 1))) (lv' := [(6, .int (nI (k + 1))), (4, .long (lN (u * 10000))), (0, .ref mr), (1, .int (nI n)), (2, .long (lN S))]) hx hb dX9_runScript_31 hl (k := 1) rfl (nI_add k 1) (by decide) rfl (fun ls hl => ?_)
          refine lv_goto (tgt := 11) hx hb dX9_runScript_34 (by decide) ?_
          exact ih_11 (k + 1) (u * 10000) (by omega) (by rw [eu, Nat.pow_succ]) (by omega) _ _ hP hD hS _ (lv_sub hl [0, 1, 2, 3, 4] rfl)
  exact loop_11 ((n - 0) + 1) 0 1 (Nat.zero_le _) rfl (Nat.lt_succ_self _) _ _ hP hD hS _ (lv_sub hl [0, 1, 2, 3, 4] rfl)
set_option maxHeartbeats 4000000 in
set_option maxRecDepth 100000 in
theorem f1_X9_runScript (l : Launch) (D : va_G) (cI cZ cF cL : ClassId) (mr : Nat) (rf : Nat → Nat) (st ln th pl hs vs : Nat) (dg : Int32) (xx : Int64) (x : Int32) (sc : Int64) (hbad : ¬ (nI 1 ≤ x ∧ x ≤ nI 4)) : CT l D (tysX cI cZ cF cL) yX9_runScript (wA yX9_runScript cX9_runScript 8 (some .int)) (rmF 1 22) [.ref mr, .int x, .long sc] (mX mr rf st ln th pl hs vs dg xx) (some (.int (nI 0))) (fun _ : Unit => (mX mr rf st ln 1 pl hs vs dg xx)) := by
  refine ct_in (cc := cX9_runScript) (maxL := 8) (ret := (some .int)) (own := RX9) (lv := [(0, .ref mr), (1, .int x), (2, .long sc)]) (by decide +kernel) rfl rfl (Nat.le_of_ble_eq_true rfl) rfl ?_
  intro p e s m args below meth c A ls hx hb hr hml hts hown hlocks hK hA hP hD hS hl
  refine lv_aload_n hx hb dX9_runScript_0 rfl (lv_at hl 0 rfl) ?_
  refine lv_iconst (v := (nI 0)) hx hb dX9_runScript_1 (by decide) ?_
  refine pf_n (C := RX9) (T := TX9) (N := 15) (ci := 9) (q0 := 0) (ty := .int) (v := .int (nI 0)) (ws2 := (mX mr rf st ln 0 pl hs vs dg xx)) hx hb hts (iU inlX9) tyX9 tyX9_ok nmX9 hown hK hP hD hS rfl rfl 8 (by decide) (kU u_173) rfl rfl (tyX9_ok 8 (by decide)) rfl rfl (Nat.le_of_ble_eq_true rfl) dX9_runScript_2 rfl (fun Hp locs hP hD hS => ?_)
  refine lv_lconst (v := 1) hx hb dX9_runScript_5 (by decide) ?_
  rw [show ((1) : Int64) = lN 1 from by decide +kernel]
  refine lv_lstore (lv' := [(4, .long (lN 1)), (0, .ref mr), (1, .int x), (2, .long sc)]) hx hb dX9_runScript_6 hl (by decide) rfl (fun ls hl => ?_)
  refine lv_iconst (v := (nI 0)) hx hb dX9_runScript_8 (by decide) ?_
  refine lv_istore (lv' := [(6, .int (nI 0)), (4, .long (lN 1)), (0, .ref mr), (1, .int x), (2, .long sc)]) hx hb dX9_runScript_9 hl (by decide) rfl (fun ls hl => ?_)
  have loop_11 : ∀ (dd : Nat) (k : Nat) (u : Nat), (k ≤ 4) → (u = 10000 ^ k) → (4 - k) < dd → ∀ (Hp : Heap) (locs : List Loc), va_P D vwCl (mX mr rf st ln 0 pl hs vs dg xx) Hp → va_D A (mX mr rf st ln 0 pl hs vs dg xx) → va_S A s.heap Hp locs → ∀ ls : Array Slot, lv_has ls 8 [(6, .int (nI k)), (4, .long (lN u)), (0, .ref mr), (1, .int x), (2, .long sc)] → W p l e (rmF 1 22) s m args below meth c Hp locs 0 0 (MQ below (CQ D (some (.int (nI 0))) (fun _ : Unit => (mX mr rf st ln 1 pl hs vs dg xx)) A) args s 0 0 A) (F0 m 11 ls []) := by
    intro dd
    induction dd with
    | zero => intro k u hk eu hm; exact absurd hm (Nat.not_lt_zero _)
    | succ dd ih_11 =>
      intro k u hk eu hm Hp locs hP hD hS ls hl
      refine lv_iload hx hb dX9_runScript_11 (lv_at hl 0 rfl) ?_
      refine lv_iload_n hx hb dX9_runScript_13 rfl (lv_at hl 3 rfl) ?_
      refine lv_icmp_ge (tgt := 37) hx hb dX9_runScript_14 (by decide) (fun c_14 => ?_) (fun c_14 => ?_)
      · skip
        refine lv_iload_n hx hb dX9_runScript_37 rfl (lv_at hl 3 rfl) ?_
        refine lv_iconst (v := (nI 1)) hx hb dX9_runScript_38 (by decide) ?_
        refine lv_iconst (v := (nI 4)) hx hb dX9_runScript_39 (by decide) ?_
        refine gp_S (c_X9_in l D cI cZ cF cL x ((nI 1)) ((nI 4)) ) (gUS u_140 u_141 u_5 u_142) rfl hdS_X9_in ⟨Nat.le_of_ble_eq_true rfl, Nat.le_of_ble_eq_true rfl⟩ ⟨rfl, rfl⟩ hx hb hml hown hts hK hA hP hD hS hl.1 ⟨Nat.le_of_ble_eq_true rfl, Nat.le_of_ble_eq_true rfl⟩ (wr := (mX mr rf st ln 0 pl hs vs dg xx)) (pm_cnt (fun _ => by simp only [List.countP_append, List.countP_nil, fT] <;> omega)) (fun _ => by simp only [List.map_append, List.map_nil, fX_m, bX_m, sX_m, pX_m, iaX_m, r5X_m, r6X_m, fT_m, hX_m, tX_m, xX_m, sgX_m, zaX_m, fsB_a, qX_m, mX_m]) (rest := []) rfl rfl (Nat.le_of_ble_eq_true rfl) dX9_runScript_40 (ws2 := (fun _ : Unit => (mX mr rf st ln 0 pl hs vs dg xx))) (fun _ => (pm_cnt (fun _ => by simp only [List.countP_append, List.countP_nil, fT] <;> omega))) (fun _ Hp locs hP hD hS => ?_)
        refine lv_if_eq (tgt := 59) hx hb dX9_runScript_43 (by decide) (fun c_43 => ?_) (fun c_43 => ?_)
        · skip
          replace c_43 := cb_z c_43
          refine lv_aload_n hx hb dX9_runScript_59 rfl (lv_at hl 2 rfl) ?_
          refine lv_iconst (v := (nI 1)) hx hb dX9_runScript_60 (by decide) ?_
          refine gp_V (ci := 9) (q0 := 0) (cq := (RX9, TX9, 15)) (c_X9_fails l D cI cZ cF cL mr rf st ln 0 pl hs vs dg xx 1 ) (gUV u_175 u_176 u_177 u_5 u_178) rfl hdV_X9_fails ⟨Nat.le_of_ble_eq_true rfl, Nat.le_of_ble_eq_true rfl⟩ ⟨rfl, rfl⟩ hx hb hml hown hts hK hA hP hD hS hl.1 ⟨Nat.le_of_ble_eq_true rfl, Nat.le_of_ble_eq_true rfl⟩ rfl rfl rfl (wr := ([] : va_W)) (pm_cnt (fun _ => by simp only [List.countP_append, List.countP_nil, fT] <;> omega)) (fun _ => by simp only [List.map_append, List.map_nil, fX_m, bX_m, sX_m, pX_m, iaX_m, r5X_m, r6X_m, fT_m, hX_m, tX_m, xX_m, sgX_m, zaX_m, fsB_a, qX_m, mX_m]) (rest := []) rfl rfl (Nat.le_of_ble_eq_true rfl) dX9_runScript_61 (ws2 := (fun _ : Unit => (mX mr rf st ln 1 pl hs vs dg xx))) (fun _ => (pm_cnt (fun _ => by simp only [List.countP_append, List.countP_nil, fT] <;> omega))) (fun _ Hp locs hP hD hS => ?_)
          exact ct_i () hx hb hr hlocks hP hS rfl dX9_runScript_64
        · skip
          replace c_43 := cb_nz c_43
          (exact absurd c_43 hbad)
      · skip
        refine lv_iload hx hb dX9_runScript_17 (lv_at hl 0 rfl) ?_
        refine lv_iconst (v := (nI 4)) hx hb dX9_runScript_19 (by decide) ?_
        refine lv_icmp_ge (tgt := 37) hx hb dX9_runScript_20 (by decide) (fun c_20 => ?_) (fun c_20 => ?_)
        · skip
          replace c_20 := cn_le (by omega) (by omega) c_20
          refine lv_iload_n hx hb dX9_runScript_37 rfl (lv_at hl 3 rfl) ?_
          refine lv_iconst (v := (nI 1)) hx hb dX9_runScript_38 (by decide) ?_
          refine lv_iconst (v := (nI 4)) hx hb dX9_runScript_39 (by decide) ?_
          refine gp_S (c_X9_in l D cI cZ cF cL x ((nI 1)) ((nI 4)) ) (gUS u_140 u_141 u_5 u_142) rfl hdS_X9_in ⟨Nat.le_of_ble_eq_true rfl, Nat.le_of_ble_eq_true rfl⟩ ⟨rfl, rfl⟩ hx hb hml hown hts hK hA hP hD hS hl.1 ⟨Nat.le_of_ble_eq_true rfl, Nat.le_of_ble_eq_true rfl⟩ (wr := (mX mr rf st ln 0 pl hs vs dg xx)) (pm_cnt (fun _ => by simp only [List.countP_append, List.countP_nil, fT] <;> omega)) (fun _ => by simp only [List.map_append, List.map_nil, fX_m, bX_m, sX_m, pX_m, iaX_m, r5X_m, r6X_m, fT_m, hX_m, tX_m, xX_m, sgX_m, zaX_m, fsB_a, qX_m, mX_m]) (rest := []) rfl rfl (Nat.le_of_ble_eq_true rfl) dX9_runScript_40 (ws2 := (fun _ : Unit => (mX mr rf st ln 0 pl hs vs dg xx))) (fun _ => (pm_cnt (fun _ => by simp only [List.countP_append, List.countP_nil, fT] <;> omega))) (fun _ Hp locs hP hD hS => ?_)
          refine lv_if_eq (tgt := 59) hx hb dX9_runScript_43 (by decide) (fun c_43 => ?_) (fun c_43 => ?_)
          · skip
            replace c_43 := cb_z c_43
            refine lv_aload_n hx hb dX9_runScript_59 rfl (lv_at hl 2 rfl) ?_
            refine lv_iconst (v := (nI 1)) hx hb dX9_runScript_60 (by decide) ?_
            refine gp_V (ci := 9) (q0 := 0) (cq := (RX9, TX9, 15)) (c_X9_fails l D cI cZ cF cL mr rf st ln 0 pl hs vs dg xx 1 ) (gUV u_175 u_176 u_177 u_5 u_178) rfl hdV_X9_fails ⟨Nat.le_of_ble_eq_true rfl, Nat.le_of_ble_eq_true rfl⟩ ⟨rfl, rfl⟩ hx hb hml hown hts hK hA hP hD hS hl.1 ⟨Nat.le_of_ble_eq_true rfl, Nat.le_of_ble_eq_true rfl⟩ rfl rfl rfl (wr := ([] : va_W)) (pm_cnt (fun _ => by simp only [List.countP_append, List.countP_nil, fT] <;> omega)) (fun _ => by simp only [List.map_append, List.map_nil, fX_m, bX_m, sX_m, pX_m, iaX_m, r5X_m, r6X_m, fT_m, hX_m, tX_m, xX_m, sgX_m, zaX_m, fsB_a, qX_m, mX_m]) (rest := []) rfl rfl (Nat.le_of_ble_eq_true rfl) dX9_runScript_61 (ws2 := (fun _ : Unit => (mX mr rf st ln 1 pl hs vs dg xx))) (fun _ => (pm_cnt (fun _ => by simp only [List.countP_append, List.countP_nil, fT] <;> omega))) (fun _ Hp locs hP hD hS => ?_)
            exact ct_i () hx hb hr hlocks hP hS rfl dX9_runScript_64
          · skip
            replace c_43 := cb_nz c_43
            (exact absurd c_43 hbad)
        · skip
          replace c_20 := cn_nle (by omega) (by omega) c_20
          refine lv_lload hx hb dX9_runScript_23 (lv_at hl 1 rfl) ?_
          refine lv_ldc2 (v := (10000)) hx hb hown (hts _ (kU u_861)) dX9_runScript_25 ?_
          rw [show ((10000) : Int64) = lN 10000 from by decide +kernel]
          refine lv_lmul hx hb dX9_runScript_28 ?_
          rw [lN_mul u 10000]
          refine lv_lstore (lv' := [(4, .long (lN (u * 10000))), (6, .int (nI k)), (0, .ref mr), (1, .int x), (2, .long sc)]) hx hb dX9_runScript_29 hl (by decide) rfl (fun ls hl => ?_)
          refine lv_iinc (v := (nI (k + 1))) (lv' := [(6, .int (nI (k + 1))), (4, .long (lN (u * 10000))), (0, .ref mr), (1, .int x), (2, .long sc)]) hx hb dX9_runScript_31 hl (k := 1) rfl (nI_add k 1) (by decide) rfl (fun ls hl => ?_)
          refine lv_goto (tgt := 11) hx hb dX9_runScript_34 (by decide) ?_
          exact ih_11 (k + 1) (u * 10000) (by omega) (by rw [eu, Nat.pow_succ]) (by omega) _ _ hP hD hS _ (lv_sub hl [0, 1, 2, 3, 4] rfl)
  exact loop_11 ((4 - 0) + 1) 0 1 (Nat.zero_le _) rfl (Nat.lt_succ_self _) _ _ hP hD hS _ (lv_sub hl [0, 1, 2, 3, 4] rfl)
set_option maxHeartbeats 4000000 in
set_option maxRecDepth 100000 in
theorem f2_X9_runScript (l : Launch) (D : va_G) (cI cZ cF cL : ClassId) (mr : Nat) (rf : Nat → Nat) (st ln th pl hs vs : Nat) (dg : Int32) (xx : Int64) (n : Nat) (sc : Int64) (h1n : 1 ≤ n) (hn4 : n ≤ 4) (hbad : sc < 0) : CT l D (tysX cI cZ cF cL) yX9_runScript (wA yX9_runScript cX9_runScript 8 (some .int)) (rmF 1 22) [.ref mr, .int (nI n), .long sc] (mX mr rf st ln th pl hs vs dg xx) (some (.int (nI 0))) (fun _ : Unit => (mX mr rf st ln 1 pl hs vs dg xx)) := by
  refine ct_in (cc := cX9_runScript) (maxL := 8) (ret := (some .int)) (own := RX9) (lv := [(0, .ref mr), (1, .int (nI n)), (2, .long sc)]) (by decide +kernel) rfl rfl (Nat.le_of_ble_eq_true rfl) rfl ?_
  intro p e s m args below meth c A ls hx hb hr hml hts hown hlocks hK hA hP hD hS hl
  refine lv_aload_n hx hb dX9_runScript_0 rfl (lv_at hl 0 rfl) ?_
  refine lv_iconst (v := (nI 0)) hx hb dX9_runScript_1 (by decide) ?_
  refine pf_n (C := RX9) (T := TX9) (N := 15) (ci := 9) (q0 := 0) (ty := .int) (v := .int (nI 0)) (ws2 := (mX mr rf st ln 0 pl hs vs dg xx)) hx hb hts (iU inlX9) tyX9 tyX9_ok nmX9 hown hK hP hD hS rfl rfl 8 (by decide) (kU u_173) rfl rfl (tyX9_ok 8 (by decide)) rfl rfl (Nat.le_of_ble_eq_true rfl) dX9_runScript_2 rfl (fun Hp locs hP hD hS => ?_)
  refine lv_lconst (v := 1) hx hb dX9_runScript_5 (by decide) ?_
  rw [show ((1) : Int64) = lN 1 from by decide +kernel]
  refine lv_lstore (lv' := [(4, .long (lN 1)), (0, .ref mr), (1, .int (nI n)), (2, .long sc)]) hx hb dX9_runScript_6 hl (by decide) rfl (fun ls hl => ?_)
  refine lv_iconst (v := (nI 0)) hx hb dX9_runScript_8 (by decide) ?_
  refine lv_istore (lv' := [(6, .int (nI 0)), (4, .long (lN 1)), (0, .ref mr), (1, .int (nI n)), (2, .long sc)]) hx hb dX9_runScript_9 hl (by decide) rfl (fun ls hl => ?_)
  have loop_11 : ∀ (dd : Nat) (k : Nat) (u : Nat), (k ≤ n) → (u = 10000 ^ k) → (n - k) < dd → ∀ (Hp : Heap) (locs : List Loc), va_P D vwCl (mX mr rf st ln 0 pl hs vs dg xx) Hp → va_D A (mX mr rf st ln 0 pl hs vs dg xx) → va_S A s.heap Hp locs → ∀ ls : Array Slot, lv_has ls 8 [(6, .int (nI k)), (4, .long (lN u)), (0, .ref mr), (1, .int (nI n)), (2, .long sc)] → W p l e (rmF 1 22) s m args below meth c Hp locs 0 0 (MQ below (CQ D (some (.int (nI 0))) (fun _ : Unit => (mX mr rf st ln 1 pl hs vs dg xx)) A) args s 0 0 A) (F0 m 11 ls []) := by
    intro dd
    induction dd with
    | zero => intro k u hk eu hm; exact absurd hm (Nat.not_lt_zero _)
    | succ dd ih_11 =>
      intro k u hk eu hm Hp locs hP hD hS ls hl
      refine lv_iload hx hb dX9_runScript_11 (lv_at hl 0 rfl) ?_
      refine lv_iload_n hx hb dX9_runScript_13 rfl (lv_at hl 3 rfl) ?_
      refine lv_icmp_ge (tgt := 37) hx hb dX9_runScript_14 (by decide) (fun c_14 => ?_) (fun c_14 => ?_)
      · skip
        replace c_14 := cn_le (by omega) (by omega) c_14
        refine lv_iload_n hx hb dX9_runScript_37 rfl (lv_at hl 3 rfl) ?_
        refine lv_iconst (v := (nI 1)) hx hb dX9_runScript_38 (by decide) ?_
        refine lv_iconst (v := (nI 4)) hx hb dX9_runScript_39 (by decide) ?_
        refine gp_S (c_X9_in l D cI cZ cF cL ((nI n)) ((nI 1)) ((nI 4)) ) (gUS u_140 u_141 u_5 u_142) rfl hdS_X9_in ⟨Nat.le_of_ble_eq_true rfl, Nat.le_of_ble_eq_true rfl⟩ ⟨rfl, rfl⟩ hx hb hml hown hts hK hA hP hD hS hl.1 ⟨Nat.le_of_ble_eq_true rfl, Nat.le_of_ble_eq_true rfl⟩ (wr := (mX mr rf st ln 0 pl hs vs dg xx)) (pm_cnt (fun _ => by simp only [List.countP_append, List.countP_nil, fT] <;> omega)) (fun _ => by simp only [List.map_append, List.map_nil, fX_m, bX_m, sX_m, pX_m, iaX_m, r5X_m, r6X_m, fT_m, hX_m, tX_m, xX_m, sgX_m, zaX_m, fsB_a, qX_m, mX_m]) (rest := []) rfl rfl (Nat.le_of_ble_eq_true rfl) dX9_runScript_40 (ws2 := (fun _ : Unit => (mX mr rf st ln 0 pl hs vs dg xx))) (fun _ => (pm_cnt (fun _ => by simp only [List.countP_append, List.countP_nil, fT] <;> omega))) (fun _ Hp locs hP hD hS => ?_)
        refine lv_if_eq (tgt := 59) hx hb dX9_runScript_43 (by decide) (fun c_43 => ?_) (fun c_43 => ?_)
        · skip
          replace c_43 := cb_z c_43
          (exact absurd ((in_n (by omega) (by decide) (by decide)).mpr ⟨by omega, by omega⟩) c_43)
        · skip
          replace c_43 := cb_nz c_43
          refine lv_lload_n hx hb dX9_runScript_46 rfl (lv_at hl 4 rfl) ?_
          refine lv_lconst (v := 0) hx hb dX9_runScript_47 (by decide) ?_
          refine W.lcmp hx hb dX9_runScript_48 ?_
          refine lv_if_lt (tgt := 59) hx hb dX9_runScript_49 (by decide) (fun c_49 => ?_) (fun c_49 => ?_)
          · skip
            refine lv_aload_n hx hb dX9_runScript_59 rfl (lv_at hl 2 rfl) ?_
            refine lv_iconst (v := (nI 1)) hx hb dX9_runScript_60 (by decide) ?_
            refine gp_V (ci := 9) (q0 := 0) (cq := (RX9, TX9, 15)) (c_X9_fails l D cI cZ cF cL mr rf st ln 0 pl hs vs dg xx 1 ) (gUV u_175 u_176 u_177 u_5 u_178) rfl hdV_X9_fails ⟨Nat.le_of_ble_eq_true rfl, Nat.le_of_ble_eq_true rfl⟩ ⟨rfl, rfl⟩ hx hb hml hown hts hK hA hP hD hS hl.1 ⟨Nat.le_of_ble_eq_true rfl, Nat.le_of_ble_eq_true rfl⟩ rfl rfl rfl (wr := ([] : va_W)) (pm_cnt (fun _ => by simp only [List.countP_append, List.countP_nil, fT] <;> omega)) (fun _ => by simp only [List.map_append, List.map_nil, fX_m, bX_m, sX_m, pX_m, iaX_m, r5X_m, r6X_m, fT_m, hX_m, tX_m, xX_m, sgX_m, zaX_m, fsB_a, qX_m, mX_m]) (rest := []) rfl rfl (Nat.le_of_ble_eq_true rfl) dX9_runScript_61 (ws2 := (fun _ : Unit => (mX mr rf st ln 1 pl hs vs dg xx))) (fun _ => (pm_cnt (fun _ => by simp only [List.countP_append, List.countP_nil, fT] <;> omega))) (fun _ Hp locs hP hD hS => ?_)
            exact ct_i () hx hb hr hlocks hP hS rfl dX9_runScript_64
          · skip
            (exact absurd ((lg_cmp_lt _ _).mpr hbad) c_49)
      · skip
        replace c_14 := cn_nle (by omega) (by omega) c_14
        refine lv_iload hx hb dX9_runScript_17 (lv_at hl 0 rfl) ?_
        refine lv_iconst (v := (nI 4)) hx hb dX9_runScript_19 (by decide) ?_
        refine lv_icmp_ge (tgt := 37) hx hb dX9_runScript_20 (by decide) (fun c_20 => ?_) (fun c_20 => ?_)
        · skip
          replace c_20 := cn_le (by omega) (by omega) c_20
          refine lv_iload_n hx hb dX9_runScript_37 rfl (lv_at hl 3 rfl) ?_
          refine lv_iconst (v := (nI 1)) hx hb dX9_runScript_38 (by decide) ?_
          refine lv_iconst (v := (nI 4)) hx hb dX9_runScript_39 (by decide) ?_
          refine gp_S (c_X9_in l D cI cZ cF cL ((nI n)) ((nI 1)) ((nI 4)) ) (gUS u_140 u_141 u_5 u_142) rfl hdS_X9_in ⟨Nat.le_of_ble_eq_true rfl, Nat.le_of_ble_eq_true rfl⟩ ⟨rfl, rfl⟩ hx hb hml hown hts hK hA hP hD hS hl.1 ⟨Nat.le_of_ble_eq_true rfl, Nat.le_of_ble_eq_true rfl⟩ (wr := (mX mr rf st ln 0 pl hs vs dg xx)) (pm_cnt (fun _ => by simp only [List.countP_append, List.countP_nil, fT] <;> omega)) (fun _ => by simp only [List.map_append, List.map_nil, fX_m, bX_m, sX_m, pX_m, iaX_m, r5X_m, r6X_m, fT_m, hX_m, tX_m, xX_m, sgX_m, zaX_m, fsB_a, qX_m, mX_m]) (rest := []) rfl rfl (Nat.le_of_ble_eq_true rfl) dX9_runScript_40 (ws2 := (fun _ : Unit => (mX mr rf st ln 0 pl hs vs dg xx))) (fun _ => (pm_cnt (fun _ => by simp only [List.countP_append, List.countP_nil, fT] <;> omega))) (fun _ Hp locs hP hD hS => ?_)
          refine lv_if_eq (tgt := 59) hx hb dX9_runScript_43 (by decide) (fun c_43 => ?_) (fun c_43 => ?_)
          · skip
            replace c_43 := cb_z c_43
            (exact absurd ((in_n (by omega) (by decide) (by decide)).mpr ⟨by omega, by omega⟩) c_43)
          · skip
            replace c_43 := cb_nz c_43
            refine lv_lload_n hx hb dX9_runScript_46 rfl (lv_at hl 4 rfl) ?_
            refine lv_lconst (v := 0) hx hb dX9_runScript_47 (by decide) ?_
            refine W.lcmp hx hb dX9_runScript_48 ?_
            refine lv_if_lt (tgt := 59) hx hb dX9_runScript_49 (by decide) (fun c_49 => ?_) (fun c_49 => ?_)
            · skip
              refine lv_aload_n hx hb dX9_runScript_59 rfl (lv_at hl 2 rfl) ?_
              refine lv_iconst (v := (nI 1)) hx hb dX9_runScript_60 (by decide) ?_
              refine gp_V (ci := 9) (q0 := 0) (cq := (RX9, TX9, 15)) (c_X9_fails l D cI cZ cF cL mr rf st ln 0 pl hs vs dg xx 1 ) (gUV u_175 u_176 u_177 u_5 u_178) rfl hdV_X9_fails ⟨Nat.le_of_ble_eq_true rfl, Nat.le_of_ble_eq_true rfl⟩ ⟨rfl, rfl⟩ hx hb hml hown hts hK hA hP hD hS hl.1 ⟨Nat.le_of_ble_eq_true rfl, Nat.le_of_ble_eq_true rfl⟩ rfl rfl rfl (wr := ([] : va_W)) (pm_cnt (fun _ => by simp only [List.countP_append, List.countP_nil, fT] <;> omega)) (fun _ => by simp only [List.map_append, List.map_nil, fX_m, bX_m, sX_m, pX_m, iaX_m, r5X_m, r6X_m, fT_m, hX_m, tX_m, xX_m, sgX_m, zaX_m, fsB_a, qX_m, mX_m]) (rest := []) rfl rfl (Nat.le_of_ble_eq_true rfl) dX9_runScript_61 (ws2 := (fun _ : Unit => (mX mr rf st ln 1 pl hs vs dg xx))) (fun _ => (pm_cnt (fun _ => by simp only [List.countP_append, List.countP_nil, fT] <;> omega))) (fun _ Hp locs hP hD hS => ?_)
              exact ct_i () hx hb hr hlocks hP hS rfl dX9_runScript_64
            · skip
              (exact absurd ((lg_cmp_lt _ _).mpr hbad) c_49)
        · skip
          replace c_20 := cn_nle (by omega) (by omega) c_20
          refine lv_lload hx hb dX9_runScript_23 (lv_at hl 1 rfl) ?_
          refine lv_ldc2 (v := (10000)) hx hb hown (hts _ (kU u_861)) dX9_runScript_25 ?_
          rw [show ((10000) : Int64) = lN 10000 from by decide +kernel]
          refine lv_lmul hx hb dX9_runScript_28 ?_
          rw [lN_mul u 10000]
          refine lv_lstore (lv' := [(4, .long (lN (u * 10000))), (6, .int (nI k)), (0, .ref mr), (1, .int (nI n)), (2, .long sc)]) hx hb dX9_runScript_29 hl (by decide) rfl (fun ls hl => ?_)
          refine lv_iinc (v := (nI (k + 1))) (lv' := [(6, .int (nI (k + 1))), (4, .long (lN (u * 10000))), (0, .ref mr), (1, .int (nI n)), (2, .long sc)]) hx hb dX9_runScript_31 hl (k := 1) rfl (nI_add k 1) (by decide) rfl (fun ls hl => ?_)
          refine lv_goto (tgt := 11) hx hb dX9_runScript_34 (by decide) ?_
          exact ih_11 (k + 1) (u * 10000) (by omega) (by rw [eu, Nat.pow_succ]) (by omega) _ _ hP hD hS _ (lv_sub hl [0, 1, 2, 3, 4] rfl)
  exact loop_11 ((n - 0) + 1) 0 1 (Nat.zero_le _) rfl (Nat.lt_succ_self _) _ _ hP hD hS _ (lv_sub hl [0, 1, 2, 3, 4] rfl)
set_option maxHeartbeats 4000000 in
set_option maxRecDepth 100000 in
theorem f3_X9_runScript (l : Launch) (D : va_G) (cI cZ cF cL : ClassId) (mr : Nat) (rf : Nat → Nat) (st ln th pl hs vs : Nat) (dg : Int32) (xx : Int64) (n S : Nat) (h1n : 1 ≤ n) (hn4 : n ≤ 4) (hS0 : S < 2 ^ 63) (hz : 0 < S / 10000 ^ n) : CT l D (tysX cI cZ cF cL) yX9_runScript (wA yX9_runScript cX9_runScript 8 (some .int)) (rmF 1 22) [.ref mr, .int (nI n), .long (lN S)] (mX mr rf st ln th pl hs vs dg xx) (some (.int (nI 0))) (fun _ : Unit => (mX mr rf st ln 1 pl hs vs dg xx)) := by
  refine ct_in (cc := cX9_runScript) (maxL := 8) (ret := (some .int)) (own := RX9) (lv := [(0, .ref mr), (1, .int (nI n)), (2, .long (lN S))]) (by decide +kernel) rfl rfl (Nat.le_of_ble_eq_true rfl) rfl ?_
  intro p e s m args below meth c A ls hx hb hr hml hts hown hlocks hK hA hP hD hS hl
  refine lv_aload_n hx hb dX9_runScript_0 rfl (lv_at hl 0 rfl) ?_
  refine lv_iconst (v := (nI 0)) hx hb dX9_runScript_1 (by decide) ?_
  refine pf_n (C := RX9) (T := TX9) (N := 15) (ci := 9) (q0 := 0) (ty := .int) (v := .int (nI 0)) (ws2 := (mX mr rf st ln 0 pl hs vs dg xx)) hx hb hts (iU inlX9) tyX9 tyX9_ok nmX9 hown hK hP hD hS rfl rfl 8 (by decide) (kU u_173) rfl rfl (tyX9_ok 8 (by decide)) rfl rfl (Nat.le_of_ble_eq_true rfl) dX9_runScript_2 rfl (fun Hp locs hP hD hS => ?_)
  refine lv_lconst (v := 1) hx hb dX9_runScript_5 (by decide) ?_
  rw [show ((1) : Int64) = lN 1 from by decide +kernel]
  refine lv_lstore (lv' := [(4, .long (lN 1)), (0, .ref mr), (1, .int (nI n)), (2, .long (lN S))]) hx hb dX9_runScript_6 hl (by decide) rfl (fun ls hl => ?_)
  refine lv_iconst (v := (nI 0)) hx hb dX9_runScript_8 (by decide) ?_
  refine lv_istore (lv' := [(6, .int (nI 0)), (4, .long (lN 1)), (0, .ref mr), (1, .int (nI n)), (2, .long (lN S))]) hx hb dX9_runScript_9 hl (by decide) rfl (fun ls hl => ?_)
  have loop_11 : ∀ (dd : Nat) (k : Nat) (u : Nat), (k ≤ n) → (u = 10000 ^ k) → (n - k) < dd → ∀ (Hp : Heap) (locs : List Loc), va_P D vwCl (mX mr rf st ln 0 pl hs vs dg xx) Hp → va_D A (mX mr rf st ln 0 pl hs vs dg xx) → va_S A s.heap Hp locs → ∀ ls : Array Slot, lv_has ls 8 [(6, .int (nI k)), (4, .long (lN u)), (0, .ref mr), (1, .int (nI n)), (2, .long (lN S))] → W p l e (rmF 1 22) s m args below meth c Hp locs 0 0 (MQ below (CQ D (some (.int (nI 0))) (fun _ : Unit => (mX mr rf st ln 1 pl hs vs dg xx)) A) args s 0 0 A) (F0 m 11 ls []) := by
    intro dd
    induction dd with
    | zero => intro k u hk eu hm; exact absurd hm (Nat.not_lt_zero _)
    | succ dd ih_11 =>
      intro k u hk eu hm Hp locs hP hD hS ls hl
      refine lv_iload hx hb dX9_runScript_11 (lv_at hl 0 rfl) ?_
      refine lv_iload_n hx hb dX9_runScript_13 rfl (lv_at hl 3 rfl) ?_
      refine lv_icmp_ge (tgt := 37) hx hb dX9_runScript_14 (by decide) (fun c_14 => ?_) (fun c_14 => ?_)
      · skip
        replace c_14 := cn_le (by omega) (by omega) c_14
        have hkn : k = n := by omega
        have hu4 := u_lt hn4
        refine lv_iload_n hx hb dX9_runScript_37 rfl (lv_at hl 3 rfl) ?_
        refine lv_iconst (v := (nI 1)) hx hb dX9_runScript_38 (by decide) ?_
        refine lv_iconst (v := (nI 4)) hx hb dX9_runScript_39 (by decide) ?_
        refine gp_S (c_X9_in l D cI cZ cF cL ((nI n)) ((nI 1)) ((nI 4)) ) (gUS u_140 u_141 u_5 u_142) rfl hdS_X9_in ⟨Nat.le_of_ble_eq_true rfl, Nat.le_of_ble_eq_true rfl⟩ ⟨rfl, rfl⟩ hx hb hml hown hts hK hA hP hD hS hl.1 ⟨Nat.le_of_ble_eq_true rfl, Nat.le_of_ble_eq_true rfl⟩ (wr := (mX mr rf st ln 0 pl hs vs dg xx)) (pm_cnt (fun _ => by simp only [List.countP_append, List.countP_nil, fT] <;> omega)) (fun _ => by simp only [List.map_append, List.map_nil, fX_m, bX_m, sX_m, pX_m, iaX_m, r5X_m, r6X_m, fT_m, hX_m, tX_m, xX_m, sgX_m, zaX_m, fsB_a, qX_m, mX_m]) (rest := []) rfl rfl (Nat.le_of_ble_eq_true rfl) dX9_runScript_40 (ws2 := (fun _ : Unit => (mX mr rf st ln 0 pl hs vs dg xx))) (fun _ => (pm_cnt (fun _ => by simp only [List.countP_append, List.countP_nil, fT] <;> omega))) (fun _ Hp locs hP hD hS => ?_)
        refine lv_if_eq (tgt := 59) hx hb dX9_runScript_43 (by decide) (fun c_43 => ?_) (fun c_43 => ?_)
        · skip
          replace c_43 := cb_z c_43
          (exact absurd ((in_n (by omega) (by decide) (by decide)).mpr ⟨by omega, by omega⟩) c_43)
        · skip
          replace c_43 := cb_nz c_43
          refine lv_lload_n hx hb dX9_runScript_46 rfl (lv_at hl 4 rfl) ?_
          refine lv_lconst (v := 0) hx hb dX9_runScript_47 (by decide) ?_
          refine W.lcmp hx hb dX9_runScript_48 ?_
          refine lv_if_lt (tgt := 59) hx hb dX9_runScript_49 (by decide) (fun c_49 => ?_) (fun c_49 => ?_)
          · skip
            refine lv_aload_n hx hb dX9_runScript_59 rfl (lv_at hl 2 rfl) ?_
            refine lv_iconst (v := (nI 1)) hx hb dX9_runScript_60 (by decide) ?_
            refine gp_V (ci := 9) (q0 := 0) (cq := (RX9, TX9, 15)) (c_X9_fails l D cI cZ cF cL mr rf st ln 0 pl hs vs dg xx 1 ) (gUV u_175 u_176 u_177 u_5 u_178) rfl hdV_X9_fails ⟨Nat.le_of_ble_eq_true rfl, Nat.le_of_ble_eq_true rfl⟩ ⟨rfl, rfl⟩ hx hb hml hown hts hK hA hP hD hS hl.1 ⟨Nat.le_of_ble_eq_true rfl, Nat.le_of_ble_eq_true rfl⟩ rfl rfl rfl (wr := ([] : va_W)) (pm_cnt (fun _ => by simp only [List.countP_append, List.countP_nil, fT] <;> omega)) (fun _ => by simp only [List.map_append, List.map_nil, fX_m, bX_m, sX_m, pX_m, iaX_m, r5X_m, r6X_m, fT_m, hX_m, tX_m, xX_m, sgX_m, zaX_m, fsB_a, qX_m, mX_m]) (rest := []) rfl rfl (Nat.le_of_ble_eq_true rfl) dX9_runScript_61 (ws2 := (fun _ : Unit => (mX mr rf st ln 1 pl hs vs dg xx))) (fun _ => (pm_cnt (fun _ => by simp only [List.countP_append, List.countP_nil, fT] <;> omega))) (fun _ Hp locs hP hD hS => ?_)
            exact ct_i () hx hb hr hlocks hP hS rfl dX9_runScript_64
          · skip
            refine lv_lload_n hx hb dX9_runScript_52 rfl (lv_at hl 4 rfl) ?_
            refine lv_lload hx hb dX9_runScript_53 (lv_at hl 1 rfl) ?_
            refine W.lcmp hx hb dX9_runScript_55 ?_
            refine lv_if_lt (tgt := 65) hx hb dX9_runScript_56 (by decide) (fun c_56 => ?_) (fun c_56 => ?_)
            · skip
              (exact absurd ((lcm_lt hS0 (by rw [eu, hkn]; exact hu4)).mp c_56) (by rw [eu, hkn]; intro q; rw [Nat.div_eq_of_lt q] at hz; omega))
            · skip
              refine lv_aload_n hx hb dX9_runScript_59 rfl (lv_at hl 2 rfl) ?_
              refine lv_iconst (v := (nI 1)) hx hb dX9_runScript_60 (by decide) ?_
              refine gp_V (ci := 9) (q0 := 0) (cq := (RX9, TX9, 15)) (c_X9_fails l D cI cZ cF cL mr rf st ln 0 pl hs vs dg xx 1 ) (gUV u_175 u_176 u_177 u_5 u_178) rfl hdV_X9_fails ⟨Nat.le_of_ble_eq_true rfl, Nat.le_of_ble_eq_true rfl⟩ ⟨rfl, rfl⟩ hx hb hml hown hts hK hA hP hD hS hl.1 ⟨Nat.le_of_ble_eq_true rfl, Nat.le_of_ble_eq_true rfl⟩ rfl rfl rfl (wr := ([] : va_W)) (pm_cnt (fun _ => by simp only [List.countP_append, List.countP_nil, fT] <;> omega)) (fun _ => by simp only [List.map_append, List.map_nil, fX_m, bX_m, sX_m, pX_m, iaX_m, r5X_m, r6X_m, fT_m, hX_m, tX_m, xX_m, sgX_m, zaX_m, fsB_a, qX_m, mX_m]) (rest := []) rfl rfl (Nat.le_of_ble_eq_true rfl) dX9_runScript_61 (ws2 := (fun _ : Unit => (mX mr rf st ln 1 pl hs vs dg xx))) (fun _ => (pm_cnt (fun _ => by simp only [List.countP_append, List.countP_nil, fT] <;> omega))) (fun _ Hp locs hP hD hS => ?_)
              exact ct_i () hx hb hr hlocks hP hS rfl dX9_runScript_64
      · skip
        replace c_14 := cn_nle (by omega) (by omega) c_14
        refine lv_iload hx hb dX9_runScript_17 (lv_at hl 0 rfl) ?_
        refine lv_iconst (v := (nI 4)) hx hb dX9_runScript_19 (by decide) ?_
        refine lv_icmp_ge (tgt := 37) hx hb dX9_runScript_20 (by decide) (fun c_20 => ?_) (fun c_20 => ?_)
        · skip
          replace c_20 := cn_le (by omega) (by omega) c_20
          have hkn : k = n := by omega
          have hu4 := u_lt hn4
          refine lv_iload_n hx hb dX9_runScript_37 rfl (lv_at hl 3 rfl) ?_
          refine lv_iconst (v := (nI 1)) hx hb dX9_runScript_38 (by decide) ?_
          refine lv_iconst (v := (nI 4)) hx hb dX9_runScript_39 (by decide) ?_
          refine gp_S (c_X9_in l D cI cZ cF cL ((nI n)) ((nI 1)) ((nI 4)) ) (gUS u_140 u_141 u_5 u_142) rfl hdS_X9_in ⟨Nat.le_of_ble_eq_true rfl, Nat.le_of_ble_eq_true rfl⟩ ⟨rfl, rfl⟩ hx hb hml hown hts hK hA hP hD hS hl.1 ⟨Nat.le_of_ble_eq_true rfl, Nat.le_of_ble_eq_true rfl⟩ (wr := (mX mr rf st ln 0 pl hs vs dg xx)) (pm_cnt (fun _ => by simp only [List.countP_append, List.countP_nil, fT] <;> omega)) (fun _ => by simp only [List.map_append, List.map_nil, fX_m, bX_m, sX_m, pX_m, iaX_m, r5X_m, r6X_m, fT_m, hX_m, tX_m, xX_m, sgX_m, zaX_m, fsB_a, qX_m, mX_m]) (rest := []) rfl rfl (Nat.le_of_ble_eq_true rfl) dX9_runScript_40 (ws2 := (fun _ : Unit => (mX mr rf st ln 0 pl hs vs dg xx))) (fun _ => (pm_cnt (fun _ => by simp only [List.countP_append, List.countP_nil, fT] <;> omega))) (fun _ Hp locs hP hD hS => ?_)
          refine lv_if_eq (tgt := 59) hx hb dX9_runScript_43 (by decide) (fun c_43 => ?_) (fun c_43 => ?_)
          · skip
            replace c_43 := cb_z c_43
            (exact absurd ((in_n (by omega) (by decide) (by decide)).mpr ⟨by omega, by omega⟩) c_43)
          · skip
            replace c_43 := cb_nz c_43
            refine lv_lload_n hx hb dX9_runScript_46 rfl (lv_at hl 4 rfl) ?_
            refine lv_lconst (v := 0) hx hb dX9_runScript_47 (by decide) ?_
            refine W.lcmp hx hb dX9_runScript_48 ?_
            refine lv_if_lt (tgt := 59) hx hb dX9_runScript_49 (by decide) (fun c_49 => ?_) (fun c_49 => ?_)
            · skip
              refine lv_aload_n hx hb dX9_runScript_59 rfl (lv_at hl 2 rfl) ?_
              refine lv_iconst (v := (nI 1)) hx hb dX9_runScript_60 (by decide) ?_
              refine gp_V (ci := 9) (q0 := 0) (cq := (RX9, TX9, 15)) (c_X9_fails l D cI cZ cF cL mr rf st ln 0 pl hs vs dg xx 1 ) (gUV u_175 u_176 u_177 u_5 u_178) rfl hdV_X9_fails ⟨Nat.le_of_ble_eq_true rfl, Nat.le_of_ble_eq_true rfl⟩ ⟨rfl, rfl⟩ hx hb hml hown hts hK hA hP hD hS hl.1 ⟨Nat.le_of_ble_eq_true rfl, Nat.le_of_ble_eq_true rfl⟩ rfl rfl rfl (wr := ([] : va_W)) (pm_cnt (fun _ => by simp only [List.countP_append, List.countP_nil, fT] <;> omega)) (fun _ => by simp only [List.map_append, List.map_nil, fX_m, bX_m, sX_m, pX_m, iaX_m, r5X_m, r6X_m, fT_m, hX_m, tX_m, xX_m, sgX_m, zaX_m, fsB_a, qX_m, mX_m]) (rest := []) rfl rfl (Nat.le_of_ble_eq_true rfl) dX9_runScript_61 (ws2 := (fun _ : Unit => (mX mr rf st ln 1 pl hs vs dg xx))) (fun _ => (pm_cnt (fun _ => by simp only [List.countP_append, List.countP_nil, fT] <;> omega))) (fun _ Hp locs hP hD hS => ?_)
              exact ct_i () hx hb hr hlocks hP hS rfl dX9_runScript_64
            · skip
              refine lv_lload_n hx hb dX9_runScript_52 rfl (lv_at hl 4 rfl) ?_
              refine lv_lload hx hb dX9_runScript_53 (lv_at hl 1 rfl) ?_
              refine W.lcmp hx hb dX9_runScript_55 ?_
              refine lv_if_lt (tgt := 65) hx hb dX9_runScript_56 (by decide) (fun c_56 => ?_) (fun c_56 => ?_)
              · skip
                (exact absurd ((lcm_lt hS0 (by rw [eu, hkn]; exact hu4)).mp c_56) (by rw [eu, hkn]; intro q; rw [Nat.div_eq_of_lt q] at hz; omega))
              · skip
                refine lv_aload_n hx hb dX9_runScript_59 rfl (lv_at hl 2 rfl) ?_
                refine lv_iconst (v := (nI 1)) hx hb dX9_runScript_60 (by decide) ?_
                refine gp_V (ci := 9) (q0 := 0) (cq := (RX9, TX9, 15)) (c_X9_fails l D cI cZ cF cL mr rf st ln 0 pl hs vs dg xx 1 ) (gUV u_175 u_176 u_177 u_5 u_178) rfl hdV_X9_fails ⟨Nat.le_of_ble_eq_true rfl, Nat.le_of_ble_eq_true rfl⟩ ⟨rfl, rfl⟩ hx hb hml hown hts hK hA hP hD hS hl.1 ⟨Nat.le_of_ble_eq_true rfl, Nat.le_of_ble_eq_true rfl⟩ rfl rfl rfl (wr := ([] : va_W)) (pm_cnt (fun _ => by simp only [List.countP_append, List.countP_nil, fT] <;> omega)) (fun _ => by simp only [List.map_append, List.map_nil, fX_m, bX_m, sX_m, pX_m, iaX_m, r5X_m, r6X_m, fT_m, hX_m, tX_m, xX_m, sgX_m, zaX_m, fsB_a, qX_m, mX_m]) (rest := []) rfl rfl (Nat.le_of_ble_eq_true rfl) dX9_runScript_61 (ws2 := (fun _ : Unit => (mX mr rf st ln 1 pl hs vs dg xx))) (fun _ => (pm_cnt (fun _ => by simp only [List.countP_append, List.countP_nil, fT] <;> omega))) (fun _ Hp locs hP hD hS => ?_)
                exact ct_i () hx hb hr hlocks hP hS rfl dX9_runScript_64
        · skip
          replace c_20 := cn_nle (by omega) (by omega) c_20
          refine lv_lload hx hb dX9_runScript_23 (lv_at hl 1 rfl) ?_
          refine lv_ldc2 (v := (10000)) hx hb hown (hts _ (kU u_861)) dX9_runScript_25 ?_
          rw [show ((10000) : Int64) = lN 10000 from by decide +kernel]
          refine lv_lmul hx hb dX9_runScript_28 ?_
          rw [lN_mul u 10000]
          refine lv_lstore (lv' := [(4, .long (lN (u * 10000))), (6, .int (nI k)), (0, .ref mr), (1, .int (nI n)), (2, .long (lN S))]) hx hb dX9_runScript_29 hl (by decide) rfl (fun ls hl => ?_)
          refine lv_iinc (v := (nI (k + 1))) (lv' := [(6, .int (nI (k + 1))), (4, .long (lN (u * 10000))), (0, .ref mr), (1, .int (nI n)), (2, .long (lN S))]) hx hb dX9_runScript_31 hl (k := 1) rfl (nI_add k 1) (by decide) rfl (fun ls hl => ?_)
          refine lv_goto (tgt := 11) hx hb dX9_runScript_34 (by decide) ?_
          exact ih_11 (k + 1) (u * 10000) (by omega) (by rw [eu, Nat.pow_succ]) (by omega) _ _ hP hD hS _ (lv_sub hl [0, 1, 2, 3, 4] rfl)
  exact loop_11 ((n - 0) + 1) 0 1 (Nat.zero_le _) rfl (Nat.lt_succ_self _) _ _ hP hD hS _ (lv_sub hl [0, 1, 2, 3, 4] rfl)
