theorem wb_tb (n : Nat) : (lN n).toBitVec = BitVec.ofNat 64 n := rfl
theorem wb_inj {a b : Int64} (h : a.toBitVec = b.toBitVec) : a = b := Int64.toBitVec_inj.mp h
theorem wb_tn {n : Nat} (h : n < 2 ^ 64) : (lN n).toBitVec.toNat = n := by rw [wb_tb, BitVec.toNat_ofNat, Nat.mod_eq_of_lt h]
theorem wb_of (x : Int64) : ∃ n, n < 2 ^ 64 ∧ x = lN n := ⟨x.toBitVec.toNat, x.toBitVec.isLt, wb_inj (by rw [wb_tb]; simp)⟩
theorem wb_of32 (x : Int32) : ∃ n, n < 2 ^ 32 ∧ x = nI n := ⟨x.toBitVec.toNat, x.toBitVec.isLt, Int32.toBitVec_inj.mp (by show _ = BitVec.ofNat 32 _; simp)⟩
theorem wb_c : ∀ k, k < 64 → ((nI k).toInt64 &&& 63) = lN k := by decide +kernel
theorem wb_cu : ∀ k, k < 64 → ((nI k).toInt64.toUInt64 &&& Int64.toUInt64 63) = UInt64.ofNat k := by decide +kernel
theorem wb_shr {n k : Nat} (hn : n < 2 ^ 64) (hk : k < 64) : ((lN n).toUInt64 >>> ((nI k).toInt64.toUInt64 &&& Int64.toUInt64 63)).toInt64 = lN (n / 2 ^ k) := by
  rw [wb_cu k hk]
  apply wb_inj
  apply BitVec.eq_of_toNat_eq
  show ((lN n).toUInt64 >>> UInt64.ofNat k).toNat = (BitVec.ofNat 64 _).toNat
  have h1 : (UInt64.ofNat k).toNat = k := by
    show (BitVec.ofNat 64 k).toNat = k
    rw [BitVec.toNat_ofNat, Nat.mod_eq_of_lt (by omega)]
  have h2 : (lN n).toUInt64.toNat = n := wb_tn hn
  rw [UInt64.toNat_shiftRight, h1, h2, Nat.mod_eq_of_lt hk, Nat.shiftRight_eq_div_pow, BitVec.toNat_ofNat, Nat.mod_eq_of_lt (Nat.lt_of_le_of_lt (Nat.div_le_self _ _) hn)]
/-- the draws of a simulation -/
def drX (x : Int64) : Int64 := x * 6364136223846793005 + 1442695040888963407
def drR (x : Int64) : Nat := x.toBitVec.toNat / 2 ^ 33
def itX (x : Int64) : Nat → Int64
  | 0 => x
  | n + 1 => drX (itX x n)
theorem drR_lt (x : Int64) : drR x < 2 ^ 31 := by
  have := x.toBitVec.isLt
  unfold drR
  omega
theorem drR_eq (x : Int64) : ((x.toUInt64 >>> ((nI 33).toInt64.toUInt64 &&& Int64.toUInt64 63)).toInt64).toInt32 = nI (drR x) := by
  obtain ⟨n, hn, rfl⟩ := wb_of x
  rw [wb_shr hn (by decide), lN_i]
  unfold drR
  rw [wb_tn hn]
theorem div_pow {S i : Nat} : S / 10000 ^ i / 10000 = S / 10000 ^ (i + 1) := by rw [Nat.div_div_eq_div_mul, Nat.pow_succ]
set_option maxRecDepth 20000 in
theorem u_811 : Cond.constantLong RX5 25 (10000) ∈ wsL_law := List.mem_of_getElem? (i := 811) (by decide +kernel)
set_option maxHeartbeats 4000000 in
set_option maxRecDepth 100000 in
theorem c_X5_withoutLast (l : Launch) (D : va_G) (cI cZ cF cL : ClassId) (S n : Nat) (hS0 : S < 2 ^ 63) (hn : n < 2 ^ 20) : CT l D (tysX cI cZ cF cL) yX5_withoutLast (wA yX5_withoutLast cX5_withoutLast 6 (some .long)) (rmF 0 0) [.long (lN S), .int (nI n)] ([] : va_W) (some (.long (lN (S / 10000 ^ n)))) (fun _ : Unit => ([] : va_W)) := by
  refine ct_in (cc := cX5_withoutLast) (maxL := 6) (ret := (some .long)) (own := RX5) (lv := [(0, .long (lN S)), (2, .int (nI n))]) (by decide +kernel) rfl rfl (Nat.le_of_ble_eq_true rfl) rfl ?_
  intro p e s m args below meth c A ls hx hb hr hml hts hown hlocks hK hA hP hD hS hl
  refine lv_lload_n hx hb dX5_withoutLast_0 rfl (lv_at hl 0 rfl) ?_
  refine lv_lstore_n (lv' := [(3, .long (lN S)), (0, .long (lN S)), (2, .int (nI n))]) hx hb dX5_withoutLast_1 rfl hl (by decide) rfl (fun ls hl => ?_)
  refine lv_iconst (v := (nI 0)) hx hb dX5_withoutLast_2 (by decide) ?_
  refine lv_istore (lv' := [(5, .int (nI 0)), (3, .long (lN S)), (0, .long (lN S)), (2, .int (nI n))]) hx hb dX5_withoutLast_3 hl (by decide) rfl (fun ls hl => ?_)
  have loop_5 : ∀ (dd : Nat) (i : Nat) (k : Nat), (i ≤ n) → (k = S / 10000 ^ i) → (n - i) < dd → ∀ (Hp : Heap) (locs : List Loc), va_P D vwCl ([] : va_W) Hp → va_D A ([] : va_W) → va_S A s.heap Hp locs → ∀ ls : Array Slot, lv_has ls 6 [(5, .int (nI i)), (3, .long (lN k)), (0, .long (lN S)), (2, .int (nI n))] → W p l e (rmF 0 0) s m args below meth c Hp locs 0 0 (MQ below (CQ D (some (.long (lN (S / 10000 ^ n)))) (fun _ : Unit => ([] : va_W)) A) args s 0 0 A) (F0 m 5 ls []) := by
    intro dd
    induction dd with
    | zero => intro i k hi ek hm; exact absurd hm (Nat.not_lt_zero _)
    | succ dd ih_5 =>
      intro i k hi ek hm Hp locs hP hD hS ls hl
      refine lv_iload hx hb dX5_withoutLast_5 (lv_at hl 0 rfl) ?_
      refine lv_iload_n hx hb dX5_withoutLast_7 rfl (lv_at hl 3 rfl) ?_
      refine lv_icmp_ge (tgt := 23) hx hb dX5_withoutLast_8 (by decide) (fun c_8 => ?_) (fun c_8 => ?_)
      · skip
        replace c_8 := cn_le (by omega) (by omega) c_8
        refine lv_lload_n hx hb dX5_withoutLast_23 rfl (lv_at hl 1 rfl) ?_
        exact ct_l () hx hb hr hlocks hP hS (by rw [ek, show i = n by omega]) dX5_withoutLast_24
      · skip
        replace c_8 := cn_nle (by omega) (by omega) c_8
        refine lv_lload_n hx hb dX5_withoutLast_11 rfl (lv_at hl 1 rfl) ?_
        refine lv_ldc2 (v := (10000)) hx hb hown (hts _ (kU u_811)) dX5_withoutLast_12 ?_
        rw [show ((10000) : Int64) = lN 10000 from by decide +kernel]
        refine lv_ldiv hx hb dX5_withoutLast_15 (by decide +kernel) ?_
        rw [pk_lDiv (a := k) (b := 10000) (by have := Nat.div_le_self S (10000 ^ i); omega) (by decide) (by decide)]
        refine lv_lstore_n (lv' := [(3, .long (lN (k / 10000))), (5, .int (nI i)), (0, .long (lN S)), (2, .int (nI n))]) hx hb dX5_withoutLast_16 rfl hl (by decide) rfl (fun ls hl => ?_)
        refine lv_iinc (v := (nI (i + 1))) (lv' := [(5, .int (nI (i + 1))), (3, .long (lN (k / 10000))), (0, .long (lN S)), (2, .int (nI n))]) hx hb dX5_withoutLast_17 hl (k := 1) rfl (nI_add i 1) (by decide) rfl (fun ls hl => ?_)
        refine lv_goto (tgt := 5) hx hb dX5_withoutLast_20 (by decide) ?_
        exact ih_5 (i + 1) (k / 10000) (by omega) (by rw [ek, div_pow]) (by omega) _ _ hP hD hS _ (lv_sub hl [0, 1, 2, 3] rfl)
  exact loop_5 ((n - 0) + 1) 0 S (by omega) (by rw [Nat.pow_zero, Nat.div_one]) (Nat.lt_succ_self _) _ _ hP hD hS _ (lv_sub hl [0, 1, 2, 3] rfl)
set_option maxRecDepth 20000 in
theorem u_881 : Cond.fieldLink RX6 29 "HarvestBoxes$Simulation" "x" "J" ∈ wsL_law := List.mem_of_getElem? (i := 881) (by decide +kernel)
set_option maxRecDepth 20000 in
theorem u_896 : Cond.constantLong RX6 56 (6364136223846793005) ∈ wsL_law := List.mem_of_getElem? (i := 896) (by decide +kernel)
set_option maxRecDepth 20000 in
theorem u_897 : Cond.constantLong RX6 58 (1442695040888963407) ∈ wsL_law := List.mem_of_getElem? (i := 897) (by decide +kernel)
set_option maxHeartbeats 4000000 in
set_option maxRecDepth 100000 in
theorem c_X6_draw (l : Launch) (D : va_G) (cI cZ cF cL : ClassId) (r0 : Nat) (b : Nat → Nat) (a : Nat → Nat) (x0 : Int64)  : CT l D (tysX cI cZ cF cL) yX6_draw (wA yX6_draw cX6_draw 1 (some .int)) (rmF 0 0) [.ref r0] (r6X r0 a b x0) (some (.int (nI (drR (drX x0))))) (fun _ : Unit => (r6X r0 a b (drX x0))) := by
  refine ct_in (cc := cX6_draw) (maxL := 1) (ret := (some .int)) (own := RX6) (lv := [(0, .ref r0)]) (by decide +kernel) rfl rfl (Nat.le_of_ble_eq_true rfl) rfl ?_
  intro p e s m args below meth c A ls hx hb hr hml hts hown hlocks hK hA hP hD hS hl
  refine lv_aload_n hx hb dX6_draw_0 rfl (lv_at hl 0 rfl) ?_
  refine lv_aload_n hx hb dX6_draw_1 rfl (lv_at hl 0 rfl) ?_
  refine gf_n (C := RX6) (T := TX6) (N := 3) (ci := 6) (q0 := 0) (v := .long x0) hx hb hts (iU inlX6) hown hK hP rfl rfl 2 (by decide) (kU u_881) rfl rfl dX6_draw_2 ?_
  refine lv_ldc2 (v := (6364136223846793005)) hx hb hown (hts _ (kU u_896)) dX6_draw_5 ?_
  refine lv_lmul hx hb dX6_draw_8 ?_
  refine lv_ldc2 (v := (1442695040888963407)) hx hb hown (hts _ (kU u_897)) dX6_draw_9 ?_
  refine lv_ladd hx hb dX6_draw_12 ?_
  refine pf_n (C := RX6) (T := TX6) (N := 3) (ci := 6) (q0 := 0) (ty := .long) (v := .long ((x0 * ((6364136223846793005))) + ((1442695040888963407)))) (ws2 := (r6X r0 a b ((x0 * ((6364136223846793005))) + ((1442695040888963407))))) hx hb hts (iU inlX6) tyX6 tyX6_ok nmX6 hown hK hP hD hS rfl rfl 2 (by decide) (kU u_881) rfl rfl (tyX6_ok 2 (by decide)) rfl rfl (Nat.le_of_ble_eq_true rfl) dX6_draw_13 rfl (fun Hp locs hP hD hS => ?_)
  refine lv_aload_n hx hb dX6_draw_16 rfl (lv_at hl 0 rfl) ?_
  refine gf_n (C := RX6) (T := TX6) (N := 3) (ci := 6) (q0 := 0) (v := .long ((x0 * ((6364136223846793005))) + ((1442695040888963407)))) hx hb hts (iU inlX6) hown hK hP rfl rfl 2 (by decide) (kU u_881) rfl rfl dX6_draw_17 ?_
  refine lv_bipush (v := (nI 33)) hx hb dX6_draw_20 (by decide) ?_
  refine lv_lushr (v := (((x0 * ((6364136223846793005))) + ((1442695040888963407))).toUInt64 >>> ((nI 33).toInt64.toUInt64 &&& Int64.toUInt64 63)).toInt64) hx hb dX6_draw_22 rfl ?_
  refine lv_l2i (v := ((((x0 * ((6364136223846793005))) + ((1442695040888963407))).toUInt64 >>> ((nI 33).toInt64.toUInt64 &&& Int64.toUInt64 63)).toInt64).toInt32) hx hb dX6_draw_23 rfl ?_
  exact ct_i () hx hb hr hlocks hP hS (drR_eq _) dX6_draw_24
set_option maxRecDepth 20000 in
theorem u_120 : Cond.fieldLink RX6 12 "HarvestBoxes$Simulation" "farm" "LHarvestBoxes$Farm;" ∈ wsL_law := List.mem_of_getElem? (i := 120) (by decide +kernel)
set_option maxRecDepth 20000 in
theorem u_890 : Cond.fieldLink RX6 60 "HarvestBoxes$Farm" "vegetables" "I" ∈ wsL_law := List.mem_of_getElem? (i := 890) (by decide +kernel)
set_option maxRecDepth 20000 in
theorem u_891 : Cond.fieldLink RX6 63 "HarvestBoxes$Farm" "harvest" "[I" ∈ wsL_law := List.mem_of_getElem? (i := 891) (by decide +kernel)
set_option maxRecDepth 20000 in
theorem u_895 : Cond.code yX6_draw cX6_draw 1 (some .int) ∈ wsL_law := List.mem_of_getElem? (i := 895) (by decide +kernel)
set_option maxRecDepth 20000 in
theorem u_892 : Cond.methodLink RX6 67 yX6_draw ∈ wsL_law := List.mem_of_getElem? (i := 892) (by decide +kernel)
set_option maxRecDepth 20000 in
theorem u_893 : Cond.instanceMethod yX6_draw ∈ wsL_law := List.mem_of_getElem? (i := 893) (by decide +kernel)
set_option maxRecDepth 20000 in
theorem u_894 : Cond.selects RX6 yX6_draw yX6_draw ∈ wsL_law := List.mem_of_getElem? (i := 894) (by decide +kernel)
set_option maxRecDepth 20000 in
theorem u_48 : Cond.initialized RX6 ∈ wsL_law := List.mem_of_getElem? (i := 48) (by decide +kernel)
theorem hdV_X6_draw : yX6_draw.cls = RX6 ∧ yX6_draw.cls ≠ "java/lang/invoke/MethodHandle" ∧ yX6_draw.cls ≠ "java/lang/invoke/VarHandle" ∧ (parseMethodDescriptor yX6_draw.desc).map (fun d => d.parameters.length) = some 0 := by decide +kernel
set_option maxHeartbeats 4000000 in
set_option maxRecDepth 100000 in
theorem c_X6_drawHarvests (l : Launch) (D : va_G) (cI cZ cF cL : ClassId) (r0 : Nat) (b : Nat → Nat) (x0 : Int64) (a : Nat → Nat) (nH nV wk ea gi sw : Nat) (f1 f2 f3 f4 f5 f6 f7 f8 : Nat → Nat) (hV : nV ≤ 5) : CT l D (tysX cI cZ cF cL) yX6_drawHarvests (wA yX6_drawHarvests cX6_drawHarvests 2 none) (rmF 1 20) [.ref r0] (r6X r0 a b x0 ++ fX cI a nH nV wk ea gi sw f1 f2 f3 f4 f5 f6 f7 f8) (none : Option Value) (fun _ : Unit => (r6X r0 a b (itX x0 nV) ++ fX cI a nH nV wk ea gi sw f1 f2 f3 f4 (tabN (fun i => drR (itX x0 (i + 1)) % 20) nV f5) f6 f7 f8)) := by
  refine ct_in (cc := cX6_drawHarvests) (maxL := 2) (ret := none) (own := RX6) (lv := [(0, .ref r0)]) (by decide +kernel) rfl rfl (Nat.le_of_ble_eq_true rfl) rfl ?_
  intro p e s m args below meth c A ls hx hb hr hml hts hown hlocks hK hA hP hD hS hl
  refine lv_iconst (v := (nI 0)) hx hb dX6_drawHarvests_0 (by decide) ?_
  refine lv_istore_n (lv' := [(1, .int (nI 0)), (0, .ref r0)]) hx hb dX6_drawHarvests_1 rfl hl (by decide) rfl (fun ls hl => ?_)
  have loop_2 : ∀ (dd : Nat) (i : Nat) (y : Int64) (g : Nat → Nat), (i ≤ nV) → (y = itX x0 i) → (g = tabN (fun i => drR (itX x0 (i + 1)) % 20) i f5) → (nV - i) < dd → ∀ (Hp : Heap) (locs : List Loc), va_P D vwCl (r6X r0 a b y ++ fX cI a nH nV wk ea gi sw f1 f2 f3 f4 g f6 f7 f8) Hp → va_D A (r6X r0 a b y ++ fX cI a nH nV wk ea gi sw f1 f2 f3 f4 g f6 f7 f8) → va_S A s.heap Hp locs → ∀ ls : Array Slot, lv_has ls 2 [(1, .int (nI i)), (0, .ref r0)] → W p l e (rmF 1 20) s m args below meth c Hp locs 0 0 (MQ below (CQ D (none : Option Value) (fun _ : Unit => (r6X r0 a b (itX x0 nV) ++ fX cI a nH nV wk ea gi sw f1 f2 f3 f4 (tabN (fun i => drR (itX x0 (i + 1)) % 20) nV f5) f6 f7 f8)) A) args s 0 0 A) (F0 m 2 ls []) := by
    intro dd
    induction dd with
    | zero => intro i y g hi ey eg hm; exact absurd hm (Nat.not_lt_zero _)
    | succ dd ih_2 =>
      intro i y g hi ey eg hm Hp locs hP hD hS ls hl
      refine lv_iload_n hx hb dX6_drawHarvests_2 rfl (lv_at hl 0 rfl) ?_
      refine lv_aload_n hx hb dX6_drawHarvests_3 rfl (lv_at hl 1 rfl) ?_
      refine gf_n (C := RX6) (T := TX6) (N := 3) (ci := 6) (q0 := 0) (v := .ref (a 0)) hx hb hts (iU inlX6) hown hK hP rfl rfl 0 (by decide) (kU u_120) rfl rfl dX6_drawHarvests_4 ?_
      refine gf_n (C := RX1) (T := TX1) (N := 14) (ci := 1) (q0 := 1) (v := .int (nI nV)) hx hb hts (iU inlX1) hown hK hP rfl rfl 1 (by decide) (kU u_890) rfl rfl dX6_drawHarvests_7 ?_
      refine lv_icmp_ge (tgt := 35) hx hb dX6_drawHarvests_10 (by decide) (fun c_10 => ?_) (fun c_10 => ?_)
      · skip
        replace c_10 := cn_le (by omega) (by omega) c_10
        exact ct_v () hx hb hr hlocks (by rw [ey, eg, show i = nV by omega] at hP; exact hP) hS dX6_drawHarvests_35
      · skip
        replace c_10 := cn_nle (by omega) (by omega) c_10
        refine lv_aload_n hx hb dX6_drawHarvests_13 rfl (lv_at hl 1 rfl) ?_
        refine gf_n (C := RX6) (T := TX6) (N := 3) (ci := 6) (q0 := 0) (v := .ref (a 0)) hx hb hts (iU inlX6) hown hK hP rfl rfl 0 (by decide) (kU u_120) rfl rfl dX6_drawHarvests_14 ?_
        refine gf_n (C := RX1) (T := TX1) (N := 14) (ci := 1) (q0 := 1) (v := .ref (a 5)) hx hb hts (iU inlX1) hown hK hP rfl rfl 10 (by decide) (kU u_891) rfl rfl dX6_drawHarvests_17 ?_
        refine lv_iload_n hx hb dX6_drawHarvests_20 rfl (lv_at hl 0 rfl) ?_
        refine lv_aload_n hx hb dX6_drawHarvests_21 rfl (lv_at hl 1 rfl) ?_
        refine go_V (ci := 6) (q0 := 0) (cq := (RX6, TX6, 3)) (c_X6_draw l D cI cZ cF cL r0 b a y ) (gUV u_892 u_893 u_894 u_48 u_895) rfl hdV_X6_draw ⟨Nat.le_of_ble_eq_true rfl, Nat.le_of_ble_eq_true rfl⟩ ⟨rfl, rfl⟩ hx hb hml hown hts hK hA hP hD hS hl.1 ⟨Nat.le_of_ble_eq_true rfl, Nat.le_of_ble_eq_true rfl⟩ rfl rfl rfl [0] rfl rfl (fun _ => by simp only [r6X, List.map_cons, List.map_nil]) (rest := [.int (nI i), .ref (a 5)]) rfl rfl (Nat.le_of_ble_eq_true rfl) dX6_drawHarvests_22 (ws2 := (fun _ : Unit => (r6X r0 a b (drX y) ++ fX cI a nH nV wk ea gi sw f1 f2 f3 f4 g f6 f7 f8))) (fun _ => rfl) (fun _ Hp locs hP hD hS => ?_)
        refine lv_bipush (v := (nI 20)) hx hb dX6_drawHarvests_25 (by decide) ?_
        refine lv_irem hx hb dX6_drawHarvests_27 (by decide) ?_
        rw [pk_rem (a := drR (drX y)) (d := 20) (drR_lt _) (by decide) (by decide)]
        refine is_n (q0 := 6) (t0 := 0) (ws2 := (r6X r0 a b (drX y) ++ fX cI a nH nV wk ea gi sw f1 f2 f3 f4 (va_up g i ((drR (drX y)) % 20)) f6 f7 f8)) hx hb hK hP hD hS rfl rfl (by omega) (by decide) dX6_drawHarvests_28 rfl (fun Hp locs hP hD hS => ?_)
        refine lv_iinc (v := (nI (i + 1))) (lv' := [(1, .int (nI (i + 1))), (0, .ref r0)]) hx hb dX6_drawHarvests_29 hl (k := 0) rfl (nI_add i 1) (by decide) rfl (fun ls hl => ?_)
        refine lv_goto (tgt := 2) hx hb dX6_drawHarvests_32 (by decide) ?_
        exact ih_2 (i + 1) ((drX y)) (va_up g i ((drR (drX y)) % 20)) (by omega) (by rw [ey]; rfl) (by rw [eg, ← tabN_s, ey]; rfl) (by omega) _ _ hP hD hS _ (lv_sub hl [0, 1] rfl)
  exact loop_2 ((nV - 0) + 1) 0 x0 f5 (by omega) rfl (tabN_0 _ _).symm (Nat.lt_succ_self _) _ _ hP hD hS _ (lv_sub hl [0, 1] rfl)
set_option maxRecDepth 20000 in
theorem u_902 : Cond.fieldLink RX6 70 "HarvestBoxes$Farm" "houses" "I" ∈ wsL_law := List.mem_of_getElem? (i := 902) (by decide +kernel)
set_option maxRecDepth 20000 in
theorem u_903 : Cond.fieldLink RX6 73 "HarvestBoxes$Farm" "skipping" "[I" ∈ wsL_law := List.mem_of_getElem? (i := 903) (by decide +kernel)
set_option maxRecDepth 20000 in
theorem u_904 : Cond.fieldLink RX6 76 "HarvestBoxes$Farm" "owed" "[I" ∈ wsL_law := List.mem_of_getElem? (i := 904) (by decide +kernel)
set_option maxHeartbeats 4000000 in
set_option maxRecDepth 100000 in
theorem c_X6_drawHouses (l : Launch) (D : va_G) (cI cZ cF cL : ClassId) (r0 : Nat) (b : Nat → Nat) (x0 : Int64) (a : Nat → Nat) (nH nV wk ea gi sw : Nat) (f1 f2 f3 f4 f5 f6 f7 f8 : Nat → Nat) (hH : nH ≤ 6) : CT l D (tysX cI cZ cF cL) yX6_drawHouses (wA yX6_drawHouses cX6_drawHouses 3 none) (rmF 1 20) [.ref r0] (r6X r0 a b x0 ++ fX cI a nH nV wk ea gi sw f1 f2 f3 f4 f5 f6 f7 f8) (none : Option Value) (fun _ : Unit => (r6X r0 a b (itX x0 nH) ++ fX cI a nH nV wk ea gi sw f1 (tabN (fun h => if drR (itX x0 (h + 1)) % 4 = 1 then 0 else f2 h) nH f2) f3 (tabN (fun h => if drR (itX x0 (h + 1)) % 4 = 0 then 1 else 0) nH f4) f5 f6 f7 f8)) := by
  refine ct_in (cc := cX6_drawHouses) (maxL := 3) (ret := none) (own := RX6) (lv := [(0, .ref r0)]) (by decide +kernel) rfl rfl (Nat.le_of_ble_eq_true rfl) rfl ?_
  intro p e s m args below meth c A ls hx hb hr hml hts hown hlocks hK hA hP hD hS hl
  refine lv_iconst (v := (nI 0)) hx hb dX6_drawHouses_0 (by decide) ?_
  refine lv_istore_n (lv' := [(1, .int (nI 0)), (0, .ref r0)]) hx hb dX6_drawHouses_1 rfl hl (by decide) rfl (fun ls hl => ?_)
  have loop_2 : ∀ (dd : Nat) (i : Nat) (y : Int64) (g4 : Nat → Nat) (g2 : Nat → Nat), (i ≤ nH) → (y = itX x0 i) → (g4 = tabN (fun h => if drR (itX x0 (h + 1)) % 4 = 0 then 1 else 0) i f4) → (g2 = tabN (fun h => if drR (itX x0 (h + 1)) % 4 = 1 then 0 else f2 h) i f2) → (nH - i) < dd → ∀ (Hp : Heap) (locs : List Loc), va_P D vwCl (r6X r0 a b y ++ fX cI a nH nV wk ea gi sw f1 g2 f3 g4 f5 f6 f7 f8) Hp → va_D A (r6X r0 a b y ++ fX cI a nH nV wk ea gi sw f1 g2 f3 g4 f5 f6 f7 f8) → va_S A s.heap Hp locs → ∀ ls : Array Slot, lv_has ls 3 [(1, .int (nI i)), (0, .ref r0)] → W p l e (rmF 1 20) s m args below meth c Hp locs 0 0 (MQ below (CQ D (none : Option Value) (fun _ : Unit => (r6X r0 a b (itX x0 nH) ++ fX cI a nH nV wk ea gi sw f1 (tabN (fun h => if drR (itX x0 (h + 1)) % 4 = 1 then 0 else f2 h) nH f2) f3 (tabN (fun h => if drR (itX x0 (h + 1)) % 4 = 0 then 1 else 0) nH f4) f5 f6 f7 f8)) A) args s 0 0 A) (F0 m 2 ls []) := by
    intro dd
    induction dd with
    | zero => intro i y g4 g2 hi ey e4 e2 hm; exact absurd hm (Nat.not_lt_zero _)
    | succ dd ih_2 =>
      intro i y g4 g2 hi ey e4 e2 hm Hp locs hP hD hS ls hl
      refine lv_iload_n hx hb dX6_drawHouses_2 rfl (lv_at hl 0 rfl) ?_
      refine lv_aload_n hx hb dX6_drawHouses_3 rfl (lv_at hl 1 rfl) ?_
      refine gf_n (C := RX6) (T := TX6) (N := 3) (ci := 6) (q0 := 0) (v := .ref (a 0)) hx hb hts (iU inlX6) hown hK hP rfl rfl 0 (by decide) (kU u_120) rfl rfl dX6_drawHouses_4 ?_
      refine gf_n (C := RX1) (T := TX1) (N := 14) (ci := 1) (q0 := 1) (v := .int (nI nH)) hx hb hts (iU inlX1) hown hK hP rfl rfl 0 (by decide) (kU u_902) rfl rfl dX6_drawHouses_7 ?_
      refine lv_icmp_ge (tgt := 59) hx hb dX6_drawHouses_10 (by decide) (fun c_10 => ?_) (fun c_10 => ?_)
      · skip
        replace c_10 := cn_le (by omega) (by omega) c_10
        exact ct_v () hx hb hr hlocks (by rw [ey, e4, e2, show i = nH by omega] at hP; exact hP) hS dX6_drawHouses_59
      · skip
        replace c_10 := cn_nle (by omega) (by omega) c_10
        refine lv_aload_n hx hb dX6_drawHouses_13 rfl (lv_at hl 1 rfl) ?_
        refine go_V (ci := 6) (q0 := 0) (cq := (RX6, TX6, 3)) (c_X6_draw l D cI cZ cF cL r0 b a y ) (gUV u_892 u_893 u_894 u_48 u_895) rfl hdV_X6_draw ⟨Nat.le_of_ble_eq_true rfl, Nat.le_of_ble_eq_true rfl⟩ ⟨rfl, rfl⟩ hx hb hml hown hts hK hA hP hD hS hl.1 ⟨Nat.le_of_ble_eq_true rfl, Nat.le_of_ble_eq_true rfl⟩ rfl rfl rfl [0] rfl rfl (fun _ => by simp only [r6X, List.map_cons, List.map_nil]) (rest := []) rfl rfl (Nat.le_of_ble_eq_true rfl) dX6_drawHouses_14 (ws2 := (fun _ : Unit => (r6X r0 a b (drX y) ++ fX cI a nH nV wk ea gi sw f1 g2 f3 g4 f5 f6 f7 f8))) (fun _ => rfl) (fun _ Hp locs hP hD hS => ?_)
        refine lv_iconst (v := (nI 4)) hx hb dX6_drawHouses_17 (by decide) ?_
        refine lv_irem hx hb dX6_drawHouses_18 (by decide) ?_
        rw [pk_rem (a := drR (drX y)) (d := 4) (drR_lt _) (by decide) (by decide)]
        refine lv_istore_n (lv' := [(2, .int (nI ((drR (drX y)) % 4))), (1, .int (nI i)), (0, .ref r0)]) hx hb dX6_drawHouses_19 rfl hl (by decide) rfl (fun ls hl => ?_)
        refine lv_aload_n hx hb dX6_drawHouses_20 rfl (lv_at hl 2 rfl) ?_
        refine gf_n (C := RX6) (T := TX6) (N := 3) (ci := 6) (q0 := 0) (v := .ref (a 0)) hx hb hts (iU inlX6) hown hK hP rfl rfl 0 (by decide) (kU u_120) rfl rfl dX6_drawHouses_21 ?_
        refine gf_n (C := RX1) (T := TX1) (N := 14) (ci := 1) (q0 := 1) (v := .ref (a 4)) hx hb hts (iU inlX1) hown hK hP rfl rfl 9 (by decide) (kU u_903) rfl rfl dX6_drawHouses_24 ?_
        refine lv_iload_n hx hb dX6_drawHouses_27 rfl (lv_at hl 1 rfl) ?_
        refine lv_iload_n hx hb dX6_drawHouses_28 rfl (lv_at hl 0 rfl) ?_
        refine lv_if_ne (tgt := 36) hx hb dX6_drawHouses_29 (by decide) (fun c_29 => ?_) (fun c_29 => ?_)
        · skip
          replace c_29 := cn_ne (b := 0) c_29
          refine lv_iconst (v := (nI 0)) hx hb dX6_drawHouses_36 (by decide) ?_
          refine is_n (q0 := 5) (t0 := 0) (ws2 := (r6X r0 a b (drX y) ++ fX cI a nH nV wk ea gi sw f1 g2 f3 (va_up g4 i 0) f5 f6 f7 f8)) hx hb hK hP hD hS rfl rfl (by omega) (by decide) dX6_drawHouses_37 rfl (fun Hp locs hP hD hS => ?_)
          refine lv_iload_n hx hb dX6_drawHouses_38 rfl (lv_at hl 0 rfl) ?_
          refine lv_iconst (v := (nI 1)) hx hb dX6_drawHouses_39 (by decide) ?_
          refine lv_icmp_ne (tgt := 53) hx hb dX6_drawHouses_40 (by decide) (fun c_40 => ?_) (fun c_40 => ?_)
          · skip
            replace c_40 := cn_ne c_40
            refine lv_iinc (v := (nI (i + 1))) (lv' := [(1, .int (nI (i + 1))), (2, .int (nI ((drR (drX y)) % 4))), (0, .ref r0)]) hx hb dX6_drawHouses_53 hl (k := 1) rfl (nI_add i 1) (by decide) rfl (fun ls hl => ?_)
            refine lv_goto (tgt := 2) hx hb dX6_drawHouses_56 (by decide) ?_
            exact ih_2 (i + 1) ((drX y)) (va_up g4 i 0) g2 (by omega) (by rw [ey]; rfl) (by subst ey; first | (rw [e4, ← tabN_s]; congr 1; exact (if_pos c_29).symm) | (rw [e4, ← tabN_s]; congr 1; exact (if_neg c_29).symm)) (by subst ey; first | (rw [e2, ← tabN_s]; congr 1; exact (if_pos c_40).symm) | (rw [e2]; exact (tabN_k (if_neg c_40)).symm)) (by omega) _ _ hP hD hS _ (lv_sub hl [0, 2] rfl)
          · skip
            replace c_40 := cn_eq (by omega) (by decide) c_40
            refine lv_aload_n hx hb dX6_drawHouses_43 rfl (lv_at hl 2 rfl) ?_
            refine gf_n (C := RX6) (T := TX6) (N := 3) (ci := 6) (q0 := 0) (v := .ref (a 0)) hx hb hts (iU inlX6) hown hK hP rfl rfl 0 (by decide) (kU u_120) rfl rfl dX6_drawHouses_44 ?_
            refine gf_n (C := RX1) (T := TX1) (N := 14) (ci := 1) (q0 := 1) (v := .ref (a 2)) hx hb hts (iU inlX1) hown hK hP rfl rfl 7 (by decide) (kU u_904) rfl rfl dX6_drawHouses_47 ?_
            refine lv_iload_n hx hb dX6_drawHouses_50 rfl (lv_at hl 1 rfl) ?_
            refine lv_iconst (v := (nI 0)) hx hb dX6_drawHouses_51 (by decide) ?_
            refine is_n (q0 := 3) (t0 := 0) (ws2 := (r6X r0 a b (drX y) ++ fX cI a nH nV wk ea gi sw f1 (va_up g2 i 0) f3 (va_up g4 i 0) f5 f6 f7 f8)) hx hb hK hP hD hS rfl rfl (by omega) (by decide) dX6_drawHouses_52 rfl (fun Hp locs hP hD hS => ?_)
            refine lv_iinc (v := (nI (i + 1))) (lv' := [(1, .int (nI (i + 1))), (2, .int (nI ((drR (drX y)) % 4))), (0, .ref r0)]) hx hb dX6_drawHouses_53 hl (k := 1) rfl (nI_add i 1) (by decide) rfl (fun ls hl => ?_)
            refine lv_goto (tgt := 2) hx hb dX6_drawHouses_56 (by decide) ?_
            exact ih_2 (i + 1) ((drX y)) (va_up g4 i 0) (va_up g2 i 0) (by omega) (by rw [ey]; rfl) (by subst ey; first | (rw [e4, ← tabN_s]; congr 1; exact (if_pos c_29).symm) | (rw [e4, ← tabN_s]; congr 1; exact (if_neg c_29).symm)) (by subst ey; first | (rw [e2, ← tabN_s]; congr 1; exact (if_pos c_40).symm) | (rw [e2]; exact (tabN_k (if_neg c_40)).symm)) (by omega) _ _ hP hD hS _ (lv_sub hl [0, 2] rfl)
        · skip
          replace c_29 := cn_eq (b := 0) (by omega) (by decide) c_29
          refine lv_iconst (v := (nI 1)) hx hb dX6_drawHouses_32 (by decide) ?_
          refine lv_goto (tgt := 37) hx hb dX6_drawHouses_33 (by decide) ?_
          refine is_n (q0 := 5) (t0 := 0) (ws2 := (r6X r0 a b (drX y) ++ fX cI a nH nV wk ea gi sw f1 g2 f3 (va_up g4 i 1) f5 f6 f7 f8)) hx hb hK hP hD hS rfl rfl (by omega) (by decide) dX6_drawHouses_37 rfl (fun Hp locs hP hD hS => ?_)
          refine lv_iload_n hx hb dX6_drawHouses_38 rfl (lv_at hl 0 rfl) ?_
          refine lv_iconst (v := (nI 1)) hx hb dX6_drawHouses_39 (by decide) ?_
          refine lv_icmp_ne (tgt := 53) hx hb dX6_drawHouses_40 (by decide) (fun c_40 => ?_) (fun c_40 => ?_)
          · skip
            replace c_40 := cn_ne c_40
            refine lv_iinc (v := (nI (i + 1))) (lv' := [(1, .int (nI (i + 1))), (2, .int (nI ((drR (drX y)) % 4))), (0, .ref r0)]) hx hb dX6_drawHouses_53 hl (k := 1) rfl (nI_add i 1) (by decide) rfl (fun ls hl => ?_)
            refine lv_goto (tgt := 2) hx hb dX6_drawHouses_56 (by decide) ?_
            exact ih_2 (i + 1) ((drX y)) (va_up g4 i 1) g2 (by omega) (by rw [ey]; rfl) (by subst ey; first | (rw [e4, ← tabN_s]; congr 1; exact (if_pos c_29).symm) | (rw [e4, ← tabN_s]; congr 1; exact (if_neg c_29).symm)) (by subst ey; first | (rw [e2, ← tabN_s]; congr 1; exact (if_pos c_40).symm) | (rw [e2]; exact (tabN_k (if_neg c_40)).symm)) (by omega) _ _ hP hD hS _ (lv_sub hl [0, 2] rfl)
          · skip
            replace c_40 := cn_eq (by omega) (by decide) c_40
            refine lv_aload_n hx hb dX6_drawHouses_43 rfl (lv_at hl 2 rfl) ?_
            refine gf_n (C := RX6) (T := TX6) (N := 3) (ci := 6) (q0 := 0) (v := .ref (a 0)) hx hb hts (iU inlX6) hown hK hP rfl rfl 0 (by decide) (kU u_120) rfl rfl dX6_drawHouses_44 ?_
            refine gf_n (C := RX1) (T := TX1) (N := 14) (ci := 1) (q0 := 1) (v := .ref (a 2)) hx hb hts (iU inlX1) hown hK hP rfl rfl 7 (by decide) (kU u_904) rfl rfl dX6_drawHouses_47 ?_
            refine lv_iload_n hx hb dX6_drawHouses_50 rfl (lv_at hl 1 rfl) ?_
            refine lv_iconst (v := (nI 0)) hx hb dX6_drawHouses_51 (by decide) ?_
            refine is_n (q0 := 3) (t0 := 0) (ws2 := (r6X r0 a b (drX y) ++ fX cI a nH nV wk ea gi sw f1 (va_up g2 i 0) f3 (va_up g4 i 1) f5 f6 f7 f8)) hx hb hK hP hD hS rfl rfl (by omega) (by decide) dX6_drawHouses_52 rfl (fun Hp locs hP hD hS => ?_)
            refine lv_iinc (v := (nI (i + 1))) (lv' := [(1, .int (nI (i + 1))), (2, .int (nI ((drR (drX y)) % 4))), (0, .ref r0)]) hx hb dX6_drawHouses_53 hl (k := 1) rfl (nI_add i 1) (by decide) rfl (fun ls hl => ?_)
            refine lv_goto (tgt := 2) hx hb dX6_drawHouses_56 (by decide) ?_
            exact ih_2 (i + 1) ((drX y)) (va_up g4 i 1) (va_up g2 i 0) (by omega) (by rw [ey]; rfl) (by subst ey; first | (rw [e4, ← tabN_s]; congr 1; exact (if_pos c_29).symm) | (rw [e4, ← tabN_s]; congr 1; exact (if_neg c_29).symm)) (by subst ey; first | (rw [e2, ← tabN_s]; congr 1; exact (if_pos c_40).symm) | (rw [e2]; exact (tabN_k (if_neg c_40)).symm)) (by omega) _ _ hP hD hS _ (lv_sub hl [0, 2] rfl)
  exact loop_2 ((nH - 0) + 1) 0 x0 f4 f2 (by omega) rfl (tabN_0 _ _).symm (tabN_0 _ _).symm (Nat.lt_succ_self _) _ _ hP hD hS _ (lv_sub hl [0, 1] rfl)
