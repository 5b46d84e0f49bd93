def q0N : Nat → Nat := fun k => if 40 ≤ k ∧ k ≤ 69 then 5 else 0
/-- rows of a hundred, one behind another -/
def rmQ (Q : Nat → Nat → Nat) : Nat → Nat := fun k => Q (k / 100) (k % 100)
def shQ (Q : Nat → Nat → Nat) : Nat → Nat → Nat := va_up (fun j => Q (j + 1)) 13 (Q 13)
theorem rm_put (Q : Nat → Nat → Nat) (n i : Nat) (g : Nat → Nat) (k : Nat) (hi : 100 ≤ i) : (if 100 * n ≤ k ∧ k < 100 * n + 100 then g (k - 100 * n) else rmQ Q k) = rmQ (va_up Q n g) k := by
  unfold rmQ
  by_cases h : 100 * n ≤ k ∧ k < 100 * n + 100
  · rw [if_pos h, show k / 100 = n by omega, uq_s, show k % 100 = k - 100 * n by omega]
  · rw [if_neg h, uq_n (show k / 100 ≠ n by omega)]
theorem rm_sh (Q : Nat → Nat → Nat) (k : Nat) (hk : k < 1400) : tabN (fun k => rmQ Q (k + 100)) 1300 (rmQ Q) k = rmQ (shQ Q) k := by
  by_cases h : k < 1300
  · rw [tabN_in h]; unfold rmQ shQ; rw [uq_n (show k / 100 ≠ 13 by omega), show (k + 100) / 100 = k / 100 + 1 by omega, show (k + 100) % 100 = k % 100 by omega]
  · rw [tabN_out (by omega)]; unfold rmQ shQ; rw [show k / 100 = 13 by omega, uq_s]
/-- a row that is copied, place by place -/
def cpA (B : Nat → Nat) (o : Nat) (g : Nat → Nat) (i : Nat) : Nat → Nat := fun k => if o ≤ k ∧ k < o + i then g (k - o) else B k
theorem cpA_0 (B : Nat → Nat) (o : Nat) (g : Nat → Nat) : cpA B o g 0 = B := by funext k; unfold cpA; rw [if_neg (by omega)]
theorem cpA_s (B : Nat → Nat) (o : Nat) (g : Nat → Nat) (i : Nat) : va_up (cpA B o g i) (o + i) (g i) = cpA B o g (i + 1) := by
  funext k
  by_cases e : k = o + i
  · subst e; rw [up_s]; unfold cpA; rw [if_pos (by omega), show o + i - o = i by omega]
  · rw [up_n e]; unfold cpA
    by_cases h : o ≤ k ∧ k < o + i
    · rw [if_pos h, if_pos (by omega)]
    · rw [if_neg h, if_neg (by omega)]
set_option maxHeartbeats 4000000 in
set_option maxRecDepth 100000 in
theorem c_X9_anew (l : Launch) (D : va_G) (cI cZ cF cL : ClassId) (mr : Nat) (rf : Nat → Nat) (st ln th pl hs vs : Nat) (dg : Int32) (xx : Int64) (g : Nat → Nat)  : CT l D (tysX cI cZ cF cL) yX9_anew (wA yX9_anew cX9_anew 2 none) (rmF 1 22) [.ref mr] (mX mr rf st ln th pl hs vs dg xx ++ iaX cI (rf 0) 100 g) (none : Option Value) (fun _ : Unit => (mX mr rf st ln th pl hs vs dg xx ++ iaX cI (rf 0) 100 q0N)) := by
  refine ct_in (cc := cX9_anew) (maxL := 2) (ret := none) (own := RX9) (lv := [(0, .ref mr)]) (by decide +kernel) rfl rfl (Nat.le_of_ble_eq_true rfl) rfl ?_
  intro p e s m args below meth c A ls hx hb hr hml hts hown hlocks hK hA hP hD hS hl
  refine lv_iconst (v := (nI 0)) hx hb dX9_anew_0 (by decide) ?_
  refine lv_istore_n (lv' := [(1, .int (nI 0)), (0, .ref mr)]) hx hb dX9_anew_1 rfl hl (by decide) rfl (fun ls hl => ?_)
  have loop_2 : ∀ (dd : Nat) (i : Nat) (y : Nat → Nat), (i ≤ 100) → (y = tabN q0N i g) → (100 - i) < dd → ∀ (Hp : Heap) (locs : List Loc), va_P D vwCl (mX mr rf st ln th pl hs vs dg xx ++ iaX cI (rf 0) 100 y) Hp → va_D A (mX mr rf st ln th pl hs vs dg xx ++ iaX cI (rf 0) 100 y) → va_S A s.heap Hp locs → ∀ ls : Array Slot, lv_has ls 2 [(1, .int (nI i)), (0, .ref mr)] → W p l e (rmF 1 22) s m args below meth c Hp locs 0 0 (MQ below (CQ D (none : Option Value) (fun _ : Unit => (mX mr rf st ln th pl hs vs dg xx ++ iaX cI (rf 0) 100 q0N)) A) args s 0 0 A) (F0 m 2 ls []) := by
    intro dd
    induction dd with
    | zero => intro i y hi ey hm; exact absurd hm (Nat.not_lt_zero _)
    | succ dd ih_2 =>
      intro i y hi ey hm Hp locs hP hD hS ls hl
      refine lv_iload_n hx hb dX9_anew_2 rfl (lv_at hl 0 rfl) ?_
      refine lv_bipush (v := (nI 100)) hx hb dX9_anew_3 (by decide) ?_
      refine lv_icmp_ge (tgt := 36) hx hb dX9_anew_5 (by decide) (fun c_5 => ?_) (fun c_5 => ?_)
      · skip
        replace c_5 := cn_le (by omega) (by omega) c_5
        obtain ⟨hP, hD⟩ := cg_n (g := nF q0N) (ws2 := (mX mr rf st ln th pl hs vs dg xx ++ iaX cI (rf 0) 100 q0N)) hP hD 1 rfl (fun j hj => by rw [ey, show i = 100 by omega]; exact congrArg nI (tabN_in hj)) rfl
        exact ct_v () hx hb hr hlocks hP hS dX9_anew_36
      · skip
        replace c_5 := cn_nle (by omega) (by omega) c_5
        refine lv_aload_n hx hb dX9_anew_8 rfl (lv_at hl 1 rfl) ?_
        refine gf_n (C := RX9) (T := TX9) (N := 15) (ci := 9) (q0 := 0) (v := .ref (rf 0)) hx hb hts (iU inlX9) hown hK hP rfl rfl 0 (by decide) (kU u_129) rfl rfl dX9_anew_9 ?_
        refine lv_iload_n hx hb dX9_anew_12 rfl (lv_at hl 0 rfl) ?_
        refine lv_iload_n hx hb dX9_anew_13 rfl (lv_at hl 0 rfl) ?_
        refine lv_bipush (v := (nI 40)) hx hb dX9_anew_14 (by decide) ?_
        refine lv_bipush (v := (nI 69)) hx hb dX9_anew_16 (by decide) ?_
        refine gp_S (c_X9_in l D cI cZ cF cL ((nI i)) ((nI 40)) ((nI 69)) ) (gUS u_140 u_141 u_5 u_142) rfl hdS_X9_in ⟨Nat.le_of_ble_eq_true rfl, Nat.le_of_ble_eq_true rfl⟩ ⟨rfl, rfl⟩ hx hb hml hown hts hK hA hP hD hS hl.1 ⟨Nat.le_of_ble_eq_true rfl, Nat.le_of_ble_eq_true rfl⟩ (wr := (mX mr rf st ln th pl hs vs dg xx ++ iaX cI (rf 0) 100 y)) (pm_cnt (fun _ => by simp only [List.countP_append, List.countP_nil, fT] <;> omega)) (fun _ => by simp only [List.map_append, List.map_nil, fX_m, bX_m, sX_m, pX_m, iaX_m, r5X_m, r6X_m, fT_m, hX_m, tX_m, xX_m, sgX_m, zaX_m, fsB_a, qX_m, mX_m]) (rest := [.int (nI i), .ref (rf 0)]) rfl rfl (Nat.le_of_ble_eq_true rfl) dX9_anew_18 (ws2 := (fun _ : Unit => (mX mr rf st ln th pl hs vs dg xx ++ iaX cI (rf 0) 100 y))) (fun _ => (pm_cnt (fun _ => by simp only [List.countP_append, List.countP_nil, fT] <;> omega))) (fun _ Hp locs hP hD hS => ?_)
        refine lv_if_eq (tgt := 28) hx hb dX9_anew_21 (by decide) (fun c_21 => ?_) (fun c_21 => ?_)
        · skip
          replace c_21 := cb_z c_21
          replace c_21 : ¬ (40 ≤ i ∧ i ≤ 69) := fun q => c_21 ((in_n (by omega) (by decide) (by decide)).mpr q)
          refine lv_iconst (v := (nI 0)) hx hb dX9_anew_28 (by decide) ?_
          refine is_n (q0 := 1) (t0 := 0) (ws2 := (mX mr rf st ln th pl hs vs dg xx ++ iaX cI (rf 0) 100 (va_up y i 0))) hx hb hK hP hD hS rfl rfl (by omega) (by decide) dX9_anew_29 rfl (fun Hp locs hP hD hS => ?_)
          refine lv_iinc (v := (nI (i + 1))) (lv' := [(1, .int (nI (i + 1))), (0, .ref mr)]) hx hb dX9_anew_30 hl (k := 0) rfl (nI_add i 1) (by decide) rfl (fun ls hl => ?_)
          refine lv_goto (tgt := 2) hx hb dX9_anew_33 (by decide) ?_
          exact ih_2 (i + 1) (va_up y i 0) (by omega) (by first | (rw [ey, ← tabN_s]; congr 1; exact (if_pos c_21).symm) | (rw [ey, ← tabN_s]; congr 1; exact (if_neg c_21).symm)) (by omega) _ _ hP hD hS _ (lv_sub hl [0, 1] rfl)
        · skip
          replace c_21 := cb_nz c_21
          replace c_21 : 40 ≤ i ∧ i ≤ 69 := (in_n (by omega) (by decide) (by decide)).mp c_21
          refine lv_iconst (v := (nI 5)) hx hb dX9_anew_24 (by decide) ?_
          refine lv_goto (tgt := 29) hx hb dX9_anew_25 (by decide) ?_
          refine is_n (q0 := 1) (t0 := 0) (ws2 := (mX mr rf st ln th pl hs vs dg xx ++ iaX cI (rf 0) 100 (va_up y i 5))) hx hb hK hP hD hS rfl rfl (by omega) (by decide) dX9_anew_29 rfl (fun Hp locs hP hD hS => ?_)
          refine lv_iinc (v := (nI (i + 1))) (lv' := [(1, .int (nI (i + 1))), (0, .ref mr)]) hx hb dX9_anew_30 hl (k := 0) rfl (nI_add i 1) (by decide) rfl (fun ls hl => ?_)
          refine lv_goto (tgt := 2) hx hb dX9_anew_33 (by decide) ?_
          exact ih_2 (i + 1) (va_up y i 5) (by omega) (by first | (rw [ey, ← tabN_s]; congr 1; exact (if_pos c_21).symm) | (rw [ey, ← tabN_s]; congr 1; exact (if_neg c_21).symm)) (by omega) _ _ hP hD hS _ (lv_sub hl [0, 1] rfl)
  exact loop_2 ((100 - 0) + 1) 0 g (by omega) (tabN_0 _ _).symm (Nat.lt_succ_self _) _ _ hP hD hS _ (lv_sub hl [0, 1] rfl)
set_option maxRecDepth 20000 in
theorem u_130 : Cond.fieldLink RX9 13 "HarvestBoxesModel" "spare" "[I" ∈ wsL_law := List.mem_of_getElem? (i := 130) (by decide +kernel)
set_option maxHeartbeats 4000000 in
set_option maxRecDepth 100000 in
theorem c_X9_keep (l : Launch) (D : va_G) (cI cZ cF cL : ClassId) (mr : Nat) (rf : Nat → Nat) (st ln th pl hs vs : Nat) (dg : Int32) (xx : Int64) (g : Nat → Nat) (h1 : Nat → Nat)  : CT l D (tysX cI cZ cF cL) yX9_keep (wA yX9_keep cX9_keep 2 none) (rmF 0 0) [.ref mr] (mX mr rf st ln th pl hs vs dg xx ++ iaX cI (rf 0) 100 g ++ iaX cI (rf 1) 100 h1) (none : Option Value) (fun _ : Unit => (mX mr rf st ln th pl hs vs dg xx ++ iaX cI (rf 0) 100 g ++ iaX cI (rf 1) 100 g)) := by
  refine ct_in (cc := cX9_keep) (maxL := 2) (ret := none) (own := RX9) (lv := [(0, .ref mr)]) (by decide +kernel) rfl rfl (Nat.le_of_ble_eq_true rfl) rfl ?_
  intro p e s m args below meth c A ls hx hb hr hml hts hown hlocks hK hA hP hD hS hl
  refine lv_iconst (v := (nI 0)) hx hb dX9_keep_0 (by decide) ?_
  refine lv_istore_n (lv' := [(1, .int (nI 0)), (0, .ref mr)]) hx hb dX9_keep_1 rfl hl (by decide) rfl (fun ls hl => ?_)
  have loop_2 : ∀ (dd : Nat) (i : Nat) (y : Nat → Nat), (i ≤ 100) → (y = tabN g i h1) → (100 - i) < dd → ∀ (Hp : Heap) (locs : List Loc), va_P D vwCl (mX mr rf st ln th pl hs vs dg xx ++ iaX cI (rf 0) 100 g ++ iaX cI (rf 1) 100 y) Hp → va_D A (mX mr rf st ln th pl hs vs dg xx ++ iaX cI (rf 0) 100 g ++ iaX cI (rf 1) 100 y) → va_S A s.heap Hp locs → ∀ ls : Array Slot, lv_has ls 2 [(1, .int (nI i)), (0, .ref mr)] → W p l e (rmF 0 0) s m args below meth c Hp locs 0 0 (MQ below (CQ D (none : Option Value) (fun _ : Unit => (mX mr rf st ln th pl hs vs dg xx ++ iaX cI (rf 0) 100 g ++ iaX cI (rf 1) 100 g)) A) args s 0 0 A) (F0 m 2 ls []) := by
    intro dd
    induction dd with
    | zero => intro i y hi ey hm; exact absurd hm (Nat.not_lt_zero _)
    | succ dd ih_2 =>
      intro i y hi ey hm Hp locs hP hD hS ls hl
      refine lv_iload_n hx hb dX9_keep_2 rfl (lv_at hl 0 rfl) ?_
      refine lv_bipush (v := (nI 100)) hx hb dX9_keep_3 (by decide) ?_
      refine lv_icmp_ge (tgt := 26) hx hb dX9_keep_5 (by decide) (fun c_5 => ?_) (fun c_5 => ?_)
      · skip
        replace c_5 := cn_le (by omega) (by omega) c_5
        obtain ⟨hP, hD⟩ := cg_n (g := nF g) (ws2 := (mX mr rf st ln th pl hs vs dg xx ++ iaX cI (rf 0) 100 g ++ iaX cI (rf 1) 100 g)) hP hD 2 rfl (fun j hj => by rw [ey, show i = 100 by omega]; exact congrArg nI (tabN_in hj)) rfl
        exact ct_v () hx hb hr hlocks hP hS dX9_keep_26
      · skip
        replace c_5 := cn_nle (by omega) (by omega) c_5
        refine lv_aload_n hx hb dX9_keep_8 rfl (lv_at hl 1 rfl) ?_
        refine gf_n (C := RX9) (T := TX9) (N := 15) (ci := 9) (q0 := 0) (v := .ref (rf 1)) hx hb hts (iU inlX9) hown hK hP rfl rfl 1 (by decide) (kU u_130) rfl rfl dX9_keep_9 ?_
        refine lv_iload_n hx hb dX9_keep_12 rfl (lv_at hl 0 rfl) ?_
        refine lv_aload_n hx hb dX9_keep_13 rfl (lv_at hl 1 rfl) ?_
        refine gf_n (C := RX9) (T := TX9) (N := 15) (ci := 9) (q0 := 0) (v := .ref (rf 0)) hx hb hts (iU inlX9) hown hK hP rfl rfl 0 (by decide) (kU u_129) rfl rfl dX9_keep_14 ?_
        refine lv_iload_n hx hb dX9_keep_17 rfl (lv_at hl 0 rfl) ?_
        refine ia_n (q0 := 1) (t0 := 0) hx hb hK hP rfl rfl (by omega) (by decide) dX9_keep_18 ?_
        refine is_n (q0 := 2) (t0 := 0) (ws2 := (mX mr rf st ln th pl hs vs dg xx ++ iaX cI (rf 0) 100 g ++ iaX cI (rf 1) 100 (va_up y i (g i)))) hx hb hK hP hD hS rfl rfl (by omega) (by decide) dX9_keep_19 rfl (fun Hp locs hP hD hS => ?_)
        refine lv_iinc (v := (nI (i + 1))) (lv' := [(1, .int (nI (i + 1))), (0, .ref mr)]) hx hb dX9_keep_20 hl (k := 0) rfl (nI_add i 1) (by decide) rfl (fun ls hl => ?_)
        refine lv_goto (tgt := 2) hx hb dX9_keep_23 (by decide) ?_
        exact ih_2 (i + 1) (va_up y i (g i)) (by omega) (by rw [ey, ← tabN_s]) (by omega) _ _ hP hD hS _ (lv_sub hl [0, 1] rfl)
  exact loop_2 ((100 - 0) + 1) 0 h1 (by omega) (tabN_0 _ _).symm (Nat.lt_succ_self _) _ _ hP hD hS _ (lv_sub hl [0, 1] rfl)
set_option maxHeartbeats 4000000 in
set_option maxRecDepth 100000 in
theorem c_X9_bringBack (l : Launch) (D : va_G) (cI cZ cF cL : ClassId) (mr : Nat) (rf : Nat → Nat) (st ln th pl hs vs : Nat) (dg : Int32) (xx : Int64) (g : Nat → Nat) (h1 : Nat → Nat)  : CT l D (tysX cI cZ cF cL) yX9_bringBack (wA yX9_bringBack cX9_bringBack 2 none) (rmF 0 0) [.ref mr] (mX mr rf st ln th pl hs vs dg xx ++ iaX cI (rf 0) 100 g ++ iaX cI (rf 1) 100 h1) (none : Option Value) (fun _ : Unit => (mX mr rf st ln th pl hs vs dg xx ++ iaX cI (rf 0) 100 h1 ++ iaX cI (rf 1) 100 h1)) := by
  refine ct_in (cc := cX9_bringBack) (maxL := 2) (ret := none) (own := RX9) (lv := [(0, .ref mr)]) (by decide +kernel) rfl rfl (Nat.le_of_ble_eq_true rfl) rfl ?_
  intro p e s m args below meth c A ls hx hb hr hml hts hown hlocks hK hA hP hD hS hl
  refine lv_iconst (v := (nI 0)) hx hb dX9_bringBack_0 (by decide) ?_
  refine lv_istore_n (lv' := [(1, .int (nI 0)), (0, .ref mr)]) hx hb dX9_bringBack_1 rfl hl (by decide) rfl (fun ls hl => ?_)
  have loop_2 : ∀ (dd : Nat) (i : Nat) (y : Nat → Nat), (i ≤ 100) → (y = tabN h1 i g) → (100 - i) < dd → ∀ (Hp : Heap) (locs : List Loc), va_P D vwCl (mX mr rf st ln th pl hs vs dg xx ++ iaX cI (rf 0) 100 y ++ iaX cI (rf 1) 100 h1) Hp → va_D A (mX mr rf st ln th pl hs vs dg xx ++ iaX cI (rf 0) 100 y ++ iaX cI (rf 1) 100 h1) → va_S A s.heap Hp locs → ∀ ls : Array Slot, lv_has ls 2 [(1, .int (nI i)), (0, .ref mr)] → W p l e (rmF 0 0) s m args below meth c Hp locs 0 0 (MQ below (CQ D (none : Option Value) (fun _ : Unit => (mX mr rf st ln th pl hs vs dg xx ++ iaX cI (rf 0) 100 h1 ++ iaX cI (rf 1) 100 h1)) A) args s 0 0 A) (F0 m 2 ls []) := by
    intro dd
    induction dd with
    | zero => intro i y hi ey hm; exact absurd hm (Nat.not_lt_zero _)
    | succ dd ih_2 =>
      intro i y hi ey hm Hp locs hP hD hS ls hl
      refine lv_iload_n hx hb dX9_bringBack_2 rfl (lv_at hl 0 rfl) ?_
      refine lv_bipush (v := (nI 100)) hx hb dX9_bringBack_3 (by decide) ?_
      refine lv_icmp_ge (tgt := 26) hx hb dX9_bringBack_5 (by decide) (fun c_5 => ?_) (fun c_5 => ?_)
      · skip
        replace c_5 := cn_le (by omega) (by omega) c_5
        obtain ⟨hP, hD⟩ := cg_n (g := nF h1) (ws2 := (mX mr rf st ln th pl hs vs dg xx ++ iaX cI (rf 0) 100 h1 ++ iaX cI (rf 1) 100 h1)) hP hD 1 rfl (fun j hj => by rw [ey, show i = 100 by omega]; exact congrArg nI (tabN_in hj)) rfl
        exact ct_v () hx hb hr hlocks hP hS dX9_bringBack_26
      · skip
        replace c_5 := cn_nle (by omega) (by omega) c_5
        refine lv_aload_n hx hb dX9_bringBack_8 rfl (lv_at hl 1 rfl) ?_
        refine gf_n (C := RX9) (T := TX9) (N := 15) (ci := 9) (q0 := 0) (v := .ref (rf 0)) hx hb hts (iU inlX9) hown hK hP rfl rfl 0 (by decide) (kU u_129) rfl rfl dX9_bringBack_9 ?_
        refine lv_iload_n hx hb dX9_bringBack_12 rfl (lv_at hl 0 rfl) ?_
        refine lv_aload_n hx hb dX9_bringBack_13 rfl (lv_at hl 1 rfl) ?_
        refine gf_n (C := RX9) (T := TX9) (N := 15) (ci := 9) (q0 := 0) (v := .ref (rf 1)) hx hb hts (iU inlX9) hown hK hP rfl rfl 1 (by decide) (kU u_130) rfl rfl dX9_bringBack_14 ?_
        refine lv_iload_n hx hb dX9_bringBack_17 rfl (lv_at hl 0 rfl) ?_
        refine ia_n (q0 := 2) (t0 := 0) hx hb hK hP rfl rfl (by omega) (by decide) dX9_bringBack_18 ?_
        refine is_n (q0 := 1) (t0 := 0) (ws2 := (mX mr rf st ln th pl hs vs dg xx ++ iaX cI (rf 0) 100 (va_up y i (h1 i)) ++ iaX cI (rf 1) 100 h1)) hx hb hK hP hD hS rfl rfl (by omega) (by decide) dX9_bringBack_19 rfl (fun Hp locs hP hD hS => ?_)
        refine lv_iinc (v := (nI (i + 1))) (lv' := [(1, .int (nI (i + 1))), (0, .ref mr)]) hx hb dX9_bringBack_20 hl (k := 0) rfl (nI_add i 1) (by decide) rfl (fun ls hl => ?_)
        refine lv_goto (tgt := 2) hx hb dX9_bringBack_23 (by decide) ?_
        exact ih_2 (i + 1) (va_up y i (h1 i)) (by omega) (by rw [ey, ← tabN_s]) (by omega) _ _ hP hD hS _ (lv_sub hl [0, 1] rfl)
  exact loop_2 ((100 - 0) + 1) 0 g (by omega) (tabN_0 _ _).symm (Nat.lt_succ_self _) _ _ hP hD hS _ (lv_sub hl [0, 1] rfl)
set_option maxRecDepth 20000 in
theorem u_309 : Cond.fieldLink RX9 43 "HarvestBoxesModel" "states" "I" ∈ wsL_law := List.mem_of_getElem? (i := 309) (by decide +kernel)
set_option maxRecDepth 20000 in
theorem u_131 : Cond.fieldLink RX9 16 "HarvestBoxesModel" "remembered" "[I" ∈ wsL_law := List.mem_of_getElem? (i := 131) (by decide +kernel)
set_option maxHeartbeats 4000000 in
set_option maxRecDepth 100000 in
theorem c_X9_remember (l : Launch) (D : va_G) (cI cZ cF cL : ClassId) (mr : Nat) (rf : Nat → Nat) (st ln th pl hs vs : Nat) (dg : Int32) (xx : Int64) (g : Nat → Nat) (Q : Nat → Nat → Nat) (hs14 : st ≤ 14) : CT l D (tysX cI cZ cF cL) yX9_remember (wA yX9_remember cX9_remember 2 none) (rmF 0 0) [.ref mr] (mX mr rf st ln th pl hs vs dg xx ++ iaX cI (rf 0) 100 g ++ iaX cI (rf 2) 1400 (rmQ Q)) (none : Option Value) (fun _ : Unit => (mX mr rf ((if st = 14 then 13 else st) + 1) ln th pl hs vs dg xx ++ iaX cI (rf 0) 100 g ++ iaX cI (rf 2) 1400 (rmQ (va_up (if st = 14 then shQ Q else Q) (if st = 14 then 13 else st) g)))) := by
  refine ct_in (cc := cX9_remember) (maxL := 2) (ret := none) (own := RX9) (lv := [(0, .ref mr)]) (by decide +kernel) rfl rfl (Nat.le_of_ble_eq_true rfl) rfl ?_
  intro p e s m args below meth c A ls hx hb hr hml hts hown hlocks hK hA hP hD hS hl
  refine lv_aload_n hx hb dX9_remember_0 rfl (lv_at hl 0 rfl) ?_
  refine gf_n (C := RX9) (T := TX9) (N := 15) (ci := 9) (q0 := 0) (v := .int (nI st)) hx hb hts (iU inlX9) hown hK hP rfl rfl 3 (by decide) (kU u_309) rfl rfl dX9_remember_1 ?_
  refine lv_bipush (v := (nI 14)) hx hb dX9_remember_4 (by decide) ?_
  refine lv_icmp_ne (tgt := 49) hx hb dX9_remember_6 (by decide) (fun c_6 => ?_) (fun c_6 => ?_)
  · skip
    replace c_6 := cn_ne c_6
    refine lv_iconst (v := (nI 0)) hx hb dX9_remember_49 (by decide) ?_
    refine lv_istore_n (lv' := [(1, .int (nI 0)), (0, .ref mr)]) hx hb dX9_remember_50 rfl hl (by decide) rfl (fun ls hl => ?_)
    have loop_51 : ∀ (dd : Nat) (i : Nat) (n0 : Nat) (y : Nat → Nat), (i ≤ 100) → (n0 = (if st = 14 then 13 else st)) → (y = cpA (rmQ (if st = 14 then shQ Q else Q)) (100 * n0) g i) → (100 - i) < dd → ∀ (Hp : Heap) (locs : List Loc), va_P D vwCl (mX mr rf n0 ln th pl hs vs dg xx ++ iaX cI (rf 0) 100 g ++ iaX cI (rf 2) 1400 y) Hp → va_D A (mX mr rf n0 ln th pl hs vs dg xx ++ iaX cI (rf 0) 100 g ++ iaX cI (rf 2) 1400 y) → va_S A s.heap Hp locs → ∀ ls : Array Slot, lv_has ls 2 [(1, .int (nI i)), (0, .ref mr)] → W p l e (rmF 0 0) s m args below meth c Hp locs 0 0 (MQ below (CQ D (none : Option Value) (fun _ : Unit => (mX mr rf ((if st = 14 then 13 else st) + 1) ln th pl hs vs dg xx ++ iaX cI (rf 0) 100 g ++ iaX cI (rf 2) 1400 (rmQ (va_up (if st = 14 then shQ Q else Q) (if st = 14 then 13 else st) g)))) A) args s 0 0 A) (F0 m 51 ls []) := by
      intro dd
      induction dd with
      | zero => intro i n0 y hi hn0 ey hm; exact absurd hm (Nat.not_lt_zero _)
      | succ dd ih_51 =>
        intro i n0 y hi hn0 ey hm Hp locs hP hD hS ls hl
        refine lv_iload_n hx hb dX9_remember_51 rfl (lv_at hl 0 rfl) ?_
        refine lv_bipush (v := (nI 100)) hx hb dX9_remember_52 (by decide) ?_
        refine lv_icmp_ge (tgt := 83) hx hb dX9_remember_54 (by decide) (fun c_54 => ?_) (fun c_54 => ?_)
        · skip
          replace c_54 := cn_le (by omega) (by omega) c_54
          refine lv_aload_n hx hb dX9_remember_83 rfl (lv_at hl 1 rfl) ?_
          obtain ⟨hP, hD⟩ := cg_n (g := nF (rmQ (va_up (if st = 14 then shQ Q else Q) n0 g))) (ws2 := (mX mr rf n0 ln th pl hs vs dg xx ++ iaX cI (rf 0) 100 g ++ iaX cI (rf 2) 1400 (rmQ (va_up (if st = 14 then shQ Q else Q) n0 g)))) hP hD 2 rfl (fun j hj => by rw [ey, show i = 100 by omega]; exact congrArg nI (rm_put (if st = 14 then shQ Q else Q) n0 100 g j (Nat.le_refl _))) rfl
          refine lv_dup hx hb dX9_remember_84 rfl ?_
          refine gf_n (C := RX9) (T := TX9) (N := 15) (ci := 9) (q0 := 0) (v := .int (nI n0)) hx hb hts (iU inlX9) hown hK hP rfl rfl 3 (by decide) (kU u_309) rfl rfl dX9_remember_85 ?_
          refine lv_iconst (v := (nI 1)) hx hb dX9_remember_88 (by decide) ?_
          refine lv_iadd hx hb dX9_remember_89 ?_
          rw [nI_add n0 1]
          refine pf_n (C := RX9) (T := TX9) (N := 15) (ci := 9) (q0 := 0) (ty := .int) (v := .int (nI (n0 + 1))) (ws2 := (mX mr rf (n0 + 1) ln th pl hs vs dg xx ++ iaX cI (rf 0) 100 g ++ iaX cI (rf 2) 1400 (rmQ (va_up (if st = 14 then shQ Q else Q) n0 g)))) hx hb hts (iU inlX9) tyX9 tyX9_ok nmX9 hown hK hP hD hS rfl rfl 3 (by decide) (kU u_309) rfl rfl (tyX9_ok 3 (by decide)) rfl rfl (Nat.le_of_ble_eq_true rfl) dX9_remember_90 rfl (fun Hp locs hP hD hS => ?_)
          exact ct_v () hx hb hr hlocks (by rw [hn0] at hP; exact hP) hS dX9_remember_93
        · skip
          replace c_54 := cn_nle (by omega) (by omega) c_54
          refine lv_aload_n hx hb dX9_remember_57 rfl (lv_at hl 1 rfl) ?_
          refine gf_n (C := RX9) (T := TX9) (N := 15) (ci := 9) (q0 := 0) (v := .ref (rf 2)) hx hb hts (iU inlX9) hown hK hP rfl rfl 2 (by decide) (kU u_131) rfl rfl dX9_remember_58 ?_
          refine lv_bipush (v := (nI 100)) hx hb dX9_remember_61 (by decide) ?_
          refine lv_aload_n hx hb dX9_remember_63 rfl (lv_at hl 1 rfl) ?_
          refine gf_n (C := RX9) (T := TX9) (N := 15) (ci := 9) (q0 := 0) (v := .int (nI n0)) hx hb hts (iU inlX9) hown hK hP rfl rfl 3 (by decide) (kU u_309) rfl rfl dX9_remember_64 ?_
          refine lv_imul hx hb dX9_remember_67 ?_
          rw [pk_mul 100 n0]
          refine lv_iload_n hx hb dX9_remember_68 rfl (lv_at hl 0 rfl) ?_
          refine lv_iadd hx hb dX9_remember_69 ?_
          rw [nI_add (100 * n0) i]
          refine lv_aload_n hx hb dX9_remember_70 rfl (lv_at hl 1 rfl) ?_
          refine gf_n (C := RX9) (T := TX9) (N := 15) (ci := 9) (q0 := 0) (v := .ref (rf 0)) hx hb hts (iU inlX9) hown hK hP rfl rfl 0 (by decide) (kU u_129) rfl rfl dX9_remember_71 ?_
          refine lv_iload_n hx hb dX9_remember_74 rfl (lv_at hl 0 rfl) ?_
          refine ia_n (q0 := 1) (t0 := 0) hx hb hK hP rfl rfl (by omega) (by decide) dX9_remember_75 ?_
          refine is_n (q0 := 2) (t0 := 0) (ws2 := (mX mr rf n0 ln th pl hs vs dg xx ++ iaX cI (rf 0) 100 g ++ iaX cI (rf 2) 1400 (va_up y ((100 * n0) + i) (g i)))) hx hb hK hP hD hS rfl rfl (by rw [hn0]; split <;> omega) (by decide) dX9_remember_76 rfl (fun Hp locs hP hD hS => ?_)
          refine lv_iinc (v := (nI (i + 1))) (lv' := [(1, .int (nI (i + 1))), (0, .ref mr)]) hx hb dX9_remember_77 hl (k := 0) rfl (nI_add i 1) (by decide) rfl (fun ls hl => ?_)
          refine lv_goto (tgt := 51) hx hb dX9_remember_80 (by decide) ?_
          exact ih_51 (i + 1) n0 (va_up y ((100 * n0) + i) (g i)) (by omega) (by omega) (by rw [ey]; exact cpA_s _ _ _ _) (by omega) _ _ hP hD hS _ (lv_sub hl [0, 1] rfl)
    exact loop_51 ((100 - 0) + 1) 0 st (rmQ Q) (by omega) (by first | (rw [if_pos c_6]; omega) | (rw [if_neg c_6])) (by first | (rw [cpA_0, if_pos c_6]) | (rw [cpA_0, if_neg c_6])) (Nat.lt_succ_self _) _ _ hP hD hS _ (lv_sub hl [0, 1] rfl)
  · skip
    replace c_6 := cn_eq (by omega) (by omega) c_6
    refine lv_iconst (v := (nI 0)) hx hb dX9_remember_9 (by decide) ?_
    refine lv_istore_n (lv' := [(1, .int (nI 0)), (0, .ref mr)]) hx hb dX9_remember_10 rfl hl (by decide) rfl (fun ls hl => ?_)
    have loop_11 : ∀ (dd : Nat) (i : Nat) (y : Nat → Nat), (i ≤ 1300) → (y = tabN (fun k => rmQ Q (k + 100)) i (rmQ Q)) → (1300 - i) < dd → ∀ (Hp : Heap) (locs : List Loc), va_P D vwCl (mX mr rf st ln th pl hs vs dg xx ++ iaX cI (rf 0) 100 g ++ iaX cI (rf 2) 1400 y) Hp → va_D A (mX mr rf st ln th pl hs vs dg xx ++ iaX cI (rf 0) 100 g ++ iaX cI (rf 2) 1400 y) → va_S A s.heap Hp locs → ∀ ls : Array Slot, lv_has ls 2 [(1, .int (nI i)), (0, .ref mr)] → W p l e (rmF 0 0) s m args below meth c Hp locs 0 0 (MQ below (CQ D (none : Option Value) (fun _ : Unit => (mX mr rf ((if st = 14 then 13 else st) + 1) ln th pl hs vs dg xx ++ iaX cI (rf 0) 100 g ++ iaX cI (rf 2) 1400 (rmQ (va_up (if st = 14 then shQ Q else Q) (if st = 14 then 13 else st) g)))) A) args s 0 0 A) (F0 m 11 ls []) := by
      intro dd
      induction dd with
      | zero => intro i y hi ey hm; exact absurd hm (Nat.not_lt_zero _)
      | succ dd ih_11 =>
        intro i y hi ey hm Hp locs hP hD hS ls hl
        refine lv_iload_n hx hb dX9_remember_11 rfl (lv_at hl 0 rfl) ?_
        refine lv_sipush (v := (nI 1300)) hx hb dX9_remember_12 (by decide +kernel) ?_
        refine lv_icmp_ge (tgt := 39) hx hb dX9_remember_15 (by decide) (fun c_15 => ?_) (fun c_15 => ?_)
        · skip
          replace c_15 := cn_le (by omega) (by omega) c_15
          refine lv_aload_n hx hb dX9_remember_39 rfl (lv_at hl 1 rfl) ?_
          obtain ⟨hP, hD⟩ := cg_n (g := nF (rmQ (shQ Q))) (ws2 := (mX mr rf st ln th pl hs vs dg xx ++ iaX cI (rf 0) 100 g ++ iaX cI (rf 2) 1400 (rmQ (shQ Q)))) hP hD 2 rfl (fun j hj => by rw [ey, show i = 1300 by omega]; exact congrArg nI (rm_sh Q j hj)) rfl
          refine lv_dup hx hb dX9_remember_40 rfl ?_
          refine gf_n (C := RX9) (T := TX9) (N := 15) (ci := 9) (q0 := 0) (v := .int (nI st)) hx hb hts (iU inlX9) hown hK hP rfl rfl 3 (by decide) (kU u_309) rfl rfl dX9_remember_41 ?_
          refine lv_iconst (v := (nI 1)) hx hb dX9_remember_44 (by decide) ?_
          refine lv_isub hx hb dX9_remember_45 ?_
          rw [pk_sub (a := st) (b := 1) (by omega)]
          refine pf_n (C := RX9) (T := TX9) (N := 15) (ci := 9) (q0 := 0) (ty := .int) (v := .int (nI (st - 1))) (ws2 := (mX mr rf (st - 1) ln th pl hs vs dg xx ++ iaX cI (rf 0) 100 g ++ iaX cI (rf 2) 1400 (rmQ (shQ Q)))) hx hb hts (iU inlX9) tyX9 tyX9_ok nmX9 hown hK hP hD hS rfl rfl 3 (by decide) (kU u_309) rfl rfl (tyX9_ok 3 (by decide)) rfl rfl (Nat.le_of_ble_eq_true rfl) dX9_remember_46 rfl (fun Hp locs hP hD hS => ?_)
          refine lv_iconst (v := (nI 0)) hx hb dX9_remember_49 (by decide) ?_
          refine lv_istore_n (lv' := [(1, .int (nI 0)), (0, .ref mr)]) hx hb dX9_remember_50 rfl hl (by decide) rfl (fun ls hl => ?_)
          have loop_51 : ∀ (dd : Nat) (i : Nat) (n0 : Nat) (y : Nat → Nat), (i ≤ 100) → (n0 = (if st = 14 then 13 else st)) → (y = cpA (rmQ (if st = 14 then shQ Q else Q)) (100 * n0) g i) → (100 - i) < dd → ∀ (Hp : Heap) (locs : List Loc), va_P D vwCl (mX mr rf n0 ln th pl hs vs dg xx ++ iaX cI (rf 0) 100 g ++ iaX cI (rf 2) 1400 y) Hp → va_D A (mX mr rf n0 ln th pl hs vs dg xx ++ iaX cI (rf 0) 100 g ++ iaX cI (rf 2) 1400 y) → va_S A s.heap Hp locs → ∀ ls : Array Slot, lv_has ls 2 [(1, .int (nI i)), (0, .ref mr)] → W p l e (rmF 0 0) s m args below meth c Hp locs 0 0 (MQ below (CQ D (none : Option Value) (fun _ : Unit => (mX mr rf ((if st = 14 then 13 else st) + 1) ln th pl hs vs dg xx ++ iaX cI (rf 0) 100 g ++ iaX cI (rf 2) 1400 (rmQ (va_up (if st = 14 then shQ Q else Q) (if st = 14 then 13 else st) g)))) A) args s 0 0 A) (F0 m 51 ls []) := by
            intro dd
            induction dd with
            | zero => intro i n0 y hi hn0 ey hm; exact absurd hm (Nat.not_lt_zero _)
            | succ dd ih_51 =>
              intro i n0 y hi hn0 ey hm Hp locs hP hD hS ls hl
              refine lv_iload_n hx hb dX9_remember_51 rfl (lv_at hl 0 rfl) ?_
              refine lv_bipush (v := (nI 100)) hx hb dX9_remember_52 (by decide) ?_
              refine lv_icmp_ge (tgt := 83) hx hb dX9_remember_54 (by decide) (fun c_54 => ?_) (fun c_54 => ?_)
              · skip
                replace c_54 := cn_le (by omega) (by omega) c_54
                refine lv_aload_n hx hb dX9_remember_83 rfl (lv_at hl 1 rfl) ?_
                obtain ⟨hP, hD⟩ := cg_n (g := nF (rmQ (va_up (if st = 14 then shQ Q else Q) n0 g))) (ws2 := (mX mr rf n0 ln th pl hs vs dg xx ++ iaX cI (rf 0) 100 g ++ iaX cI (rf 2) 1400 (rmQ (va_up (if st = 14 then shQ Q else Q) n0 g)))) hP hD 2 rfl (fun j hj => by rw [ey, show i = 100 by omega]; exact congrArg nI (rm_put (if st = 14 then shQ Q else Q) n0 100 g j (Nat.le_refl _))) rfl
                refine lv_dup hx hb dX9_remember_84 rfl ?_
                refine gf_n (C := RX9) (T := TX9) (N := 15) (ci := 9) (q0 := 0) (v := .int (nI n0)) hx hb hts (iU inlX9) hown hK hP rfl rfl 3 (by decide) (kU u_309) rfl rfl dX9_remember_85 ?_
                refine lv_iconst (v := (nI 1)) hx hb dX9_remember_88 (by decide) ?_
                refine lv_iadd hx hb dX9_remember_89 ?_
                rw [nI_add n0 1]
                refine pf_n (C := RX9) (T := TX9) (N := 15) (ci := 9) (q0 := 0) (ty := .int) (v := .int (nI (n0 + 1))) (ws2 := (mX mr rf (n0 + 1) ln th pl hs vs dg xx ++ iaX cI (rf 0) 100 g ++ iaX cI (rf 2) 1400 (rmQ (va_up (if st = 14 then shQ Q else Q) n0 g)))) hx hb hts (iU inlX9) tyX9 tyX9_ok nmX9 hown hK hP hD hS rfl rfl 3 (by decide) (kU u_309) rfl rfl (tyX9_ok 3 (by decide)) rfl rfl (Nat.le_of_ble_eq_true rfl) dX9_remember_90 rfl (fun Hp locs hP hD hS => ?_)
                exact ct_v () hx hb hr hlocks (by rw [hn0] at hP; exact hP) hS dX9_remember_93
              · skip
                replace c_54 := cn_nle (by omega) (by omega) c_54
                refine lv_aload_n hx hb dX9_remember_57 rfl (lv_at hl 1 rfl) ?_
                refine gf_n (C := RX9) (T := TX9) (N := 15) (ci := 9) (q0 := 0) (v := .ref (rf 2)) hx hb hts (iU inlX9) hown hK hP rfl rfl 2 (by decide) (kU u_131) rfl rfl dX9_remember_58 ?_
                refine lv_bipush (v := (nI 100)) hx hb dX9_remember_61 (by decide) ?_
                refine lv_aload_n hx hb dX9_remember_63 rfl (lv_at hl 1 rfl) ?_
                refine gf_n (C := RX9) (T := TX9) (N := 15) (ci := 9) (q0 := 0) (v := .int (nI n0)) hx hb hts (iU inlX9) hown hK hP rfl rfl 3 (by decide) (kU u_309) rfl rfl dX9_remember_64 ?_
                refine lv_imul hx hb dX9_remember_67 ?_
                rw [pk_mul 100 n0]
                refine lv_iload_n hx hb dX9_remember_68 rfl (lv_at hl 0 rfl) ?_
                refine lv_iadd hx hb dX9_remember_69 ?_
                rw [nI_add (100 * n0) i]
                refine lv_aload_n hx hb dX9_remember_70 rfl (lv_at hl 1 rfl) ?_
                refine gf_n (C := RX9) (T := TX9) (N := 15) (ci := 9) (q0 := 0) (v := .ref (rf 0)) hx hb hts (iU inlX9) hown hK hP rfl rfl 0 (by decide) (kU u_129) rfl rfl dX9_remember_71 ?_
                refine lv_iload_n hx hb dX9_remember_74 rfl (lv_at hl 0 rfl) ?_
                refine ia_n (q0 := 1) (t0 := 0) hx hb hK hP rfl rfl (by omega) (by decide) dX9_remember_75 ?_
                refine is_n (q0 := 2) (t0 := 0) (ws2 := (mX mr rf n0 ln th pl hs vs dg xx ++ iaX cI (rf 0) 100 g ++ iaX cI (rf 2) 1400 (va_up y ((100 * n0) + i) (g i)))) hx hb hK hP hD hS rfl rfl (by rw [hn0]; split <;> omega) (by decide) dX9_remember_76 rfl (fun Hp locs hP hD hS => ?_)
                refine lv_iinc (v := (nI (i + 1))) (lv' := [(1, .int (nI (i + 1))), (0, .ref mr)]) hx hb dX9_remember_77 hl (k := 0) rfl (nI_add i 1) (by decide) rfl (fun ls hl => ?_)
                refine lv_goto (tgt := 51) hx hb dX9_remember_80 (by decide) ?_
                exact ih_51 (i + 1) n0 (va_up y ((100 * n0) + i) (g i)) (by omega) (by omega) (by rw [ey]; exact cpA_s _ _ _ _) (by omega) _ _ hP hD hS _ (lv_sub hl [0, 1] rfl)
          exact loop_51 ((100 - 0) + 1) 0 (st - 1) (rmQ (shQ Q)) (by omega) (by first | (rw [if_pos c_6]; omega) | (rw [if_neg c_6])) (by first | (rw [cpA_0, if_pos c_6]) | (rw [cpA_0, if_neg c_6])) (Nat.lt_succ_self _) _ _ hP hD hS _ (lv_sub hl [0, 1] rfl)
        · skip
          replace c_15 := cn_nle (by omega) (by omega) c_15
          refine lv_aload_n hx hb dX9_remember_18 rfl (lv_at hl 1 rfl) ?_
          refine gf_n (C := RX9) (T := TX9) (N := 15) (ci := 9) (q0 := 0) (v := .ref (rf 2)) hx hb hts (iU inlX9) hown hK hP rfl rfl 2 (by decide) (kU u_131) rfl rfl dX9_remember_19 ?_
          refine lv_iload_n hx hb dX9_remember_22 rfl (lv_at hl 0 rfl) ?_
          refine lv_aload_n hx hb dX9_remember_23 rfl (lv_at hl 1 rfl) ?_
          refine gf_n (C := RX9) (T := TX9) (N := 15) (ci := 9) (q0 := 0) (v := .ref (rf 2)) hx hb hts (iU inlX9) hown hK hP rfl rfl 2 (by decide) (kU u_131) rfl rfl dX9_remember_24 ?_
          refine lv_iload_n hx hb dX9_remember_27 rfl (lv_at hl 0 rfl) ?_
          refine lv_bipush (v := (nI 100)) hx hb dX9_remember_28 (by decide) ?_
          refine lv_iadd hx hb dX9_remember_30 ?_
          rw [nI_add i 100]
          refine ia_n (q0 := 2) (t0 := 0) hx hb hK hP rfl rfl (by omega) (by decide) dX9_remember_31 ?_
          refine is_n (q0 := 2) (t0 := 0) (ws2 := (mX mr rf st ln th pl hs vs dg xx ++ iaX cI (rf 0) 100 g ++ iaX cI (rf 2) 1400 (va_up y i (y (i + 100))))) hx hb hK hP hD hS rfl rfl (by omega) (by decide) dX9_remember_32 rfl (fun Hp locs hP hD hS => ?_)
          refine lv_iinc (v := (nI (i + 1))) (lv' := [(1, .int (nI (i + 1))), (0, .ref mr)]) hx hb dX9_remember_33 hl (k := 0) rfl (nI_add i 1) (by decide) rfl (fun ls hl => ?_)
          refine lv_goto (tgt := 11) hx hb dX9_remember_36 (by decide) ?_
          exact ih_11 (i + 1) (va_up y i (y (i + 100))) (by omega) (by rw [ey, tabN_out (show i ≤ i + 100 by omega)]; exact tabN_s (fun k => rmQ Q (k + 100)) (rmQ Q) i) (by omega) _ _ hP hD hS _ (lv_sub hl [0, 1] rfl)
    exact loop_11 ((1300 - 0) + 1) 0 (rmQ Q) (by omega) (tabN_0 _ _).symm (Nat.lt_succ_self _) _ _ hP hD hS _ (lv_sub hl [0, 1] rfl)
