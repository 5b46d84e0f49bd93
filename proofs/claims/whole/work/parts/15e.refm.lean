theorem lcm_lt {a b : Nat} (ha : a < 2 ^ 63) (hb : b < 2 ^ 63) : lg_cmp (lN a) (lN b) < 0 ↔ a < b := by
  rw [lg_cmp_lt, Int64.lt_iff_toInt_lt, show (lN a).toInt = (a : Int) from lg_ofNat_toInt ha, show (lN b).toInt = (b : Int) from lg_ofNat_toInt hb]
  omega
theorem u_lt {n : Nat} (h : n ≤ 4) : 10000 ^ n < 2 ^ 63 := Nat.lt_of_le_of_lt (Nat.pow_le_pow_right (by decide) h) (by decide)
theorem u_dv {n k : Nat} (h : k < n) : 10000 ^ (n - k) / 10000 = 10000 ^ (n - 1 - k) := by
  rw [show n - k = (n - 1 - k) + 1 by omega, Nat.pow_succ, Nat.mul_div_cancel _ (by decide)]
theorem u_z {S n : Nat} (h : S / 10000 ^ n = 0) : S < 10000 ^ n := by
  rcases Nat.div_eq_zero_iff.mp h with q | q
  · exact absurd q (Nat.ne_of_gt (Nat.pow_pos (by decide)))
  · exact q
theorem lN_ne0 {b : Nat} (h0 : 0 < b) (h : b < 2 ^ 63) : ¬ lN b = 0 := by
  intro q
  have := congrArg Int64.toInt q
  rw [show (lN b).toInt = (b : Int) from lg_ofNat_toInt h, show ((0 : Int64)).toInt = 0 by decide] at this
  omega
set_option maxHeartbeats 4000000 in
set_option maxRecDepth 100000 in
theorem c_X9_changes (l : Launch) (D : va_G) (cI cZ cF cL : ClassId) (mr : Nat) (rf : Nat → Nat) (st ln th pl hs vs : Nat) (dg : Int32) (xx : Int64) (T : Nat → Nat → Nat) (g : Nat → Nat) (d1 d2 d3 d4 : Nat) (hT : FI T) (q0 : 1 ≤ d1) (q1 : d1 ≤ 6) (q2 : d2 < 10) (q3 : d3 < 10) (q4 : d4 < 10) : CT l D (tysX cI cZ cF cL) yX9_changes (wA yX9_changes cX9_changes 5 (some .boolean)) (rmF 5 124) [.ref mr, .int (nI d1), .int (nI d2), .int (nI d3), .int (nI d4)] (mX mr rf st ln th pl hs vs dg xx ++ qX cI (rf 0) (T 0 0) (T 0 1) (T 0 2) (T 0 3) (T 0 4) (T 0 5) (T 1) (T 2) (T 3) (T 4) (T 5) (T 6) (T 7) (T 8) ++ iaX cI (rf 6) 6 g) (some (.int (if (okC T d1 d2 d3 d4) then 1 else 0))) (fun u : (Nat → Nat) => (mX mr rf st ln th pl hs vs dg xx ++ qX cI (rf 0) ((doC T d1 d2 d3 d4) 0 0) ((doC T d1 d2 d3 d4) 0 1) ((doC T d1 d2 d3 d4) 0 2) ((doC T d1 d2 d3 d4) 0 3) ((doC T d1 d2 d3 d4) 0 4) ((doC T d1 d2 d3 d4) 0 5) ((doC T d1 d2 d3 d4) 1) ((doC T d1 d2 d3 d4) 2) ((doC T d1 d2 d3 d4) 3) ((doC T d1 d2 d3 d4) 4) ((doC T d1 d2 d3 d4) 5) ((doC T d1 d2 d3 d4) 6) ((doC T d1 d2 d3 d4) 7) ((doC T d1 d2 d3 d4) 8) ++ iaX cI (rf 6) 6 u)) := by
  refine ct_in (cc := cX9_changes) (maxL := 5) (ret := (some .boolean)) (own := RX9) (lv := [(0, .ref mr), (1, .int (nI d1)), (2, .int (nI d2)), (3, .int (nI d3)), (4, .int (nI d4))]) (by decide +kernel) rfl rfl (Nat.le_of_ble_eq_true rfl) rfl ?_
  intro p e s m args below meth c A ls hx hb hr hml hts hown hlocks hK hA hP hD hS hl
  have hH := hT.1.1
  have hV := hT.1.2
  refine lv_iload_n hx hb dX9_changes_0 rfl (lv_at hl 1 rfl) ?_
  by_cases c_1_1 : (nI d1) = nI 1
  · skip
    refine lv_tableIn (off := 35) (tgt := 36) hx hb dX9_changes_1 (by rw [c_1_1]; decide +kernel) (by rw [c_1_1]; decide +kernel) (by rw [c_1_1]; decide +kernel) (by decide) ?_
    have e_1 : d1 = 1 := cn_eq (by omega) (by omega) c_1_1
    refine lv_aload_n hx hb dX9_changes_36 rfl (lv_at hl 0 rfl) ?_
    refine lv_iload_n hx hb dX9_changes_37 rfl (lv_at hl 2 rfl) ?_
    refine gp_V (ci := 9) (q0 := 0) (cq := (RX9, TX9, 15)) (c_X9_isVegetable l D cI cZ cF cL mr rf st ln th pl hs vs dg xx (T 0 0) (T 0 1) (T 0 2) (T 0 3) (T 0 4) (T 0 5) (T 1) (T 2) (T 3) (T 4) (T 5) (T 6) (T 7) (T 8) ((nI d2)) (by omega) (by omega)) (gUV u_450 u_451 u_452 u_5 u_453) rfl hdV_X9_isVegetable ⟨Nat.le_of_ble_eq_true rfl, Nat.le_of_ble_eq_true rfl⟩ ⟨rfl, rfl⟩ hx hb hml hown hts hK hA hP hD hS hl.1 ⟨Nat.le_of_ble_eq_true rfl, Nat.le_of_ble_eq_true rfl⟩ rfl rfl rfl (wr := (iaX cI (rf 6) 6 g)) (pm_cnt (fun _ => by simp only [List.countP_append, List.countP_nil, fT] <;> omega)) (fun _ => by simp only [List.map_append, List.map_nil, fX_m, bX_m, sX_m, pX_m, iaX_m, r5X_m, r6X_m, fT_m, hX_m, tX_m, xX_m, sgX_m, zaX_m, fsB_a, qX_m, mX_m]) (rest := []) rfl rfl (Nat.le_of_ble_eq_true rfl) dX9_changes_38 (ws2 := (fun _ : Unit => (mX mr rf st ln th pl hs vs dg xx ++ qX cI (rf 0) (T 0 0) (T 0 1) (T 0 2) (T 0 3) (T 0 4) (T 0 5) (T 1) (T 2) (T 3) (T 4) (T 5) (T 6) (T 7) (T 8) ++ iaX cI (rf 6) 6 g))) (fun _ => (pm_cnt (fun _ => by simp only [List.countP_append, List.countP_nil, fT] <;> omega))) (fun _ Hp locs hP hD hS => ?_)
    refine lv_if_eq (tgt := 56) hx hb dX9_changes_41 (by decide) (fun c_41 => ?_) (fun c_41 => ?_)
    · skip
      replace c_41 := cb_z c_41
      replace c_41 : ¬ d2 < (T 0 1) := fun q => c_41 ((hhI (by omega) (by have := hT.1; omega)).mpr q)
      refine lv_iconst (v := (nI 0)) hx hb dX9_changes_56 (by decide) ?_
      exact ct_z (g) hx hb hr hlocks (by first | (rw [doC_n (fun z => (fun z => c_41 z.1) ((okC_1 e_1).mp z))]; exact hP) | (rw [doC_n (fun z => (fun z => Nat.not_lt.mpr z.2 c_53) ((okC_1 e_1).mp z))]; exact hP)) hS (by first | exact z_f (fun z => (fun z => c_41 z.1) ((okC_1 e_1).mp z)) | exact z_f (fun z => (fun z => Nat.not_lt.mpr z.2 c_53) ((okC_1 e_1).mp z))) dX9_changes_57
    · skip
      replace c_41 := cb_nz c_41
      replace c_41 : d2 < (T 0 1) := (hhI (by omega) (by have := hT.1; omega)).mp c_41
      refine lv_bipush (v := (nI 10)) hx hb dX9_changes_44 (by decide) ?_
      refine lv_iload_n hx hb dX9_changes_46 rfl (lv_at hl 3 rfl) ?_
      refine lv_imul hx hb dX9_changes_47 ?_
      rw [pk_mul 10 d3]
      refine lv_iload hx hb dX9_changes_48 (lv_at hl 4 rfl) ?_
      refine lv_iadd hx hb dX9_changes_50 ?_
      rw [nI_add (10 * d3) d4]
      refine lv_bipush (v := (nI 40)) hx hb dX9_changes_51 (by decide) ?_
      refine lv_icmp_le (tgt := 58) hx hb dX9_changes_53 (by decide) (fun c_53 => ?_) (fun c_53 => ?_)
      · skip
        replace c_53 := cn_le (by omega) (by omega) c_53
        refine lv_aload_n hx hb dX9_changes_58 rfl (lv_at hl 0 rfl) ?_
        refine gf_n (C := RX9) (T := TX9) (N := 15) (ci := 9) (q0 := 0) (v := .ref (rf 0)) hx hb hts (iU inlX9) hown hK hP rfl rfl 0 (by decide) (kU u_129) rfl rfl dX9_changes_59 ?_
        refine lv_iload_n hx hb dX9_changes_62 rfl (lv_at hl 2 rfl) ?_
        refine gp_S (c_X9_harvest l D cI cZ cF cL d2 ) (gUS u_278 u_279 u_5 u_280) rfl hdS_X9_harvest ⟨Nat.le_of_ble_eq_true rfl, Nat.le_of_ble_eq_true rfl⟩ ⟨rfl, rfl⟩ hx hb hml hown hts hK hA hP hD hS hl.1 ⟨Nat.le_of_ble_eq_true rfl, Nat.le_of_ble_eq_true rfl⟩ (wr := (mX mr rf st ln th pl hs vs dg xx ++ qX cI (rf 0) (T 0 0) (T 0 1) (T 0 2) (T 0 3) (T 0 4) (T 0 5) (T 1) (T 2) (T 3) (T 4) (T 5) (T 6) (T 7) (T 8) ++ iaX cI (rf 6) 6 g)) (pm_cnt (fun _ => by simp only [List.countP_append, List.countP_nil, fT] <;> omega)) (fun _ => by simp only [List.map_append, List.map_nil, fX_m, bX_m, sX_m, pX_m, iaX_m, r5X_m, r6X_m, fT_m, hX_m, tX_m, xX_m, sgX_m, zaX_m, fsB_a, qX_m, mX_m]) (rest := [.ref (rf 0)]) rfl rfl (Nat.le_of_ble_eq_true rfl) dX9_changes_63 (ws2 := (fun _ : Unit => (mX mr rf st ln th pl hs vs dg xx ++ qX cI (rf 0) (T 0 0) (T 0 1) (T 0 2) (T 0 3) (T 0 4) (T 0 5) (T 1) (T 2) (T 3) (T 4) (T 5) (T 6) (T 7) (T 8) ++ iaX cI (rf 6) 6 g))) (fun _ => (pm_cnt (fun _ => by simp only [List.countP_append, List.countP_nil, fT] <;> omega))) (fun _ Hp locs hP hD hS => ?_)
        refine lv_bipush (v := (nI 10)) hx hb dX9_changes_66 (by decide) ?_
        refine lv_iload_n hx hb dX9_changes_68 rfl (lv_at hl 3 rfl) ?_
        refine lv_imul hx hb dX9_changes_69 ?_
        rw [pk_mul 10 d3]
        refine lv_iload hx hb dX9_changes_70 (lv_at hl 4 rfl) ?_
        refine lv_iadd hx hb dX9_changes_72 ?_
        rw [nI_add (10 * d3) d4]
        refine is_n (q0 := 1) (t0 := 0) (ws2 := (mX mr rf st ln th pl hs vs dg xx ++ qX cI (rf 0) (T 0 0) (T 0 1) (T 0 2) (T 0 3) (T 0 4) (T 0 5) (T 1) (T 2) (T 3) (T 4) (va_up (T 5) d2 ((10 * d3) + d4)) (T 6) (T 7) (T 8) ++ iaX cI (rf 6) 6 g)) hx hb hK hP hD hS rfl rfl (by omega) (by decide) dX9_changes_73 (by rw [qU_5 (by omega)]; rfl) (fun Hp locs hP hD hS => ?_)
        refine lv_iconst (v := (nI 1)) hx hb dX9_changes_74 (by decide) ?_
        exact ct_z (g) hx hb hr hlocks (by rw [doC_1 ((okC_1 e_1).mpr (⟨c_41, c_53⟩)) e_1]; exact hP) hS (z_t ((okC_1 e_1).mpr (⟨c_41, c_53⟩))) dX9_changes_75
      · skip
        replace c_53 := cn_nle (by omega) (by omega) c_53
        refine lv_iconst (v := (nI 0)) hx hb dX9_changes_56 (by decide) ?_
        exact ct_z (g) hx hb hr hlocks (by first | (rw [doC_n (fun z => (fun z => c_41 z.1) ((okC_1 e_1).mp z))]; exact hP) | (rw [doC_n (fun z => (fun z => Nat.not_lt.mpr z.2 c_53) ((okC_1 e_1).mp z))]; exact hP)) hS (by first | exact z_f (fun z => (fun z => c_41 z.1) ((okC_1 e_1).mp z)) | exact z_f (fun z => (fun z => Nat.not_lt.mpr z.2 c_53) ((okC_1 e_1).mp z))) dX9_changes_57
  by_cases c_1_2 : (nI d1) = nI 2
  · skip
    refine lv_tableIn (off := 75) (tgt := 76) hx hb dX9_changes_1 (by rw [c_1_2]; decide +kernel) (by rw [c_1_2]; decide +kernel) (by rw [c_1_2]; decide +kernel) (by decide) ?_
    have e_2 : d1 = 2 := cn_eq (by omega) (by omega) c_1_2
    refine lv_aload_n hx hb dX9_changes_76 rfl (lv_at hl 0 rfl) ?_
    refine lv_iload_n hx hb dX9_changes_77 rfl (lv_at hl 2 rfl) ?_
    refine gp_V (ci := 9) (q0 := 0) (cq := (RX9, TX9, 15)) (c_X9_isHouse l D cI cZ cF cL mr rf st ln th pl hs vs dg xx (T 0 0) (T 0 1) (T 0 2) (T 0 3) (T 0 4) (T 0 5) (T 1) (T 2) (T 3) (T 4) (T 5) (T 6) (T 7) (T 8) ((nI d2)) (by omega) (by omega)) (gUV u_397 u_398 u_399 u_5 u_400) rfl hdV_X9_isHouse ⟨Nat.le_of_ble_eq_true rfl, Nat.le_of_ble_eq_true rfl⟩ ⟨rfl, rfl⟩ hx hb hml hown hts hK hA hP hD hS hl.1 ⟨Nat.le_of_ble_eq_true rfl, Nat.le_of_ble_eq_true rfl⟩ rfl rfl rfl (wr := (iaX cI (rf 6) 6 g)) (pm_cnt (fun _ => by simp only [List.countP_append, List.countP_nil, fT] <;> omega)) (fun _ => by simp only [List.map_append, List.map_nil, fX_m, bX_m, sX_m, pX_m, iaX_m, r5X_m, r6X_m, fT_m, hX_m, tX_m, xX_m, sgX_m, zaX_m, fsB_a, qX_m, mX_m]) (rest := []) rfl rfl (Nat.le_of_ble_eq_true rfl) dX9_changes_78 (ws2 := (fun _ : Unit => (mX mr rf st ln th pl hs vs dg xx ++ qX cI (rf 0) (T 0 0) (T 0 1) (T 0 2) (T 0 3) (T 0 4) (T 0 5) (T 1) (T 2) (T 3) (T 4) (T 5) (T 6) (T 7) (T 8) ++ iaX cI (rf 6) 6 g))) (fun _ => (pm_cnt (fun _ => by simp only [List.countP_append, List.countP_nil, fT] <;> omega))) (fun _ Hp locs hP hD hS => ?_)
    refine lv_if_eq (tgt := 92) hx hb dX9_changes_81 (by decide) (fun c_81 => ?_) (fun c_81 => ?_)
    · skip
      replace c_81 := cb_z c_81
      replace c_81 : ¬ d2 < (T 0 0) := fun q => c_81 ((hhI (by omega) (by have := hT.1; omega)).mpr q)
      refine lv_iconst (v := (nI 0)) hx hb dX9_changes_92 (by decide) ?_
      exact ct_z (g) hx hb hr hlocks (by first | (rw [doC_n (fun z => (fun z => c_81 z.1) ((okC_2 e_2).mp z))]; exact hP) | (rw [doC_n (fun z => (fun z => c_89 z.2) ((okC_2 e_2).mp z))]; exact hP)) hS (by first | exact z_f (fun z => (fun z => c_81 z.1) ((okC_2 e_2).mp z)) | exact z_f (fun z => (fun z => c_89 z.2) ((okC_2 e_2).mp z))) dX9_changes_93
    · skip
      replace c_81 := cb_nz c_81
      replace c_81 : d2 < (T 0 0) := (hhI (by omega) (by have := hT.1; omega)).mp c_81
      refine lv_aload_n hx hb dX9_changes_84 rfl (lv_at hl 0 rfl) ?_
      refine lv_iload_n hx hb dX9_changes_85 rfl (lv_at hl 3 rfl) ?_
      refine gp_V (ci := 9) (q0 := 0) (cq := (RX9, TX9, 15)) (c_X9_isVegetable l D cI cZ cF cL mr rf st ln th pl hs vs dg xx (T 0 0) (T 0 1) (T 0 2) (T 0 3) (T 0 4) (T 0 5) (T 1) (T 2) (T 3) (T 4) (T 5) (T 6) (T 7) (T 8) ((nI d3)) (by omega) (by omega)) (gUV u_450 u_451 u_452 u_5 u_453) rfl hdV_X9_isVegetable ⟨Nat.le_of_ble_eq_true rfl, Nat.le_of_ble_eq_true rfl⟩ ⟨rfl, rfl⟩ hx hb hml hown hts hK hA hP hD hS hl.1 ⟨Nat.le_of_ble_eq_true rfl, Nat.le_of_ble_eq_true rfl⟩ rfl rfl rfl (wr := (iaX cI (rf 6) 6 g)) (pm_cnt (fun _ => by simp only [List.countP_append, List.countP_nil, fT] <;> omega)) (fun _ => by simp only [List.map_append, List.map_nil, fX_m, bX_m, sX_m, pX_m, iaX_m, r5X_m, r6X_m, fT_m, hX_m, tX_m, xX_m, sgX_m, zaX_m, fsB_a, qX_m, mX_m]) (rest := []) rfl rfl (Nat.le_of_ble_eq_true rfl) dX9_changes_86 (ws2 := (fun _ : Unit => (mX mr rf st ln th pl hs vs dg xx ++ qX cI (rf 0) (T 0 0) (T 0 1) (T 0 2) (T 0 3) (T 0 4) (T 0 5) (T 1) (T 2) (T 3) (T 4) (T 5) (T 6) (T 7) (T 8) ++ iaX cI (rf 6) 6 g))) (fun _ => (pm_cnt (fun _ => by simp only [List.countP_append, List.countP_nil, fT] <;> omega))) (fun _ Hp locs hP hD hS => ?_)
      refine lv_if_ne (tgt := 94) hx hb dX9_changes_89 (by decide) (fun c_89 => ?_) (fun c_89 => ?_)
      · skip
        replace c_89 := cb_nz c_89
        replace c_89 : d3 < (T 0 1) := (hhI (by omega) (by have := hT.1; omega)).mp c_89
        refine lv_aload_n hx hb dX9_changes_94 rfl (lv_at hl 0 rfl) ?_
        refine gf_n (C := RX9) (T := TX9) (N := 15) (ci := 9) (q0 := 0) (v := .ref (rf 0)) hx hb hts (iU inlX9) hown hK hP rfl rfl 0 (by decide) (kU u_129) rfl rfl dX9_changes_95 ?_
        refine lv_iload_n hx hb dX9_changes_98 rfl (lv_at hl 2 rfl) ?_
        refine lv_iload_n hx hb dX9_changes_99 rfl (lv_at hl 3 rfl) ?_
        refine gp_S (c_X9_like l D cI cZ cF cL d2 d3 ) (gUS u_281 u_282 u_5 u_283) rfl hdS_X9_like ⟨Nat.le_of_ble_eq_true rfl, Nat.le_of_ble_eq_true rfl⟩ ⟨rfl, rfl⟩ hx hb hml hown hts hK hA hP hD hS hl.1 ⟨Nat.le_of_ble_eq_true rfl, Nat.le_of_ble_eq_true rfl⟩ (wr := (mX mr rf st ln th pl hs vs dg xx ++ qX cI (rf 0) (T 0 0) (T 0 1) (T 0 2) (T 0 3) (T 0 4) (T 0 5) (T 1) (T 2) (T 3) (T 4) (T 5) (T 6) (T 7) (T 8) ++ iaX cI (rf 6) 6 g)) (pm_cnt (fun _ => by simp only [List.countP_append, List.countP_nil, fT] <;> omega)) (fun _ => by simp only [List.map_append, List.map_nil, fX_m, bX_m, sX_m, pX_m, iaX_m, r5X_m, r6X_m, fT_m, hX_m, tX_m, xX_m, sgX_m, zaX_m, fsB_a, qX_m, mX_m]) (rest := [.ref (rf 0)]) rfl rfl (Nat.le_of_ble_eq_true rfl) dX9_changes_100 (ws2 := (fun _ : Unit => (mX mr rf st ln th pl hs vs dg xx ++ qX cI (rf 0) (T 0 0) (T 0 1) (T 0 2) (T 0 3) (T 0 4) (T 0 5) (T 1) (T 2) (T 3) (T 4) (T 5) (T 6) (T 7) (T 8) ++ iaX cI (rf 6) 6 g))) (fun _ => (pm_cnt (fun _ => by simp only [List.countP_append, List.countP_nil, fT] <;> omega))) (fun _ Hp locs hP hD hS => ?_)
        refine lv_iload hx hb dX9_changes_103 (lv_at hl 4 rfl) ?_
        refine is_n (q0 := 1) (t0 := 0) (ws2 := (mX mr rf st ln th pl hs vs dg xx ++ qX cI (rf 0) (T 0 0) (T 0 1) (T 0 2) (T 0 3) (T 0 4) (T 0 5) (T 1) (T 2) (T 3) (T 4) (T 5) (T 6) (va_up (T 7) (d2 * 5 + d3) d4) (T 8) ++ iaX cI (rf 6) 6 g)) hx hb hK hP hD hS rfl rfl (by omega) (by decide) dX9_changes_105 (by rw [qU_7 (by omega) (by omega)]; rfl) (fun Hp locs hP hD hS => ?_)
        refine lv_iconst (v := (nI 1)) hx hb dX9_changes_106 (by decide) ?_
        exact ct_z (g) hx hb hr hlocks (by rw [doC_2 ((okC_2 e_2).mpr (⟨c_81, c_89⟩)) e_2]; exact hP) hS (z_t ((okC_2 e_2).mpr (⟨c_81, c_89⟩))) dX9_changes_107
      · skip
        replace c_89 := cb_z c_89
        replace c_89 : ¬ d3 < (T 0 1) := fun q => c_89 ((hhI (by omega) (by have := hT.1; omega)).mpr q)
        refine lv_iconst (v := (nI 0)) hx hb dX9_changes_92 (by decide) ?_
        exact ct_z (g) hx hb hr hlocks (by first | (rw [doC_n (fun z => (fun z => c_81 z.1) ((okC_2 e_2).mp z))]; exact hP) | (rw [doC_n (fun z => (fun z => c_89 z.2) ((okC_2 e_2).mp z))]; exact hP)) hS (by first | exact z_f (fun z => (fun z => c_81 z.1) ((okC_2 e_2).mp z)) | exact z_f (fun z => (fun z => c_89 z.2) ((okC_2 e_2).mp z))) dX9_changes_93
  by_cases c_1_3 : (nI d1) = nI 3
  · skip
    refine lv_tableIn (off := 107) (tgt := 108) hx hb dX9_changes_1 (by rw [c_1_3]; decide +kernel) (by rw [c_1_3]; decide +kernel) (by rw [c_1_3]; decide +kernel) (by decide) ?_
    have e_3 : d1 = 3 := cn_eq (by omega) (by omega) c_1_3
    refine lv_aload_n hx hb dX9_changes_108 rfl (lv_at hl 0 rfl) ?_
    refine lv_iload_n hx hb dX9_changes_109 rfl (lv_at hl 2 rfl) ?_
    refine gp_V (ci := 9) (q0 := 0) (cq := (RX9, TX9, 15)) (c_X9_isHouse l D cI cZ cF cL mr rf st ln th pl hs vs dg xx (T 0 0) (T 0 1) (T 0 2) (T 0 3) (T 0 4) (T 0 5) (T 1) (T 2) (T 3) (T 4) (T 5) (T 6) (T 7) (T 8) ((nI d2)) (by omega) (by omega)) (gUV u_397 u_398 u_399 u_5 u_400) rfl hdV_X9_isHouse ⟨Nat.le_of_ble_eq_true rfl, Nat.le_of_ble_eq_true rfl⟩ ⟨rfl, rfl⟩ hx hb hml hown hts hK hA hP hD hS hl.1 ⟨Nat.le_of_ble_eq_true rfl, Nat.le_of_ble_eq_true rfl⟩ rfl rfl rfl (wr := (iaX cI (rf 6) 6 g)) (pm_cnt (fun _ => by simp only [List.countP_append, List.countP_nil, fT] <;> omega)) (fun _ => by simp only [List.map_append, List.map_nil, fX_m, bX_m, sX_m, pX_m, iaX_m, r5X_m, r6X_m, fT_m, hX_m, tX_m, xX_m, sgX_m, zaX_m, fsB_a, qX_m, mX_m]) (rest := []) rfl rfl (Nat.le_of_ble_eq_true rfl) dX9_changes_110 (ws2 := (fun _ : Unit => (mX mr rf st ln th pl hs vs dg xx ++ qX cI (rf 0) (T 0 0) (T 0 1) (T 0 2) (T 0 3) (T 0 4) (T 0 5) (T 1) (T 2) (T 3) (T 4) (T 5) (T 6) (T 7) (T 8) ++ iaX cI (rf 6) 6 g))) (fun _ => (pm_cnt (fun _ => by simp only [List.countP_append, List.countP_nil, fT] <;> omega))) (fun _ Hp locs hP hD hS => ?_)
    refine lv_if_eq (tgt := 126) hx hb dX9_changes_113 (by decide) (fun c_113 => ?_) (fun c_113 => ?_)
    · skip
      replace c_113 := cb_z c_113
      replace c_113 : ¬ d2 < (T 0 0) := fun q => c_113 ((hhI (by omega) (by have := hT.1; omega)).mpr q)
      refine lv_iconst (v := (nI 0)) hx hb dX9_changes_126 (by decide) ?_
      exact ct_z (g) hx hb hr hlocks (by first | (rw [doC_n (fun z => (fun z => c_113 z.2.1) ((okC_3 e_3).mp z))]; exact hP) | (rw [doC_n (fun z => (fun z => Nat.not_le.mpr c_118 z.2.2) ((okC_3 e_3).mp z))]; exact hP) | (rw [doC_n (fun z => (fun z => absurd z.1 (Nat.ne_of_gt c_123)) ((okC_3 e_3).mp z))]; exact hP)) hS (by first | exact z_f (fun z => (fun z => c_113 z.2.1) ((okC_3 e_3).mp z)) | exact z_f (fun z => (fun z => Nat.not_le.mpr c_118 z.2.2) ((okC_3 e_3).mp z)) | exact z_f (fun z => (fun z => absurd z.1 (Nat.ne_of_gt c_123)) ((okC_3 e_3).mp z))) dX9_changes_127
    · skip
      replace c_113 := cb_nz c_113
      replace c_113 : d2 < (T 0 0) := (hhI (by omega) (by have := hT.1; omega)).mp c_113
      refine lv_iload_n hx hb dX9_changes_116 rfl (lv_at hl 3 rfl) ?_
      refine lv_iconst (v := (nI 1)) hx hb dX9_changes_117 (by decide) ?_
      refine lv_icmp_gt (tgt := 126) hx hb dX9_changes_118 (by decide) (fun c_118 => ?_) (fun c_118 => ?_)
      · skip
        replace c_118 := cn_lt (by omega) (by omega) c_118
        refine lv_iconst (v := (nI 0)) hx hb dX9_changes_126 (by decide) ?_
        exact ct_z (g) hx hb hr hlocks (by first | (rw [doC_n (fun z => (fun z => c_113 z.2.1) ((okC_3 e_3).mp z))]; exact hP) | (rw [doC_n (fun z => (fun z => Nat.not_le.mpr c_118 z.2.2) ((okC_3 e_3).mp z))]; exact hP) | (rw [doC_n (fun z => (fun z => absurd z.1 (Nat.ne_of_gt c_123)) ((okC_3 e_3).mp z))]; exact hP)) hS (by first | exact z_f (fun z => (fun z => c_113 z.2.1) ((okC_3 e_3).mp z)) | exact z_f (fun z => (fun z => Nat.not_le.mpr c_118 z.2.2) ((okC_3 e_3).mp z)) | exact z_f (fun z => (fun z => absurd z.1 (Nat.ne_of_gt c_123)) ((okC_3 e_3).mp z))) dX9_changes_127
      · skip
        replace c_118 := cn_nlt (by omega) (by omega) c_118
        refine lv_iload hx hb dX9_changes_121 (lv_at hl 4 rfl) ?_
        refine lv_if_le (tgt := 128) hx hb dX9_changes_123 (by decide) (fun c_123 => ?_) (fun c_123 => ?_)
        · skip
          replace c_123 := cn_le (b := 0) (by omega) (by omega) c_123
          refine lv_aload_n hx hb dX9_changes_128 rfl (lv_at hl 0 rfl) ?_
          refine gf_n (C := RX9) (T := TX9) (N := 15) (ci := 9) (q0 := 0) (v := .ref (rf 0)) hx hb hts (iU inlX9) hown hK hP rfl rfl 0 (by decide) (kU u_129) rfl rfl dX9_changes_129 ?_
          refine lv_iload_n hx hb dX9_changes_132 rfl (lv_at hl 2 rfl) ?_
          refine gp_S (c_X9_size l D cI cZ cF cL d2 ) (gUS u_275 u_276 u_5 u_277) rfl hdS_X9_size ⟨Nat.le_of_ble_eq_true rfl, Nat.le_of_ble_eq_true rfl⟩ ⟨rfl, rfl⟩ hx hb hml hown hts hK hA hP hD hS hl.1 ⟨Nat.le_of_ble_eq_true rfl, Nat.le_of_ble_eq_true rfl⟩ (wr := (mX mr rf st ln th pl hs vs dg xx ++ qX cI (rf 0) (T 0 0) (T 0 1) (T 0 2) (T 0 3) (T 0 4) (T 0 5) (T 1) (T 2) (T 3) (T 4) (T 5) (T 6) (T 7) (T 8) ++ iaX cI (rf 6) 6 g)) (pm_cnt (fun _ => by simp only [List.countP_append, List.countP_nil, fT] <;> omega)) (fun _ => by simp only [List.map_append, List.map_nil, fX_m, bX_m, sX_m, pX_m, iaX_m, r5X_m, r6X_m, fT_m, hX_m, tX_m, xX_m, sgX_m, zaX_m, fsB_a, qX_m, mX_m]) (rest := [.ref (rf 0)]) rfl rfl (Nat.le_of_ble_eq_true rfl) dX9_changes_133 (ws2 := (fun _ : Unit => (mX mr rf st ln th pl hs vs dg xx ++ qX cI (rf 0) (T 0 0) (T 0 1) (T 0 2) (T 0 3) (T 0 4) (T 0 5) (T 1) (T 2) (T 3) (T 4) (T 5) (T 6) (T 7) (T 8) ++ iaX cI (rf 6) 6 g))) (fun _ => (pm_cnt (fun _ => by simp only [List.countP_append, List.countP_nil, fT] <;> omega))) (fun _ Hp locs hP hD hS => ?_)
          refine lv_iconst (v := (nI 3)) hx hb dX9_changes_136 (by decide) ?_
          refine lv_iadd hx hb dX9_changes_137 ?_
          rw [nI_add (6 + 4 * d2) 3]
          refine lv_iload_n hx hb dX9_changes_138 rfl (lv_at hl 3 rfl) ?_
          refine is_n (q0 := 1) (t0 := 0) (ws2 := (mX mr rf st ln th pl hs vs dg xx ++ qX cI (rf 0) (T 0 0) (T 0 1) (T 0 2) (T 0 3) (T 0 4) (T 0 5) (T 1) (T 2) (T 3) (va_up (T 4) d2 d3) (T 5) (T 6) (T 7) (T 8) ++ iaX cI (rf 6) 6 g)) hx hb hK hP hD hS rfl rfl (by omega) (by decide) dX9_changes_139 (by rw [qU_4 (by omega)]; rfl) (fun Hp locs hP hD hS => ?_)
          refine lv_iconst (v := (nI 1)) hx hb dX9_changes_140 (by decide) ?_
          exact ct_z (g) hx hb hr hlocks (by rw [doC_3 ((okC_3 e_3).mpr (⟨by omega, c_113, c_118⟩)) e_3]; exact hP) hS (z_t ((okC_3 e_3).mpr (⟨by omega, c_113, c_118⟩))) dX9_changes_141
        · skip
          replace c_123 := cn_nle (b := 0) (by omega) (by omega) c_123
          refine lv_iconst (v := (nI 0)) hx hb dX9_changes_126 (by decide) ?_
          exact ct_z (g) hx hb hr hlocks (by first | (rw [doC_n (fun z => (fun z => c_113 z.2.1) ((okC_3 e_3).mp z))]; exact hP) | (rw [doC_n (fun z => (fun z => Nat.not_le.mpr c_118 z.2.2) ((okC_3 e_3).mp z))]; exact hP) | (rw [doC_n (fun z => (fun z => absurd z.1 (Nat.ne_of_gt c_123)) ((okC_3 e_3).mp z))]; exact hP)) hS (by first | exact z_f (fun z => (fun z => c_113 z.2.1) ((okC_3 e_3).mp z)) | exact z_f (fun z => (fun z => Nat.not_le.mpr c_118 z.2.2) ((okC_3 e_3).mp z)) | exact z_f (fun z => (fun z => absurd z.1 (Nat.ne_of_gt c_123)) ((okC_3 e_3).mp z))) dX9_changes_127
  by_cases c_1_4 : (nI d1) = nI 4
  · skip
    refine lv_tableIn (off := 141) (tgt := 142) hx hb dX9_changes_1 (by rw [c_1_4]; decide +kernel) (by rw [c_1_4]; decide +kernel) (by rw [c_1_4]; decide +kernel) (by decide) ?_
    have e_4 : d1 = 4 := cn_eq (by omega) (by omega) c_1_4
    refine lv_iload_n hx hb dX9_changes_142 rfl (lv_at hl 2 rfl) ?_
    refine lv_iload_n hx hb dX9_changes_143 rfl (lv_at hl 3 rfl) ?_
    refine lv_iadd hx hb dX9_changes_144 ?_
    rw [nI_add d2 d3]
    refine lv_iload hx hb dX9_changes_145 (lv_at hl 4 rfl) ?_
    refine lv_iadd hx hb dX9_changes_147 ?_
    rw [nI_add (d2 + d3) d4]
    refine lv_if_le (tgt := 153) hx hb dX9_changes_148 (by decide) (fun c_148 => ?_) (fun c_148 => ?_)
    · skip
      replace c_148 := cn_le (b := 0) (by omega) (by omega) c_148
      refine lv_aload_n hx hb dX9_changes_153 rfl (lv_at hl 0 rfl) ?_
      refine gp_V (ci := 9) (q0 := 0) (cq := (RX9, TX9, 15)) (c_X9_packs l D cI cZ cF cL mr rf st ln th pl hs vs dg xx T g hT) (gUV u_649 u_650 u_651 u_5 u_652) rfl hdV_X9_packs ⟨Nat.le_of_ble_eq_true rfl, Nat.le_of_ble_eq_true rfl⟩ ⟨rfl, rfl⟩ hx hb hml hown hts hK hA hP hD hS hl.1 ⟨Nat.le_of_ble_eq_true rfl, Nat.le_of_ble_eq_true rfl⟩ rfl rfl rfl (wr := ([] : va_W)) (pm_cnt (fun _ => by simp only [List.countP_append, List.countP_nil, fT] <;> omega)) (fun _ => by simp only [List.map_append, List.map_nil, fX_m, bX_m, sX_m, pX_m, iaX_m, r5X_m, r6X_m, fT_m, hX_m, tX_m, xX_m, sgX_m, zaX_m, fsB_a, qX_m, mX_m]) (rest := []) rfl rfl (Nat.le_of_ble_eq_true rfl) dX9_changes_154 (ws2 := (fun u_154 : (Nat → Nat) => (mX mr rf st ln th pl hs vs dg xx ++ qX cI (rf 0) ((packT T) 0 0) ((packT T) 0 1) ((packT T) 0 2) ((packT T) 0 3) ((packT T) 0 4) ((packT T) 0 5) ((packT T) 1) ((packT T) 2) ((packT T) 3) ((packT T) 4) ((packT T) 5) ((packT T) 6) ((packT T) 7) ((packT T) 8) ++ iaX cI (rf 6) 6 u_154))) (fun _ => (pm_cnt (fun _ => by simp only [List.countP_append, List.countP_nil, fT] <;> omega))) (fun u_154 Hp locs hP hD hS => ?_)
      refine lv_pop hx hb dX9_changes_157 rfl ?_
      refine lv_iconst (v := (nI 1)) hx hb dX9_changes_158 (by decide) ?_
      exact ct_z (u_154) hx hb hr hlocks (by rw [doC_4 ((okC_4 e_4).mpr (⟨by omega, by omega, by omega⟩)) e_4]; exact hP) hS (z_t ((okC_4 e_4).mpr (⟨by omega, by omega, by omega⟩))) dX9_changes_159
    · skip
      replace c_148 := cn_nle (b := 0) (by omega) (by omega) c_148
      refine lv_iconst (v := (nI 0)) hx hb dX9_changes_151 (by decide) ?_
      exact ct_z (g) hx hb hr hlocks (by first | (rw [doC_n (fun z => (fun z => absurd c_148 (by have := z.1; have := z.2.1; have := z.2.2; omega)) ((okC_4 e_4).mp z))]; exact hP)) hS (by first | exact z_f (fun z => (fun z => absurd c_148 (by have := z.1; have := z.2.1; have := z.2.2; omega)) ((okC_4 e_4).mp z))) dX9_changes_152
  by_cases c_1_5 : (nI d1) = nI 5
  · skip
    refine lv_tableIn (off := 159) (tgt := 160) hx hb dX9_changes_1 (by rw [c_1_5]; decide +kernel) (by rw [c_1_5]; decide +kernel) (by rw [c_1_5]; decide +kernel) (by decide) ?_
    have e_5 : d1 = 5 := cn_eq (by omega) (by omega) c_1_5
    refine lv_aload_n hx hb dX9_changes_160 rfl (lv_at hl 0 rfl) ?_
    refine lv_iload_n hx hb dX9_changes_161 rfl (lv_at hl 2 rfl) ?_
    refine gp_V (ci := 9) (q0 := 0) (cq := (RX9, TX9, 15)) (c_X9_isHouse l D cI cZ cF cL mr rf st ln th pl hs vs dg xx (T 0 0) (T 0 1) (T 0 2) (T 0 3) (T 0 4) (T 0 5) (T 1) (T 2) (T 3) (T 4) (T 5) (T 6) (T 7) (T 8) ((nI d2)) (by omega) (by omega)) (gUV u_397 u_398 u_399 u_5 u_400) rfl hdV_X9_isHouse ⟨Nat.le_of_ble_eq_true rfl, Nat.le_of_ble_eq_true rfl⟩ ⟨rfl, rfl⟩ hx hb hml hown hts hK hA hP hD hS hl.1 ⟨Nat.le_of_ble_eq_true rfl, Nat.le_of_ble_eq_true rfl⟩ rfl rfl rfl (wr := (iaX cI (rf 6) 6 g)) (pm_cnt (fun _ => by simp only [List.countP_append, List.countP_nil, fT] <;> omega)) (fun _ => by simp only [List.map_append, List.map_nil, fX_m, bX_m, sX_m, pX_m, iaX_m, r5X_m, r6X_m, fT_m, hX_m, tX_m, xX_m, sgX_m, zaX_m, fsB_a, qX_m, mX_m]) (rest := []) rfl rfl (Nat.le_of_ble_eq_true rfl) dX9_changes_162 (ws2 := (fun _ : Unit => (mX mr rf st ln th pl hs vs dg xx ++ qX cI (rf 0) (T 0 0) (T 0 1) (T 0 2) (T 0 3) (T 0 4) (T 0 5) (T 1) (T 2) (T 3) (T 4) (T 5) (T 6) (T 7) (T 8) ++ iaX cI (rf 6) 6 g))) (fun _ => (pm_cnt (fun _ => by simp only [List.countP_append, List.countP_nil, fT] <;> omega))) (fun _ Hp locs hP hD hS => ?_)
    refine lv_if_eq (tgt := 192) hx hb dX9_changes_165 (by decide) (fun c_165 => ?_) (fun c_165 => ?_)
    · skip
      replace c_165 := cb_z c_165
      replace c_165 : ¬ d2 < (T 0 0) := fun q => c_165 ((hhI (by omega) (by have := hT.1; omega)).mpr q)
      refine lv_iconst (v := (nI 0)) hx hb dX9_changes_192 (by decide) ?_
      exact ct_z (g) hx hb hr hlocks (by first | (rw [doC_n (fun z => (fun z => c_165 z.2.1) ((okC_5 e_5).mp z))]; exact hP) | (rw [doC_n (fun z => (fun z => absurd c_169 (by have := z.2.2.1; omega)) ((okC_5 e_5).mp z))]; exact hP) | (rw [doC_n (fun z => (fun z => Nat.not_le.mpr c_184 z.2.2.2) ((okC_5 e_5).mp z))]; exact hP) | (rw [doC_n (fun z => (fun z => absurd z.1 (Nat.ne_of_gt c_189)) ((okC_5 e_5).mp z))]; exact hP)) hS (by first | exact z_f (fun z => (fun z => c_165 z.2.1) ((okC_5 e_5).mp z)) | exact z_f (fun z => (fun z => absurd c_169 (by have := z.2.2.1; omega)) ((okC_5 e_5).mp z)) | exact z_f (fun z => (fun z => Nat.not_le.mpr c_184 z.2.2.2) ((okC_5 e_5).mp z)) | exact z_f (fun z => (fun z => absurd z.1 (Nat.ne_of_gt c_189)) ((okC_5 e_5).mp z))) dX9_changes_193
    · skip
      replace c_165 := cb_nz c_165
      replace c_165 : d2 < (T 0 0) := (hhI (by omega) (by have := hT.1; omega)).mp c_165
      refine lv_iload_n hx hb dX9_changes_168 rfl (lv_at hl 3 rfl) ?_
      refine lv_if_eq (tgt := 192) hx hb dX9_changes_169 (by decide) (fun c_169 => ?_) (fun c_169 => ?_)
      · skip
        replace c_169 := cn_eq (b := 0) (by omega) (by omega) c_169
        refine lv_iconst (v := (nI 0)) hx hb dX9_changes_192 (by decide) ?_
        exact ct_z (g) hx hb hr hlocks (by first | (rw [doC_n (fun z => (fun z => c_165 z.2.1) ((okC_5 e_5).mp z))]; exact hP) | (rw [doC_n (fun z => (fun z => absurd c_169 (by have := z.2.2.1; omega)) ((okC_5 e_5).mp z))]; exact hP) | (rw [doC_n (fun z => (fun z => Nat.not_le.mpr c_184 z.2.2.2) ((okC_5 e_5).mp z))]; exact hP) | (rw [doC_n (fun z => (fun z => absurd z.1 (Nat.ne_of_gt c_189)) ((okC_5 e_5).mp z))]; exact hP)) hS (by first | exact z_f (fun z => (fun z => c_165 z.2.1) ((okC_5 e_5).mp z)) | exact z_f (fun z => (fun z => absurd c_169 (by have := z.2.2.1; omega)) ((okC_5 e_5).mp z)) | exact z_f (fun z => (fun z => Nat.not_le.mpr c_184 z.2.2.2) ((okC_5 e_5).mp z)) | exact z_f (fun z => (fun z => absurd z.1 (Nat.ne_of_gt c_189)) ((okC_5 e_5).mp z))) dX9_changes_193
      · skip
        replace c_169 := cn_ne (b := 0) c_169
        refine lv_aload_n hx hb dX9_changes_172 rfl (lv_at hl 0 rfl) ?_
        refine gf_n (C := RX9) (T := TX9) (N := 15) (ci := 9) (q0 := 0) (v := .ref (rf 0)) hx hb hts (iU inlX9) hown hK hP rfl rfl 0 (by decide) (kU u_129) rfl rfl dX9_changes_173 ?_
        refine lv_iload_n hx hb dX9_changes_176 rfl (lv_at hl 2 rfl) ?_
        refine gp_S (c_X9_size l D cI cZ cF cL d2 ) (gUS u_275 u_276 u_5 u_277) rfl hdS_X9_size ⟨Nat.le_of_ble_eq_true rfl, Nat.le_of_ble_eq_true rfl⟩ ⟨rfl, rfl⟩ hx hb hml hown hts hK hA hP hD hS hl.1 ⟨Nat.le_of_ble_eq_true rfl, Nat.le_of_ble_eq_true rfl⟩ (wr := (mX mr rf st ln th pl hs vs dg xx ++ qX cI (rf 0) (T 0 0) (T 0 1) (T 0 2) (T 0 3) (T 0 4) (T 0 5) (T 1) (T 2) (T 3) (T 4) (T 5) (T 6) (T 7) (T 8) ++ iaX cI (rf 6) 6 g)) (pm_cnt (fun _ => by simp only [List.countP_append, List.countP_nil, fT] <;> omega)) (fun _ => by simp only [List.map_append, List.map_nil, fX_m, bX_m, sX_m, pX_m, iaX_m, r5X_m, r6X_m, fT_m, hX_m, tX_m, xX_m, sgX_m, zaX_m, fsB_a, qX_m, mX_m]) (rest := [.ref (rf 0)]) rfl rfl (Nat.le_of_ble_eq_true rfl) dX9_changes_177 (ws2 := (fun _ : Unit => (mX mr rf st ln th pl hs vs dg xx ++ qX cI (rf 0) (T 0 0) (T 0 1) (T 0 2) (T 0 3) (T 0 4) (T 0 5) (T 1) (T 2) (T 3) (T 4) (T 5) (T 6) (T 7) (T 8) ++ iaX cI (rf 6) 6 g))) (fun _ => (pm_cnt (fun _ => by simp only [List.countP_append, List.countP_nil, fT] <;> omega))) (fun _ Hp locs hP hD hS => ?_)
        refine lv_iconst (v := (nI 1)) hx hb dX9_changes_180 (by decide) ?_
        refine lv_iadd hx hb dX9_changes_181 ?_
        rw [nI_add (6 + 4 * d2) 1]
        refine ia_n (q0 := 1) (t0 := 0) hx hb hK hP rfl rfl (by omega) (by decide) dX9_changes_182 ?_
        rw [qR_2 (by omega)]
        refine lv_iload_n hx hb dX9_changes_183 rfl (lv_at hl 3 rfl) ?_
        refine lv_icmp_lt (tgt := 192) hx hb dX9_changes_184 (by decide) (fun c_184 => ?_) (fun c_184 => ?_)
        · skip
          replace c_184 := cn_lt (by have := (hT.2.1 d2 (by omega)).2.1; omega) (by omega) c_184
          refine lv_iconst (v := (nI 0)) hx hb dX9_changes_192 (by decide) ?_
          exact ct_z (g) hx hb hr hlocks (by first | (rw [doC_n (fun z => (fun z => c_165 z.2.1) ((okC_5 e_5).mp z))]; exact hP) | (rw [doC_n (fun z => (fun z => absurd c_169 (by have := z.2.2.1; omega)) ((okC_5 e_5).mp z))]; exact hP) | (rw [doC_n (fun z => (fun z => Nat.not_le.mpr c_184 z.2.2.2) ((okC_5 e_5).mp z))]; exact hP) | (rw [doC_n (fun z => (fun z => absurd z.1 (Nat.ne_of_gt c_189)) ((okC_5 e_5).mp z))]; exact hP)) hS (by first | exact z_f (fun z => (fun z => c_165 z.2.1) ((okC_5 e_5).mp z)) | exact z_f (fun z => (fun z => absurd c_169 (by have := z.2.2.1; omega)) ((okC_5 e_5).mp z)) | exact z_f (fun z => (fun z => Nat.not_le.mpr c_184 z.2.2.2) ((okC_5 e_5).mp z)) | exact z_f (fun z => (fun z => absurd z.1 (Nat.ne_of_gt c_189)) ((okC_5 e_5).mp z))) dX9_changes_193
        · skip
          replace c_184 := cn_nlt (by have := (hT.2.1 d2 (by omega)).2.1; omega) (by omega) c_184
          refine lv_iload hx hb dX9_changes_187 (lv_at hl 4 rfl) ?_
          refine lv_if_le (tgt := 194) hx hb dX9_changes_189 (by decide) (fun c_189 => ?_) (fun c_189 => ?_)
          · skip
            replace c_189 := cn_le (b := 0) (by omega) (by omega) c_189
            refine lv_aload_n hx hb dX9_changes_194 rfl (lv_at hl 0 rfl) ?_
            refine gf_n (C := RX9) (T := TX9) (N := 15) (ci := 9) (q0 := 0) (v := .ref (rf 0)) hx hb hts (iU inlX9) hown hK hP rfl rfl 0 (by decide) (kU u_129) rfl rfl dX9_changes_195 ?_
            refine lv_iload_n hx hb dX9_changes_198 rfl (lv_at hl 2 rfl) ?_
            refine gp_S (c_X9_size l D cI cZ cF cL d2 ) (gUS u_275 u_276 u_5 u_277) rfl hdS_X9_size ⟨Nat.le_of_ble_eq_true rfl, Nat.le_of_ble_eq_true rfl⟩ ⟨rfl, rfl⟩ hx hb hml hown hts hK hA hP hD hS hl.1 ⟨Nat.le_of_ble_eq_true rfl, Nat.le_of_ble_eq_true rfl⟩ (wr := (mX mr rf st ln th pl hs vs dg xx ++ qX cI (rf 0) (T 0 0) (T 0 1) (T 0 2) (T 0 3) (T 0 4) (T 0 5) (T 1) (T 2) (T 3) (T 4) (T 5) (T 6) (T 7) (T 8) ++ iaX cI (rf 6) 6 g)) (pm_cnt (fun _ => by simp only [List.countP_append, List.countP_nil, fT] <;> omega)) (fun _ => by simp only [List.map_append, List.map_nil, fX_m, bX_m, sX_m, pX_m, iaX_m, r5X_m, r6X_m, fT_m, hX_m, tX_m, xX_m, sgX_m, zaX_m, fsB_a, qX_m, mX_m]) (rest := [.ref (rf 0)]) rfl rfl (Nat.le_of_ble_eq_true rfl) dX9_changes_199 (ws2 := (fun _ : Unit => (mX mr rf st ln th pl hs vs dg xx ++ qX cI (rf 0) (T 0 0) (T 0 1) (T 0 2) (T 0 3) (T 0 4) (T 0 5) (T 1) (T 2) (T 3) (T 4) (T 5) (T 6) (T 7) (T 8) ++ iaX cI (rf 6) 6 g))) (fun _ => (pm_cnt (fun _ => by simp only [List.countP_append, List.countP_nil, fT] <;> omega))) (fun _ Hp locs hP hD hS => ?_)
            refine lv_iconst (v := (nI 1)) hx hb dX9_changes_202 (by decide) ?_
            refine lv_iadd hx hb dX9_changes_203 ?_
            rw [nI_add (6 + 4 * d2) 1]
            refine lv_dup2_11 hx hb dX9_changes_204 rfl rfl ?_
            refine ia_n (q0 := 1) (t0 := 0) hx hb hK hP rfl rfl (by omega) (by decide) dX9_changes_205 ?_
            rw [qR_2 (by omega)]
            refine lv_iload_n hx hb dX9_changes_206 rfl (lv_at hl 3 rfl) ?_
            refine lv_isub hx hb dX9_changes_207 ?_
            rw [pk_sub (a := (T 2) d2) (b := d3) c_184]
            refine is_n (q0 := 1) (t0 := 0) (ws2 := (mX mr rf st ln th pl hs vs dg xx ++ qX cI (rf 0) (T 0 0) (T 0 1) (T 0 2) (T 0 3) (T 0 4) (T 0 5) (T 1) (va_up (T 2) d2 (((T 2) d2) - d3)) (T 3) (T 4) (T 5) (T 6) (T 7) (T 8) ++ iaX cI (rf 6) 6 g)) hx hb hK hP hD hS rfl rfl (by omega) (by decide) dX9_changes_208 (by rw [qU_2 (by omega)]; rfl) (fun Hp locs hP hD hS => ?_)
            refine lv_iconst (v := (nI 1)) hx hb dX9_changes_209 (by decide) ?_
            exact ct_z (g) hx hb hr hlocks (by rw [doC_5 ((okC_5 e_5).mpr (⟨by omega, c_165, by omega, c_184⟩)) e_5]; exact hP) hS (z_t ((okC_5 e_5).mpr (⟨by omega, c_165, by omega, c_184⟩))) dX9_changes_210
          · skip
            replace c_189 := cn_nle (b := 0) (by omega) (by omega) c_189
            refine lv_iconst (v := (nI 0)) hx hb dX9_changes_192 (by decide) ?_
            exact ct_z (g) hx hb hr hlocks (by first | (rw [doC_n (fun z => (fun z => c_165 z.2.1) ((okC_5 e_5).mp z))]; exact hP) | (rw [doC_n (fun z => (fun z => absurd c_169 (by have := z.2.2.1; omega)) ((okC_5 e_5).mp z))]; exact hP) | (rw [doC_n (fun z => (fun z => Nat.not_le.mpr c_184 z.2.2.2) ((okC_5 e_5).mp z))]; exact hP) | (rw [doC_n (fun z => (fun z => absurd z.1 (Nat.ne_of_gt c_189)) ((okC_5 e_5).mp z))]; exact hP)) hS (by first | exact z_f (fun z => (fun z => c_165 z.2.1) ((okC_5 e_5).mp z)) | exact z_f (fun z => (fun z => absurd c_169 (by have := z.2.2.1; omega)) ((okC_5 e_5).mp z)) | exact z_f (fun z => (fun z => Nat.not_le.mpr c_184 z.2.2.2) ((okC_5 e_5).mp z)) | exact z_f (fun z => (fun z => absurd z.1 (Nat.ne_of_gt c_189)) ((okC_5 e_5).mp z))) dX9_changes_193
  refine lv_tableOut (tgt := 211) hx hb dX9_changes_1 (tb_out 1 5 (fun j hj => match j, hj with | 0, _ => c_1_1 | 1, _ => c_1_2 | 2, _ => c_1_3 | 3, _ => c_1_4 | 4, _ => c_1_5 | k + 5, hj => absurd hj (by omega)) (by decide) rfl rfl) (by decide) ?_
  have e_6 : d1 = 6 := by have n1 := cn_ne c_1_1; have n2 := cn_ne c_1_2; have n3 := cn_ne c_1_3; have n4 := cn_ne c_1_4; have n5 := cn_ne c_1_5; omega
  refine lv_aload_n hx hb dX9_changes_211 rfl (lv_at hl 0 rfl) ?_
  refine lv_iload_n hx hb dX9_changes_212 rfl (lv_at hl 2 rfl) ?_
  refine gp_V (ci := 9) (q0 := 0) (cq := (RX9, TX9, 15)) (c_X9_isHouse l D cI cZ cF cL mr rf st ln th pl hs vs dg xx (T 0 0) (T 0 1) (T 0 2) (T 0 3) (T 0 4) (T 0 5) (T 1) (T 2) (T 3) (T 4) (T 5) (T 6) (T 7) (T 8) ((nI d2)) (by omega) (by omega)) (gUV u_397 u_398 u_399 u_5 u_400) rfl hdV_X9_isHouse ⟨Nat.le_of_ble_eq_true rfl, Nat.le_of_ble_eq_true rfl⟩ ⟨rfl, rfl⟩ hx hb hml hown hts hK hA hP hD hS hl.1 ⟨Nat.le_of_ble_eq_true rfl, Nat.le_of_ble_eq_true rfl⟩ rfl rfl rfl (wr := (iaX cI (rf 6) 6 g)) (pm_cnt (fun _ => by simp only [List.countP_append, List.countP_nil, fT] <;> omega)) (fun _ => by simp only [List.map_append, List.map_nil, fX_m, bX_m, sX_m, pX_m, iaX_m, r5X_m, r6X_m, fT_m, hX_m, tX_m, xX_m, sgX_m, zaX_m, fsB_a, qX_m, mX_m]) (rest := []) rfl rfl (Nat.le_of_ble_eq_true rfl) dX9_changes_213 (ws2 := (fun _ : Unit => (mX mr rf st ln th pl hs vs dg xx ++ qX cI (rf 0) (T 0 0) (T 0 1) (T 0 2) (T 0 3) (T 0 4) (T 0 5) (T 1) (T 2) (T 3) (T 4) (T 5) (T 6) (T 7) (T 8) ++ iaX cI (rf 6) 6 g))) (fun _ => (pm_cnt (fun _ => by simp only [List.countP_append, List.countP_nil, fT] <;> omega))) (fun _ Hp locs hP hD hS => ?_)
  refine lv_if_eq (tgt := 247) hx hb dX9_changes_216 (by decide) (fun c_216 => ?_) (fun c_216 => ?_)
  · skip
    replace c_216 := cb_z c_216
    replace c_216 : ¬ d2 < (T 0 0) := fun q => c_216 ((hhI (by omega) (by have := hT.1; omega)).mpr q)
    refine lv_iconst (v := (nI 0)) hx hb dX9_changes_247 (by decide) ?_
    exact ct_z (g) hx hb hr hlocks (by first | (rw [doC_n (fun z => (fun z => c_216 z.1) ((okC_6 e_6).mp z))]; exact hP) | (rw [doC_n (fun z => (fun z => c_224 z.2.1) ((okC_6 e_6).mp z))]; exact hP) | (rw [doC_n (fun z => (fun z => absurd c_229 (by have := z.2.2.1; omega)) ((okC_6 e_6).mp z))]; exact hP) | (rw [doC_n (fun z => (fun z => Nat.not_le.mpr c_244 z.2.2.2) ((okC_6 e_6).mp z))]; exact hP)) hS (by first | exact z_f (fun z => (fun z => c_216 z.1) ((okC_6 e_6).mp z)) | exact z_f (fun z => (fun z => c_224 z.2.1) ((okC_6 e_6).mp z)) | exact z_f (fun z => (fun z => absurd c_229 (by have := z.2.2.1; omega)) ((okC_6 e_6).mp z)) | exact z_f (fun z => (fun z => Nat.not_le.mpr c_244 z.2.2.2) ((okC_6 e_6).mp z))) dX9_changes_248
  · skip
    replace c_216 := cb_nz c_216
    replace c_216 : d2 < (T 0 0) := (hhI (by omega) (by have := hT.1; omega)).mp c_216
    refine lv_aload_n hx hb dX9_changes_219 rfl (lv_at hl 0 rfl) ?_
    refine lv_iload_n hx hb dX9_changes_220 rfl (lv_at hl 3 rfl) ?_
    refine gp_V (ci := 9) (q0 := 0) (cq := (RX9, TX9, 15)) (c_X9_isVegetable l D cI cZ cF cL mr rf st ln th pl hs vs dg xx (T 0 0) (T 0 1) (T 0 2) (T 0 3) (T 0 4) (T 0 5) (T 1) (T 2) (T 3) (T 4) (T 5) (T 6) (T 7) (T 8) ((nI d3)) (by omega) (by omega)) (gUV u_450 u_451 u_452 u_5 u_453) rfl hdV_X9_isVegetable ⟨Nat.le_of_ble_eq_true rfl, Nat.le_of_ble_eq_true rfl⟩ ⟨rfl, rfl⟩ hx hb hml hown hts hK hA hP hD hS hl.1 ⟨Nat.le_of_ble_eq_true rfl, Nat.le_of_ble_eq_true rfl⟩ rfl rfl rfl (wr := (iaX cI (rf 6) 6 g)) (pm_cnt (fun _ => by simp only [List.countP_append, List.countP_nil, fT] <;> omega)) (fun _ => by simp only [List.map_append, List.map_nil, fX_m, bX_m, sX_m, pX_m, iaX_m, r5X_m, r6X_m, fT_m, hX_m, tX_m, xX_m, sgX_m, zaX_m, fsB_a, qX_m, mX_m]) (rest := []) rfl rfl (Nat.le_of_ble_eq_true rfl) dX9_changes_221 (ws2 := (fun _ : Unit => (mX mr rf st ln th pl hs vs dg xx ++ qX cI (rf 0) (T 0 0) (T 0 1) (T 0 2) (T 0 3) (T 0 4) (T 0 5) (T 1) (T 2) (T 3) (T 4) (T 5) (T 6) (T 7) (T 8) ++ iaX cI (rf 6) 6 g))) (fun _ => (pm_cnt (fun _ => by simp only [List.countP_append, List.countP_nil, fT] <;> omega))) (fun _ Hp locs hP hD hS => ?_)
    refine lv_if_eq (tgt := 247) hx hb dX9_changes_224 (by decide) (fun c_224 => ?_) (fun c_224 => ?_)
    · skip
      replace c_224 := cb_z c_224
      replace c_224 : ¬ d3 < (T 0 1) := fun q => c_224 ((hhI (by omega) (by have := hT.1; omega)).mpr q)
      refine lv_iconst (v := (nI 0)) hx hb dX9_changes_247 (by decide) ?_
      exact ct_z (g) hx hb hr hlocks (by first | (rw [doC_n (fun z => (fun z => c_216 z.1) ((okC_6 e_6).mp z))]; exact hP) | (rw [doC_n (fun z => (fun z => c_224 z.2.1) ((okC_6 e_6).mp z))]; exact hP) | (rw [doC_n (fun z => (fun z => absurd c_229 (by have := z.2.2.1; omega)) ((okC_6 e_6).mp z))]; exact hP) | (rw [doC_n (fun z => (fun z => Nat.not_le.mpr c_244 z.2.2.2) ((okC_6 e_6).mp z))]; exact hP)) hS (by first | exact z_f (fun z => (fun z => c_216 z.1) ((okC_6 e_6).mp z)) | exact z_f (fun z => (fun z => c_224 z.2.1) ((okC_6 e_6).mp z)) | exact z_f (fun z => (fun z => absurd c_229 (by have := z.2.2.1; omega)) ((okC_6 e_6).mp z)) | exact z_f (fun z => (fun z => Nat.not_le.mpr c_244 z.2.2.2) ((okC_6 e_6).mp z))) dX9_changes_248
    · skip
      replace c_224 := cb_nz c_224
      replace c_224 : d3 < (T 0 1) := (hhI (by omega) (by have := hT.1; omega)).mp c_224
      refine lv_iload hx hb dX9_changes_227 (lv_at hl 4 rfl) ?_
      refine lv_if_eq (tgt := 247) hx hb dX9_changes_229 (by decide) (fun c_229 => ?_) (fun c_229 => ?_)
      · skip
        replace c_229 := cn_eq (b := 0) (by omega) (by omega) c_229
        refine lv_iconst (v := (nI 0)) hx hb dX9_changes_247 (by decide) ?_
        exact ct_z (g) hx hb hr hlocks (by first | (rw [doC_n (fun z => (fun z => c_216 z.1) ((okC_6 e_6).mp z))]; exact hP) | (rw [doC_n (fun z => (fun z => c_224 z.2.1) ((okC_6 e_6).mp z))]; exact hP) | (rw [doC_n (fun z => (fun z => absurd c_229 (by have := z.2.2.1; omega)) ((okC_6 e_6).mp z))]; exact hP) | (rw [doC_n (fun z => (fun z => Nat.not_le.mpr c_244 z.2.2.2) ((okC_6 e_6).mp z))]; exact hP)) hS (by first | exact z_f (fun z => (fun z => c_216 z.1) ((okC_6 e_6).mp z)) | exact z_f (fun z => (fun z => c_224 z.2.1) ((okC_6 e_6).mp z)) | exact z_f (fun z => (fun z => absurd c_229 (by have := z.2.2.1; omega)) ((okC_6 e_6).mp z)) | exact z_f (fun z => (fun z => Nat.not_le.mpr c_244 z.2.2.2) ((okC_6 e_6).mp z))) dX9_changes_248
      · skip
        replace c_229 := cn_ne (b := 0) c_229
        refine lv_aload_n hx hb dX9_changes_232 rfl (lv_at hl 0 rfl) ?_
        refine gf_n (C := RX9) (T := TX9) (N := 15) (ci := 9) (q0 := 0) (v := .ref (rf 0)) hx hb hts (iU inlX9) hown hK hP rfl rfl 0 (by decide) (kU u_129) rfl rfl dX9_changes_233 ?_
        refine lv_iload_n hx hb dX9_changes_236 rfl (lv_at hl 2 rfl) ?_
        refine lv_iload_n hx hb dX9_changes_237 rfl (lv_at hl 3 rfl) ?_
        refine gp_S (c_X9_kilos l D cI cZ cF cL d2 d3 ) (gUS u_354 u_355 u_5 u_356) rfl hdS_X9_kilos ⟨Nat.le_of_ble_eq_true rfl, Nat.le_of_ble_eq_true rfl⟩ ⟨rfl, rfl⟩ hx hb hml hown hts hK hA hP hD hS hl.1 ⟨Nat.le_of_ble_eq_true rfl, Nat.le_of_ble_eq_true rfl⟩ (wr := (mX mr rf st ln th pl hs vs dg xx ++ qX cI (rf 0) (T 0 0) (T 0 1) (T 0 2) (T 0 3) (T 0 4) (T 0 5) (T 1) (T 2) (T 3) (T 4) (T 5) (T 6) (T 7) (T 8) ++ iaX cI (rf 6) 6 g)) (pm_cnt (fun _ => by simp only [List.countP_append, List.countP_nil, fT] <;> omega)) (fun _ => by simp only [List.map_append, List.map_nil, fX_m, bX_m, sX_m, pX_m, iaX_m, r5X_m, r6X_m, fT_m, hX_m, tX_m, xX_m, sgX_m, zaX_m, fsB_a, qX_m, mX_m]) (rest := [.ref (rf 0)]) rfl rfl (Nat.le_of_ble_eq_true rfl) dX9_changes_238 (ws2 := (fun _ : Unit => (mX mr rf st ln th pl hs vs dg xx ++ qX cI (rf 0) (T 0 0) (T 0 1) (T 0 2) (T 0 3) (T 0 4) (T 0 5) (T 1) (T 2) (T 3) (T 4) (T 5) (T 6) (T 7) (T 8) ++ iaX cI (rf 6) 6 g))) (fun _ => (pm_cnt (fun _ => by simp only [List.countP_append, List.countP_nil, fT] <;> omega))) (fun _ Hp locs hP hD hS => ?_)
        refine ia_n (q0 := 1) (t0 := 0) hx hb hK hP rfl rfl (by omega) (by decide) dX9_changes_241 ?_
        rw [qR_8 (by omega) (by omega)]
        refine lv_iload hx hb dX9_changes_242 (lv_at hl 4 rfl) ?_
        refine lv_icmp_ge (tgt := 249) hx hb dX9_changes_244 (by decide) (fun c_244 => ?_) (fun c_244 => ?_)
        · skip
          replace c_244 := cn_le (by omega) (by have := FI_8 hT (k := d2 * 5 + d3) (by omega); omega) c_244
          refine lv_aload_n hx hb dX9_changes_249 rfl (lv_at hl 0 rfl) ?_
          refine lv_iload_n hx hb dX9_changes_250 rfl (lv_at hl 2 rfl) ?_
          refine lv_iload_n hx hb dX9_changes_251 rfl (lv_at hl 3 rfl) ?_
          refine lv_iload hx hb dX9_changes_252 (lv_at hl 4 rfl) ?_
          refine gp_V (ci := 9) (q0 := 0) (cq := (RX9, TX9, 15)) (c_X9_gives l D cI cZ cF cL mr rf st ln th pl hs vs dg xx (T 0 0) (T 0 1) (T 0 2) (T 0 3) (T 0 4) (T 0 5) (T 1) (T 2) (T 3) (T 4) (T 5) (T 6) (T 7) (T 8) d2 d3 d4 (by omega) (by omega) c_244) (gUV u_703 u_704 u_705 u_5 u_706) rfl hdV_X9_gives ⟨Nat.le_of_ble_eq_true rfl, Nat.le_of_ble_eq_true rfl⟩ ⟨rfl, rfl⟩ hx hb hml hown hts hK hA hP hD hS hl.1 ⟨Nat.le_of_ble_eq_true rfl, Nat.le_of_ble_eq_true rfl⟩ rfl rfl rfl (wr := (iaX cI (rf 6) 6 g)) (pm_cnt (fun _ => by simp only [List.countP_append, List.countP_nil, fT] <;> omega)) (fun _ => by simp only [List.map_append, List.map_nil, fX_m, bX_m, sX_m, pX_m, iaX_m, r5X_m, r6X_m, fT_m, hX_m, tX_m, xX_m, sgX_m, zaX_m, fsB_a, qX_m, mX_m]) (rest := []) rfl rfl (Nat.le_of_ble_eq_true rfl) dX9_changes_254 (ws2 := (fun _ : Unit => (mX mr rf st ln th pl hs vs dg xx ++ qX cI (rf 0) (T 0 0) (T 0 1) (T 0 2) (T 0 3) ((T 0 4) + d4) (T 0 5) (T 1) (T 2) (T 3) (T 4) (T 5) (T 6) (T 7) (va_up (T 8) (d2 * 5 + d3) ((T 8) (d2 * 5 + d3) - d4)) ++ iaX cI (rf 6) 6 g))) (fun _ => (pm_cnt (fun _ => by simp only [List.countP_append, List.countP_nil, fT] <;> omega))) (fun _ Hp locs hP hD hS => ?_)
          refine lv_pop hx hb dX9_changes_257 rfl ?_
          refine lv_iconst (v := (nI 1)) hx hb dX9_changes_258 (by decide) ?_
          exact ct_z (g) hx hb hr hlocks (by rw [doC_6 ((okC_6 e_6).mpr (⟨c_216, c_224, by omega, c_244⟩)) e_6]; exact hP) hS (z_t ((okC_6 e_6).mpr (⟨c_216, c_224, by omega, c_244⟩))) dX9_changes_259
        · skip
          replace c_244 := cn_nle (by omega) (by have := FI_8 hT (k := d2 * 5 + d3) (by omega); omega) c_244
          refine lv_iconst (v := (nI 0)) hx hb dX9_changes_247 (by decide) ?_
          exact ct_z (g) hx hb hr hlocks (by first | (rw [doC_n (fun z => (fun z => c_216 z.1) ((okC_6 e_6).mp z))]; exact hP) | (rw [doC_n (fun z => (fun z => c_224 z.2.1) ((okC_6 e_6).mp z))]; exact hP) | (rw [doC_n (fun z => (fun z => absurd c_229 (by have := z.2.2.1; omega)) ((okC_6 e_6).mp z))]; exact hP) | (rw [doC_n (fun z => (fun z => Nat.not_le.mpr c_244 z.2.2.2) ((okC_6 e_6).mp z))]; exact hP)) hS (by first | exact z_f (fun z => (fun z => c_216 z.1) ((okC_6 e_6).mp z)) | exact z_f (fun z => (fun z => c_224 z.2.1) ((okC_6 e_6).mp z)) | exact z_f (fun z => (fun z => absurd c_229 (by have := z.2.2.1; omega)) ((okC_6 e_6).mp z)) | exact z_f (fun z => (fun z => Nat.not_le.mpr c_244 z.2.2.2) ((okC_6 e_6).mp z))) dX9_changes_248
set_option maxRecDepth 20000 in
theorem u_869 : Cond.code yX9_changes cX9_changes 5 (some .boolean) ∈ wsL_law := List.mem_of_getElem? (i := 869) (by decide +kernel)
set_option maxRecDepth 20000 in
theorem u_866 : Cond.methodLink RX9 157 yX9_changes ∈ wsL_law := List.mem_of_getElem? (i := 866) (by decide +kernel)
set_option maxRecDepth 20000 in
theorem u_867 : Cond.instanceMethod yX9_changes ∈ wsL_law := List.mem_of_getElem? (i := 867) (by decide +kernel)
set_option maxRecDepth 20000 in
theorem u_868 : Cond.selects RX9 yX9_changes yX9_changes ∈ wsL_law := List.mem_of_getElem? (i := 868) (by decide +kernel)
theorem hdV_X9_changes : yX9_changes.cls = RX9 ∧ yX9_changes.cls ≠ "java/lang/invoke/MethodHandle" ∧ yX9_changes.cls ≠ "java/lang/invoke/VarHandle" ∧ (parseMethodDescriptor yX9_changes.desc).map (fun d => d.parameters.length) = some 4 := by decide +kernel
set_option maxHeartbeats 4000000 in
set_option maxRecDepth 100000 in
theorem c_X9_succeeds (l : Launch) (D : va_G) (cI cZ cF cL : ClassId) (mr : Nat) (rf : Nat → Nat) (st ln th pl hs vs : Nat) (dg : Int32) (xx : Int64) (T : Nat → Nat → Nat) (g : Nat → Nat) (g9 : Nat) (hT : FI T) (hg9 : g9 < 10000) : CT l D (tysX cI cZ cF cL) yX9_succeeds (wA yX9_succeeds cX9_succeeds 6 (some .boolean)) (rmF 6 148) [.ref mr, .int (nI g9)] (mX mr rf st ln th pl hs vs dg xx ++ qX cI (rf 0) (T 0 0) (T 0 1) (T 0 2) (T 0 3) (T 0 4) (T 0 5) (T 1) (T 2) (T 3) (T 4) (T 5) (T 6) (T 7) (T 8) ++ iaX cI (rf 6) 6 g) (some (.int (if (okG T g9) then 1 else 0))) (fun u : (Nat → Nat) => (mX mr rf st ln th pl hs vs dg xx ++ qX cI (rf 0) ((doG T g9) 0 0) ((doG T g9) 0 1) ((doG T g9) 0 2) ((doG T g9) 0 3) ((doG T g9) 0 4) ((doG T g9) 0 5) ((doG T g9) 1) ((doG T g9) 2) ((doG T g9) 3) ((doG T g9) 4) ((doG T g9) 5) ((doG T g9) 6) ((doG T g9) 7) ((doG T g9) 8) ++ iaX cI (rf 6) 6 u)) := by
  refine ct_in (cc := cX9_succeeds) (maxL := 6) (ret := (some .boolean)) (own := RX9) (lv := [(0, .ref mr), (1, .int (nI g9))]) (by decide +kernel) rfl rfl (Nat.le_of_ble_eq_true rfl) rfl ?_
  intro p e s m args below meth c A ls hx hb hr hml hts hown hlocks hK hA hP hD hS hl
  have hH := hT.1.1
  have hV := hT.1.2
  refine lv_iload_n hx hb dX9_succeeds_0 rfl (lv_at hl 1 rfl) ?_
  refine lv_sipush (v := (nI 1000)) hx hb dX9_succeeds_1 (by decide +kernel) ?_
  refine lv_idiv hx hb dX9_succeeds_4 (by decide) ?_
  rw [pk_div (a := g9) (d := 1000) (by omega) (by omega) (by omega)]
  refine lv_istore_n (lv' := [(2, .int (nI (g9 / 1000))), (0, .ref mr), (1, .int (nI g9))]) hx hb dX9_succeeds_5 rfl hl (by decide) rfl (fun ls hl => ?_)
  refine lv_iload_n hx hb dX9_succeeds_6 rfl (lv_at hl 2 rfl) ?_
  refine lv_bipush (v := (nI 100)) hx hb dX9_succeeds_7 (by decide) ?_
  refine lv_idiv hx hb dX9_succeeds_9 (by decide) ?_
  rw [pk_div (a := g9) (d := 100) (by omega) (by omega) (by omega)]
  refine lv_bipush (v := (nI 10)) hx hb dX9_succeeds_10 (by decide) ?_
  refine lv_irem hx hb dX9_succeeds_12 (by decide) ?_
  rw [pk_rem (a := g9 / 100) (d := 10) (by omega) (by omega) (by omega)]
  refine lv_istore_n (lv' := [(3, .int (nI ((g9 / 100) % 10))), (2, .int (nI (g9 / 1000))), (0, .ref mr), (1, .int (nI g9))]) hx hb dX9_succeeds_13 rfl hl (by decide) rfl (fun ls hl => ?_)
  refine lv_iload_n hx hb dX9_succeeds_14 rfl (lv_at hl 3 rfl) ?_
  refine lv_bipush (v := (nI 10)) hx hb dX9_succeeds_15 (by decide) ?_
  refine lv_idiv hx hb dX9_succeeds_17 (by decide) ?_
  rw [pk_div (a := g9) (d := 10) (by omega) (by omega) (by omega)]
  refine lv_bipush (v := (nI 10)) hx hb dX9_succeeds_18 (by decide) ?_
  refine lv_irem hx hb dX9_succeeds_20 (by decide) ?_
  rw [pk_rem (a := g9 / 10) (d := 10) (by omega) (by omega) (by omega)]
  refine lv_istore (lv' := [(4, .int (nI ((g9 / 10) % 10))), (3, .int (nI ((g9 / 100) % 10))), (2, .int (nI (g9 / 1000))), (0, .ref mr), (1, .int (nI g9))]) hx hb dX9_succeeds_21 hl (by decide) rfl (fun ls hl => ?_)
  refine lv_iload_n hx hb dX9_succeeds_23 rfl (lv_at hl 4 rfl) ?_
  refine lv_bipush (v := (nI 10)) hx hb dX9_succeeds_24 (by decide) ?_
  refine lv_irem hx hb dX9_succeeds_26 (by decide) ?_
  rw [pk_rem (a := g9) (d := 10) (by omega) (by omega) (by omega)]
  refine lv_istore (lv' := [(5, .int (nI (g9 % 10))), (4, .int (nI ((g9 / 10) % 10))), (3, .int (nI ((g9 / 100) % 10))), (2, .int (nI (g9 / 1000))), (0, .ref mr), (1, .int (nI g9))]) hx hb dX9_succeeds_27 hl (by decide) rfl (fun ls hl => ?_)
  refine lv_iload_n hx hb dX9_succeeds_29 rfl (lv_at hl 3 rfl) ?_
  refine lv_iconst (v := (nI 1)) hx hb dX9_succeeds_30 (by decide) ?_
  refine lv_bipush (v := (nI 6)) hx hb dX9_succeeds_31 (by decide) ?_
  refine gp_S (c_X9_in l D cI cZ cF cL ((nI (g9 / 1000))) ((nI 1)) ((nI 6)) ) (gUS u_140 u_141 u_5 u_142) rfl hdS_X9_in ⟨Nat.le_of_ble_eq_true rfl, Nat.le_of_ble_eq_true rfl⟩ ⟨rfl, rfl⟩ hx hb hml hown hts hK hA hP hD hS hl.1 ⟨Nat.le_of_ble_eq_true rfl, Nat.le_of_ble_eq_true rfl⟩ (wr := (mX mr rf st ln th pl hs vs dg xx ++ qX cI (rf 0) (T 0 0) (T 0 1) (T 0 2) (T 0 3) (T 0 4) (T 0 5) (T 1) (T 2) (T 3) (T 4) (T 5) (T 6) (T 7) (T 8) ++ iaX cI (rf 6) 6 g)) (pm_cnt (fun _ => by simp only [List.countP_append, List.countP_nil, fT] <;> omega)) (fun _ => by simp only [List.map_append, List.map_nil, fX_m, bX_m, sX_m, pX_m, iaX_m, r5X_m, r6X_m, fT_m, hX_m, tX_m, xX_m, sgX_m, zaX_m, fsB_a, qX_m, mX_m]) (rest := []) rfl rfl (Nat.le_of_ble_eq_true rfl) dX9_succeeds_33 (ws2 := (fun _ : Unit => (mX mr rf st ln th pl hs vs dg xx ++ qX cI (rf 0) (T 0 0) (T 0 1) (T 0 2) (T 0 3) (T 0 4) (T 0 5) (T 1) (T 2) (T 3) (T 4) (T 5) (T 6) (T 7) (T 8) ++ iaX cI (rf 6) 6 g))) (fun _ => (pm_cnt (fun _ => by simp only [List.countP_append, List.countP_nil, fT] <;> omega))) (fun _ Hp locs hP hD hS => ?_)
  refine lv_if_eq (tgt := 50) hx hb dX9_succeeds_36 (by decide) (fun c_36 => ?_) (fun c_36 => ?_)
  · skip
    replace c_36 := cb_z c_36
    replace c_36 : ¬ (1 ≤ g9 / 1000 ∧ g9 / 1000 ≤ 6) := fun q => c_36 ((in_n (by omega) (by decide) (by decide)).mpr q)
    refine lv_iload_n hx hb dX9_succeeds_50 rfl (lv_at hl 3 rfl) ?_
    refine lv_bipush (v := (nI 7)) hx hb dX9_succeeds_51 (by decide) ?_
    refine lv_icmp_ne (tgt := 86) hx hb dX9_succeeds_53 (by decide) (fun c_53 => ?_) (fun c_53 => ?_)
    · skip
      replace c_53 := cn_ne c_53
      refine lv_iload_n hx hb dX9_succeeds_86 rfl (lv_at hl 3 rfl) ?_
      refine lv_bipush (v := (nI 8)) hx hb dX9_succeeds_87 (by decide) ?_
      refine lv_icmp_ne (tgt := 131) hx hb dX9_succeeds_89 (by decide) (fun c_89 => ?_) (fun c_89 => ?_)
      · skip
        replace c_89 := cn_ne c_89
        refine lv_iload_n hx hb dX9_succeeds_131 rfl (lv_at hl 3 rfl) ?_
        refine lv_bipush (v := (nI 9)) hx hb dX9_succeeds_132 (by decide) ?_
        refine lv_icmp_ne (tgt := 157) hx hb dX9_succeeds_134 (by decide) (fun c_134 => ?_) (fun c_134 => ?_)
        · skip
          replace c_134 := cn_ne c_134
          refine lv_iconst (v := (nI 0)) hx hb dX9_succeeds_157 (by decide) ?_
          exact ct_z (g) hx hb hr hlocks (by rw [show doG T g9 = T from doC_7 (by omega)]; exact hP) hS (by first | exact z_f (fun z => (fun z => absurd c_142 (by have := z.1; have := z.2.1; omega)) ((okC_9 c_134).mp z)) | exact z_f (fun z => (fun z => Nat.not_le.mpr c_150 z.2.2) ((okC_9 c_134).mp z)) | exact z_f (okC_no (by omega) (by omega) (by omega) (by omega) (by omega) (by omega) (by omega) (by omega) (by omega)) | exact z_t ((okC_9 c_134).mpr (⟨by omega, by omega, c_150⟩))) dX9_succeeds_158
        · skip
          replace c_134 := cn_eq (by omega) (by omega) c_134
          refine lv_iload hx hb dX9_succeeds_137 (lv_at hl 1 rfl) ?_
          refine lv_iload hx hb dX9_succeeds_139 (lv_at hl 0 rfl) ?_
          refine lv_iadd hx hb dX9_succeeds_141 ?_
          rw [nI_add ((g9 / 10) % 10) (g9 % 10)]
          refine lv_if_ne (tgt := 157) hx hb dX9_succeeds_142 (by decide) (fun c_142 => ?_) (fun c_142 => ?_)
          · skip
            replace c_142 := cn_ne (b := 0) c_142
            refine lv_iconst (v := (nI 0)) hx hb dX9_succeeds_157 (by decide) ?_
            exact ct_z (g) hx hb hr hlocks (by rw [show doG T g9 = T from doC_7 (by omega)]; exact hP) hS (by first | exact z_f (fun z => (fun z => absurd c_142 (by have := z.1; have := z.2.1; omega)) ((okC_9 c_134).mp z)) | exact z_f (fun z => (fun z => Nat.not_le.mpr c_150 z.2.2) ((okC_9 c_134).mp z)) | exact z_f (okC_no (by omega) (by omega) (by omega) (by omega) (by omega) (by omega) (by omega) (by omega) (by omega)) | exact z_t ((okC_9 c_134).mpr (⟨by omega, by omega, c_150⟩))) dX9_succeeds_158
          · skip
            replace c_142 := cn_eq (b := 0) (by omega) (by omega) c_142
            refine lv_aload_n hx hb dX9_succeeds_145 rfl (lv_at hl 4 rfl) ?_
            refine gp_V (ci := 9) (q0 := 0) (cq := (RX9, TX9, 15)) (c_X9_boxes l D cI cZ cF cL mr rf st ln th pl hs vs dg xx (T 0 0) (T 0 1) (T 0 2) (T 0 3) (T 0 4) (T 0 5) (T 1) (T 2) (T 3) (T 4) (T 5) (T 6) (T 7) (T 8) hH (fun h hh => by have := (hT.2.1 h hh).2.1; omega) (fun h hh => by have := (hT.2.1 h hh).2.2.2.1; omega)) (gUV u_357 u_358 u_359 u_5 u_360) rfl hdV_X9_boxes ⟨Nat.le_of_ble_eq_true rfl, Nat.le_of_ble_eq_true rfl⟩ ⟨rfl, rfl⟩ hx hb hml hown hts hK hA hP hD hS hl.1 ⟨Nat.le_of_ble_eq_true rfl, Nat.le_of_ble_eq_true rfl⟩ rfl rfl rfl (wr := (iaX cI (rf 6) 6 g)) (pm_cnt (fun _ => by simp only [List.countP_append, List.countP_nil, fT] <;> omega)) (fun _ => by simp only [List.map_append, List.map_nil, fX_m, bX_m, sX_m, pX_m, iaX_m, r5X_m, r6X_m, fT_m, hX_m, tX_m, xX_m, sgX_m, zaX_m, fsB_a, qX_m, mX_m]) (rest := []) rfl rfl (Nat.le_of_ble_eq_true rfl) dX9_succeeds_146 (ws2 := (fun _ : Unit => (mX mr rf st ln th pl hs vs dg xx ++ qX cI (rf 0) (T 0 0) (T 0 1) (T 0 2) (T 0 3) (T 0 4) (T 0 5) (T 1) (T 2) (T 3) (T 4) (T 5) (T 6) (T 7) (T 8) ++ iaX cI (rf 6) 6 g))) (fun _ => (pm_cnt (fun _ => by simp only [List.countP_append, List.countP_nil, fT] <;> omega))) (fun _ Hp locs hP hD hS => ?_)
            refine lv_iload_n hx hb dX9_succeeds_149 rfl (lv_at hl 2 rfl) ?_
            refine lv_icmp_lt (tgt := 157) hx hb dX9_succeeds_150 (by decide) (fun c_150 => ?_) (fun c_150 => ?_)
            · skip
              replace c_150 := cn_lt (by have := FI_box T; omega) (by omega) c_150
              refine lv_iconst (v := (nI 0)) hx hb dX9_succeeds_157 (by decide) ?_
              exact ct_z (g) hx hb hr hlocks (by rw [show doG T g9 = T from doC_7 (by omega)]; exact hP) hS (by first | exact z_f (fun z => (fun z => absurd c_142 (by have := z.1; have := z.2.1; omega)) ((okC_9 c_134).mp z)) | exact z_f (fun z => (fun z => Nat.not_le.mpr c_150 z.2.2) ((okC_9 c_134).mp z)) | exact z_f (okC_no (by omega) (by omega) (by omega) (by omega) (by omega) (by omega) (by omega) (by omega) (by omega)) | exact z_t ((okC_9 c_134).mpr (⟨by omega, by omega, c_150⟩))) dX9_succeeds_158
            · skip
              replace c_150 := cn_nlt (by have := FI_box T; omega) (by omega) c_150
              refine lv_iconst (v := (nI 1)) hx hb dX9_succeeds_153 (by decide) ?_
              refine lv_goto (tgt := 158) hx hb dX9_succeeds_154 (by decide) ?_
              exact ct_z (g) hx hb hr hlocks (by rw [show doG T g9 = T from doC_7 (by omega)]; exact hP) hS (by first | exact z_f (fun z => (fun z => absurd c_142 (by have := z.1; have := z.2.1; omega)) ((okC_9 c_134).mp z)) | exact z_f (fun z => (fun z => Nat.not_le.mpr c_150 z.2.2) ((okC_9 c_134).mp z)) | exact z_f (okC_no (by omega) (by omega) (by omega) (by omega) (by omega) (by omega) (by omega) (by omega) (by omega)) | exact z_t ((okC_9 c_134).mpr (⟨by omega, by omega, c_150⟩))) dX9_succeeds_158
      · skip
        replace c_89 := cn_eq (by omega) (by omega) c_89
        refine lv_aload_n hx hb dX9_succeeds_92 rfl (lv_at hl 4 rfl) ?_
        refine lv_iload_n hx hb dX9_succeeds_93 rfl (lv_at hl 2 rfl) ?_
        refine gp_V (ci := 9) (q0 := 0) (cq := (RX9, TX9, 15)) (c_X9_isHouse l D cI cZ cF cL mr rf st ln th pl hs vs dg xx (T 0 0) (T 0 1) (T 0 2) (T 0 3) (T 0 4) (T 0 5) (T 1) (T 2) (T 3) (T 4) (T 5) (T 6) (T 7) (T 8) ((nI ((g9 / 100) % 10))) (by omega) (by omega)) (gUV u_397 u_398 u_399 u_5 u_400) rfl hdV_X9_isHouse ⟨Nat.le_of_ble_eq_true rfl, Nat.le_of_ble_eq_true rfl⟩ ⟨rfl, rfl⟩ hx hb hml hown hts hK hA hP hD hS hl.1 ⟨Nat.le_of_ble_eq_true rfl, Nat.le_of_ble_eq_true rfl⟩ rfl rfl rfl (wr := (iaX cI (rf 6) 6 g)) (pm_cnt (fun _ => by simp only [List.countP_append, List.countP_nil, fT] <;> omega)) (fun _ => by simp only [List.map_append, List.map_nil, fX_m, bX_m, sX_m, pX_m, iaX_m, r5X_m, r6X_m, fT_m, hX_m, tX_m, xX_m, sgX_m, zaX_m, fsB_a, qX_m, mX_m]) (rest := []) rfl rfl (Nat.le_of_ble_eq_true rfl) dX9_succeeds_94 (ws2 := (fun _ : Unit => (mX mr rf st ln th pl hs vs dg xx ++ qX cI (rf 0) (T 0 0) (T 0 1) (T 0 2) (T 0 3) (T 0 4) (T 0 5) (T 1) (T 2) (T 3) (T 4) (T 5) (T 6) (T 7) (T 8) ++ iaX cI (rf 6) 6 g))) (fun _ => (pm_cnt (fun _ => by simp only [List.countP_append, List.countP_nil, fT] <;> omega))) (fun _ Hp locs hP hD hS => ?_)
        refine lv_if_eq (tgt := 129) hx hb dX9_succeeds_97 (by decide) (fun c_97 => ?_) (fun c_97 => ?_)
        · skip
          replace c_97 := cb_z c_97
          replace c_97 : ¬ (g9 / 100 % 10) < (T 0 0) := fun q => c_97 ((hhI (by omega) (by have := hT.1; omega)).mpr q)
          refine lv_iconst (v := (nI 0)) hx hb dX9_succeeds_129 (by decide) ?_
          exact ct_z (g) hx hb hr hlocks (by rw [show doG T g9 = T from doC_7 (by omega)]; exact hP) hS (by first | exact z_f (fun z => (fun z => c_97 z.1) ((okC_8 c_89).mp z)) | exact z_f (fun z => (fun z => c_106 z.2.1) ((okC_8 c_89).mp z)) | exact z_f (fun z => (fun z => Nat.not_le.mpr c_122 z.2.2) ((okC_8 c_89).mp z)) | exact z_t ((okC_8 c_89).mpr (⟨c_97, c_106, c_122⟩))) dX9_succeeds_130
        · skip
          replace c_97 := cb_nz c_97
          replace c_97 : (g9 / 100 % 10) < (T 0 0) := (hhI (by omega) (by have := hT.1; omega)).mp c_97
          refine lv_aload_n hx hb dX9_succeeds_100 rfl (lv_at hl 4 rfl) ?_
          refine lv_iload hx hb dX9_succeeds_101 (lv_at hl 1 rfl) ?_
          refine gp_V (ci := 9) (q0 := 0) (cq := (RX9, TX9, 15)) (c_X9_isVegetable l D cI cZ cF cL mr rf st ln th pl hs vs dg xx (T 0 0) (T 0 1) (T 0 2) (T 0 3) (T 0 4) (T 0 5) (T 1) (T 2) (T 3) (T 4) (T 5) (T 6) (T 7) (T 8) ((nI ((g9 / 10) % 10))) (by omega) (by omega)) (gUV u_450 u_451 u_452 u_5 u_453) rfl hdV_X9_isVegetable ⟨Nat.le_of_ble_eq_true rfl, Nat.le_of_ble_eq_true rfl⟩ ⟨rfl, rfl⟩ hx hb hml hown hts hK hA hP hD hS hl.1 ⟨Nat.le_of_ble_eq_true rfl, Nat.le_of_ble_eq_true rfl⟩ rfl rfl rfl (wr := (iaX cI (rf 6) 6 g)) (pm_cnt (fun _ => by simp only [List.countP_append, List.countP_nil, fT] <;> omega)) (fun _ => by simp only [List.map_append, List.map_nil, fX_m, bX_m, sX_m, pX_m, iaX_m, r5X_m, r6X_m, fT_m, hX_m, tX_m, xX_m, sgX_m, zaX_m, fsB_a, qX_m, mX_m]) (rest := []) rfl rfl (Nat.le_of_ble_eq_true rfl) dX9_succeeds_103 (ws2 := (fun _ : Unit => (mX mr rf st ln th pl hs vs dg xx ++ qX cI (rf 0) (T 0 0) (T 0 1) (T 0 2) (T 0 3) (T 0 4) (T 0 5) (T 1) (T 2) (T 3) (T 4) (T 5) (T 6) (T 7) (T 8) ++ iaX cI (rf 6) 6 g))) (fun _ => (pm_cnt (fun _ => by simp only [List.countP_append, List.countP_nil, fT] <;> omega))) (fun _ Hp locs hP hD hS => ?_)
          refine lv_if_eq (tgt := 129) hx hb dX9_succeeds_106 (by decide) (fun c_106 => ?_) (fun c_106 => ?_)
          · skip
            replace c_106 := cb_z c_106
            replace c_106 : ¬ (g9 / 10 % 10) < (T 0 1) := fun q => c_106 ((hhI (by omega) (by have := hT.1; omega)).mpr q)
            refine lv_iconst (v := (nI 0)) hx hb dX9_succeeds_129 (by decide) ?_
            exact ct_z (g) hx hb hr hlocks (by rw [show doG T g9 = T from doC_7 (by omega)]; exact hP) hS (by first | exact z_f (fun z => (fun z => c_97 z.1) ((okC_8 c_89).mp z)) | exact z_f (fun z => (fun z => c_106 z.2.1) ((okC_8 c_89).mp z)) | exact z_f (fun z => (fun z => Nat.not_le.mpr c_122 z.2.2) ((okC_8 c_89).mp z)) | exact z_t ((okC_8 c_89).mpr (⟨c_97, c_106, c_122⟩))) dX9_succeeds_130
          · skip
            replace c_106 := cb_nz c_106
            replace c_106 : (g9 / 10 % 10) < (T 0 1) := (hhI (by omega) (by have := hT.1; omega)).mp c_106
            refine lv_aload_n hx hb dX9_succeeds_109 rfl (lv_at hl 4 rfl) ?_
            refine gf_n (C := RX9) (T := TX9) (N := 15) (ci := 9) (q0 := 0) (v := .ref (rf 0)) hx hb hts (iU inlX9) hown hK hP rfl rfl 0 (by decide) (kU u_129) rfl rfl dX9_succeeds_110 ?_
            refine lv_iload_n hx hb dX9_succeeds_113 rfl (lv_at hl 2 rfl) ?_
            refine lv_iload hx hb dX9_succeeds_114 (lv_at hl 1 rfl) ?_
            refine gp_S (c_X9_kilos l D cI cZ cF cL ((g9 / 100) % 10) ((g9 / 10) % 10) ) (gUS u_354 u_355 u_5 u_356) rfl hdS_X9_kilos ⟨Nat.le_of_ble_eq_true rfl, Nat.le_of_ble_eq_true rfl⟩ ⟨rfl, rfl⟩ hx hb hml hown hts hK hA hP hD hS hl.1 ⟨Nat.le_of_ble_eq_true rfl, Nat.le_of_ble_eq_true rfl⟩ (wr := (mX mr rf st ln th pl hs vs dg xx ++ qX cI (rf 0) (T 0 0) (T 0 1) (T 0 2) (T 0 3) (T 0 4) (T 0 5) (T 1) (T 2) (T 3) (T 4) (T 5) (T 6) (T 7) (T 8) ++ iaX cI (rf 6) 6 g)) (pm_cnt (fun _ => by simp only [List.countP_append, List.countP_nil, fT] <;> omega)) (fun _ => by simp only [List.map_append, List.map_nil, fX_m, bX_m, sX_m, pX_m, iaX_m, r5X_m, r6X_m, fT_m, hX_m, tX_m, xX_m, sgX_m, zaX_m, fsB_a, qX_m, mX_m]) (rest := [.ref (rf 0)]) rfl rfl (Nat.le_of_ble_eq_true rfl) dX9_succeeds_116 (ws2 := (fun _ : Unit => (mX mr rf st ln th pl hs vs dg xx ++ qX cI (rf 0) (T 0 0) (T 0 1) (T 0 2) (T 0 3) (T 0 4) (T 0 5) (T 1) (T 2) (T 3) (T 4) (T 5) (T 6) (T 7) (T 8) ++ iaX cI (rf 6) 6 g))) (fun _ => (pm_cnt (fun _ => by simp only [List.countP_append, List.countP_nil, fT] <;> omega))) (fun _ Hp locs hP hD hS => ?_)
            refine ia_n (q0 := 1) (t0 := 0) hx hb hK hP rfl rfl (by omega) (by decide) dX9_succeeds_119 ?_
            rw [qR_8 (by omega) (by omega)]
            refine lv_iload hx hb dX9_succeeds_120 (lv_at hl 0 rfl) ?_
            refine lv_icmp_lt (tgt := 129) hx hb dX9_succeeds_122 (by decide) (fun c_122 => ?_) (fun c_122 => ?_)
            · skip
              replace c_122 := cn_lt (by have := FI_8 hT (k := g9 / 100 % 10 * 5 + g9 / 10 % 10) (by omega); omega) (by omega) c_122
              refine lv_iconst (v := (nI 0)) hx hb dX9_succeeds_129 (by decide) ?_
              exact ct_z (g) hx hb hr hlocks (by rw [show doG T g9 = T from doC_7 (by omega)]; exact hP) hS (by first | exact z_f (fun z => (fun z => c_97 z.1) ((okC_8 c_89).mp z)) | exact z_f (fun z => (fun z => c_106 z.2.1) ((okC_8 c_89).mp z)) | exact z_f (fun z => (fun z => Nat.not_le.mpr c_122 z.2.2) ((okC_8 c_89).mp z)) | exact z_t ((okC_8 c_89).mpr (⟨c_97, c_106, c_122⟩))) dX9_succeeds_130
            · skip
              replace c_122 := cn_nlt (by have := FI_8 hT (k := g9 / 100 % 10 * 5 + g9 / 10 % 10) (by omega); omega) (by omega) c_122
              refine lv_iconst (v := (nI 1)) hx hb dX9_succeeds_125 (by decide) ?_
              refine lv_goto (tgt := 130) hx hb dX9_succeeds_126 (by decide) ?_
              exact ct_z (g) hx hb hr hlocks (by rw [show doG T g9 = T from doC_7 (by omega)]; exact hP) hS (by first | exact z_f (fun z => (fun z => c_97 z.1) ((okC_8 c_89).mp z)) | exact z_f (fun z => (fun z => c_106 z.2.1) ((okC_8 c_89).mp z)) | exact z_f (fun z => (fun z => Nat.not_le.mpr c_122 z.2.2) ((okC_8 c_89).mp z)) | exact z_t ((okC_8 c_89).mpr (⟨c_97, c_106, c_122⟩))) dX9_succeeds_130
    · skip
      replace c_53 := cn_eq (by omega) (by omega) c_53
      refine lv_aload_n hx hb dX9_succeeds_56 rfl (lv_at hl 4 rfl) ?_
      refine lv_iload_n hx hb dX9_succeeds_57 rfl (lv_at hl 2 rfl) ?_
      refine gp_V (ci := 9) (q0 := 0) (cq := (RX9, TX9, 15)) (c_X9_isHouse l D cI cZ cF cL mr rf st ln th pl hs vs dg xx (T 0 0) (T 0 1) (T 0 2) (T 0 3) (T 0 4) (T 0 5) (T 1) (T 2) (T 3) (T 4) (T 5) (T 6) (T 7) (T 8) ((nI ((g9 / 100) % 10))) (by omega) (by omega)) (gUV u_397 u_398 u_399 u_5 u_400) rfl hdV_X9_isHouse ⟨Nat.le_of_ble_eq_true rfl, Nat.le_of_ble_eq_true rfl⟩ ⟨rfl, rfl⟩ hx hb hml hown hts hK hA hP hD hS hl.1 ⟨Nat.le_of_ble_eq_true rfl, Nat.le_of_ble_eq_true rfl⟩ rfl rfl rfl (wr := (iaX cI (rf 6) 6 g)) (pm_cnt (fun _ => by simp only [List.countP_append, List.countP_nil, fT] <;> omega)) (fun _ => by simp only [List.map_append, List.map_nil, fX_m, bX_m, sX_m, pX_m, iaX_m, r5X_m, r6X_m, fT_m, hX_m, tX_m, xX_m, sgX_m, zaX_m, fsB_a, qX_m, mX_m]) (rest := []) rfl rfl (Nat.le_of_ble_eq_true rfl) dX9_succeeds_58 (ws2 := (fun _ : Unit => (mX mr rf st ln th pl hs vs dg xx ++ qX cI (rf 0) (T 0 0) (T 0 1) (T 0 2) (T 0 3) (T 0 4) (T 0 5) (T 1) (T 2) (T 3) (T 4) (T 5) (T 6) (T 7) (T 8) ++ iaX cI (rf 6) 6 g))) (fun _ => (pm_cnt (fun _ => by simp only [List.countP_append, List.countP_nil, fT] <;> omega))) (fun _ Hp locs hP hD hS => ?_)
      refine lv_if_eq (tgt := 84) hx hb dX9_succeeds_61 (by decide) (fun c_61 => ?_) (fun c_61 => ?_)
      · skip
        replace c_61 := cb_z c_61
        replace c_61 : ¬ (g9 / 100 % 10) < (T 0 0) := fun q => c_61 ((hhI (by omega) (by have := hT.1; omega)).mpr q)
        refine lv_iconst (v := (nI 0)) hx hb dX9_succeeds_84 (by decide) ?_
        exact ct_z (g) hx hb hr hlocks (by rw [show doG T g9 = T from doC_7 (by omega)]; exact hP) hS (by first | exact z_f (fun z => (fun z => c_61 z.1) ((okC_7 c_53).mp z)) | exact z_f (fun z => (fun z => Nat.not_le.mpr c_77 z.2) ((okC_7 c_53).mp z)) | exact z_t ((okC_7 c_53).mpr (⟨c_61, c_77⟩))) dX9_succeeds_85
      · skip
        replace c_61 := cb_nz c_61
        replace c_61 : (g9 / 100 % 10) < (T 0 0) := (hhI (by omega) (by have := hT.1; omega)).mp c_61
        refine lv_aload_n hx hb dX9_succeeds_64 rfl (lv_at hl 4 rfl) ?_
        refine lv_iload_n hx hb dX9_succeeds_65 rfl (lv_at hl 2 rfl) ?_
        refine gp_V (ci := 9) (q0 := 0) (cq := (RX9, TX9, 15)) (c_X9_happiness l D cI cZ cF cL mr rf st ln th pl hs vs dg xx (T 0 0) (T 0 1) (T 0 2) (T 0 3) (T 0 4) (T 0 5) (T 1) (T 2) (T 3) (T 4) (T 5) (T 6) (T 7) (T 8) ((g9 / 100) % 10) (by omega) hV) (gUV u_401 u_402 u_403 u_5 u_404) rfl hdV_X9_happiness ⟨Nat.le_of_ble_eq_true rfl, Nat.le_of_ble_eq_true rfl⟩ ⟨rfl, rfl⟩ hx hb hml hown hts hK hA hP hD hS hl.1 ⟨Nat.le_of_ble_eq_true rfl, Nat.le_of_ble_eq_true rfl⟩ rfl rfl rfl (wr := (iaX cI (rf 6) 6 g)) (pm_cnt (fun _ => by simp only [List.countP_append, List.countP_nil, fT] <;> omega)) (fun _ => by simp only [List.map_append, List.map_nil, fX_m, bX_m, sX_m, pX_m, iaX_m, r5X_m, r6X_m, fT_m, hX_m, tX_m, xX_m, sgX_m, zaX_m, fsB_a, qX_m, mX_m]) (rest := []) rfl rfl (Nat.le_of_ble_eq_true rfl) dX9_succeeds_66 (ws2 := (fun _ : Unit => (mX mr rf st ln th pl hs vs dg xx ++ qX cI (rf 0) (T 0 0) (T 0 1) (T 0 2) (T 0 3) (T 0 4) (T 0 5) (T 1) (T 2) (T 3) (T 4) (T 5) (T 6) (T 7) (T 8) ++ iaX cI (rf 6) 6 g))) (fun _ => (pm_cnt (fun _ => by simp only [List.countP_append, List.countP_nil, fT] <;> omega))) (fun _ Hp locs hP hD hS => ?_)
        refine lv_bipush (v := (nI 10)) hx hb dX9_succeeds_69 (by decide) ?_
        refine lv_iload hx hb dX9_succeeds_71 (lv_at hl 1 rfl) ?_
        refine lv_imul hx hb dX9_succeeds_73 ?_
        rw [pk_mul 10 ((g9 / 10) % 10)]
        refine lv_iload hx hb dX9_succeeds_74 (lv_at hl 0 rfl) ?_
        refine lv_iadd hx hb dX9_succeeds_76 ?_
        rw [nI_add (10 * ((g9 / 10) % 10)) (g9 % 10)]
        refine lv_icmp_lt (tgt := 84) hx hb dX9_succeeds_77 (by decide) (fun c_77 => ?_) (fun c_77 => ?_)
        · skip
          replace c_77 := cn_lt (by have := FI_hap hT (j := g9 / 100 % 10) (by omega); omega) (by omega) c_77
          refine lv_iconst (v := (nI 0)) hx hb dX9_succeeds_84 (by decide) ?_
          exact ct_z (g) hx hb hr hlocks (by rw [show doG T g9 = T from doC_7 (by omega)]; exact hP) hS (by first | exact z_f (fun z => (fun z => c_61 z.1) ((okC_7 c_53).mp z)) | exact z_f (fun z => (fun z => Nat.not_le.mpr c_77 z.2) ((okC_7 c_53).mp z)) | exact z_t ((okC_7 c_53).mpr (⟨c_61, c_77⟩))) dX9_succeeds_85
        · skip
          replace c_77 := cn_nlt (by have := FI_hap hT (j := g9 / 100 % 10) (by omega); omega) (by omega) c_77
          refine lv_iconst (v := (nI 1)) hx hb dX9_succeeds_80 (by decide) ?_
          refine lv_goto (tgt := 85) hx hb dX9_succeeds_81 (by decide) ?_
          exact ct_z (g) hx hb hr hlocks (by rw [show doG T g9 = T from doC_7 (by omega)]; exact hP) hS (by first | exact z_f (fun z => (fun z => c_61 z.1) ((okC_7 c_53).mp z)) | exact z_f (fun z => (fun z => Nat.not_le.mpr c_77 z.2) ((okC_7 c_53).mp z)) | exact z_t ((okC_7 c_53).mpr (⟨c_61, c_77⟩))) dX9_succeeds_85
  · skip
    replace c_36 := cb_nz c_36
    replace c_36 : 1 ≤ g9 / 1000 ∧ g9 / 1000 ≤ 6 := (in_n (by omega) (by decide) (by decide)).mp c_36
    refine lv_aload_n hx hb dX9_succeeds_39 rfl (lv_at hl 4 rfl) ?_
    refine lv_iload_n hx hb dX9_succeeds_40 rfl (lv_at hl 3 rfl) ?_
    refine lv_iload_n hx hb dX9_succeeds_41 rfl (lv_at hl 2 rfl) ?_
    refine lv_iload hx hb dX9_succeeds_42 (lv_at hl 1 rfl) ?_
    refine lv_iload hx hb dX9_succeeds_44 (lv_at hl 0 rfl) ?_
    refine gp_V (ci := 9) (q0 := 0) (cq := (RX9, TX9, 15)) (c_X9_changes l D cI cZ cF cL mr rf st ln th pl hs vs dg xx T g (g9 / 1000) ((g9 / 100) % 10) ((g9 / 10) % 10) (g9 % 10) hT c_36.1 c_36.2 (by omega) (by omega) (by omega)) (gUV u_866 u_867 u_868 u_5 u_869) rfl hdV_X9_changes ⟨Nat.le_of_ble_eq_true rfl, Nat.le_of_ble_eq_true rfl⟩ ⟨rfl, rfl⟩ hx hb hml hown hts hK hA hP hD hS hl.1 ⟨Nat.le_of_ble_eq_true rfl, Nat.le_of_ble_eq_true rfl⟩ rfl rfl rfl (wr := ([] : va_W)) (pm_cnt (fun _ => by simp only [List.countP_append, List.countP_nil, fT] <;> omega)) (fun _ => by simp only [List.map_append, List.map_nil, fX_m, bX_m, sX_m, pX_m, iaX_m, r5X_m, r6X_m, fT_m, hX_m, tX_m, xX_m, sgX_m, zaX_m, fsB_a, qX_m, mX_m]) (rest := []) rfl rfl (Nat.le_of_ble_eq_true rfl) dX9_succeeds_46 (ws2 := (fun u_46 : (Nat → Nat) => (mX mr rf st ln th pl hs vs dg xx ++ qX cI (rf 0) ((doC T (g9 / 1000) ((g9 / 100) % 10) ((g9 / 10) % 10) (g9 % 10)) 0 0) ((doC T (g9 / 1000) ((g9 / 100) % 10) ((g9 / 10) % 10) (g9 % 10)) 0 1) ((doC T (g9 / 1000) ((g9 / 100) % 10) ((g9 / 10) % 10) (g9 % 10)) 0 2) ((doC T (g9 / 1000) ((g9 / 100) % 10) ((g9 / 10) % 10) (g9 % 10)) 0 3) ((doC T (g9 / 1000) ((g9 / 100) % 10) ((g9 / 10) % 10) (g9 % 10)) 0 4) ((doC T (g9 / 1000) ((g9 / 100) % 10) ((g9 / 10) % 10) (g9 % 10)) 0 5) ((doC T (g9 / 1000) ((g9 / 100) % 10) ((g9 / 10) % 10) (g9 % 10)) 1) ((doC T (g9 / 1000) ((g9 / 100) % 10) ((g9 / 10) % 10) (g9 % 10)) 2) ((doC T (g9 / 1000) ((g9 / 100) % 10) ((g9 / 10) % 10) (g9 % 10)) 3) ((doC T (g9 / 1000) ((g9 / 100) % 10) ((g9 / 10) % 10) (g9 % 10)) 4) ((doC T (g9 / 1000) ((g9 / 100) % 10) ((g9 / 10) % 10) (g9 % 10)) 5) ((doC T (g9 / 1000) ((g9 / 100) % 10) ((g9 / 10) % 10) (g9 % 10)) 6) ((doC T (g9 / 1000) ((g9 / 100) % 10) ((g9 / 10) % 10) (g9 % 10)) 7) ((doC T (g9 / 1000) ((g9 / 100) % 10) ((g9 / 10) % 10) (g9 % 10)) 8) ++ iaX cI (rf 6) 6 u_46))) (fun _ => (pm_cnt (fun _ => by simp only [List.countP_append, List.countP_nil, fT] <;> omega))) (fun u_46 Hp locs hP hD hS => ?_)
    exact ct_z (u_46) hx hb hr hlocks hP hS rfl dX9_succeeds_49
