def swC (p : Nat × Nat) : Int32 := if 0 < p.2 then nI (1000 * (p.1 / 150) + 100 * (p.1 / 25 % 6) + 10 * (p.1 / 5 % 5) + p.1 % 5) else (-1)
theorem swC_y {p : Nat × Nat} (h : 0 < p.2) : swC p = nI (1000 * (p.1 / 150) + 100 * (p.1 / 25 % 6) + 10 * (p.1 / 5 % 5) + p.1 % 5) := if_pos h
theorem swC_n {p : Nat × Nat} (h : ¬ 0 < p.2) : swC p = (-1) := if_neg h
abbrev swOk (f7 f8 : Nat → Nat) (a b v w : Nat) : Prop := 0 < f8 (a * 5 + v) ∧ 0 < f8 (b * 5 + w) ∧ f7 (a * 5 + v) < f7 (a * 5 + w) ∧ f7 (b * 5 + w) < f7 (b * 5 + v)
theorem gk_n {f7 f8 : Nat → Nat} {nH nV i : Nat} (h : ¬ (i / 150 < i / 25 % 6 ∧ i / 25 % 6 < nH ∧ i / 5 % 5 < nV ∧ i % 5 < nV ∧ swOk f7 f8 (i / 150) (i / 25 % 6) (i / 5 % 5) (i % 5))) : gk f7 f8 nH nV i = 0 := by
  unfold gk gai; exact if_neg h
theorem gk_y {f7 f8 : Nat → Nat} {nH nV i : Nat} (h1 : i / 150 < i / 25 % 6) (h2 : i / 25 % 6 < nH) (h3 : i / 5 % 5 < nV) (h4 : i % 5 < nV) (h5 : swOk f7 f8 (i / 150) (i / 25 % 6) (i / 5 % 5) (i % 5)) : gk f7 f8 nH nV i = (f7 (i / 150 * 5 + i % 5) - f7 (i / 150 * 5 + i / 5 % 5)) + (f7 (i / 25 % 6 * 5 + i / 5 % 5) - f7 (i / 25 % 6 * 5 + i % 5)) := by
  unfold gk gai; exact if_pos ⟨h1, h2, h3, h4, h5⟩
theorem bst_n0 {f7 f8 : Nat → Nat} {nH nV i : Nat} (h : gk f7 f8 nH nV i = 0) : bst f7 f8 nH nV (i + 1) = bst f7 f8 nH nV i := bst_no (by rw [h]; exact Nat.zero_le _)
set_option maxHeartbeats 4000000 in
set_option maxRecDepth 100000 in
theorem c_X9_canSwap (l : Launch) (D : va_G) (cI cZ cF cL : ClassId) (mr : Nat) (rf : Nat → Nat) (st ln th pl hs vs : Nat) (dg : Int32) (xx : Int64) (nH nV wk ea gi sw : Nat) (f1 f2 f3 f4 f5 f6 f7 f8 : Nat → Nat) (a b v w : Nat) (ha : a < 6) (hb6 : b < 6) (hv : v < 5) (hw : w < 5) (b7 : ∀ k, k < 30 → f7 k ≤ 9) (b8 : ∀ k, k < 30 → f8 k < 2 ^ 31) : CT l D (tysX cI cZ cF cL) yX9_canSwap (wA yX9_canSwap cX9_canSwap 6 (some .boolean)) (rmF 1 21) [.ref mr, .int (nI a), .int (nI b), .int (nI v), .int (nI w)] (mX mr rf st ln th pl hs vs dg xx ++ qX cI (rf 0) nH nV wk ea gi sw f1 f2 f3 f4 f5 f6 f7 f8) (some (.int (if (swOk f7 f8 a b v w) then 1 else 0))) (fun _ : Unit => (mX mr rf st ln th pl hs vs dg xx ++ qX cI (rf 0) nH nV wk ea gi sw f1 f2 f3 f4 f5 f6 f7 f8)) := by
  refine ct_in (cc := cX9_canSwap) (maxL := 6) (ret := (some .boolean)) (own := RX9) (lv := [(0, .ref mr), (1, .int (nI a)), (2, .int (nI b)), (3, .int (nI v)), (4, .int (nI w))]) (by decide +kernel) rfl rfl (Nat.le_of_ble_eq_true rfl) rfl ?_
  intro p e s m args below meth c A ls hx hb hr hml hts hown hlocks hK hA hP hD hS hl
  refine lv_aload_n hx hb dX9_canSwap_0 rfl (lv_at hl 0 rfl) ?_
  refine gf_n (C := RX9) (T := TX9) (N := 15) (ci := 9) (q0 := 0) (v := .ref (rf 0)) hx hb hts (iU inlX9) hown hK hP rfl rfl 0 (by decide) (kU u_129) rfl rfl dX9_canSwap_1 ?_
  refine lv_iload_n hx hb dX9_canSwap_4 rfl (lv_at hl 1 rfl) ?_
  refine lv_iload_n hx hb dX9_canSwap_5 rfl (lv_at hl 3 rfl) ?_
  refine gp_S (c_X9_kilos l D cI cZ cF cL a v ) (gUS u_354 u_355 u_5 u_356) rfl hdS_X9_kilos ⟨Nat.le_of_ble_eq_true rfl, Nat.le_of_ble_eq_true rfl⟩ ⟨rfl, rfl⟩ hx hb hml hown hts hK hA hP hD hS hl.1 ⟨Nat.le_of_ble_eq_true rfl, Nat.le_of_ble_eq_true rfl⟩ (wr := (mX mr rf st ln th pl hs vs dg xx ++ qX cI (rf 0) nH nV wk ea gi sw f1 f2 f3 f4 f5 f6 f7 f8)) (pm_cnt (fun _ => by simp only [List.countP_append, List.countP_nil, fT] <;> omega)) (fun _ => by simp only [List.map_append, List.map_nil, fX_m, bX_m, sX_m, pX_m, iaX_m, r5X_m, r6X_m, fT_m, hX_m, tX_m, xX_m, sgX_m, zaX_m, fsB_a, qX_m, mX_m]) (rest := [.ref (rf 0)]) rfl rfl (Nat.le_of_ble_eq_true rfl) dX9_canSwap_6 (ws2 := (fun _ : Unit => (mX mr rf st ln th pl hs vs dg xx ++ qX cI (rf 0) nH nV wk ea gi sw f1 f2 f3 f4 f5 f6 f7 f8))) (fun _ => (pm_cnt (fun _ => by simp only [List.countP_append, List.countP_nil, fT] <;> omega))) (fun _ Hp locs hP hD hS => ?_)
  refine ia_n (q0 := 1) (t0 := 0) hx hb hK hP rfl rfl (by omega) (by decide) dX9_canSwap_9 ?_
  rw [qR_8 (by omega) (by omega)]
  refine lv_if_le (tgt := 31) hx hb dX9_canSwap_10 (by decide) (fun c_10 => ?_) (fun c_10 => ?_)
  · skip
    replace c_10 := cn_le (b := 0) (b8 _ (by omega)) (by decide) c_10
    refine lv_iconst (v := (nI 0)) hx hb dX9_canSwap_31 (by decide) ?_
    refine lv_istore (lv' := [(5, .int (nI 0)), (0, .ref mr), (1, .int (nI a)), (2, .int (nI b)), (3, .int (nI v)), (4, .int (nI w))]) hx hb dX9_canSwap_32 hl (by decide) rfl (fun ls hl => ?_)
    refine lv_iload hx hb dX9_canSwap_34 (lv_at hl 0 rfl) ?_
    refine lv_if_eq (tgt := 91) hx hb dX9_canSwap_36 (by decide) (fun _ => ?_) (fun c_36 => absurd (by decide +kernel) c_36)
    refine lv_iconst (v := (nI 0)) hx hb dX9_canSwap_91 (by decide) ?_
    exact ct_z () hx hb hr hlocks hP hS (by first | exact z_t ⟨c_10, c_24, c_60, c_84⟩ | exact z_f (fun q => absurd q.1 (Nat.not_lt.mpr c_10)) | exact z_f (fun q => absurd q.2.1 (Nat.not_lt.mpr c_24)) | exact z_f (fun q => absurd q.2.2.1 (Nat.not_lt.mpr c_60)) | exact z_f (fun q => absurd q.2.2.2 (Nat.not_lt.mpr c_84))) dX9_canSwap_92
  · skip
    replace c_10 := cn_nle (b := 0) (b8 _ (by omega)) (by decide) c_10
    refine lv_aload_n hx hb dX9_canSwap_13 rfl (lv_at hl 0 rfl) ?_
    refine gf_n (C := RX9) (T := TX9) (N := 15) (ci := 9) (q0 := 0) (v := .ref (rf 0)) hx hb hts (iU inlX9) hown hK hP rfl rfl 0 (by decide) (kU u_129) rfl rfl dX9_canSwap_14 ?_
    refine lv_iload_n hx hb dX9_canSwap_17 rfl (lv_at hl 2 rfl) ?_
    refine lv_iload hx hb dX9_canSwap_18 (lv_at hl 4 rfl) ?_
    refine gp_S (c_X9_kilos l D cI cZ cF cL b w ) (gUS u_354 u_355 u_5 u_356) rfl hdS_X9_kilos ⟨Nat.le_of_ble_eq_true rfl, Nat.le_of_ble_eq_true rfl⟩ ⟨rfl, rfl⟩ hx hb hml hown hts hK hA hP hD hS hl.1 ⟨Nat.le_of_ble_eq_true rfl, Nat.le_of_ble_eq_true rfl⟩ (wr := (mX mr rf st ln th pl hs vs dg xx ++ qX cI (rf 0) nH nV wk ea gi sw f1 f2 f3 f4 f5 f6 f7 f8)) (pm_cnt (fun _ => by simp only [List.countP_append, List.countP_nil, fT] <;> omega)) (fun _ => by simp only [List.map_append, List.map_nil, fX_m, bX_m, sX_m, pX_m, iaX_m, r5X_m, r6X_m, fT_m, hX_m, tX_m, xX_m, sgX_m, zaX_m, fsB_a, qX_m, mX_m]) (rest := [.ref (rf 0)]) rfl rfl (Nat.le_of_ble_eq_true rfl) dX9_canSwap_20 (ws2 := (fun _ : Unit => (mX mr rf st ln th pl hs vs dg xx ++ qX cI (rf 0) nH nV wk ea gi sw f1 f2 f3 f4 f5 f6 f7 f8))) (fun _ => (pm_cnt (fun _ => by simp only [List.countP_append, List.countP_nil, fT] <;> omega))) (fun _ Hp locs hP hD hS => ?_)
    refine ia_n (q0 := 1) (t0 := 0) hx hb hK hP rfl rfl (by omega) (by decide) dX9_canSwap_23 ?_
    rw [qR_8 (by omega) (by omega)]
    refine lv_if_le (tgt := 31) hx hb dX9_canSwap_24 (by decide) (fun c_24 => ?_) (fun c_24 => ?_)
    · skip
      replace c_24 := cn_le (b := 0) (b8 _ (by omega)) (by decide) c_24
      refine lv_iconst (v := (nI 0)) hx hb dX9_canSwap_31 (by decide) ?_
      refine lv_istore (lv' := [(5, .int (nI 0)), (0, .ref mr), (1, .int (nI a)), (2, .int (nI b)), (3, .int (nI v)), (4, .int (nI w))]) hx hb dX9_canSwap_32 hl (by decide) rfl (fun ls hl => ?_)
      refine lv_iload hx hb dX9_canSwap_34 (lv_at hl 0 rfl) ?_
      refine lv_if_eq (tgt := 91) hx hb dX9_canSwap_36 (by decide) (fun _ => ?_) (fun c_36 => absurd (by decide +kernel) c_36)
      refine lv_iconst (v := (nI 0)) hx hb dX9_canSwap_91 (by decide) ?_
      exact ct_z () hx hb hr hlocks hP hS (by first | exact z_t ⟨c_10, c_24, c_60, c_84⟩ | exact z_f (fun q => absurd q.1 (Nat.not_lt.mpr c_10)) | exact z_f (fun q => absurd q.2.1 (Nat.not_lt.mpr c_24)) | exact z_f (fun q => absurd q.2.2.1 (Nat.not_lt.mpr c_60)) | exact z_f (fun q => absurd q.2.2.2 (Nat.not_lt.mpr c_84))) dX9_canSwap_92
    · skip
      replace c_24 := cn_nle (b := 0) (b8 _ (by omega)) (by decide) c_24
      refine lv_iconst (v := (nI 1)) hx hb dX9_canSwap_27 (by decide) ?_
      refine lv_goto (tgt := 32) hx hb dX9_canSwap_28 (by decide) ?_
      refine lv_istore (lv' := [(5, .int (nI 1)), (0, .ref mr), (1, .int (nI a)), (2, .int (nI b)), (3, .int (nI v)), (4, .int (nI w))]) hx hb dX9_canSwap_32 hl (by decide) rfl (fun ls hl => ?_)
      refine lv_iload hx hb dX9_canSwap_34 (lv_at hl 0 rfl) ?_
      refine lv_if_eq (tgt := 91) hx hb dX9_canSwap_36 (by decide) (fun c_36 => absurd c_36 (by decide +kernel)) (fun _ => ?_)
      refine lv_aload_n hx hb dX9_canSwap_39 rfl (lv_at hl 1 rfl) ?_
      refine gf_n (C := RX9) (T := TX9) (N := 15) (ci := 9) (q0 := 0) (v := .ref (rf 0)) hx hb hts (iU inlX9) hown hK hP rfl rfl 0 (by decide) (kU u_129) rfl rfl dX9_canSwap_40 ?_
      refine lv_iload_n hx hb dX9_canSwap_43 rfl (lv_at hl 2 rfl) ?_
      refine lv_iload hx hb dX9_canSwap_44 (lv_at hl 5 rfl) ?_
      refine gp_S (c_X9_like l D cI cZ cF cL a w ) (gUS u_281 u_282 u_5 u_283) rfl hdS_X9_like ⟨Nat.le_of_ble_eq_true rfl, Nat.le_of_ble_eq_true rfl⟩ ⟨rfl, rfl⟩ hx hb hml hown hts hK hA hP hD hS hl.1 ⟨Nat.le_of_ble_eq_true rfl, Nat.le_of_ble_eq_true rfl⟩ (wr := (mX mr rf st ln th pl hs vs dg xx ++ qX cI (rf 0) nH nV wk ea gi sw f1 f2 f3 f4 f5 f6 f7 f8)) (pm_cnt (fun _ => by simp only [List.countP_append, List.countP_nil, fT] <;> omega)) (fun _ => by simp only [List.map_append, List.map_nil, fX_m, bX_m, sX_m, pX_m, iaX_m, r5X_m, r6X_m, fT_m, hX_m, tX_m, xX_m, sgX_m, zaX_m, fsB_a, qX_m, mX_m]) (rest := [.ref (rf 0)]) rfl rfl (Nat.le_of_ble_eq_true rfl) dX9_canSwap_46 (ws2 := (fun _ : Unit => (mX mr rf st ln th pl hs vs dg xx ++ qX cI (rf 0) nH nV wk ea gi sw f1 f2 f3 f4 f5 f6 f7 f8))) (fun _ => (pm_cnt (fun _ => by simp only [List.countP_append, List.countP_nil, fT] <;> omega))) (fun _ Hp locs hP hD hS => ?_)
      refine ia_n (q0 := 1) (t0 := 0) hx hb hK hP rfl rfl (by omega) (by decide) dX9_canSwap_49 ?_
      rw [qR_7 (by omega) (by omega)]
      refine lv_aload_n hx hb dX9_canSwap_50 rfl (lv_at hl 1 rfl) ?_
      refine gf_n (C := RX9) (T := TX9) (N := 15) (ci := 9) (q0 := 0) (v := .ref (rf 0)) hx hb hts (iU inlX9) hown hK hP rfl rfl 0 (by decide) (kU u_129) rfl rfl dX9_canSwap_51 ?_
      refine lv_iload_n hx hb dX9_canSwap_54 rfl (lv_at hl 2 rfl) ?_
      refine lv_iload_n hx hb dX9_canSwap_55 rfl (lv_at hl 4 rfl) ?_
      refine gp_S (c_X9_like l D cI cZ cF cL a v ) (gUS u_281 u_282 u_5 u_283) rfl hdS_X9_like ⟨Nat.le_of_ble_eq_true rfl, Nat.le_of_ble_eq_true rfl⟩ ⟨rfl, rfl⟩ hx hb hml hown hts hK hA hP hD hS hl.1 ⟨Nat.le_of_ble_eq_true rfl, Nat.le_of_ble_eq_true rfl⟩ (wr := (mX mr rf st ln th pl hs vs dg xx ++ qX cI (rf 0) nH nV wk ea gi sw f1 f2 f3 f4 f5 f6 f7 f8)) (pm_cnt (fun _ => by simp only [List.countP_append, List.countP_nil, fT] <;> omega)) (fun _ => by simp only [List.map_append, List.map_nil, fX_m, bX_m, sX_m, pX_m, iaX_m, r5X_m, r6X_m, fT_m, hX_m, tX_m, xX_m, sgX_m, zaX_m, fsB_a, qX_m, mX_m]) (rest := [.ref (rf 0), .int (nI (f7 (a * 5 + w)))]) rfl rfl (Nat.le_of_ble_eq_true rfl) dX9_canSwap_56 (ws2 := (fun _ : Unit => (mX mr rf st ln th pl hs vs dg xx ++ qX cI (rf 0) nH nV wk ea gi sw f1 f2 f3 f4 f5 f6 f7 f8))) (fun _ => (pm_cnt (fun _ => by simp only [List.countP_append, List.countP_nil, fT] <;> omega))) (fun _ Hp locs hP hD hS => ?_)
      refine ia_n (q0 := 1) (t0 := 0) hx hb hK hP rfl rfl (by omega) (by decide) dX9_canSwap_59 ?_
      rw [qR_7 (by omega) (by omega)]
      refine lv_icmp_le (tgt := 91) hx hb dX9_canSwap_60 (by decide) (fun c_60 => ?_) (fun c_60 => ?_)
      · skip
        replace c_60 := cn_le (Nat.lt_of_le_of_lt (b7 _ (by omega)) (by decide)) (Nat.lt_of_le_of_lt (b7 _ (by omega)) (by decide)) c_60
        refine lv_iconst (v := (nI 0)) hx hb dX9_canSwap_91 (by decide) ?_
        exact ct_z () hx hb hr hlocks hP hS (by first | exact z_t ⟨c_10, c_24, c_60, c_84⟩ | exact z_f (fun q => absurd q.1 (Nat.not_lt.mpr c_10)) | exact z_f (fun q => absurd q.2.1 (Nat.not_lt.mpr c_24)) | exact z_f (fun q => absurd q.2.2.1 (Nat.not_lt.mpr c_60)) | exact z_f (fun q => absurd q.2.2.2 (Nat.not_lt.mpr c_84))) dX9_canSwap_92
      · skip
        replace c_60 := cn_nle (Nat.lt_of_le_of_lt (b7 _ (by omega)) (by decide)) (Nat.lt_of_le_of_lt (b7 _ (by omega)) (by decide)) c_60
        refine lv_aload_n hx hb dX9_canSwap_63 rfl (lv_at hl 1 rfl) ?_
        refine gf_n (C := RX9) (T := TX9) (N := 15) (ci := 9) (q0 := 0) (v := .ref (rf 0)) hx hb hts (iU inlX9) hown hK hP rfl rfl 0 (by decide) (kU u_129) rfl rfl dX9_canSwap_64 ?_
        refine lv_iload_n hx hb dX9_canSwap_67 rfl (lv_at hl 3 rfl) ?_
        refine lv_iload_n hx hb dX9_canSwap_68 rfl (lv_at hl 4 rfl) ?_
        refine gp_S (c_X9_like l D cI cZ cF cL b v ) (gUS u_281 u_282 u_5 u_283) rfl hdS_X9_like ⟨Nat.le_of_ble_eq_true rfl, Nat.le_of_ble_eq_true rfl⟩ ⟨rfl, rfl⟩ hx hb hml hown hts hK hA hP hD hS hl.1 ⟨Nat.le_of_ble_eq_true rfl, Nat.le_of_ble_eq_true rfl⟩ (wr := (mX mr rf st ln th pl hs vs dg xx ++ qX cI (rf 0) nH nV wk ea gi sw f1 f2 f3 f4 f5 f6 f7 f8)) (pm_cnt (fun _ => by simp only [List.countP_append, List.countP_nil, fT] <;> omega)) (fun _ => by simp only [List.map_append, List.map_nil, fX_m, bX_m, sX_m, pX_m, iaX_m, r5X_m, r6X_m, fT_m, hX_m, tX_m, xX_m, sgX_m, zaX_m, fsB_a, qX_m, mX_m]) (rest := [.ref (rf 0)]) rfl rfl (Nat.le_of_ble_eq_true rfl) dX9_canSwap_69 (ws2 := (fun _ : Unit => (mX mr rf st ln th pl hs vs dg xx ++ qX cI (rf 0) nH nV wk ea gi sw f1 f2 f3 f4 f5 f6 f7 f8))) (fun _ => (pm_cnt (fun _ => by simp only [List.countP_append, List.countP_nil, fT] <;> omega))) (fun _ Hp locs hP hD hS => ?_)
        refine ia_n (q0 := 1) (t0 := 0) hx hb hK hP rfl rfl (by omega) (by decide) dX9_canSwap_72 ?_
        rw [qR_7 (by omega) (by omega)]
        refine lv_aload_n hx hb dX9_canSwap_73 rfl (lv_at hl 1 rfl) ?_
        refine gf_n (C := RX9) (T := TX9) (N := 15) (ci := 9) (q0 := 0) (v := .ref (rf 0)) hx hb hts (iU inlX9) hown hK hP rfl rfl 0 (by decide) (kU u_129) rfl rfl dX9_canSwap_74 ?_
        refine lv_iload_n hx hb dX9_canSwap_77 rfl (lv_at hl 3 rfl) ?_
        refine lv_iload hx hb dX9_canSwap_78 (lv_at hl 5 rfl) ?_
        refine gp_S (c_X9_like l D cI cZ cF cL b w ) (gUS u_281 u_282 u_5 u_283) rfl hdS_X9_like ⟨Nat.le_of_ble_eq_true rfl, Nat.le_of_ble_eq_true rfl⟩ ⟨rfl, rfl⟩ hx hb hml hown hts hK hA hP hD hS hl.1 ⟨Nat.le_of_ble_eq_true rfl, Nat.le_of_ble_eq_true rfl⟩ (wr := (mX mr rf st ln th pl hs vs dg xx ++ qX cI (rf 0) nH nV wk ea gi sw f1 f2 f3 f4 f5 f6 f7 f8)) (pm_cnt (fun _ => by simp only [List.countP_append, List.countP_nil, fT] <;> omega)) (fun _ => by simp only [List.map_append, List.map_nil, fX_m, bX_m, sX_m, pX_m, iaX_m, r5X_m, r6X_m, fT_m, hX_m, tX_m, xX_m, sgX_m, zaX_m, fsB_a, qX_m, mX_m]) (rest := [.ref (rf 0), .int (nI (f7 (b * 5 + v)))]) rfl rfl (Nat.le_of_ble_eq_true rfl) dX9_canSwap_80 (ws2 := (fun _ : Unit => (mX mr rf st ln th pl hs vs dg xx ++ qX cI (rf 0) nH nV wk ea gi sw f1 f2 f3 f4 f5 f6 f7 f8))) (fun _ => (pm_cnt (fun _ => by simp only [List.countP_append, List.countP_nil, fT] <;> omega))) (fun _ Hp locs hP hD hS => ?_)
        refine ia_n (q0 := 1) (t0 := 0) hx hb hK hP rfl rfl (by omega) (by decide) dX9_canSwap_83 ?_
        rw [qR_7 (by omega) (by omega)]
        refine lv_icmp_le (tgt := 91) hx hb dX9_canSwap_84 (by decide) (fun c_84 => ?_) (fun c_84 => ?_)
        · skip
          replace c_84 := cn_le (Nat.lt_of_le_of_lt (b7 _ (by omega)) (by decide)) (Nat.lt_of_le_of_lt (b7 _ (by omega)) (by decide)) c_84
          refine lv_iconst (v := (nI 0)) hx hb dX9_canSwap_91 (by decide) ?_
          exact ct_z () hx hb hr hlocks hP hS (by first | exact z_t ⟨c_10, c_24, c_60, c_84⟩ | exact z_f (fun q => absurd q.1 (Nat.not_lt.mpr c_10)) | exact z_f (fun q => absurd q.2.1 (Nat.not_lt.mpr c_24)) | exact z_f (fun q => absurd q.2.2.1 (Nat.not_lt.mpr c_60)) | exact z_f (fun q => absurd q.2.2.2 (Nat.not_lt.mpr c_84))) dX9_canSwap_92
        · skip
          replace c_84 := cn_nle (Nat.lt_of_le_of_lt (b7 _ (by omega)) (by decide)) (Nat.lt_of_le_of_lt (b7 _ (by omega)) (by decide)) c_84
          refine lv_iconst (v := (nI 1)) hx hb dX9_canSwap_87 (by decide) ?_
          refine lv_goto (tgt := 92) hx hb dX9_canSwap_88 (by decide) ?_
          exact ct_z () hx hb hr hlocks hP hS (by first | exact z_t ⟨c_10, c_24, c_60, c_84⟩ | exact z_f (fun q => absurd q.1 (Nat.not_lt.mpr c_10)) | exact z_f (fun q => absurd q.2.1 (Nat.not_lt.mpr c_24)) | exact z_f (fun q => absurd q.2.2.1 (Nat.not_lt.mpr c_60)) | exact z_f (fun q => absurd q.2.2.2 (Nat.not_lt.mpr c_84))) dX9_canSwap_92
set_option maxRecDepth 20000 in
theorem u_676 : Cond.code yX9_canSwap cX9_canSwap 6 (some .boolean) ∈ wsL_law := List.mem_of_getElem? (i := 676) (by decide +kernel)
set_option maxRecDepth 20000 in
theorem u_673 : Cond.methodLink RX9 70 yX9_canSwap ∈ wsL_law := List.mem_of_getElem? (i := 673) (by decide +kernel)
set_option maxRecDepth 20000 in
theorem u_674 : Cond.instanceMethod yX9_canSwap ∈ wsL_law := List.mem_of_getElem? (i := 674) (by decide +kernel)
set_option maxRecDepth 20000 in
theorem u_675 : Cond.selects RX9 yX9_canSwap yX9_canSwap ∈ wsL_law := List.mem_of_getElem? (i := 675) (by decide +kernel)
theorem hdV_X9_canSwap : yX9_canSwap.cls = RX9 ∧ yX9_canSwap.cls ≠ "java/lang/invoke/MethodHandle" ∧ yX9_canSwap.cls ≠ "java/lang/invoke/VarHandle" ∧ (parseMethodDescriptor yX9_canSwap.desc).map (fun d => d.parameters.length) = some 4 := by decide +kernel
set_option maxHeartbeats 4000000 in
set_option maxRecDepth 100000 in
theorem c_X9_bestSwap (l : Launch) (D : va_G) (cI cZ cF cL : ClassId) (mr : Nat) (rf : Nat → Nat) (st ln th pl hs vs : Nat) (dg : Int32) (xx : Int64) (nH nV wk ea gi sw : Nat) (f1 f2 f3 f4 f5 f6 f7 f8 : Nat → Nat) (hH : nH ≤ 6) (hV : nV ≤ 5) (b7 : ∀ k, k < 30 → f7 k ≤ 9) (b8 : ∀ k, k < 30 → f8 k < 2 ^ 31) : CT l D (tysX cI cZ cF cL) yX9_bestSwap (wA yX9_bestSwap cX9_bestSwap 9 (some .int)) (rmF 2 46) [.ref mr] (mX mr rf st ln th pl hs vs dg xx ++ qX cI (rf 0) nH nV wk ea gi sw f1 f2 f3 f4 f5 f6 f7 f8) (some (.int (swC (bst f7 f8 nH nV 900)))) (fun _ : Unit => (mX mr rf st ln th pl hs vs dg xx ++ qX cI (rf 0) nH nV wk ea gi sw f1 f2 f3 f4 f5 f6 f7 f8)) := by
  refine ct_in (cc := cX9_bestSwap) (maxL := 9) (ret := (some .int)) (own := RX9) (lv := [(0, .ref mr)]) (by decide +kernel) rfl rfl (Nat.le_of_ble_eq_true rfl) rfl ?_
  intro p e s m args below meth c A ls hx hb hr hml hts hown hlocks hK hA hP hD hS hl
  refine lv_iconst (v := ((-1))) hx hb dX9_bestSwap_0 (by decide) ?_
  refine lv_istore_n (lv' := [(1, .int ((-1))), (0, .ref mr)]) hx hb dX9_bestSwap_1 rfl hl (by decide) rfl (fun ls hl => ?_)
  refine lv_iconst (v := (nI 0)) hx hb dX9_bestSwap_2 (by decide) ?_
  refine lv_istore_n (lv' := [(2, .int (nI 0)), (1, .int ((-1))), (0, .ref mr)]) hx hb dX9_bestSwap_3 rfl hl (by decide) rfl (fun ls hl => ?_)
  refine lv_iconst (v := (nI 0)) hx hb dX9_bestSwap_4 (by decide) ?_
  refine lv_istore_n (lv' := [(3, .int (nI 0)), (2, .int (nI 0)), (1, .int ((-1))), (0, .ref mr)]) hx hb dX9_bestSwap_5 rfl hl (by decide) rfl (fun ls hl => ?_)
  have loop_6 : ∀ (dd : Nat) (i : Nat) (m1 : Int32) (w2 : Nat), (i ≤ 900) → (m1 = swC (bst f7 f8 nH nV i)) → (w2 = (bst f7 f8 nH nV i).2) → (900 - i) < dd → ∀ (Hp : Heap) (locs : List Loc), va_P D vwCl (mX mr rf st ln th pl hs vs dg xx ++ qX cI (rf 0) nH nV wk ea gi sw f1 f2 f3 f4 f5 f6 f7 f8) Hp → va_D A (mX mr rf st ln th pl hs vs dg xx ++ qX cI (rf 0) nH nV wk ea gi sw f1 f2 f3 f4 f5 f6 f7 f8) → va_S A s.heap Hp locs → ∀ ls : Array Slot, lv_has ls 9 [(3, .int (nI i)), (2, .int (nI w2)), (1, .int m1), (0, .ref mr)] → W p l e (rmF 2 46) s m args below meth c Hp locs 0 0 (MQ below (CQ D (some (.int (swC (bst f7 f8 nH nV 900)))) (fun _ : Unit => (mX mr rf st ln th pl hs vs dg xx ++ qX cI (rf 0) nH nV wk ea gi sw f1 f2 f3 f4 f5 f6 f7 f8)) A) args s 0 0 A) (F0 m 6 ls []) := by
    intro dd
    induction dd with
    | zero => intro i m1 w2 hi e1 e2 hm; exact absurd hm (Nat.not_lt_zero _)
    | succ dd ih_6 =>
      intro i m1 w2 hi e1 e2 hm Hp locs hP hD hS ls hl
      refine lv_iload_n hx hb dX9_bestSwap_6 rfl (lv_at hl 0 rfl) ?_
      refine lv_sipush (v := (nI 900)) hx hb dX9_bestSwap_7 (by decide +kernel) ?_
      refine lv_icmp_ge (tgt := 200) hx hb dX9_bestSwap_10 (by decide) (fun c_10 => ?_) (fun c_10 => ?_)
      · skip
        replace c_10 := cn_le (by omega) (by omega) c_10
        refine lv_iload_n hx hb dX9_bestSwap_200 rfl (lv_at hl 2 rfl) ?_
        exact ct_i () hx hb hr hlocks hP hS (by rw [e1, show i = 900 by omega]) dX9_bestSwap_201
      · skip
        replace c_10 := cn_nle (by omega) (by omega) c_10
        refine lv_iload_n hx hb dX9_bestSwap_13 rfl (lv_at hl 0 rfl) ?_
        refine lv_sipush (v := (nI 150)) hx hb dX9_bestSwap_14 (by decide +kernel) ?_
        refine lv_idiv hx hb dX9_bestSwap_17 (by decide) ?_
        rw [pk_div (a := i) (d := 150) (by omega) (by omega) (by omega)]
        refine lv_istore (lv' := [(4, .int (nI (i / 150))), (3, .int (nI i)), (2, .int (nI w2)), (1, .int m1), (0, .ref mr)]) hx hb dX9_bestSwap_18 hl (by decide) rfl (fun ls hl => ?_)
        refine lv_iload_n hx hb dX9_bestSwap_20 rfl (lv_at hl 1 rfl) ?_
        refine lv_bipush (v := (nI 25)) hx hb dX9_bestSwap_21 (by decide) ?_
        refine lv_idiv hx hb dX9_bestSwap_23 (by decide) ?_
        rw [pk_div (a := i) (d := 25) (by omega) (by omega) (by omega)]
        refine lv_bipush (v := (nI 6)) hx hb dX9_bestSwap_24 (by decide) ?_
        refine lv_irem hx hb dX9_bestSwap_26 (by decide) ?_
        rw [pk_rem (a := i / 25) (d := 6) (by omega) (by omega) (by omega)]
        refine lv_istore (lv' := [(5, .int (nI ((i / 25) % 6))), (4, .int (nI (i / 150))), (3, .int (nI i)), (2, .int (nI w2)), (1, .int m1), (0, .ref mr)]) hx hb dX9_bestSwap_27 hl (by decide) rfl (fun ls hl => ?_)
        refine lv_iload_n hx hb dX9_bestSwap_29 rfl (lv_at hl 2 rfl) ?_
        refine lv_iconst (v := (nI 5)) hx hb dX9_bestSwap_30 (by decide) ?_
        refine lv_idiv hx hb dX9_bestSwap_31 (by decide) ?_
        rw [pk_div (a := i) (d := 5) (by omega) (by omega) (by omega)]
        refine lv_iconst (v := (nI 5)) hx hb dX9_bestSwap_32 (by decide) ?_
        refine lv_irem hx hb dX9_bestSwap_33 (by decide) ?_
        rw [pk_rem (a := i / 5) (d := 5) (by omega) (by omega) (by omega)]
        refine lv_istore (lv' := [(6, .int (nI ((i / 5) % 5))), (5, .int (nI ((i / 25) % 6))), (4, .int (nI (i / 150))), (3, .int (nI i)), (2, .int (nI w2)), (1, .int m1), (0, .ref mr)]) hx hb dX9_bestSwap_34 hl (by decide) rfl (fun ls hl => ?_)
        refine lv_iload_n hx hb dX9_bestSwap_36 rfl (lv_at hl 3 rfl) ?_
        refine lv_iconst (v := (nI 5)) hx hb dX9_bestSwap_37 (by decide) ?_
        refine lv_irem hx hb dX9_bestSwap_38 (by decide) ?_
        rw [pk_rem (a := i) (d := 5) (by omega) (by omega) (by omega)]
        refine lv_istore (lv' := [(7, .int (nI (i % 5))), (6, .int (nI ((i / 5) % 5))), (5, .int (nI ((i / 25) % 6))), (4, .int (nI (i / 150))), (3, .int (nI i)), (2, .int (nI w2)), (1, .int m1), (0, .ref mr)]) hx hb dX9_bestSwap_39 hl (by decide) rfl (fun ls hl => ?_)
        refine lv_iload hx hb dX9_bestSwap_41 (lv_at hl 3 rfl) ?_
        refine lv_iload hx hb dX9_bestSwap_43 (lv_at hl 2 rfl) ?_
        refine lv_icmp_ge (tgt := 194) hx hb dX9_bestSwap_45 (by decide) (fun c_45 => ?_) (fun c_45 => ?_)
        · skip
          replace c_45 := cn_le (by omega) (by omega) c_45
          refine lv_iinc (v := (nI (i + 1))) (lv' := [(3, .int (nI (i + 1))), (7, .int (nI (i % 5))), (6, .int (nI ((i / 5) % 5))), (5, .int (nI ((i / 25) % 6))), (4, .int (nI (i / 150))), (2, .int (nI w2)), (1, .int m1), (0, .ref mr)]) hx hb dX9_bestSwap_194 hl (k := 4) rfl (nI_add i 1) (by decide) rfl (fun ls hl => ?_)
          refine lv_goto (tgt := 6) hx hb dX9_bestSwap_197 (by decide) ?_
          exact ih_6 (i + 1) m1 w2 (by omega) (by first | (rw [bst_n0 (gk_n (fun q => absurd q.1 (Nat.not_lt.mpr c_45)))]; exact e1) | (rw [bst_n0 (gk_n (fun q => absurd q.2.1 (Nat.not_lt.mpr c_56)))]; exact e1) | (rw [bst_n0 (gk_n (fun q => absurd q.2.2.1 (Nat.not_lt.mpr c_67)))]; exact e1) | (rw [bst_n0 (gk_n (fun q => absurd q.2.2.2.1 (Nat.not_lt.mpr c_78)))]; exact e1) | (rw [bst_n0 (gk_n (fun q => c_93 q.2.2.2.2))]; exact e1) | (rw [bst_no (by rw [← e2]; exact c_152)]; exact e1) | (rw [bst_yes (by rw [← e2]; exact c_152)]; exact (swC_y (p := (i, gk f7 f8 nH nV i)) (show 0 < gk f7 f8 nH nV i by omega)).symm)) (by first | (rw [bst_n0 (gk_n (fun q => absurd q.1 (Nat.not_lt.mpr c_45)))]; exact e2) | (rw [bst_n0 (gk_n (fun q => absurd q.2.1 (Nat.not_lt.mpr c_56)))]; exact e2) | (rw [bst_n0 (gk_n (fun q => absurd q.2.2.1 (Nat.not_lt.mpr c_67)))]; exact e2) | (rw [bst_n0 (gk_n (fun q => absurd q.2.2.2.1 (Nat.not_lt.mpr c_78)))]; exact e2) | (rw [bst_n0 (gk_n (fun q => c_93 q.2.2.2.2))]; exact e2) | (rw [bst_no (by rw [← e2]; exact c_152)]; exact e2) | (rw [bst_yes (by rw [← e2]; exact c_152)]; done)) (by omega) _ _ hP hD hS _ (lv_sub hl [0, 5, 6, 7] rfl)
        · skip
          replace c_45 := cn_nle (by omega) (by omega) c_45
          refine lv_iload hx hb dX9_bestSwap_48 (lv_at hl 2 rfl) ?_
          refine lv_aload_n hx hb dX9_bestSwap_50 rfl (lv_at hl 7 rfl) ?_
          refine gf_n (C := RX9) (T := TX9) (N := 15) (ci := 9) (q0 := 0) (v := .ref (rf 0)) hx hb hts (iU inlX9) hown hK hP rfl rfl 0 (by decide) (kU u_129) rfl rfl dX9_bestSwap_51 ?_
          refine lv_iconst (v := (nI 0)) hx hb dX9_bestSwap_54 (by decide) ?_
          refine ia_n (q0 := 1) (t0 := 0) hx hb hK hP rfl rfl (by omega) (by decide) dX9_bestSwap_55 ?_
          rw [show qN nH nV wk ea gi sw f1 f2 f3 f4 f5 f6 f7 f8 0 = nH from rfl]
          refine lv_icmp_ge (tgt := 194) hx hb dX9_bestSwap_56 (by decide) (fun c_56 => ?_) (fun c_56 => ?_)
          · skip
            replace c_56 := cn_le (by omega) (by omega) c_56
            refine lv_iinc (v := (nI (i + 1))) (lv' := [(3, .int (nI (i + 1))), (7, .int (nI (i % 5))), (6, .int (nI ((i / 5) % 5))), (5, .int (nI ((i / 25) % 6))), (4, .int (nI (i / 150))), (2, .int (nI w2)), (1, .int m1), (0, .ref mr)]) hx hb dX9_bestSwap_194 hl (k := 4) rfl (nI_add i 1) (by decide) rfl (fun ls hl => ?_)
            refine lv_goto (tgt := 6) hx hb dX9_bestSwap_197 (by decide) ?_
            exact ih_6 (i + 1) m1 w2 (by omega) (by first | (rw [bst_n0 (gk_n (fun q => absurd q.1 (Nat.not_lt.mpr c_45)))]; exact e1) | (rw [bst_n0 (gk_n (fun q => absurd q.2.1 (Nat.not_lt.mpr c_56)))]; exact e1) | (rw [bst_n0 (gk_n (fun q => absurd q.2.2.1 (Nat.not_lt.mpr c_67)))]; exact e1) | (rw [bst_n0 (gk_n (fun q => absurd q.2.2.2.1 (Nat.not_lt.mpr c_78)))]; exact e1) | (rw [bst_n0 (gk_n (fun q => c_93 q.2.2.2.2))]; exact e1) | (rw [bst_no (by rw [← e2]; exact c_152)]; exact e1) | (rw [bst_yes (by rw [← e2]; exact c_152)]; exact (swC_y (p := (i, gk f7 f8 nH nV i)) (show 0 < gk f7 f8 nH nV i by omega)).symm)) (by first | (rw [bst_n0 (gk_n (fun q => absurd q.1 (Nat.not_lt.mpr c_45)))]; exact e2) | (rw [bst_n0 (gk_n (fun q => absurd q.2.1 (Nat.not_lt.mpr c_56)))]; exact e2) | (rw [bst_n0 (gk_n (fun q => absurd q.2.2.1 (Nat.not_lt.mpr c_67)))]; exact e2) | (rw [bst_n0 (gk_n (fun q => absurd q.2.2.2.1 (Nat.not_lt.mpr c_78)))]; exact e2) | (rw [bst_n0 (gk_n (fun q => c_93 q.2.2.2.2))]; exact e2) | (rw [bst_no (by rw [← e2]; exact c_152)]; exact e2) | (rw [bst_yes (by rw [← e2]; exact c_152)]; done)) (by omega) _ _ hP hD hS _ (lv_sub hl [0, 5, 6, 7] rfl)
          · skip
            replace c_56 := cn_nle (by omega) (by omega) c_56
            refine lv_iload hx hb dX9_bestSwap_59 (lv_at hl 1 rfl) ?_
            refine lv_aload_n hx hb dX9_bestSwap_61 rfl (lv_at hl 7 rfl) ?_
            refine gf_n (C := RX9) (T := TX9) (N := 15) (ci := 9) (q0 := 0) (v := .ref (rf 0)) hx hb hts (iU inlX9) hown hK hP rfl rfl 0 (by decide) (kU u_129) rfl rfl dX9_bestSwap_62 ?_
            refine lv_iconst (v := (nI 1)) hx hb dX9_bestSwap_65 (by decide) ?_
            refine ia_n (q0 := 1) (t0 := 0) hx hb hK hP rfl rfl (by omega) (by decide) dX9_bestSwap_66 ?_
            rw [show qN nH nV wk ea gi sw f1 f2 f3 f4 f5 f6 f7 f8 1 = nV from rfl]
            refine lv_icmp_ge (tgt := 194) hx hb dX9_bestSwap_67 (by decide) (fun c_67 => ?_) (fun c_67 => ?_)
            · skip
              replace c_67 := cn_le (by omega) (by omega) c_67
              refine lv_iinc (v := (nI (i + 1))) (lv' := [(3, .int (nI (i + 1))), (7, .int (nI (i % 5))), (6, .int (nI ((i / 5) % 5))), (5, .int (nI ((i / 25) % 6))), (4, .int (nI (i / 150))), (2, .int (nI w2)), (1, .int m1), (0, .ref mr)]) hx hb dX9_bestSwap_194 hl (k := 4) rfl (nI_add i 1) (by decide) rfl (fun ls hl => ?_)
              refine lv_goto (tgt := 6) hx hb dX9_bestSwap_197 (by decide) ?_
              exact ih_6 (i + 1) m1 w2 (by omega) (by first | (rw [bst_n0 (gk_n (fun q => absurd q.1 (Nat.not_lt.mpr c_45)))]; exact e1) | (rw [bst_n0 (gk_n (fun q => absurd q.2.1 (Nat.not_lt.mpr c_56)))]; exact e1) | (rw [bst_n0 (gk_n (fun q => absurd q.2.2.1 (Nat.not_lt.mpr c_67)))]; exact e1) | (rw [bst_n0 (gk_n (fun q => absurd q.2.2.2.1 (Nat.not_lt.mpr c_78)))]; exact e1) | (rw [bst_n0 (gk_n (fun q => c_93 q.2.2.2.2))]; exact e1) | (rw [bst_no (by rw [← e2]; exact c_152)]; exact e1) | (rw [bst_yes (by rw [← e2]; exact c_152)]; exact (swC_y (p := (i, gk f7 f8 nH nV i)) (show 0 < gk f7 f8 nH nV i by omega)).symm)) (by first | (rw [bst_n0 (gk_n (fun q => absurd q.1 (Nat.not_lt.mpr c_45)))]; exact e2) | (rw [bst_n0 (gk_n (fun q => absurd q.2.1 (Nat.not_lt.mpr c_56)))]; exact e2) | (rw [bst_n0 (gk_n (fun q => absurd q.2.2.1 (Nat.not_lt.mpr c_67)))]; exact e2) | (rw [bst_n0 (gk_n (fun q => absurd q.2.2.2.1 (Nat.not_lt.mpr c_78)))]; exact e2) | (rw [bst_n0 (gk_n (fun q => c_93 q.2.2.2.2))]; exact e2) | (rw [bst_no (by rw [← e2]; exact c_152)]; exact e2) | (rw [bst_yes (by rw [← e2]; exact c_152)]; done)) (by omega) _ _ hP hD hS _ (lv_sub hl [0, 5, 6, 7] rfl)
            · skip
              replace c_67 := cn_nle (by omega) (by omega) c_67
              refine lv_iload hx hb dX9_bestSwap_70 (lv_at hl 0 rfl) ?_
              refine lv_aload_n hx hb dX9_bestSwap_72 rfl (lv_at hl 7 rfl) ?_
              refine gf_n (C := RX9) (T := TX9) (N := 15) (ci := 9) (q0 := 0) (v := .ref (rf 0)) hx hb hts (iU inlX9) hown hK hP rfl rfl 0 (by decide) (kU u_129) rfl rfl dX9_bestSwap_73 ?_
              refine lv_iconst (v := (nI 1)) hx hb dX9_bestSwap_76 (by decide) ?_
              refine ia_n (q0 := 1) (t0 := 0) hx hb hK hP rfl rfl (by omega) (by decide) dX9_bestSwap_77 ?_
              rw [show qN nH nV wk ea gi sw f1 f2 f3 f4 f5 f6 f7 f8 1 = nV from rfl]
              refine lv_icmp_ge (tgt := 194) hx hb dX9_bestSwap_78 (by decide) (fun c_78 => ?_) (fun c_78 => ?_)
              · skip
                replace c_78 := cn_le (by omega) (by omega) c_78
                refine lv_iinc (v := (nI (i + 1))) (lv' := [(3, .int (nI (i + 1))), (7, .int (nI (i % 5))), (6, .int (nI ((i / 5) % 5))), (5, .int (nI ((i / 25) % 6))), (4, .int (nI (i / 150))), (2, .int (nI w2)), (1, .int m1), (0, .ref mr)]) hx hb dX9_bestSwap_194 hl (k := 4) rfl (nI_add i 1) (by decide) rfl (fun ls hl => ?_)
                refine lv_goto (tgt := 6) hx hb dX9_bestSwap_197 (by decide) ?_
                exact ih_6 (i + 1) m1 w2 (by omega) (by first | (rw [bst_n0 (gk_n (fun q => absurd q.1 (Nat.not_lt.mpr c_45)))]; exact e1) | (rw [bst_n0 (gk_n (fun q => absurd q.2.1 (Nat.not_lt.mpr c_56)))]; exact e1) | (rw [bst_n0 (gk_n (fun q => absurd q.2.2.1 (Nat.not_lt.mpr c_67)))]; exact e1) | (rw [bst_n0 (gk_n (fun q => absurd q.2.2.2.1 (Nat.not_lt.mpr c_78)))]; exact e1) | (rw [bst_n0 (gk_n (fun q => c_93 q.2.2.2.2))]; exact e1) | (rw [bst_no (by rw [← e2]; exact c_152)]; exact e1) | (rw [bst_yes (by rw [← e2]; exact c_152)]; exact (swC_y (p := (i, gk f7 f8 nH nV i)) (show 0 < gk f7 f8 nH nV i by omega)).symm)) (by first | (rw [bst_n0 (gk_n (fun q => absurd q.1 (Nat.not_lt.mpr c_45)))]; exact e2) | (rw [bst_n0 (gk_n (fun q => absurd q.2.1 (Nat.not_lt.mpr c_56)))]; exact e2) | (rw [bst_n0 (gk_n (fun q => absurd q.2.2.1 (Nat.not_lt.mpr c_67)))]; exact e2) | (rw [bst_n0 (gk_n (fun q => absurd q.2.2.2.1 (Nat.not_lt.mpr c_78)))]; exact e2) | (rw [bst_n0 (gk_n (fun q => c_93 q.2.2.2.2))]; exact e2) | (rw [bst_no (by rw [← e2]; exact c_152)]; exact e2) | (rw [bst_yes (by rw [← e2]; exact c_152)]; done)) (by omega) _ _ hP hD hS _ (lv_sub hl [0, 5, 6, 7] rfl)
              · skip
                replace c_78 := cn_nle (by omega) (by omega) c_78
                refine lv_aload_n hx hb dX9_bestSwap_81 rfl (lv_at hl 7 rfl) ?_
                refine lv_iload hx hb dX9_bestSwap_82 (lv_at hl 3 rfl) ?_
                refine lv_iload hx hb dX9_bestSwap_84 (lv_at hl 2 rfl) ?_
                refine lv_iload hx hb dX9_bestSwap_86 (lv_at hl 1 rfl) ?_
                refine lv_iload hx hb dX9_bestSwap_88 (lv_at hl 0 rfl) ?_
                refine gp_V (ci := 9) (q0 := 0) (cq := (RX9, TX9, 15)) (c_X9_canSwap l D cI cZ cF cL mr rf st ln th pl hs vs dg xx nH nV wk ea gi sw f1 f2 f3 f4 f5 f6 f7 f8 (i / 150) ((i / 25) % 6) ((i / 5) % 5) (i % 5) (by omega) (by omega) (by omega) (by omega) b7 b8) (gUV u_673 u_674 u_675 u_5 u_676) rfl hdV_X9_canSwap ⟨Nat.le_of_ble_eq_true rfl, Nat.le_of_ble_eq_true rfl⟩ ⟨rfl, rfl⟩ hx hb hml hown hts hK hA hP hD hS hl.1 ⟨Nat.le_of_ble_eq_true rfl, Nat.le_of_ble_eq_true rfl⟩ rfl rfl rfl (wr := ([] : va_W)) (pm_cnt (fun _ => by simp only [List.countP_append, List.countP_nil, fT] <;> omega)) (fun _ => by simp only [List.map_append, List.map_nil, fX_m, bX_m, sX_m, pX_m, iaX_m, r5X_m, r6X_m, fT_m, hX_m, tX_m, xX_m, sgX_m, zaX_m, fsB_a, qX_m, mX_m]) (rest := []) rfl rfl (Nat.le_of_ble_eq_true rfl) dX9_bestSwap_90 (ws2 := (fun _ : Unit => (mX mr rf st ln th pl hs vs dg xx ++ qX cI (rf 0) nH nV wk ea gi sw f1 f2 f3 f4 f5 f6 f7 f8))) (fun _ => (pm_cnt (fun _ => by simp only [List.countP_append, List.countP_nil, fT] <;> omega))) (fun _ Hp locs hP hD hS => ?_)
                refine lv_if_eq (tgt := 194) hx hb dX9_bestSwap_93 (by decide) (fun c_93 => ?_) (fun c_93 => ?_)
                · skip
                  replace c_93 := cb_z c_93
                  refine lv_iinc (v := (nI (i + 1))) (lv' := [(3, .int (nI (i + 1))), (7, .int (nI (i % 5))), (6, .int (nI ((i / 5) % 5))), (5, .int (nI ((i / 25) % 6))), (4, .int (nI (i / 150))), (2, .int (nI w2)), (1, .int m1), (0, .ref mr)]) hx hb dX9_bestSwap_194 hl (k := 4) rfl (nI_add i 1) (by decide) rfl (fun ls hl => ?_)
                  refine lv_goto (tgt := 6) hx hb dX9_bestSwap_197 (by decide) ?_
                  exact ih_6 (i + 1) m1 w2 (by omega) (by first | (rw [bst_n0 (gk_n (fun q => absurd q.1 (Nat.not_lt.mpr c_45)))]; exact e1) | (rw [bst_n0 (gk_n (fun q => absurd q.2.1 (Nat.not_lt.mpr c_56)))]; exact e1) | (rw [bst_n0 (gk_n (fun q => absurd q.2.2.1 (Nat.not_lt.mpr c_67)))]; exact e1) | (rw [bst_n0 (gk_n (fun q => absurd q.2.2.2.1 (Nat.not_lt.mpr c_78)))]; exact e1) | (rw [bst_n0 (gk_n (fun q => c_93 q.2.2.2.2))]; exact e1) | (rw [bst_no (by rw [← e2]; exact c_152)]; exact e1) | (rw [bst_yes (by rw [← e2]; exact c_152)]; exact (swC_y (p := (i, gk f7 f8 nH nV i)) (show 0 < gk f7 f8 nH nV i by omega)).symm)) (by first | (rw [bst_n0 (gk_n (fun q => absurd q.1 (Nat.not_lt.mpr c_45)))]; exact e2) | (rw [bst_n0 (gk_n (fun q => absurd q.2.1 (Nat.not_lt.mpr c_56)))]; exact e2) | (rw [bst_n0 (gk_n (fun q => absurd q.2.2.1 (Nat.not_lt.mpr c_67)))]; exact e2) | (rw [bst_n0 (gk_n (fun q => absurd q.2.2.2.1 (Nat.not_lt.mpr c_78)))]; exact e2) | (rw [bst_n0 (gk_n (fun q => c_93 q.2.2.2.2))]; exact e2) | (rw [bst_no (by rw [← e2]; exact c_152)]; exact e2) | (rw [bst_yes (by rw [← e2]; exact c_152)]; done)) (by omega) _ _ hP hD hS _ (lv_sub hl [0, 5, 6, 7] rfl)
                · skip
                  replace c_93 := cb_nz c_93
                  refine lv_aload_n hx hb dX9_bestSwap_96 rfl (lv_at hl 7 rfl) ?_
                  refine gf_n (C := RX9) (T := TX9) (N := 15) (ci := 9) (q0 := 0) (v := .ref (rf 0)) hx hb hts (iU inlX9) hown hK hP rfl rfl 0 (by decide) (kU u_129) rfl rfl dX9_bestSwap_97 ?_
                  refine lv_iload hx hb dX9_bestSwap_100 (lv_at hl 3 rfl) ?_
                  refine lv_iload hx hb dX9_bestSwap_102 (lv_at hl 0 rfl) ?_
                  refine gp_S (c_X9_like l D cI cZ cF cL (i / 150) (i % 5) ) (gUS u_281 u_282 u_5 u_283) rfl hdS_X9_like ⟨Nat.le_of_ble_eq_true rfl, Nat.le_of_ble_eq_true rfl⟩ ⟨rfl, rfl⟩ hx hb hml hown hts hK hA hP hD hS hl.1 ⟨Nat.le_of_ble_eq_true rfl, Nat.le_of_ble_eq_true rfl⟩ (wr := (mX mr rf st ln th pl hs vs dg xx ++ qX cI (rf 0) nH nV wk ea gi sw f1 f2 f3 f4 f5 f6 f7 f8)) (pm_cnt (fun _ => by simp only [List.countP_append, List.countP_nil, fT] <;> omega)) (fun _ => by simp only [List.map_append, List.map_nil, fX_m, bX_m, sX_m, pX_m, iaX_m, r5X_m, r6X_m, fT_m, hX_m, tX_m, xX_m, sgX_m, zaX_m, fsB_a, qX_m, mX_m]) (rest := [.ref (rf 0)]) rfl rfl (Nat.le_of_ble_eq_true rfl) dX9_bestSwap_104 (ws2 := (fun _ : Unit => (mX mr rf st ln th pl hs vs dg xx ++ qX cI (rf 0) nH nV wk ea gi sw f1 f2 f3 f4 f5 f6 f7 f8))) (fun _ => (pm_cnt (fun _ => by simp only [List.countP_append, List.countP_nil, fT] <;> omega))) (fun _ Hp locs hP hD hS => ?_)
                  refine ia_n (q0 := 1) (t0 := 0) hx hb hK hP rfl rfl (by omega) (by decide) dX9_bestSwap_107 ?_
                  rw [qR_7 (by omega) (by omega)]
                  refine lv_aload_n hx hb dX9_bestSwap_108 rfl (lv_at hl 7 rfl) ?_
                  refine gf_n (C := RX9) (T := TX9) (N := 15) (ci := 9) (q0 := 0) (v := .ref (rf 0)) hx hb hts (iU inlX9) hown hK hP rfl rfl 0 (by decide) (kU u_129) rfl rfl dX9_bestSwap_109 ?_
                  refine lv_iload hx hb dX9_bestSwap_112 (lv_at hl 3 rfl) ?_
                  refine lv_iload hx hb dX9_bestSwap_114 (lv_at hl 1 rfl) ?_
                  refine gp_S (c_X9_like l D cI cZ cF cL (i / 150) ((i / 5) % 5) ) (gUS u_281 u_282 u_5 u_283) rfl hdS_X9_like ⟨Nat.le_of_ble_eq_true rfl, Nat.le_of_ble_eq_true rfl⟩ ⟨rfl, rfl⟩ hx hb hml hown hts hK hA hP hD hS hl.1 ⟨Nat.le_of_ble_eq_true rfl, Nat.le_of_ble_eq_true rfl⟩ (wr := (mX mr rf st ln th pl hs vs dg xx ++ qX cI (rf 0) nH nV wk ea gi sw f1 f2 f3 f4 f5 f6 f7 f8)) (pm_cnt (fun _ => by simp only [List.countP_append, List.countP_nil, fT] <;> omega)) (fun _ => by simp only [List.map_append, List.map_nil, fX_m, bX_m, sX_m, pX_m, iaX_m, r5X_m, r6X_m, fT_m, hX_m, tX_m, xX_m, sgX_m, zaX_m, fsB_a, qX_m, mX_m]) (rest := [.ref (rf 0), .int (nI (f7 ((i / 150) * 5 + (i % 5))))]) rfl rfl (Nat.le_of_ble_eq_true rfl) dX9_bestSwap_116 (ws2 := (fun _ : Unit => (mX mr rf st ln th pl hs vs dg xx ++ qX cI (rf 0) nH nV wk ea gi sw f1 f2 f3 f4 f5 f6 f7 f8))) (fun _ => (pm_cnt (fun _ => by simp only [List.countP_append, List.countP_nil, fT] <;> omega))) (fun _ Hp locs hP hD hS => ?_)
                  refine ia_n (q0 := 1) (t0 := 0) hx hb hK hP rfl rfl (by omega) (by decide) dX9_bestSwap_119 ?_
                  rw [qR_7 (by omega) (by omega)]
                  refine lv_isub hx hb dX9_bestSwap_120 ?_
                  rw [pk_sub (a := f7 ((i / 150) * 5 + (i % 5))) (b := f7 ((i / 150) * 5 + ((i / 5) % 5))) (Nat.le_of_lt c_93.2.2.1)]
                  refine lv_aload_n hx hb dX9_bestSwap_121 rfl (lv_at hl 7 rfl) ?_
                  refine gf_n (C := RX9) (T := TX9) (N := 15) (ci := 9) (q0 := 0) (v := .ref (rf 0)) hx hb hts (iU inlX9) hown hK hP rfl rfl 0 (by decide) (kU u_129) rfl rfl dX9_bestSwap_122 ?_
                  refine lv_iload hx hb dX9_bestSwap_125 (lv_at hl 2 rfl) ?_
                  refine lv_iload hx hb dX9_bestSwap_127 (lv_at hl 1 rfl) ?_
                  refine gp_S (c_X9_like l D cI cZ cF cL ((i / 25) % 6) ((i / 5) % 5) ) (gUS u_281 u_282 u_5 u_283) rfl hdS_X9_like ⟨Nat.le_of_ble_eq_true rfl, Nat.le_of_ble_eq_true rfl⟩ ⟨rfl, rfl⟩ hx hb hml hown hts hK hA hP hD hS hl.1 ⟨Nat.le_of_ble_eq_true rfl, Nat.le_of_ble_eq_true rfl⟩ (wr := (mX mr rf st ln th pl hs vs dg xx ++ qX cI (rf 0) nH nV wk ea gi sw f1 f2 f3 f4 f5 f6 f7 f8)) (pm_cnt (fun _ => by simp only [List.countP_append, List.countP_nil, fT] <;> omega)) (fun _ => by simp only [List.map_append, List.map_nil, fX_m, bX_m, sX_m, pX_m, iaX_m, r5X_m, r6X_m, fT_m, hX_m, tX_m, xX_m, sgX_m, zaX_m, fsB_a, qX_m, mX_m]) (rest := [.ref (rf 0), .int (nI ((f7 ((i / 150) * 5 + (i % 5))) - (f7 ((i / 150) * 5 + ((i / 5) % 5)))))]) rfl rfl (Nat.le_of_ble_eq_true rfl) dX9_bestSwap_129 (ws2 := (fun _ : Unit => (mX mr rf st ln th pl hs vs dg xx ++ qX cI (rf 0) nH nV wk ea gi sw f1 f2 f3 f4 f5 f6 f7 f8))) (fun _ => (pm_cnt (fun _ => by simp only [List.countP_append, List.countP_nil, fT] <;> omega))) (fun _ Hp locs hP hD hS => ?_)
                  refine ia_n (q0 := 1) (t0 := 0) hx hb hK hP rfl rfl (by omega) (by decide) dX9_bestSwap_132 ?_
                  rw [qR_7 (by omega) (by omega)]
                  refine lv_iadd hx hb dX9_bestSwap_133 ?_
                  rw [nI_add ((f7 ((i / 150) * 5 + (i % 5))) - (f7 ((i / 150) * 5 + ((i / 5) % 5)))) (f7 (((i / 25) % 6) * 5 + ((i / 5) % 5)))]
                  refine lv_aload_n hx hb dX9_bestSwap_134 rfl (lv_at hl 7 rfl) ?_
                  refine gf_n (C := RX9) (T := TX9) (N := 15) (ci := 9) (q0 := 0) (v := .ref (rf 0)) hx hb hts (iU inlX9) hown hK hP rfl rfl 0 (by decide) (kU u_129) rfl rfl dX9_bestSwap_135 ?_
                  refine lv_iload hx hb dX9_bestSwap_138 (lv_at hl 2 rfl) ?_
                  refine lv_iload hx hb dX9_bestSwap_140 (lv_at hl 0 rfl) ?_
                  refine gp_S (c_X9_like l D cI cZ cF cL ((i / 25) % 6) (i % 5) ) (gUS u_281 u_282 u_5 u_283) rfl hdS_X9_like ⟨Nat.le_of_ble_eq_true rfl, Nat.le_of_ble_eq_true rfl⟩ ⟨rfl, rfl⟩ hx hb hml hown hts hK hA hP hD hS hl.1 ⟨Nat.le_of_ble_eq_true rfl, Nat.le_of_ble_eq_true rfl⟩ (wr := (mX mr rf st ln th pl hs vs dg xx ++ qX cI (rf 0) nH nV wk ea gi sw f1 f2 f3 f4 f5 f6 f7 f8)) (pm_cnt (fun _ => by simp only [List.countP_append, List.countP_nil, fT] <;> omega)) (fun _ => by simp only [List.map_append, List.map_nil, fX_m, bX_m, sX_m, pX_m, iaX_m, r5X_m, r6X_m, fT_m, hX_m, tX_m, xX_m, sgX_m, zaX_m, fsB_a, qX_m, mX_m]) (rest := [.ref (rf 0), .int (nI (((f7 ((i / 150) * 5 + (i % 5))) - (f7 ((i / 150) * 5 + ((i / 5) % 5)))) + (f7 (((i / 25) % 6) * 5 + ((i / 5) % 5)))))]) rfl rfl (Nat.le_of_ble_eq_true rfl) dX9_bestSwap_142 (ws2 := (fun _ : Unit => (mX mr rf st ln th pl hs vs dg xx ++ qX cI (rf 0) nH nV wk ea gi sw f1 f2 f3 f4 f5 f6 f7 f8))) (fun _ => (pm_cnt (fun _ => by simp only [List.countP_append, List.countP_nil, fT] <;> omega))) (fun _ Hp locs hP hD hS => ?_)
                  refine ia_n (q0 := 1) (t0 := 0) hx hb hK hP rfl rfl (by omega) (by decide) dX9_bestSwap_145 ?_
                  rw [qR_7 (by omega) (by omega)]
                  refine lv_isub hx hb dX9_bestSwap_146 ?_
                  rw [pk_sub (a := ((f7 ((i / 150) * 5 + (i % 5))) - (f7 ((i / 150) * 5 + ((i / 5) % 5)))) + (f7 (((i / 25) % 6) * 5 + ((i / 5) % 5)))) (b := f7 (((i / 25) % 6) * 5 + (i % 5))) (by have := c_93.2.2.2; omega)]
                  rw [show (nI ((((f7 ((i / 150) * 5 + (i % 5))) - (f7 ((i / 150) * 5 + ((i / 5) % 5)))) + (f7 (((i / 25) % 6) * 5 + ((i / 5) % 5)))) - (f7 (((i / 25) % 6) * 5 + (i % 5))))) = (nI (gk f7 f8 nH nV i)) from (congrArg nI (by rw [gk_y c_45 c_56 c_67 c_78 c_93]; have := c_93.2.2.2; omega))]
                  refine lv_istore (lv' := [(8, .int (nI (gk f7 f8 nH nV i))), (7, .int (nI (i % 5))), (6, .int (nI ((i / 5) % 5))), (5, .int (nI ((i / 25) % 6))), (4, .int (nI (i / 150))), (3, .int (nI i)), (2, .int (nI w2)), (1, .int m1), (0, .ref mr)]) hx hb dX9_bestSwap_147 hl (by decide) rfl (fun ls hl => ?_)
                  have hb2 : w2 ≤ 18 := by rw [e2]; exact bst_le hH hV b7 i
                  have hgk : gk f7 f8 nH nV i ≤ 18 := by rw [gk_y c_45 c_56 c_67 c_78 c_93]; have := b7 (i / 150 * 5 + i % 5) (by omega); have := b7 (i / 25 % 6 * 5 + i / 5 % 5) (by omega); omega
                  refine lv_iload hx hb dX9_bestSwap_149 (lv_at hl 0 rfl) ?_
                  refine lv_iload_n hx hb dX9_bestSwap_151 rfl (lv_at hl 6 rfl) ?_
                  refine lv_icmp_le (tgt := 179) hx hb dX9_bestSwap_152 (by decide) (fun c_152 => ?_) (fun c_152 => ?_)
                  · skip
                    replace c_152 := cn_le (by omega) (by omega) c_152
                    refine lv_iload_n hx hb dX9_bestSwap_179 rfl (lv_at hl 7 rfl) ?_
                    refine lv_istore_n (lv' := [(1, .int m1), (8, .int (nI (gk f7 f8 nH nV i))), (7, .int (nI (i % 5))), (6, .int (nI ((i / 5) % 5))), (5, .int (nI ((i / 25) % 6))), (4, .int (nI (i / 150))), (3, .int (nI i)), (2, .int (nI w2)), (0, .ref mr)]) hx hb dX9_bestSwap_180 rfl hl (by decide) rfl (fun ls hl => ?_)
                    refine lv_iload hx hb dX9_bestSwap_181 (lv_at hl 1 rfl) ?_
                    refine lv_iload_n hx hb dX9_bestSwap_183 rfl (lv_at hl 7 rfl) ?_
                    refine lv_icmp_le (tgt := 192) hx hb dX9_bestSwap_184 (by decide) (fun c_184 => ?_) (fun c_184 => ?_)
                    · skip
                      replace c_184 := cn_le (by omega) (by omega) c_184
                      refine lv_iload_n hx hb dX9_bestSwap_192 rfl (lv_at hl 7 rfl) ?_
                      refine lv_istore_n (lv' := [(2, .int (nI w2)), (1, .int m1), (8, .int (nI (gk f7 f8 nH nV i))), (7, .int (nI (i % 5))), (6, .int (nI ((i / 5) % 5))), (5, .int (nI ((i / 25) % 6))), (4, .int (nI (i / 150))), (3, .int (nI i)), (0, .ref mr)]) hx hb dX9_bestSwap_193 rfl hl (by decide) rfl (fun ls hl => ?_)
                      refine lv_iinc (v := (nI (i + 1))) (lv' := [(3, .int (nI (i + 1))), (2, .int (nI w2)), (1, .int m1), (8, .int (nI (gk f7 f8 nH nV i))), (7, .int (nI (i % 5))), (6, .int (nI ((i / 5) % 5))), (5, .int (nI ((i / 25) % 6))), (4, .int (nI (i / 150))), (0, .ref mr)]) hx hb dX9_bestSwap_194 hl (k := 7) rfl (nI_add i 1) (by decide) rfl (fun ls hl => ?_)
                      refine lv_goto (tgt := 6) hx hb dX9_bestSwap_197 (by decide) ?_
                      exact ih_6 (i + 1) m1 w2 (by omega) (by first | (rw [bst_n0 (gk_n (fun q => absurd q.1 (Nat.not_lt.mpr c_45)))]; exact e1) | (rw [bst_n0 (gk_n (fun q => absurd q.2.1 (Nat.not_lt.mpr c_56)))]; exact e1) | (rw [bst_n0 (gk_n (fun q => absurd q.2.2.1 (Nat.not_lt.mpr c_67)))]; exact e1) | (rw [bst_n0 (gk_n (fun q => absurd q.2.2.2.1 (Nat.not_lt.mpr c_78)))]; exact e1) | (rw [bst_n0 (gk_n (fun q => c_93 q.2.2.2.2))]; exact e1) | (rw [bst_no (by rw [← e2]; exact c_152)]; exact e1) | (rw [bst_yes (by rw [← e2]; exact c_152)]; exact (swC_y (p := (i, gk f7 f8 nH nV i)) (show 0 < gk f7 f8 nH nV i by omega)).symm)) (by first | (rw [bst_n0 (gk_n (fun q => absurd q.1 (Nat.not_lt.mpr c_45)))]; exact e2) | (rw [bst_n0 (gk_n (fun q => absurd q.2.1 (Nat.not_lt.mpr c_56)))]; exact e2) | (rw [bst_n0 (gk_n (fun q => absurd q.2.2.1 (Nat.not_lt.mpr c_67)))]; exact e2) | (rw [bst_n0 (gk_n (fun q => absurd q.2.2.2.1 (Nat.not_lt.mpr c_78)))]; exact e2) | (rw [bst_n0 (gk_n (fun q => c_93 q.2.2.2.2))]; exact e2) | (rw [bst_no (by rw [← e2]; exact c_152)]; exact e2) | (rw [bst_yes (by rw [← e2]; exact c_152)]; done)) (by omega) _ _ hP hD hS _ (lv_sub hl [0, 1, 2, 8] rfl)
                    · skip
                      replace c_184 := cn_nle (by omega) (by omega) c_184
                      (exfalso; omega)
                  · skip
                    replace c_152 := cn_nle (by omega) (by omega) c_152
                    refine lv_sipush (v := (nI 1000)) hx hb dX9_bestSwap_155 (by decide +kernel) ?_
                    refine lv_iload hx hb dX9_bestSwap_158 (lv_at hl 4 rfl) ?_
                    refine lv_imul hx hb dX9_bestSwap_160 ?_
                    rw [pk_mul 1000 (i / 150)]
                    refine lv_bipush (v := (nI 100)) hx hb dX9_bestSwap_161 (by decide) ?_
                    refine lv_iload hx hb dX9_bestSwap_163 (lv_at hl 3 rfl) ?_
                    refine lv_imul hx hb dX9_bestSwap_165 ?_
                    rw [pk_mul 100 ((i / 25) % 6)]
                    refine lv_iadd hx hb dX9_bestSwap_166 ?_
                    rw [nI_add (1000 * (i / 150)) (100 * ((i / 25) % 6))]
                    refine lv_bipush (v := (nI 10)) hx hb dX9_bestSwap_167 (by decide) ?_
                    refine lv_iload hx hb dX9_bestSwap_169 (lv_at hl 2 rfl) ?_
                    refine lv_imul hx hb dX9_bestSwap_171 ?_
                    rw [pk_mul 10 ((i / 5) % 5)]
                    refine lv_iadd hx hb dX9_bestSwap_172 ?_
                    rw [nI_add ((1000 * (i / 150)) + (100 * ((i / 25) % 6))) (10 * ((i / 5) % 5))]
                    refine lv_iload hx hb dX9_bestSwap_173 (lv_at hl 1 rfl) ?_
                    refine lv_iadd hx hb dX9_bestSwap_175 ?_
                    rw [nI_add (((1000 * (i / 150)) + (100 * ((i / 25) % 6))) + (10 * ((i / 5) % 5))) (i % 5)]
                    refine lv_goto (tgt := 180) hx hb dX9_bestSwap_176 (by decide) ?_
                    refine lv_istore_n (lv' := [(1, .int (nI ((((1000 * (i / 150)) + (100 * ((i / 25) % 6))) + (10 * ((i / 5) % 5))) + (i % 5)))), (8, .int (nI (gk f7 f8 nH nV i))), (7, .int (nI (i % 5))), (6, .int (nI ((i / 5) % 5))), (5, .int (nI ((i / 25) % 6))), (4, .int (nI (i / 150))), (3, .int (nI i)), (2, .int (nI w2)), (0, .ref mr)]) hx hb dX9_bestSwap_180 rfl hl (by decide) rfl (fun ls hl => ?_)
                    refine lv_iload hx hb dX9_bestSwap_181 (lv_at hl 1 rfl) ?_
                    refine lv_iload_n hx hb dX9_bestSwap_183 rfl (lv_at hl 7 rfl) ?_
                    refine lv_icmp_le (tgt := 192) hx hb dX9_bestSwap_184 (by decide) (fun c_184 => ?_) (fun c_184 => ?_)
                    · skip
                      replace c_184 := cn_le (by omega) (by omega) c_184
                      (exfalso; omega)
                    · skip
                      replace c_184 := cn_nle (by omega) (by omega) c_184
                      refine lv_iload hx hb dX9_bestSwap_187 (lv_at hl 1 rfl) ?_
                      refine lv_goto (tgt := 193) hx hb dX9_bestSwap_189 (by decide) ?_
                      refine lv_istore_n (lv' := [(2, .int (nI (gk f7 f8 nH nV i))), (1, .int (nI ((((1000 * (i / 150)) + (100 * ((i / 25) % 6))) + (10 * ((i / 5) % 5))) + (i % 5)))), (8, .int (nI (gk f7 f8 nH nV i))), (7, .int (nI (i % 5))), (6, .int (nI ((i / 5) % 5))), (5, .int (nI ((i / 25) % 6))), (4, .int (nI (i / 150))), (3, .int (nI i)), (0, .ref mr)]) hx hb dX9_bestSwap_193 rfl hl (by decide) rfl (fun ls hl => ?_)
                      refine lv_iinc (v := (nI (i + 1))) (lv' := [(3, .int (nI (i + 1))), (2, .int (nI (gk f7 f8 nH nV i))), (1, .int (nI ((((1000 * (i / 150)) + (100 * ((i / 25) % 6))) + (10 * ((i / 5) % 5))) + (i % 5)))), (8, .int (nI (gk f7 f8 nH nV i))), (7, .int (nI (i % 5))), (6, .int (nI ((i / 5) % 5))), (5, .int (nI ((i / 25) % 6))), (4, .int (nI (i / 150))), (0, .ref mr)]) hx hb dX9_bestSwap_194 hl (k := 7) rfl (nI_add i 1) (by decide) rfl (fun ls hl => ?_)
                      refine lv_goto (tgt := 6) hx hb dX9_bestSwap_197 (by decide) ?_
                      exact ih_6 (i + 1) ((nI ((((1000 * (i / 150)) + (100 * ((i / 25) % 6))) + (10 * ((i / 5) % 5))) + (i % 5)))) (gk f7 f8 nH nV i) (by omega) (by first | (rw [bst_n0 (gk_n (fun q => absurd q.1 (Nat.not_lt.mpr c_45)))]; exact e1) | (rw [bst_n0 (gk_n (fun q => absurd q.2.1 (Nat.not_lt.mpr c_56)))]; exact e1) | (rw [bst_n0 (gk_n (fun q => absurd q.2.2.1 (Nat.not_lt.mpr c_67)))]; exact e1) | (rw [bst_n0 (gk_n (fun q => absurd q.2.2.2.1 (Nat.not_lt.mpr c_78)))]; exact e1) | (rw [bst_n0 (gk_n (fun q => c_93 q.2.2.2.2))]; exact e1) | (rw [bst_no (by rw [← e2]; exact c_152)]; exact e1) | (rw [bst_yes (by rw [← e2]; exact c_152)]; exact (swC_y (p := (i, gk f7 f8 nH nV i)) (show 0 < gk f7 f8 nH nV i by omega)).symm)) (by first | (rw [bst_n0 (gk_n (fun q => absurd q.1 (Nat.not_lt.mpr c_45)))]; exact e2) | (rw [bst_n0 (gk_n (fun q => absurd q.2.1 (Nat.not_lt.mpr c_56)))]; exact e2) | (rw [bst_n0 (gk_n (fun q => absurd q.2.2.1 (Nat.not_lt.mpr c_67)))]; exact e2) | (rw [bst_n0 (gk_n (fun q => absurd q.2.2.2.1 (Nat.not_lt.mpr c_78)))]; exact e2) | (rw [bst_n0 (gk_n (fun q => c_93 q.2.2.2.2))]; exact e2) | (rw [bst_no (by rw [← e2]; exact c_152)]; exact e2) | (rw [bst_yes (by rw [← e2]; exact c_152)]; done)) (by omega) _ _ hP hD hS _ (lv_sub hl [0, 1, 2, 8] rfl)
  exact loop_6 ((900 - 0) + 1) 0 (((-1))) 0 (by omega) (by rw [bst_0]; rfl) (by rw [bst_0]) (Nat.lt_succ_self _) _ _ hP hD hS _ (lv_sub hl [0, 1, 2, 3] rfl)
set_option maxRecDepth 20000 in
theorem u_672 : Cond.code yX9_bestSwap cX9_bestSwap 9 (some .int) ∈ wsL_law := List.mem_of_getElem? (i := 672) (by decide +kernel)
set_option maxRecDepth 20000 in
theorem u_669 : Cond.methodLink RX9 74 yX9_bestSwap ∈ wsL_law := List.mem_of_getElem? (i := 669) (by decide +kernel)
set_option maxRecDepth 20000 in
theorem u_670 : Cond.instanceMethod yX9_bestSwap ∈ wsL_law := List.mem_of_getElem? (i := 670) (by decide +kernel)
set_option maxRecDepth 20000 in
theorem u_671 : Cond.selects RX9 yX9_bestSwap yX9_bestSwap ∈ wsL_law := List.mem_of_getElem? (i := 671) (by decide +kernel)
theorem hdV_X9_bestSwap : yX9_bestSwap.cls = RX9 ∧ yX9_bestSwap.cls ≠ "java/lang/invoke/MethodHandle" ∧ yX9_bestSwap.cls ≠ "java/lang/invoke/VarHandle" ∧ (parseMethodDescriptor yX9_bestSwap.desc).map (fun d => d.parameters.length) = some 0 := by decide +kernel
set_option maxHeartbeats 4000000 in
set_option maxRecDepth 100000 in
theorem c_X9_swaps (l : Launch) (D : va_G) (cI cZ cF cL : ClassId) (mr : Nat) (rf : Nat → Nat) (st ln th pl hs vs : Nat) (dg : Int32) (xx : Int64) (nH nV wk ea gi sw : Nat) (f1 f2 f3 f4 f5 f6 f7 f8 : Nat → Nat) (hH : nH ≤ 6) (hV : nV ≤ 5) (b7 : ∀ k, k < 30 → f7 k ≤ 9) (hsum : sumN f8 30 ≤ 200) : CT l D (tysX cI cZ cF cL) yX9_swaps (wA yX9_swaps cX9_swaps 7 (some .int)) (rmF 3 74) [.ref mr] (mX mr rf st ln th pl hs vs dg xx ++ qX cI (rf 0) nH nV wk ea gi sw f1 f2 f3 f4 f5 f6 f7 f8) (some (.int (nI ((swR f7 nH nV 1801 f8).1)))) (fun _ : Unit => (mX mr rf st ln th pl hs vs dg xx ++ qX cI (rf 0) nH nV wk ea gi sw f1 f2 f3 f4 f5 f6 f7 ((swR f7 nH nV 1801 f8).2))) := by
  refine ct_in (cc := cX9_swaps) (maxL := 7) (ret := (some .int)) (own := RX9) (lv := [(0, .ref mr)]) (by decide +kernel) rfl rfl (Nat.le_of_ble_eq_true rfl) rfl ?_
  intro p e s m args below meth c A ls hx hb hr hml hts hown hlocks hK hA hP hD hS hl
  have b8 : ∀ k, k < 30 → f8 k < 2 ^ 31 := fun k hk => by have := sumN_le1 f8 30 hk; omega
  refine lv_iconst (v := (nI 0)) hx hb dX9_swaps_0 (by decide) ?_
  refine lv_istore_n (lv' := [(1, .int (nI 0)), (0, .ref mr)]) hx hb dX9_swaps_1 rfl hl (by decide) rfl (fun ls hl => ?_)
  refine lv_aload_n hx hb dX9_swaps_2 rfl (lv_at hl 1 rfl) ?_
  refine gp_V (ci := 9) (q0 := 0) (cq := (RX9, TX9, 15)) (c_X9_bestSwap l D cI cZ cF cL mr rf st ln th pl hs vs dg xx nH nV wk ea gi sw f1 f2 f3 f4 f5 f6 f7 f8 (by omega) (by omega) b7 b8) (gUV u_669 u_670 u_671 u_5 u_672) rfl hdV_X9_bestSwap ⟨Nat.le_of_ble_eq_true rfl, Nat.le_of_ble_eq_true rfl⟩ ⟨rfl, rfl⟩ hx hb hml hown hts hK hA hP hD hS hl.1 ⟨Nat.le_of_ble_eq_true rfl, Nat.le_of_ble_eq_true rfl⟩ rfl rfl rfl (wr := ([] : va_W)) (pm_cnt (fun _ => by simp only [List.countP_append, List.countP_nil, fT] <;> omega)) (fun _ => by simp only [List.map_append, List.map_nil, fX_m, bX_m, sX_m, pX_m, iaX_m, r5X_m, r6X_m, fT_m, hX_m, tX_m, xX_m, sgX_m, zaX_m, fsB_a, qX_m, mX_m]) (rest := []) rfl rfl (Nat.le_of_ble_eq_true rfl) dX9_swaps_3 (ws2 := (fun _ : Unit => (mX mr rf st ln th pl hs vs dg xx ++ qX cI (rf 0) nH nV wk ea gi sw f1 f2 f3 f4 f5 f6 f7 f8))) (fun _ => (pm_cnt (fun _ => by simp only [List.countP_append, List.countP_nil, fT] <;> omega))) (fun _ Hp locs hP hD hS => ?_)
  refine lv_istore_n (lv' := [(2, .int (swC (bst f7 f8 nH nV 900))), (1, .int (nI 0)), (0, .ref mr)]) hx hb dX9_swaps_6 rfl hl (by decide) rfl (fun ls hl => ?_)
  have loop_7 : ∀ (dd : Nat) (mm : Nat) (m1 : Int32) (h0 : Nat → Nat) (d : Nat), (mm + d = 1801) → (swD f7 nH nV d h0) → (sumN h0 30 ≤ 200) → (swR f7 nH nV 1801 f8 = (mm + (swR f7 nH nV d h0).1, (swR f7 nH nV d h0).2)) → (m1 = swC (bst f7 h0 nH nV 900)) → d < dd → ∀ (Hp : Heap) (locs : List Loc), va_P D vwCl (mX mr rf st ln th pl hs vs dg xx ++ qX cI (rf 0) nH nV wk ea gi sw f1 f2 f3 f4 f5 f6 f7 h0) Hp → va_D A (mX mr rf st ln th pl hs vs dg xx ++ qX cI (rf 0) nH nV wk ea gi sw f1 f2 f3 f4 f5 f6 f7 h0) → va_S A s.heap Hp locs → ∀ ls : Array Slot, lv_has ls 7 [(2, .int m1), (1, .int (nI mm)), (0, .ref mr)] → W p l e (rmF 3 74) s m args below meth c Hp locs 0 0 (MQ below (CQ D (some (.int (nI ((swR f7 nH nV 1801 f8).1)))) (fun _ : Unit => (mX mr rf st ln th pl hs vs dg xx ++ qX cI (rf 0) nH nV wk ea gi sw f1 f2 f3 f4 f5 f6 f7 ((swR f7 nH nV 1801 f8).2))) A) args s 0 0 A) (F0 m 7 ls []) := by
    intro dd
    induction dd with
    | zero => intro mm m1 h0 d hm1 hDD hsm hRR ew hm; exact absurd hm (Nat.not_lt_zero _)
    | succ dd ih_7 =>
      intro mm m1 h0 d hm1 hDD hsm hRR ew hm Hp locs hP hD hS ls hl
      refine lv_iload_n hx hb dX9_swaps_7 rfl (lv_at hl 0 rfl) ?_
      by_cases c8 : 0 < (bst f7 h0 nH nV 900).2
      · skip
        obtain ⟨d0, rfl⟩ : ∃ d0, d = d0 + 1 := by
          cases d with
          | zero => exact absurd c8 (by rw [swD_0.mp hDD]; exact Nat.lt_irrefl 0)
          | succ d0 => exact ⟨d0, rfl⟩
        obtain ⟨xa, xb, xv, xw, ja, jb, jv, jw, t1, t2, t3, t4, t5, t6, t7, t8⟩ := bst_what c8
        have eK : swK h0 xa xb xv xw = swP h0 (bst f7 h0 nH nV 900).1 := by
          unfold swP
          rw [ja, jb, jv, jw]
        have eR : swR f7 nH nV (d0 + 1) h0 = ((swR f7 nH nV d0 (swP h0 (bst f7 h0 nH nV 900).1)).1 + 1, (swR f7 nH nV d0 (swP h0 (bst f7 h0 nH nV 900).1)).2) := by rw [swR, if_pos c8]
        have t9 : xv ≠ xw := fun q => by subst q; omega
        obtain rfl : m1 = nI (1000 * xa + 100 * xb + 10 * xv + xw) := by rw [ew, swC_y c8, ja, jb, jv, jw]
        refine lv_if_lt (tgt := 114) hx hb dX9_swaps_8 (by decide) (fun c_8 => ?_) (fun c_8 => ?_)
        · skip
          replace c_8 := cn_lt (b := 0) (by omega) (by omega) c_8
          (exact absurd c_8 (by omega))
        · skip
          replace c_8 := cn_nlt (b := 0) (by omega) (by omega) c_8
          refine lv_iload_n hx hb dX9_swaps_11 rfl (lv_at hl 0 rfl) ?_
          refine lv_sipush (v := (nI 1000)) hx hb dX9_swaps_12 (by decide +kernel) ?_
          refine lv_idiv hx hb dX9_swaps_15 (by decide) ?_
          rw [pk_div (a := 1000 * xa + 100 * xb + 10 * xv + xw) (d := 1000) (by omega) (by omega) (by omega)]
          rw [show (nI ((1000 * xa + 100 * xb + 10 * xv + xw) / 1000)) = (nI xa) from (congrArg nI (by omega))]
          refine lv_istore_n (lv' := [(3, .int (nI xa)), (2, .int (nI (1000 * xa + 100 * xb + 10 * xv + xw))), (1, .int (nI mm)), (0, .ref mr)]) hx hb dX9_swaps_16 rfl hl (by decide) rfl (fun ls hl => ?_)
          refine lv_iload_n hx hb dX9_swaps_17 rfl (lv_at hl 1 rfl) ?_
          refine lv_bipush (v := (nI 100)) hx hb dX9_swaps_18 (by decide) ?_
          refine lv_idiv hx hb dX9_swaps_20 (by decide) ?_
          rw [pk_div (a := 1000 * xa + 100 * xb + 10 * xv + xw) (d := 100) (by omega) (by omega) (by omega)]
          refine lv_bipush (v := (nI 10)) hx hb dX9_swaps_21 (by decide) ?_
          refine lv_irem hx hb dX9_swaps_23 (by decide) ?_
          rw [pk_rem (a := (1000 * xa + 100 * xb + 10 * xv + xw) / 100) (d := 10) (by omega) (by omega) (by omega)]
          rw [show (nI (((1000 * xa + 100 * xb + 10 * xv + xw) / 100) % 10)) = (nI xb) from (congrArg nI (by omega))]
          refine lv_istore (lv' := [(4, .int (nI xb)), (3, .int (nI xa)), (2, .int (nI (1000 * xa + 100 * xb + 10 * xv + xw))), (1, .int (nI mm)), (0, .ref mr)]) hx hb dX9_swaps_24 hl (by decide) rfl (fun ls hl => ?_)
          refine lv_iload_n hx hb dX9_swaps_26 rfl (lv_at hl 2 rfl) ?_
          refine lv_bipush (v := (nI 10)) hx hb dX9_swaps_27 (by decide) ?_
          refine lv_idiv hx hb dX9_swaps_29 (by decide) ?_
          rw [pk_div (a := 1000 * xa + 100 * xb + 10 * xv + xw) (d := 10) (by omega) (by omega) (by omega)]
          refine lv_bipush (v := (nI 10)) hx hb dX9_swaps_30 (by decide) ?_
          refine lv_irem hx hb dX9_swaps_32 (by decide) ?_
          rw [pk_rem (a := (1000 * xa + 100 * xb + 10 * xv + xw) / 10) (d := 10) (by omega) (by omega) (by omega)]
          rw [show (nI (((1000 * xa + 100 * xb + 10 * xv + xw) / 10) % 10)) = (nI xv) from (congrArg nI (by omega))]
          refine lv_istore (lv' := [(5, .int (nI xv)), (4, .int (nI xb)), (3, .int (nI xa)), (2, .int (nI (1000 * xa + 100 * xb + 10 * xv + xw))), (1, .int (nI mm)), (0, .ref mr)]) hx hb dX9_swaps_33 hl (by decide) rfl (fun ls hl => ?_)
          refine lv_iload_n hx hb dX9_swaps_35 rfl (lv_at hl 3 rfl) ?_
          refine lv_bipush (v := (nI 10)) hx hb dX9_swaps_36 (by decide) ?_
          refine lv_irem hx hb dX9_swaps_38 (by decide) ?_
          rw [pk_rem (a := 1000 * xa + 100 * xb + 10 * xv + xw) (d := 10) (by omega) (by omega) (by omega)]
          rw [show (nI ((1000 * xa + 100 * xb + 10 * xv + xw) % 10)) = (nI xw) from (congrArg nI (by omega))]
          refine lv_istore (lv' := [(6, .int (nI xw)), (5, .int (nI xv)), (4, .int (nI xb)), (3, .int (nI xa)), (2, .int (nI (1000 * xa + 100 * xb + 10 * xv + xw))), (1, .int (nI mm)), (0, .ref mr)]) hx hb dX9_swaps_39 hl (by decide) rfl (fun ls hl => ?_)
          refine lv_aload_n hx hb dX9_swaps_41 rfl (lv_at hl 6 rfl) ?_
          refine gf_n (C := RX9) (T := TX9) (N := 15) (ci := 9) (q0 := 0) (v := .ref (rf 0)) hx hb hts (iU inlX9) hown hK hP rfl rfl 0 (by decide) (kU u_129) rfl rfl dX9_swaps_42 ?_
          refine lv_iload_n hx hb dX9_swaps_45 rfl (lv_at hl 3 rfl) ?_
          refine lv_iload hx hb dX9_swaps_46 (lv_at hl 1 rfl) ?_
          refine gp_S (c_X9_kilos l D cI cZ cF cL xa xv ) (gUS u_354 u_355 u_5 u_356) rfl hdS_X9_kilos ⟨Nat.le_of_ble_eq_true rfl, Nat.le_of_ble_eq_true rfl⟩ ⟨rfl, rfl⟩ hx hb hml hown hts hK hA hP hD hS hl.1 ⟨Nat.le_of_ble_eq_true rfl, Nat.le_of_ble_eq_true rfl⟩ (wr := (mX mr rf st ln th pl hs vs dg xx ++ qX cI (rf 0) nH nV wk ea gi sw f1 f2 f3 f4 f5 f6 f7 h0)) (pm_cnt (fun _ => by simp only [List.countP_append, List.countP_nil, fT] <;> omega)) (fun _ => by simp only [List.map_append, List.map_nil, fX_m, bX_m, sX_m, pX_m, iaX_m, r5X_m, r6X_m, fT_m, hX_m, tX_m, xX_m, sgX_m, zaX_m, fsB_a, qX_m, mX_m]) (rest := [.ref (rf 0)]) rfl rfl (Nat.le_of_ble_eq_true rfl) dX9_swaps_48 (ws2 := (fun _ : Unit => (mX mr rf st ln th pl hs vs dg xx ++ qX cI (rf 0) nH nV wk ea gi sw f1 f2 f3 f4 f5 f6 f7 h0))) (fun _ => (pm_cnt (fun _ => by simp only [List.countP_append, List.countP_nil, fT] <;> omega))) (fun _ Hp locs hP hD hS => ?_)
          refine lv_dup2_11 hx hb dX9_swaps_51 rfl rfl ?_
          refine ia_n (q0 := 1) (t0 := 0) hx hb hK hP rfl rfl (by omega) (by decide) dX9_swaps_52 ?_
          rw [qR_8 (by omega) (by omega)]
          refine lv_iconst (v := (nI 1)) hx hb dX9_swaps_53 (by decide) ?_
          refine lv_isub hx hb dX9_swaps_54 ?_
          rw [pk_sub (a := h0 (xa * 5 + xv)) (b := 1) t5]
          refine is_n (q0 := 1) (t0 := 0) (ws2 := (mX mr rf st ln th pl hs vs dg xx ++ qX cI (rf 0) nH nV wk ea gi sw f1 f2 f3 f4 f5 f6 f7 (va_up h0 (xa * 5 + xv) ((h0 (xa * 5 + xv)) - 1)))) hx hb hK hP hD hS rfl rfl (by omega) (by decide) dX9_swaps_55 (by rw [qU_8 (by omega) (by omega)]; rfl) (fun Hp locs hP hD hS => ?_)
          refine lv_aload_n hx hb dX9_swaps_56 rfl (lv_at hl 6 rfl) ?_
          refine gf_n (C := RX9) (T := TX9) (N := 15) (ci := 9) (q0 := 0) (v := .ref (rf 0)) hx hb hts (iU inlX9) hown hK hP rfl rfl 0 (by decide) (kU u_129) rfl rfl dX9_swaps_57 ?_
          refine lv_iload hx hb dX9_swaps_60 (lv_at hl 2 rfl) ?_
          refine lv_iload hx hb dX9_swaps_62 (lv_at hl 1 rfl) ?_
          refine gp_S (c_X9_kilos l D cI cZ cF cL xb xv ) (gUS u_354 u_355 u_5 u_356) rfl hdS_X9_kilos ⟨Nat.le_of_ble_eq_true rfl, Nat.le_of_ble_eq_true rfl⟩ ⟨rfl, rfl⟩ hx hb hml hown hts hK hA hP hD hS hl.1 ⟨Nat.le_of_ble_eq_true rfl, Nat.le_of_ble_eq_true rfl⟩ (wr := (mX mr rf st ln th pl hs vs dg xx ++ qX cI (rf 0) nH nV wk ea gi sw f1 f2 f3 f4 f5 f6 f7 (va_up h0 (xa * 5 + xv) ((h0 (xa * 5 + xv)) - 1)))) (pm_cnt (fun _ => by simp only [List.countP_append, List.countP_nil, fT] <;> omega)) (fun _ => by simp only [List.map_append, List.map_nil, fX_m, bX_m, sX_m, pX_m, iaX_m, r5X_m, r6X_m, fT_m, hX_m, tX_m, xX_m, sgX_m, zaX_m, fsB_a, qX_m, mX_m]) (rest := [.ref (rf 0)]) rfl rfl (Nat.le_of_ble_eq_true rfl) dX9_swaps_64 (ws2 := (fun _ : Unit => (mX mr rf st ln th pl hs vs dg xx ++ qX cI (rf 0) nH nV wk ea gi sw f1 f2 f3 f4 f5 f6 f7 (va_up h0 (xa * 5 + xv) ((h0 (xa * 5 + xv)) - 1))))) (fun _ => (pm_cnt (fun _ => by simp only [List.countP_append, List.countP_nil, fT] <;> omega))) (fun _ Hp locs hP hD hS => ?_)
          refine lv_dup2_11 hx hb dX9_swaps_67 rfl rfl ?_
          refine ia_n (q0 := 1) (t0 := 0) hx hb hK hP rfl rfl (by omega) (by decide) dX9_swaps_68 ?_
          rw [qR_8 (by omega) (by omega)]
          refine lv_iconst (v := (nI 1)) hx hb dX9_swaps_69 (by decide) ?_
          refine lv_iadd hx hb dX9_swaps_70 ?_
          rw [nI_add ((va_up h0 (xa * 5 + xv) ((h0 (xa * 5 + xv)) - 1)) (xb * 5 + xv)) 1]
          refine is_n (q0 := 1) (t0 := 0) (ws2 := (mX mr rf st ln th pl hs vs dg xx ++ qX cI (rf 0) nH nV wk ea gi sw f1 f2 f3 f4 f5 f6 f7 (va_up (va_up h0 (xa * 5 + xv) ((h0 (xa * 5 + xv)) - 1)) (xb * 5 + xv) (((va_up h0 (xa * 5 + xv) ((h0 (xa * 5 + xv)) - 1)) (xb * 5 + xv)) + 1)))) hx hb hK hP hD hS rfl rfl (by omega) (by decide) dX9_swaps_71 (by rw [qU_8 (by omega) (by omega)]; rfl) (fun Hp locs hP hD hS => ?_)
          refine lv_aload_n hx hb dX9_swaps_72 rfl (lv_at hl 6 rfl) ?_
          refine gf_n (C := RX9) (T := TX9) (N := 15) (ci := 9) (q0 := 0) (v := .ref (rf 0)) hx hb hts (iU inlX9) hown hK hP rfl rfl 0 (by decide) (kU u_129) rfl rfl dX9_swaps_73 ?_
          refine lv_iload hx hb dX9_swaps_76 (lv_at hl 2 rfl) ?_
          refine lv_iload hx hb dX9_swaps_78 (lv_at hl 0 rfl) ?_
          refine gp_S (c_X9_kilos l D cI cZ cF cL xb xw ) (gUS u_354 u_355 u_5 u_356) rfl hdS_X9_kilos ⟨Nat.le_of_ble_eq_true rfl, Nat.le_of_ble_eq_true rfl⟩ ⟨rfl, rfl⟩ hx hb hml hown hts hK hA hP hD hS hl.1 ⟨Nat.le_of_ble_eq_true rfl, Nat.le_of_ble_eq_true rfl⟩ (wr := (mX mr rf st ln th pl hs vs dg xx ++ qX cI (rf 0) nH nV wk ea gi sw f1 f2 f3 f4 f5 f6 f7 (va_up (va_up h0 (xa * 5 + xv) ((h0 (xa * 5 + xv)) - 1)) (xb * 5 + xv) (((va_up h0 (xa * 5 + xv) ((h0 (xa * 5 + xv)) - 1)) (xb * 5 + xv)) + 1)))) (pm_cnt (fun _ => by simp only [List.countP_append, List.countP_nil, fT] <;> omega)) (fun _ => by simp only [List.map_append, List.map_nil, fX_m, bX_m, sX_m, pX_m, iaX_m, r5X_m, r6X_m, fT_m, hX_m, tX_m, xX_m, sgX_m, zaX_m, fsB_a, qX_m, mX_m]) (rest := [.ref (rf 0)]) rfl rfl (Nat.le_of_ble_eq_true rfl) dX9_swaps_80 (ws2 := (fun _ : Unit => (mX mr rf st ln th pl hs vs dg xx ++ qX cI (rf 0) nH nV wk ea gi sw f1 f2 f3 f4 f5 f6 f7 (va_up (va_up h0 (xa * 5 + xv) ((h0 (xa * 5 + xv)) - 1)) (xb * 5 + xv) (((va_up h0 (xa * 5 + xv) ((h0 (xa * 5 + xv)) - 1)) (xb * 5 + xv)) + 1))))) (fun _ => (pm_cnt (fun _ => by simp only [List.countP_append, List.countP_nil, fT] <;> omega))) (fun _ Hp locs hP hD hS => ?_)
          refine lv_dup2_11 hx hb dX9_swaps_83 rfl rfl ?_
          refine ia_n (q0 := 1) (t0 := 0) hx hb hK hP rfl rfl (by omega) (by decide) dX9_swaps_84 ?_
          rw [qR_8 (by omega) (by omega)]
          refine lv_iconst (v := (nI 1)) hx hb dX9_swaps_85 (by decide) ?_
          refine lv_isub hx hb dX9_swaps_86 ?_
          rw [pk_sub (a := (va_up (va_up h0 (xa * 5 + xv) ((h0 (xa * 5 + xv)) - 1)) (xb * 5 + xv) (((va_up h0 (xa * 5 + xv) ((h0 (xa * 5 + xv)) - 1)) (xb * 5 + xv)) + 1)) (xb * 5 + xw)) (b := 1) (by rw [up_n (by omega), up_n (by omega)]; exact t6)]
          refine is_n (q0 := 1) (t0 := 0) (ws2 := (mX mr rf st ln th pl hs vs dg xx ++ qX cI (rf 0) nH nV wk ea gi sw f1 f2 f3 f4 f5 f6 f7 (va_up (va_up (va_up h0 (xa * 5 + xv) ((h0 (xa * 5 + xv)) - 1)) (xb * 5 + xv) (((va_up h0 (xa * 5 + xv) ((h0 (xa * 5 + xv)) - 1)) (xb * 5 + xv)) + 1)) (xb * 5 + xw) (((va_up (va_up h0 (xa * 5 + xv) ((h0 (xa * 5 + xv)) - 1)) (xb * 5 + xv) (((va_up h0 (xa * 5 + xv) ((h0 (xa * 5 + xv)) - 1)) (xb * 5 + xv)) + 1)) (xb * 5 + xw)) - 1)))) hx hb hK hP hD hS rfl rfl (by omega) (by decide) dX9_swaps_87 (by rw [qU_8 (by omega) (by omega)]; rfl) (fun Hp locs hP hD hS => ?_)
          refine lv_aload_n hx hb dX9_swaps_88 rfl (lv_at hl 6 rfl) ?_
          refine gf_n (C := RX9) (T := TX9) (N := 15) (ci := 9) (q0 := 0) (v := .ref (rf 0)) hx hb hts (iU inlX9) hown hK hP rfl rfl 0 (by decide) (kU u_129) rfl rfl dX9_swaps_89 ?_
          refine lv_iload_n hx hb dX9_swaps_92 rfl (lv_at hl 3 rfl) ?_
          refine lv_iload hx hb dX9_swaps_93 (lv_at hl 0 rfl) ?_
          refine gp_S (c_X9_kilos l D cI cZ cF cL xa xw ) (gUS u_354 u_355 u_5 u_356) rfl hdS_X9_kilos ⟨Nat.le_of_ble_eq_true rfl, Nat.le_of_ble_eq_true rfl⟩ ⟨rfl, rfl⟩ hx hb hml hown hts hK hA hP hD hS hl.1 ⟨Nat.le_of_ble_eq_true rfl, Nat.le_of_ble_eq_true rfl⟩ (wr := (mX mr rf st ln th pl hs vs dg xx ++ qX cI (rf 0) nH nV wk ea gi sw f1 f2 f3 f4 f5 f6 f7 (va_up (va_up (va_up h0 (xa * 5 + xv) ((h0 (xa * 5 + xv)) - 1)) (xb * 5 + xv) (((va_up h0 (xa * 5 + xv) ((h0 (xa * 5 + xv)) - 1)) (xb * 5 + xv)) + 1)) (xb * 5 + xw) (((va_up (va_up h0 (xa * 5 + xv) ((h0 (xa * 5 + xv)) - 1)) (xb * 5 + xv) (((va_up h0 (xa * 5 + xv) ((h0 (xa * 5 + xv)) - 1)) (xb * 5 + xv)) + 1)) (xb * 5 + xw)) - 1)))) (pm_cnt (fun _ => by simp only [List.countP_append, List.countP_nil, fT] <;> omega)) (fun _ => by simp only [List.map_append, List.map_nil, fX_m, bX_m, sX_m, pX_m, iaX_m, r5X_m, r6X_m, fT_m, hX_m, tX_m, xX_m, sgX_m, zaX_m, fsB_a, qX_m, mX_m]) (rest := [.ref (rf 0)]) rfl rfl (Nat.le_of_ble_eq_true rfl) dX9_swaps_95 (ws2 := (fun _ : Unit => (mX mr rf st ln th pl hs vs dg xx ++ qX cI (rf 0) nH nV wk ea gi sw f1 f2 f3 f4 f5 f6 f7 (va_up (va_up (va_up h0 (xa * 5 + xv) ((h0 (xa * 5 + xv)) - 1)) (xb * 5 + xv) (((va_up h0 (xa * 5 + xv) ((h0 (xa * 5 + xv)) - 1)) (xb * 5 + xv)) + 1)) (xb * 5 + xw) (((va_up (va_up h0 (xa * 5 + xv) ((h0 (xa * 5 + xv)) - 1)) (xb * 5 + xv) (((va_up h0 (xa * 5 + xv) ((h0 (xa * 5 + xv)) - 1)) (xb * 5 + xv)) + 1)) (xb * 5 + xw)) - 1))))) (fun _ => (pm_cnt (fun _ => by simp only [List.countP_append, List.countP_nil, fT] <;> omega))) (fun _ Hp locs hP hD hS => ?_)
          refine lv_dup2_11 hx hb dX9_swaps_98 rfl rfl ?_
          refine ia_n (q0 := 1) (t0 := 0) hx hb hK hP rfl rfl (by omega) (by decide) dX9_swaps_99 ?_
          rw [qR_8 (by omega) (by omega)]
          refine lv_iconst (v := (nI 1)) hx hb dX9_swaps_100 (by decide) ?_
          refine lv_iadd hx hb dX9_swaps_101 ?_
          rw [nI_add ((va_up (va_up (va_up h0 (xa * 5 + xv) ((h0 (xa * 5 + xv)) - 1)) (xb * 5 + xv) (((va_up h0 (xa * 5 + xv) ((h0 (xa * 5 + xv)) - 1)) (xb * 5 + xv)) + 1)) (xb * 5 + xw) (((va_up (va_up h0 (xa * 5 + xv) ((h0 (xa * 5 + xv)) - 1)) (xb * 5 + xv) (((va_up h0 (xa * 5 + xv) ((h0 (xa * 5 + xv)) - 1)) (xb * 5 + xv)) + 1)) (xb * 5 + xw)) - 1)) (xa * 5 + xw)) 1]
          refine is_n (q0 := 1) (t0 := 0) (ws2 := (mX mr rf st ln th pl hs vs dg xx ++ qX cI (rf 0) nH nV wk ea gi sw f1 f2 f3 f4 f5 f6 f7 (va_up (va_up (va_up (va_up h0 (xa * 5 + xv) ((h0 (xa * 5 + xv)) - 1)) (xb * 5 + xv) (((va_up h0 (xa * 5 + xv) ((h0 (xa * 5 + xv)) - 1)) (xb * 5 + xv)) + 1)) (xb * 5 + xw) (((va_up (va_up h0 (xa * 5 + xv) ((h0 (xa * 5 + xv)) - 1)) (xb * 5 + xv) (((va_up h0 (xa * 5 + xv) ((h0 (xa * 5 + xv)) - 1)) (xb * 5 + xv)) + 1)) (xb * 5 + xw)) - 1)) (xa * 5 + xw) (((va_up (va_up (va_up h0 (xa * 5 + xv) ((h0 (xa * 5 + xv)) - 1)) (xb * 5 + xv) (((va_up h0 (xa * 5 + xv) ((h0 (xa * 5 + xv)) - 1)) (xb * 5 + xv)) + 1)) (xb * 5 + xw) (((va_up (va_up h0 (xa * 5 + xv) ((h0 (xa * 5 + xv)) - 1)) (xb * 5 + xv) (((va_up h0 (xa * 5 + xv) ((h0 (xa * 5 + xv)) - 1)) (xb * 5 + xv)) + 1)) (xb * 5 + xw)) - 1)) (xa * 5 + xw)) + 1)))) hx hb hK hP hD hS rfl rfl (by omega) (by decide) dX9_swaps_102 (by rw [qU_8 (by omega) (by omega)]; rfl) (fun Hp locs hP hD hS => ?_)
          have hP : va_P D vwCl (mX mr rf st ln th pl hs vs dg xx ++ qX cI (rf 0) nH nV wk ea gi sw f1 f2 f3 f4 f5 f6 f7 (swK h0 xa xb xv xw)) _ := hP
          have hD : va_D A (mX mr rf st ln th pl hs vs dg xx ++ qX cI (rf 0) nH nV wk ea gi sw f1 f2 f3 f4 f5 f6 f7 (swK h0 xa xb xv xw)) := hD
          refine lv_iinc (v := (nI (mm + 1))) (lv' := [(1, .int (nI (mm + 1))), (6, .int (nI xw)), (5, .int (nI xv)), (4, .int (nI xb)), (3, .int (nI xa)), (2, .int (nI (1000 * xa + 100 * xb + 10 * xv + xw))), (0, .ref mr)]) hx hb dX9_swaps_103 hl (k := 5) rfl (nI_add mm 1) (by decide) rfl (fun ls hl => ?_)
          refine lv_aload_n hx hb dX9_swaps_106 rfl (lv_at hl 6 rfl) ?_
          refine gp_V (ci := 9) (q0 := 0) (cq := (RX9, TX9, 15)) (c_X9_bestSwap l D cI cZ cF cL mr rf st ln th pl hs vs dg xx nH nV wk ea gi sw f1 f2 f3 f4 f5 f6 f7 (swK h0 xa xb xv xw) (by omega) (by omega) b7 (fun k hk => by have := sumN_le1 (swK h0 xa xb xv xw) 30 hk; rw [eK, swP_sum hH hV c8] at this; rw [eK]; omega)) (gUV u_669 u_670 u_671 u_5 u_672) rfl hdV_X9_bestSwap ⟨Nat.le_of_ble_eq_true rfl, Nat.le_of_ble_eq_true rfl⟩ ⟨rfl, rfl⟩ hx hb hml hown hts hK hA hP hD hS hl.1 ⟨Nat.le_of_ble_eq_true rfl, Nat.le_of_ble_eq_true rfl⟩ rfl rfl rfl (wr := ([] : va_W)) (pm_cnt (fun _ => by simp only [List.countP_append, List.countP_nil, fT] <;> omega)) (fun _ => by simp only [List.map_append, List.map_nil, fX_m, bX_m, sX_m, pX_m, iaX_m, r5X_m, r6X_m, fT_m, hX_m, tX_m, xX_m, sgX_m, zaX_m, fsB_a, qX_m, mX_m]) (rest := []) rfl rfl (Nat.le_of_ble_eq_true rfl) dX9_swaps_107 (ws2 := (fun _ : Unit => (mX mr rf st ln th pl hs vs dg xx ++ qX cI (rf 0) nH nV wk ea gi sw f1 f2 f3 f4 f5 f6 f7 (swK h0 xa xb xv xw)))) (fun _ => (pm_cnt (fun _ => by simp only [List.countP_append, List.countP_nil, fT] <;> omega))) (fun _ Hp locs hP hD hS => ?_)
          refine lv_istore_n (lv' := [(2, .int (swC (bst f7 (swK h0 xa xb xv xw) nH nV 900))), (1, .int (nI (mm + 1))), (6, .int (nI xw)), (5, .int (nI xv)), (4, .int (nI xb)), (3, .int (nI xa)), (0, .ref mr)]) hx hb dX9_swaps_110 rfl hl (by decide) rfl (fun ls hl => ?_)
          refine lv_goto (tgt := 7) hx hb dX9_swaps_111 (by decide) ?_
          exact ih_7 (mm + 1) ((swC (bst f7 (swK h0 xa xb xv xw) nH nV 900))) (swK h0 xa xb xv xw) d0 (by omega) (by rw [eK]; exact swD_s.mp hDD c8) (by rw [eK, swP_sum hH hV c8]; exact hsm) (by rw [eK, hRR, eR]; exact Prod.ext (by dsimp only; omega) rfl) rfl (by omega) _ _ hP hD hS _ (lv_sub hl [0, 1, 6] rfl)
      · skip
        obtain rfl : m1 = (-1) := by rw [ew, swC_n c8]
        refine lv_if_lt (tgt := 114) hx hb dX9_swaps_8 (by decide) (fun _ => ?_) (fun c_8 => absurd (by decide +kernel) c_8)
        refine lv_iload_n hx hb dX9_swaps_114 rfl (lv_at hl 1 rfl) ?_
        exact ct_i () hx hb hr hlocks (by rw [hRR, swR_z c8]; exact hP) hS (by rw [hRR, swR_z c8]; rfl) dX9_swaps_115
  exact loop_7 (1801 + 1) 0 ((swC (bst f7 f8 nH nV 900))) f8 1801 (by omega) (swD_of hH hV b7 1801 f8 hsum (by omega)) hsum (by rw [Nat.zero_add]) rfl (Nat.lt_succ_self _) _ _ hP hD hS _ (lv_sub hl [0, 1, 2] rfl)
