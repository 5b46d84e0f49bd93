theorem rm_at {Q : Nat → Nat → Nat} {n i : Nat} (h : i < 100) : rmQ Q (100 * n + i) = Q n i := by
  unfold rmQ
  rw [show (100 * n + i) / 100 = n by omega, show (100 * n + i) % 100 = i by omega]
set_option maxHeartbeats 4000000 in
set_option maxRecDepth 100000 in
theorem c_X9_order (l : Launch) (D : va_G) (cI cZ cF cL : ClassId) (mr : Nat) (rf : Nat → Nat) (st ln th pl hs vs : Nat) (dg : Int32) (xx : Int64) (T : Nat → Nat → Nat) (p0 : Nat) (hT : FI T) (hp : p0 < 2 ^ 31) : CT l D (tysX cI cZ cF cL) yX9_order (wA yX9_order cX9_order 5 (some .int)) (rmF 2 44) [.ref mr, .int (nI p0)] (mX mr rf st ln th pl hs vs dg xx ++ qX cI (rf 0) (T 0 0) (T 0 1) (T 0 2) (T 0 3) (T 0 4) (T 0 5) (T 1) (T 2) (T 3) (T 4) (T 5) (T 6) (T 7) (T 8)) (some (.int (ordF T p0 (T 0 0) 0))) (fun _ : Unit => (mX mr rf st ln 0 pl hs vs dg xx ++ qX cI (rf 0) (T 0 0) (T 0 1) (T 0 2) (T 0 3) (T 0 4) (T 0 5) (T 1) (T 2) (T 3) (T 4) (T 5) (T 6) (T 7) (T 8))) := by
  refine ct_in (cc := cX9_order) (maxL := 5) (ret := (some .int)) (own := RX9) (lv := [(0, .ref mr), (1, .int (nI p0))]) (by decide +kernel) rfl rfl (Nat.le_of_ble_eq_true rfl) rfl ?_
  intro p e s m args below meth c A ls hx hb hr hml hts hown hlocks hK hA hP hD hS hl
  have hH := hT.1.1
  have hV := hT.1.2
  refine lv_aload_n hx hb dX9_order_0 rfl (lv_at hl 0 rfl) ?_
  refine lv_iconst (v := (nI 0)) hx hb dX9_order_1 (by decide) ?_
  refine pf_n (C := RX9) (T := TX9) (N := 15) (ci := 9) (q0 := 0) (ty := .int) (v := .int (nI 0)) (ws2 := (mX mr rf st ln 0 pl hs vs dg xx ++ qX cI (rf 0) (T 0 0) (T 0 1) (T 0 2) (T 0 3) (T 0 4) (T 0 5) (T 1) (T 2) (T 3) (T 4) (T 5) (T 6) (T 7) (T 8))) hx hb hts (iU inlX9) tyX9 tyX9_ok nmX9 hown hK hP hD hS rfl rfl 8 (by decide) (kU u_173) rfl rfl (tyX9_ok 8 (by decide)) rfl rfl (Nat.le_of_ble_eq_true rfl) dX9_order_2 rfl (fun Hp locs hP hD hS => ?_)
  refine lv_iload_n hx hb dX9_order_5 rfl (lv_at hl 1 rfl) ?_
  refine lv_if_ge (tgt := 15) hx hb dX9_order_6 (by decide) (fun c_6 => ?_) (fun c_6 => ?_)
  · skip
    refine lv_iconst (v := (nI 0)) hx hb dX9_order_15 (by decide) ?_
    refine lv_istore_n (lv' := [(2, .int (nI 0)), (0, .ref mr), (1, .int (nI p0))]) hx hb dX9_order_16 rfl hl (by decide) rfl (fun ls hl => ?_)
    have loop_17 : ∀ (dd : Nat) (i : Nat), (i ≤ T 0 0) → (ordF T p0 (T 0 0) 0 = ordF T p0 (T 0 0 - i) i) → (T 0 0 - i) < dd → ∀ (Hp : Heap) (locs : List Loc), va_P D vwCl (mX mr rf st ln 0 pl hs vs dg xx ++ qX cI (rf 0) (T 0 0) (T 0 1) (T 0 2) (T 0 3) (T 0 4) (T 0 5) (T 1) (T 2) (T 3) (T 4) (T 5) (T 6) (T 7) (T 8)) Hp → va_D A (mX mr rf st ln 0 pl hs vs dg xx ++ qX cI (rf 0) (T 0 0) (T 0 1) (T 0 2) (T 0 3) (T 0 4) (T 0 5) (T 1) (T 2) (T 3) (T 4) (T 5) (T 6) (T 7) (T 8)) → va_S A s.heap Hp locs → ∀ ls : Array Slot, lv_has ls 5 [(2, .int (nI i)), (0, .ref mr), (1, .int (nI p0))] → W p l e (rmF 2 44) s m args below meth c Hp locs 0 0 (MQ below (CQ D (some (.int (ordF T p0 (T 0 0) 0))) (fun _ : Unit => (mX mr rf st ln 0 pl hs vs dg xx ++ qX cI (rf 0) (T 0 0) (T 0 1) (T 0 2) (T 0 3) (T 0 4) (T 0 5) (T 1) (T 2) (T 3) (T 4) (T 5) (T 6) (T 7) (T 8))) A) args s 0 0 A) (F0 m 17 ls []) := by
      intro dd
      induction dd with
      | zero => intro i hi eR hm; exact absurd hm (Nat.not_lt_zero _)
      | succ dd ih_17 =>
        intro i hi eR hm Hp locs hP hD hS ls hl
        refine lv_iload_n hx hb dX9_order_17 rfl (lv_at hl 0 rfl) ?_
        refine lv_aload_n hx hb dX9_order_18 rfl (lv_at hl 1 rfl) ?_
        refine gf_n (C := RX9) (T := TX9) (N := 15) (ci := 9) (q0 := 0) (v := .ref (rf 0)) hx hb hts (iU inlX9) hown hK hP rfl rfl 0 (by decide) (kU u_129) rfl rfl dX9_order_19 ?_
        refine lv_iconst (v := (nI 0)) hx hb dX9_order_22 (by decide) ?_
        refine ia_n (q0 := 1) (t0 := 0) hx hb hK hP rfl rfl (by omega) (by decide) dX9_order_23 ?_
        rw [show qN (T 0 0) (T 0 1) (T 0 2) (T 0 3) (T 0 4) (T 0 5) (T 1) (T 2) (T 3) (T 4) (T 5) (T 6) (T 7) (T 8) 0 = (T 0 0) from rfl]
        refine lv_icmp_ge (tgt := 104) hx hb dX9_order_24 (by decide) (fun c_24 => ?_) (fun c_24 => ?_)
        · skip
          replace c_24 := cn_le (by omega) (by omega) c_24
          refine lv_bipush (v := ((-9))) hx hb dX9_order_104 (by decide) ?_
          exact ct_i () hx hb hr hlocks hP hS (by rw [eR, show T 0 0 - i = 0 by omega]; rfl) dX9_order_106
        · skip
          replace c_24 := cn_nle (by omega) (by omega) c_24
          refine lv_iconst (v := (nI 0)) hx hb dX9_order_27 (by decide) ?_
          refine lv_istore_n (lv' := [(3, .int (nI 0)), (2, .int (nI i)), (0, .ref mr), (1, .int (nI p0))]) hx hb dX9_order_28 rfl hl (by decide) rfl (fun ls hl => ?_)
          refine lv_iconst (v := (nI 0)) hx hb dX9_order_29 (by decide) ?_
          refine lv_istore (lv' := [(4, .int (nI 0)), (3, .int (nI 0)), (2, .int (nI i)), (0, .ref mr), (1, .int (nI p0))]) hx hb dX9_order_30 hl (by decide) rfl (fun ls hl => ?_)
          have loop_32 : ∀ (dd : Nat) (i4 : Nat) (k3 : Nat), (i4 ≤ T 0 0) → (k3 = cntN (fun o => decide (hap (T 7) (T 8) (T 0 1) i < hap (T 7) (T 8) (T 0 1) o ∨ hap (T 7) (T 8) (T 0 1) o = hap (T 7) (T 8) (T 0 1) i ∧ o < i)) i4) → (T 0 0 - i4) < dd → ∀ (Hp : Heap) (locs : List Loc), va_P D vwCl (mX mr rf st ln 0 pl hs vs dg xx ++ qX cI (rf 0) (T 0 0) (T 0 1) (T 0 2) (T 0 3) (T 0 4) (T 0 5) (T 1) (T 2) (T 3) (T 4) (T 5) (T 6) (T 7) (T 8)) Hp → va_D A (mX mr rf st ln 0 pl hs vs dg xx ++ qX cI (rf 0) (T 0 0) (T 0 1) (T 0 2) (T 0 3) (T 0 4) (T 0 5) (T 1) (T 2) (T 3) (T 4) (T 5) (T 6) (T 7) (T 8)) → va_S A s.heap Hp locs → ∀ ls : Array Slot, lv_has ls 5 [(4, .int (nI i4)), (3, .int (nI k3)), (2, .int (nI i)), (0, .ref mr), (1, .int (nI p0))] → W p l e (rmF 2 44) s m args below meth c Hp locs 0 0 (MQ below (CQ D (some (.int (ordF T p0 (T 0 0) 0))) (fun _ : Unit => (mX mr rf st ln 0 pl hs vs dg xx ++ qX cI (rf 0) (T 0 0) (T 0 1) (T 0 2) (T 0 3) (T 0 4) (T 0 5) (T 1) (T 2) (T 3) (T 4) (T 5) (T 6) (T 7) (T 8))) A) args s 0 0 A) (F0 m 32 ls []) := by
            intro dd
            induction dd with
            | zero => intro i4 k3 hi4 ek hm; exact absurd hm (Nat.not_lt_zero _)
            | succ dd ih_32 =>
              intro i4 k3 hi4 ek hm Hp locs hP hD hS ls hl
              refine lv_iload hx hb dX9_order_32 (lv_at hl 0 rfl) ?_
              refine lv_aload_n hx hb dX9_order_34 rfl (lv_at hl 3 rfl) ?_
              refine gf_n (C := RX9) (T := TX9) (N := 15) (ci := 9) (q0 := 0) (v := .ref (rf 0)) hx hb hts (iU inlX9) hown hK hP rfl rfl 0 (by decide) (kU u_129) rfl rfl dX9_order_35 ?_
              refine lv_iconst (v := (nI 0)) hx hb dX9_order_38 (by decide) ?_
              refine ia_n (q0 := 1) (t0 := 0) hx hb hK hP rfl rfl (by omega) (by decide) dX9_order_39 ?_
              rw [show qN (T 0 0) (T 0 1) (T 0 2) (T 0 3) (T 0 4) (T 0 5) (T 1) (T 2) (T 3) (T 4) (T 5) (T 6) (T 7) (T 8) 0 = (T 0 0) from rfl]
              refine lv_icmp_ge (tgt := 91) hx hb dX9_order_40 (by decide) (fun c_40 => ?_) (fun c_40 => ?_)
              · skip
                replace c_40 := cn_le (by omega) (by omega) c_40
                refine lv_iload_n hx hb dX9_order_91 rfl (lv_at hl 1 rfl) ?_
                refine lv_iload_n hx hb dX9_order_92 rfl (lv_at hl 4 rfl) ?_
                refine lv_icmp_ne (tgt := 98) hx hb dX9_order_93 (by decide) (fun c_93 => ?_) (fun c_93 => ?_)
                · skip
                  replace c_93 := cn_ne c_93
                  refine lv_iinc (v := (nI (i + 1))) (lv' := [(2, .int (nI (i + 1))), (4, .int (nI i4)), (3, .int (nI k3)), (0, .ref mr), (1, .int (nI p0))]) hx hb dX9_order_98 hl (k := 2) rfl (nI_add i 1) (by decide) rfl (fun ls hl => ?_)
                  refine lv_goto (tgt := 17) hx hb dX9_order_101 (by decide) ?_
                  exact ih_17 (i + 1) (by omega) (by rw [eR]; exact ordF_s (by omega) (by rw [show plcN (T 7) (T 8) (T 0 1) (T 0 0) i = k3 by rw [ek, show i4 = T 0 0 by omega]; rfl]; exact c_93)) (by omega) _ _ hP hD hS _ (lv_sub hl [0, 3, 4] rfl)
                · skip
                  replace c_93 := cn_eq (by have := cntN_le (fun o => decide (hap (T 7) (T 8) (T 0 1) i < hap (T 7) (T 8) (T 0 1) o ∨ hap (T 7) (T 8) (T 0 1) o = hap (T 7) (T 8) (T 0 1) i ∧ o < i)) i4; omega) (by omega) c_93
                  refine lv_iload_n hx hb dX9_order_96 rfl (lv_at hl 2 rfl) ?_
                  exact ct_i () hx hb hr hlocks hP hS (by rw [eR]; exact (ordF_e (by omega) (by rw [show plcN (T 7) (T 8) (T 0 1) (T 0 0) i = k3 by rw [ek, show i4 = T 0 0 by omega]; rfl]; exact c_93)).symm) dX9_order_97
              · skip
                replace c_40 := cn_nle (by omega) (by omega) c_40
                refine lv_iload_n hx hb dX9_order_43 rfl (lv_at hl 1 rfl) ?_
                refine lv_aload_n hx hb dX9_order_44 rfl (lv_at hl 3 rfl) ?_
                refine lv_iload hx hb dX9_order_45 (lv_at hl 0 rfl) ?_
                refine gp_V (ci := 9) (q0 := 0) (cq := (RX9, TX9, 15)) (c_X9_happiness l D cI cZ cF cL mr rf st ln 0 pl hs vs dg xx (T 0 0) (T 0 1) (T 0 2) (T 0 3) (T 0 4) (T 0 5) (T 1) (T 2) (T 3) (T 4) (T 5) (T 6) (T 7) (T 8) i4 (by omega) hV) (gUV u_401 u_402 u_403 u_5 u_404) rfl hdV_X9_happiness ⟨Nat.le_of_ble_eq_true rfl, Nat.le_of_ble_eq_true rfl⟩ ⟨rfl, rfl⟩ hx hb hml hown hts hK hA hP hD hS hl.1 ⟨Nat.le_of_ble_eq_true rfl, Nat.le_of_ble_eq_true rfl⟩ rfl rfl rfl (wr := ([] : va_W)) (pm_cnt (fun _ => by simp only [List.countP_append, List.countP_nil, fT] <;> omega)) (fun _ => by simp only [List.map_append, List.map_nil, fX_m, bX_m, sX_m, pX_m, iaX_m, r5X_m, r6X_m, fT_m, hX_m, tX_m, xX_m, sgX_m, zaX_m, fsB_a, qX_m, mX_m]) (rest := [.int (nI k3)]) rfl rfl (Nat.le_of_ble_eq_true rfl) dX9_order_47 (ws2 := (fun _ : Unit => (mX mr rf st ln 0 pl hs vs dg xx ++ qX cI (rf 0) (T 0 0) (T 0 1) (T 0 2) (T 0 3) (T 0 4) (T 0 5) (T 1) (T 2) (T 3) (T 4) (T 5) (T 6) (T 7) (T 8)))) (fun _ => (pm_cnt (fun _ => by simp only [List.countP_append, List.countP_nil, fT] <;> omega))) (fun _ Hp locs hP hD hS => ?_)
                refine lv_aload_n hx hb dX9_order_50 rfl (lv_at hl 3 rfl) ?_
                refine lv_iload_n hx hb dX9_order_51 rfl (lv_at hl 2 rfl) ?_
                refine gp_V (ci := 9) (q0 := 0) (cq := (RX9, TX9, 15)) (c_X9_happiness l D cI cZ cF cL mr rf st ln 0 pl hs vs dg xx (T 0 0) (T 0 1) (T 0 2) (T 0 3) (T 0 4) (T 0 5) (T 1) (T 2) (T 3) (T 4) (T 5) (T 6) (T 7) (T 8) i (by omega) hV) (gUV u_401 u_402 u_403 u_5 u_404) rfl hdV_X9_happiness ⟨Nat.le_of_ble_eq_true rfl, Nat.le_of_ble_eq_true rfl⟩ ⟨rfl, rfl⟩ hx hb hml hown hts hK hA hP hD hS hl.1 ⟨Nat.le_of_ble_eq_true rfl, Nat.le_of_ble_eq_true rfl⟩ rfl rfl rfl (wr := ([] : va_W)) (pm_cnt (fun _ => by simp only [List.countP_append, List.countP_nil, fT] <;> omega)) (fun _ => by simp only [List.map_append, List.map_nil, fX_m, bX_m, sX_m, pX_m, iaX_m, r5X_m, r6X_m, fT_m, hX_m, tX_m, xX_m, sgX_m, zaX_m, fsB_a, qX_m, mX_m]) (rest := [.int (nI (hap (T 7) (T 8) (T 0 1) i4)), .int (nI k3)]) rfl rfl (Nat.le_of_ble_eq_true rfl) dX9_order_52 (ws2 := (fun _ : Unit => (mX mr rf st ln 0 pl hs vs dg xx ++ qX cI (rf 0) (T 0 0) (T 0 1) (T 0 2) (T 0 3) (T 0 4) (T 0 5) (T 1) (T 2) (T 3) (T 4) (T 5) (T 6) (T 7) (T 8)))) (fun _ => (pm_cnt (fun _ => by simp only [List.countP_append, List.countP_nil, fT] <;> omega))) (fun _ Hp locs hP hD hS => ?_)
                refine lv_icmp_gt (tgt := 78) hx hb dX9_order_55 (by decide) (fun c_55 => ?_) (fun c_55 => ?_)
                · skip
                  replace c_55 := cn_lt (by have := FI_hap hT (j := i) (by omega); omega) (by have := FI_hap hT (j := i4) (by omega); omega) c_55
                  refine lv_iconst (v := (nI 1)) hx hb dX9_order_78 (by decide) ?_
                  refine lv_goto (tgt := 83) hx hb dX9_order_79 (by decide) ?_
                  refine lv_iadd hx hb dX9_order_83 ?_
                  rw [nI_add k3 1]
                  refine lv_istore_n (lv' := [(3, .int (nI (k3 + 1))), (4, .int (nI i4)), (2, .int (nI i)), (0, .ref mr), (1, .int (nI p0))]) hx hb dX9_order_84 rfl hl (by decide) rfl (fun ls hl => ?_)
                  refine lv_iinc (v := (nI (i4 + 1))) (lv' := [(4, .int (nI (i4 + 1))), (3, .int (nI (k3 + 1))), (2, .int (nI i)), (0, .ref mr), (1, .int (nI p0))]) hx hb dX9_order_85 hl (k := 1) rfl (nI_add i4 1) (by decide) rfl (fun ls hl => ?_)
                  refine lv_goto (tgt := 32) hx hb dX9_order_88 (by decide) ?_
                  exact ih_32 (i4 + 1) (k3 + 1) (by omega) (by first | (rw [ek, cntN, if_pos (decide_eq_true (by first | exact Or.inl c_55 | exact Or.inr ⟨c_75, c_61⟩))]) | (rw [ek, cntN, if_neg (by intro q; have q := of_decide_eq_true q; omega), Nat.add_zero])) (by omega) _ _ hP hD hS _ (lv_sub hl [0, 1, 2, 3, 4] rfl)
                · skip
                  replace c_55 := cn_nlt (by have := FI_hap hT (j := i) (by omega); omega) (by have := FI_hap hT (j := i4) (by omega); omega) c_55
                  refine lv_iload hx hb dX9_order_58 (lv_at hl 0 rfl) ?_
                  refine lv_iload_n hx hb dX9_order_60 rfl (lv_at hl 2 rfl) ?_
                  refine lv_icmp_ge (tgt := 82) hx hb dX9_order_61 (by decide) (fun c_61 => ?_) (fun c_61 => ?_)
                  · skip
                    replace c_61 := cn_le (by omega) (by omega) c_61
                    refine lv_iconst (v := (nI 0)) hx hb dX9_order_82 (by decide) ?_
                    refine lv_iadd hx hb dX9_order_83 ?_
                    rw [nI_add k3 0]
                    refine lv_istore_n (lv' := [(3, .int (nI (k3 + 0))), (4, .int (nI i4)), (2, .int (nI i)), (0, .ref mr), (1, .int (nI p0))]) hx hb dX9_order_84 rfl hl (by decide) rfl (fun ls hl => ?_)
                    refine lv_iinc (v := (nI (i4 + 1))) (lv' := [(4, .int (nI (i4 + 1))), (3, .int (nI (k3 + 0))), (2, .int (nI i)), (0, .ref mr), (1, .int (nI p0))]) hx hb dX9_order_85 hl (k := 1) rfl (nI_add i4 1) (by decide) rfl (fun ls hl => ?_)
                    refine lv_goto (tgt := 32) hx hb dX9_order_88 (by decide) ?_
                    exact ih_32 (i4 + 1) (k3 + 0) (by omega) (by first | (rw [ek, cntN, if_pos (decide_eq_true (by first | exact Or.inl c_55 | exact Or.inr ⟨c_75, c_61⟩))]) | (rw [ek, cntN, if_neg (by intro q; have q := of_decide_eq_true q; omega), Nat.add_zero])) (by omega) _ _ hP hD hS _ (lv_sub hl [0, 1, 2, 3, 4] rfl)
                  · skip
                    replace c_61 := cn_nle (by omega) (by omega) c_61
                    refine lv_aload_n hx hb dX9_order_64 rfl (lv_at hl 3 rfl) ?_
                    refine lv_iload hx hb dX9_order_65 (lv_at hl 0 rfl) ?_
                    refine gp_V (ci := 9) (q0 := 0) (cq := (RX9, TX9, 15)) (c_X9_happiness l D cI cZ cF cL mr rf st ln 0 pl hs vs dg xx (T 0 0) (T 0 1) (T 0 2) (T 0 3) (T 0 4) (T 0 5) (T 1) (T 2) (T 3) (T 4) (T 5) (T 6) (T 7) (T 8) i4 (by omega) hV) (gUV u_401 u_402 u_403 u_5 u_404) rfl hdV_X9_happiness ⟨Nat.le_of_ble_eq_true rfl, Nat.le_of_ble_eq_true rfl⟩ ⟨rfl, rfl⟩ hx hb hml hown hts hK hA hP hD hS hl.1 ⟨Nat.le_of_ble_eq_true rfl, Nat.le_of_ble_eq_true rfl⟩ rfl rfl rfl (wr := ([] : va_W)) (pm_cnt (fun _ => by simp only [List.countP_append, List.countP_nil, fT] <;> omega)) (fun _ => by simp only [List.map_append, List.map_nil, fX_m, bX_m, sX_m, pX_m, iaX_m, r5X_m, r6X_m, fT_m, hX_m, tX_m, xX_m, sgX_m, zaX_m, fsB_a, qX_m, mX_m]) (rest := [.int (nI k3)]) rfl rfl (Nat.le_of_ble_eq_true rfl) dX9_order_67 (ws2 := (fun _ : Unit => (mX mr rf st ln 0 pl hs vs dg xx ++ qX cI (rf 0) (T 0 0) (T 0 1) (T 0 2) (T 0 3) (T 0 4) (T 0 5) (T 1) (T 2) (T 3) (T 4) (T 5) (T 6) (T 7) (T 8)))) (fun _ => (pm_cnt (fun _ => by simp only [List.countP_append, List.countP_nil, fT] <;> omega))) (fun _ Hp locs hP hD hS => ?_)
                    refine lv_aload_n hx hb dX9_order_70 rfl (lv_at hl 3 rfl) ?_
                    refine lv_iload_n hx hb dX9_order_71 rfl (lv_at hl 2 rfl) ?_
                    refine gp_V (ci := 9) (q0 := 0) (cq := (RX9, TX9, 15)) (c_X9_happiness l D cI cZ cF cL mr rf st ln 0 pl hs vs dg xx (T 0 0) (T 0 1) (T 0 2) (T 0 3) (T 0 4) (T 0 5) (T 1) (T 2) (T 3) (T 4) (T 5) (T 6) (T 7) (T 8) i (by omega) hV) (gUV u_401 u_402 u_403 u_5 u_404) rfl hdV_X9_happiness ⟨Nat.le_of_ble_eq_true rfl, Nat.le_of_ble_eq_true rfl⟩ ⟨rfl, rfl⟩ hx hb hml hown hts hK hA hP hD hS hl.1 ⟨Nat.le_of_ble_eq_true rfl, Nat.le_of_ble_eq_true rfl⟩ rfl rfl rfl (wr := ([] : va_W)) (pm_cnt (fun _ => by simp only [List.countP_append, List.countP_nil, fT] <;> omega)) (fun _ => by simp only [List.map_append, List.map_nil, fX_m, bX_m, sX_m, pX_m, iaX_m, r5X_m, r6X_m, fT_m, hX_m, tX_m, xX_m, sgX_m, zaX_m, fsB_a, qX_m, mX_m]) (rest := [.int (nI (hap (T 7) (T 8) (T 0 1) i4)), .int (nI k3)]) rfl rfl (Nat.le_of_ble_eq_true rfl) dX9_order_72 (ws2 := (fun _ : Unit => (mX mr rf st ln 0 pl hs vs dg xx ++ qX cI (rf 0) (T 0 0) (T 0 1) (T 0 2) (T 0 3) (T 0 4) (T 0 5) (T 1) (T 2) (T 3) (T 4) (T 5) (T 6) (T 7) (T 8)))) (fun _ => (pm_cnt (fun _ => by simp only [List.countP_append, List.countP_nil, fT] <;> omega))) (fun _ Hp locs hP hD hS => ?_)
                    refine lv_icmp_ne (tgt := 82) hx hb dX9_order_75 (by decide) (fun c_75 => ?_) (fun c_75 => ?_)
                    · skip
                      replace c_75 := cn_ne c_75
                      refine lv_iconst (v := (nI 0)) hx hb dX9_order_82 (by decide) ?_
                      refine lv_iadd hx hb dX9_order_83 ?_
                      rw [nI_add k3 0]
                      refine lv_istore_n (lv' := [(3, .int (nI (k3 + 0))), (4, .int (nI i4)), (2, .int (nI i)), (0, .ref mr), (1, .int (nI p0))]) hx hb dX9_order_84 rfl hl (by decide) rfl (fun ls hl => ?_)
                      refine lv_iinc (v := (nI (i4 + 1))) (lv' := [(4, .int (nI (i4 + 1))), (3, .int (nI (k3 + 0))), (2, .int (nI i)), (0, .ref mr), (1, .int (nI p0))]) hx hb dX9_order_85 hl (k := 1) rfl (nI_add i4 1) (by decide) rfl (fun ls hl => ?_)
                      refine lv_goto (tgt := 32) hx hb dX9_order_88 (by decide) ?_
                      exact ih_32 (i4 + 1) (k3 + 0) (by omega) (by first | (rw [ek, cntN, if_pos (decide_eq_true (by first | exact Or.inl c_55 | exact Or.inr ⟨c_75, c_61⟩))]) | (rw [ek, cntN, if_neg (by intro q; have q := of_decide_eq_true q; omega), Nat.add_zero])) (by omega) _ _ hP hD hS _ (lv_sub hl [0, 1, 2, 3, 4] rfl)
                    · skip
                      replace c_75 := cn_eq (by have := FI_hap hT (j := i4) (by omega); omega) (by have := FI_hap hT (j := i) (by omega); omega) c_75
                      refine lv_iconst (v := (nI 1)) hx hb dX9_order_78 (by decide) ?_
                      refine lv_goto (tgt := 83) hx hb dX9_order_79 (by decide) ?_
                      refine lv_iadd hx hb dX9_order_83 ?_
                      rw [nI_add k3 1]
                      refine lv_istore_n (lv' := [(3, .int (nI (k3 + 1))), (4, .int (nI i4)), (2, .int (nI i)), (0, .ref mr), (1, .int (nI p0))]) hx hb dX9_order_84 rfl hl (by decide) rfl (fun ls hl => ?_)
                      refine lv_iinc (v := (nI (i4 + 1))) (lv' := [(4, .int (nI (i4 + 1))), (3, .int (nI (k3 + 1))), (2, .int (nI i)), (0, .ref mr), (1, .int (nI p0))]) hx hb dX9_order_85 hl (k := 1) rfl (nI_add i4 1) (by decide) rfl (fun ls hl => ?_)
                      refine lv_goto (tgt := 32) hx hb dX9_order_88 (by decide) ?_
                      exact ih_32 (i4 + 1) (k3 + 1) (by omega) (by first | (rw [ek, cntN, if_pos (decide_eq_true (by first | exact Or.inl c_55 | exact Or.inr ⟨c_75, c_61⟩))]) | (rw [ek, cntN, if_neg (by intro q; have q := of_decide_eq_true q; omega), Nat.add_zero])) (by omega) _ _ hP hD hS _ (lv_sub hl [0, 1, 2, 3, 4] rfl)
          exact loop_32 ((T 0 0 - 0) + 1) 0 0 (Nat.zero_le _) rfl (Nat.lt_succ_self _) _ _ hP hD hS _ (lv_sub hl [0, 1, 2, 3, 4] rfl)
    exact loop_17 ((T 0 0 - 0) + 1) 0 (Nat.zero_le _) rfl (Nat.lt_succ_self _) _ _ hP hD hS _ (lv_sub hl [0, 1, 2] rfl)
  · skip
    (exact absurd (Int32.not_lt.mp (nI_pos hp)) c_6)
set_option maxHeartbeats 4000000 in
set_option maxRecDepth 100000 in
theorem f1_X9_order (l : Launch) (D : va_G) (cI cZ cF cL : ClassId) (mr : Nat) (rf : Nat → Nat) (st ln th pl hs vs : Nat) (dg : Int32) (xx : Int64) (x : Int32) (hbad : x < 0) : CT l D (tysX cI cZ cF cL) yX9_order (wA yX9_order cX9_order 5 (some .int)) (rmF 1 21) [.ref mr, .int x] (mX mr rf st ln th pl hs vs dg xx) (some (.int (nI 0))) (fun _ : Unit => (mX mr rf st ln 1 pl hs vs dg xx)) := by
  refine ct_in (cc := cX9_order) (maxL := 5) (ret := (some .int)) (own := RX9) (lv := [(0, .ref mr), (1, .int x)]) (by decide +kernel) rfl rfl (Nat.le_of_ble_eq_true rfl) rfl ?_
  intro p e s m args below meth c A ls hx hb hr hml hts hown hlocks hK hA hP hD hS hl
  refine lv_aload_n hx hb dX9_order_0 rfl (lv_at hl 0 rfl) ?_
  refine lv_iconst (v := (nI 0)) hx hb dX9_order_1 (by decide) ?_
  refine pf_n (C := RX9) (T := TX9) (N := 15) (ci := 9) (q0 := 0) (ty := .int) (v := .int (nI 0)) (ws2 := (mX mr rf st ln 0 pl hs vs dg xx)) hx hb hts (iU inlX9) tyX9 tyX9_ok nmX9 hown hK hP hD hS rfl rfl 8 (by decide) (kU u_173) rfl rfl (tyX9_ok 8 (by decide)) rfl rfl (Nat.le_of_ble_eq_true rfl) dX9_order_2 rfl (fun Hp locs hP hD hS => ?_)
  refine lv_iload_n hx hb dX9_order_5 rfl (lv_at hl 1 rfl) ?_
  refine lv_if_ge (tgt := 15) hx hb dX9_order_6 (by decide) (fun c_6 => ?_) (fun c_6 => ?_)
  · skip
    (exact absurd hbad (Int32.not_lt.mpr c_6))
  · skip
    refine lv_aload_n hx hb dX9_order_9 rfl (lv_at hl 0 rfl) ?_
    refine lv_iconst (v := (nI 1)) hx hb dX9_order_10 (by decide) ?_
    refine gp_V (ci := 9) (q0 := 0) (cq := (RX9, TX9, 15)) (c_X9_fails l D cI cZ cF cL mr rf st ln 0 pl hs vs dg xx 1 ) (gUV u_175 u_176 u_177 u_5 u_178) rfl hdV_X9_fails ⟨Nat.le_of_ble_eq_true rfl, Nat.le_of_ble_eq_true rfl⟩ ⟨rfl, rfl⟩ hx hb hml hown hts hK hA hP hD hS hl.1 ⟨Nat.le_of_ble_eq_true rfl, Nat.le_of_ble_eq_true rfl⟩ rfl rfl rfl (wr := ([] : va_W)) (pm_cnt (fun _ => by simp only [List.countP_append, List.countP_nil, fT] <;> omega)) (fun _ => by simp only [List.map_append, List.map_nil, fX_m, bX_m, sX_m, pX_m, iaX_m, r5X_m, r6X_m, fT_m, hX_m, tX_m, xX_m, sgX_m, zaX_m, fsB_a, qX_m, mX_m]) (rest := []) rfl rfl (Nat.le_of_ble_eq_true rfl) dX9_order_11 (ws2 := (fun _ : Unit => (mX mr rf st ln 1 pl hs vs dg xx))) (fun _ => (pm_cnt (fun _ => by simp only [List.countP_append, List.countP_nil, fT] <;> omega))) (fun _ Hp locs hP hD hS => ?_)
    exact ct_i () hx hb hr hlocks hP hS rfl dX9_order_14
set_option maxRecDepth 20000 in
theorem u_518 : Cond.code yX9_remember cX9_remember 2 none ∈ wsL_law := List.mem_of_getElem? (i := 518) (by decide +kernel)
set_option maxRecDepth 20000 in
theorem u_515 : Cond.methodLink RX9 135 yX9_remember ∈ wsL_law := List.mem_of_getElem? (i := 515) (by decide +kernel)
set_option maxRecDepth 20000 in
theorem u_516 : Cond.instanceMethod yX9_remember ∈ wsL_law := List.mem_of_getElem? (i := 516) (by decide +kernel)
set_option maxRecDepth 20000 in
theorem u_517 : Cond.selects RX9 yX9_remember yX9_remember ∈ wsL_law := List.mem_of_getElem? (i := 517) (by decide +kernel)
theorem hdV_X9_remember : yX9_remember.cls = RX9 ∧ yX9_remember.cls ≠ "java/lang/invoke/MethodHandle" ∧ yX9_remember.cls ≠ "java/lang/invoke/VarHandle" ∧ (parseMethodDescriptor yX9_remember.desc).map (fun d => d.parameters.length) = some 0 := by decide +kernel
set_option maxHeartbeats 4000000 in
set_option maxRecDepth 100000 in
theorem c_X9_addHouse (l : Launch) (D : va_G) (cI cZ cF cL : ClassId) (mr : Nat) (rf : Nat → Nat) (st ln th pl hs vs : Nat) (dg : Int32) (xx : Int64) (T : Nat → Nat → Nat) (Q : Nat → Nat → Nat) (z : Nat) (hT : FI T) (hs14 : st ≤ 14) (h1z : 1 ≤ z) (hz : z ≤ 4) (hH6 : T 0 0 < 6) : CT l D (tysX cI cZ cF cL) yX9_addHouse (wA yX9_addHouse cX9_addHouse 2 (some .int)) (rmF 1 22) [.ref mr, .int (nI z)] (mX mr rf st ln th pl hs vs dg xx ++ qX cI (rf 0) (T 0 0) (T 0 1) (T 0 2) (T 0 3) (T 0 4) (T 0 5) (T 1) (T 2) (T 3) (T 4) (T 5) (T 6) (T 7) (T 8) ++ iaX cI (rf 2) 1400 (rmQ Q)) (some (.int (nI (T 0 0)))) (fun _ : Unit => (mX mr rf ((if st = 14 then 13 else st) + 1) ln 0 pl hs vs dg xx ++ qX cI (rf 0) ((ahT T z 0) 0 0) ((ahT T z 0) 0 1) ((ahT T z 0) 0 2) ((ahT T z 0) 0 3) ((ahT T z 0) 0 4) ((ahT T z 0) 0 5) ((ahT T z 0) 1) ((ahT T z 0) 2) ((ahT T z 0) 3) ((ahT T z 0) 4) ((ahT T z 0) 5) ((ahT T z 0) 6) ((ahT T z 0) 7) ((ahT T z 0) 8) ++ iaX cI (rf 2) 1400 (rmQ (va_up (if st = 14 then shQ Q else Q) (if st = 14 then 13 else st) (qN (T 0 0) (T 0 1) (T 0 2) (T 0 3) (T 0 4) (T 0 5) (T 1) (T 2) (T 3) (T 4) (T 5) (T 6) (T 7) (T 8)))))) := by
  refine ct_in (cc := cX9_addHouse) (maxL := 2) (ret := (some .int)) (own := RX9) (lv := [(0, .ref mr), (1, .int (nI z))]) (by decide +kernel) rfl rfl (Nat.le_of_ble_eq_true rfl) rfl ?_
  intro p e s m args below meth c A ls hx hb hr hml hts hown hlocks hK hA hP hD hS hl
  have hH := hT.1.1
  have hV := hT.1.2
  refine lv_aload_n hx hb dX9_addHouse_0 rfl (lv_at hl 0 rfl) ?_
  refine lv_iconst (v := (nI 0)) hx hb dX9_addHouse_1 (by decide) ?_
  refine pf_n (C := RX9) (T := TX9) (N := 15) (ci := 9) (q0 := 0) (ty := .int) (v := .int (nI 0)) (ws2 := (mX mr rf st ln 0 pl hs vs dg xx ++ qX cI (rf 0) (T 0 0) (T 0 1) (T 0 2) (T 0 3) (T 0 4) (T 0 5) (T 1) (T 2) (T 3) (T 4) (T 5) (T 6) (T 7) (T 8) ++ iaX cI (rf 2) 1400 (rmQ Q))) hx hb hts (iU inlX9) tyX9 tyX9_ok nmX9 hown hK hP hD hS rfl rfl 8 (by decide) (kU u_173) rfl rfl (tyX9_ok 8 (by decide)) rfl rfl (Nat.le_of_ble_eq_true rfl) dX9_addHouse_2 rfl (fun Hp locs hP hD hS => ?_)
  refine lv_iload_n hx hb dX9_addHouse_5 rfl (lv_at hl 1 rfl) ?_
  refine lv_iconst (v := (nI 1)) hx hb dX9_addHouse_6 (by decide) ?_
  refine lv_iconst (v := (nI 4)) hx hb dX9_addHouse_7 (by decide) ?_
  refine gp_S (c_X9_in l D cI cZ cF cL ((nI z)) ((nI 1)) ((nI 4)) ) (gUS u_140 u_141 u_5 u_142) rfl hdS_X9_in ⟨Nat.le_of_ble_eq_true rfl, Nat.le_of_ble_eq_true rfl⟩ ⟨rfl, rfl⟩ hx hb hml hown hts hK hA hP hD hS hl.1 ⟨Nat.le_of_ble_eq_true rfl, Nat.le_of_ble_eq_true rfl⟩ (wr := (mX mr rf st ln 0 pl hs vs dg xx ++ qX cI (rf 0) (T 0 0) (T 0 1) (T 0 2) (T 0 3) (T 0 4) (T 0 5) (T 1) (T 2) (T 3) (T 4) (T 5) (T 6) (T 7) (T 8) ++ iaX cI (rf 2) 1400 (rmQ Q))) (pm_cnt (fun _ => by simp only [List.countP_append, List.countP_nil, fT] <;> omega)) (fun _ => by simp only [List.map_append, List.map_nil, fX_m, bX_m, sX_m, pX_m, iaX_m, r5X_m, r6X_m, fT_m, hX_m, tX_m, xX_m, sgX_m, zaX_m, fsB_a, qX_m, mX_m]) (rest := []) rfl rfl (Nat.le_of_ble_eq_true rfl) dX9_addHouse_8 (ws2 := (fun _ : Unit => (mX mr rf st ln 0 pl hs vs dg xx ++ qX cI (rf 0) (T 0 0) (T 0 1) (T 0 2) (T 0 3) (T 0 4) (T 0 5) (T 1) (T 2) (T 3) (T 4) (T 5) (T 6) (T 7) (T 8) ++ iaX cI (rf 2) 1400 (rmQ Q)))) (fun _ => (pm_cnt (fun _ => by simp only [List.countP_append, List.countP_nil, fT] <;> omega))) (fun _ Hp locs hP hD hS => ?_)
  refine lv_if_ne (tgt := 20) hx hb dX9_addHouse_11 (by decide) (fun c_11 => ?_) (fun c_11 => ?_)
  · skip
    replace c_11 := cb_nz c_11
    refine lv_aload_n hx hb dX9_addHouse_20 rfl (lv_at hl 0 rfl) ?_
    refine gf_n (C := RX9) (T := TX9) (N := 15) (ci := 9) (q0 := 0) (v := .ref (rf 0)) hx hb hts (iU inlX9) hown hK hP rfl rfl 0 (by decide) (kU u_129) rfl rfl dX9_addHouse_21 ?_
    refine lv_iconst (v := (nI 0)) hx hb dX9_addHouse_24 (by decide) ?_
    refine ia_n (q0 := 1) (t0 := 0) hx hb hK hP rfl rfl (by omega) (by decide) dX9_addHouse_25 ?_
    rw [show qN (T 0 0) (T 0 1) (T 0 2) (T 0 3) (T 0 4) (T 0 5) (T 1) (T 2) (T 3) (T 4) (T 5) (T 6) (T 7) (T 8) 0 = (T 0 0) from rfl]
    refine lv_bipush (v := (nI 6)) hx hb dX9_addHouse_26 (by decide) ?_
    refine lv_icmp_ne (tgt := 37) hx hb dX9_addHouse_28 (by decide) (fun c_28 => ?_) (fun c_28 => ?_)
    · skip
      replace c_28 := cn_ne c_28
      refine lv_aload_n hx hb dX9_addHouse_37 rfl (lv_at hl 0 rfl) ?_
      have hP : va_P D vwCl (mX mr rf st ln 0 pl hs vs dg xx ++ iaX cI (rf 0) 100 (qN (T 0 0) (T 0 1) (T 0 2) (T 0 3) (T 0 4) (T 0 5) (T 1) (T 2) (T 3) (T 4) (T 5) (T 6) (T 7) (T 8)) ++ iaX cI (rf 2) 1400 (rmQ Q)) _ := hP
      have hD : va_D A (mX mr rf st ln 0 pl hs vs dg xx ++ iaX cI (rf 0) 100 (qN (T 0 0) (T 0 1) (T 0 2) (T 0 3) (T 0 4) (T 0 5) (T 1) (T 2) (T 3) (T 4) (T 5) (T 6) (T 7) (T 8)) ++ iaX cI (rf 2) 1400 (rmQ Q)) := hD
      refine gp_V (ci := 9) (q0 := 0) (cq := (RX9, TX9, 15)) (c_X9_remember l D cI cZ cF cL mr rf st ln 0 pl hs vs dg xx (qN (T 0 0) (T 0 1) (T 0 2) (T 0 3) (T 0 4) (T 0 5) (T 1) (T 2) (T 3) (T 4) (T 5) (T 6) (T 7) (T 8)) Q hs14) (gUV u_515 u_516 u_517 u_5 u_518) rfl hdV_X9_remember ⟨Nat.le_of_ble_eq_true rfl, Nat.le_of_ble_eq_true rfl⟩ ⟨rfl, rfl⟩ hx hb hml hown hts hK hA hP hD hS hl.1 ⟨Nat.le_of_ble_eq_true rfl, Nat.le_of_ble_eq_true rfl⟩ rfl rfl rfl (wr := ([] : va_W)) (pm_cnt (fun _ => by simp only [List.countP_append, List.countP_nil, fT] <;> omega)) (fun _ => by simp only [List.map_append, List.map_nil, fX_m, bX_m, sX_m, pX_m, iaX_m, r5X_m, r6X_m, fT_m, hX_m, tX_m, xX_m, sgX_m, zaX_m, fsB_a, qX_m, mX_m]) (rest := []) rfl rfl (Nat.le_of_ble_eq_true rfl) dX9_addHouse_38 (ws2 := (fun _ : Unit => (mX mr rf ((if st = 14 then 13 else st) + 1) ln 0 pl hs vs dg xx ++ iaX cI (rf 0) 100 (qN (T 0 0) (T 0 1) (T 0 2) (T 0 3) (T 0 4) (T 0 5) (T 1) (T 2) (T 3) (T 4) (T 5) (T 6) (T 7) (T 8)) ++ iaX cI (rf 2) 1400 (rmQ (va_up (if st = 14 then shQ Q else Q) (if st = 14 then 13 else st) (qN (T 0 0) (T 0 1) (T 0 2) (T 0 3) (T 0 4) (T 0 5) (T 1) (T 2) (T 3) (T 4) (T 5) (T 6) (T 7) (T 8))))))) (fun _ => (pm_cnt (fun _ => by simp only [List.countP_append, List.countP_nil, fT] <;> omega))) (fun _ Hp locs hP hD hS => ?_)
      have hP : va_P D vwCl (mX mr rf ((if st = 14 then 13 else st) + 1) ln 0 pl hs vs dg xx ++ qX cI (rf 0) (T 0 0) (T 0 1) (T 0 2) (T 0 3) (T 0 4) (T 0 5) (T 1) (T 2) (T 3) (T 4) (T 5) (T 6) (T 7) (T 8) ++ iaX cI (rf 2) 1400 (rmQ (va_up (if st = 14 then shQ Q else Q) (if st = 14 then 13 else st) (qN (T 0 0) (T 0 1) (T 0 2) (T 0 3) (T 0 4) (T 0 5) (T 1) (T 2) (T 3) (T 4) (T 5) (T 6) (T 7) (T 8))))) _ := hP
      have hD : va_D A (mX mr rf ((if st = 14 then 13 else st) + 1) ln 0 pl hs vs dg xx ++ qX cI (rf 0) (T 0 0) (T 0 1) (T 0 2) (T 0 3) (T 0 4) (T 0 5) (T 1) (T 2) (T 3) (T 4) (T 5) (T 6) (T 7) (T 8) ++ iaX cI (rf 2) 1400 (rmQ (va_up (if st = 14 then shQ Q else Q) (if st = 14 then 13 else st) (qN (T 0 0) (T 0 1) (T 0 2) (T 0 3) (T 0 4) (T 0 5) (T 1) (T 2) (T 3) (T 4) (T 5) (T 6) (T 7) (T 8))))) := hD
      refine lv_aload_n hx hb dX9_addHouse_41 rfl (lv_at hl 0 rfl) ?_
      refine gf_n (C := RX9) (T := TX9) (N := 15) (ci := 9) (q0 := 0) (v := .ref (rf 0)) hx hb hts (iU inlX9) hown hK hP rfl rfl 0 (by decide) (kU u_129) rfl rfl dX9_addHouse_42 ?_
      refine lv_aload_n hx hb dX9_addHouse_45 rfl (lv_at hl 0 rfl) ?_
      refine gf_n (C := RX9) (T := TX9) (N := 15) (ci := 9) (q0 := 0) (v := .ref (rf 0)) hx hb hts (iU inlX9) hown hK hP rfl rfl 0 (by decide) (kU u_129) rfl rfl dX9_addHouse_46 ?_
      refine lv_iconst (v := (nI 0)) hx hb dX9_addHouse_49 (by decide) ?_
      refine ia_n (q0 := 1) (t0 := 0) hx hb hK hP rfl rfl (by omega) (by decide) dX9_addHouse_50 ?_
      rw [show qN (T 0 0) (T 0 1) (T 0 2) (T 0 3) (T 0 4) (T 0 5) (T 1) (T 2) (T 3) (T 4) (T 5) (T 6) (T 7) (T 8) 0 = (T 0 0) from rfl]
      refine gp_S (c_X9_size l D cI cZ cF cL (T 0 0) ) (gUS u_275 u_276 u_5 u_277) rfl hdS_X9_size ⟨Nat.le_of_ble_eq_true rfl, Nat.le_of_ble_eq_true rfl⟩ ⟨rfl, rfl⟩ hx hb hml hown hts hK hA hP hD hS hl.1 ⟨Nat.le_of_ble_eq_true rfl, Nat.le_of_ble_eq_true rfl⟩ (wr := (mX mr rf ((if st = 14 then 13 else st) + 1) ln 0 pl hs vs dg xx ++ qX cI (rf 0) (T 0 0) (T 0 1) (T 0 2) (T 0 3) (T 0 4) (T 0 5) (T 1) (T 2) (T 3) (T 4) (T 5) (T 6) (T 7) (T 8) ++ iaX cI (rf 2) 1400 (rmQ (va_up (if st = 14 then shQ Q else Q) (if st = 14 then 13 else st) (qN (T 0 0) (T 0 1) (T 0 2) (T 0 3) (T 0 4) (T 0 5) (T 1) (T 2) (T 3) (T 4) (T 5) (T 6) (T 7) (T 8)))))) (pm_cnt (fun _ => by simp only [List.countP_append, List.countP_nil, fT] <;> omega)) (fun _ => by simp only [List.map_append, List.map_nil, fX_m, bX_m, sX_m, pX_m, iaX_m, r5X_m, r6X_m, fT_m, hX_m, tX_m, xX_m, sgX_m, zaX_m, fsB_a, qX_m, mX_m]) (rest := [.ref (rf 0)]) rfl rfl (Nat.le_of_ble_eq_true rfl) dX9_addHouse_51 (ws2 := (fun _ : Unit => (mX mr rf ((if st = 14 then 13 else st) + 1) ln 0 pl hs vs dg xx ++ qX cI (rf 0) (T 0 0) (T 0 1) (T 0 2) (T 0 3) (T 0 4) (T 0 5) (T 1) (T 2) (T 3) (T 4) (T 5) (T 6) (T 7) (T 8) ++ iaX cI (rf 2) 1400 (rmQ (va_up (if st = 14 then shQ Q else Q) (if st = 14 then 13 else st) (qN (T 0 0) (T 0 1) (T 0 2) (T 0 3) (T 0 4) (T 0 5) (T 1) (T 2) (T 3) (T 4) (T 5) (T 6) (T 7) (T 8))))))) (fun _ => (pm_cnt (fun _ => by simp only [List.countP_append, List.countP_nil, fT] <;> omega))) (fun _ Hp locs hP hD hS => ?_)
      refine lv_iload_n hx hb dX9_addHouse_54 rfl (lv_at hl 1 rfl) ?_
      refine is_n (q0 := 1) (t0 := 0) (ws2 := (mX mr rf ((if st = 14 then 13 else st) + 1) ln 0 pl hs vs dg xx ++ qX cI (rf 0) (T 0 0) (T 0 1) (T 0 2) (T 0 3) (T 0 4) (T 0 5) (va_up (T 1) (T 0 0) z) (T 2) (T 3) (T 4) (T 5) (T 6) (T 7) (T 8) ++ iaX cI (rf 2) 1400 (rmQ (va_up (if st = 14 then shQ Q else Q) (if st = 14 then 13 else st) (qN (T 0 0) (T 0 1) (T 0 2) (T 0 3) (T 0 4) (T 0 5) (T 1) (T 2) (T 3) (T 4) (T 5) (T 6) (T 7) (T 8)))))) hx hb hK hP hD hS rfl rfl (by omega) (by decide) dX9_addHouse_55 (by rw [qU_1 (by omega)]; rfl) (fun Hp locs hP hD hS => ?_)
      refine lv_aload_n hx hb dX9_addHouse_56 rfl (lv_at hl 0 rfl) ?_
      refine gf_n (C := RX9) (T := TX9) (N := 15) (ci := 9) (q0 := 0) (v := .ref (rf 0)) hx hb hts (iU inlX9) hown hK hP rfl rfl 0 (by decide) (kU u_129) rfl rfl dX9_addHouse_57 ?_
      refine lv_iconst (v := (nI 0)) hx hb dX9_addHouse_60 (by decide) ?_
      refine lv_dup2_11 hx hb dX9_addHouse_61 rfl rfl ?_
      refine ia_n (q0 := 1) (t0 := 0) hx hb hK hP rfl rfl (by omega) (by decide) dX9_addHouse_62 ?_
      rw [show qN (T 0 0) (T 0 1) (T 0 2) (T 0 3) (T 0 4) (T 0 5) (va_up (T 1) (T 0 0) z) (T 2) (T 3) (T 4) (T 5) (T 6) (T 7) (T 8) 0 = (T 0 0) from rfl]
      refine lv_iconst (v := (nI 1)) hx hb dX9_addHouse_63 (by decide) ?_
      refine lv_iadd hx hb dX9_addHouse_64 ?_
      rw [nI_add (T 0 0) 1]
      refine is_n (q0 := 1) (t0 := 0) (ws2 := (mX mr rf ((if st = 14 then 13 else st) + 1) ln 0 pl hs vs dg xx ++ qX cI (rf 0) ((T 0 0) + 1) (T 0 1) (T 0 2) (T 0 3) (T 0 4) (T 0 5) (va_up (T 1) (T 0 0) z) (T 2) (T 3) (T 4) (T 5) (T 6) (T 7) (T 8) ++ iaX cI (rf 2) 1400 (rmQ (va_up (if st = 14 then shQ Q else Q) (if st = 14 then 13 else st) (qN (T 0 0) (T 0 1) (T 0 2) (T 0 3) (T 0 4) (T 0 5) (T 1) (T 2) (T 3) (T 4) (T 5) (T 6) (T 7) (T 8)))))) hx hb hK hP hD hS rfl rfl (by omega) (by decide) dX9_addHouse_65 (by rw [qU_01]; rfl) (fun Hp locs hP hD hS => ?_)
      obtain ⟨hP, hD⟩ := cg_n (g := nF (qN ((ahT T z 0) 0 0) ((ahT T z 0) 0 1) ((ahT T z 0) 0 2) ((ahT T z 0) 0 3) ((ahT T z 0) 0 4) ((ahT T z 0) 0 5) ((ahT T z 0) 1) ((ahT T z 0) 2) ((ahT T z 0) 3) ((ahT T z 0) 4) ((ahT T z 0) 5) ((ahT T z 0) 6) ((ahT T z 0) 7) ((ahT T z 0) 8))) (ws2 := (mX mr rf ((if st = 14 then 13 else st) + 1) ln 0 pl hs vs dg xx ++ qX cI (rf 0) ((ahT T z 0) 0 0) ((ahT T z 0) 0 1) ((ahT T z 0) 0 2) ((ahT T z 0) 0 3) ((ahT T z 0) 0 4) ((ahT T z 0) 0 5) ((ahT T z 0) 1) ((ahT T z 0) 2) ((ahT T z 0) 3) ((ahT T z 0) 4) ((ahT T z 0) 5) ((ahT T z 0) 6) ((ahT T z 0) 7) ((ahT T z 0) 8) ++ iaX cI (rf 2) 1400 (rmQ (va_up (if st = 14 then shQ Q else Q) (if st = 14 then 13 else st) (qN (T 0 0) (T 0 1) (T 0 2) (T 0 3) (T 0 4) (T 0 5) (T 1) (T 2) (T 3) (T 4) (T 5) (T 6) (T 7) (T 8)))))) hP hD 1 rfl (fun j hj => congrArg nI (qN_cg rfl rfl rfl rfl rfl rfl (fun _ _ => rfl) (fun k hk => (up_all (P := fun y => T 2 k = y) (fun e => by rw [e]; exact ((hT.2.1 (T 0 0) hH6).2.2.2.2.2 (Nat.le_refl _)).1) (fun _ => rfl))) (fun _ _ => rfl) (fun _ _ => rfl) (fun _ _ => rfl) (fun _ _ => rfl) (fun _ _ => rfl) (fun _ _ => rfl) j hj)) rfl
      refine lv_aload_n hx hb dX9_addHouse_66 rfl (lv_at hl 0 rfl) ?_
      refine gf_n (C := RX9) (T := TX9) (N := 15) (ci := 9) (q0 := 0) (v := .ref (rf 0)) hx hb hts (iU inlX9) hown hK hP rfl rfl 0 (by decide) (kU u_129) rfl rfl dX9_addHouse_67 ?_
      refine lv_iconst (v := (nI 0)) hx hb dX9_addHouse_70 (by decide) ?_
      refine ia_n (q0 := 1) (t0 := 0) hx hb hK hP rfl rfl (by omega) (by decide) dX9_addHouse_71 ?_
      rw [show qN ((ahT T z 0) 0 0) ((ahT T z 0) 0 1) ((ahT T z 0) 0 2) ((ahT T z 0) 0 3) ((ahT T z 0) 0 4) ((ahT T z 0) 0 5) ((ahT T z 0) 1) ((ahT T z 0) 2) ((ahT T z 0) 3) ((ahT T z 0) 4) ((ahT T z 0) 5) ((ahT T z 0) 6) ((ahT T z 0) 7) ((ahT T z 0) 8) 0 = ((ahT T z 0) 0 0) from rfl]
      rw [show (nI ((ahT T z 0) 0 0)) = (nI (T 0 0 + 1)) from rfl]
      refine lv_iconst (v := (nI 1)) hx hb dX9_addHouse_72 (by decide) ?_
      refine lv_isub hx hb dX9_addHouse_73 ?_
      rw [pk_sub (a := T 0 0 + 1) (b := 1) (by omega)]
      exact ct_i () hx hb hr hlocks hP hS (congrArg nI (Nat.add_sub_cancel _ _)) dX9_addHouse_74
    · skip
      replace c_28 := cn_eq (by omega) (by omega) c_28
      (exfalso; omega)
  · skip
    replace c_11 := cb_z c_11
    (exact absurd ((in_n (by omega) (by decide) (by decide)).mpr ⟨by omega, by omega⟩) c_11)
set_option maxHeartbeats 4000000 in
set_option maxRecDepth 100000 in
theorem c_X9_addVegetable (l : Launch) (D : va_G) (cI cZ cF cL : ClassId) (mr : Nat) (rf : Nat → Nat) (st ln th pl hs vs : Nat) (dg : Int32) (xx : Int64) (T : Nat → Nat → Nat) (Q : Nat → Nat → Nat) (z : Nat) (hT : FI T) (hs14 : st ≤ 14) (hz : z ≤ 40) (hV5 : T 0 1 < 5) : CT l D (tysX cI cZ cF cL) yX9_addVegetable (wA yX9_addVegetable cX9_addVegetable 2 (some .int)) (rmF 1 22) [.ref mr, .int (nI z)] (mX mr rf st ln th pl hs vs dg xx ++ qX cI (rf 0) (T 0 0) (T 0 1) (T 0 2) (T 0 3) (T 0 4) (T 0 5) (T 1) (T 2) (T 3) (T 4) (T 5) (T 6) (T 7) (T 8) ++ iaX cI (rf 2) 1400 (rmQ Q)) (some (.int (nI (T 0 1)))) (fun _ : Unit => (mX mr rf ((if st = 14 then 13 else st) + 1) ln 0 pl hs vs dg xx ++ qX cI (rf 0) ((avT T z) 0 0) ((avT T z) 0 1) ((avT T z) 0 2) ((avT T z) 0 3) ((avT T z) 0 4) ((avT T z) 0 5) ((avT T z) 1) ((avT T z) 2) ((avT T z) 3) ((avT T z) 4) ((avT T z) 5) ((avT T z) 6) ((avT T z) 7) ((avT T z) 8) ++ iaX cI (rf 2) 1400 (rmQ (va_up (if st = 14 then shQ Q else Q) (if st = 14 then 13 else st) (qN (T 0 0) (T 0 1) (T 0 2) (T 0 3) (T 0 4) (T 0 5) (T 1) (T 2) (T 3) (T 4) (T 5) (T 6) (T 7) (T 8)))))) := by
  refine ct_in (cc := cX9_addVegetable) (maxL := 2) (ret := (some .int)) (own := RX9) (lv := [(0, .ref mr), (1, .int (nI z))]) (by decide +kernel) rfl rfl (Nat.le_of_ble_eq_true rfl) rfl ?_
  intro p e s m args below meth c A ls hx hb hr hml hts hown hlocks hK hA hP hD hS hl
  have hH := hT.1.1
  have hV := hT.1.2
  refine lv_aload_n hx hb dX9_addVegetable_0 rfl (lv_at hl 0 rfl) ?_
  refine lv_iconst (v := (nI 0)) hx hb dX9_addVegetable_1 (by decide) ?_
  refine pf_n (C := RX9) (T := TX9) (N := 15) (ci := 9) (q0 := 0) (ty := .int) (v := .int (nI 0)) (ws2 := (mX mr rf st ln 0 pl hs vs dg xx ++ qX cI (rf 0) (T 0 0) (T 0 1) (T 0 2) (T 0 3) (T 0 4) (T 0 5) (T 1) (T 2) (T 3) (T 4) (T 5) (T 6) (T 7) (T 8) ++ iaX cI (rf 2) 1400 (rmQ Q))) hx hb hts (iU inlX9) tyX9 tyX9_ok nmX9 hown hK hP hD hS rfl rfl 8 (by decide) (kU u_173) rfl rfl (tyX9_ok 8 (by decide)) rfl rfl (Nat.le_of_ble_eq_true rfl) dX9_addVegetable_2 rfl (fun Hp locs hP hD hS => ?_)
  refine lv_iload_n hx hb dX9_addVegetable_5 rfl (lv_at hl 1 rfl) ?_
  refine lv_iconst (v := (nI 0)) hx hb dX9_addVegetable_6 (by decide) ?_
  refine lv_bipush (v := (nI 40)) hx hb dX9_addVegetable_7 (by decide) ?_
  refine gp_S (c_X9_in l D cI cZ cF cL ((nI z)) ((nI 0)) ((nI 40)) ) (gUS u_140 u_141 u_5 u_142) rfl hdS_X9_in ⟨Nat.le_of_ble_eq_true rfl, Nat.le_of_ble_eq_true rfl⟩ ⟨rfl, rfl⟩ hx hb hml hown hts hK hA hP hD hS hl.1 ⟨Nat.le_of_ble_eq_true rfl, Nat.le_of_ble_eq_true rfl⟩ (wr := (mX mr rf st ln 0 pl hs vs dg xx ++ qX cI (rf 0) (T 0 0) (T 0 1) (T 0 2) (T 0 3) (T 0 4) (T 0 5) (T 1) (T 2) (T 3) (T 4) (T 5) (T 6) (T 7) (T 8) ++ iaX cI (rf 2) 1400 (rmQ Q))) (pm_cnt (fun _ => by simp only [List.countP_append, List.countP_nil, fT] <;> omega)) (fun _ => by simp only [List.map_append, List.map_nil, fX_m, bX_m, sX_m, pX_m, iaX_m, r5X_m, r6X_m, fT_m, hX_m, tX_m, xX_m, sgX_m, zaX_m, fsB_a, qX_m, mX_m]) (rest := []) rfl rfl (Nat.le_of_ble_eq_true rfl) dX9_addVegetable_9 (ws2 := (fun _ : Unit => (mX mr rf st ln 0 pl hs vs dg xx ++ qX cI (rf 0) (T 0 0) (T 0 1) (T 0 2) (T 0 3) (T 0 4) (T 0 5) (T 1) (T 2) (T 3) (T 4) (T 5) (T 6) (T 7) (T 8) ++ iaX cI (rf 2) 1400 (rmQ Q)))) (fun _ => (pm_cnt (fun _ => by simp only [List.countP_append, List.countP_nil, fT] <;> omega))) (fun _ Hp locs hP hD hS => ?_)
  refine lv_if_ne (tgt := 21) hx hb dX9_addVegetable_12 (by decide) (fun c_12 => ?_) (fun c_12 => ?_)
  · skip
    replace c_12 := cb_nz c_12
    refine lv_aload_n hx hb dX9_addVegetable_21 rfl (lv_at hl 0 rfl) ?_
    refine gf_n (C := RX9) (T := TX9) (N := 15) (ci := 9) (q0 := 0) (v := .ref (rf 0)) hx hb hts (iU inlX9) hown hK hP rfl rfl 0 (by decide) (kU u_129) rfl rfl dX9_addVegetable_22 ?_
    refine lv_iconst (v := (nI 1)) hx hb dX9_addVegetable_25 (by decide) ?_
    refine ia_n (q0 := 1) (t0 := 0) hx hb hK hP rfl rfl (by omega) (by decide) dX9_addVegetable_26 ?_
    rw [show qN (T 0 0) (T 0 1) (T 0 2) (T 0 3) (T 0 4) (T 0 5) (T 1) (T 2) (T 3) (T 4) (T 5) (T 6) (T 7) (T 8) 1 = (T 0 1) from rfl]
    refine lv_iconst (v := (nI 5)) hx hb dX9_addVegetable_27 (by decide) ?_
    refine lv_icmp_ne (tgt := 37) hx hb dX9_addVegetable_28 (by decide) (fun c_28 => ?_) (fun c_28 => ?_)
    · skip
      replace c_28 := cn_ne c_28
      refine lv_aload_n hx hb dX9_addVegetable_37 rfl (lv_at hl 0 rfl) ?_
      have hP : va_P D vwCl (mX mr rf st ln 0 pl hs vs dg xx ++ iaX cI (rf 0) 100 (qN (T 0 0) (T 0 1) (T 0 2) (T 0 3) (T 0 4) (T 0 5) (T 1) (T 2) (T 3) (T 4) (T 5) (T 6) (T 7) (T 8)) ++ iaX cI (rf 2) 1400 (rmQ Q)) _ := hP
      have hD : va_D A (mX mr rf st ln 0 pl hs vs dg xx ++ iaX cI (rf 0) 100 (qN (T 0 0) (T 0 1) (T 0 2) (T 0 3) (T 0 4) (T 0 5) (T 1) (T 2) (T 3) (T 4) (T 5) (T 6) (T 7) (T 8)) ++ iaX cI (rf 2) 1400 (rmQ Q)) := hD
      refine gp_V (ci := 9) (q0 := 0) (cq := (RX9, TX9, 15)) (c_X9_remember l D cI cZ cF cL mr rf st ln 0 pl hs vs dg xx (qN (T 0 0) (T 0 1) (T 0 2) (T 0 3) (T 0 4) (T 0 5) (T 1) (T 2) (T 3) (T 4) (T 5) (T 6) (T 7) (T 8)) Q hs14) (gUV u_515 u_516 u_517 u_5 u_518) rfl hdV_X9_remember ⟨Nat.le_of_ble_eq_true rfl, Nat.le_of_ble_eq_true rfl⟩ ⟨rfl, rfl⟩ hx hb hml hown hts hK hA hP hD hS hl.1 ⟨Nat.le_of_ble_eq_true rfl, Nat.le_of_ble_eq_true rfl⟩ rfl rfl rfl (wr := ([] : va_W)) (pm_cnt (fun _ => by simp only [List.countP_append, List.countP_nil, fT] <;> omega)) (fun _ => by simp only [List.map_append, List.map_nil, fX_m, bX_m, sX_m, pX_m, iaX_m, r5X_m, r6X_m, fT_m, hX_m, tX_m, xX_m, sgX_m, zaX_m, fsB_a, qX_m, mX_m]) (rest := []) rfl rfl (Nat.le_of_ble_eq_true rfl) dX9_addVegetable_38 (ws2 := (fun _ : Unit => (mX mr rf ((if st = 14 then 13 else st) + 1) ln 0 pl hs vs dg xx ++ iaX cI (rf 0) 100 (qN (T 0 0) (T 0 1) (T 0 2) (T 0 3) (T 0 4) (T 0 5) (T 1) (T 2) (T 3) (T 4) (T 5) (T 6) (T 7) (T 8)) ++ iaX cI (rf 2) 1400 (rmQ (va_up (if st = 14 then shQ Q else Q) (if st = 14 then 13 else st) (qN (T 0 0) (T 0 1) (T 0 2) (T 0 3) (T 0 4) (T 0 5) (T 1) (T 2) (T 3) (T 4) (T 5) (T 6) (T 7) (T 8))))))) (fun _ => (pm_cnt (fun _ => by simp only [List.countP_append, List.countP_nil, fT] <;> omega))) (fun _ Hp locs hP hD hS => ?_)
      have hP : va_P D vwCl (mX mr rf ((if st = 14 then 13 else st) + 1) ln 0 pl hs vs dg xx ++ qX cI (rf 0) (T 0 0) (T 0 1) (T 0 2) (T 0 3) (T 0 4) (T 0 5) (T 1) (T 2) (T 3) (T 4) (T 5) (T 6) (T 7) (T 8) ++ iaX cI (rf 2) 1400 (rmQ (va_up (if st = 14 then shQ Q else Q) (if st = 14 then 13 else st) (qN (T 0 0) (T 0 1) (T 0 2) (T 0 3) (T 0 4) (T 0 5) (T 1) (T 2) (T 3) (T 4) (T 5) (T 6) (T 7) (T 8))))) _ := hP
      have hD : va_D A (mX mr rf ((if st = 14 then 13 else st) + 1) ln 0 pl hs vs dg xx ++ qX cI (rf 0) (T 0 0) (T 0 1) (T 0 2) (T 0 3) (T 0 4) (T 0 5) (T 1) (T 2) (T 3) (T 4) (T 5) (T 6) (T 7) (T 8) ++ iaX cI (rf 2) 1400 (rmQ (va_up (if st = 14 then shQ Q else Q) (if st = 14 then 13 else st) (qN (T 0 0) (T 0 1) (T 0 2) (T 0 3) (T 0 4) (T 0 5) (T 1) (T 2) (T 3) (T 4) (T 5) (T 6) (T 7) (T 8))))) := hD
      refine lv_aload_n hx hb dX9_addVegetable_41 rfl (lv_at hl 0 rfl) ?_
      refine gf_n (C := RX9) (T := TX9) (N := 15) (ci := 9) (q0 := 0) (v := .ref (rf 0)) hx hb hts (iU inlX9) hown hK hP rfl rfl 0 (by decide) (kU u_129) rfl rfl dX9_addVegetable_42 ?_
      refine lv_aload_n hx hb dX9_addVegetable_45 rfl (lv_at hl 0 rfl) ?_
      refine gf_n (C := RX9) (T := TX9) (N := 15) (ci := 9) (q0 := 0) (v := .ref (rf 0)) hx hb hts (iU inlX9) hown hK hP rfl rfl 0 (by decide) (kU u_129) rfl rfl dX9_addVegetable_46 ?_
      refine lv_iconst (v := (nI 1)) hx hb dX9_addVegetable_49 (by decide) ?_
      refine ia_n (q0 := 1) (t0 := 0) hx hb hK hP rfl rfl (by omega) (by decide) dX9_addVegetable_50 ?_
      rw [show qN (T 0 0) (T 0 1) (T 0 2) (T 0 3) (T 0 4) (T 0 5) (T 1) (T 2) (T 3) (T 4) (T 5) (T 6) (T 7) (T 8) 1 = (T 0 1) from rfl]
      refine gp_S (c_X9_harvest l D cI cZ cF cL (T 0 1) ) (gUS u_278 u_279 u_5 u_280) rfl hdS_X9_harvest ⟨Nat.le_of_ble_eq_true rfl, Nat.le_of_ble_eq_true rfl⟩ ⟨rfl, rfl⟩ hx hb hml hown hts hK hA hP hD hS hl.1 ⟨Nat.le_of_ble_eq_true rfl, Nat.le_of_ble_eq_true rfl⟩ (wr := (mX mr rf ((if st = 14 then 13 else st) + 1) ln 0 pl hs vs dg xx ++ qX cI (rf 0) (T 0 0) (T 0 1) (T 0 2) (T 0 3) (T 0 4) (T 0 5) (T 1) (T 2) (T 3) (T 4) (T 5) (T 6) (T 7) (T 8) ++ iaX cI (rf 2) 1400 (rmQ (va_up (if st = 14 then shQ Q else Q) (if st = 14 then 13 else st) (qN (T 0 0) (T 0 1) (T 0 2) (T 0 3) (T 0 4) (T 0 5) (T 1) (T 2) (T 3) (T 4) (T 5) (T 6) (T 7) (T 8)))))) (pm_cnt (fun _ => by simp only [List.countP_append, List.countP_nil, fT] <;> omega)) (fun _ => by simp only [List.map_append, List.map_nil, fX_m, bX_m, sX_m, pX_m, iaX_m, r5X_m, r6X_m, fT_m, hX_m, tX_m, xX_m, sgX_m, zaX_m, fsB_a, qX_m, mX_m]) (rest := [.ref (rf 0)]) rfl rfl (Nat.le_of_ble_eq_true rfl) dX9_addVegetable_51 (ws2 := (fun _ : Unit => (mX mr rf ((if st = 14 then 13 else st) + 1) ln 0 pl hs vs dg xx ++ qX cI (rf 0) (T 0 0) (T 0 1) (T 0 2) (T 0 3) (T 0 4) (T 0 5) (T 1) (T 2) (T 3) (T 4) (T 5) (T 6) (T 7) (T 8) ++ iaX cI (rf 2) 1400 (rmQ (va_up (if st = 14 then shQ Q else Q) (if st = 14 then 13 else st) (qN (T 0 0) (T 0 1) (T 0 2) (T 0 3) (T 0 4) (T 0 5) (T 1) (T 2) (T 3) (T 4) (T 5) (T 6) (T 7) (T 8))))))) (fun _ => (pm_cnt (fun _ => by simp only [List.countP_append, List.countP_nil, fT] <;> omega))) (fun _ Hp locs hP hD hS => ?_)
      refine lv_iload_n hx hb dX9_addVegetable_54 rfl (lv_at hl 1 rfl) ?_
      refine is_n (q0 := 1) (t0 := 0) (ws2 := (mX mr rf ((if st = 14 then 13 else st) + 1) ln 0 pl hs vs dg xx ++ qX cI (rf 0) (T 0 0) (T 0 1) (T 0 2) (T 0 3) (T 0 4) (T 0 5) (T 1) (T 2) (T 3) (T 4) (va_up (T 5) (T 0 1) z) (T 6) (T 7) (T 8) ++ iaX cI (rf 2) 1400 (rmQ (va_up (if st = 14 then shQ Q else Q) (if st = 14 then 13 else st) (qN (T 0 0) (T 0 1) (T 0 2) (T 0 3) (T 0 4) (T 0 5) (T 1) (T 2) (T 3) (T 4) (T 5) (T 6) (T 7) (T 8)))))) hx hb hK hP hD hS rfl rfl (by omega) (by decide) dX9_addVegetable_55 (by rw [qU_5 (by omega)]; rfl) (fun Hp locs hP hD hS => ?_)
      refine lv_aload_n hx hb dX9_addVegetable_56 rfl (lv_at hl 0 rfl) ?_
      refine gf_n (C := RX9) (T := TX9) (N := 15) (ci := 9) (q0 := 0) (v := .ref (rf 0)) hx hb hts (iU inlX9) hown hK hP rfl rfl 0 (by decide) (kU u_129) rfl rfl dX9_addVegetable_57 ?_
      refine lv_iconst (v := (nI 1)) hx hb dX9_addVegetable_60 (by decide) ?_
      refine lv_dup2_11 hx hb dX9_addVegetable_61 rfl rfl ?_
      refine ia_n (q0 := 1) (t0 := 0) hx hb hK hP rfl rfl (by omega) (by decide) dX9_addVegetable_62 ?_
      rw [show qN (T 0 0) (T 0 1) (T 0 2) (T 0 3) (T 0 4) (T 0 5) (T 1) (T 2) (T 3) (T 4) (va_up (T 5) (T 0 1) z) (T 6) (T 7) (T 8) 1 = (T 0 1) from rfl]
      refine lv_iconst (v := (nI 1)) hx hb dX9_addVegetable_63 (by decide) ?_
      refine lv_iadd hx hb dX9_addVegetable_64 ?_
      rw [nI_add (T 0 1) 1]
      refine is_n (q0 := 1) (t0 := 0) (ws2 := (mX mr rf ((if st = 14 then 13 else st) + 1) ln 0 pl hs vs dg xx ++ qX cI (rf 0) (T 0 0) ((T 0 1) + 1) (T 0 2) (T 0 3) (T 0 4) (T 0 5) (T 1) (T 2) (T 3) (T 4) (va_up (T 5) (T 0 1) z) (T 6) (T 7) (T 8) ++ iaX cI (rf 2) 1400 (rmQ (va_up (if st = 14 then shQ Q else Q) (if st = 14 then 13 else st) (qN (T 0 0) (T 0 1) (T 0 2) (T 0 3) (T 0 4) (T 0 5) (T 1) (T 2) (T 3) (T 4) (T 5) (T 6) (T 7) (T 8)))))) hx hb hK hP hD hS rfl rfl (by omega) (by decide) dX9_addVegetable_65 (by rw [qU_02]; rfl) (fun Hp locs hP hD hS => ?_)
      refine lv_aload_n hx hb dX9_addVegetable_66 rfl (lv_at hl 0 rfl) ?_
      refine gf_n (C := RX9) (T := TX9) (N := 15) (ci := 9) (q0 := 0) (v := .ref (rf 0)) hx hb hts (iU inlX9) hown hK hP rfl rfl 0 (by decide) (kU u_129) rfl rfl dX9_addVegetable_67 ?_
      refine lv_iconst (v := (nI 1)) hx hb dX9_addVegetable_70 (by decide) ?_
      refine ia_n (q0 := 1) (t0 := 0) hx hb hK hP rfl rfl (by omega) (by decide) dX9_addVegetable_71 ?_
      rw [show qN (T 0 0) ((T 0 1) + 1) (T 0 2) (T 0 3) (T 0 4) (T 0 5) (T 1) (T 2) (T 3) (T 4) (va_up (T 5) (T 0 1) z) (T 6) (T 7) (T 8) 1 = ((T 0 1) + 1) from rfl]
      refine lv_iconst (v := (nI 1)) hx hb dX9_addVegetable_72 (by decide) ?_
      refine lv_isub hx hb dX9_addVegetable_73 ?_
      rw [pk_sub (a := (T 0 1) + 1) (b := 1) (by omega)]
      have hP : va_P D vwCl (mX mr rf ((if st = 14 then 13 else st) + 1) ln 0 pl hs vs dg xx ++ qX cI (rf 0) ((avT T z) 0 0) ((avT T z) 0 1) ((avT T z) 0 2) ((avT T z) 0 3) ((avT T z) 0 4) ((avT T z) 0 5) ((avT T z) 1) ((avT T z) 2) ((avT T z) 3) ((avT T z) 4) ((avT T z) 5) ((avT T z) 6) ((avT T z) 7) ((avT T z) 8) ++ iaX cI (rf 2) 1400 (rmQ (va_up (if st = 14 then shQ Q else Q) (if st = 14 then 13 else st) (qN (T 0 0) (T 0 1) (T 0 2) (T 0 3) (T 0 4) (T 0 5) (T 1) (T 2) (T 3) (T 4) (T 5) (T 6) (T 7) (T 8))))) Hp := hP
      have hD : va_D A (mX mr rf ((if st = 14 then 13 else st) + 1) ln 0 pl hs vs dg xx ++ qX cI (rf 0) ((avT T z) 0 0) ((avT T z) 0 1) ((avT T z) 0 2) ((avT T z) 0 3) ((avT T z) 0 4) ((avT T z) 0 5) ((avT T z) 1) ((avT T z) 2) ((avT T z) 3) ((avT T z) 4) ((avT T z) 5) ((avT T z) 6) ((avT T z) 7) ((avT T z) 8) ++ iaX cI (rf 2) 1400 (rmQ (va_up (if st = 14 then shQ Q else Q) (if st = 14 then 13 else st) (qN (T 0 0) (T 0 1) (T 0 2) (T 0 3) (T 0 4) (T 0 5) (T 1) (T 2) (T 3) (T 4) (T 5) (T 6) (T 7) (T 8))))) := hD
      exact ct_i () hx hb hr hlocks hP hS (congrArg nI (Nat.add_sub_cancel _ _)) dX9_addVegetable_74
    · skip
      replace c_28 := cn_eq (by omega) (by omega) c_28
      (exfalso; omega)
  · skip
    replace c_12 := cb_z c_12
    (exact absurd ((in_n (by omega) (by decide) (by decide)).mpr ⟨by omega, by omega⟩) c_12)
set_option maxRecDepth 20000 in
theorem u_545 : Cond.code yX9_puts cX9_puts 4 (some .int) ∈ wsL_law := List.mem_of_getElem? (i := 545) (by decide +kernel)
set_option maxRecDepth 20000 in
theorem u_542 : Cond.methodLink RX9 138 yX9_puts ∈ wsL_law := List.mem_of_getElem? (i := 542) (by decide +kernel)
set_option maxRecDepth 20000 in
theorem u_543 : Cond.instanceMethod yX9_puts ∈ wsL_law := List.mem_of_getElem? (i := 543) (by decide +kernel)
set_option maxRecDepth 20000 in
theorem u_544 : Cond.selects RX9 yX9_puts yX9_puts ∈ wsL_law := List.mem_of_getElem? (i := 544) (by decide +kernel)
theorem hdV_X9_puts : yX9_puts.cls = RX9 ∧ yX9_puts.cls ≠ "java/lang/invoke/MethodHandle" ∧ yX9_puts.cls ≠ "java/lang/invoke/VarHandle" ∧ (parseMethodDescriptor yX9_puts.desc).map (fun d => d.parameters.length) = some 2 := by decide +kernel
set_option maxHeartbeats 4000000 in
set_option maxRecDepth 100000 in
theorem c_X9_setHarvest (l : Launch) (D : va_G) (cI cZ cF cL : ClassId) (mr : Nat) (rf : Nat → Nat) (st ln th pl hs vs : Nat) (dg : Int32) (xx : Int64) (T : Nat → Nat → Nat) (Q : Nat → Nat → Nat) (v n : Nat) (hT : FI T) (hs14 : st ≤ 14) (hv : v < T 0 1) (hn40 : n ≤ 40) : CT l D (tysX cI cZ cF cL) yX9_setHarvest (wA yX9_setHarvest cX9_setHarvest 3 (some .int)) (rmF 2 43) [.ref mr, .int (nI v), .int (nI n)] (mX mr rf st ln th pl hs vs dg xx ++ qX cI (rf 0) (T 0 0) (T 0 1) (T 0 2) (T 0 3) (T 0 4) (T 0 5) (T 1) (T 2) (T 3) (T 4) (T 5) (T 6) (T 7) (T 8) ++ iaX cI (rf 2) 1400 (rmQ Q)) (some (.int (nI (T 5 v)))) (fun _ : Unit => (mX mr rf ((if st = 14 then 13 else st) + 1) ln 0 pl hs vs dg xx ++ qX cI (rf 0) ((hvT T v n) 0 0) ((hvT T v n) 0 1) ((hvT T v n) 0 2) ((hvT T v n) 0 3) ((hvT T v n) 0 4) ((hvT T v n) 0 5) ((hvT T v n) 1) ((hvT T v n) 2) ((hvT T v n) 3) ((hvT T v n) 4) ((hvT T v n) 5) ((hvT T v n) 6) ((hvT T v n) 7) ((hvT T v n) 8) ++ iaX cI (rf 2) 1400 (rmQ (va_up (if st = 14 then shQ Q else Q) (if st = 14 then 13 else st) (qN (T 0 0) (T 0 1) (T 0 2) (T 0 3) (T 0 4) (T 0 5) (T 1) (T 2) (T 3) (T 4) (T 5) (T 6) (T 7) (T 8)))))) := by
  refine ct_in (cc := cX9_setHarvest) (maxL := 3) (ret := (some .int)) (own := RX9) (lv := [(0, .ref mr), (1, .int (nI v)), (2, .int (nI n))]) (by decide +kernel) rfl rfl (Nat.le_of_ble_eq_true rfl) rfl ?_
  intro p e s m args below meth c A ls hx hb hr hml hts hown hlocks hK hA hP hD hS hl
  have hH := hT.1.1
  have hV := hT.1.2
  refine lv_aload_n hx hb dX9_setHarvest_0 rfl (lv_at hl 0 rfl) ?_
  refine lv_iconst (v := (nI 0)) hx hb dX9_setHarvest_1 (by decide) ?_
  refine pf_n (C := RX9) (T := TX9) (N := 15) (ci := 9) (q0 := 0) (ty := .int) (v := .int (nI 0)) (ws2 := (mX mr rf st ln 0 pl hs vs dg xx ++ qX cI (rf 0) (T 0 0) (T 0 1) (T 0 2) (T 0 3) (T 0 4) (T 0 5) (T 1) (T 2) (T 3) (T 4) (T 5) (T 6) (T 7) (T 8) ++ iaX cI (rf 2) 1400 (rmQ Q))) hx hb hts (iU inlX9) tyX9 tyX9_ok nmX9 hown hK hP hD hS rfl rfl 8 (by decide) (kU u_173) rfl rfl (tyX9_ok 8 (by decide)) rfl rfl (Nat.le_of_ble_eq_true rfl) dX9_setHarvest_2 rfl (fun Hp locs hP hD hS => ?_)
  refine lv_aload_n hx hb dX9_setHarvest_5 rfl (lv_at hl 0 rfl) ?_
  refine lv_iload_n hx hb dX9_setHarvest_6 rfl (lv_at hl 1 rfl) ?_
  refine gp_V (ci := 9) (q0 := 0) (cq := (RX9, TX9, 15)) (c_X9_isVegetable l D cI cZ cF cL mr rf st ln 0 pl hs vs dg xx (T 0 0) (T 0 1) (T 0 2) (T 0 3) (T 0 4) (T 0 5) (T 1) (T 2) (T 3) (T 4) (T 5) (T 6) (T 7) (T 8) ((nI v)) (by omega) (by omega)) (gUV u_450 u_451 u_452 u_5 u_453) rfl hdV_X9_isVegetable ⟨Nat.le_of_ble_eq_true rfl, Nat.le_of_ble_eq_true rfl⟩ ⟨rfl, rfl⟩ hx hb hml hown hts hK hA hP hD hS hl.1 ⟨Nat.le_of_ble_eq_true rfl, Nat.le_of_ble_eq_true rfl⟩ rfl rfl rfl (wr := (iaX cI (rf 2) 1400 (rmQ Q))) (pm_cnt (fun _ => by simp only [List.countP_append, List.countP_nil, fT] <;> omega)) (fun _ => by simp only [List.map_append, List.map_nil, fX_m, bX_m, sX_m, pX_m, iaX_m, r5X_m, r6X_m, fT_m, hX_m, tX_m, xX_m, sgX_m, zaX_m, fsB_a, qX_m, mX_m]) (rest := []) rfl rfl (Nat.le_of_ble_eq_true rfl) dX9_setHarvest_7 (ws2 := (fun _ : Unit => (mX mr rf st ln 0 pl hs vs dg xx ++ qX cI (rf 0) (T 0 0) (T 0 1) (T 0 2) (T 0 3) (T 0 4) (T 0 5) (T 1) (T 2) (T 3) (T 4) (T 5) (T 6) (T 7) (T 8) ++ iaX cI (rf 2) 1400 (rmQ Q)))) (fun _ => (pm_cnt (fun _ => by simp only [List.countP_append, List.countP_nil, fT] <;> omega))) (fun _ Hp locs hP hD hS => ?_)
  refine lv_if_ne (tgt := 19) hx hb dX9_setHarvest_10 (by decide) (fun c_10 => ?_) (fun c_10 => ?_)
  · skip
    replace c_10 := cb_nz c_10
    refine lv_iload_n hx hb dX9_setHarvest_19 rfl (lv_at hl 2 rfl) ?_
    refine lv_iconst (v := (nI 0)) hx hb dX9_setHarvest_20 (by decide) ?_
    refine lv_bipush (v := (nI 40)) hx hb dX9_setHarvest_21 (by decide) ?_
    refine gp_S (c_X9_in l D cI cZ cF cL ((nI n)) ((nI 0)) ((nI 40)) ) (gUS u_140 u_141 u_5 u_142) rfl hdS_X9_in ⟨Nat.le_of_ble_eq_true rfl, Nat.le_of_ble_eq_true rfl⟩ ⟨rfl, rfl⟩ hx hb hml hown hts hK hA hP hD hS hl.1 ⟨Nat.le_of_ble_eq_true rfl, Nat.le_of_ble_eq_true rfl⟩ (wr := (mX mr rf st ln 0 pl hs vs dg xx ++ qX cI (rf 0) (T 0 0) (T 0 1) (T 0 2) (T 0 3) (T 0 4) (T 0 5) (T 1) (T 2) (T 3) (T 4) (T 5) (T 6) (T 7) (T 8) ++ iaX cI (rf 2) 1400 (rmQ Q))) (pm_cnt (fun _ => by simp only [List.countP_append, List.countP_nil, fT] <;> omega)) (fun _ => by simp only [List.map_append, List.map_nil, fX_m, bX_m, sX_m, pX_m, iaX_m, r5X_m, r6X_m, fT_m, hX_m, tX_m, xX_m, sgX_m, zaX_m, fsB_a, qX_m, mX_m]) (rest := []) rfl rfl (Nat.le_of_ble_eq_true rfl) dX9_setHarvest_23 (ws2 := (fun _ : Unit => (mX mr rf st ln 0 pl hs vs dg xx ++ qX cI (rf 0) (T 0 0) (T 0 1) (T 0 2) (T 0 3) (T 0 4) (T 0 5) (T 1) (T 2) (T 3) (T 4) (T 5) (T 6) (T 7) (T 8) ++ iaX cI (rf 2) 1400 (rmQ Q)))) (fun _ => (pm_cnt (fun _ => by simp only [List.countP_append, List.countP_nil, fT] <;> omega))) (fun _ Hp locs hP hD hS => ?_)
    refine lv_if_ne (tgt := 35) hx hb dX9_setHarvest_26 (by decide) (fun c_26 => ?_) (fun c_26 => ?_)
    · skip
      replace c_26 := cb_nz c_26
      refine lv_aload_n hx hb dX9_setHarvest_35 rfl (lv_at hl 0 rfl) ?_
      have hP : va_P D vwCl (mX mr rf st ln 0 pl hs vs dg xx ++ iaX cI (rf 0) 100 (qN (T 0 0) (T 0 1) (T 0 2) (T 0 3) (T 0 4) (T 0 5) (T 1) (T 2) (T 3) (T 4) (T 5) (T 6) (T 7) (T 8)) ++ iaX cI (rf 2) 1400 (rmQ Q)) _ := hP
      have hD : va_D A (mX mr rf st ln 0 pl hs vs dg xx ++ iaX cI (rf 0) 100 (qN (T 0 0) (T 0 1) (T 0 2) (T 0 3) (T 0 4) (T 0 5) (T 1) (T 2) (T 3) (T 4) (T 5) (T 6) (T 7) (T 8)) ++ iaX cI (rf 2) 1400 (rmQ Q)) := hD
      refine gp_V (ci := 9) (q0 := 0) (cq := (RX9, TX9, 15)) (c_X9_remember l D cI cZ cF cL mr rf st ln 0 pl hs vs dg xx (qN (T 0 0) (T 0 1) (T 0 2) (T 0 3) (T 0 4) (T 0 5) (T 1) (T 2) (T 3) (T 4) (T 5) (T 6) (T 7) (T 8)) Q hs14) (gUV u_515 u_516 u_517 u_5 u_518) rfl hdV_X9_remember ⟨Nat.le_of_ble_eq_true rfl, Nat.le_of_ble_eq_true rfl⟩ ⟨rfl, rfl⟩ hx hb hml hown hts hK hA hP hD hS hl.1 ⟨Nat.le_of_ble_eq_true rfl, Nat.le_of_ble_eq_true rfl⟩ rfl rfl rfl (wr := ([] : va_W)) (pm_cnt (fun _ => by simp only [List.countP_append, List.countP_nil, fT] <;> omega)) (fun _ => by simp only [List.map_append, List.map_nil, fX_m, bX_m, sX_m, pX_m, iaX_m, r5X_m, r6X_m, fT_m, hX_m, tX_m, xX_m, sgX_m, zaX_m, fsB_a, qX_m, mX_m]) (rest := []) rfl rfl (Nat.le_of_ble_eq_true rfl) dX9_setHarvest_36 (ws2 := (fun _ : Unit => (mX mr rf ((if st = 14 then 13 else st) + 1) ln 0 pl hs vs dg xx ++ iaX cI (rf 0) 100 (qN (T 0 0) (T 0 1) (T 0 2) (T 0 3) (T 0 4) (T 0 5) (T 1) (T 2) (T 3) (T 4) (T 5) (T 6) (T 7) (T 8)) ++ iaX cI (rf 2) 1400 (rmQ (va_up (if st = 14 then shQ Q else Q) (if st = 14 then 13 else st) (qN (T 0 0) (T 0 1) (T 0 2) (T 0 3) (T 0 4) (T 0 5) (T 1) (T 2) (T 3) (T 4) (T 5) (T 6) (T 7) (T 8))))))) (fun _ => (pm_cnt (fun _ => by simp only [List.countP_append, List.countP_nil, fT] <;> omega))) (fun _ Hp locs hP hD hS => ?_)
      have hP : va_P D vwCl (mX mr rf ((if st = 14 then 13 else st) + 1) ln 0 pl hs vs dg xx ++ qX cI (rf 0) (T 0 0) (T 0 1) (T 0 2) (T 0 3) (T 0 4) (T 0 5) (T 1) (T 2) (T 3) (T 4) (T 5) (T 6) (T 7) (T 8) ++ iaX cI (rf 2) 1400 (rmQ (va_up (if st = 14 then shQ Q else Q) (if st = 14 then 13 else st) (qN (T 0 0) (T 0 1) (T 0 2) (T 0 3) (T 0 4) (T 0 5) (T 1) (T 2) (T 3) (T 4) (T 5) (T 6) (T 7) (T 8))))) _ := hP
      have hD : va_D A (mX mr rf ((if st = 14 then 13 else st) + 1) ln 0 pl hs vs dg xx ++ qX cI (rf 0) (T 0 0) (T 0 1) (T 0 2) (T 0 3) (T 0 4) (T 0 5) (T 1) (T 2) (T 3) (T 4) (T 5) (T 6) (T 7) (T 8) ++ iaX cI (rf 2) 1400 (rmQ (va_up (if st = 14 then shQ Q else Q) (if st = 14 then 13 else st) (qN (T 0 0) (T 0 1) (T 0 2) (T 0 3) (T 0 4) (T 0 5) (T 1) (T 2) (T 3) (T 4) (T 5) (T 6) (T 7) (T 8))))) := hD
      refine lv_aload_n hx hb dX9_setHarvest_39 rfl (lv_at hl 0 rfl) ?_
      refine lv_iload_n hx hb dX9_setHarvest_40 rfl (lv_at hl 1 rfl) ?_
      refine gp_S (c_X9_harvest l D cI cZ cF cL v ) (gUS u_278 u_279 u_5 u_280) rfl hdS_X9_harvest ⟨Nat.le_of_ble_eq_true rfl, Nat.le_of_ble_eq_true rfl⟩ ⟨rfl, rfl⟩ hx hb hml hown hts hK hA hP hD hS hl.1 ⟨Nat.le_of_ble_eq_true rfl, Nat.le_of_ble_eq_true rfl⟩ (wr := (mX mr rf ((if st = 14 then 13 else st) + 1) ln 0 pl hs vs dg xx ++ qX cI (rf 0) (T 0 0) (T 0 1) (T 0 2) (T 0 3) (T 0 4) (T 0 5) (T 1) (T 2) (T 3) (T 4) (T 5) (T 6) (T 7) (T 8) ++ iaX cI (rf 2) 1400 (rmQ (va_up (if st = 14 then shQ Q else Q) (if st = 14 then 13 else st) (qN (T 0 0) (T 0 1) (T 0 2) (T 0 3) (T 0 4) (T 0 5) (T 1) (T 2) (T 3) (T 4) (T 5) (T 6) (T 7) (T 8)))))) (pm_cnt (fun _ => by simp only [List.countP_append, List.countP_nil, fT] <;> omega)) (fun _ => by simp only [List.map_append, List.map_nil, fX_m, bX_m, sX_m, pX_m, iaX_m, r5X_m, r6X_m, fT_m, hX_m, tX_m, xX_m, sgX_m, zaX_m, fsB_a, qX_m, mX_m]) (rest := [.ref mr]) rfl rfl (Nat.le_of_ble_eq_true rfl) dX9_setHarvest_41 (ws2 := (fun _ : Unit => (mX mr rf ((if st = 14 then 13 else st) + 1) ln 0 pl hs vs dg xx ++ qX cI (rf 0) (T 0 0) (T 0 1) (T 0 2) (T 0 3) (T 0 4) (T 0 5) (T 1) (T 2) (T 3) (T 4) (T 5) (T 6) (T 7) (T 8) ++ iaX cI (rf 2) 1400 (rmQ (va_up (if st = 14 then shQ Q else Q) (if st = 14 then 13 else st) (qN (T 0 0) (T 0 1) (T 0 2) (T 0 3) (T 0 4) (T 0 5) (T 1) (T 2) (T 3) (T 4) (T 5) (T 6) (T 7) (T 8))))))) (fun _ => (pm_cnt (fun _ => by simp only [List.countP_append, List.countP_nil, fT] <;> omega))) (fun _ Hp locs hP hD hS => ?_)
      refine lv_iload_n hx hb dX9_setHarvest_44 rfl (lv_at hl 2 rfl) ?_
      refine gp_V (ci := 9) (q0 := 0) (cq := (RX9, TX9, 15)) (c_X9_putsH l D cI cZ cF cL mr rf ((if st = 14 then 13 else st) + 1) ln 0 pl hs vs dg xx (T 0 0) (T 0 1) (T 0 2) (T 0 3) (T 0 4) (T 0 5) (T 1) (T 2) (T 3) (T 4) (T 5) (T 6) (T 7) (T 8) v n (by omega)) (gUV u_542 u_543 u_544 u_5 u_545) rfl hdV_X9_puts ⟨Nat.le_of_ble_eq_true rfl, Nat.le_of_ble_eq_true rfl⟩ ⟨rfl, rfl⟩ hx hb hml hown hts hK hA hP hD hS hl.1 ⟨Nat.le_of_ble_eq_true rfl, Nat.le_of_ble_eq_true rfl⟩ rfl rfl rfl (wr := (iaX cI (rf 2) 1400 (rmQ (va_up (if st = 14 then shQ Q else Q) (if st = 14 then 13 else st) (qN (T 0 0) (T 0 1) (T 0 2) (T 0 3) (T 0 4) (T 0 5) (T 1) (T 2) (T 3) (T 4) (T 5) (T 6) (T 7) (T 8)))))) (pm_cnt (fun _ => by simp only [List.countP_append, List.countP_nil, fT] <;> omega)) (fun _ => by simp only [List.map_append, List.map_nil, fX_m, bX_m, sX_m, pX_m, iaX_m, r5X_m, r6X_m, fT_m, hX_m, tX_m, xX_m, sgX_m, zaX_m, fsB_a, qX_m, mX_m]) (rest := []) rfl rfl (Nat.le_of_ble_eq_true rfl) dX9_setHarvest_45 (ws2 := (fun _ : Unit => (mX mr rf ((if st = 14 then 13 else st) + 1) ln 0 pl hs vs dg xx ++ qX cI (rf 0) (T 0 0) (T 0 1) (T 0 2) (T 0 3) (T 0 4) (T 0 5) (T 1) (T 2) (T 3) (T 4) (va_up (T 5) v n) (T 6) (T 7) (T 8) ++ iaX cI (rf 2) 1400 (rmQ (va_up (if st = 14 then shQ Q else Q) (if st = 14 then 13 else st) (qN (T 0 0) (T 0 1) (T 0 2) (T 0 3) (T 0 4) (T 0 5) (T 1) (T 2) (T 3) (T 4) (T 5) (T 6) (T 7) (T 8))))))) (fun _ => (pm_cnt (fun _ => by simp only [List.countP_append, List.countP_nil, fT] <;> omega))) (fun _ Hp locs hP hD hS => ?_)
      have hP : va_P D vwCl (mX mr rf ((if st = 14 then 13 else st) + 1) ln 0 pl hs vs dg xx ++ qX cI (rf 0) ((hvT T v n) 0 0) ((hvT T v n) 0 1) ((hvT T v n) 0 2) ((hvT T v n) 0 3) ((hvT T v n) 0 4) ((hvT T v n) 0 5) ((hvT T v n) 1) ((hvT T v n) 2) ((hvT T v n) 3) ((hvT T v n) 4) ((hvT T v n) 5) ((hvT T v n) 6) ((hvT T v n) 7) ((hvT T v n) 8) ++ iaX cI (rf 2) 1400 (rmQ (va_up (if st = 14 then shQ Q else Q) (if st = 14 then 13 else st) (qN (T 0 0) (T 0 1) (T 0 2) (T 0 3) (T 0 4) (T 0 5) (T 1) (T 2) (T 3) (T 4) (T 5) (T 6) (T 7) (T 8))))) Hp := hP
      have hD : va_D A (mX mr rf ((if st = 14 then 13 else st) + 1) ln 0 pl hs vs dg xx ++ qX cI (rf 0) ((hvT T v n) 0 0) ((hvT T v n) 0 1) ((hvT T v n) 0 2) ((hvT T v n) 0 3) ((hvT T v n) 0 4) ((hvT T v n) 0 5) ((hvT T v n) 1) ((hvT T v n) 2) ((hvT T v n) 3) ((hvT T v n) 4) ((hvT T v n) 5) ((hvT T v n) 6) ((hvT T v n) 7) ((hvT T v n) 8) ++ iaX cI (rf 2) 1400 (rmQ (va_up (if st = 14 then shQ Q else Q) (if st = 14 then 13 else st) (qN (T 0 0) (T 0 1) (T 0 2) (T 0 3) (T 0 4) (T 0 5) (T 1) (T 2) (T 3) (T 4) (T 5) (T 6) (T 7) (T 8))))) := hD
      exact ct_i () hx hb hr hlocks hP hS rfl dX9_setHarvest_48
    · skip
      replace c_26 := cb_z c_26
      (exact absurd ((in_n (by omega) (by decide) (by decide)).mpr ⟨by omega, by omega⟩) c_26)
  · skip
    replace c_10 := cb_z c_10
    (exact absurd (hhV hv (Nat.le_trans hT.1.2 (by decide))) c_10)
set_option maxHeartbeats 4000000 in
set_option maxRecDepth 100000 in
theorem c_X9_setLiking (l : Launch) (D : va_G) (cI cZ cF cL : ClassId) (mr : Nat) (rf : Nat → Nat) (st ln th pl hs vs : Nat) (dg : Int32) (xx : Int64) (T : Nat → Nat → Nat) (Q : Nat → Nat → Nat) (h v n : Nat) (hT : FI T) (hs14 : st ≤ 14) (hh : h < T 0 0) (hv : v < T 0 1) (hn9 : n ≤ 9) : CT l D (tysX cI cZ cF cL) yX9_setLiking (wA yX9_setLiking cX9_setLiking 4 (some .int)) (rmF 2 43) [.ref mr, .int (nI h), .int (nI v), .int (nI n)] (mX mr rf st ln th pl hs vs dg xx ++ qX cI (rf 0) (T 0 0) (T 0 1) (T 0 2) (T 0 3) (T 0 4) (T 0 5) (T 1) (T 2) (T 3) (T 4) (T 5) (T 6) (T 7) (T 8) ++ iaX cI (rf 2) 1400 (rmQ Q)) (some (.int (nI (T 7 (h * 5 + v))))) (fun _ : Unit => (mX mr rf ((if st = 14 then 13 else st) + 1) ln 0 pl hs vs dg xx ++ qX cI (rf 0) ((lkT T h v n) 0 0) ((lkT T h v n) 0 1) ((lkT T h v n) 0 2) ((lkT T h v n) 0 3) ((lkT T h v n) 0 4) ((lkT T h v n) 0 5) ((lkT T h v n) 1) ((lkT T h v n) 2) ((lkT T h v n) 3) ((lkT T h v n) 4) ((lkT T h v n) 5) ((lkT T h v n) 6) ((lkT T h v n) 7) ((lkT T h v n) 8) ++ iaX cI (rf 2) 1400 (rmQ (va_up (if st = 14 then shQ Q else Q) (if st = 14 then 13 else st) (qN (T 0 0) (T 0 1) (T 0 2) (T 0 3) (T 0 4) (T 0 5) (T 1) (T 2) (T 3) (T 4) (T 5) (T 6) (T 7) (T 8)))))) := by
  refine ct_in (cc := cX9_setLiking) (maxL := 4) (ret := (some .int)) (own := RX9) (lv := [(0, .ref mr), (1, .int (nI h)), (2, .int (nI v)), (3, .int (nI n))]) (by decide +kernel) rfl rfl (Nat.le_of_ble_eq_true rfl) rfl ?_
  intro p e s m args below meth c A ls hx hb hr hml hts hown hlocks hK hA hP hD hS hl
  have hH := hT.1.1
  have hV := hT.1.2
  refine lv_aload_n hx hb dX9_setLiking_0 rfl (lv_at hl 0 rfl) ?_
  refine lv_iconst (v := (nI 0)) hx hb dX9_setLiking_1 (by decide) ?_
  refine pf_n (C := RX9) (T := TX9) (N := 15) (ci := 9) (q0 := 0) (ty := .int) (v := .int (nI 0)) (ws2 := (mX mr rf st ln 0 pl hs vs dg xx ++ qX cI (rf 0) (T 0 0) (T 0 1) (T 0 2) (T 0 3) (T 0 4) (T 0 5) (T 1) (T 2) (T 3) (T 4) (T 5) (T 6) (T 7) (T 8) ++ iaX cI (rf 2) 1400 (rmQ Q))) hx hb hts (iU inlX9) tyX9 tyX9_ok nmX9 hown hK hP hD hS rfl rfl 8 (by decide) (kU u_173) rfl rfl (tyX9_ok 8 (by decide)) rfl rfl (Nat.le_of_ble_eq_true rfl) dX9_setLiking_2 rfl (fun Hp locs hP hD hS => ?_)
  refine lv_aload_n hx hb dX9_setLiking_5 rfl (lv_at hl 0 rfl) ?_
  refine lv_iload_n hx hb dX9_setLiking_6 rfl (lv_at hl 1 rfl) ?_
  refine gp_V (ci := 9) (q0 := 0) (cq := (RX9, TX9, 15)) (c_X9_isHouse l D cI cZ cF cL mr rf st ln 0 pl hs vs dg xx (T 0 0) (T 0 1) (T 0 2) (T 0 3) (T 0 4) (T 0 5) (T 1) (T 2) (T 3) (T 4) (T 5) (T 6) (T 7) (T 8) ((nI h)) (by omega) (by omega)) (gUV u_397 u_398 u_399 u_5 u_400) rfl hdV_X9_isHouse ⟨Nat.le_of_ble_eq_true rfl, Nat.le_of_ble_eq_true rfl⟩ ⟨rfl, rfl⟩ hx hb hml hown hts hK hA hP hD hS hl.1 ⟨Nat.le_of_ble_eq_true rfl, Nat.le_of_ble_eq_true rfl⟩ rfl rfl rfl (wr := (iaX cI (rf 2) 1400 (rmQ Q))) (pm_cnt (fun _ => by simp only [List.countP_append, List.countP_nil, fT] <;> omega)) (fun _ => by simp only [List.map_append, List.map_nil, fX_m, bX_m, sX_m, pX_m, iaX_m, r5X_m, r6X_m, fT_m, hX_m, tX_m, xX_m, sgX_m, zaX_m, fsB_a, qX_m, mX_m]) (rest := []) rfl rfl (Nat.le_of_ble_eq_true rfl) dX9_setLiking_7 (ws2 := (fun _ : Unit => (mX mr rf st ln 0 pl hs vs dg xx ++ qX cI (rf 0) (T 0 0) (T 0 1) (T 0 2) (T 0 3) (T 0 4) (T 0 5) (T 1) (T 2) (T 3) (T 4) (T 5) (T 6) (T 7) (T 8) ++ iaX cI (rf 2) 1400 (rmQ Q)))) (fun _ => (pm_cnt (fun _ => by simp only [List.countP_append, List.countP_nil, fT] <;> omega))) (fun _ Hp locs hP hD hS => ?_)
  refine lv_if_eq (tgt := 21) hx hb dX9_setLiking_10 (by decide) (fun c_10 => ?_) (fun c_10 => ?_)
  · skip
    replace c_10 := cb_z c_10
    (exact absurd (hhV hh hT.1.1) c_10)
  · skip
    replace c_10 := cb_nz c_10
    refine lv_aload_n hx hb dX9_setLiking_13 rfl (lv_at hl 0 rfl) ?_
    refine lv_iload_n hx hb dX9_setLiking_14 rfl (lv_at hl 2 rfl) ?_
    refine gp_V (ci := 9) (q0 := 0) (cq := (RX9, TX9, 15)) (c_X9_isVegetable l D cI cZ cF cL mr rf st ln 0 pl hs vs dg xx (T 0 0) (T 0 1) (T 0 2) (T 0 3) (T 0 4) (T 0 5) (T 1) (T 2) (T 3) (T 4) (T 5) (T 6) (T 7) (T 8) ((nI v)) (by omega) (by omega)) (gUV u_450 u_451 u_452 u_5 u_453) rfl hdV_X9_isVegetable ⟨Nat.le_of_ble_eq_true rfl, Nat.le_of_ble_eq_true rfl⟩ ⟨rfl, rfl⟩ hx hb hml hown hts hK hA hP hD hS hl.1 ⟨Nat.le_of_ble_eq_true rfl, Nat.le_of_ble_eq_true rfl⟩ rfl rfl rfl (wr := (iaX cI (rf 2) 1400 (rmQ Q))) (pm_cnt (fun _ => by simp only [List.countP_append, List.countP_nil, fT] <;> omega)) (fun _ => by simp only [List.map_append, List.map_nil, fX_m, bX_m, sX_m, pX_m, iaX_m, r5X_m, r6X_m, fT_m, hX_m, tX_m, xX_m, sgX_m, zaX_m, fsB_a, qX_m, mX_m]) (rest := []) rfl rfl (Nat.le_of_ble_eq_true rfl) dX9_setLiking_15 (ws2 := (fun _ : Unit => (mX mr rf st ln 0 pl hs vs dg xx ++ qX cI (rf 0) (T 0 0) (T 0 1) (T 0 2) (T 0 3) (T 0 4) (T 0 5) (T 1) (T 2) (T 3) (T 4) (T 5) (T 6) (T 7) (T 8) ++ iaX cI (rf 2) 1400 (rmQ Q)))) (fun _ => (pm_cnt (fun _ => by simp only [List.countP_append, List.countP_nil, fT] <;> omega))) (fun _ Hp locs hP hD hS => ?_)
    refine lv_if_ne (tgt := 27) hx hb dX9_setLiking_18 (by decide) (fun c_18 => ?_) (fun c_18 => ?_)
    · skip
      replace c_18 := cb_nz c_18
      refine lv_iload_n hx hb dX9_setLiking_27 rfl (lv_at hl 3 rfl) ?_
      refine lv_iconst (v := (nI 0)) hx hb dX9_setLiking_28 (by decide) ?_
      refine lv_bipush (v := (nI 9)) hx hb dX9_setLiking_29 (by decide) ?_
      refine gp_S (c_X9_in l D cI cZ cF cL ((nI n)) ((nI 0)) ((nI 9)) ) (gUS u_140 u_141 u_5 u_142) rfl hdS_X9_in ⟨Nat.le_of_ble_eq_true rfl, Nat.le_of_ble_eq_true rfl⟩ ⟨rfl, rfl⟩ hx hb hml hown hts hK hA hP hD hS hl.1 ⟨Nat.le_of_ble_eq_true rfl, Nat.le_of_ble_eq_true rfl⟩ (wr := (mX mr rf st ln 0 pl hs vs dg xx ++ qX cI (rf 0) (T 0 0) (T 0 1) (T 0 2) (T 0 3) (T 0 4) (T 0 5) (T 1) (T 2) (T 3) (T 4) (T 5) (T 6) (T 7) (T 8) ++ iaX cI (rf 2) 1400 (rmQ Q))) (pm_cnt (fun _ => by simp only [List.countP_append, List.countP_nil, fT] <;> omega)) (fun _ => by simp only [List.map_append, List.map_nil, fX_m, bX_m, sX_m, pX_m, iaX_m, r5X_m, r6X_m, fT_m, hX_m, tX_m, xX_m, sgX_m, zaX_m, fsB_a, qX_m, mX_m]) (rest := []) rfl rfl (Nat.le_of_ble_eq_true rfl) dX9_setLiking_31 (ws2 := (fun _ : Unit => (mX mr rf st ln 0 pl hs vs dg xx ++ qX cI (rf 0) (T 0 0) (T 0 1) (T 0 2) (T 0 3) (T 0 4) (T 0 5) (T 1) (T 2) (T 3) (T 4) (T 5) (T 6) (T 7) (T 8) ++ iaX cI (rf 2) 1400 (rmQ Q)))) (fun _ => (pm_cnt (fun _ => by simp only [List.countP_append, List.countP_nil, fT] <;> omega))) (fun _ Hp locs hP hD hS => ?_)
      refine lv_if_ne (tgt := 43) hx hb dX9_setLiking_34 (by decide) (fun c_34 => ?_) (fun c_34 => ?_)
      · skip
        replace c_34 := cb_nz c_34
        refine lv_aload_n hx hb dX9_setLiking_43 rfl (lv_at hl 0 rfl) ?_
        have hP : va_P D vwCl (mX mr rf st ln 0 pl hs vs dg xx ++ iaX cI (rf 0) 100 (qN (T 0 0) (T 0 1) (T 0 2) (T 0 3) (T 0 4) (T 0 5) (T 1) (T 2) (T 3) (T 4) (T 5) (T 6) (T 7) (T 8)) ++ iaX cI (rf 2) 1400 (rmQ Q)) _ := hP
        have hD : va_D A (mX mr rf st ln 0 pl hs vs dg xx ++ iaX cI (rf 0) 100 (qN (T 0 0) (T 0 1) (T 0 2) (T 0 3) (T 0 4) (T 0 5) (T 1) (T 2) (T 3) (T 4) (T 5) (T 6) (T 7) (T 8)) ++ iaX cI (rf 2) 1400 (rmQ Q)) := hD
        refine gp_V (ci := 9) (q0 := 0) (cq := (RX9, TX9, 15)) (c_X9_remember l D cI cZ cF cL mr rf st ln 0 pl hs vs dg xx (qN (T 0 0) (T 0 1) (T 0 2) (T 0 3) (T 0 4) (T 0 5) (T 1) (T 2) (T 3) (T 4) (T 5) (T 6) (T 7) (T 8)) Q hs14) (gUV u_515 u_516 u_517 u_5 u_518) rfl hdV_X9_remember ⟨Nat.le_of_ble_eq_true rfl, Nat.le_of_ble_eq_true rfl⟩ ⟨rfl, rfl⟩ hx hb hml hown hts hK hA hP hD hS hl.1 ⟨Nat.le_of_ble_eq_true rfl, Nat.le_of_ble_eq_true rfl⟩ rfl rfl rfl (wr := ([] : va_W)) (pm_cnt (fun _ => by simp only [List.countP_append, List.countP_nil, fT] <;> omega)) (fun _ => by simp only [List.map_append, List.map_nil, fX_m, bX_m, sX_m, pX_m, iaX_m, r5X_m, r6X_m, fT_m, hX_m, tX_m, xX_m, sgX_m, zaX_m, fsB_a, qX_m, mX_m]) (rest := []) rfl rfl (Nat.le_of_ble_eq_true rfl) dX9_setLiking_44 (ws2 := (fun _ : Unit => (mX mr rf ((if st = 14 then 13 else st) + 1) ln 0 pl hs vs dg xx ++ iaX cI (rf 0) 100 (qN (T 0 0) (T 0 1) (T 0 2) (T 0 3) (T 0 4) (T 0 5) (T 1) (T 2) (T 3) (T 4) (T 5) (T 6) (T 7) (T 8)) ++ iaX cI (rf 2) 1400 (rmQ (va_up (if st = 14 then shQ Q else Q) (if st = 14 then 13 else st) (qN (T 0 0) (T 0 1) (T 0 2) (T 0 3) (T 0 4) (T 0 5) (T 1) (T 2) (T 3) (T 4) (T 5) (T 6) (T 7) (T 8))))))) (fun _ => (pm_cnt (fun _ => by simp only [List.countP_append, List.countP_nil, fT] <;> omega))) (fun _ Hp locs hP hD hS => ?_)
        have hP : va_P D vwCl (mX mr rf ((if st = 14 then 13 else st) + 1) ln 0 pl hs vs dg xx ++ qX cI (rf 0) (T 0 0) (T 0 1) (T 0 2) (T 0 3) (T 0 4) (T 0 5) (T 1) (T 2) (T 3) (T 4) (T 5) (T 6) (T 7) (T 8) ++ iaX cI (rf 2) 1400 (rmQ (va_up (if st = 14 then shQ Q else Q) (if st = 14 then 13 else st) (qN (T 0 0) (T 0 1) (T 0 2) (T 0 3) (T 0 4) (T 0 5) (T 1) (T 2) (T 3) (T 4) (T 5) (T 6) (T 7) (T 8))))) _ := hP
        have hD : va_D A (mX mr rf ((if st = 14 then 13 else st) + 1) ln 0 pl hs vs dg xx ++ qX cI (rf 0) (T 0 0) (T 0 1) (T 0 2) (T 0 3) (T 0 4) (T 0 5) (T 1) (T 2) (T 3) (T 4) (T 5) (T 6) (T 7) (T 8) ++ iaX cI (rf 2) 1400 (rmQ (va_up (if st = 14 then shQ Q else Q) (if st = 14 then 13 else st) (qN (T 0 0) (T 0 1) (T 0 2) (T 0 3) (T 0 4) (T 0 5) (T 1) (T 2) (T 3) (T 4) (T 5) (T 6) (T 7) (T 8))))) := hD
        refine lv_aload_n hx hb dX9_setLiking_47 rfl (lv_at hl 0 rfl) ?_
        refine lv_iload_n hx hb dX9_setLiking_48 rfl (lv_at hl 1 rfl) ?_
        refine lv_iload_n hx hb dX9_setLiking_49 rfl (lv_at hl 2 rfl) ?_
        refine gp_S (c_X9_like l D cI cZ cF cL h v ) (gUS u_281 u_282 u_5 u_283) rfl hdS_X9_like ⟨Nat.le_of_ble_eq_true rfl, Nat.le_of_ble_eq_true rfl⟩ ⟨rfl, rfl⟩ hx hb hml hown hts hK hA hP hD hS hl.1 ⟨Nat.le_of_ble_eq_true rfl, Nat.le_of_ble_eq_true rfl⟩ (wr := (mX mr rf ((if st = 14 then 13 else st) + 1) ln 0 pl hs vs dg xx ++ qX cI (rf 0) (T 0 0) (T 0 1) (T 0 2) (T 0 3) (T 0 4) (T 0 5) (T 1) (T 2) (T 3) (T 4) (T 5) (T 6) (T 7) (T 8) ++ iaX cI (rf 2) 1400 (rmQ (va_up (if st = 14 then shQ Q else Q) (if st = 14 then 13 else st) (qN (T 0 0) (T 0 1) (T 0 2) (T 0 3) (T 0 4) (T 0 5) (T 1) (T 2) (T 3) (T 4) (T 5) (T 6) (T 7) (T 8)))))) (pm_cnt (fun _ => by simp only [List.countP_append, List.countP_nil, fT] <;> omega)) (fun _ => by simp only [List.map_append, List.map_nil, fX_m, bX_m, sX_m, pX_m, iaX_m, r5X_m, r6X_m, fT_m, hX_m, tX_m, xX_m, sgX_m, zaX_m, fsB_a, qX_m, mX_m]) (rest := [.ref mr]) rfl rfl (Nat.le_of_ble_eq_true rfl) dX9_setLiking_50 (ws2 := (fun _ : Unit => (mX mr rf ((if st = 14 then 13 else st) + 1) ln 0 pl hs vs dg xx ++ qX cI (rf 0) (T 0 0) (T 0 1) (T 0 2) (T 0 3) (T 0 4) (T 0 5) (T 1) (T 2) (T 3) (T 4) (T 5) (T 6) (T 7) (T 8) ++ iaX cI (rf 2) 1400 (rmQ (va_up (if st = 14 then shQ Q else Q) (if st = 14 then 13 else st) (qN (T 0 0) (T 0 1) (T 0 2) (T 0 3) (T 0 4) (T 0 5) (T 1) (T 2) (T 3) (T 4) (T 5) (T 6) (T 7) (T 8))))))) (fun _ => (pm_cnt (fun _ => by simp only [List.countP_append, List.countP_nil, fT] <;> omega))) (fun _ Hp locs hP hD hS => ?_)
        refine lv_iload_n hx hb dX9_setLiking_53 rfl (lv_at hl 3 rfl) ?_
        refine gp_V (ci := 9) (q0 := 0) (cq := (RX9, TX9, 15)) (c_X9_putsL l D cI cZ cF cL mr rf ((if st = 14 then 13 else st) + 1) ln 0 pl hs vs dg xx (T 0 0) (T 0 1) (T 0 2) (T 0 3) (T 0 4) (T 0 5) (T 1) (T 2) (T 3) (T 4) (T 5) (T 6) (T 7) (T 8) h v n (by omega) (by omega)) (gUV u_542 u_543 u_544 u_5 u_545) rfl hdV_X9_puts ⟨Nat.le_of_ble_eq_true rfl, Nat.le_of_ble_eq_true rfl⟩ ⟨rfl, rfl⟩ hx hb hml hown hts hK hA hP hD hS hl.1 ⟨Nat.le_of_ble_eq_true rfl, Nat.le_of_ble_eq_true rfl⟩ rfl rfl rfl (wr := (iaX cI (rf 2) 1400 (rmQ (va_up (if st = 14 then shQ Q else Q) (if st = 14 then 13 else st) (qN (T 0 0) (T 0 1) (T 0 2) (T 0 3) (T 0 4) (T 0 5) (T 1) (T 2) (T 3) (T 4) (T 5) (T 6) (T 7) (T 8)))))) (pm_cnt (fun _ => by simp only [List.countP_append, List.countP_nil, fT] <;> omega)) (fun _ => by simp only [List.map_append, List.map_nil, fX_m, bX_m, sX_m, pX_m, iaX_m, r5X_m, r6X_m, fT_m, hX_m, tX_m, xX_m, sgX_m, zaX_m, fsB_a, qX_m, mX_m]) (rest := []) rfl rfl (Nat.le_of_ble_eq_true rfl) dX9_setLiking_54 (ws2 := (fun _ : Unit => (mX mr rf ((if st = 14 then 13 else st) + 1) ln 0 pl hs vs dg xx ++ qX cI (rf 0) (T 0 0) (T 0 1) (T 0 2) (T 0 3) (T 0 4) (T 0 5) (T 1) (T 2) (T 3) (T 4) (T 5) (T 6) (va_up (T 7) (h * 5 + v) n) (T 8) ++ iaX cI (rf 2) 1400 (rmQ (va_up (if st = 14 then shQ Q else Q) (if st = 14 then 13 else st) (qN (T 0 0) (T 0 1) (T 0 2) (T 0 3) (T 0 4) (T 0 5) (T 1) (T 2) (T 3) (T 4) (T 5) (T 6) (T 7) (T 8))))))) (fun _ => (pm_cnt (fun _ => by simp only [List.countP_append, List.countP_nil, fT] <;> omega))) (fun _ Hp locs hP hD hS => ?_)
        have hP : va_P D vwCl (mX mr rf ((if st = 14 then 13 else st) + 1) ln 0 pl hs vs dg xx ++ qX cI (rf 0) ((lkT T h v n) 0 0) ((lkT T h v n) 0 1) ((lkT T h v n) 0 2) ((lkT T h v n) 0 3) ((lkT T h v n) 0 4) ((lkT T h v n) 0 5) ((lkT T h v n) 1) ((lkT T h v n) 2) ((lkT T h v n) 3) ((lkT T h v n) 4) ((lkT T h v n) 5) ((lkT T h v n) 6) ((lkT T h v n) 7) ((lkT T h v n) 8) ++ iaX cI (rf 2) 1400 (rmQ (va_up (if st = 14 then shQ Q else Q) (if st = 14 then 13 else st) (qN (T 0 0) (T 0 1) (T 0 2) (T 0 3) (T 0 4) (T 0 5) (T 1) (T 2) (T 3) (T 4) (T 5) (T 6) (T 7) (T 8))))) Hp := hP
        have hD : va_D A (mX mr rf ((if st = 14 then 13 else st) + 1) ln 0 pl hs vs dg xx ++ qX cI (rf 0) ((lkT T h v n) 0 0) ((lkT T h v n) 0 1) ((lkT T h v n) 0 2) ((lkT T h v n) 0 3) ((lkT T h v n) 0 4) ((lkT T h v n) 0 5) ((lkT T h v n) 1) ((lkT T h v n) 2) ((lkT T h v n) 3) ((lkT T h v n) 4) ((lkT T h v n) 5) ((lkT T h v n) 6) ((lkT T h v n) 7) ((lkT T h v n) 8) ++ iaX cI (rf 2) 1400 (rmQ (va_up (if st = 14 then shQ Q else Q) (if st = 14 then 13 else st) (qN (T 0 0) (T 0 1) (T 0 2) (T 0 3) (T 0 4) (T 0 5) (T 1) (T 2) (T 3) (T 4) (T 5) (T 6) (T 7) (T 8))))) := hD
        exact ct_i () hx hb hr hlocks hP hS rfl dX9_setLiking_57
      · skip
        replace c_34 := cb_z c_34
        (exact absurd ((in_n (by omega) (by decide) (by decide)).mpr ⟨by omega, by omega⟩) c_34)
    · skip
      replace c_18 := cb_z c_18
      (exact absurd (hhV hv (Nat.le_trans hT.1.2 (by decide))) c_18)
set_option maxHeartbeats 4000000 in
set_option maxRecDepth 100000 in
theorem c_X9_skip (l : Launch) (D : va_G) (cI cZ cF cL : ClassId) (mr : Nat) (rf : Nat → Nat) (st ln th pl hs vs : Nat) (dg : Int32) (xx : Int64) (T : Nat → Nat → Nat) (Q : Nat → Nat → Nat) (h z : Nat) (hT : FI T) (hs14 : st ≤ 14) (hh : h < T 0 0) (hz : z ≤ 1) : CT l D (tysX cI cZ cF cL) yX9_skip (wA yX9_skip cX9_skip 3 (some .int)) (rmF 3 63) [.ref mr, .int (nI h), .int (nI z)] (mX mr rf st ln th pl hs vs dg xx ++ qX cI (rf 0) (T 0 0) (T 0 1) (T 0 2) (T 0 3) (T 0 4) (T 0 5) (T 1) (T 2) (T 3) (T 4) (T 5) (T 6) (T 7) (T 8) ++ iaX cI (rf 2) 1400 (rmQ Q)) (some (.int (nI (boxT (skT T h z))))) (fun _ : Unit => (mX mr rf ((if st = 14 then 13 else st) + 1) ln 0 pl hs vs dg xx ++ qX cI (rf 0) ((skT T h z) 0 0) ((skT T h z) 0 1) ((skT T h z) 0 2) ((skT T h z) 0 3) ((skT T h z) 0 4) ((skT T h z) 0 5) ((skT T h z) 1) ((skT T h z) 2) ((skT T h z) 3) ((skT T h z) 4) ((skT T h z) 5) ((skT T h z) 6) ((skT T h z) 7) ((skT T h z) 8) ++ iaX cI (rf 2) 1400 (rmQ (va_up (if st = 14 then shQ Q else Q) (if st = 14 then 13 else st) (qN (T 0 0) (T 0 1) (T 0 2) (T 0 3) (T 0 4) (T 0 5) (T 1) (T 2) (T 3) (T 4) (T 5) (T 6) (T 7) (T 8)))))) := by
  refine ct_in (cc := cX9_skip) (maxL := 3) (ret := (some .int)) (own := RX9) (lv := [(0, .ref mr), (1, .int (nI h)), (2, .int (nI z))]) (by decide +kernel) rfl rfl (Nat.le_of_ble_eq_true rfl) rfl ?_
  intro p e s m args below meth c A ls hx hb hr hml hts hown hlocks hK hA hP hD hS hl
  have hH := hT.1.1
  have hV := hT.1.2
  refine lv_aload_n hx hb dX9_skip_0 rfl (lv_at hl 0 rfl) ?_
  refine lv_iconst (v := (nI 0)) hx hb dX9_skip_1 (by decide) ?_
  refine pf_n (C := RX9) (T := TX9) (N := 15) (ci := 9) (q0 := 0) (ty := .int) (v := .int (nI 0)) (ws2 := (mX mr rf st ln 0 pl hs vs dg xx ++ qX cI (rf 0) (T 0 0) (T 0 1) (T 0 2) (T 0 3) (T 0 4) (T 0 5) (T 1) (T 2) (T 3) (T 4) (T 5) (T 6) (T 7) (T 8) ++ iaX cI (rf 2) 1400 (rmQ Q))) hx hb hts (iU inlX9) tyX9 tyX9_ok nmX9 hown hK hP hD hS rfl rfl 8 (by decide) (kU u_173) rfl rfl (tyX9_ok 8 (by decide)) rfl rfl (Nat.le_of_ble_eq_true rfl) dX9_skip_2 rfl (fun Hp locs hP hD hS => ?_)
  refine lv_aload_n hx hb dX9_skip_5 rfl (lv_at hl 0 rfl) ?_
  refine lv_iload_n hx hb dX9_skip_6 rfl (lv_at hl 1 rfl) ?_
  refine gp_V (ci := 9) (q0 := 0) (cq := (RX9, TX9, 15)) (c_X9_isHouse l D cI cZ cF cL mr rf st ln 0 pl hs vs dg xx (T 0 0) (T 0 1) (T 0 2) (T 0 3) (T 0 4) (T 0 5) (T 1) (T 2) (T 3) (T 4) (T 5) (T 6) (T 7) (T 8) ((nI h)) (by omega) (by omega)) (gUV u_397 u_398 u_399 u_5 u_400) rfl hdV_X9_isHouse ⟨Nat.le_of_ble_eq_true rfl, Nat.le_of_ble_eq_true rfl⟩ ⟨rfl, rfl⟩ hx hb hml hown hts hK hA hP hD hS hl.1 ⟨Nat.le_of_ble_eq_true rfl, Nat.le_of_ble_eq_true rfl⟩ rfl rfl rfl (wr := (iaX cI (rf 2) 1400 (rmQ Q))) (pm_cnt (fun _ => by simp only [List.countP_append, List.countP_nil, fT] <;> omega)) (fun _ => by simp only [List.map_append, List.map_nil, fX_m, bX_m, sX_m, pX_m, iaX_m, r5X_m, r6X_m, fT_m, hX_m, tX_m, xX_m, sgX_m, zaX_m, fsB_a, qX_m, mX_m]) (rest := []) rfl rfl (Nat.le_of_ble_eq_true rfl) dX9_skip_7 (ws2 := (fun _ : Unit => (mX mr rf st ln 0 pl hs vs dg xx ++ qX cI (rf 0) (T 0 0) (T 0 1) (T 0 2) (T 0 3) (T 0 4) (T 0 5) (T 1) (T 2) (T 3) (T 4) (T 5) (T 6) (T 7) (T 8) ++ iaX cI (rf 2) 1400 (rmQ Q)))) (fun _ => (pm_cnt (fun _ => by simp only [List.countP_append, List.countP_nil, fT] <;> omega))) (fun _ Hp locs hP hD hS => ?_)
  refine lv_if_ne (tgt := 19) hx hb dX9_skip_10 (by decide) (fun c_10 => ?_) (fun c_10 => ?_)
  · skip
    replace c_10 := cb_nz c_10
    refine lv_aload_n hx hb dX9_skip_19 rfl (lv_at hl 0 rfl) ?_
    have hP : va_P D vwCl (mX mr rf st ln 0 pl hs vs dg xx ++ iaX cI (rf 0) 100 (qN (T 0 0) (T 0 1) (T 0 2) (T 0 3) (T 0 4) (T 0 5) (T 1) (T 2) (T 3) (T 4) (T 5) (T 6) (T 7) (T 8)) ++ iaX cI (rf 2) 1400 (rmQ Q)) _ := hP
    have hD : va_D A (mX mr rf st ln 0 pl hs vs dg xx ++ iaX cI (rf 0) 100 (qN (T 0 0) (T 0 1) (T 0 2) (T 0 3) (T 0 4) (T 0 5) (T 1) (T 2) (T 3) (T 4) (T 5) (T 6) (T 7) (T 8)) ++ iaX cI (rf 2) 1400 (rmQ Q)) := hD
    refine gp_V (ci := 9) (q0 := 0) (cq := (RX9, TX9, 15)) (c_X9_remember l D cI cZ cF cL mr rf st ln 0 pl hs vs dg xx (qN (T 0 0) (T 0 1) (T 0 2) (T 0 3) (T 0 4) (T 0 5) (T 1) (T 2) (T 3) (T 4) (T 5) (T 6) (T 7) (T 8)) Q hs14) (gUV u_515 u_516 u_517 u_5 u_518) rfl hdV_X9_remember ⟨Nat.le_of_ble_eq_true rfl, Nat.le_of_ble_eq_true rfl⟩ ⟨rfl, rfl⟩ hx hb hml hown hts hK hA hP hD hS hl.1 ⟨Nat.le_of_ble_eq_true rfl, Nat.le_of_ble_eq_true rfl⟩ rfl rfl rfl (wr := ([] : va_W)) (pm_cnt (fun _ => by simp only [List.countP_append, List.countP_nil, fT] <;> omega)) (fun _ => by simp only [List.map_append, List.map_nil, fX_m, bX_m, sX_m, pX_m, iaX_m, r5X_m, r6X_m, fT_m, hX_m, tX_m, xX_m, sgX_m, zaX_m, fsB_a, qX_m, mX_m]) (rest := []) rfl rfl (Nat.le_of_ble_eq_true rfl) dX9_skip_20 (ws2 := (fun _ : Unit => (mX mr rf ((if st = 14 then 13 else st) + 1) ln 0 pl hs vs dg xx ++ iaX cI (rf 0) 100 (qN (T 0 0) (T 0 1) (T 0 2) (T 0 3) (T 0 4) (T 0 5) (T 1) (T 2) (T 3) (T 4) (T 5) (T 6) (T 7) (T 8)) ++ iaX cI (rf 2) 1400 (rmQ (va_up (if st = 14 then shQ Q else Q) (if st = 14 then 13 else st) (qN (T 0 0) (T 0 1) (T 0 2) (T 0 3) (T 0 4) (T 0 5) (T 1) (T 2) (T 3) (T 4) (T 5) (T 6) (T 7) (T 8))))))) (fun _ => (pm_cnt (fun _ => by simp only [List.countP_append, List.countP_nil, fT] <;> omega))) (fun _ Hp locs hP hD hS => ?_)
    have hP : va_P D vwCl (mX mr rf ((if st = 14 then 13 else st) + 1) ln 0 pl hs vs dg xx ++ qX cI (rf 0) (T 0 0) (T 0 1) (T 0 2) (T 0 3) (T 0 4) (T 0 5) (T 1) (T 2) (T 3) (T 4) (T 5) (T 6) (T 7) (T 8) ++ iaX cI (rf 2) 1400 (rmQ (va_up (if st = 14 then shQ Q else Q) (if st = 14 then 13 else st) (qN (T 0 0) (T 0 1) (T 0 2) (T 0 3) (T 0 4) (T 0 5) (T 1) (T 2) (T 3) (T 4) (T 5) (T 6) (T 7) (T 8))))) _ := hP
    have hD : va_D A (mX mr rf ((if st = 14 then 13 else st) + 1) ln 0 pl hs vs dg xx ++ qX cI (rf 0) (T 0 0) (T 0 1) (T 0 2) (T 0 3) (T 0 4) (T 0 5) (T 1) (T 2) (T 3) (T 4) (T 5) (T 6) (T 7) (T 8) ++ iaX cI (rf 2) 1400 (rmQ (va_up (if st = 14 then shQ Q else Q) (if st = 14 then 13 else st) (qN (T 0 0) (T 0 1) (T 0 2) (T 0 3) (T 0 4) (T 0 5) (T 1) (T 2) (T 3) (T 4) (T 5) (T 6) (T 7) (T 8))))) := hD
    refine lv_aload_n hx hb dX9_skip_23 rfl (lv_at hl 0 rfl) ?_
    refine gf_n (C := RX9) (T := TX9) (N := 15) (ci := 9) (q0 := 0) (v := .ref (rf 0)) hx hb hts (iU inlX9) hown hK hP rfl rfl 0 (by decide) (kU u_129) rfl rfl dX9_skip_24 ?_
    refine lv_iload_n hx hb dX9_skip_27 rfl (lv_at hl 1 rfl) ?_
    refine gp_S (c_X9_size l D cI cZ cF cL h ) (gUS u_275 u_276 u_5 u_277) rfl hdS_X9_size ⟨Nat.le_of_ble_eq_true rfl, Nat.le_of_ble_eq_true rfl⟩ ⟨rfl, rfl⟩ hx hb hml hown hts hK hA hP hD hS hl.1 ⟨Nat.le_of_ble_eq_true rfl, Nat.le_of_ble_eq_true rfl⟩ (wr := (mX mr rf ((if st = 14 then 13 else st) + 1) ln 0 pl hs vs dg xx ++ qX cI (rf 0) (T 0 0) (T 0 1) (T 0 2) (T 0 3) (T 0 4) (T 0 5) (T 1) (T 2) (T 3) (T 4) (T 5) (T 6) (T 7) (T 8) ++ iaX cI (rf 2) 1400 (rmQ (va_up (if st = 14 then shQ Q else Q) (if st = 14 then 13 else st) (qN (T 0 0) (T 0 1) (T 0 2) (T 0 3) (T 0 4) (T 0 5) (T 1) (T 2) (T 3) (T 4) (T 5) (T 6) (T 7) (T 8)))))) (pm_cnt (fun _ => by simp only [List.countP_append, List.countP_nil, fT] <;> omega)) (fun _ => by simp only [List.map_append, List.map_nil, fX_m, bX_m, sX_m, pX_m, iaX_m, r5X_m, r6X_m, fT_m, hX_m, tX_m, xX_m, sgX_m, zaX_m, fsB_a, qX_m, mX_m]) (rest := [.ref (rf 0)]) rfl rfl (Nat.le_of_ble_eq_true rfl) dX9_skip_28 (ws2 := (fun _ : Unit => (mX mr rf ((if st = 14 then 13 else st) + 1) ln 0 pl hs vs dg xx ++ qX cI (rf 0) (T 0 0) (T 0 1) (T 0 2) (T 0 3) (T 0 4) (T 0 5) (T 1) (T 2) (T 3) (T 4) (T 5) (T 6) (T 7) (T 8) ++ iaX cI (rf 2) 1400 (rmQ (va_up (if st = 14 then shQ Q else Q) (if st = 14 then 13 else st) (qN (T 0 0) (T 0 1) (T 0 2) (T 0 3) (T 0 4) (T 0 5) (T 1) (T 2) (T 3) (T 4) (T 5) (T 6) (T 7) (T 8))))))) (fun _ => (pm_cnt (fun _ => by simp only [List.countP_append, List.countP_nil, fT] <;> omega))) (fun _ Hp locs hP hD hS => ?_)
    refine lv_iconst (v := (nI 3)) hx hb dX9_skip_31 (by decide) ?_
    refine lv_iadd hx hb dX9_skip_32 ?_
    rw [nI_add (6 + 4 * h) 3]
    refine lv_iload_n hx hb dX9_skip_33 rfl (lv_at hl 2 rfl) ?_
    refine lv_if_eq (tgt := 41) hx hb dX9_skip_34 (by decide) (fun c_34 => ?_) (fun c_34 => ?_)
    · skip
      replace c_34 := cn_eq (b := 0) (by omega) (by omega) c_34
      have e_z : z = 0 := c_34
      refine lv_iconst (v := (nI 0)) hx hb dX9_skip_41 (by decide) ?_
      refine is_n (q0 := 1) (t0 := 0) (ws2 := (mX mr rf ((if st = 14 then 13 else st) + 1) ln 0 pl hs vs dg xx ++ qX cI (rf 0) (T 0 0) (T 0 1) (T 0 2) (T 0 3) (T 0 4) (T 0 5) (T 1) (T 2) (T 3) (va_up (T 4) h 0) (T 5) (T 6) (T 7) (T 8) ++ iaX cI (rf 2) 1400 (rmQ (va_up (if st = 14 then shQ Q else Q) (if st = 14 then 13 else st) (qN (T 0 0) (T 0 1) (T 0 2) (T 0 3) (T 0 4) (T 0 5) (T 1) (T 2) (T 3) (T 4) (T 5) (T 6) (T 7) (T 8)))))) hx hb hK hP hD hS rfl rfl (by omega) (by decide) dX9_skip_42 (by rw [qU_4 (by omega)]; rfl) (fun Hp locs hP hD hS => ?_)
      refine lv_aload_n hx hb dX9_skip_43 rfl (lv_at hl 0 rfl) ?_
      refine gp_V (ci := 9) (q0 := 0) (cq := (RX9, TX9, 15)) (c_X9_boxes l D cI cZ cF cL mr rf ((if st = 14 then 13 else st) + 1) ln 0 pl hs vs dg xx (T 0 0) (T 0 1) (T 0 2) (T 0 3) (T 0 4) (T 0 5) (T 1) (T 2) (T 3) (va_up (T 4) h 0) (T 5) (T 6) (T 7) (T 8) hH (fun h hh => by have := (hT.2.1 h hh).2.1; omega) (fun k hk => up_all (P := fun z => z < 2 ^ 31) (fun _ => by decide) (fun _ => by have := (hT.2.1 k hk).2.2.2.1; omega))) (gUV u_357 u_358 u_359 u_5 u_360) rfl hdV_X9_boxes ⟨Nat.le_of_ble_eq_true rfl, Nat.le_of_ble_eq_true rfl⟩ ⟨rfl, rfl⟩ hx hb hml hown hts hK hA hP hD hS hl.1 ⟨Nat.le_of_ble_eq_true rfl, Nat.le_of_ble_eq_true rfl⟩ rfl rfl rfl (wr := (iaX cI (rf 2) 1400 (rmQ (va_up (if st = 14 then shQ Q else Q) (if st = 14 then 13 else st) (qN (T 0 0) (T 0 1) (T 0 2) (T 0 3) (T 0 4) (T 0 5) (T 1) (T 2) (T 3) (T 4) (T 5) (T 6) (T 7) (T 8)))))) (pm_cnt (fun _ => by simp only [List.countP_append, List.countP_nil, fT] <;> omega)) (fun _ => by simp only [List.map_append, List.map_nil, fX_m, bX_m, sX_m, pX_m, iaX_m, r5X_m, r6X_m, fT_m, hX_m, tX_m, xX_m, sgX_m, zaX_m, fsB_a, qX_m, mX_m]) (rest := []) rfl rfl (Nat.le_of_ble_eq_true rfl) dX9_skip_44 (ws2 := (fun _ : Unit => (mX mr rf ((if st = 14 then 13 else st) + 1) ln 0 pl hs vs dg xx ++ qX cI (rf 0) (T 0 0) (T 0 1) (T 0 2) (T 0 3) (T 0 4) (T 0 5) (T 1) (T 2) (T 3) (va_up (T 4) h 0) (T 5) (T 6) (T 7) (T 8) ++ iaX cI (rf 2) 1400 (rmQ (va_up (if st = 14 then shQ Q else Q) (if st = 14 then 13 else st) (qN (T 0 0) (T 0 1) (T 0 2) (T 0 3) (T 0 4) (T 0 5) (T 1) (T 2) (T 3) (T 4) (T 5) (T 6) (T 7) (T 8))))))) (fun _ => (pm_cnt (fun _ => by simp only [List.countP_append, List.countP_nil, fT] <;> omega))) (fun _ Hp locs hP hD hS => ?_)
      exact ct_i () hx hb hr hlocks (by rw [e_z]; exact hP) hS (by rw [e_z]; rfl) dX9_skip_47
    · skip
      replace c_34 := cn_ne (b := 0) c_34
      have e_z : z = 1 := by omega
      refine lv_iconst (v := (nI 1)) hx hb dX9_skip_37 (by decide) ?_
      refine lv_goto (tgt := 42) hx hb dX9_skip_38 (by decide) ?_
      refine is_n (q0 := 1) (t0 := 0) (ws2 := (mX mr rf ((if st = 14 then 13 else st) + 1) ln 0 pl hs vs dg xx ++ qX cI (rf 0) (T 0 0) (T 0 1) (T 0 2) (T 0 3) (T 0 4) (T 0 5) (T 1) (T 2) (T 3) (va_up (T 4) h 1) (T 5) (T 6) (T 7) (T 8) ++ iaX cI (rf 2) 1400 (rmQ (va_up (if st = 14 then shQ Q else Q) (if st = 14 then 13 else st) (qN (T 0 0) (T 0 1) (T 0 2) (T 0 3) (T 0 4) (T 0 5) (T 1) (T 2) (T 3) (T 4) (T 5) (T 6) (T 7) (T 8)))))) hx hb hK hP hD hS rfl rfl (by omega) (by decide) dX9_skip_42 (by rw [qU_4 (by omega)]; rfl) (fun Hp locs hP hD hS => ?_)
      refine lv_aload_n hx hb dX9_skip_43 rfl (lv_at hl 0 rfl) ?_
      refine gp_V (ci := 9) (q0 := 0) (cq := (RX9, TX9, 15)) (c_X9_boxes l D cI cZ cF cL mr rf ((if st = 14 then 13 else st) + 1) ln 0 pl hs vs dg xx (T 0 0) (T 0 1) (T 0 2) (T 0 3) (T 0 4) (T 0 5) (T 1) (T 2) (T 3) (va_up (T 4) h 1) (T 5) (T 6) (T 7) (T 8) hH (fun h hh => by have := (hT.2.1 h hh).2.1; omega) (fun k hk => up_all (P := fun z => z < 2 ^ 31) (fun _ => by decide) (fun _ => by have := (hT.2.1 k hk).2.2.2.1; omega))) (gUV u_357 u_358 u_359 u_5 u_360) rfl hdV_X9_boxes ⟨Nat.le_of_ble_eq_true rfl, Nat.le_of_ble_eq_true rfl⟩ ⟨rfl, rfl⟩ hx hb hml hown hts hK hA hP hD hS hl.1 ⟨Nat.le_of_ble_eq_true rfl, Nat.le_of_ble_eq_true rfl⟩ rfl rfl rfl (wr := (iaX cI (rf 2) 1400 (rmQ (va_up (if st = 14 then shQ Q else Q) (if st = 14 then 13 else st) (qN (T 0 0) (T 0 1) (T 0 2) (T 0 3) (T 0 4) (T 0 5) (T 1) (T 2) (T 3) (T 4) (T 5) (T 6) (T 7) (T 8)))))) (pm_cnt (fun _ => by simp only [List.countP_append, List.countP_nil, fT] <;> omega)) (fun _ => by simp only [List.map_append, List.map_nil, fX_m, bX_m, sX_m, pX_m, iaX_m, r5X_m, r6X_m, fT_m, hX_m, tX_m, xX_m, sgX_m, zaX_m, fsB_a, qX_m, mX_m]) (rest := []) rfl rfl (Nat.le_of_ble_eq_true rfl) dX9_skip_44 (ws2 := (fun _ : Unit => (mX mr rf ((if st = 14 then 13 else st) + 1) ln 0 pl hs vs dg xx ++ qX cI (rf 0) (T 0 0) (T 0 1) (T 0 2) (T 0 3) (T 0 4) (T 0 5) (T 1) (T 2) (T 3) (va_up (T 4) h 1) (T 5) (T 6) (T 7) (T 8) ++ iaX cI (rf 2) 1400 (rmQ (va_up (if st = 14 then shQ Q else Q) (if st = 14 then 13 else st) (qN (T 0 0) (T 0 1) (T 0 2) (T 0 3) (T 0 4) (T 0 5) (T 1) (T 2) (T 3) (T 4) (T 5) (T 6) (T 7) (T 8))))))) (fun _ => (pm_cnt (fun _ => by simp only [List.countP_append, List.countP_nil, fT] <;> omega))) (fun _ Hp locs hP hD hS => ?_)
      exact ct_i () hx hb hr hlocks (by rw [e_z]; exact hP) hS (by rw [e_z]; rfl) dX9_skip_47
  · skip
    replace c_10 := cb_z c_10
    (exact absurd (hhV hh hT.1.1) c_10)
set_option maxRecDepth 20000 in
theorem u_652 : Cond.code yX9_packs cX9_packs 5 (some .int) ∈ wsL_law := List.mem_of_getElem? (i := 652) (by decide +kernel)
set_option maxRecDepth 20000 in
theorem u_649 : Cond.methodLink RX9 141 yX9_packs ∈ wsL_law := List.mem_of_getElem? (i := 649) (by decide +kernel)
set_option maxRecDepth 20000 in
theorem u_650 : Cond.instanceMethod yX9_packs ∈ wsL_law := List.mem_of_getElem? (i := 650) (by decide +kernel)
set_option maxRecDepth 20000 in
theorem u_651 : Cond.selects RX9 yX9_packs yX9_packs ∈ wsL_law := List.mem_of_getElem? (i := 651) (by decide +kernel)
theorem hdV_X9_packs : yX9_packs.cls = RX9 ∧ yX9_packs.cls ≠ "java/lang/invoke/MethodHandle" ∧ yX9_packs.cls ≠ "java/lang/invoke/VarHandle" ∧ (parseMethodDescriptor yX9_packs.desc).map (fun d => d.parameters.length) = some 0 := by decide +kernel
set_option maxHeartbeats 4000000 in
set_option maxRecDepth 100000 in
theorem c_X9_pack (l : Launch) (D : va_G) (cI cZ cF cL : ClassId) (mr : Nat) (rf : Nat → Nat) (st ln th pl hs vs : Nat) (dg : Int32) (xx : Int64) (T : Nat → Nat → Nat) (Q : Nat → Nat → Nat) (g : Nat → Nat) (hT : FI T) (hs14 : st ≤ 14)  : CT l D (tysX cI cZ cF cL) yX9_pack (wA yX9_pack cX9_pack 1 (some .int)) (rmF 5 124) [.ref mr] (mX mr rf st ln th pl hs vs dg xx ++ qX cI (rf 0) (T 0 0) (T 0 1) (T 0 2) (T 0 3) (T 0 4) (T 0 5) (T 1) (T 2) (T 3) (T 4) (T 5) (T 6) (T 7) (T 8) ++ iaX cI (rf 2) 1400 (rmQ Q) ++ iaX cI (rf 6) 6 g) (some (.int (nI (packT T 0 5)))) (fun u : (Nat → Nat) => (mX mr rf ((if st = 14 then 13 else st) + 1) ln 0 pl hs vs dg xx ++ qX cI (rf 0) ((packT T) 0 0) ((packT T) 0 1) ((packT T) 0 2) ((packT T) 0 3) ((packT T) 0 4) ((packT T) 0 5) ((packT T) 1) ((packT T) 2) ((packT T) 3) ((packT T) 4) ((packT T) 5) ((packT T) 6) ((packT T) 7) ((packT T) 8) ++ iaX cI (rf 2) 1400 (rmQ (va_up (if st = 14 then shQ Q else Q) (if st = 14 then 13 else st) (qN (T 0 0) (T 0 1) (T 0 2) (T 0 3) (T 0 4) (T 0 5) (T 1) (T 2) (T 3) (T 4) (T 5) (T 6) (T 7) (T 8)))) ++ iaX cI (rf 6) 6 u)) := by
  refine ct_in (cc := cX9_pack) (maxL := 1) (ret := (some .int)) (own := RX9) (lv := [(0, .ref mr)]) (by decide +kernel) rfl rfl (Nat.le_of_ble_eq_true rfl) rfl ?_
  intro p e s m args below meth c A ls hx hb hr hml hts hown hlocks hK hA hP hD hS hl
  have hH := hT.1.1
  have hV := hT.1.2
  refine lv_aload_n hx hb dX9_pack_0 rfl (lv_at hl 0 rfl) ?_
  refine lv_iconst (v := (nI 0)) hx hb dX9_pack_1 (by decide) ?_
  refine pf_n (C := RX9) (T := TX9) (N := 15) (ci := 9) (q0 := 0) (ty := .int) (v := .int (nI 0)) (ws2 := (mX mr rf st ln 0 pl hs vs dg xx ++ qX cI (rf 0) (T 0 0) (T 0 1) (T 0 2) (T 0 3) (T 0 4) (T 0 5) (T 1) (T 2) (T 3) (T 4) (T 5) (T 6) (T 7) (T 8) ++ iaX cI (rf 2) 1400 (rmQ Q) ++ iaX cI (rf 6) 6 g)) hx hb hts (iU inlX9) tyX9 tyX9_ok nmX9 hown hK hP hD hS rfl rfl 8 (by decide) (kU u_173) rfl rfl (tyX9_ok 8 (by decide)) rfl rfl (Nat.le_of_ble_eq_true rfl) dX9_pack_2 rfl (fun Hp locs hP hD hS => ?_)
  refine lv_aload_n hx hb dX9_pack_5 rfl (lv_at hl 0 rfl) ?_
  have hP : va_P D vwCl (mX mr rf st ln 0 pl hs vs dg xx ++ iaX cI (rf 0) 100 (qN (T 0 0) (T 0 1) (T 0 2) (T 0 3) (T 0 4) (T 0 5) (T 1) (T 2) (T 3) (T 4) (T 5) (T 6) (T 7) (T 8)) ++ iaX cI (rf 2) 1400 (rmQ Q) ++ iaX cI (rf 6) 6 g) _ := hP
  have hD : va_D A (mX mr rf st ln 0 pl hs vs dg xx ++ iaX cI (rf 0) 100 (qN (T 0 0) (T 0 1) (T 0 2) (T 0 3) (T 0 4) (T 0 5) (T 1) (T 2) (T 3) (T 4) (T 5) (T 6) (T 7) (T 8)) ++ iaX cI (rf 2) 1400 (rmQ Q) ++ iaX cI (rf 6) 6 g) := hD
  refine gp_V (ci := 9) (q0 := 0) (cq := (RX9, TX9, 15)) (c_X9_remember l D cI cZ cF cL mr rf st ln 0 pl hs vs dg xx (qN (T 0 0) (T 0 1) (T 0 2) (T 0 3) (T 0 4) (T 0 5) (T 1) (T 2) (T 3) (T 4) (T 5) (T 6) (T 7) (T 8)) Q hs14) (gUV u_515 u_516 u_517 u_5 u_518) rfl hdV_X9_remember ⟨Nat.le_of_ble_eq_true rfl, Nat.le_of_ble_eq_true rfl⟩ ⟨rfl, rfl⟩ hx hb hml hown hts hK hA hP hD hS hl.1 ⟨Nat.le_of_ble_eq_true rfl, Nat.le_of_ble_eq_true rfl⟩ rfl rfl rfl (wr := (iaX cI (rf 6) 6 g)) (pm_cnt (fun _ => by simp only [List.countP_append, List.countP_nil, fT] <;> omega)) (fun _ => by simp only [List.map_append, List.map_nil, fX_m, bX_m, sX_m, pX_m, iaX_m, r5X_m, r6X_m, fT_m, hX_m, tX_m, xX_m, sgX_m, zaX_m, fsB_a, qX_m, mX_m]) (rest := []) rfl rfl (Nat.le_of_ble_eq_true rfl) dX9_pack_6 (ws2 := (fun _ : Unit => (mX mr rf ((if st = 14 then 13 else st) + 1) ln 0 pl hs vs dg xx ++ iaX cI (rf 0) 100 (qN (T 0 0) (T 0 1) (T 0 2) (T 0 3) (T 0 4) (T 0 5) (T 1) (T 2) (T 3) (T 4) (T 5) (T 6) (T 7) (T 8)) ++ iaX cI (rf 2) 1400 (rmQ (va_up (if st = 14 then shQ Q else Q) (if st = 14 then 13 else st) (qN (T 0 0) (T 0 1) (T 0 2) (T 0 3) (T 0 4) (T 0 5) (T 1) (T 2) (T 3) (T 4) (T 5) (T 6) (T 7) (T 8)))) ++ iaX cI (rf 6) 6 g))) (fun _ => (pm_cnt (fun _ => by simp only [List.countP_append, List.countP_nil, fT] <;> omega))) (fun _ Hp locs hP hD hS => ?_)
  have hP : va_P D vwCl (mX mr rf ((if st = 14 then 13 else st) + 1) ln 0 pl hs vs dg xx ++ qX cI (rf 0) (T 0 0) (T 0 1) (T 0 2) (T 0 3) (T 0 4) (T 0 5) (T 1) (T 2) (T 3) (T 4) (T 5) (T 6) (T 7) (T 8) ++ iaX cI (rf 2) 1400 (rmQ (va_up (if st = 14 then shQ Q else Q) (if st = 14 then 13 else st) (qN (T 0 0) (T 0 1) (T 0 2) (T 0 3) (T 0 4) (T 0 5) (T 1) (T 2) (T 3) (T 4) (T 5) (T 6) (T 7) (T 8)))) ++ iaX cI (rf 6) 6 g) _ := hP
  have hD : va_D A (mX mr rf ((if st = 14 then 13 else st) + 1) ln 0 pl hs vs dg xx ++ qX cI (rf 0) (T 0 0) (T 0 1) (T 0 2) (T 0 3) (T 0 4) (T 0 5) (T 1) (T 2) (T 3) (T 4) (T 5) (T 6) (T 7) (T 8) ++ iaX cI (rf 2) 1400 (rmQ (va_up (if st = 14 then shQ Q else Q) (if st = 14 then 13 else st) (qN (T 0 0) (T 0 1) (T 0 2) (T 0 3) (T 0 4) (T 0 5) (T 1) (T 2) (T 3) (T 4) (T 5) (T 6) (T 7) (T 8)))) ++ iaX cI (rf 6) 6 g) := hD
  refine lv_aload_n hx hb dX9_pack_9 rfl (lv_at hl 0 rfl) ?_
  refine gp_V (ci := 9) (q0 := 0) (cq := (RX9, TX9, 15)) (c_X9_packs l D cI cZ cF cL mr rf ((if st = 14 then 13 else st) + 1) ln 0 pl hs vs dg xx T g hT) (gUV u_649 u_650 u_651 u_5 u_652) rfl hdV_X9_packs ⟨Nat.le_of_ble_eq_true rfl, Nat.le_of_ble_eq_true rfl⟩ ⟨rfl, rfl⟩ hx hb hml hown hts hK hA hP hD hS hl.1 ⟨Nat.le_of_ble_eq_true rfl, Nat.le_of_ble_eq_true rfl⟩ rfl rfl rfl (wr := (iaX cI (rf 2) 1400 (rmQ (va_up (if st = 14 then shQ Q else Q) (if st = 14 then 13 else st) (qN (T 0 0) (T 0 1) (T 0 2) (T 0 3) (T 0 4) (T 0 5) (T 1) (T 2) (T 3) (T 4) (T 5) (T 6) (T 7) (T 8)))))) (pm_cnt (fun _ => by simp only [List.countP_append, List.countP_nil, fT] <;> omega)) (fun _ => by simp only [List.map_append, List.map_nil, fX_m, bX_m, sX_m, pX_m, iaX_m, r5X_m, r6X_m, fT_m, hX_m, tX_m, xX_m, sgX_m, zaX_m, fsB_a, qX_m, mX_m]) (rest := []) rfl rfl (Nat.le_of_ble_eq_true rfl) dX9_pack_10 (ws2 := (fun u_10 : (Nat → Nat) => (mX mr rf ((if st = 14 then 13 else st) + 1) ln 0 pl hs vs dg xx ++ qX cI (rf 0) ((packT T) 0 0) ((packT T) 0 1) ((packT T) 0 2) ((packT T) 0 3) ((packT T) 0 4) ((packT T) 0 5) ((packT T) 1) ((packT T) 2) ((packT T) 3) ((packT T) 4) ((packT T) 5) ((packT T) 6) ((packT T) 7) ((packT T) 8) ++ iaX cI (rf 2) 1400 (rmQ (va_up (if st = 14 then shQ Q else Q) (if st = 14 then 13 else st) (qN (T 0 0) (T 0 1) (T 0 2) (T 0 3) (T 0 4) (T 0 5) (T 1) (T 2) (T 3) (T 4) (T 5) (T 6) (T 7) (T 8)))) ++ iaX cI (rf 6) 6 u_10))) (fun _ => (pm_cnt (fun _ => by simp only [List.countP_append, List.countP_nil, fT] <;> omega))) (fun u_10 Hp locs hP hD hS => ?_)
  exact ct_i (u_10) hx hb hr hlocks hP hS rfl dX9_pack_13
set_option maxHeartbeats 4000000 in
set_option maxRecDepth 100000 in
theorem c_X9_returnCrates (l : Launch) (D : va_G) (cI cZ cF cL : ClassId) (mr : Nat) (rf : Nat → Nat) (st ln th pl hs vs : Nat) (dg : Int32) (xx : Int64) (T : Nat → Nat → Nat) (Q : Nat → Nat → Nat) (h n : Nat) (hT : FI T) (hs14 : st ≤ 14) (hh : h < T 0 0) (h1n : 1 ≤ n) (hn9 : n ≤ 9) (hle : n ≤ T 2 h) : CT l D (tysX cI cZ cF cL) yX9_returnCrates (wA yX9_returnCrates cX9_returnCrates 3 (some .int)) (rmF 2 43) [.ref mr, .int (nI h), .int (nI n)] (mX mr rf st ln th pl hs vs dg xx ++ qX cI (rf 0) (T 0 0) (T 0 1) (T 0 2) (T 0 3) (T 0 4) (T 0 5) (T 1) (T 2) (T 3) (T 4) (T 5) (T 6) (T 7) (T 8) ++ iaX cI (rf 2) 1400 (rmQ Q)) (some (.int (nI (T 2 h - n)))) (fun _ : Unit => (mX mr rf ((if st = 14 then 13 else st) + 1) ln 0 pl hs vs dg xx ++ qX cI (rf 0) ((owT T h (T 2 h - n)) 0 0) ((owT T h (T 2 h - n)) 0 1) ((owT T h (T 2 h - n)) 0 2) ((owT T h (T 2 h - n)) 0 3) ((owT T h (T 2 h - n)) 0 4) ((owT T h (T 2 h - n)) 0 5) ((owT T h (T 2 h - n)) 1) ((owT T h (T 2 h - n)) 2) ((owT T h (T 2 h - n)) 3) ((owT T h (T 2 h - n)) 4) ((owT T h (T 2 h - n)) 5) ((owT T h (T 2 h - n)) 6) ((owT T h (T 2 h - n)) 7) ((owT T h (T 2 h - n)) 8) ++ iaX cI (rf 2) 1400 (rmQ (va_up (if st = 14 then shQ Q else Q) (if st = 14 then 13 else st) (qN (T 0 0) (T 0 1) (T 0 2) (T 0 3) (T 0 4) (T 0 5) (T 1) (T 2) (T 3) (T 4) (T 5) (T 6) (T 7) (T 8)))))) := by
  refine ct_in (cc := cX9_returnCrates) (maxL := 3) (ret := (some .int)) (own := RX9) (lv := [(0, .ref mr), (1, .int (nI h)), (2, .int (nI n))]) (by decide +kernel) rfl rfl (Nat.le_of_ble_eq_true rfl) rfl ?_
  intro p e s m args below meth c A ls hx hb hr hml hts hown hlocks hK hA hP hD hS hl
  have hH := hT.1.1
  have hV := hT.1.2
  refine lv_aload_n hx hb dX9_returnCrates_0 rfl (lv_at hl 0 rfl) ?_
  refine lv_iconst (v := (nI 0)) hx hb dX9_returnCrates_1 (by decide) ?_
  refine pf_n (C := RX9) (T := TX9) (N := 15) (ci := 9) (q0 := 0) (ty := .int) (v := .int (nI 0)) (ws2 := (mX mr rf st ln 0 pl hs vs dg xx ++ qX cI (rf 0) (T 0 0) (T 0 1) (T 0 2) (T 0 3) (T 0 4) (T 0 5) (T 1) (T 2) (T 3) (T 4) (T 5) (T 6) (T 7) (T 8) ++ iaX cI (rf 2) 1400 (rmQ Q))) hx hb hts (iU inlX9) tyX9 tyX9_ok nmX9 hown hK hP hD hS rfl rfl 8 (by decide) (kU u_173) rfl rfl (tyX9_ok 8 (by decide)) rfl rfl (Nat.le_of_ble_eq_true rfl) dX9_returnCrates_2 rfl (fun Hp locs hP hD hS => ?_)
  refine lv_aload_n hx hb dX9_returnCrates_5 rfl (lv_at hl 0 rfl) ?_
  refine lv_iload_n hx hb dX9_returnCrates_6 rfl (lv_at hl 1 rfl) ?_
  refine gp_V (ci := 9) (q0 := 0) (cq := (RX9, TX9, 15)) (c_X9_isHouse l D cI cZ cF cL mr rf st ln 0 pl hs vs dg xx (T 0 0) (T 0 1) (T 0 2) (T 0 3) (T 0 4) (T 0 5) (T 1) (T 2) (T 3) (T 4) (T 5) (T 6) (T 7) (T 8) ((nI h)) (by omega) (by omega)) (gUV u_397 u_398 u_399 u_5 u_400) rfl hdV_X9_isHouse ⟨Nat.le_of_ble_eq_true rfl, Nat.le_of_ble_eq_true rfl⟩ ⟨rfl, rfl⟩ hx hb hml hown hts hK hA hP hD hS hl.1 ⟨Nat.le_of_ble_eq_true rfl, Nat.le_of_ble_eq_true rfl⟩ rfl rfl rfl (wr := (iaX cI (rf 2) 1400 (rmQ Q))) (pm_cnt (fun _ => by simp only [List.countP_append, List.countP_nil, fT] <;> omega)) (fun _ => by simp only [List.map_append, List.map_nil, fX_m, bX_m, sX_m, pX_m, iaX_m, r5X_m, r6X_m, fT_m, hX_m, tX_m, xX_m, sgX_m, zaX_m, fsB_a, qX_m, mX_m]) (rest := []) rfl rfl (Nat.le_of_ble_eq_true rfl) dX9_returnCrates_7 (ws2 := (fun _ : Unit => (mX mr rf st ln 0 pl hs vs dg xx ++ qX cI (rf 0) (T 0 0) (T 0 1) (T 0 2) (T 0 3) (T 0 4) (T 0 5) (T 1) (T 2) (T 3) (T 4) (T 5) (T 6) (T 7) (T 8) ++ iaX cI (rf 2) 1400 (rmQ Q)))) (fun _ => (pm_cnt (fun _ => by simp only [List.countP_append, List.countP_nil, fT] <;> omega))) (fun _ Hp locs hP hD hS => ?_)
  refine lv_if_ne (tgt := 19) hx hb dX9_returnCrates_10 (by decide) (fun c_10 => ?_) (fun c_10 => ?_)
  · skip
    replace c_10 := cb_nz c_10
    refine lv_iload_n hx hb dX9_returnCrates_19 rfl (lv_at hl 2 rfl) ?_
    refine lv_iconst (v := (nI 1)) hx hb dX9_returnCrates_20 (by decide) ?_
    refine lv_bipush (v := (nI 9)) hx hb dX9_returnCrates_21 (by decide) ?_
    refine gp_S (c_X9_in l D cI cZ cF cL ((nI n)) ((nI 1)) ((nI 9)) ) (gUS u_140 u_141 u_5 u_142) rfl hdS_X9_in ⟨Nat.le_of_ble_eq_true rfl, Nat.le_of_ble_eq_true rfl⟩ ⟨rfl, rfl⟩ hx hb hml hown hts hK hA hP hD hS hl.1 ⟨Nat.le_of_ble_eq_true rfl, Nat.le_of_ble_eq_true rfl⟩ (wr := (mX mr rf st ln 0 pl hs vs dg xx ++ qX cI (rf 0) (T 0 0) (T 0 1) (T 0 2) (T 0 3) (T 0 4) (T 0 5) (T 1) (T 2) (T 3) (T 4) (T 5) (T 6) (T 7) (T 8) ++ iaX cI (rf 2) 1400 (rmQ Q))) (pm_cnt (fun _ => by simp only [List.countP_append, List.countP_nil, fT] <;> omega)) (fun _ => by simp only [List.map_append, List.map_nil, fX_m, bX_m, sX_m, pX_m, iaX_m, r5X_m, r6X_m, fT_m, hX_m, tX_m, xX_m, sgX_m, zaX_m, fsB_a, qX_m, mX_m]) (rest := []) rfl rfl (Nat.le_of_ble_eq_true rfl) dX9_returnCrates_23 (ws2 := (fun _ : Unit => (mX mr rf st ln 0 pl hs vs dg xx ++ qX cI (rf 0) (T 0 0) (T 0 1) (T 0 2) (T 0 3) (T 0 4) (T 0 5) (T 1) (T 2) (T 3) (T 4) (T 5) (T 6) (T 7) (T 8) ++ iaX cI (rf 2) 1400 (rmQ Q)))) (fun _ => (pm_cnt (fun _ => by simp only [List.countP_append, List.countP_nil, fT] <;> omega))) (fun _ Hp locs hP hD hS => ?_)
    refine lv_if_ne (tgt := 35) hx hb dX9_returnCrates_26 (by decide) (fun c_26 => ?_) (fun c_26 => ?_)
    · skip
      replace c_26 := cb_nz c_26
      refine lv_aload_n hx hb dX9_returnCrates_35 rfl (lv_at hl 0 rfl) ?_
      refine gf_n (C := RX9) (T := TX9) (N := 15) (ci := 9) (q0 := 0) (v := .ref (rf 0)) hx hb hts (iU inlX9) hown hK hP rfl rfl 0 (by decide) (kU u_129) rfl rfl dX9_returnCrates_36 ?_
      refine lv_iload_n hx hb dX9_returnCrates_39 rfl (lv_at hl 1 rfl) ?_
      refine gp_S (c_X9_size l D cI cZ cF cL h ) (gUS u_275 u_276 u_5 u_277) rfl hdS_X9_size ⟨Nat.le_of_ble_eq_true rfl, Nat.le_of_ble_eq_true rfl⟩ ⟨rfl, rfl⟩ hx hb hml hown hts hK hA hP hD hS hl.1 ⟨Nat.le_of_ble_eq_true rfl, Nat.le_of_ble_eq_true rfl⟩ (wr := (mX mr rf st ln 0 pl hs vs dg xx ++ qX cI (rf 0) (T 0 0) (T 0 1) (T 0 2) (T 0 3) (T 0 4) (T 0 5) (T 1) (T 2) (T 3) (T 4) (T 5) (T 6) (T 7) (T 8) ++ iaX cI (rf 2) 1400 (rmQ Q))) (pm_cnt (fun _ => by simp only [List.countP_append, List.countP_nil, fT] <;> omega)) (fun _ => by simp only [List.map_append, List.map_nil, fX_m, bX_m, sX_m, pX_m, iaX_m, r5X_m, r6X_m, fT_m, hX_m, tX_m, xX_m, sgX_m, zaX_m, fsB_a, qX_m, mX_m]) (rest := [.ref (rf 0)]) rfl rfl (Nat.le_of_ble_eq_true rfl) dX9_returnCrates_40 (ws2 := (fun _ : Unit => (mX mr rf st ln 0 pl hs vs dg xx ++ qX cI (rf 0) (T 0 0) (T 0 1) (T 0 2) (T 0 3) (T 0 4) (T 0 5) (T 1) (T 2) (T 3) (T 4) (T 5) (T 6) (T 7) (T 8) ++ iaX cI (rf 2) 1400 (rmQ Q)))) (fun _ => (pm_cnt (fun _ => by simp only [List.countP_append, List.countP_nil, fT] <;> omega))) (fun _ Hp locs hP hD hS => ?_)
      refine lv_iconst (v := (nI 1)) hx hb dX9_returnCrates_43 (by decide) ?_
      refine lv_iadd hx hb dX9_returnCrates_44 ?_
      rw [nI_add (6 + 4 * h) 1]
      refine ia_n (q0 := 1) (t0 := 0) hx hb hK hP rfl rfl (by omega) (by decide) dX9_returnCrates_45 ?_
      rw [qR_2 (by omega)]
      refine lv_iload_n hx hb dX9_returnCrates_46 rfl (lv_at hl 2 rfl) ?_
      refine lv_icmp_ge (tgt := 56) hx hb dX9_returnCrates_47 (by decide) (fun c_47 => ?_) (fun c_47 => ?_)
      · skip
        replace c_47 := cn_le (by omega) (by have := (hT.2.1 h (by omega)).2.1; omega) c_47
        refine lv_aload_n hx hb dX9_returnCrates_56 rfl (lv_at hl 0 rfl) ?_
        have hP : va_P D vwCl (mX mr rf st ln 0 pl hs vs dg xx ++ iaX cI (rf 0) 100 (qN (T 0 0) (T 0 1) (T 0 2) (T 0 3) (T 0 4) (T 0 5) (T 1) (T 2) (T 3) (T 4) (T 5) (T 6) (T 7) (T 8)) ++ iaX cI (rf 2) 1400 (rmQ Q)) _ := hP
        have hD : va_D A (mX mr rf st ln 0 pl hs vs dg xx ++ iaX cI (rf 0) 100 (qN (T 0 0) (T 0 1) (T 0 2) (T 0 3) (T 0 4) (T 0 5) (T 1) (T 2) (T 3) (T 4) (T 5) (T 6) (T 7) (T 8)) ++ iaX cI (rf 2) 1400 (rmQ Q)) := hD
        refine gp_V (ci := 9) (q0 := 0) (cq := (RX9, TX9, 15)) (c_X9_remember l D cI cZ cF cL mr rf st ln 0 pl hs vs dg xx (qN (T 0 0) (T 0 1) (T 0 2) (T 0 3) (T 0 4) (T 0 5) (T 1) (T 2) (T 3) (T 4) (T 5) (T 6) (T 7) (T 8)) Q hs14) (gUV u_515 u_516 u_517 u_5 u_518) rfl hdV_X9_remember ⟨Nat.le_of_ble_eq_true rfl, Nat.le_of_ble_eq_true rfl⟩ ⟨rfl, rfl⟩ hx hb hml hown hts hK hA hP hD hS hl.1 ⟨Nat.le_of_ble_eq_true rfl, Nat.le_of_ble_eq_true rfl⟩ rfl rfl rfl (wr := ([] : va_W)) (pm_cnt (fun _ => by simp only [List.countP_append, List.countP_nil, fT] <;> omega)) (fun _ => by simp only [List.map_append, List.map_nil, fX_m, bX_m, sX_m, pX_m, iaX_m, r5X_m, r6X_m, fT_m, hX_m, tX_m, xX_m, sgX_m, zaX_m, fsB_a, qX_m, mX_m]) (rest := []) rfl rfl (Nat.le_of_ble_eq_true rfl) dX9_returnCrates_57 (ws2 := (fun _ : Unit => (mX mr rf ((if st = 14 then 13 else st) + 1) ln 0 pl hs vs dg xx ++ iaX cI (rf 0) 100 (qN (T 0 0) (T 0 1) (T 0 2) (T 0 3) (T 0 4) (T 0 5) (T 1) (T 2) (T 3) (T 4) (T 5) (T 6) (T 7) (T 8)) ++ iaX cI (rf 2) 1400 (rmQ (va_up (if st = 14 then shQ Q else Q) (if st = 14 then 13 else st) (qN (T 0 0) (T 0 1) (T 0 2) (T 0 3) (T 0 4) (T 0 5) (T 1) (T 2) (T 3) (T 4) (T 5) (T 6) (T 7) (T 8))))))) (fun _ => (pm_cnt (fun _ => by simp only [List.countP_append, List.countP_nil, fT] <;> omega))) (fun _ Hp locs hP hD hS => ?_)
        have hP : va_P D vwCl (mX mr rf ((if st = 14 then 13 else st) + 1) ln 0 pl hs vs dg xx ++ qX cI (rf 0) (T 0 0) (T 0 1) (T 0 2) (T 0 3) (T 0 4) (T 0 5) (T 1) (T 2) (T 3) (T 4) (T 5) (T 6) (T 7) (T 8) ++ iaX cI (rf 2) 1400 (rmQ (va_up (if st = 14 then shQ Q else Q) (if st = 14 then 13 else st) (qN (T 0 0) (T 0 1) (T 0 2) (T 0 3) (T 0 4) (T 0 5) (T 1) (T 2) (T 3) (T 4) (T 5) (T 6) (T 7) (T 8))))) _ := hP
        have hD : va_D A (mX mr rf ((if st = 14 then 13 else st) + 1) ln 0 pl hs vs dg xx ++ qX cI (rf 0) (T 0 0) (T 0 1) (T 0 2) (T 0 3) (T 0 4) (T 0 5) (T 1) (T 2) (T 3) (T 4) (T 5) (T 6) (T 7) (T 8) ++ iaX cI (rf 2) 1400 (rmQ (va_up (if st = 14 then shQ Q else Q) (if st = 14 then 13 else st) (qN (T 0 0) (T 0 1) (T 0 2) (T 0 3) (T 0 4) (T 0 5) (T 1) (T 2) (T 3) (T 4) (T 5) (T 6) (T 7) (T 8))))) := hD
        refine lv_aload_n hx hb dX9_returnCrates_60 rfl (lv_at hl 0 rfl) ?_
        refine gf_n (C := RX9) (T := TX9) (N := 15) (ci := 9) (q0 := 0) (v := .ref (rf 0)) hx hb hts (iU inlX9) hown hK hP rfl rfl 0 (by decide) (kU u_129) rfl rfl dX9_returnCrates_61 ?_
        refine lv_iload_n hx hb dX9_returnCrates_64 rfl (lv_at hl 1 rfl) ?_
        refine gp_S (c_X9_size l D cI cZ cF cL h ) (gUS u_275 u_276 u_5 u_277) rfl hdS_X9_size ⟨Nat.le_of_ble_eq_true rfl, Nat.le_of_ble_eq_true rfl⟩ ⟨rfl, rfl⟩ hx hb hml hown hts hK hA hP hD hS hl.1 ⟨Nat.le_of_ble_eq_true rfl, Nat.le_of_ble_eq_true rfl⟩ (wr := (mX mr rf ((if st = 14 then 13 else st) + 1) ln 0 pl hs vs dg xx ++ qX cI (rf 0) (T 0 0) (T 0 1) (T 0 2) (T 0 3) (T 0 4) (T 0 5) (T 1) (T 2) (T 3) (T 4) (T 5) (T 6) (T 7) (T 8) ++ iaX cI (rf 2) 1400 (rmQ (va_up (if st = 14 then shQ Q else Q) (if st = 14 then 13 else st) (qN (T 0 0) (T 0 1) (T 0 2) (T 0 3) (T 0 4) (T 0 5) (T 1) (T 2) (T 3) (T 4) (T 5) (T 6) (T 7) (T 8)))))) (pm_cnt (fun _ => by simp only [List.countP_append, List.countP_nil, fT] <;> omega)) (fun _ => by simp only [List.map_append, List.map_nil, fX_m, bX_m, sX_m, pX_m, iaX_m, r5X_m, r6X_m, fT_m, hX_m, tX_m, xX_m, sgX_m, zaX_m, fsB_a, qX_m, mX_m]) (rest := [.ref (rf 0)]) rfl rfl (Nat.le_of_ble_eq_true rfl) dX9_returnCrates_65 (ws2 := (fun _ : Unit => (mX mr rf ((if st = 14 then 13 else st) + 1) ln 0 pl hs vs dg xx ++ qX cI (rf 0) (T 0 0) (T 0 1) (T 0 2) (T 0 3) (T 0 4) (T 0 5) (T 1) (T 2) (T 3) (T 4) (T 5) (T 6) (T 7) (T 8) ++ iaX cI (rf 2) 1400 (rmQ (va_up (if st = 14 then shQ Q else Q) (if st = 14 then 13 else st) (qN (T 0 0) (T 0 1) (T 0 2) (T 0 3) (T 0 4) (T 0 5) (T 1) (T 2) (T 3) (T 4) (T 5) (T 6) (T 7) (T 8))))))) (fun _ => (pm_cnt (fun _ => by simp only [List.countP_append, List.countP_nil, fT] <;> omega))) (fun _ Hp locs hP hD hS => ?_)
        refine lv_iconst (v := (nI 1)) hx hb dX9_returnCrates_68 (by decide) ?_
        refine lv_iadd hx hb dX9_returnCrates_69 ?_
        rw [nI_add (6 + 4 * h) 1]
        refine lv_dup2_11 hx hb dX9_returnCrates_70 rfl rfl ?_
        refine ia_n (q0 := 1) (t0 := 0) hx hb hK hP rfl rfl (by omega) (by decide) dX9_returnCrates_71 ?_
        rw [qR_2 (by omega)]
        refine lv_iload_n hx hb dX9_returnCrates_72 rfl (lv_at hl 2 rfl) ?_
        refine lv_isub hx hb dX9_returnCrates_73 ?_
        rw [pk_sub (a := (T 2) h) (b := n) hle]
        refine is_n (q0 := 1) (t0 := 0) (ws2 := (mX mr rf ((if st = 14 then 13 else st) + 1) ln 0 pl hs vs dg xx ++ qX cI (rf 0) (T 0 0) (T 0 1) (T 0 2) (T 0 3) (T 0 4) (T 0 5) (T 1) (va_up (T 2) h (((T 2) h) - n)) (T 3) (T 4) (T 5) (T 6) (T 7) (T 8) ++ iaX cI (rf 2) 1400 (rmQ (va_up (if st = 14 then shQ Q else Q) (if st = 14 then 13 else st) (qN (T 0 0) (T 0 1) (T 0 2) (T 0 3) (T 0 4) (T 0 5) (T 1) (T 2) (T 3) (T 4) (T 5) (T 6) (T 7) (T 8)))))) hx hb hK hP hD hS rfl rfl (by omega) (by decide) dX9_returnCrates_74 (by rw [qU_2 (by omega)]; rfl) (fun Hp locs hP hD hS => ?_)
        refine lv_aload_n hx hb dX9_returnCrates_75 rfl (lv_at hl 0 rfl) ?_
        refine gf_n (C := RX9) (T := TX9) (N := 15) (ci := 9) (q0 := 0) (v := .ref (rf 0)) hx hb hts (iU inlX9) hown hK hP rfl rfl 0 (by decide) (kU u_129) rfl rfl dX9_returnCrates_76 ?_
        refine lv_iload_n hx hb dX9_returnCrates_79 rfl (lv_at hl 1 rfl) ?_
        refine gp_S (c_X9_size l D cI cZ cF cL h ) (gUS u_275 u_276 u_5 u_277) rfl hdS_X9_size ⟨Nat.le_of_ble_eq_true rfl, Nat.le_of_ble_eq_true rfl⟩ ⟨rfl, rfl⟩ hx hb hml hown hts hK hA hP hD hS hl.1 ⟨Nat.le_of_ble_eq_true rfl, Nat.le_of_ble_eq_true rfl⟩ (wr := (mX mr rf ((if st = 14 then 13 else st) + 1) ln 0 pl hs vs dg xx ++ qX cI (rf 0) (T 0 0) (T 0 1) (T 0 2) (T 0 3) (T 0 4) (T 0 5) (T 1) (va_up (T 2) h (((T 2) h) - n)) (T 3) (T 4) (T 5) (T 6) (T 7) (T 8) ++ iaX cI (rf 2) 1400 (rmQ (va_up (if st = 14 then shQ Q else Q) (if st = 14 then 13 else st) (qN (T 0 0) (T 0 1) (T 0 2) (T 0 3) (T 0 4) (T 0 5) (T 1) (T 2) (T 3) (T 4) (T 5) (T 6) (T 7) (T 8)))))) (pm_cnt (fun _ => by simp only [List.countP_append, List.countP_nil, fT] <;> omega)) (fun _ => by simp only [List.map_append, List.map_nil, fX_m, bX_m, sX_m, pX_m, iaX_m, r5X_m, r6X_m, fT_m, hX_m, tX_m, xX_m, sgX_m, zaX_m, fsB_a, qX_m, mX_m]) (rest := [.ref (rf 0)]) rfl rfl (Nat.le_of_ble_eq_true rfl) dX9_returnCrates_80 (ws2 := (fun _ : Unit => (mX mr rf ((if st = 14 then 13 else st) + 1) ln 0 pl hs vs dg xx ++ qX cI (rf 0) (T 0 0) (T 0 1) (T 0 2) (T 0 3) (T 0 4) (T 0 5) (T 1) (va_up (T 2) h (((T 2) h) - n)) (T 3) (T 4) (T 5) (T 6) (T 7) (T 8) ++ iaX cI (rf 2) 1400 (rmQ (va_up (if st = 14 then shQ Q else Q) (if st = 14 then 13 else st) (qN (T 0 0) (T 0 1) (T 0 2) (T 0 3) (T 0 4) (T 0 5) (T 1) (T 2) (T 3) (T 4) (T 5) (T 6) (T 7) (T 8))))))) (fun _ => (pm_cnt (fun _ => by simp only [List.countP_append, List.countP_nil, fT] <;> omega))) (fun _ Hp locs hP hD hS => ?_)
        refine lv_iconst (v := (nI 1)) hx hb dX9_returnCrates_83 (by decide) ?_
        refine lv_iadd hx hb dX9_returnCrates_84 ?_
        rw [nI_add (6 + 4 * h) 1]
        refine ia_n (q0 := 1) (t0 := 0) hx hb hK hP rfl rfl (by omega) (by decide) dX9_returnCrates_85 ?_
        rw [qR_2 (by omega)]
        rw [show (nI ((va_up (T 2) h (((T 2) h) - n)) h)) = (nI (T 2 h - n)) from congrArg nI up_s]
        have hP : va_P D vwCl (mX mr rf ((if st = 14 then 13 else st) + 1) ln 0 pl hs vs dg xx ++ qX cI (rf 0) ((owT T h (T 2 h - n)) 0 0) ((owT T h (T 2 h - n)) 0 1) ((owT T h (T 2 h - n)) 0 2) ((owT T h (T 2 h - n)) 0 3) ((owT T h (T 2 h - n)) 0 4) ((owT T h (T 2 h - n)) 0 5) ((owT T h (T 2 h - n)) 1) ((owT T h (T 2 h - n)) 2) ((owT T h (T 2 h - n)) 3) ((owT T h (T 2 h - n)) 4) ((owT T h (T 2 h - n)) 5) ((owT T h (T 2 h - n)) 6) ((owT T h (T 2 h - n)) 7) ((owT T h (T 2 h - n)) 8) ++ iaX cI (rf 2) 1400 (rmQ (va_up (if st = 14 then shQ Q else Q) (if st = 14 then 13 else st) (qN (T 0 0) (T 0 1) (T 0 2) (T 0 3) (T 0 4) (T 0 5) (T 1) (T 2) (T 3) (T 4) (T 5) (T 6) (T 7) (T 8))))) Hp := hP
        have hD : va_D A (mX mr rf ((if st = 14 then 13 else st) + 1) ln 0 pl hs vs dg xx ++ qX cI (rf 0) ((owT T h (T 2 h - n)) 0 0) ((owT T h (T 2 h - n)) 0 1) ((owT T h (T 2 h - n)) 0 2) ((owT T h (T 2 h - n)) 0 3) ((owT T h (T 2 h - n)) 0 4) ((owT T h (T 2 h - n)) 0 5) ((owT T h (T 2 h - n)) 1) ((owT T h (T 2 h - n)) 2) ((owT T h (T 2 h - n)) 3) ((owT T h (T 2 h - n)) 4) ((owT T h (T 2 h - n)) 5) ((owT T h (T 2 h - n)) 6) ((owT T h (T 2 h - n)) 7) ((owT T h (T 2 h - n)) 8) ++ iaX cI (rf 2) 1400 (rmQ (va_up (if st = 14 then shQ Q else Q) (if st = 14 then 13 else st) (qN (T 0 0) (T 0 1) (T 0 2) (T 0 3) (T 0 4) (T 0 5) (T 1) (T 2) (T 3) (T 4) (T 5) (T 6) (T 7) (T 8))))) := hD
        exact ct_i () hx hb hr hlocks hP hS rfl dX9_returnCrates_86
      · skip
        replace c_47 := cn_nle (by omega) (by have := (hT.2.1 h (by omega)).2.1; omega) c_47
        (exfalso; omega)
    · skip
      replace c_26 := cb_z c_26
      (exact absurd ((in_n (by omega) (by decide) (by decide)).mpr ⟨by omega, by omega⟩) c_26)
  · skip
    replace c_10 := cb_z c_10
    (exact absurd (hhV hh hT.1.1) c_10)
set_option maxRecDepth 20000 in
theorem u_706 : Cond.code yX9_gives cX9_gives 4 (some .int) ∈ wsL_law := List.mem_of_getElem? (i := 706) (by decide +kernel)
set_option maxRecDepth 20000 in
theorem u_703 : Cond.methodLink RX9 144 yX9_gives ∈ wsL_law := List.mem_of_getElem? (i := 703) (by decide +kernel)
set_option maxRecDepth 20000 in
theorem u_704 : Cond.instanceMethod yX9_gives ∈ wsL_law := List.mem_of_getElem? (i := 704) (by decide +kernel)
set_option maxRecDepth 20000 in
theorem u_705 : Cond.selects RX9 yX9_gives yX9_gives ∈ wsL_law := List.mem_of_getElem? (i := 705) (by decide +kernel)
theorem hdV_X9_gives : yX9_gives.cls = RX9 ∧ yX9_gives.cls ≠ "java/lang/invoke/MethodHandle" ∧ yX9_gives.cls ≠ "java/lang/invoke/VarHandle" ∧ (parseMethodDescriptor yX9_gives.desc).map (fun d => d.parameters.length) = some 3 := by decide +kernel
set_option maxHeartbeats 4000000 in
set_option maxRecDepth 100000 in
theorem c_X9_give (l : Launch) (D : va_G) (cI cZ cF cL : ClassId) (mr : Nat) (rf : Nat → Nat) (st ln th pl hs vs : Nat) (dg : Int32) (xx : Int64) (T : Nat → Nat → Nat) (Q : Nat → Nat → Nat) (h v n : Nat) (hT : FI T) (hs14 : st ≤ 14) (hh : h < T 0 0) (hv : v < T 0 1) (h1n : 1 ≤ n) (hn40 : n ≤ 40) (hle : n ≤ T 8 (h * 5 + v)) : CT l D (tysX cI cZ cF cL) yX9_give (wA yX9_give cX9_give 4 (some .int)) (rmF 2 44) [.ref mr, .int (nI h), .int (nI v), .int (nI n)] (mX mr rf st ln th pl hs vs dg xx ++ qX cI (rf 0) (T 0 0) (T 0 1) (T 0 2) (T 0 3) (T 0 4) (T 0 5) (T 1) (T 2) (T 3) (T 4) (T 5) (T 6) (T 7) (T 8) ++ iaX cI (rf 2) 1400 (rmQ Q)) (some (.int (nI (T 8 (h * 5 + v) - n)))) (fun _ : Unit => (mX mr rf ((if st = 14 then 13 else st) + 1) ln 0 pl hs vs dg xx ++ qX cI (rf 0) ((gvT T h v n) 0 0) ((gvT T h v n) 0 1) ((gvT T h v n) 0 2) ((gvT T h v n) 0 3) ((gvT T h v n) 0 4) ((gvT T h v n) 0 5) ((gvT T h v n) 1) ((gvT T h v n) 2) ((gvT T h v n) 3) ((gvT T h v n) 4) ((gvT T h v n) 5) ((gvT T h v n) 6) ((gvT T h v n) 7) ((gvT T h v n) 8) ++ iaX cI (rf 2) 1400 (rmQ (va_up (if st = 14 then shQ Q else Q) (if st = 14 then 13 else st) (qN (T 0 0) (T 0 1) (T 0 2) (T 0 3) (T 0 4) (T 0 5) (T 1) (T 2) (T 3) (T 4) (T 5) (T 6) (T 7) (T 8)))))) := by
  refine ct_in (cc := cX9_give) (maxL := 4) (ret := (some .int)) (own := RX9) (lv := [(0, .ref mr), (1, .int (nI h)), (2, .int (nI v)), (3, .int (nI n))]) (by decide +kernel) rfl rfl (Nat.le_of_ble_eq_true rfl) rfl ?_
  intro p e s m args below meth c A ls hx hb hr hml hts hown hlocks hK hA hP hD hS hl
  have hH := hT.1.1
  have hV := hT.1.2
  refine lv_aload_n hx hb dX9_give_0 rfl (lv_at hl 0 rfl) ?_
  refine lv_iconst (v := (nI 0)) hx hb dX9_give_1 (by decide) ?_
  refine pf_n (C := RX9) (T := TX9) (N := 15) (ci := 9) (q0 := 0) (ty := .int) (v := .int (nI 0)) (ws2 := (mX mr rf st ln 0 pl hs vs dg xx ++ qX cI (rf 0) (T 0 0) (T 0 1) (T 0 2) (T 0 3) (T 0 4) (T 0 5) (T 1) (T 2) (T 3) (T 4) (T 5) (T 6) (T 7) (T 8) ++ iaX cI (rf 2) 1400 (rmQ Q))) hx hb hts (iU inlX9) tyX9 tyX9_ok nmX9 hown hK hP hD hS rfl rfl 8 (by decide) (kU u_173) rfl rfl (tyX9_ok 8 (by decide)) rfl rfl (Nat.le_of_ble_eq_true rfl) dX9_give_2 rfl (fun Hp locs hP hD hS => ?_)
  refine lv_aload_n hx hb dX9_give_5 rfl (lv_at hl 0 rfl) ?_
  refine lv_iload_n hx hb dX9_give_6 rfl (lv_at hl 1 rfl) ?_
  refine gp_V (ci := 9) (q0 := 0) (cq := (RX9, TX9, 15)) (c_X9_isHouse l D cI cZ cF cL mr rf st ln 0 pl hs vs dg xx (T 0 0) (T 0 1) (T 0 2) (T 0 3) (T 0 4) (T 0 5) (T 1) (T 2) (T 3) (T 4) (T 5) (T 6) (T 7) (T 8) ((nI h)) (by omega) (by omega)) (gUV u_397 u_398 u_399 u_5 u_400) rfl hdV_X9_isHouse ⟨Nat.le_of_ble_eq_true rfl, Nat.le_of_ble_eq_true rfl⟩ ⟨rfl, rfl⟩ hx hb hml hown hts hK hA hP hD hS hl.1 ⟨Nat.le_of_ble_eq_true rfl, Nat.le_of_ble_eq_true rfl⟩ rfl rfl rfl (wr := (iaX cI (rf 2) 1400 (rmQ Q))) (pm_cnt (fun _ => by simp only [List.countP_append, List.countP_nil, fT] <;> omega)) (fun _ => by simp only [List.map_append, List.map_nil, fX_m, bX_m, sX_m, pX_m, iaX_m, r5X_m, r6X_m, fT_m, hX_m, tX_m, xX_m, sgX_m, zaX_m, fsB_a, qX_m, mX_m]) (rest := []) rfl rfl (Nat.le_of_ble_eq_true rfl) dX9_give_7 (ws2 := (fun _ : Unit => (mX mr rf st ln 0 pl hs vs dg xx ++ qX cI (rf 0) (T 0 0) (T 0 1) (T 0 2) (T 0 3) (T 0 4) (T 0 5) (T 1) (T 2) (T 3) (T 4) (T 5) (T 6) (T 7) (T 8) ++ iaX cI (rf 2) 1400 (rmQ Q)))) (fun _ => (pm_cnt (fun _ => by simp only [List.countP_append, List.countP_nil, fT] <;> omega))) (fun _ Hp locs hP hD hS => ?_)
  refine lv_if_eq (tgt := 21) hx hb dX9_give_10 (by decide) (fun c_10 => ?_) (fun c_10 => ?_)
  · skip
    replace c_10 := cb_z c_10
    (exact absurd (hhV hh hT.1.1) c_10)
  · skip
    replace c_10 := cb_nz c_10
    refine lv_aload_n hx hb dX9_give_13 rfl (lv_at hl 0 rfl) ?_
    refine lv_iload_n hx hb dX9_give_14 rfl (lv_at hl 2 rfl) ?_
    refine gp_V (ci := 9) (q0 := 0) (cq := (RX9, TX9, 15)) (c_X9_isVegetable l D cI cZ cF cL mr rf st ln 0 pl hs vs dg xx (T 0 0) (T 0 1) (T 0 2) (T 0 3) (T 0 4) (T 0 5) (T 1) (T 2) (T 3) (T 4) (T 5) (T 6) (T 7) (T 8) ((nI v)) (by omega) (by omega)) (gUV u_450 u_451 u_452 u_5 u_453) rfl hdV_X9_isVegetable ⟨Nat.le_of_ble_eq_true rfl, Nat.le_of_ble_eq_true rfl⟩ ⟨rfl, rfl⟩ hx hb hml hown hts hK hA hP hD hS hl.1 ⟨Nat.le_of_ble_eq_true rfl, Nat.le_of_ble_eq_true rfl⟩ rfl rfl rfl (wr := (iaX cI (rf 2) 1400 (rmQ Q))) (pm_cnt (fun _ => by simp only [List.countP_append, List.countP_nil, fT] <;> omega)) (fun _ => by simp only [List.map_append, List.map_nil, fX_m, bX_m, sX_m, pX_m, iaX_m, r5X_m, r6X_m, fT_m, hX_m, tX_m, xX_m, sgX_m, zaX_m, fsB_a, qX_m, mX_m]) (rest := []) rfl rfl (Nat.le_of_ble_eq_true rfl) dX9_give_15 (ws2 := (fun _ : Unit => (mX mr rf st ln 0 pl hs vs dg xx ++ qX cI (rf 0) (T 0 0) (T 0 1) (T 0 2) (T 0 3) (T 0 4) (T 0 5) (T 1) (T 2) (T 3) (T 4) (T 5) (T 6) (T 7) (T 8) ++ iaX cI (rf 2) 1400 (rmQ Q)))) (fun _ => (pm_cnt (fun _ => by simp only [List.countP_append, List.countP_nil, fT] <;> omega))) (fun _ Hp locs hP hD hS => ?_)
    refine lv_if_ne (tgt := 27) hx hb dX9_give_18 (by decide) (fun c_18 => ?_) (fun c_18 => ?_)
    · skip
      replace c_18 := cb_nz c_18
      refine lv_iload_n hx hb dX9_give_27 rfl (lv_at hl 3 rfl) ?_
      refine lv_iconst (v := (nI 1)) hx hb dX9_give_28 (by decide) ?_
      refine lv_bipush (v := (nI 40)) hx hb dX9_give_29 (by decide) ?_
      refine gp_S (c_X9_in l D cI cZ cF cL ((nI n)) ((nI 1)) ((nI 40)) ) (gUS u_140 u_141 u_5 u_142) rfl hdS_X9_in ⟨Nat.le_of_ble_eq_true rfl, Nat.le_of_ble_eq_true rfl⟩ ⟨rfl, rfl⟩ hx hb hml hown hts hK hA hP hD hS hl.1 ⟨Nat.le_of_ble_eq_true rfl, Nat.le_of_ble_eq_true rfl⟩ (wr := (mX mr rf st ln 0 pl hs vs dg xx ++ qX cI (rf 0) (T 0 0) (T 0 1) (T 0 2) (T 0 3) (T 0 4) (T 0 5) (T 1) (T 2) (T 3) (T 4) (T 5) (T 6) (T 7) (T 8) ++ iaX cI (rf 2) 1400 (rmQ Q))) (pm_cnt (fun _ => by simp only [List.countP_append, List.countP_nil, fT] <;> omega)) (fun _ => by simp only [List.map_append, List.map_nil, fX_m, bX_m, sX_m, pX_m, iaX_m, r5X_m, r6X_m, fT_m, hX_m, tX_m, xX_m, sgX_m, zaX_m, fsB_a, qX_m, mX_m]) (rest := []) rfl rfl (Nat.le_of_ble_eq_true rfl) dX9_give_31 (ws2 := (fun _ : Unit => (mX mr rf st ln 0 pl hs vs dg xx ++ qX cI (rf 0) (T 0 0) (T 0 1) (T 0 2) (T 0 3) (T 0 4) (T 0 5) (T 1) (T 2) (T 3) (T 4) (T 5) (T 6) (T 7) (T 8) ++ iaX cI (rf 2) 1400 (rmQ Q)))) (fun _ => (pm_cnt (fun _ => by simp only [List.countP_append, List.countP_nil, fT] <;> omega))) (fun _ Hp locs hP hD hS => ?_)
      refine lv_if_ne (tgt := 43) hx hb dX9_give_34 (by decide) (fun c_34 => ?_) (fun c_34 => ?_)
      · skip
        replace c_34 := cb_nz c_34
        refine lv_aload_n hx hb dX9_give_43 rfl (lv_at hl 0 rfl) ?_
        refine gf_n (C := RX9) (T := TX9) (N := 15) (ci := 9) (q0 := 0) (v := .ref (rf 0)) hx hb hts (iU inlX9) hown hK hP rfl rfl 0 (by decide) (kU u_129) rfl rfl dX9_give_44 ?_
        refine lv_iload_n hx hb dX9_give_47 rfl (lv_at hl 1 rfl) ?_
        refine lv_iload_n hx hb dX9_give_48 rfl (lv_at hl 2 rfl) ?_
        refine gp_S (c_X9_kilos l D cI cZ cF cL h v ) (gUS u_354 u_355 u_5 u_356) rfl hdS_X9_kilos ⟨Nat.le_of_ble_eq_true rfl, Nat.le_of_ble_eq_true rfl⟩ ⟨rfl, rfl⟩ hx hb hml hown hts hK hA hP hD hS hl.1 ⟨Nat.le_of_ble_eq_true rfl, Nat.le_of_ble_eq_true rfl⟩ (wr := (mX mr rf st ln 0 pl hs vs dg xx ++ qX cI (rf 0) (T 0 0) (T 0 1) (T 0 2) (T 0 3) (T 0 4) (T 0 5) (T 1) (T 2) (T 3) (T 4) (T 5) (T 6) (T 7) (T 8) ++ iaX cI (rf 2) 1400 (rmQ Q))) (pm_cnt (fun _ => by simp only [List.countP_append, List.countP_nil, fT] <;> omega)) (fun _ => by simp only [List.map_append, List.map_nil, fX_m, bX_m, sX_m, pX_m, iaX_m, r5X_m, r6X_m, fT_m, hX_m, tX_m, xX_m, sgX_m, zaX_m, fsB_a, qX_m, mX_m]) (rest := [.ref (rf 0)]) rfl rfl (Nat.le_of_ble_eq_true rfl) dX9_give_49 (ws2 := (fun _ : Unit => (mX mr rf st ln 0 pl hs vs dg xx ++ qX cI (rf 0) (T 0 0) (T 0 1) (T 0 2) (T 0 3) (T 0 4) (T 0 5) (T 1) (T 2) (T 3) (T 4) (T 5) (T 6) (T 7) (T 8) ++ iaX cI (rf 2) 1400 (rmQ Q)))) (fun _ => (pm_cnt (fun _ => by simp only [List.countP_append, List.countP_nil, fT] <;> omega))) (fun _ Hp locs hP hD hS => ?_)
        refine ia_n (q0 := 1) (t0 := 0) hx hb hK hP rfl rfl (by omega) (by decide) dX9_give_52 ?_
        rw [qR_8 (by omega) (by omega)]
        refine lv_iload_n hx hb dX9_give_53 rfl (lv_at hl 3 rfl) ?_
        refine lv_icmp_ge (tgt := 63) hx hb dX9_give_54 (by decide) (fun c_54 => ?_) (fun c_54 => ?_)
        · skip
          replace c_54 := cn_le (by omega) (by have := FI_8 hT (k := h * 5 + v) (by omega); omega) c_54
          refine lv_aload_n hx hb dX9_give_63 rfl (lv_at hl 0 rfl) ?_
          have hP : va_P D vwCl (mX mr rf st ln 0 pl hs vs dg xx ++ iaX cI (rf 0) 100 (qN (T 0 0) (T 0 1) (T 0 2) (T 0 3) (T 0 4) (T 0 5) (T 1) (T 2) (T 3) (T 4) (T 5) (T 6) (T 7) (T 8)) ++ iaX cI (rf 2) 1400 (rmQ Q)) _ := hP
          have hD : va_D A (mX mr rf st ln 0 pl hs vs dg xx ++ iaX cI (rf 0) 100 (qN (T 0 0) (T 0 1) (T 0 2) (T 0 3) (T 0 4) (T 0 5) (T 1) (T 2) (T 3) (T 4) (T 5) (T 6) (T 7) (T 8)) ++ iaX cI (rf 2) 1400 (rmQ Q)) := hD
          refine gp_V (ci := 9) (q0 := 0) (cq := (RX9, TX9, 15)) (c_X9_remember l D cI cZ cF cL mr rf st ln 0 pl hs vs dg xx (qN (T 0 0) (T 0 1) (T 0 2) (T 0 3) (T 0 4) (T 0 5) (T 1) (T 2) (T 3) (T 4) (T 5) (T 6) (T 7) (T 8)) Q hs14) (gUV u_515 u_516 u_517 u_5 u_518) rfl hdV_X9_remember ⟨Nat.le_of_ble_eq_true rfl, Nat.le_of_ble_eq_true rfl⟩ ⟨rfl, rfl⟩ hx hb hml hown hts hK hA hP hD hS hl.1 ⟨Nat.le_of_ble_eq_true rfl, Nat.le_of_ble_eq_true rfl⟩ rfl rfl rfl (wr := ([] : va_W)) (pm_cnt (fun _ => by simp only [List.countP_append, List.countP_nil, fT] <;> omega)) (fun _ => by simp only [List.map_append, List.map_nil, fX_m, bX_m, sX_m, pX_m, iaX_m, r5X_m, r6X_m, fT_m, hX_m, tX_m, xX_m, sgX_m, zaX_m, fsB_a, qX_m, mX_m]) (rest := []) rfl rfl (Nat.le_of_ble_eq_true rfl) dX9_give_64 (ws2 := (fun _ : Unit => (mX mr rf ((if st = 14 then 13 else st) + 1) ln 0 pl hs vs dg xx ++ iaX cI (rf 0) 100 (qN (T 0 0) (T 0 1) (T 0 2) (T 0 3) (T 0 4) (T 0 5) (T 1) (T 2) (T 3) (T 4) (T 5) (T 6) (T 7) (T 8)) ++ iaX cI (rf 2) 1400 (rmQ (va_up (if st = 14 then shQ Q else Q) (if st = 14 then 13 else st) (qN (T 0 0) (T 0 1) (T 0 2) (T 0 3) (T 0 4) (T 0 5) (T 1) (T 2) (T 3) (T 4) (T 5) (T 6) (T 7) (T 8))))))) (fun _ => (pm_cnt (fun _ => by simp only [List.countP_append, List.countP_nil, fT] <;> omega))) (fun _ Hp locs hP hD hS => ?_)
          have hP : va_P D vwCl (mX mr rf ((if st = 14 then 13 else st) + 1) ln 0 pl hs vs dg xx ++ qX cI (rf 0) (T 0 0) (T 0 1) (T 0 2) (T 0 3) (T 0 4) (T 0 5) (T 1) (T 2) (T 3) (T 4) (T 5) (T 6) (T 7) (T 8) ++ iaX cI (rf 2) 1400 (rmQ (va_up (if st = 14 then shQ Q else Q) (if st = 14 then 13 else st) (qN (T 0 0) (T 0 1) (T 0 2) (T 0 3) (T 0 4) (T 0 5) (T 1) (T 2) (T 3) (T 4) (T 5) (T 6) (T 7) (T 8))))) _ := hP
          have hD : va_D A (mX mr rf ((if st = 14 then 13 else st) + 1) ln 0 pl hs vs dg xx ++ qX cI (rf 0) (T 0 0) (T 0 1) (T 0 2) (T 0 3) (T 0 4) (T 0 5) (T 1) (T 2) (T 3) (T 4) (T 5) (T 6) (T 7) (T 8) ++ iaX cI (rf 2) 1400 (rmQ (va_up (if st = 14 then shQ Q else Q) (if st = 14 then 13 else st) (qN (T 0 0) (T 0 1) (T 0 2) (T 0 3) (T 0 4) (T 0 5) (T 1) (T 2) (T 3) (T 4) (T 5) (T 6) (T 7) (T 8))))) := hD
          refine lv_aload_n hx hb dX9_give_67 rfl (lv_at hl 0 rfl) ?_
          refine lv_iload_n hx hb dX9_give_68 rfl (lv_at hl 1 rfl) ?_
          refine lv_iload_n hx hb dX9_give_69 rfl (lv_at hl 2 rfl) ?_
          refine lv_iload_n hx hb dX9_give_70 rfl (lv_at hl 3 rfl) ?_
          refine gp_V (ci := 9) (q0 := 0) (cq := (RX9, TX9, 15)) (c_X9_gives l D cI cZ cF cL mr rf ((if st = 14 then 13 else st) + 1) ln 0 pl hs vs dg xx (T 0 0) (T 0 1) (T 0 2) (T 0 3) (T 0 4) (T 0 5) (T 1) (T 2) (T 3) (T 4) (T 5) (T 6) (T 7) (T 8) h v n (by omega) (by omega) hle) (gUV u_703 u_704 u_705 u_5 u_706) rfl hdV_X9_gives ⟨Nat.le_of_ble_eq_true rfl, Nat.le_of_ble_eq_true rfl⟩ ⟨rfl, rfl⟩ hx hb hml hown hts hK hA hP hD hS hl.1 ⟨Nat.le_of_ble_eq_true rfl, Nat.le_of_ble_eq_true rfl⟩ rfl rfl rfl (wr := (iaX cI (rf 2) 1400 (rmQ (va_up (if st = 14 then shQ Q else Q) (if st = 14 then 13 else st) (qN (T 0 0) (T 0 1) (T 0 2) (T 0 3) (T 0 4) (T 0 5) (T 1) (T 2) (T 3) (T 4) (T 5) (T 6) (T 7) (T 8)))))) (pm_cnt (fun _ => by simp only [List.countP_append, List.countP_nil, fT] <;> omega)) (fun _ => by simp only [List.map_append, List.map_nil, fX_m, bX_m, sX_m, pX_m, iaX_m, r5X_m, r6X_m, fT_m, hX_m, tX_m, xX_m, sgX_m, zaX_m, fsB_a, qX_m, mX_m]) (rest := []) rfl rfl (Nat.le_of_ble_eq_true rfl) dX9_give_71 (ws2 := (fun _ : Unit => (mX mr rf ((if st = 14 then 13 else st) + 1) ln 0 pl hs vs dg xx ++ qX cI (rf 0) (T 0 0) (T 0 1) (T 0 2) (T 0 3) ((T 0 4) + n) (T 0 5) (T 1) (T 2) (T 3) (T 4) (T 5) (T 6) (T 7) (va_up (T 8) (h * 5 + v) ((T 8) (h * 5 + v) - n)) ++ iaX cI (rf 2) 1400 (rmQ (va_up (if st = 14 then shQ Q else Q) (if st = 14 then 13 else st) (qN (T 0 0) (T 0 1) (T 0 2) (T 0 3) (T 0 4) (T 0 5) (T 1) (T 2) (T 3) (T 4) (T 5) (T 6) (T 7) (T 8))))))) (fun _ => (pm_cnt (fun _ => by simp only [List.countP_append, List.countP_nil, fT] <;> omega))) (fun _ Hp locs hP hD hS => ?_)
          have hP : va_P D vwCl (mX mr rf ((if st = 14 then 13 else st) + 1) ln 0 pl hs vs dg xx ++ qX cI (rf 0) ((gvT T h v n) 0 0) ((gvT T h v n) 0 1) ((gvT T h v n) 0 2) ((gvT T h v n) 0 3) ((gvT T h v n) 0 4) ((gvT T h v n) 0 5) ((gvT T h v n) 1) ((gvT T h v n) 2) ((gvT T h v n) 3) ((gvT T h v n) 4) ((gvT T h v n) 5) ((gvT T h v n) 6) ((gvT T h v n) 7) ((gvT T h v n) 8) ++ iaX cI (rf 2) 1400 (rmQ (va_up (if st = 14 then shQ Q else Q) (if st = 14 then 13 else st) (qN (T 0 0) (T 0 1) (T 0 2) (T 0 3) (T 0 4) (T 0 5) (T 1) (T 2) (T 3) (T 4) (T 5) (T 6) (T 7) (T 8))))) Hp := hP
          have hD : va_D A (mX mr rf ((if st = 14 then 13 else st) + 1) ln 0 pl hs vs dg xx ++ qX cI (rf 0) ((gvT T h v n) 0 0) ((gvT T h v n) 0 1) ((gvT T h v n) 0 2) ((gvT T h v n) 0 3) ((gvT T h v n) 0 4) ((gvT T h v n) 0 5) ((gvT T h v n) 1) ((gvT T h v n) 2) ((gvT T h v n) 3) ((gvT T h v n) 4) ((gvT T h v n) 5) ((gvT T h v n) 6) ((gvT T h v n) 7) ((gvT T h v n) 8) ++ iaX cI (rf 2) 1400 (rmQ (va_up (if st = 14 then shQ Q else Q) (if st = 14 then 13 else st) (qN (T 0 0) (T 0 1) (T 0 2) (T 0 3) (T 0 4) (T 0 5) (T 1) (T 2) (T 3) (T 4) (T 5) (T 6) (T 7) (T 8))))) := hD
          exact ct_i () hx hb hr hlocks hP hS rfl dX9_give_74
        · skip
          replace c_54 := cn_nle (by omega) (by have := FI_8 hT (k := h * 5 + v) (by omega); omega) c_54
          (exfalso; omega)
      · skip
        replace c_34 := cb_z c_34
        (exact absurd ((in_n (by omega) (by decide) (by decide)).mpr ⟨by omega, by omega⟩) c_34)
    · skip
      replace c_18 := cb_z c_18
      (exact absurd (hhV hv (Nat.le_trans hT.1.2 (by decide))) c_18)
set_option maxHeartbeats 4000000 in
set_option maxRecDepth 100000 in
theorem c_X9_undo (l : Launch) (D : va_G) (cI cZ cF cL : ClassId) (mr : Nat) (rf : Nat → Nat) (st ln th pl hs vs : Nat) (dg : Int32) (xx : Int64) (T : Nat → Nat → Nat) (Q : Nat → Nat → Nat) (hT : FI T) (hs14 : st ≤ 14) (hs0 : 0 < st) : CT l D (tysX cI cZ cF cL) yX9_undo (wA yX9_undo cX9_undo 2 (some .int)) (rmF 0 0) [.ref mr] (mX mr rf st ln th pl hs vs dg xx ++ qX cI (rf 0) (T 0 0) (T 0 1) (T 0 2) (T 0 3) (T 0 4) (T 0 5) (T 1) (T 2) (T 3) (T 4) (T 5) (T 6) (T 7) (T 8) ++ iaX cI (rf 2) 1400 (rmQ Q)) (some (.int (nI (st - 1)))) (fun _ : Unit => (mX mr rf (st - 1) ln 0 pl hs vs dg xx ++ iaX cI (rf 0) 100 (Q (st - 1)) ++ iaX cI (rf 2) 1400 (rmQ Q))) := by
  refine ct_in (cc := cX9_undo) (maxL := 2) (ret := (some .int)) (own := RX9) (lv := [(0, .ref mr)]) (by decide +kernel) rfl rfl (Nat.le_of_ble_eq_true rfl) rfl ?_
  intro p e s m args below meth c A ls hx hb hr hml hts hown hlocks hK hA hP hD hS hl
  have hH := hT.1.1
  have hV := hT.1.2
  refine lv_aload_n hx hb dX9_undo_0 rfl (lv_at hl 0 rfl) ?_
  refine lv_iconst (v := (nI 0)) hx hb dX9_undo_1 (by decide) ?_
  refine pf_n (C := RX9) (T := TX9) (N := 15) (ci := 9) (q0 := 0) (ty := .int) (v := .int (nI 0)) (ws2 := (mX mr rf st ln 0 pl hs vs dg xx ++ qX cI (rf 0) (T 0 0) (T 0 1) (T 0 2) (T 0 3) (T 0 4) (T 0 5) (T 1) (T 2) (T 3) (T 4) (T 5) (T 6) (T 7) (T 8) ++ iaX cI (rf 2) 1400 (rmQ Q))) hx hb hts (iU inlX9) tyX9 tyX9_ok nmX9 hown hK hP hD hS rfl rfl 8 (by decide) (kU u_173) rfl rfl (tyX9_ok 8 (by decide)) rfl rfl (Nat.le_of_ble_eq_true rfl) dX9_undo_2 rfl (fun Hp locs hP hD hS => ?_)
  refine lv_aload_n hx hb dX9_undo_5 rfl (lv_at hl 0 rfl) ?_
  refine gf_n (C := RX9) (T := TX9) (N := 15) (ci := 9) (q0 := 0) (v := .int (nI st)) hx hb hts (iU inlX9) hown hK hP rfl rfl 3 (by decide) (kU u_309) rfl rfl dX9_undo_6 ?_
  refine lv_if_ne (tgt := 18) hx hb dX9_undo_9 (by decide) (fun c_9 => ?_) (fun c_9 => ?_)
  · skip
    replace c_9 := cn_ne (b := 0) c_9
    refine lv_aload_n hx hb dX9_undo_18 rfl (lv_at hl 0 rfl) ?_
    refine lv_dup hx hb dX9_undo_19 rfl ?_
    refine gf_n (C := RX9) (T := TX9) (N := 15) (ci := 9) (q0 := 0) (v := .int (nI st)) hx hb hts (iU inlX9) hown hK hP rfl rfl 3 (by decide) (kU u_309) rfl rfl dX9_undo_20 ?_
    refine lv_iconst (v := (nI 1)) hx hb dX9_undo_23 (by decide) ?_
    refine lv_isub hx hb dX9_undo_24 ?_
    rw [pk_sub (a := st) (b := 1) (by omega)]
    refine pf_n (C := RX9) (T := TX9) (N := 15) (ci := 9) (q0 := 0) (ty := .int) (v := .int (nI (st - 1))) (ws2 := (mX mr rf (st - 1) ln 0 pl hs vs dg xx ++ qX cI (rf 0) (T 0 0) (T 0 1) (T 0 2) (T 0 3) (T 0 4) (T 0 5) (T 1) (T 2) (T 3) (T 4) (T 5) (T 6) (T 7) (T 8) ++ iaX cI (rf 2) 1400 (rmQ Q))) hx hb hts (iU inlX9) tyX9 tyX9_ok nmX9 hown hK hP hD hS rfl rfl 3 (by decide) (kU u_309) rfl rfl (tyX9_ok 3 (by decide)) rfl rfl (Nat.le_of_ble_eq_true rfl) dX9_undo_25 rfl (fun Hp locs hP hD hS => ?_)
    refine lv_iconst (v := (nI 0)) hx hb dX9_undo_28 (by decide) ?_
    have hP : va_P D vwCl (mX mr rf (st - 1) ln 0 pl hs vs dg xx ++ iaX cI (rf 0) 100 (qN (T 0 0) (T 0 1) (T 0 2) (T 0 3) (T 0 4) (T 0 5) (T 1) (T 2) (T 3) (T 4) (T 5) (T 6) (T 7) (T 8)) ++ iaX cI (rf 2) 1400 (rmQ Q)) _ := hP
    have hD : va_D A (mX mr rf (st - 1) ln 0 pl hs vs dg xx ++ iaX cI (rf 0) 100 (qN (T 0 0) (T 0 1) (T 0 2) (T 0 3) (T 0 4) (T 0 5) (T 1) (T 2) (T 3) (T 4) (T 5) (T 6) (T 7) (T 8)) ++ iaX cI (rf 2) 1400 (rmQ Q)) := hD
    refine lv_istore_n (lv' := [(1, .int (nI 0)), (0, .ref mr)]) hx hb dX9_undo_29 rfl hl (by decide) rfl (fun ls hl => ?_)
    have loop_30 : ∀ (dd : Nat) (i : Nat) (y : Nat → Nat), (i ≤ 100) → (y = tabN (Q (st - 1)) i (qN (T 0 0) (T 0 1) (T 0 2) (T 0 3) (T 0 4) (T 0 5) (T 1) (T 2) (T 3) (T 4) (T 5) (T 6) (T 7) (T 8))) → (100 - i) < dd → ∀ (Hp : Heap) (locs : List Loc), va_P D vwCl (mX mr rf (st - 1) ln 0 pl hs vs dg xx ++ iaX cI (rf 0) 100 y ++ iaX cI (rf 2) 1400 (rmQ Q)) Hp → va_D A (mX mr rf (st - 1) ln 0 pl hs vs dg xx ++ iaX cI (rf 0) 100 y ++ iaX cI (rf 2) 1400 (rmQ Q)) → va_S A s.heap Hp locs → ∀ ls : Array Slot, lv_has ls 2 [(1, .int (nI i)), (0, .ref mr)] → W p l e (rmF 0 0) s m args below meth c Hp locs 0 0 (MQ below (CQ D (some (.int (nI (st - 1)))) (fun _ : Unit => (mX mr rf (st - 1) ln 0 pl hs vs dg xx ++ iaX cI (rf 0) 100 (Q (st - 1)) ++ iaX cI (rf 2) 1400 (rmQ Q))) A) args s 0 0 A) (F0 m 30 ls []) := by
      intro dd
      induction dd with
      | zero => intro i y hi ey hm; exact absurd hm (Nat.not_lt_zero _)
      | succ dd ih_30 =>
        intro i y hi ey hm Hp locs hP hD hS ls hl
        refine lv_iload_n hx hb dX9_undo_30 rfl (lv_at hl 0 rfl) ?_
        refine lv_bipush (v := (nI 100)) hx hb dX9_undo_31 (by decide) ?_
        refine lv_icmp_ge (tgt := 62) hx hb dX9_undo_33 (by decide) (fun c_33 => ?_) (fun c_33 => ?_)
        · skip
          replace c_33 := cn_le (by omega) (by omega) c_33
          obtain ⟨hP, hD⟩ := cg_n (g := nF (Q (st - 1))) (ws2 := (mX mr rf (st - 1) ln 0 pl hs vs dg xx ++ iaX cI (rf 0) 100 (Q (st - 1)) ++ iaX cI (rf 2) 1400 (rmQ Q))) hP hD 1 rfl (fun j hj => by rw [ey, show i = 100 by omega]; exact congrArg nI (tabN_in hj)) rfl
          refine lv_aload_n hx hb dX9_undo_62 rfl (lv_at hl 1 rfl) ?_
          refine gf_n (C := RX9) (T := TX9) (N := 15) (ci := 9) (q0 := 0) (v := .int (nI (st - 1))) hx hb hts (iU inlX9) hown hK hP rfl rfl 3 (by decide) (kU u_309) rfl rfl dX9_undo_63 ?_
          exact ct_i () hx hb hr hlocks hP hS rfl dX9_undo_66
        · skip
          replace c_33 := cn_nle (by omega) (by omega) c_33
          refine lv_aload_n hx hb dX9_undo_36 rfl (lv_at hl 1 rfl) ?_
          refine gf_n (C := RX9) (T := TX9) (N := 15) (ci := 9) (q0 := 0) (v := .ref (rf 0)) hx hb hts (iU inlX9) hown hK hP rfl rfl 0 (by decide) (kU u_129) rfl rfl dX9_undo_37 ?_
          refine lv_iload_n hx hb dX9_undo_40 rfl (lv_at hl 0 rfl) ?_
          refine lv_aload_n hx hb dX9_undo_41 rfl (lv_at hl 1 rfl) ?_
          refine gf_n (C := RX9) (T := TX9) (N := 15) (ci := 9) (q0 := 0) (v := .ref (rf 2)) hx hb hts (iU inlX9) hown hK hP rfl rfl 2 (by decide) (kU u_131) rfl rfl dX9_undo_42 ?_
          refine lv_bipush (v := (nI 100)) hx hb dX9_undo_45 (by decide) ?_
          refine lv_aload_n hx hb dX9_undo_47 rfl (lv_at hl 1 rfl) ?_
          refine gf_n (C := RX9) (T := TX9) (N := 15) (ci := 9) (q0 := 0) (v := .int (nI (st - 1))) hx hb hts (iU inlX9) hown hK hP rfl rfl 3 (by decide) (kU u_309) rfl rfl dX9_undo_48 ?_
          refine lv_imul hx hb dX9_undo_51 ?_
          rw [pk_mul 100 (st - 1)]
          refine lv_iload_n hx hb dX9_undo_52 rfl (lv_at hl 0 rfl) ?_
          refine lv_iadd hx hb dX9_undo_53 ?_
          rw [nI_add (100 * (st - 1)) i]
          refine ia_n (q0 := 2) (t0 := 0) hx hb hK hP rfl rfl (by omega) (by decide) dX9_undo_54 ?_
          refine is_n (q0 := 1) (t0 := 0) (ws2 := (mX mr rf (st - 1) ln 0 pl hs vs dg xx ++ iaX cI (rf 0) 100 (va_up y i ((rmQ Q) ((100 * (st - 1)) + i))) ++ iaX cI (rf 2) 1400 (rmQ Q))) hx hb hK hP hD hS rfl rfl (by omega) (by decide) dX9_undo_55 rfl (fun Hp locs hP hD hS => ?_)
          refine lv_iinc (v := (nI (i + 1))) (lv' := [(1, .int (nI (i + 1))), (0, .ref mr)]) hx hb dX9_undo_56 hl (k := 0) rfl (nI_add i 1) (by decide) rfl (fun ls hl => ?_)
          refine lv_goto (tgt := 30) hx hb dX9_undo_59 (by decide) ?_
          exact ih_30 (i + 1) (va_up y i ((rmQ Q) ((100 * (st - 1)) + i))) (by omega) (by rw [ey, rm_at (by omega)]; exact tabN_s _ _ _) (by omega) _ _ hP hD hS _ (lv_sub hl [0, 1] rfl)
    exact loop_30 ((100 - 0) + 1) 0 (qN (T 0 0) (T 0 1) (T 0 2) (T 0 3) (T 0 4) (T 0 5) (T 1) (T 2) (T 3) (T 4) (T 5) (T 6) (T 7) (T 8)) (by omega) (tabN_0 _ _).symm (Nat.lt_succ_self _) _ _ hP hD hS _ (lv_sub hl [0, 1] rfl)
  · skip
    replace c_9 := cn_eq (b := 0) (by omega) (by omega) c_9
    (exfalso; omega)
set_option maxRecDepth 20000 in
theorem u_133 : Cond.fieldLink RX9 22 "HarvestBoxesModel" "isSaved" "[Z" ∈ wsL_law := List.mem_of_getElem? (i := 133) (by decide +kernel)
set_option maxRecDepth 20000 in
theorem u_132 : Cond.fieldLink RX9 19 "HarvestBoxesModel" "slots" "[I" ∈ wsL_law := List.mem_of_getElem? (i := 132) (by decide +kernel)
set_option maxHeartbeats 4000000 in
set_option maxRecDepth 100000 in
theorem c_X9_save (l : Launch) (D : va_G) (cI cZ cF cL : ClassId) (mr : Nat) (rf : Nat → Nat) (st ln th pl hs vs : Nat) (dg : Int32) (xx : Int64) (T : Nat → Nat → Nat) (S : Nat → Nat → Nat) (zf : Nat → Nat) (sl : Nat) (hT : FI T) (hsl : sl < 2) : CT l D (tysX cI cZ cF cL) yX9_save (wA yX9_save cX9_save 3 (some .int)) (rmF 1 22) [.ref mr, .int (nI sl)] (mX mr rf st ln th pl hs vs dg xx ++ qX cI (rf 0) (T 0 0) (T 0 1) (T 0 2) (T 0 3) (T 0 4) (T 0 5) (T 1) (T 2) (T 3) (T 4) (T 5) (T 6) (T 7) (T 8) ++ iaX cI (rf 3) 200 (rmQ S) ++ zaX cZ (rf 4) 2 zf) (some (.int (nI (T 0 2)))) (fun _ : Unit => (mX mr rf st ln 0 pl hs vs dg xx ++ qX cI (rf 0) (T 0 0) (T 0 1) (T 0 2) (T 0 3) (T 0 4) (T 0 5) (T 1) (T 2) (T 3) (T 4) (T 5) (T 6) (T 7) (T 8) ++ iaX cI (rf 3) 200 (rmQ (va_up S sl (qN (T 0 0) (T 0 1) (T 0 2) (T 0 3) (T 0 4) (T 0 5) (T 1) (T 2) (T 3) (T 4) (T 5) (T 6) (T 7) (T 8)))) ++ zaX cZ (rf 4) 2 (va_up zf sl 1))) := by
  refine ct_in (cc := cX9_save) (maxL := 3) (ret := (some .int)) (own := RX9) (lv := [(0, .ref mr), (1, .int (nI sl))]) (by decide +kernel) rfl rfl (Nat.le_of_ble_eq_true rfl) rfl ?_
  intro p e s m args below meth c A ls hx hb hr hml hts hown hlocks hK hA hP hD hS hl
  have hH := hT.1.1
  have hV := hT.1.2
  refine lv_aload_n hx hb dX9_save_0 rfl (lv_at hl 0 rfl) ?_
  refine lv_iconst (v := (nI 0)) hx hb dX9_save_1 (by decide) ?_
  refine pf_n (C := RX9) (T := TX9) (N := 15) (ci := 9) (q0 := 0) (ty := .int) (v := .int (nI 0)) (ws2 := (mX mr rf st ln 0 pl hs vs dg xx ++ qX cI (rf 0) (T 0 0) (T 0 1) (T 0 2) (T 0 3) (T 0 4) (T 0 5) (T 1) (T 2) (T 3) (T 4) (T 5) (T 6) (T 7) (T 8) ++ iaX cI (rf 3) 200 (rmQ S) ++ zaX cZ (rf 4) 2 zf)) hx hb hts (iU inlX9) tyX9 tyX9_ok nmX9 hown hK hP hD hS rfl rfl 8 (by decide) (kU u_173) rfl rfl (tyX9_ok 8 (by decide)) rfl rfl (Nat.le_of_ble_eq_true rfl) dX9_save_2 rfl (fun Hp locs hP hD hS => ?_)
  refine lv_iload_n hx hb dX9_save_5 rfl (lv_at hl 1 rfl) ?_
  refine lv_iconst (v := (nI 0)) hx hb dX9_save_6 (by decide) ?_
  refine lv_iconst (v := (nI 1)) hx hb dX9_save_7 (by decide) ?_
  refine gp_S (c_X9_in l D cI cZ cF cL ((nI sl)) ((nI 0)) ((nI 1)) ) (gUS u_140 u_141 u_5 u_142) rfl hdS_X9_in ⟨Nat.le_of_ble_eq_true rfl, Nat.le_of_ble_eq_true rfl⟩ ⟨rfl, rfl⟩ hx hb hml hown hts hK hA hP hD hS hl.1 ⟨Nat.le_of_ble_eq_true rfl, Nat.le_of_ble_eq_true rfl⟩ (wr := (mX mr rf st ln 0 pl hs vs dg xx ++ qX cI (rf 0) (T 0 0) (T 0 1) (T 0 2) (T 0 3) (T 0 4) (T 0 5) (T 1) (T 2) (T 3) (T 4) (T 5) (T 6) (T 7) (T 8) ++ iaX cI (rf 3) 200 (rmQ S) ++ zaX cZ (rf 4) 2 zf)) (pm_cnt (fun _ => by simp only [List.countP_append, List.countP_nil, fT] <;> omega)) (fun _ => by simp only [List.map_append, List.map_nil, fX_m, bX_m, sX_m, pX_m, iaX_m, r5X_m, r6X_m, fT_m, hX_m, tX_m, xX_m, sgX_m, zaX_m, fsB_a, qX_m, mX_m]) (rest := []) rfl rfl (Nat.le_of_ble_eq_true rfl) dX9_save_8 (ws2 := (fun _ : Unit => (mX mr rf st ln 0 pl hs vs dg xx ++ qX cI (rf 0) (T 0 0) (T 0 1) (T 0 2) (T 0 3) (T 0 4) (T 0 5) (T 1) (T 2) (T 3) (T 4) (T 5) (T 6) (T 7) (T 8) ++ iaX cI (rf 3) 200 (rmQ S) ++ zaX cZ (rf 4) 2 zf))) (fun _ => (pm_cnt (fun _ => by simp only [List.countP_append, List.countP_nil, fT] <;> omega))) (fun _ Hp locs hP hD hS => ?_)
  refine lv_if_ne (tgt := 20) hx hb dX9_save_11 (by decide) (fun c_11 => ?_) (fun c_11 => ?_)
  · skip
    replace c_11 := cb_nz c_11
    refine lv_iconst (v := (nI 0)) hx hb dX9_save_20 (by decide) ?_
    have hP : va_P D vwCl (mX mr rf st ln 0 pl hs vs dg xx ++ iaX cI (rf 0) 100 (qN (T 0 0) (T 0 1) (T 0 2) (T 0 3) (T 0 4) (T 0 5) (T 1) (T 2) (T 3) (T 4) (T 5) (T 6) (T 7) (T 8)) ++ iaX cI (rf 3) 200 (rmQ S) ++ zaX cZ (rf 4) 2 zf) _ := hP
    have hD : va_D A (mX mr rf st ln 0 pl hs vs dg xx ++ iaX cI (rf 0) 100 (qN (T 0 0) (T 0 1) (T 0 2) (T 0 3) (T 0 4) (T 0 5) (T 1) (T 2) (T 3) (T 4) (T 5) (T 6) (T 7) (T 8)) ++ iaX cI (rf 3) 200 (rmQ S) ++ zaX cZ (rf 4) 2 zf) := hD
    refine lv_istore_n (lv' := [(2, .int (nI 0)), (0, .ref mr), (1, .int (nI sl))]) hx hb dX9_save_21 rfl hl (by decide) rfl (fun ls hl => ?_)
    have loop_22 : ∀ (dd : Nat) (i : Nat) (y : Nat → Nat), (i ≤ 100) → (y = cpA (rmQ S) (100 * sl) (qN (T 0 0) (T 0 1) (T 0 2) (T 0 3) (T 0 4) (T 0 5) (T 1) (T 2) (T 3) (T 4) (T 5) (T 6) (T 7) (T 8)) i) → (100 - i) < dd → ∀ (Hp : Heap) (locs : List Loc), va_P D vwCl (mX mr rf st ln 0 pl hs vs dg xx ++ iaX cI (rf 0) 100 (qN (T 0 0) (T 0 1) (T 0 2) (T 0 3) (T 0 4) (T 0 5) (T 1) (T 2) (T 3) (T 4) (T 5) (T 6) (T 7) (T 8)) ++ iaX cI (rf 3) 200 y ++ zaX cZ (rf 4) 2 zf) Hp → va_D A (mX mr rf st ln 0 pl hs vs dg xx ++ iaX cI (rf 0) 100 (qN (T 0 0) (T 0 1) (T 0 2) (T 0 3) (T 0 4) (T 0 5) (T 1) (T 2) (T 3) (T 4) (T 5) (T 6) (T 7) (T 8)) ++ iaX cI (rf 3) 200 y ++ zaX cZ (rf 4) 2 zf) → va_S A s.heap Hp locs → ∀ ls : Array Slot, lv_has ls 3 [(2, .int (nI i)), (0, .ref mr), (1, .int (nI sl))] → W p l e (rmF 1 22) s m args below meth c Hp locs 0 0 (MQ below (CQ D (some (.int (nI (T 0 2)))) (fun _ : Unit => (mX mr rf st ln 0 pl hs vs dg xx ++ qX cI (rf 0) (T 0 0) (T 0 1) (T 0 2) (T 0 3) (T 0 4) (T 0 5) (T 1) (T 2) (T 3) (T 4) (T 5) (T 6) (T 7) (T 8) ++ iaX cI (rf 3) 200 (rmQ (va_up S sl (qN (T 0 0) (T 0 1) (T 0 2) (T 0 3) (T 0 4) (T 0 5) (T 1) (T 2) (T 3) (T 4) (T 5) (T 6) (T 7) (T 8)))) ++ zaX cZ (rf 4) 2 (va_up zf sl 1))) A) args s 0 0 A) (F0 m 22 ls []) := by
      intro dd
      induction dd with
      | zero => intro i y hi ey hm; exact absurd hm (Nat.not_lt_zero _)
      | succ dd ih_22 =>
        intro i y hi ey hm Hp locs hP hD hS ls hl
        refine lv_iload_n hx hb dX9_save_22 rfl (lv_at hl 0 rfl) ?_
        refine lv_bipush (v := (nI 100)) hx hb dX9_save_23 (by decide) ?_
        refine lv_icmp_ge (tgt := 51) hx hb dX9_save_25 (by decide) (fun c_25 => ?_) (fun c_25 => ?_)
        · skip
          replace c_25 := cn_le (by omega) (by omega) c_25
          obtain ⟨hP, hD⟩ := cg_n (g := nF (rmQ (va_up S sl (qN (T 0 0) (T 0 1) (T 0 2) (T 0 3) (T 0 4) (T 0 5) (T 1) (T 2) (T 3) (T 4) (T 5) (T 6) (T 7) (T 8))))) (ws2 := (mX mr rf st ln 0 pl hs vs dg xx ++ iaX cI (rf 0) 100 (qN (T 0 0) (T 0 1) (T 0 2) (T 0 3) (T 0 4) (T 0 5) (T 1) (T 2) (T 3) (T 4) (T 5) (T 6) (T 7) (T 8)) ++ iaX cI (rf 3) 200 (rmQ (va_up S sl (qN (T 0 0) (T 0 1) (T 0 2) (T 0 3) (T 0 4) (T 0 5) (T 1) (T 2) (T 3) (T 4) (T 5) (T 6) (T 7) (T 8)))) ++ zaX cZ (rf 4) 2 zf)) hP hD 2 rfl (fun j hj => by rw [ey, show i = 100 by omega]; exact congrArg nI (rm_put S sl 100 (qN (T 0 0) (T 0 1) (T 0 2) (T 0 3) (T 0 4) (T 0 5) (T 1) (T 2) (T 3) (T 4) (T 5) (T 6) (T 7) (T 8)) j (Nat.le_refl _))) rfl
          refine lv_aload_n hx hb dX9_save_51 rfl (lv_at hl 1 rfl) ?_
          refine gf_n (C := RX9) (T := TX9) (N := 15) (ci := 9) (q0 := 0) (v := .ref (rf 4)) hx hb hts (iU inlX9) hown hK hP rfl rfl 5 (by decide) (kU u_133) rfl rfl dX9_save_52 ?_
          refine lv_iload_n hx hb dX9_save_55 rfl (lv_at hl 2 rfl) ?_
          refine lv_iconst (v := (nI 1)) hx hb dX9_save_56 (by decide) ?_
          refine zs_n (q0 := 3) (t0 := 1) (ws2 := (mX mr rf st ln 0 pl hs vs dg xx ++ iaX cI (rf 0) 100 (qN (T 0 0) (T 0 1) (T 0 2) (T 0 3) (T 0 4) (T 0 5) (T 1) (T 2) (T 3) (T 4) (T 5) (T 6) (T 7) (T 8)) ++ iaX cI (rf 3) 200 (rmQ (va_up S sl (qN (T 0 0) (T 0 1) (T 0 2) (T 0 3) (T 0 4) (T 0 5) (T 1) (T 2) (T 3) (T 4) (T 5) (T 6) (T 7) (T 8)))) ++ zaX cZ (rf 4) 2 (va_up zf sl 1))) hx hb hK hP hD hS rfl rfl (by omega) (by decide) (by decide) dX9_save_57 rfl (fun Hp locs hP hD hS => ?_)
          have hP : va_P D vwCl (mX mr rf st ln 0 pl hs vs dg xx ++ qX cI (rf 0) (T 0 0) (T 0 1) (T 0 2) (T 0 3) (T 0 4) (T 0 5) (T 1) (T 2) (T 3) (T 4) (T 5) (T 6) (T 7) (T 8) ++ iaX cI (rf 3) 200 (rmQ (va_up S sl (qN (T 0 0) (T 0 1) (T 0 2) (T 0 3) (T 0 4) (T 0 5) (T 1) (T 2) (T 3) (T 4) (T 5) (T 6) (T 7) (T 8)))) ++ zaX cZ (rf 4) 2 (va_up zf sl 1)) _ := hP
          have hD : va_D A (mX mr rf st ln 0 pl hs vs dg xx ++ qX cI (rf 0) (T 0 0) (T 0 1) (T 0 2) (T 0 3) (T 0 4) (T 0 5) (T 1) (T 2) (T 3) (T 4) (T 5) (T 6) (T 7) (T 8) ++ iaX cI (rf 3) 200 (rmQ (va_up S sl (qN (T 0 0) (T 0 1) (T 0 2) (T 0 3) (T 0 4) (T 0 5) (T 1) (T 2) (T 3) (T 4) (T 5) (T 6) (T 7) (T 8)))) ++ zaX cZ (rf 4) 2 (va_up zf sl 1)) := hD
          refine lv_aload_n hx hb dX9_save_58 rfl (lv_at hl 1 rfl) ?_
          refine gf_n (C := RX9) (T := TX9) (N := 15) (ci := 9) (q0 := 0) (v := .ref (rf 0)) hx hb hts (iU inlX9) hown hK hP rfl rfl 0 (by decide) (kU u_129) rfl rfl dX9_save_59 ?_
          refine lv_iconst (v := (nI 2)) hx hb dX9_save_62 (by decide) ?_
          refine ia_n (q0 := 1) (t0 := 0) hx hb hK hP rfl rfl (by omega) (by decide) dX9_save_63 ?_
          rw [show qN (T 0 0) (T 0 1) (T 0 2) (T 0 3) (T 0 4) (T 0 5) (T 1) (T 2) (T 3) (T 4) (T 5) (T 6) (T 7) (T 8) 2 = (T 0 2) from rfl]
          exact ct_i () hx hb hr hlocks hP hS rfl dX9_save_64
        · skip
          replace c_25 := cn_nle (by omega) (by omega) c_25
          refine lv_aload_n hx hb dX9_save_28 rfl (lv_at hl 1 rfl) ?_
          refine gf_n (C := RX9) (T := TX9) (N := 15) (ci := 9) (q0 := 0) (v := .ref (rf 3)) hx hb hts (iU inlX9) hown hK hP rfl rfl 4 (by decide) (kU u_132) rfl rfl dX9_save_29 ?_
          refine lv_bipush (v := (nI 100)) hx hb dX9_save_32 (by decide) ?_
          refine lv_iload_n hx hb dX9_save_34 rfl (lv_at hl 2 rfl) ?_
          refine lv_imul hx hb dX9_save_35 ?_
          rw [pk_mul 100 sl]
          refine lv_iload_n hx hb dX9_save_36 rfl (lv_at hl 0 rfl) ?_
          refine lv_iadd hx hb dX9_save_37 ?_
          rw [nI_add (100 * sl) i]
          refine lv_aload_n hx hb dX9_save_38 rfl (lv_at hl 1 rfl) ?_
          refine gf_n (C := RX9) (T := TX9) (N := 15) (ci := 9) (q0 := 0) (v := .ref (rf 0)) hx hb hts (iU inlX9) hown hK hP rfl rfl 0 (by decide) (kU u_129) rfl rfl dX9_save_39 ?_
          refine lv_iload_n hx hb dX9_save_42 rfl (lv_at hl 0 rfl) ?_
          refine ia_n (q0 := 1) (t0 := 0) hx hb hK hP rfl rfl (by omega) (by decide) dX9_save_43 ?_
          refine is_n (q0 := 2) (t0 := 0) (ws2 := (mX mr rf st ln 0 pl hs vs dg xx ++ iaX cI (rf 0) 100 (qN (T 0 0) (T 0 1) (T 0 2) (T 0 3) (T 0 4) (T 0 5) (T 1) (T 2) (T 3) (T 4) (T 5) (T 6) (T 7) (T 8)) ++ iaX cI (rf 3) 200 (va_up y ((100 * sl) + i) ((qN (T 0 0) (T 0 1) (T 0 2) (T 0 3) (T 0 4) (T 0 5) (T 1) (T 2) (T 3) (T 4) (T 5) (T 6) (T 7) (T 8)) i)) ++ zaX cZ (rf 4) 2 zf)) hx hb hK hP hD hS rfl rfl (by omega) (by decide) dX9_save_44 rfl (fun Hp locs hP hD hS => ?_)
          refine lv_iinc (v := (nI (i + 1))) (lv' := [(2, .int (nI (i + 1))), (0, .ref mr), (1, .int (nI sl))]) hx hb dX9_save_45 hl (k := 0) rfl (nI_add i 1) (by decide) rfl (fun ls hl => ?_)
          refine lv_goto (tgt := 22) hx hb dX9_save_48 (by decide) ?_
          exact ih_22 (i + 1) (va_up y ((100 * sl) + i) ((qN (T 0 0) (T 0 1) (T 0 2) (T 0 3) (T 0 4) (T 0 5) (T 1) (T 2) (T 3) (T 4) (T 5) (T 6) (T 7) (T 8)) i)) (by omega) (by rw [ey]; exact cpA_s _ _ _ _) (by omega) _ _ hP hD hS _ (lv_sub hl [0, 1, 2] rfl)
    exact loop_22 ((100 - 0) + 1) 0 (rmQ S) (by omega) (cpA_0 _ _ _).symm (Nat.lt_succ_self _) _ _ hP hD hS _ (lv_sub hl [0, 1, 2] rfl)
  · skip
    replace c_11 := cb_z c_11
    (exact absurd ((in_n (by omega) (by decide) (by decide)).mpr ⟨by omega, by omega⟩) c_11)
set_option maxHeartbeats 4000000 in
set_option maxRecDepth 100000 in
theorem c_X9_restore (l : Launch) (D : va_G) (cI cZ cF cL : ClassId) (mr : Nat) (rf : Nat → Nat) (st ln th pl hs vs : Nat) (dg : Int32) (xx : Int64) (T : Nat → Nat → Nat) (S : Nat → Nat → Nat) (zf : Nat → Nat) (sl : Nat) (hT : FI T) (hsl : sl < 2) (hz : zf sl = 1) : CT l D (tysX cI cZ cF cL) yX9_restore (wA yX9_restore cX9_restore 3 (some .int)) (rmF 1 22) [.ref mr, .int (nI sl)] (mX mr rf st ln th pl hs vs dg xx ++ qX cI (rf 0) (T 0 0) (T 0 1) (T 0 2) (T 0 3) (T 0 4) (T 0 5) (T 1) (T 2) (T 3) (T 4) (T 5) (T 6) (T 7) (T 8) ++ iaX cI (rf 3) 200 (rmQ S) ++ zaX cZ (rf 4) 2 zf) (some (.int (nI (S sl 2)))) (fun _ : Unit => (mX mr rf 0 ln 0 pl hs vs dg xx ++ iaX cI (rf 0) 100 (S sl) ++ iaX cI (rf 3) 200 (rmQ S) ++ zaX cZ (rf 4) 2 zf)) := by
  refine ct_in (cc := cX9_restore) (maxL := 3) (ret := (some .int)) (own := RX9) (lv := [(0, .ref mr), (1, .int (nI sl))]) (by decide +kernel) rfl rfl (Nat.le_of_ble_eq_true rfl) rfl ?_
  intro p e s m args below meth c A ls hx hb hr hml hts hown hlocks hK hA hP hD hS hl
  have hH := hT.1.1
  have hV := hT.1.2
  refine lv_aload_n hx hb dX9_restore_0 rfl (lv_at hl 0 rfl) ?_
  refine lv_iconst (v := (nI 0)) hx hb dX9_restore_1 (by decide) ?_
  refine pf_n (C := RX9) (T := TX9) (N := 15) (ci := 9) (q0 := 0) (ty := .int) (v := .int (nI 0)) (ws2 := (mX mr rf st ln 0 pl hs vs dg xx ++ qX cI (rf 0) (T 0 0) (T 0 1) (T 0 2) (T 0 3) (T 0 4) (T 0 5) (T 1) (T 2) (T 3) (T 4) (T 5) (T 6) (T 7) (T 8) ++ iaX cI (rf 3) 200 (rmQ S) ++ zaX cZ (rf 4) 2 zf)) hx hb hts (iU inlX9) tyX9 tyX9_ok nmX9 hown hK hP hD hS rfl rfl 8 (by decide) (kU u_173) rfl rfl (tyX9_ok 8 (by decide)) rfl rfl (Nat.le_of_ble_eq_true rfl) dX9_restore_2 rfl (fun Hp locs hP hD hS => ?_)
  refine lv_iload_n hx hb dX9_restore_5 rfl (lv_at hl 1 rfl) ?_
  refine lv_iconst (v := (nI 0)) hx hb dX9_restore_6 (by decide) ?_
  refine lv_iconst (v := (nI 1)) hx hb dX9_restore_7 (by decide) ?_
  refine gp_S (c_X9_in l D cI cZ cF cL ((nI sl)) ((nI 0)) ((nI 1)) ) (gUS u_140 u_141 u_5 u_142) rfl hdS_X9_in ⟨Nat.le_of_ble_eq_true rfl, Nat.le_of_ble_eq_true rfl⟩ ⟨rfl, rfl⟩ hx hb hml hown hts hK hA hP hD hS hl.1 ⟨Nat.le_of_ble_eq_true rfl, Nat.le_of_ble_eq_true rfl⟩ (wr := (mX mr rf st ln 0 pl hs vs dg xx ++ qX cI (rf 0) (T 0 0) (T 0 1) (T 0 2) (T 0 3) (T 0 4) (T 0 5) (T 1) (T 2) (T 3) (T 4) (T 5) (T 6) (T 7) (T 8) ++ iaX cI (rf 3) 200 (rmQ S) ++ zaX cZ (rf 4) 2 zf)) (pm_cnt (fun _ => by simp only [List.countP_append, List.countP_nil, fT] <;> omega)) (fun _ => by simp only [List.map_append, List.map_nil, fX_m, bX_m, sX_m, pX_m, iaX_m, r5X_m, r6X_m, fT_m, hX_m, tX_m, xX_m, sgX_m, zaX_m, fsB_a, qX_m, mX_m]) (rest := []) rfl rfl (Nat.le_of_ble_eq_true rfl) dX9_restore_8 (ws2 := (fun _ : Unit => (mX mr rf st ln 0 pl hs vs dg xx ++ qX cI (rf 0) (T 0 0) (T 0 1) (T 0 2) (T 0 3) (T 0 4) (T 0 5) (T 1) (T 2) (T 3) (T 4) (T 5) (T 6) (T 7) (T 8) ++ iaX cI (rf 3) 200 (rmQ S) ++ zaX cZ (rf 4) 2 zf))) (fun _ => (pm_cnt (fun _ => by simp only [List.countP_append, List.countP_nil, fT] <;> omega))) (fun _ Hp locs hP hD hS => ?_)
  refine lv_if_ne (tgt := 20) hx hb dX9_restore_11 (by decide) (fun c_11 => ?_) (fun c_11 => ?_)
  · skip
    replace c_11 := cb_nz c_11
    refine lv_aload_n hx hb dX9_restore_20 rfl (lv_at hl 0 rfl) ?_
    refine gf_n (C := RX9) (T := TX9) (N := 15) (ci := 9) (q0 := 0) (v := .ref (rf 4)) hx hb hts (iU inlX9) hown hK hP rfl rfl 5 (by decide) (kU u_133) rfl rfl dX9_restore_21 ?_
    refine lv_iload_n hx hb dX9_restore_24 rfl (lv_at hl 1 rfl) ?_
    refine za_n (q0 := 3) (t0 := 1) hx hb hK hP rfl rfl (by omega) (by decide) dX9_restore_25 ?_
    refine lv_if_ne (tgt := 35) hx hb dX9_restore_26 (by decide) (fun c_26 => ?_) (fun c_26 => ?_)
    · skip
      replace c_26 := cn_ne (b := 0) c_26
      refine lv_iconst (v := (nI 0)) hx hb dX9_restore_35 (by decide) ?_
      have hP : va_P D vwCl (mX mr rf st ln 0 pl hs vs dg xx ++ iaX cI (rf 0) 100 (qN (T 0 0) (T 0 1) (T 0 2) (T 0 3) (T 0 4) (T 0 5) (T 1) (T 2) (T 3) (T 4) (T 5) (T 6) (T 7) (T 8)) ++ iaX cI (rf 3) 200 (rmQ S) ++ zaX cZ (rf 4) 2 zf) _ := hP
      have hD : va_D A (mX mr rf st ln 0 pl hs vs dg xx ++ iaX cI (rf 0) 100 (qN (T 0 0) (T 0 1) (T 0 2) (T 0 3) (T 0 4) (T 0 5) (T 1) (T 2) (T 3) (T 4) (T 5) (T 6) (T 7) (T 8)) ++ iaX cI (rf 3) 200 (rmQ S) ++ zaX cZ (rf 4) 2 zf) := hD
      refine lv_istore_n (lv' := [(2, .int (nI 0)), (0, .ref mr), (1, .int (nI sl))]) hx hb dX9_restore_36 rfl hl (by decide) rfl (fun ls hl => ?_)
      have loop_37 : ∀ (dd : Nat) (i : Nat) (y : Nat → Nat), (i ≤ 100) → (y = tabN (S sl) i (qN (T 0 0) (T 0 1) (T 0 2) (T 0 3) (T 0 4) (T 0 5) (T 1) (T 2) (T 3) (T 4) (T 5) (T 6) (T 7) (T 8))) → (100 - i) < dd → ∀ (Hp : Heap) (locs : List Loc), va_P D vwCl (mX mr rf st ln 0 pl hs vs dg xx ++ iaX cI (rf 0) 100 y ++ iaX cI (rf 3) 200 (rmQ S) ++ zaX cZ (rf 4) 2 zf) Hp → va_D A (mX mr rf st ln 0 pl hs vs dg xx ++ iaX cI (rf 0) 100 y ++ iaX cI (rf 3) 200 (rmQ S) ++ zaX cZ (rf 4) 2 zf) → va_S A s.heap Hp locs → ∀ ls : Array Slot, lv_has ls 3 [(2, .int (nI i)), (0, .ref mr), (1, .int (nI sl))] → W p l e (rmF 1 22) s m args below meth c Hp locs 0 0 (MQ below (CQ D (some (.int (nI (S sl 2)))) (fun _ : Unit => (mX mr rf 0 ln 0 pl hs vs dg xx ++ iaX cI (rf 0) 100 (S sl) ++ iaX cI (rf 3) 200 (rmQ S) ++ zaX cZ (rf 4) 2 zf)) A) args s 0 0 A) (F0 m 37 ls []) := by
        intro dd
        induction dd with
        | zero => intro i y hi ey hm; exact absurd hm (Nat.not_lt_zero _)
        | succ dd ih_37 =>
          intro i y hi ey hm Hp locs hP hD hS ls hl
          refine lv_iload_n hx hb dX9_restore_37 rfl (lv_at hl 0 rfl) ?_
          refine lv_bipush (v := (nI 100)) hx hb dX9_restore_38 (by decide) ?_
          refine lv_icmp_ge (tgt := 66) hx hb dX9_restore_40 (by decide) (fun c_40 => ?_) (fun c_40 => ?_)
          · skip
            replace c_40 := cn_le (by omega) (by omega) c_40
            obtain ⟨hP, hD⟩ := cg_n (g := nF (S sl)) (ws2 := (mX mr rf st ln 0 pl hs vs dg xx ++ iaX cI (rf 0) 100 (S sl) ++ iaX cI (rf 3) 200 (rmQ S) ++ zaX cZ (rf 4) 2 zf)) hP hD 1 rfl (fun j hj => by rw [ey, show i = 100 by omega]; exact congrArg nI (tabN_in hj)) rfl
            refine lv_aload_n hx hb dX9_restore_66 rfl (lv_at hl 1 rfl) ?_
            refine lv_iconst (v := (nI 0)) hx hb dX9_restore_67 (by decide) ?_
            refine pf_n (C := RX9) (T := TX9) (N := 15) (ci := 9) (q0 := 0) (ty := .int) (v := .int (nI 0)) (ws2 := (mX mr rf 0 ln 0 pl hs vs dg xx ++ iaX cI (rf 0) 100 (S sl) ++ iaX cI (rf 3) 200 (rmQ S) ++ zaX cZ (rf 4) 2 zf)) hx hb hts (iU inlX9) tyX9 tyX9_ok nmX9 hown hK hP hD hS rfl rfl 3 (by decide) (kU u_309) rfl rfl (tyX9_ok 3 (by decide)) rfl rfl (Nat.le_of_ble_eq_true rfl) dX9_restore_68 rfl (fun Hp locs hP hD hS => ?_)
            refine lv_aload_n hx hb dX9_restore_71 rfl (lv_at hl 1 rfl) ?_
            refine gf_n (C := RX9) (T := TX9) (N := 15) (ci := 9) (q0 := 0) (v := .ref (rf 0)) hx hb hts (iU inlX9) hown hK hP rfl rfl 0 (by decide) (kU u_129) rfl rfl dX9_restore_72 ?_
            refine lv_iconst (v := (nI 2)) hx hb dX9_restore_75 (by decide) ?_
            refine ia_n (q0 := 1) (t0 := 0) hx hb hK hP rfl rfl (by omega) (by decide) dX9_restore_76 ?_
            exact ct_i () hx hb hr hlocks hP hS rfl dX9_restore_77
          · skip
            replace c_40 := cn_nle (by omega) (by omega) c_40
            refine lv_aload_n hx hb dX9_restore_43 rfl (lv_at hl 1 rfl) ?_
            refine gf_n (C := RX9) (T := TX9) (N := 15) (ci := 9) (q0 := 0) (v := .ref (rf 0)) hx hb hts (iU inlX9) hown hK hP rfl rfl 0 (by decide) (kU u_129) rfl rfl dX9_restore_44 ?_
            refine lv_iload_n hx hb dX9_restore_47 rfl (lv_at hl 0 rfl) ?_
            refine lv_aload_n hx hb dX9_restore_48 rfl (lv_at hl 1 rfl) ?_
            refine gf_n (C := RX9) (T := TX9) (N := 15) (ci := 9) (q0 := 0) (v := .ref (rf 3)) hx hb hts (iU inlX9) hown hK hP rfl rfl 4 (by decide) (kU u_132) rfl rfl dX9_restore_49 ?_
            refine lv_bipush (v := (nI 100)) hx hb dX9_restore_52 (by decide) ?_
            refine lv_iload_n hx hb dX9_restore_54 rfl (lv_at hl 2 rfl) ?_
            refine lv_imul hx hb dX9_restore_55 ?_
            rw [pk_mul 100 sl]
            refine lv_iload_n hx hb dX9_restore_56 rfl (lv_at hl 0 rfl) ?_
            refine lv_iadd hx hb dX9_restore_57 ?_
            rw [nI_add (100 * sl) i]
            refine ia_n (q0 := 2) (t0 := 0) hx hb hK hP rfl rfl (by omega) (by decide) dX9_restore_58 ?_
            refine is_n (q0 := 1) (t0 := 0) (ws2 := (mX mr rf st ln 0 pl hs vs dg xx ++ iaX cI (rf 0) 100 (va_up y i ((rmQ S) ((100 * sl) + i))) ++ iaX cI (rf 3) 200 (rmQ S) ++ zaX cZ (rf 4) 2 zf)) hx hb hK hP hD hS rfl rfl (by omega) (by decide) dX9_restore_59 rfl (fun Hp locs hP hD hS => ?_)
            refine lv_iinc (v := (nI (i + 1))) (lv' := [(2, .int (nI (i + 1))), (0, .ref mr), (1, .int (nI sl))]) hx hb dX9_restore_60 hl (k := 0) rfl (nI_add i 1) (by decide) rfl (fun ls hl => ?_)
            refine lv_goto (tgt := 37) hx hb dX9_restore_63 (by decide) ?_
            exact ih_37 (i + 1) (va_up y i ((rmQ S) ((100 * sl) + i))) (by omega) (by rw [ey, rm_at (by omega)]; exact tabN_s _ _ _) (by omega) _ _ hP hD hS _ (lv_sub hl [0, 1, 2] rfl)
      exact loop_37 ((100 - 0) + 1) 0 (qN (T 0 0) (T 0 1) (T 0 2) (T 0 3) (T 0 4) (T 0 5) (T 1) (T 2) (T 3) (T 4) (T 5) (T 6) (T 7) (T 8)) (by omega) (tabN_0 _ _).symm (Nat.lt_succ_self _) _ _ hP hD hS _ (lv_sub hl [0, 1, 2] rfl)
    · skip
      replace c_26 := cn_eq (b := 0) (by omega) (by omega) c_26
      (exfalso; omega)
  · skip
    replace c_11 := cb_z c_11
    (exact absurd ((in_n (by omega) (by decide) (by decide)).mpr ⟨by omega, by omega⟩) c_11)
set_option maxHeartbeats 4000000 in
set_option maxRecDepth 100000 in
theorem f1_X9_addHouse (l : Launch) (D : va_G) (cI cZ cF cL : ClassId) (mr : Nat) (rf : Nat → Nat) (st ln th pl hs vs : Nat) (dg : Int32) (xx : Int64) (x : Int32) (hbad : ¬ (nI 1 ≤ x ∧ x ≤ nI 4)) : CT l D (tysX cI cZ cF cL) yX9_addHouse (wA yX9_addHouse cX9_addHouse 2 (some .int)) (rmF 1 22) [.ref mr, .int x] (mX mr rf st ln th pl hs vs dg xx) (some (.int (nI 0))) (fun _ : Unit => (mX mr rf st ln 1 pl hs vs dg xx)) := by
  refine ct_in (cc := cX9_addHouse) (maxL := 2) (ret := (some .int)) (own := RX9) (lv := [(0, .ref mr), (1, .int x)]) (by decide +kernel) rfl rfl (Nat.le_of_ble_eq_true rfl) rfl ?_
  intro p e s m args below meth c A ls hx hb hr hml hts hown hlocks hK hA hP hD hS hl
  refine lv_aload_n hx hb dX9_addHouse_0 rfl (lv_at hl 0 rfl) ?_
  refine lv_iconst (v := (nI 0)) hx hb dX9_addHouse_1 (by decide) ?_
  refine pf_n (C := RX9) (T := TX9) (N := 15) (ci := 9) (q0 := 0) (ty := .int) (v := .int (nI 0)) (ws2 := (mX mr rf st ln 0 pl hs vs dg xx)) hx hb hts (iU inlX9) tyX9 tyX9_ok nmX9 hown hK hP hD hS rfl rfl 8 (by decide) (kU u_173) rfl rfl (tyX9_ok 8 (by decide)) rfl rfl (Nat.le_of_ble_eq_true rfl) dX9_addHouse_2 rfl (fun Hp locs hP hD hS => ?_)
  refine lv_iload_n hx hb dX9_addHouse_5 rfl (lv_at hl 1 rfl) ?_
  refine lv_iconst (v := (nI 1)) hx hb dX9_addHouse_6 (by decide) ?_
  refine lv_iconst (v := (nI 4)) hx hb dX9_addHouse_7 (by decide) ?_
  refine gp_S (c_X9_in l D cI cZ cF cL x ((nI 1)) ((nI 4)) ) (gUS u_140 u_141 u_5 u_142) rfl hdS_X9_in ⟨Nat.le_of_ble_eq_true rfl, Nat.le_of_ble_eq_true rfl⟩ ⟨rfl, rfl⟩ hx hb hml hown hts hK hA hP hD hS hl.1 ⟨Nat.le_of_ble_eq_true rfl, Nat.le_of_ble_eq_true rfl⟩ (wr := (mX mr rf st ln 0 pl hs vs dg xx)) (pm_cnt (fun _ => by simp only [List.countP_append, List.countP_nil, fT] <;> omega)) (fun _ => by simp only [List.map_append, List.map_nil, fX_m, bX_m, sX_m, pX_m, iaX_m, r5X_m, r6X_m, fT_m, hX_m, tX_m, xX_m, sgX_m, zaX_m, fsB_a, qX_m, mX_m]) (rest := []) rfl rfl (Nat.le_of_ble_eq_true rfl) dX9_addHouse_8 (ws2 := (fun _ : Unit => (mX mr rf st ln 0 pl hs vs dg xx))) (fun _ => (pm_cnt (fun _ => by simp only [List.countP_append, List.countP_nil, fT] <;> omega))) (fun _ Hp locs hP hD hS => ?_)
  refine lv_if_ne (tgt := 20) hx hb dX9_addHouse_11 (by decide) (fun c_11 => ?_) (fun c_11 => ?_)
  · skip
    replace c_11 := cb_nz c_11
    (exact absurd c_11 hbad)
  · skip
    replace c_11 := cb_z c_11
    refine lv_aload_n hx hb dX9_addHouse_14 rfl (lv_at hl 0 rfl) ?_
    refine lv_iconst (v := (nI 1)) hx hb dX9_addHouse_15 (by decide) ?_
    refine gp_V (ci := 9) (q0 := 0) (cq := (RX9, TX9, 15)) (c_X9_fails l D cI cZ cF cL mr rf st ln 0 pl hs vs dg xx 1 ) (gUV u_175 u_176 u_177 u_5 u_178) rfl hdV_X9_fails ⟨Nat.le_of_ble_eq_true rfl, Nat.le_of_ble_eq_true rfl⟩ ⟨rfl, rfl⟩ hx hb hml hown hts hK hA hP hD hS hl.1 ⟨Nat.le_of_ble_eq_true rfl, Nat.le_of_ble_eq_true rfl⟩ rfl rfl rfl (wr := ([] : va_W)) (pm_cnt (fun _ => by simp only [List.countP_append, List.countP_nil, fT] <;> omega)) (fun _ => by simp only [List.map_append, List.map_nil, fX_m, bX_m, sX_m, pX_m, iaX_m, r5X_m, r6X_m, fT_m, hX_m, tX_m, xX_m, sgX_m, zaX_m, fsB_a, qX_m, mX_m]) (rest := []) rfl rfl (Nat.le_of_ble_eq_true rfl) dX9_addHouse_16 (ws2 := (fun _ : Unit => (mX mr rf st ln 1 pl hs vs dg xx))) (fun _ => (pm_cnt (fun _ => by simp only [List.countP_append, List.countP_nil, fT] <;> omega))) (fun _ Hp locs hP hD hS => ?_)
    exact ct_i () hx hb hr hlocks hP hS rfl dX9_addHouse_19
set_option maxHeartbeats 4000000 in
set_option maxRecDepth 100000 in
theorem f2_X9_addHouse (l : Launch) (D : va_G) (cI cZ cF cL : ClassId) (mr : Nat) (rf : Nat → Nat) (st ln th pl hs vs : Nat) (dg : Int32) (xx : Int64) (T : Nat → Nat → Nat) (z : Nat) (hT : FI T) (h1z : 1 ≤ z) (hz : z ≤ 4) (hH6 : T 0 0 = 6) : CT l D (tysX cI cZ cF cL) yX9_addHouse (wA yX9_addHouse cX9_addHouse 2 (some .int)) (rmF 1 22) [.ref mr, .int (nI z)] (mX mr rf st ln th pl hs vs dg xx ++ qX cI (rf 0) (T 0 0) (T 0 1) (T 0 2) (T 0 3) (T 0 4) (T 0 5) (T 1) (T 2) (T 3) (T 4) (T 5) (T 6) (T 7) (T 8)) (some (.int (nI 0))) (fun _ : Unit => (mX mr rf st ln 2 pl hs vs dg xx ++ qX cI (rf 0) (T 0 0) (T 0 1) (T 0 2) (T 0 3) (T 0 4) (T 0 5) (T 1) (T 2) (T 3) (T 4) (T 5) (T 6) (T 7) (T 8))) := by
  refine ct_in (cc := cX9_addHouse) (maxL := 2) (ret := (some .int)) (own := RX9) (lv := [(0, .ref mr), (1, .int (nI z))]) (by decide +kernel) rfl rfl (Nat.le_of_ble_eq_true rfl) rfl ?_
  intro p e s m args below meth c A ls hx hb hr hml hts hown hlocks hK hA hP hD hS hl
  have hH := hT.1.1
  have hV := hT.1.2
  refine lv_aload_n hx hb dX9_addHouse_0 rfl (lv_at hl 0 rfl) ?_
  refine lv_iconst (v := (nI 0)) hx hb dX9_addHouse_1 (by decide) ?_
  refine pf_n (C := RX9) (T := TX9) (N := 15) (ci := 9) (q0 := 0) (ty := .int) (v := .int (nI 0)) (ws2 := (mX mr rf st ln 0 pl hs vs dg xx ++ qX cI (rf 0) (T 0 0) (T 0 1) (T 0 2) (T 0 3) (T 0 4) (T 0 5) (T 1) (T 2) (T 3) (T 4) (T 5) (T 6) (T 7) (T 8))) hx hb hts (iU inlX9) tyX9 tyX9_ok nmX9 hown hK hP hD hS rfl rfl 8 (by decide) (kU u_173) rfl rfl (tyX9_ok 8 (by decide)) rfl rfl (Nat.le_of_ble_eq_true rfl) dX9_addHouse_2 rfl (fun Hp locs hP hD hS => ?_)
  refine lv_iload_n hx hb dX9_addHouse_5 rfl (lv_at hl 1 rfl) ?_
  refine lv_iconst (v := (nI 1)) hx hb dX9_addHouse_6 (by decide) ?_
  refine lv_iconst (v := (nI 4)) hx hb dX9_addHouse_7 (by decide) ?_
  refine gp_S (c_X9_in l D cI cZ cF cL ((nI z)) ((nI 1)) ((nI 4)) ) (gUS u_140 u_141 u_5 u_142) rfl hdS_X9_in ⟨Nat.le_of_ble_eq_true rfl, Nat.le_of_ble_eq_true rfl⟩ ⟨rfl, rfl⟩ hx hb hml hown hts hK hA hP hD hS hl.1 ⟨Nat.le_of_ble_eq_true rfl, Nat.le_of_ble_eq_true rfl⟩ (wr := (mX mr rf st ln 0 pl hs vs dg xx ++ qX cI (rf 0) (T 0 0) (T 0 1) (T 0 2) (T 0 3) (T 0 4) (T 0 5) (T 1) (T 2) (T 3) (T 4) (T 5) (T 6) (T 7) (T 8))) (pm_cnt (fun _ => by simp only [List.countP_append, List.countP_nil, fT] <;> omega)) (fun _ => by simp only [List.map_append, List.map_nil, fX_m, bX_m, sX_m, pX_m, iaX_m, r5X_m, r6X_m, fT_m, hX_m, tX_m, xX_m, sgX_m, zaX_m, fsB_a, qX_m, mX_m]) (rest := []) rfl rfl (Nat.le_of_ble_eq_true rfl) dX9_addHouse_8 (ws2 := (fun _ : Unit => (mX mr rf st ln 0 pl hs vs dg xx ++ qX cI (rf 0) (T 0 0) (T 0 1) (T 0 2) (T 0 3) (T 0 4) (T 0 5) (T 1) (T 2) (T 3) (T 4) (T 5) (T 6) (T 7) (T 8)))) (fun _ => (pm_cnt (fun _ => by simp only [List.countP_append, List.countP_nil, fT] <;> omega))) (fun _ Hp locs hP hD hS => ?_)
  refine lv_if_ne (tgt := 20) hx hb dX9_addHouse_11 (by decide) (fun c_11 => ?_) (fun c_11 => ?_)
  · skip
    replace c_11 := cb_nz c_11
    refine lv_aload_n hx hb dX9_addHouse_20 rfl (lv_at hl 0 rfl) ?_
    refine gf_n (C := RX9) (T := TX9) (N := 15) (ci := 9) (q0 := 0) (v := .ref (rf 0)) hx hb hts (iU inlX9) hown hK hP rfl rfl 0 (by decide) (kU u_129) rfl rfl dX9_addHouse_21 ?_
    refine lv_iconst (v := (nI 0)) hx hb dX9_addHouse_24 (by decide) ?_
    refine ia_n (q0 := 1) (t0 := 0) hx hb hK hP rfl rfl (by omega) (by decide) dX9_addHouse_25 ?_
    rw [show qN (T 0 0) (T 0 1) (T 0 2) (T 0 3) (T 0 4) (T 0 5) (T 1) (T 2) (T 3) (T 4) (T 5) (T 6) (T 7) (T 8) 0 = (T 0 0) from rfl]
    refine lv_bipush (v := (nI 6)) hx hb dX9_addHouse_26 (by decide) ?_
    refine lv_icmp_ne (tgt := 37) hx hb dX9_addHouse_28 (by decide) (fun c_28 => ?_) (fun c_28 => ?_)
    · skip
      replace c_28 := cn_ne c_28
      (exfalso; omega)
    · skip
      replace c_28 := cn_eq (by omega) (by omega) c_28
      refine lv_aload_n hx hb dX9_addHouse_31 rfl (lv_at hl 0 rfl) ?_
      refine lv_iconst (v := (nI 2)) hx hb dX9_addHouse_32 (by decide) ?_
      refine gp_V (ci := 9) (q0 := 0) (cq := (RX9, TX9, 15)) (c_X9_fails l D cI cZ cF cL mr rf st ln 0 pl hs vs dg xx 2 ) (gUV u_175 u_176 u_177 u_5 u_178) rfl hdV_X9_fails ⟨Nat.le_of_ble_eq_true rfl, Nat.le_of_ble_eq_true rfl⟩ ⟨rfl, rfl⟩ hx hb hml hown hts hK hA hP hD hS hl.1 ⟨Nat.le_of_ble_eq_true rfl, Nat.le_of_ble_eq_true rfl⟩ rfl rfl rfl (wr := (qX cI (rf 0) (T 0 0) (T 0 1) (T 0 2) (T 0 3) (T 0 4) (T 0 5) (T 1) (T 2) (T 3) (T 4) (T 5) (T 6) (T 7) (T 8))) (pm_cnt (fun _ => by simp only [List.countP_append, List.countP_nil, fT] <;> omega)) (fun _ => by simp only [List.map_append, List.map_nil, fX_m, bX_m, sX_m, pX_m, iaX_m, r5X_m, r6X_m, fT_m, hX_m, tX_m, xX_m, sgX_m, zaX_m, fsB_a, qX_m, mX_m]) (rest := []) rfl rfl (Nat.le_of_ble_eq_true rfl) dX9_addHouse_33 (ws2 := (fun _ : Unit => (mX mr rf st ln 2 pl hs vs dg xx ++ qX cI (rf 0) (T 0 0) (T 0 1) (T 0 2) (T 0 3) (T 0 4) (T 0 5) (T 1) (T 2) (T 3) (T 4) (T 5) (T 6) (T 7) (T 8)))) (fun _ => (pm_cnt (fun _ => by simp only [List.countP_append, List.countP_nil, fT] <;> omega))) (fun _ Hp locs hP hD hS => ?_)
      exact ct_i () hx hb hr hlocks hP hS rfl dX9_addHouse_36
  · skip
    replace c_11 := cb_z c_11
    (exact absurd ((in_n (by omega) (by decide) (by decide)).mpr ⟨by omega, by omega⟩) c_11)
set_option maxHeartbeats 4000000 in
set_option maxRecDepth 100000 in
theorem f1_X9_addVegetable (l : Launch) (D : va_G) (cI cZ cF cL : ClassId) (mr : Nat) (rf : Nat → Nat) (st ln th pl hs vs : Nat) (dg : Int32) (xx : Int64) (x : Int32) (hbad : ¬ (nI 0 ≤ x ∧ x ≤ nI 40)) : CT l D (tysX cI cZ cF cL) yX9_addVegetable (wA yX9_addVegetable cX9_addVegetable 2 (some .int)) (rmF 1 22) [.ref mr, .int x] (mX mr rf st ln th pl hs vs dg xx) (some (.int (nI 0))) (fun _ : Unit => (mX mr rf st ln 1 pl hs vs dg xx)) := by
  refine ct_in (cc := cX9_addVegetable) (maxL := 2) (ret := (some .int)) (own := RX9) (lv := [(0, .ref mr), (1, .int x)]) (by decide +kernel) rfl rfl (Nat.le_of_ble_eq_true rfl) rfl ?_
  intro p e s m args below meth c A ls hx hb hr hml hts hown hlocks hK hA hP hD hS hl
  refine lv_aload_n hx hb dX9_addVegetable_0 rfl (lv_at hl 0 rfl) ?_
  refine lv_iconst (v := (nI 0)) hx hb dX9_addVegetable_1 (by decide) ?_
  refine pf_n (C := RX9) (T := TX9) (N := 15) (ci := 9) (q0 := 0) (ty := .int) (v := .int (nI 0)) (ws2 := (mX mr rf st ln 0 pl hs vs dg xx)) hx hb hts (iU inlX9) tyX9 tyX9_ok nmX9 hown hK hP hD hS rfl rfl 8 (by decide) (kU u_173) rfl rfl (tyX9_ok 8 (by decide)) rfl rfl (Nat.le_of_ble_eq_true rfl) dX9_addVegetable_2 rfl (fun Hp locs hP hD hS => ?_)
  refine lv_iload_n hx hb dX9_addVegetable_5 rfl (lv_at hl 1 rfl) ?_
  refine lv_iconst (v := (nI 0)) hx hb dX9_addVegetable_6 (by decide) ?_
  refine lv_bipush (v := (nI 40)) hx hb dX9_addVegetable_7 (by decide) ?_
  refine gp_S (c_X9_in l D cI cZ cF cL x ((nI 0)) ((nI 40)) ) (gUS u_140 u_141 u_5 u_142) rfl hdS_X9_in ⟨Nat.le_of_ble_eq_true rfl, Nat.le_of_ble_eq_true rfl⟩ ⟨rfl, rfl⟩ hx hb hml hown hts hK hA hP hD hS hl.1 ⟨Nat.le_of_ble_eq_true rfl, Nat.le_of_ble_eq_true rfl⟩ (wr := (mX mr rf st ln 0 pl hs vs dg xx)) (pm_cnt (fun _ => by simp only [List.countP_append, List.countP_nil, fT] <;> omega)) (fun _ => by simp only [List.map_append, List.map_nil, fX_m, bX_m, sX_m, pX_m, iaX_m, r5X_m, r6X_m, fT_m, hX_m, tX_m, xX_m, sgX_m, zaX_m, fsB_a, qX_m, mX_m]) (rest := []) rfl rfl (Nat.le_of_ble_eq_true rfl) dX9_addVegetable_9 (ws2 := (fun _ : Unit => (mX mr rf st ln 0 pl hs vs dg xx))) (fun _ => (pm_cnt (fun _ => by simp only [List.countP_append, List.countP_nil, fT] <;> omega))) (fun _ Hp locs hP hD hS => ?_)
  refine lv_if_ne (tgt := 21) hx hb dX9_addVegetable_12 (by decide) (fun c_12 => ?_) (fun c_12 => ?_)
  · skip
    replace c_12 := cb_nz c_12
    (exact absurd c_12 hbad)
  · skip
    replace c_12 := cb_z c_12
    refine lv_aload_n hx hb dX9_addVegetable_15 rfl (lv_at hl 0 rfl) ?_
    refine lv_iconst (v := (nI 1)) hx hb dX9_addVegetable_16 (by decide) ?_
    refine gp_V (ci := 9) (q0 := 0) (cq := (RX9, TX9, 15)) (c_X9_fails l D cI cZ cF cL mr rf st ln 0 pl hs vs dg xx 1 ) (gUV u_175 u_176 u_177 u_5 u_178) rfl hdV_X9_fails ⟨Nat.le_of_ble_eq_true rfl, Nat.le_of_ble_eq_true rfl⟩ ⟨rfl, rfl⟩ hx hb hml hown hts hK hA hP hD hS hl.1 ⟨Nat.le_of_ble_eq_true rfl, Nat.le_of_ble_eq_true rfl⟩ rfl rfl rfl (wr := ([] : va_W)) (pm_cnt (fun _ => by simp only [List.countP_append, List.countP_nil, fT] <;> omega)) (fun _ => by simp only [List.map_append, List.map_nil, fX_m, bX_m, sX_m, pX_m, iaX_m, r5X_m, r6X_m, fT_m, hX_m, tX_m, xX_m, sgX_m, zaX_m, fsB_a, qX_m, mX_m]) (rest := []) rfl rfl (Nat.le_of_ble_eq_true rfl) dX9_addVegetable_17 (ws2 := (fun _ : Unit => (mX mr rf st ln 1 pl hs vs dg xx))) (fun _ => (pm_cnt (fun _ => by simp only [List.countP_append, List.countP_nil, fT] <;> omega))) (fun _ Hp locs hP hD hS => ?_)
    exact ct_i () hx hb hr hlocks hP hS rfl dX9_addVegetable_20
set_option maxHeartbeats 4000000 in
set_option maxRecDepth 100000 in
theorem f2_X9_addVegetable (l : Launch) (D : va_G) (cI cZ cF cL : ClassId) (mr : Nat) (rf : Nat → Nat) (st ln th pl hs vs : Nat) (dg : Int32) (xx : Int64) (T : Nat → Nat → Nat) (z : Nat) (hT : FI T) (hz : z ≤ 40) (hV5 : T 0 1 = 5) : CT l D (tysX cI cZ cF cL) yX9_addVegetable (wA yX9_addVegetable cX9_addVegetable 2 (some .int)) (rmF 1 22) [.ref mr, .int (nI z)] (mX mr rf st ln th pl hs vs dg xx ++ qX cI (rf 0) (T 0 0) (T 0 1) (T 0 2) (T 0 3) (T 0 4) (T 0 5) (T 1) (T 2) (T 3) (T 4) (T 5) (T 6) (T 7) (T 8)) (some (.int (nI 0))) (fun _ : Unit => (mX mr rf st ln 2 pl hs vs dg xx ++ qX cI (rf 0) (T 0 0) (T 0 1) (T 0 2) (T 0 3) (T 0 4) (T 0 5) (T 1) (T 2) (T 3) (T 4) (T 5) (T 6) (T 7) (T 8))) := by
  refine ct_in (cc := cX9_addVegetable) (maxL := 2) (ret := (some .int)) (own := RX9) (lv := [(0, .ref mr), (1, .int (nI z))]) (by decide +kernel) rfl rfl (Nat.le_of_ble_eq_true rfl) rfl ?_
  intro p e s m args below meth c A ls hx hb hr hml hts hown hlocks hK hA hP hD hS hl
  have hH := hT.1.1
  have hV := hT.1.2
  refine lv_aload_n hx hb dX9_addVegetable_0 rfl (lv_at hl 0 rfl) ?_
  refine lv_iconst (v := (nI 0)) hx hb dX9_addVegetable_1 (by decide) ?_
  refine pf_n (C := RX9) (T := TX9) (N := 15) (ci := 9) (q0 := 0) (ty := .int) (v := .int (nI 0)) (ws2 := (mX mr rf st ln 0 pl hs vs dg xx ++ qX cI (rf 0) (T 0 0) (T 0 1) (T 0 2) (T 0 3) (T 0 4) (T 0 5) (T 1) (T 2) (T 3) (T 4) (T 5) (T 6) (T 7) (T 8))) hx hb hts (iU inlX9) tyX9 tyX9_ok nmX9 hown hK hP hD hS rfl rfl 8 (by decide) (kU u_173) rfl rfl (tyX9_ok 8 (by decide)) rfl rfl (Nat.le_of_ble_eq_true rfl) dX9_addVegetable_2 rfl (fun Hp locs hP hD hS => ?_)
  refine lv_iload_n hx hb dX9_addVegetable_5 rfl (lv_at hl 1 rfl) ?_
  refine lv_iconst (v := (nI 0)) hx hb dX9_addVegetable_6 (by decide) ?_
  refine lv_bipush (v := (nI 40)) hx hb dX9_addVegetable_7 (by decide) ?_
  refine gp_S (c_X9_in l D cI cZ cF cL ((nI z)) ((nI 0)) ((nI 40)) ) (gUS u_140 u_141 u_5 u_142) rfl hdS_X9_in ⟨Nat.le_of_ble_eq_true rfl, Nat.le_of_ble_eq_true rfl⟩ ⟨rfl, rfl⟩ hx hb hml hown hts hK hA hP hD hS hl.1 ⟨Nat.le_of_ble_eq_true rfl, Nat.le_of_ble_eq_true rfl⟩ (wr := (mX mr rf st ln 0 pl hs vs dg xx ++ qX cI (rf 0) (T 0 0) (T 0 1) (T 0 2) (T 0 3) (T 0 4) (T 0 5) (T 1) (T 2) (T 3) (T 4) (T 5) (T 6) (T 7) (T 8))) (pm_cnt (fun _ => by simp only [List.countP_append, List.countP_nil, fT] <;> omega)) (fun _ => by simp only [List.map_append, List.map_nil, fX_m, bX_m, sX_m, pX_m, iaX_m, r5X_m, r6X_m, fT_m, hX_m, tX_m, xX_m, sgX_m, zaX_m, fsB_a, qX_m, mX_m]) (rest := []) rfl rfl (Nat.le_of_ble_eq_true rfl) dX9_addVegetable_9 (ws2 := (fun _ : Unit => (mX mr rf st ln 0 pl hs vs dg xx ++ qX cI (rf 0) (T 0 0) (T 0 1) (T 0 2) (T 0 3) (T 0 4) (T 0 5) (T 1) (T 2) (T 3) (T 4) (T 5) (T 6) (T 7) (T 8)))) (fun _ => (pm_cnt (fun _ => by simp only [List.countP_append, List.countP_nil, fT] <;> omega))) (fun _ Hp locs hP hD hS => ?_)
  refine lv_if_ne (tgt := 21) hx hb dX9_addVegetable_12 (by decide) (fun c_12 => ?_) (fun c_12 => ?_)
  · skip
    replace c_12 := cb_nz c_12
    refine lv_aload_n hx hb dX9_addVegetable_21 rfl (lv_at hl 0 rfl) ?_
    refine gf_n (C := RX9) (T := TX9) (N := 15) (ci := 9) (q0 := 0) (v := .ref (rf 0)) hx hb hts (iU inlX9) hown hK hP rfl rfl 0 (by decide) (kU u_129) rfl rfl dX9_addVegetable_22 ?_
    refine lv_iconst (v := (nI 1)) hx hb dX9_addVegetable_25 (by decide) ?_
    refine ia_n (q0 := 1) (t0 := 0) hx hb hK hP rfl rfl (by omega) (by decide) dX9_addVegetable_26 ?_
    rw [show qN (T 0 0) (T 0 1) (T 0 2) (T 0 3) (T 0 4) (T 0 5) (T 1) (T 2) (T 3) (T 4) (T 5) (T 6) (T 7) (T 8) 1 = (T 0 1) from rfl]
    refine lv_iconst (v := (nI 5)) hx hb dX9_addVegetable_27 (by decide) ?_
    refine lv_icmp_ne (tgt := 37) hx hb dX9_addVegetable_28 (by decide) (fun c_28 => ?_) (fun c_28 => ?_)
    · skip
      replace c_28 := cn_ne c_28
      (exfalso; omega)
    · skip
      replace c_28 := cn_eq (by omega) (by omega) c_28
      refine lv_aload_n hx hb dX9_addVegetable_31 rfl (lv_at hl 0 rfl) ?_
      refine lv_iconst (v := (nI 2)) hx hb dX9_addVegetable_32 (by decide) ?_
      refine gp_V (ci := 9) (q0 := 0) (cq := (RX9, TX9, 15)) (c_X9_fails l D cI cZ cF cL mr rf st ln 0 pl hs vs dg xx 2 ) (gUV u_175 u_176 u_177 u_5 u_178) rfl hdV_X9_fails ⟨Nat.le_of_ble_eq_true rfl, Nat.le_of_ble_eq_true rfl⟩ ⟨rfl, rfl⟩ hx hb hml hown hts hK hA hP hD hS hl.1 ⟨Nat.le_of_ble_eq_true rfl, Nat.le_of_ble_eq_true rfl⟩ rfl rfl rfl (wr := (qX cI (rf 0) (T 0 0) (T 0 1) (T 0 2) (T 0 3) (T 0 4) (T 0 5) (T 1) (T 2) (T 3) (T 4) (T 5) (T 6) (T 7) (T 8))) (pm_cnt (fun _ => by simp only [List.countP_append, List.countP_nil, fT] <;> omega)) (fun _ => by simp only [List.map_append, List.map_nil, fX_m, bX_m, sX_m, pX_m, iaX_m, r5X_m, r6X_m, fT_m, hX_m, tX_m, xX_m, sgX_m, zaX_m, fsB_a, qX_m, mX_m]) (rest := []) rfl rfl (Nat.le_of_ble_eq_true rfl) dX9_addVegetable_33 (ws2 := (fun _ : Unit => (mX mr rf st ln 2 pl hs vs dg xx ++ qX cI (rf 0) (T 0 0) (T 0 1) (T 0 2) (T 0 3) (T 0 4) (T 0 5) (T 1) (T 2) (T 3) (T 4) (T 5) (T 6) (T 7) (T 8)))) (fun _ => (pm_cnt (fun _ => by simp only [List.countP_append, List.countP_nil, fT] <;> omega))) (fun _ Hp locs hP hD hS => ?_)
      exact ct_i () hx hb hr hlocks hP hS rfl dX9_addVegetable_36
  · skip
    replace c_12 := cb_z c_12
    (exact absurd ((in_n (by omega) (by decide) (by decide)).mpr ⟨by omega, by omega⟩) c_12)
set_option maxHeartbeats 4000000 in
set_option maxRecDepth 100000 in
theorem f1_X9_setHarvest (l : Launch) (D : va_G) (cI cZ cF cL : ClassId) (mr : Nat) (rf : Nat → Nat) (st ln th pl hs vs : Nat) (dg : Int32) (xx : Int64) (T : Nat → Nat → Nat) (x y : Int32) (hT : FI T) (hbad : ¬ (0 ≤ x ∧ x < nI (T 0 1))) : CT l D (tysX cI cZ cF cL) yX9_setHarvest (wA yX9_setHarvest cX9_setHarvest 3 (some .int)) (rmF 2 43) [.ref mr, .int x, .int y] (mX mr rf st ln th pl hs vs dg xx ++ qX cI (rf 0) (T 0 0) (T 0 1) (T 0 2) (T 0 3) (T 0 4) (T 0 5) (T 1) (T 2) (T 3) (T 4) (T 5) (T 6) (T 7) (T 8)) (some (.int (nI 0))) (fun _ : Unit => (mX mr rf st ln 1 pl hs vs dg xx ++ qX cI (rf 0) (T 0 0) (T 0 1) (T 0 2) (T 0 3) (T 0 4) (T 0 5) (T 1) (T 2) (T 3) (T 4) (T 5) (T 6) (T 7) (T 8))) := by
  refine ct_in (cc := cX9_setHarvest) (maxL := 3) (ret := (some .int)) (own := RX9) (lv := [(0, .ref mr), (1, .int x), (2, .int y)]) (by decide +kernel) rfl rfl (Nat.le_of_ble_eq_true rfl) rfl ?_
  intro p e s m args below meth c A ls hx hb hr hml hts hown hlocks hK hA hP hD hS hl
  have hH := hT.1.1
  have hV := hT.1.2
  refine lv_aload_n hx hb dX9_setHarvest_0 rfl (lv_at hl 0 rfl) ?_
  refine lv_iconst (v := (nI 0)) hx hb dX9_setHarvest_1 (by decide) ?_
  refine pf_n (C := RX9) (T := TX9) (N := 15) (ci := 9) (q0 := 0) (ty := .int) (v := .int (nI 0)) (ws2 := (mX mr rf st ln 0 pl hs vs dg xx ++ qX cI (rf 0) (T 0 0) (T 0 1) (T 0 2) (T 0 3) (T 0 4) (T 0 5) (T 1) (T 2) (T 3) (T 4) (T 5) (T 6) (T 7) (T 8))) hx hb hts (iU inlX9) tyX9 tyX9_ok nmX9 hown hK hP hD hS rfl rfl 8 (by decide) (kU u_173) rfl rfl (tyX9_ok 8 (by decide)) rfl rfl (Nat.le_of_ble_eq_true rfl) dX9_setHarvest_2 rfl (fun Hp locs hP hD hS => ?_)
  refine lv_aload_n hx hb dX9_setHarvest_5 rfl (lv_at hl 0 rfl) ?_
  refine lv_iload_n hx hb dX9_setHarvest_6 rfl (lv_at hl 1 rfl) ?_
  refine gp_V (ci := 9) (q0 := 0) (cq := (RX9, TX9, 15)) (c_X9_isVegetable l D cI cZ cF cL mr rf st ln 0 pl hs vs dg xx (T 0 0) (T 0 1) (T 0 2) (T 0 3) (T 0 4) (T 0 5) (T 1) (T 2) (T 3) (T 4) (T 5) (T 6) (T 7) (T 8) x (by omega) (by omega)) (gUV u_450 u_451 u_452 u_5 u_453) rfl hdV_X9_isVegetable ⟨Nat.le_of_ble_eq_true rfl, Nat.le_of_ble_eq_true rfl⟩ ⟨rfl, rfl⟩ hx hb hml hown hts hK hA hP hD hS hl.1 ⟨Nat.le_of_ble_eq_true rfl, Nat.le_of_ble_eq_true rfl⟩ rfl rfl rfl (wr := ([] : va_W)) (pm_cnt (fun _ => by simp only [List.countP_append, List.countP_nil, fT] <;> omega)) (fun _ => by simp only [List.map_append, List.map_nil, fX_m, bX_m, sX_m, pX_m, iaX_m, r5X_m, r6X_m, fT_m, hX_m, tX_m, xX_m, sgX_m, zaX_m, fsB_a, qX_m, mX_m]) (rest := []) rfl rfl (Nat.le_of_ble_eq_true rfl) dX9_setHarvest_7 (ws2 := (fun _ : Unit => (mX mr rf st ln 0 pl hs vs dg xx ++ qX cI (rf 0) (T 0 0) (T 0 1) (T 0 2) (T 0 3) (T 0 4) (T 0 5) (T 1) (T 2) (T 3) (T 4) (T 5) (T 6) (T 7) (T 8)))) (fun _ => (pm_cnt (fun _ => by simp only [List.countP_append, List.countP_nil, fT] <;> omega))) (fun _ Hp locs hP hD hS => ?_)
  refine lv_if_ne (tgt := 19) hx hb dX9_setHarvest_10 (by decide) (fun c_10 => ?_) (fun c_10 => ?_)
  · skip
    replace c_10 := cb_nz c_10
    (exact absurd c_10 hbad)
  · skip
    replace c_10 := cb_z c_10
    refine lv_aload_n hx hb dX9_setHarvest_13 rfl (lv_at hl 0 rfl) ?_
    refine lv_iconst (v := (nI 1)) hx hb dX9_setHarvest_14 (by decide) ?_
    refine gp_V (ci := 9) (q0 := 0) (cq := (RX9, TX9, 15)) (c_X9_fails l D cI cZ cF cL mr rf st ln 0 pl hs vs dg xx 1 ) (gUV u_175 u_176 u_177 u_5 u_178) rfl hdV_X9_fails ⟨Nat.le_of_ble_eq_true rfl, Nat.le_of_ble_eq_true rfl⟩ ⟨rfl, rfl⟩ hx hb hml hown hts hK hA hP hD hS hl.1 ⟨Nat.le_of_ble_eq_true rfl, Nat.le_of_ble_eq_true rfl⟩ rfl rfl rfl (wr := (qX cI (rf 0) (T 0 0) (T 0 1) (T 0 2) (T 0 3) (T 0 4) (T 0 5) (T 1) (T 2) (T 3) (T 4) (T 5) (T 6) (T 7) (T 8))) (pm_cnt (fun _ => by simp only [List.countP_append, List.countP_nil, fT] <;> omega)) (fun _ => by simp only [List.map_append, List.map_nil, fX_m, bX_m, sX_m, pX_m, iaX_m, r5X_m, r6X_m, fT_m, hX_m, tX_m, xX_m, sgX_m, zaX_m, fsB_a, qX_m, mX_m]) (rest := []) rfl rfl (Nat.le_of_ble_eq_true rfl) dX9_setHarvest_15 (ws2 := (fun _ : Unit => (mX mr rf st ln 1 pl hs vs dg xx ++ qX cI (rf 0) (T 0 0) (T 0 1) (T 0 2) (T 0 3) (T 0 4) (T 0 5) (T 1) (T 2) (T 3) (T 4) (T 5) (T 6) (T 7) (T 8)))) (fun _ => (pm_cnt (fun _ => by simp only [List.countP_append, List.countP_nil, fT] <;> omega))) (fun _ Hp locs hP hD hS => ?_)
    exact ct_i () hx hb hr hlocks hP hS rfl dX9_setHarvest_18
set_option maxHeartbeats 4000000 in
set_option maxRecDepth 100000 in
theorem f2_X9_setHarvest (l : Launch) (D : va_G) (cI cZ cF cL : ClassId) (mr : Nat) (rf : Nat → Nat) (st ln th pl hs vs : Nat) (dg : Int32) (xx : Int64) (T : Nat → Nat → Nat) (v : Nat) (x : Int32) (hT : FI T) (hv : v < T 0 1) (hbad : ¬ (nI 0 ≤ x ∧ x ≤ nI 40)) : CT l D (tysX cI cZ cF cL) yX9_setHarvest (wA yX9_setHarvest cX9_setHarvest 3 (some .int)) (rmF 2 43) [.ref mr, .int (nI v), .int x] (mX mr rf st ln th pl hs vs dg xx ++ qX cI (rf 0) (T 0 0) (T 0 1) (T 0 2) (T 0 3) (T 0 4) (T 0 5) (T 1) (T 2) (T 3) (T 4) (T 5) (T 6) (T 7) (T 8)) (some (.int (nI 0))) (fun _ : Unit => (mX mr rf st ln 2 pl hs vs dg xx ++ qX cI (rf 0) (T 0 0) (T 0 1) (T 0 2) (T 0 3) (T 0 4) (T 0 5) (T 1) (T 2) (T 3) (T 4) (T 5) (T 6) (T 7) (T 8))) := by
  refine ct_in (cc := cX9_setHarvest) (maxL := 3) (ret := (some .int)) (own := RX9) (lv := [(0, .ref mr), (1, .int (nI v)), (2, .int x)]) (by decide +kernel) rfl rfl (Nat.le_of_ble_eq_true rfl) rfl ?_
  intro p e s m args below meth c A ls hx hb hr hml hts hown hlocks hK hA hP hD hS hl
  have hH := hT.1.1
  have hV := hT.1.2
  refine lv_aload_n hx hb dX9_setHarvest_0 rfl (lv_at hl 0 rfl) ?_
  refine lv_iconst (v := (nI 0)) hx hb dX9_setHarvest_1 (by decide) ?_
  refine pf_n (C := RX9) (T := TX9) (N := 15) (ci := 9) (q0 := 0) (ty := .int) (v := .int (nI 0)) (ws2 := (mX mr rf st ln 0 pl hs vs dg xx ++ qX cI (rf 0) (T 0 0) (T 0 1) (T 0 2) (T 0 3) (T 0 4) (T 0 5) (T 1) (T 2) (T 3) (T 4) (T 5) (T 6) (T 7) (T 8))) hx hb hts (iU inlX9) tyX9 tyX9_ok nmX9 hown hK hP hD hS rfl rfl 8 (by decide) (kU u_173) rfl rfl (tyX9_ok 8 (by decide)) rfl rfl (Nat.le_of_ble_eq_true rfl) dX9_setHarvest_2 rfl (fun Hp locs hP hD hS => ?_)
  refine lv_aload_n hx hb dX9_setHarvest_5 rfl (lv_at hl 0 rfl) ?_
  refine lv_iload_n hx hb dX9_setHarvest_6 rfl (lv_at hl 1 rfl) ?_
  refine gp_V (ci := 9) (q0 := 0) (cq := (RX9, TX9, 15)) (c_X9_isVegetable l D cI cZ cF cL mr rf st ln 0 pl hs vs dg xx (T 0 0) (T 0 1) (T 0 2) (T 0 3) (T 0 4) (T 0 5) (T 1) (T 2) (T 3) (T 4) (T 5) (T 6) (T 7) (T 8) ((nI v)) (by omega) (by omega)) (gUV u_450 u_451 u_452 u_5 u_453) rfl hdV_X9_isVegetable ⟨Nat.le_of_ble_eq_true rfl, Nat.le_of_ble_eq_true rfl⟩ ⟨rfl, rfl⟩ hx hb hml hown hts hK hA hP hD hS hl.1 ⟨Nat.le_of_ble_eq_true rfl, Nat.le_of_ble_eq_true rfl⟩ rfl rfl rfl (wr := ([] : va_W)) (pm_cnt (fun _ => by simp only [List.countP_append, List.countP_nil, fT] <;> omega)) (fun _ => by simp only [List.map_append, List.map_nil, fX_m, bX_m, sX_m, pX_m, iaX_m, r5X_m, r6X_m, fT_m, hX_m, tX_m, xX_m, sgX_m, zaX_m, fsB_a, qX_m, mX_m]) (rest := []) rfl rfl (Nat.le_of_ble_eq_true rfl) dX9_setHarvest_7 (ws2 := (fun _ : Unit => (mX mr rf st ln 0 pl hs vs dg xx ++ qX cI (rf 0) (T 0 0) (T 0 1) (T 0 2) (T 0 3) (T 0 4) (T 0 5) (T 1) (T 2) (T 3) (T 4) (T 5) (T 6) (T 7) (T 8)))) (fun _ => (pm_cnt (fun _ => by simp only [List.countP_append, List.countP_nil, fT] <;> omega))) (fun _ Hp locs hP hD hS => ?_)
  refine lv_if_ne (tgt := 19) hx hb dX9_setHarvest_10 (by decide) (fun c_10 => ?_) (fun c_10 => ?_)
  · skip
    replace c_10 := cb_nz c_10
    refine lv_iload_n hx hb dX9_setHarvest_19 rfl (lv_at hl 2 rfl) ?_
    refine lv_iconst (v := (nI 0)) hx hb dX9_setHarvest_20 (by decide) ?_
    refine lv_bipush (v := (nI 40)) hx hb dX9_setHarvest_21 (by decide) ?_
    refine gp_S (c_X9_in l D cI cZ cF cL x ((nI 0)) ((nI 40)) ) (gUS u_140 u_141 u_5 u_142) rfl hdS_X9_in ⟨Nat.le_of_ble_eq_true rfl, Nat.le_of_ble_eq_true rfl⟩ ⟨rfl, rfl⟩ hx hb hml hown hts hK hA hP hD hS hl.1 ⟨Nat.le_of_ble_eq_true rfl, Nat.le_of_ble_eq_true rfl⟩ (wr := (mX mr rf st ln 0 pl hs vs dg xx ++ qX cI (rf 0) (T 0 0) (T 0 1) (T 0 2) (T 0 3) (T 0 4) (T 0 5) (T 1) (T 2) (T 3) (T 4) (T 5) (T 6) (T 7) (T 8))) (pm_cnt (fun _ => by simp only [List.countP_append, List.countP_nil, fT] <;> omega)) (fun _ => by simp only [List.map_append, List.map_nil, fX_m, bX_m, sX_m, pX_m, iaX_m, r5X_m, r6X_m, fT_m, hX_m, tX_m, xX_m, sgX_m, zaX_m, fsB_a, qX_m, mX_m]) (rest := []) rfl rfl (Nat.le_of_ble_eq_true rfl) dX9_setHarvest_23 (ws2 := (fun _ : Unit => (mX mr rf st ln 0 pl hs vs dg xx ++ qX cI (rf 0) (T 0 0) (T 0 1) (T 0 2) (T 0 3) (T 0 4) (T 0 5) (T 1) (T 2) (T 3) (T 4) (T 5) (T 6) (T 7) (T 8)))) (fun _ => (pm_cnt (fun _ => by simp only [List.countP_append, List.countP_nil, fT] <;> omega))) (fun _ Hp locs hP hD hS => ?_)
    refine lv_if_ne (tgt := 35) hx hb dX9_setHarvest_26 (by decide) (fun c_26 => ?_) (fun c_26 => ?_)
    · skip
      replace c_26 := cb_nz c_26
      (exact absurd c_26 hbad)
    · skip
      replace c_26 := cb_z c_26
      refine lv_aload_n hx hb dX9_setHarvest_29 rfl (lv_at hl 0 rfl) ?_
      refine lv_iconst (v := (nI 2)) hx hb dX9_setHarvest_30 (by decide) ?_
      refine gp_V (ci := 9) (q0 := 0) (cq := (RX9, TX9, 15)) (c_X9_fails l D cI cZ cF cL mr rf st ln 0 pl hs vs dg xx 2 ) (gUV u_175 u_176 u_177 u_5 u_178) rfl hdV_X9_fails ⟨Nat.le_of_ble_eq_true rfl, Nat.le_of_ble_eq_true rfl⟩ ⟨rfl, rfl⟩ hx hb hml hown hts hK hA hP hD hS hl.1 ⟨Nat.le_of_ble_eq_true rfl, Nat.le_of_ble_eq_true rfl⟩ rfl rfl rfl (wr := (qX cI (rf 0) (T 0 0) (T 0 1) (T 0 2) (T 0 3) (T 0 4) (T 0 5) (T 1) (T 2) (T 3) (T 4) (T 5) (T 6) (T 7) (T 8))) (pm_cnt (fun _ => by simp only [List.countP_append, List.countP_nil, fT] <;> omega)) (fun _ => by simp only [List.map_append, List.map_nil, fX_m, bX_m, sX_m, pX_m, iaX_m, r5X_m, r6X_m, fT_m, hX_m, tX_m, xX_m, sgX_m, zaX_m, fsB_a, qX_m, mX_m]) (rest := []) rfl rfl (Nat.le_of_ble_eq_true rfl) dX9_setHarvest_31 (ws2 := (fun _ : Unit => (mX mr rf st ln 2 pl hs vs dg xx ++ qX cI (rf 0) (T 0 0) (T 0 1) (T 0 2) (T 0 3) (T 0 4) (T 0 5) (T 1) (T 2) (T 3) (T 4) (T 5) (T 6) (T 7) (T 8)))) (fun _ => (pm_cnt (fun _ => by simp only [List.countP_append, List.countP_nil, fT] <;> omega))) (fun _ Hp locs hP hD hS => ?_)
      exact ct_i () hx hb hr hlocks hP hS rfl dX9_setHarvest_34
  · skip
    replace c_10 := cb_z c_10
    (exact absurd (hhV hv (Nat.le_trans hT.1.2 (by decide))) c_10)
set_option maxHeartbeats 4000000 in
set_option maxRecDepth 100000 in
theorem f1_X9_setLiking (l : Launch) (D : va_G) (cI cZ cF cL : ClassId) (mr : Nat) (rf : Nat → Nat) (st ln th pl hs vs : Nat) (dg : Int32) (xx : Int64) (T : Nat → Nat → Nat) (x y z : Int32) (hT : FI T) (hbad : ¬ (0 ≤ x ∧ x < nI (T 0 0))) : CT l D (tysX cI cZ cF cL) yX9_setLiking (wA yX9_setLiking cX9_setLiking 4 (some .int)) (rmF 2 43) [.ref mr, .int x, .int y, .int z] (mX mr rf st ln th pl hs vs dg xx ++ qX cI (rf 0) (T 0 0) (T 0 1) (T 0 2) (T 0 3) (T 0 4) (T 0 5) (T 1) (T 2) (T 3) (T 4) (T 5) (T 6) (T 7) (T 8)) (some (.int (nI 0))) (fun _ : Unit => (mX mr rf st ln 1 pl hs vs dg xx ++ qX cI (rf 0) (T 0 0) (T 0 1) (T 0 2) (T 0 3) (T 0 4) (T 0 5) (T 1) (T 2) (T 3) (T 4) (T 5) (T 6) (T 7) (T 8))) := by
  refine ct_in (cc := cX9_setLiking) (maxL := 4) (ret := (some .int)) (own := RX9) (lv := [(0, .ref mr), (1, .int x), (2, .int y), (3, .int z)]) (by decide +kernel) rfl rfl (Nat.le_of_ble_eq_true rfl) rfl ?_
  intro p e s m args below meth c A ls hx hb hr hml hts hown hlocks hK hA hP hD hS hl
  have hH := hT.1.1
  have hV := hT.1.2
  refine lv_aload_n hx hb dX9_setLiking_0 rfl (lv_at hl 0 rfl) ?_
  refine lv_iconst (v := (nI 0)) hx hb dX9_setLiking_1 (by decide) ?_
  refine pf_n (C := RX9) (T := TX9) (N := 15) (ci := 9) (q0 := 0) (ty := .int) (v := .int (nI 0)) (ws2 := (mX mr rf st ln 0 pl hs vs dg xx ++ qX cI (rf 0) (T 0 0) (T 0 1) (T 0 2) (T 0 3) (T 0 4) (T 0 5) (T 1) (T 2) (T 3) (T 4) (T 5) (T 6) (T 7) (T 8))) hx hb hts (iU inlX9) tyX9 tyX9_ok nmX9 hown hK hP hD hS rfl rfl 8 (by decide) (kU u_173) rfl rfl (tyX9_ok 8 (by decide)) rfl rfl (Nat.le_of_ble_eq_true rfl) dX9_setLiking_2 rfl (fun Hp locs hP hD hS => ?_)
  refine lv_aload_n hx hb dX9_setLiking_5 rfl (lv_at hl 0 rfl) ?_
  refine lv_iload_n hx hb dX9_setLiking_6 rfl (lv_at hl 1 rfl) ?_
  refine gp_V (ci := 9) (q0 := 0) (cq := (RX9, TX9, 15)) (c_X9_isHouse l D cI cZ cF cL mr rf st ln 0 pl hs vs dg xx (T 0 0) (T 0 1) (T 0 2) (T 0 3) (T 0 4) (T 0 5) (T 1) (T 2) (T 3) (T 4) (T 5) (T 6) (T 7) (T 8) x (by omega) (by omega)) (gUV u_397 u_398 u_399 u_5 u_400) rfl hdV_X9_isHouse ⟨Nat.le_of_ble_eq_true rfl, Nat.le_of_ble_eq_true rfl⟩ ⟨rfl, rfl⟩ hx hb hml hown hts hK hA hP hD hS hl.1 ⟨Nat.le_of_ble_eq_true rfl, Nat.le_of_ble_eq_true rfl⟩ rfl rfl rfl (wr := ([] : va_W)) (pm_cnt (fun _ => by simp only [List.countP_append, List.countP_nil, fT] <;> omega)) (fun _ => by simp only [List.map_append, List.map_nil, fX_m, bX_m, sX_m, pX_m, iaX_m, r5X_m, r6X_m, fT_m, hX_m, tX_m, xX_m, sgX_m, zaX_m, fsB_a, qX_m, mX_m]) (rest := []) rfl rfl (Nat.le_of_ble_eq_true rfl) dX9_setLiking_7 (ws2 := (fun _ : Unit => (mX mr rf st ln 0 pl hs vs dg xx ++ qX cI (rf 0) (T 0 0) (T 0 1) (T 0 2) (T 0 3) (T 0 4) (T 0 5) (T 1) (T 2) (T 3) (T 4) (T 5) (T 6) (T 7) (T 8)))) (fun _ => (pm_cnt (fun _ => by simp only [List.countP_append, List.countP_nil, fT] <;> omega))) (fun _ Hp locs hP hD hS => ?_)
  refine lv_if_eq (tgt := 21) hx hb dX9_setLiking_10 (by decide) (fun c_10 => ?_) (fun c_10 => ?_)
  · skip
    replace c_10 := cb_z c_10
    refine lv_aload_n hx hb dX9_setLiking_21 rfl (lv_at hl 0 rfl) ?_
    refine lv_iconst (v := (nI 1)) hx hb dX9_setLiking_22 (by decide) ?_
    refine gp_V (ci := 9) (q0 := 0) (cq := (RX9, TX9, 15)) (c_X9_fails l D cI cZ cF cL mr rf st ln 0 pl hs vs dg xx 1 ) (gUV u_175 u_176 u_177 u_5 u_178) rfl hdV_X9_fails ⟨Nat.le_of_ble_eq_true rfl, Nat.le_of_ble_eq_true rfl⟩ ⟨rfl, rfl⟩ hx hb hml hown hts hK hA hP hD hS hl.1 ⟨Nat.le_of_ble_eq_true rfl, Nat.le_of_ble_eq_true rfl⟩ rfl rfl rfl (wr := (qX cI (rf 0) (T 0 0) (T 0 1) (T 0 2) (T 0 3) (T 0 4) (T 0 5) (T 1) (T 2) (T 3) (T 4) (T 5) (T 6) (T 7) (T 8))) (pm_cnt (fun _ => by simp only [List.countP_append, List.countP_nil, fT] <;> omega)) (fun _ => by simp only [List.map_append, List.map_nil, fX_m, bX_m, sX_m, pX_m, iaX_m, r5X_m, r6X_m, fT_m, hX_m, tX_m, xX_m, sgX_m, zaX_m, fsB_a, qX_m, mX_m]) (rest := []) rfl rfl (Nat.le_of_ble_eq_true rfl) dX9_setLiking_23 (ws2 := (fun _ : Unit => (mX mr rf st ln 1 pl hs vs dg xx ++ qX cI (rf 0) (T 0 0) (T 0 1) (T 0 2) (T 0 3) (T 0 4) (T 0 5) (T 1) (T 2) (T 3) (T 4) (T 5) (T 6) (T 7) (T 8)))) (fun _ => (pm_cnt (fun _ => by simp only [List.countP_append, List.countP_nil, fT] <;> omega))) (fun _ Hp locs hP hD hS => ?_)
    exact ct_i () hx hb hr hlocks hP hS rfl dX9_setLiking_26
  · skip
    replace c_10 := cb_nz c_10
    (exact absurd c_10 hbad)
set_option maxHeartbeats 4000000 in
set_option maxRecDepth 100000 in
theorem f2_X9_setLiking (l : Launch) (D : va_G) (cI cZ cF cL : ClassId) (mr : Nat) (rf : Nat → Nat) (st ln th pl hs vs : Nat) (dg : Int32) (xx : Int64) (T : Nat → Nat → Nat) (h : Nat) (x z : Int32) (hT : FI T) (hh : h < T 0 0) (hbad : ¬ (0 ≤ x ∧ x < nI (T 0 1))) : CT l D (tysX cI cZ cF cL) yX9_setLiking (wA yX9_setLiking cX9_setLiking 4 (some .int)) (rmF 2 43) [.ref mr, .int (nI h), .int x, .int z] (mX mr rf st ln th pl hs vs dg xx ++ qX cI (rf 0) (T 0 0) (T 0 1) (T 0 2) (T 0 3) (T 0 4) (T 0 5) (T 1) (T 2) (T 3) (T 4) (T 5) (T 6) (T 7) (T 8)) (some (.int (nI 0))) (fun _ : Unit => (mX mr rf st ln 1 pl hs vs dg xx ++ qX cI (rf 0) (T 0 0) (T 0 1) (T 0 2) (T 0 3) (T 0 4) (T 0 5) (T 1) (T 2) (T 3) (T 4) (T 5) (T 6) (T 7) (T 8))) := by
  refine ct_in (cc := cX9_setLiking) (maxL := 4) (ret := (some .int)) (own := RX9) (lv := [(0, .ref mr), (1, .int (nI h)), (2, .int x), (3, .int z)]) (by decide +kernel) rfl rfl (Nat.le_of_ble_eq_true rfl) rfl ?_
  intro p e s m args below meth c A ls hx hb hr hml hts hown hlocks hK hA hP hD hS hl
  have hH := hT.1.1
  have hV := hT.1.2
  refine lv_aload_n hx hb dX9_setLiking_0 rfl (lv_at hl 0 rfl) ?_
  refine lv_iconst (v := (nI 0)) hx hb dX9_setLiking_1 (by decide) ?_
  refine pf_n (C := RX9) (T := TX9) (N := 15) (ci := 9) (q0 := 0) (ty := .int) (v := .int (nI 0)) (ws2 := (mX mr rf st ln 0 pl hs vs dg xx ++ qX cI (rf 0) (T 0 0) (T 0 1) (T 0 2) (T 0 3) (T 0 4) (T 0 5) (T 1) (T 2) (T 3) (T 4) (T 5) (T 6) (T 7) (T 8))) hx hb hts (iU inlX9) tyX9 tyX9_ok nmX9 hown hK hP hD hS rfl rfl 8 (by decide) (kU u_173) rfl rfl (tyX9_ok 8 (by decide)) rfl rfl (Nat.le_of_ble_eq_true rfl) dX9_setLiking_2 rfl (fun Hp locs hP hD hS => ?_)
  refine lv_aload_n hx hb dX9_setLiking_5 rfl (lv_at hl 0 rfl) ?_
  refine lv_iload_n hx hb dX9_setLiking_6 rfl (lv_at hl 1 rfl) ?_
  refine gp_V (ci := 9) (q0 := 0) (cq := (RX9, TX9, 15)) (c_X9_isHouse l D cI cZ cF cL mr rf st ln 0 pl hs vs dg xx (T 0 0) (T 0 1) (T 0 2) (T 0 3) (T 0 4) (T 0 5) (T 1) (T 2) (T 3) (T 4) (T 5) (T 6) (T 7) (T 8) ((nI h)) (by omega) (by omega)) (gUV u_397 u_398 u_399 u_5 u_400) rfl hdV_X9_isHouse ⟨Nat.le_of_ble_eq_true rfl, Nat.le_of_ble_eq_true rfl⟩ ⟨rfl, rfl⟩ hx hb hml hown hts hK hA hP hD hS hl.1 ⟨Nat.le_of_ble_eq_true rfl, Nat.le_of_ble_eq_true rfl⟩ rfl rfl rfl (wr := ([] : va_W)) (pm_cnt (fun _ => by simp only [List.countP_append, List.countP_nil, fT] <;> omega)) (fun _ => by simp only [List.map_append, List.map_nil, fX_m, bX_m, sX_m, pX_m, iaX_m, r5X_m, r6X_m, fT_m, hX_m, tX_m, xX_m, sgX_m, zaX_m, fsB_a, qX_m, mX_m]) (rest := []) rfl rfl (Nat.le_of_ble_eq_true rfl) dX9_setLiking_7 (ws2 := (fun _ : Unit => (mX mr rf st ln 0 pl hs vs dg xx ++ qX cI (rf 0) (T 0 0) (T 0 1) (T 0 2) (T 0 3) (T 0 4) (T 0 5) (T 1) (T 2) (T 3) (T 4) (T 5) (T 6) (T 7) (T 8)))) (fun _ => (pm_cnt (fun _ => by simp only [List.countP_append, List.countP_nil, fT] <;> omega))) (fun _ Hp locs hP hD hS => ?_)
  refine lv_if_eq (tgt := 21) hx hb dX9_setLiking_10 (by decide) (fun c_10 => ?_) (fun c_10 => ?_)
  · skip
    replace c_10 := cb_z c_10
    (exact absurd (hhV hh hT.1.1) c_10)
  · skip
    replace c_10 := cb_nz c_10
    refine lv_aload_n hx hb dX9_setLiking_13 rfl (lv_at hl 0 rfl) ?_
    refine lv_iload_n hx hb dX9_setLiking_14 rfl (lv_at hl 2 rfl) ?_
    refine gp_V (ci := 9) (q0 := 0) (cq := (RX9, TX9, 15)) (c_X9_isVegetable l D cI cZ cF cL mr rf st ln 0 pl hs vs dg xx (T 0 0) (T 0 1) (T 0 2) (T 0 3) (T 0 4) (T 0 5) (T 1) (T 2) (T 3) (T 4) (T 5) (T 6) (T 7) (T 8) x (by omega) (by omega)) (gUV u_450 u_451 u_452 u_5 u_453) rfl hdV_X9_isVegetable ⟨Nat.le_of_ble_eq_true rfl, Nat.le_of_ble_eq_true rfl⟩ ⟨rfl, rfl⟩ hx hb hml hown hts hK hA hP hD hS hl.1 ⟨Nat.le_of_ble_eq_true rfl, Nat.le_of_ble_eq_true rfl⟩ rfl rfl rfl (wr := ([] : va_W)) (pm_cnt (fun _ => by simp only [List.countP_append, List.countP_nil, fT] <;> omega)) (fun _ => by simp only [List.map_append, List.map_nil, fX_m, bX_m, sX_m, pX_m, iaX_m, r5X_m, r6X_m, fT_m, hX_m, tX_m, xX_m, sgX_m, zaX_m, fsB_a, qX_m, mX_m]) (rest := []) rfl rfl (Nat.le_of_ble_eq_true rfl) dX9_setLiking_15 (ws2 := (fun _ : Unit => (mX mr rf st ln 0 pl hs vs dg xx ++ qX cI (rf 0) (T 0 0) (T 0 1) (T 0 2) (T 0 3) (T 0 4) (T 0 5) (T 1) (T 2) (T 3) (T 4) (T 5) (T 6) (T 7) (T 8)))) (fun _ => (pm_cnt (fun _ => by simp only [List.countP_append, List.countP_nil, fT] <;> omega))) (fun _ Hp locs hP hD hS => ?_)
    refine lv_if_ne (tgt := 27) hx hb dX9_setLiking_18 (by decide) (fun c_18 => ?_) (fun c_18 => ?_)
    · skip
      replace c_18 := cb_nz c_18
      (exact absurd c_18 hbad)
    · skip
      replace c_18 := cb_z c_18
      refine lv_aload_n hx hb dX9_setLiking_21 rfl (lv_at hl 0 rfl) ?_
      refine lv_iconst (v := (nI 1)) hx hb dX9_setLiking_22 (by decide) ?_
      refine gp_V (ci := 9) (q0 := 0) (cq := (RX9, TX9, 15)) (c_X9_fails l D cI cZ cF cL mr rf st ln 0 pl hs vs dg xx 1 ) (gUV u_175 u_176 u_177 u_5 u_178) rfl hdV_X9_fails ⟨Nat.le_of_ble_eq_true rfl, Nat.le_of_ble_eq_true rfl⟩ ⟨rfl, rfl⟩ hx hb hml hown hts hK hA hP hD hS hl.1 ⟨Nat.le_of_ble_eq_true rfl, Nat.le_of_ble_eq_true rfl⟩ rfl rfl rfl (wr := (qX cI (rf 0) (T 0 0) (T 0 1) (T 0 2) (T 0 3) (T 0 4) (T 0 5) (T 1) (T 2) (T 3) (T 4) (T 5) (T 6) (T 7) (T 8))) (pm_cnt (fun _ => by simp only [List.countP_append, List.countP_nil, fT] <;> omega)) (fun _ => by simp only [List.map_append, List.map_nil, fX_m, bX_m, sX_m, pX_m, iaX_m, r5X_m, r6X_m, fT_m, hX_m, tX_m, xX_m, sgX_m, zaX_m, fsB_a, qX_m, mX_m]) (rest := []) rfl rfl (Nat.le_of_ble_eq_true rfl) dX9_setLiking_23 (ws2 := (fun _ : Unit => (mX mr rf st ln 1 pl hs vs dg xx ++ qX cI (rf 0) (T 0 0) (T 0 1) (T 0 2) (T 0 3) (T 0 4) (T 0 5) (T 1) (T 2) (T 3) (T 4) (T 5) (T 6) (T 7) (T 8)))) (fun _ => (pm_cnt (fun _ => by simp only [List.countP_append, List.countP_nil, fT] <;> omega))) (fun _ Hp locs hP hD hS => ?_)
      exact ct_i () hx hb hr hlocks hP hS rfl dX9_setLiking_26
set_option maxHeartbeats 4000000 in
set_option maxRecDepth 100000 in
theorem f3_X9_setLiking (l : Launch) (D : va_G) (cI cZ cF cL : ClassId) (mr : Nat) (rf : Nat → Nat) (st ln th pl hs vs : Nat) (dg : Int32) (xx : Int64) (T : Nat → Nat → Nat) (h v : Nat) (x : Int32) (hT : FI T) (hh : h < T 0 0) (hv : v < T 0 1) (hbad : ¬ (nI 0 ≤ x ∧ x ≤ nI 9)) : CT l D (tysX cI cZ cF cL) yX9_setLiking (wA yX9_setLiking cX9_setLiking 4 (some .int)) (rmF 2 43) [.ref mr, .int (nI h), .int (nI v), .int x] (mX mr rf st ln th pl hs vs dg xx ++ qX cI (rf 0) (T 0 0) (T 0 1) (T 0 2) (T 0 3) (T 0 4) (T 0 5) (T 1) (T 2) (T 3) (T 4) (T 5) (T 6) (T 7) (T 8)) (some (.int (nI 0))) (fun _ : Unit => (mX mr rf st ln 2 pl hs vs dg xx ++ qX cI (rf 0) (T 0 0) (T 0 1) (T 0 2) (T 0 3) (T 0 4) (T 0 5) (T 1) (T 2) (T 3) (T 4) (T 5) (T 6) (T 7) (T 8))) := by
  refine ct_in (cc := cX9_setLiking) (maxL := 4) (ret := (some .int)) (own := RX9) (lv := [(0, .ref mr), (1, .int (nI h)), (2, .int (nI v)), (3, .int x)]) (by decide +kernel) rfl rfl (Nat.le_of_ble_eq_true rfl) rfl ?_
  intro p e s m args below meth c A ls hx hb hr hml hts hown hlocks hK hA hP hD hS hl
  have hH := hT.1.1
  have hV := hT.1.2
  refine lv_aload_n hx hb dX9_setLiking_0 rfl (lv_at hl 0 rfl) ?_
  refine lv_iconst (v := (nI 0)) hx hb dX9_setLiking_1 (by decide) ?_
  refine pf_n (C := RX9) (T := TX9) (N := 15) (ci := 9) (q0 := 0) (ty := .int) (v := .int (nI 0)) (ws2 := (mX mr rf st ln 0 pl hs vs dg xx ++ qX cI (rf 0) (T 0 0) (T 0 1) (T 0 2) (T 0 3) (T 0 4) (T 0 5) (T 1) (T 2) (T 3) (T 4) (T 5) (T 6) (T 7) (T 8))) hx hb hts (iU inlX9) tyX9 tyX9_ok nmX9 hown hK hP hD hS rfl rfl 8 (by decide) (kU u_173) rfl rfl (tyX9_ok 8 (by decide)) rfl rfl (Nat.le_of_ble_eq_true rfl) dX9_setLiking_2 rfl (fun Hp locs hP hD hS => ?_)
  refine lv_aload_n hx hb dX9_setLiking_5 rfl (lv_at hl 0 rfl) ?_
  refine lv_iload_n hx hb dX9_setLiking_6 rfl (lv_at hl 1 rfl) ?_
  refine gp_V (ci := 9) (q0 := 0) (cq := (RX9, TX9, 15)) (c_X9_isHouse l D cI cZ cF cL mr rf st ln 0 pl hs vs dg xx (T 0 0) (T 0 1) (T 0 2) (T 0 3) (T 0 4) (T 0 5) (T 1) (T 2) (T 3) (T 4) (T 5) (T 6) (T 7) (T 8) ((nI h)) (by omega) (by omega)) (gUV u_397 u_398 u_399 u_5 u_400) rfl hdV_X9_isHouse ⟨Nat.le_of_ble_eq_true rfl, Nat.le_of_ble_eq_true rfl⟩ ⟨rfl, rfl⟩ hx hb hml hown hts hK hA hP hD hS hl.1 ⟨Nat.le_of_ble_eq_true rfl, Nat.le_of_ble_eq_true rfl⟩ rfl rfl rfl (wr := ([] : va_W)) (pm_cnt (fun _ => by simp only [List.countP_append, List.countP_nil, fT] <;> omega)) (fun _ => by simp only [List.map_append, List.map_nil, fX_m, bX_m, sX_m, pX_m, iaX_m, r5X_m, r6X_m, fT_m, hX_m, tX_m, xX_m, sgX_m, zaX_m, fsB_a, qX_m, mX_m]) (rest := []) rfl rfl (Nat.le_of_ble_eq_true rfl) dX9_setLiking_7 (ws2 := (fun _ : Unit => (mX mr rf st ln 0 pl hs vs dg xx ++ qX cI (rf 0) (T 0 0) (T 0 1) (T 0 2) (T 0 3) (T 0 4) (T 0 5) (T 1) (T 2) (T 3) (T 4) (T 5) (T 6) (T 7) (T 8)))) (fun _ => (pm_cnt (fun _ => by simp only [List.countP_append, List.countP_nil, fT] <;> omega))) (fun _ Hp locs hP hD hS => ?_)
  refine lv_if_eq (tgt := 21) hx hb dX9_setLiking_10 (by decide) (fun c_10 => ?_) (fun c_10 => ?_)
  · skip
    replace c_10 := cb_z c_10
    (exact absurd (hhV hh hT.1.1) c_10)
  · skip
    replace c_10 := cb_nz c_10
    refine lv_aload_n hx hb dX9_setLiking_13 rfl (lv_at hl 0 rfl) ?_
    refine lv_iload_n hx hb dX9_setLiking_14 rfl (lv_at hl 2 rfl) ?_
    refine gp_V (ci := 9) (q0 := 0) (cq := (RX9, TX9, 15)) (c_X9_isVegetable l D cI cZ cF cL mr rf st ln 0 pl hs vs dg xx (T 0 0) (T 0 1) (T 0 2) (T 0 3) (T 0 4) (T 0 5) (T 1) (T 2) (T 3) (T 4) (T 5) (T 6) (T 7) (T 8) ((nI v)) (by omega) (by omega)) (gUV u_450 u_451 u_452 u_5 u_453) rfl hdV_X9_isVegetable ⟨Nat.le_of_ble_eq_true rfl, Nat.le_of_ble_eq_true rfl⟩ ⟨rfl, rfl⟩ hx hb hml hown hts hK hA hP hD hS hl.1 ⟨Nat.le_of_ble_eq_true rfl, Nat.le_of_ble_eq_true rfl⟩ rfl rfl rfl (wr := ([] : va_W)) (pm_cnt (fun _ => by simp only [List.countP_append, List.countP_nil, fT] <;> omega)) (fun _ => by simp only [List.map_append, List.map_nil, fX_m, bX_m, sX_m, pX_m, iaX_m, r5X_m, r6X_m, fT_m, hX_m, tX_m, xX_m, sgX_m, zaX_m, fsB_a, qX_m, mX_m]) (rest := []) rfl rfl (Nat.le_of_ble_eq_true rfl) dX9_setLiking_15 (ws2 := (fun _ : Unit => (mX mr rf st ln 0 pl hs vs dg xx ++ qX cI (rf 0) (T 0 0) (T 0 1) (T 0 2) (T 0 3) (T 0 4) (T 0 5) (T 1) (T 2) (T 3) (T 4) (T 5) (T 6) (T 7) (T 8)))) (fun _ => (pm_cnt (fun _ => by simp only [List.countP_append, List.countP_nil, fT] <;> omega))) (fun _ Hp locs hP hD hS => ?_)
    refine lv_if_ne (tgt := 27) hx hb dX9_setLiking_18 (by decide) (fun c_18 => ?_) (fun c_18 => ?_)
    · skip
      replace c_18 := cb_nz c_18
      refine lv_iload_n hx hb dX9_setLiking_27 rfl (lv_at hl 3 rfl) ?_
      refine lv_iconst (v := (nI 0)) hx hb dX9_setLiking_28 (by decide) ?_
      refine lv_bipush (v := (nI 9)) hx hb dX9_setLiking_29 (by decide) ?_
      refine gp_S (c_X9_in l D cI cZ cF cL x ((nI 0)) ((nI 9)) ) (gUS u_140 u_141 u_5 u_142) rfl hdS_X9_in ⟨Nat.le_of_ble_eq_true rfl, Nat.le_of_ble_eq_true rfl⟩ ⟨rfl, rfl⟩ hx hb hml hown hts hK hA hP hD hS hl.1 ⟨Nat.le_of_ble_eq_true rfl, Nat.le_of_ble_eq_true rfl⟩ (wr := (mX mr rf st ln 0 pl hs vs dg xx ++ qX cI (rf 0) (T 0 0) (T 0 1) (T 0 2) (T 0 3) (T 0 4) (T 0 5) (T 1) (T 2) (T 3) (T 4) (T 5) (T 6) (T 7) (T 8))) (pm_cnt (fun _ => by simp only [List.countP_append, List.countP_nil, fT] <;> omega)) (fun _ => by simp only [List.map_append, List.map_nil, fX_m, bX_m, sX_m, pX_m, iaX_m, r5X_m, r6X_m, fT_m, hX_m, tX_m, xX_m, sgX_m, zaX_m, fsB_a, qX_m, mX_m]) (rest := []) rfl rfl (Nat.le_of_ble_eq_true rfl) dX9_setLiking_31 (ws2 := (fun _ : Unit => (mX mr rf st ln 0 pl hs vs dg xx ++ qX cI (rf 0) (T 0 0) (T 0 1) (T 0 2) (T 0 3) (T 0 4) (T 0 5) (T 1) (T 2) (T 3) (T 4) (T 5) (T 6) (T 7) (T 8)))) (fun _ => (pm_cnt (fun _ => by simp only [List.countP_append, List.countP_nil, fT] <;> omega))) (fun _ Hp locs hP hD hS => ?_)
      refine lv_if_ne (tgt := 43) hx hb dX9_setLiking_34 (by decide) (fun c_34 => ?_) (fun c_34 => ?_)
      · skip
        replace c_34 := cb_nz c_34
        (exact absurd c_34 hbad)
      · skip
        replace c_34 := cb_z c_34
        refine lv_aload_n hx hb dX9_setLiking_37 rfl (lv_at hl 0 rfl) ?_
        refine lv_iconst (v := (nI 2)) hx hb dX9_setLiking_38 (by decide) ?_
        refine gp_V (ci := 9) (q0 := 0) (cq := (RX9, TX9, 15)) (c_X9_fails l D cI cZ cF cL mr rf st ln 0 pl hs vs dg xx 2 ) (gUV u_175 u_176 u_177 u_5 u_178) rfl hdV_X9_fails ⟨Nat.le_of_ble_eq_true rfl, Nat.le_of_ble_eq_true rfl⟩ ⟨rfl, rfl⟩ hx hb hml hown hts hK hA hP hD hS hl.1 ⟨Nat.le_of_ble_eq_true rfl, Nat.le_of_ble_eq_true rfl⟩ rfl rfl rfl (wr := (qX cI (rf 0) (T 0 0) (T 0 1) (T 0 2) (T 0 3) (T 0 4) (T 0 5) (T 1) (T 2) (T 3) (T 4) (T 5) (T 6) (T 7) (T 8))) (pm_cnt (fun _ => by simp only [List.countP_append, List.countP_nil, fT] <;> omega)) (fun _ => by simp only [List.map_append, List.map_nil, fX_m, bX_m, sX_m, pX_m, iaX_m, r5X_m, r6X_m, fT_m, hX_m, tX_m, xX_m, sgX_m, zaX_m, fsB_a, qX_m, mX_m]) (rest := []) rfl rfl (Nat.le_of_ble_eq_true rfl) dX9_setLiking_39 (ws2 := (fun _ : Unit => (mX mr rf st ln 2 pl hs vs dg xx ++ qX cI (rf 0) (T 0 0) (T 0 1) (T 0 2) (T 0 3) (T 0 4) (T 0 5) (T 1) (T 2) (T 3) (T 4) (T 5) (T 6) (T 7) (T 8)))) (fun _ => (pm_cnt (fun _ => by simp only [List.countP_append, List.countP_nil, fT] <;> omega))) (fun _ Hp locs hP hD hS => ?_)
        exact ct_i () hx hb hr hlocks hP hS rfl dX9_setLiking_42
    · skip
      replace c_18 := cb_z c_18
      (exact absurd (hhV hv (Nat.le_trans hT.1.2 (by decide))) c_18)
set_option maxHeartbeats 4000000 in
set_option maxRecDepth 100000 in
theorem f1_X9_give (l : Launch) (D : va_G) (cI cZ cF cL : ClassId) (mr : Nat) (rf : Nat → Nat) (st ln th pl hs vs : Nat) (dg : Int32) (xx : Int64) (T : Nat → Nat → Nat) (x y z : Int32) (hT : FI T) (hbad : ¬ (0 ≤ x ∧ x < nI (T 0 0))) : CT l D (tysX cI cZ cF cL) yX9_give (wA yX9_give cX9_give 4 (some .int)) (rmF 2 43) [.ref mr, .int x, .int y, .int z] (mX mr rf st ln th pl hs vs dg xx ++ qX cI (rf 0) (T 0 0) (T 0 1) (T 0 2) (T 0 3) (T 0 4) (T 0 5) (T 1) (T 2) (T 3) (T 4) (T 5) (T 6) (T 7) (T 8)) (some (.int (nI 0))) (fun _ : Unit => (mX mr rf st ln 1 pl hs vs dg xx ++ qX cI (rf 0) (T 0 0) (T 0 1) (T 0 2) (T 0 3) (T 0 4) (T 0 5) (T 1) (T 2) (T 3) (T 4) (T 5) (T 6) (T 7) (T 8))) := by
  refine ct_in (cc := cX9_give) (maxL := 4) (ret := (some .int)) (own := RX9) (lv := [(0, .ref mr), (1, .int x), (2, .int y), (3, .int z)]) (by decide +kernel) rfl rfl (Nat.le_of_ble_eq_true rfl) rfl ?_
  intro p e s m args below meth c A ls hx hb hr hml hts hown hlocks hK hA hP hD hS hl
  have hH := hT.1.1
  have hV := hT.1.2
  refine lv_aload_n hx hb dX9_give_0 rfl (lv_at hl 0 rfl) ?_
  refine lv_iconst (v := (nI 0)) hx hb dX9_give_1 (by decide) ?_
  refine pf_n (C := RX9) (T := TX9) (N := 15) (ci := 9) (q0 := 0) (ty := .int) (v := .int (nI 0)) (ws2 := (mX mr rf st ln 0 pl hs vs dg xx ++ qX cI (rf 0) (T 0 0) (T 0 1) (T 0 2) (T 0 3) (T 0 4) (T 0 5) (T 1) (T 2) (T 3) (T 4) (T 5) (T 6) (T 7) (T 8))) hx hb hts (iU inlX9) tyX9 tyX9_ok nmX9 hown hK hP hD hS rfl rfl 8 (by decide) (kU u_173) rfl rfl (tyX9_ok 8 (by decide)) rfl rfl (Nat.le_of_ble_eq_true rfl) dX9_give_2 rfl (fun Hp locs hP hD hS => ?_)
  refine lv_aload_n hx hb dX9_give_5 rfl (lv_at hl 0 rfl) ?_
  refine lv_iload_n hx hb dX9_give_6 rfl (lv_at hl 1 rfl) ?_
  refine gp_V (ci := 9) (q0 := 0) (cq := (RX9, TX9, 15)) (c_X9_isHouse l D cI cZ cF cL mr rf st ln 0 pl hs vs dg xx (T 0 0) (T 0 1) (T 0 2) (T 0 3) (T 0 4) (T 0 5) (T 1) (T 2) (T 3) (T 4) (T 5) (T 6) (T 7) (T 8) x (by omega) (by omega)) (gUV u_397 u_398 u_399 u_5 u_400) rfl hdV_X9_isHouse ⟨Nat.le_of_ble_eq_true rfl, Nat.le_of_ble_eq_true rfl⟩ ⟨rfl, rfl⟩ hx hb hml hown hts hK hA hP hD hS hl.1 ⟨Nat.le_of_ble_eq_true rfl, Nat.le_of_ble_eq_true rfl⟩ rfl rfl rfl (wr := ([] : va_W)) (pm_cnt (fun _ => by simp only [List.countP_append, List.countP_nil, fT] <;> omega)) (fun _ => by simp only [List.map_append, List.map_nil, fX_m, bX_m, sX_m, pX_m, iaX_m, r5X_m, r6X_m, fT_m, hX_m, tX_m, xX_m, sgX_m, zaX_m, fsB_a, qX_m, mX_m]) (rest := []) rfl rfl (Nat.le_of_ble_eq_true rfl) dX9_give_7 (ws2 := (fun _ : Unit => (mX mr rf st ln 0 pl hs vs dg xx ++ qX cI (rf 0) (T 0 0) (T 0 1) (T 0 2) (T 0 3) (T 0 4) (T 0 5) (T 1) (T 2) (T 3) (T 4) (T 5) (T 6) (T 7) (T 8)))) (fun _ => (pm_cnt (fun _ => by simp only [List.countP_append, List.countP_nil, fT] <;> omega))) (fun _ Hp locs hP hD hS => ?_)
  refine lv_if_eq (tgt := 21) hx hb dX9_give_10 (by decide) (fun c_10 => ?_) (fun c_10 => ?_)
  · skip
    replace c_10 := cb_z c_10
    refine lv_aload_n hx hb dX9_give_21 rfl (lv_at hl 0 rfl) ?_
    refine lv_iconst (v := (nI 1)) hx hb dX9_give_22 (by decide) ?_
    refine gp_V (ci := 9) (q0 := 0) (cq := (RX9, TX9, 15)) (c_X9_fails l D cI cZ cF cL mr rf st ln 0 pl hs vs dg xx 1 ) (gUV u_175 u_176 u_177 u_5 u_178) rfl hdV_X9_fails ⟨Nat.le_of_ble_eq_true rfl, Nat.le_of_ble_eq_true rfl⟩ ⟨rfl, rfl⟩ hx hb hml hown hts hK hA hP hD hS hl.1 ⟨Nat.le_of_ble_eq_true rfl, Nat.le_of_ble_eq_true rfl⟩ rfl rfl rfl (wr := (qX cI (rf 0) (T 0 0) (T 0 1) (T 0 2) (T 0 3) (T 0 4) (T 0 5) (T 1) (T 2) (T 3) (T 4) (T 5) (T 6) (T 7) (T 8))) (pm_cnt (fun _ => by simp only [List.countP_append, List.countP_nil, fT] <;> omega)) (fun _ => by simp only [List.map_append, List.map_nil, fX_m, bX_m, sX_m, pX_m, iaX_m, r5X_m, r6X_m, fT_m, hX_m, tX_m, xX_m, sgX_m, zaX_m, fsB_a, qX_m, mX_m]) (rest := []) rfl rfl (Nat.le_of_ble_eq_true rfl) dX9_give_23 (ws2 := (fun _ : Unit => (mX mr rf st ln 1 pl hs vs dg xx ++ qX cI (rf 0) (T 0 0) (T 0 1) (T 0 2) (T 0 3) (T 0 4) (T 0 5) (T 1) (T 2) (T 3) (T 4) (T 5) (T 6) (T 7) (T 8)))) (fun _ => (pm_cnt (fun _ => by simp only [List.countP_append, List.countP_nil, fT] <;> omega))) (fun _ Hp locs hP hD hS => ?_)
    exact ct_i () hx hb hr hlocks hP hS rfl dX9_give_26
  · skip
    replace c_10 := cb_nz c_10
    (exact absurd c_10 hbad)
set_option maxHeartbeats 4000000 in
set_option maxRecDepth 100000 in
theorem f2_X9_give (l : Launch) (D : va_G) (cI cZ cF cL : ClassId) (mr : Nat) (rf : Nat → Nat) (st ln th pl hs vs : Nat) (dg : Int32) (xx : Int64) (T : Nat → Nat → Nat) (h : Nat) (x z : Int32) (hT : FI T) (hh : h < T 0 0) (hbad : ¬ (0 ≤ x ∧ x < nI (T 0 1))) : CT l D (tysX cI cZ cF cL) yX9_give (wA yX9_give cX9_give 4 (some .int)) (rmF 2 43) [.ref mr, .int (nI h), .int x, .int z] (mX mr rf st ln th pl hs vs dg xx ++ qX cI (rf 0) (T 0 0) (T 0 1) (T 0 2) (T 0 3) (T 0 4) (T 0 5) (T 1) (T 2) (T 3) (T 4) (T 5) (T 6) (T 7) (T 8)) (some (.int (nI 0))) (fun _ : Unit => (mX mr rf st ln 1 pl hs vs dg xx ++ qX cI (rf 0) (T 0 0) (T 0 1) (T 0 2) (T 0 3) (T 0 4) (T 0 5) (T 1) (T 2) (T 3) (T 4) (T 5) (T 6) (T 7) (T 8))) := by
  refine ct_in (cc := cX9_give) (maxL := 4) (ret := (some .int)) (own := RX9) (lv := [(0, .ref mr), (1, .int (nI h)), (2, .int x), (3, .int z)]) (by decide +kernel) rfl rfl (Nat.le_of_ble_eq_true rfl) rfl ?_
  intro p e s m args below meth c A ls hx hb hr hml hts hown hlocks hK hA hP hD hS hl
  have hH := hT.1.1
  have hV := hT.1.2
  refine lv_aload_n hx hb dX9_give_0 rfl (lv_at hl 0 rfl) ?_
  refine lv_iconst (v := (nI 0)) hx hb dX9_give_1 (by decide) ?_
  refine pf_n (C := RX9) (T := TX9) (N := 15) (ci := 9) (q0 := 0) (ty := .int) (v := .int (nI 0)) (ws2 := (mX mr rf st ln 0 pl hs vs dg xx ++ qX cI (rf 0) (T 0 0) (T 0 1) (T 0 2) (T 0 3) (T 0 4) (T 0 5) (T 1) (T 2) (T 3) (T 4) (T 5) (T 6) (T 7) (T 8))) hx hb hts (iU inlX9) tyX9 tyX9_ok nmX9 hown hK hP hD hS rfl rfl 8 (by decide) (kU u_173) rfl rfl (tyX9_ok 8 (by decide)) rfl rfl (Nat.le_of_ble_eq_true rfl) dX9_give_2 rfl (fun Hp locs hP hD hS => ?_)
  refine lv_aload_n hx hb dX9_give_5 rfl (lv_at hl 0 rfl) ?_
  refine lv_iload_n hx hb dX9_give_6 rfl (lv_at hl 1 rfl) ?_
  refine gp_V (ci := 9) (q0 := 0) (cq := (RX9, TX9, 15)) (c_X9_isHouse l D cI cZ cF cL mr rf st ln 0 pl hs vs dg xx (T 0 0) (T 0 1) (T 0 2) (T 0 3) (T 0 4) (T 0 5) (T 1) (T 2) (T 3) (T 4) (T 5) (T 6) (T 7) (T 8) ((nI h)) (by omega) (by omega)) (gUV u_397 u_398 u_399 u_5 u_400) rfl hdV_X9_isHouse ⟨Nat.le_of_ble_eq_true rfl, Nat.le_of_ble_eq_true rfl⟩ ⟨rfl, rfl⟩ hx hb hml hown hts hK hA hP hD hS hl.1 ⟨Nat.le_of_ble_eq_true rfl, Nat.le_of_ble_eq_true rfl⟩ rfl rfl rfl (wr := ([] : va_W)) (pm_cnt (fun _ => by simp only [List.countP_append, List.countP_nil, fT] <;> omega)) (fun _ => by simp only [List.map_append, List.map_nil, fX_m, bX_m, sX_m, pX_m, iaX_m, r5X_m, r6X_m, fT_m, hX_m, tX_m, xX_m, sgX_m, zaX_m, fsB_a, qX_m, mX_m]) (rest := []) rfl rfl (Nat.le_of_ble_eq_true rfl) dX9_give_7 (ws2 := (fun _ : Unit => (mX mr rf st ln 0 pl hs vs dg xx ++ qX cI (rf 0) (T 0 0) (T 0 1) (T 0 2) (T 0 3) (T 0 4) (T 0 5) (T 1) (T 2) (T 3) (T 4) (T 5) (T 6) (T 7) (T 8)))) (fun _ => (pm_cnt (fun _ => by simp only [List.countP_append, List.countP_nil, fT] <;> omega))) (fun _ Hp locs hP hD hS => ?_)
  refine lv_if_eq (tgt := 21) hx hb dX9_give_10 (by decide) (fun c_10 => ?_) (fun c_10 => ?_)
  · skip
    replace c_10 := cb_z c_10
    (exact absurd (hhV hh hT.1.1) c_10)
  · skip
    replace c_10 := cb_nz c_10
    refine lv_aload_n hx hb dX9_give_13 rfl (lv_at hl 0 rfl) ?_
    refine lv_iload_n hx hb dX9_give_14 rfl (lv_at hl 2 rfl) ?_
    refine gp_V (ci := 9) (q0 := 0) (cq := (RX9, TX9, 15)) (c_X9_isVegetable l D cI cZ cF cL mr rf st ln 0 pl hs vs dg xx (T 0 0) (T 0 1) (T 0 2) (T 0 3) (T 0 4) (T 0 5) (T 1) (T 2) (T 3) (T 4) (T 5) (T 6) (T 7) (T 8) x (by omega) (by omega)) (gUV u_450 u_451 u_452 u_5 u_453) rfl hdV_X9_isVegetable ⟨Nat.le_of_ble_eq_true rfl, Nat.le_of_ble_eq_true rfl⟩ ⟨rfl, rfl⟩ hx hb hml hown hts hK hA hP hD hS hl.1 ⟨Nat.le_of_ble_eq_true rfl, Nat.le_of_ble_eq_true rfl⟩ rfl rfl rfl (wr := ([] : va_W)) (pm_cnt (fun _ => by simp only [List.countP_append, List.countP_nil, fT] <;> omega)) (fun _ => by simp only [List.map_append, List.map_nil, fX_m, bX_m, sX_m, pX_m, iaX_m, r5X_m, r6X_m, fT_m, hX_m, tX_m, xX_m, sgX_m, zaX_m, fsB_a, qX_m, mX_m]) (rest := []) rfl rfl (Nat.le_of_ble_eq_true rfl) dX9_give_15 (ws2 := (fun _ : Unit => (mX mr rf st ln 0 pl hs vs dg xx ++ qX cI (rf 0) (T 0 0) (T 0 1) (T 0 2) (T 0 3) (T 0 4) (T 0 5) (T 1) (T 2) (T 3) (T 4) (T 5) (T 6) (T 7) (T 8)))) (fun _ => (pm_cnt (fun _ => by simp only [List.countP_append, List.countP_nil, fT] <;> omega))) (fun _ Hp locs hP hD hS => ?_)
    refine lv_if_ne (tgt := 27) hx hb dX9_give_18 (by decide) (fun c_18 => ?_) (fun c_18 => ?_)
    · skip
      replace c_18 := cb_nz c_18
      (exact absurd c_18 hbad)
    · skip
      replace c_18 := cb_z c_18
      refine lv_aload_n hx hb dX9_give_21 rfl (lv_at hl 0 rfl) ?_
      refine lv_iconst (v := (nI 1)) hx hb dX9_give_22 (by decide) ?_
      refine gp_V (ci := 9) (q0 := 0) (cq := (RX9, TX9, 15)) (c_X9_fails l D cI cZ cF cL mr rf st ln 0 pl hs vs dg xx 1 ) (gUV u_175 u_176 u_177 u_5 u_178) rfl hdV_X9_fails ⟨Nat.le_of_ble_eq_true rfl, Nat.le_of_ble_eq_true rfl⟩ ⟨rfl, rfl⟩ hx hb hml hown hts hK hA hP hD hS hl.1 ⟨Nat.le_of_ble_eq_true rfl, Nat.le_of_ble_eq_true rfl⟩ rfl rfl rfl (wr := (qX cI (rf 0) (T 0 0) (T 0 1) (T 0 2) (T 0 3) (T 0 4) (T 0 5) (T 1) (T 2) (T 3) (T 4) (T 5) (T 6) (T 7) (T 8))) (pm_cnt (fun _ => by simp only [List.countP_append, List.countP_nil, fT] <;> omega)) (fun _ => by simp only [List.map_append, List.map_nil, fX_m, bX_m, sX_m, pX_m, iaX_m, r5X_m, r6X_m, fT_m, hX_m, tX_m, xX_m, sgX_m, zaX_m, fsB_a, qX_m, mX_m]) (rest := []) rfl rfl (Nat.le_of_ble_eq_true rfl) dX9_give_23 (ws2 := (fun _ : Unit => (mX mr rf st ln 1 pl hs vs dg xx ++ qX cI (rf 0) (T 0 0) (T 0 1) (T 0 2) (T 0 3) (T 0 4) (T 0 5) (T 1) (T 2) (T 3) (T 4) (T 5) (T 6) (T 7) (T 8)))) (fun _ => (pm_cnt (fun _ => by simp only [List.countP_append, List.countP_nil, fT] <;> omega))) (fun _ Hp locs hP hD hS => ?_)
      exact ct_i () hx hb hr hlocks hP hS rfl dX9_give_26
set_option maxHeartbeats 4000000 in
set_option maxRecDepth 100000 in
theorem f3_X9_give (l : Launch) (D : va_G) (cI cZ cF cL : ClassId) (mr : Nat) (rf : Nat → Nat) (st ln th pl hs vs : Nat) (dg : Int32) (xx : Int64) (T : Nat → Nat → Nat) (h v : Nat) (x : Int32) (hT : FI T) (hh : h < T 0 0) (hv : v < T 0 1) (hbad : ¬ (nI 1 ≤ x ∧ x ≤ nI 40)) : CT l D (tysX cI cZ cF cL) yX9_give (wA yX9_give cX9_give 4 (some .int)) (rmF 2 43) [.ref mr, .int (nI h), .int (nI v), .int x] (mX mr rf st ln th pl hs vs dg xx ++ qX cI (rf 0) (T 0 0) (T 0 1) (T 0 2) (T 0 3) (T 0 4) (T 0 5) (T 1) (T 2) (T 3) (T 4) (T 5) (T 6) (T 7) (T 8)) (some (.int (nI 0))) (fun _ : Unit => (mX mr rf st ln 2 pl hs vs dg xx ++ qX cI (rf 0) (T 0 0) (T 0 1) (T 0 2) (T 0 3) (T 0 4) (T 0 5) (T 1) (T 2) (T 3) (T 4) (T 5) (T 6) (T 7) (T 8))) := by
  refine ct_in (cc := cX9_give) (maxL := 4) (ret := (some .int)) (own := RX9) (lv := [(0, .ref mr), (1, .int (nI h)), (2, .int (nI v)), (3, .int x)]) (by decide +kernel) rfl rfl (Nat.le_of_ble_eq_true rfl) rfl ?_
  intro p e s m args below meth c A ls hx hb hr hml hts hown hlocks hK hA hP hD hS hl
  have hH := hT.1.1
  have hV := hT.1.2
  refine lv_aload_n hx hb dX9_give_0 rfl (lv_at hl 0 rfl) ?_
  refine lv_iconst (v := (nI 0)) hx hb dX9_give_1 (by decide) ?_
  refine pf_n (C := RX9) (T := TX9) (N := 15) (ci := 9) (q0 := 0) (ty := .int) (v := .int (nI 0)) (ws2 := (mX mr rf st ln 0 pl hs vs dg xx ++ qX cI (rf 0) (T 0 0) (T 0 1) (T 0 2) (T 0 3) (T 0 4) (T 0 5) (T 1) (T 2) (T 3) (T 4) (T 5) (T 6) (T 7) (T 8))) hx hb hts (iU inlX9) tyX9 tyX9_ok nmX9 hown hK hP hD hS rfl rfl 8 (by decide) (kU u_173) rfl rfl (tyX9_ok 8 (by decide)) rfl rfl (Nat.le_of_ble_eq_true rfl) dX9_give_2 rfl (fun Hp locs hP hD hS => ?_)
  refine lv_aload_n hx hb dX9_give_5 rfl (lv_at hl 0 rfl) ?_
  refine lv_iload_n hx hb dX9_give_6 rfl (lv_at hl 1 rfl) ?_
  refine gp_V (ci := 9) (q0 := 0) (cq := (RX9, TX9, 15)) (c_X9_isHouse l D cI cZ cF cL mr rf st ln 0 pl hs vs dg xx (T 0 0) (T 0 1) (T 0 2) (T 0 3) (T 0 4) (T 0 5) (T 1) (T 2) (T 3) (T 4) (T 5) (T 6) (T 7) (T 8) ((nI h)) (by omega) (by omega)) (gUV u_397 u_398 u_399 u_5 u_400) rfl hdV_X9_isHouse ⟨Nat.le_of_ble_eq_true rfl, Nat.le_of_ble_eq_true rfl⟩ ⟨rfl, rfl⟩ hx hb hml hown hts hK hA hP hD hS hl.1 ⟨Nat.le_of_ble_eq_true rfl, Nat.le_of_ble_eq_true rfl⟩ rfl rfl rfl (wr := ([] : va_W)) (pm_cnt (fun _ => by simp only [List.countP_append, List.countP_nil, fT] <;> omega)) (fun _ => by simp only [List.map_append, List.map_nil, fX_m, bX_m, sX_m, pX_m, iaX_m, r5X_m, r6X_m, fT_m, hX_m, tX_m, xX_m, sgX_m, zaX_m, fsB_a, qX_m, mX_m]) (rest := []) rfl rfl (Nat.le_of_ble_eq_true rfl) dX9_give_7 (ws2 := (fun _ : Unit => (mX mr rf st ln 0 pl hs vs dg xx ++ qX cI (rf 0) (T 0 0) (T 0 1) (T 0 2) (T 0 3) (T 0 4) (T 0 5) (T 1) (T 2) (T 3) (T 4) (T 5) (T 6) (T 7) (T 8)))) (fun _ => (pm_cnt (fun _ => by simp only [List.countP_append, List.countP_nil, fT] <;> omega))) (fun _ Hp locs hP hD hS => ?_)
  refine lv_if_eq (tgt := 21) hx hb dX9_give_10 (by decide) (fun c_10 => ?_) (fun c_10 => ?_)
  · skip
    replace c_10 := cb_z c_10
    (exact absurd (hhV hh hT.1.1) c_10)
  · skip
    replace c_10 := cb_nz c_10
    refine lv_aload_n hx hb dX9_give_13 rfl (lv_at hl 0 rfl) ?_
    refine lv_iload_n hx hb dX9_give_14 rfl (lv_at hl 2 rfl) ?_
    refine gp_V (ci := 9) (q0 := 0) (cq := (RX9, TX9, 15)) (c_X9_isVegetable l D cI cZ cF cL mr rf st ln 0 pl hs vs dg xx (T 0 0) (T 0 1) (T 0 2) (T 0 3) (T 0 4) (T 0 5) (T 1) (T 2) (T 3) (T 4) (T 5) (T 6) (T 7) (T 8) ((nI v)) (by omega) (by omega)) (gUV u_450 u_451 u_452 u_5 u_453) rfl hdV_X9_isVegetable ⟨Nat.le_of_ble_eq_true rfl, Nat.le_of_ble_eq_true rfl⟩ ⟨rfl, rfl⟩ hx hb hml hown hts hK hA hP hD hS hl.1 ⟨Nat.le_of_ble_eq_true rfl, Nat.le_of_ble_eq_true rfl⟩ rfl rfl rfl (wr := ([] : va_W)) (pm_cnt (fun _ => by simp only [List.countP_append, List.countP_nil, fT] <;> omega)) (fun _ => by simp only [List.map_append, List.map_nil, fX_m, bX_m, sX_m, pX_m, iaX_m, r5X_m, r6X_m, fT_m, hX_m, tX_m, xX_m, sgX_m, zaX_m, fsB_a, qX_m, mX_m]) (rest := []) rfl rfl (Nat.le_of_ble_eq_true rfl) dX9_give_15 (ws2 := (fun _ : Unit => (mX mr rf st ln 0 pl hs vs dg xx ++ qX cI (rf 0) (T 0 0) (T 0 1) (T 0 2) (T 0 3) (T 0 4) (T 0 5) (T 1) (T 2) (T 3) (T 4) (T 5) (T 6) (T 7) (T 8)))) (fun _ => (pm_cnt (fun _ => by simp only [List.countP_append, List.countP_nil, fT] <;> omega))) (fun _ Hp locs hP hD hS => ?_)
    refine lv_if_ne (tgt := 27) hx hb dX9_give_18 (by decide) (fun c_18 => ?_) (fun c_18 => ?_)
    · skip
      replace c_18 := cb_nz c_18
      refine lv_iload_n hx hb dX9_give_27 rfl (lv_at hl 3 rfl) ?_
      refine lv_iconst (v := (nI 1)) hx hb dX9_give_28 (by decide) ?_
      refine lv_bipush (v := (nI 40)) hx hb dX9_give_29 (by decide) ?_
      refine gp_S (c_X9_in l D cI cZ cF cL x ((nI 1)) ((nI 40)) ) (gUS u_140 u_141 u_5 u_142) rfl hdS_X9_in ⟨Nat.le_of_ble_eq_true rfl, Nat.le_of_ble_eq_true rfl⟩ ⟨rfl, rfl⟩ hx hb hml hown hts hK hA hP hD hS hl.1 ⟨Nat.le_of_ble_eq_true rfl, Nat.le_of_ble_eq_true rfl⟩ (wr := (mX mr rf st ln 0 pl hs vs dg xx ++ qX cI (rf 0) (T 0 0) (T 0 1) (T 0 2) (T 0 3) (T 0 4) (T 0 5) (T 1) (T 2) (T 3) (T 4) (T 5) (T 6) (T 7) (T 8))) (pm_cnt (fun _ => by simp only [List.countP_append, List.countP_nil, fT] <;> omega)) (fun _ => by simp only [List.map_append, List.map_nil, fX_m, bX_m, sX_m, pX_m, iaX_m, r5X_m, r6X_m, fT_m, hX_m, tX_m, xX_m, sgX_m, zaX_m, fsB_a, qX_m, mX_m]) (rest := []) rfl rfl (Nat.le_of_ble_eq_true rfl) dX9_give_31 (ws2 := (fun _ : Unit => (mX mr rf st ln 0 pl hs vs dg xx ++ qX cI (rf 0) (T 0 0) (T 0 1) (T 0 2) (T 0 3) (T 0 4) (T 0 5) (T 1) (T 2) (T 3) (T 4) (T 5) (T 6) (T 7) (T 8)))) (fun _ => (pm_cnt (fun _ => by simp only [List.countP_append, List.countP_nil, fT] <;> omega))) (fun _ Hp locs hP hD hS => ?_)
      refine lv_if_ne (tgt := 43) hx hb dX9_give_34 (by decide) (fun c_34 => ?_) (fun c_34 => ?_)
      · skip
        replace c_34 := cb_nz c_34
        (exact absurd c_34 hbad)
      · skip
        replace c_34 := cb_z c_34
        refine lv_aload_n hx hb dX9_give_37 rfl (lv_at hl 0 rfl) ?_
        refine lv_iconst (v := (nI 2)) hx hb dX9_give_38 (by decide) ?_
        refine gp_V (ci := 9) (q0 := 0) (cq := (RX9, TX9, 15)) (c_X9_fails l D cI cZ cF cL mr rf st ln 0 pl hs vs dg xx 2 ) (gUV u_175 u_176 u_177 u_5 u_178) rfl hdV_X9_fails ⟨Nat.le_of_ble_eq_true rfl, Nat.le_of_ble_eq_true rfl⟩ ⟨rfl, rfl⟩ hx hb hml hown hts hK hA hP hD hS hl.1 ⟨Nat.le_of_ble_eq_true rfl, Nat.le_of_ble_eq_true rfl⟩ rfl rfl rfl (wr := (qX cI (rf 0) (T 0 0) (T 0 1) (T 0 2) (T 0 3) (T 0 4) (T 0 5) (T 1) (T 2) (T 3) (T 4) (T 5) (T 6) (T 7) (T 8))) (pm_cnt (fun _ => by simp only [List.countP_append, List.countP_nil, fT] <;> omega)) (fun _ => by simp only [List.map_append, List.map_nil, fX_m, bX_m, sX_m, pX_m, iaX_m, r5X_m, r6X_m, fT_m, hX_m, tX_m, xX_m, sgX_m, zaX_m, fsB_a, qX_m, mX_m]) (rest := []) rfl rfl (Nat.le_of_ble_eq_true rfl) dX9_give_39 (ws2 := (fun _ : Unit => (mX mr rf st ln 2 pl hs vs dg xx ++ qX cI (rf 0) (T 0 0) (T 0 1) (T 0 2) (T 0 3) (T 0 4) (T 0 5) (T 1) (T 2) (T 3) (T 4) (T 5) (T 6) (T 7) (T 8)))) (fun _ => (pm_cnt (fun _ => by simp only [List.countP_append, List.countP_nil, fT] <;> omega))) (fun _ Hp locs hP hD hS => ?_)
        exact ct_i () hx hb hr hlocks hP hS rfl dX9_give_42
    · skip
      replace c_18 := cb_z c_18
      (exact absurd (hhV hv (Nat.le_trans hT.1.2 (by decide))) c_18)
set_option maxHeartbeats 4000000 in
set_option maxRecDepth 100000 in
theorem f4_X9_give (l : Launch) (D : va_G) (cI cZ cF cL : ClassId) (mr : Nat) (rf : Nat → Nat) (st ln th pl hs vs : Nat) (dg : Int32) (xx : Int64) (T : Nat → Nat → Nat) (h v n : Nat) (hT : FI T) (hh : h < T 0 0) (hv : v < T 0 1) (h1n : 1 ≤ n) (hn40 : n ≤ 40) (hle : T 8 (h * 5 + v) < n) : CT l D (tysX cI cZ cF cL) yX9_give (wA yX9_give cX9_give 4 (some .int)) (rmF 2 43) [.ref mr, .int (nI h), .int (nI v), .int (nI n)] (mX mr rf st ln th pl hs vs dg xx ++ qX cI (rf 0) (T 0 0) (T 0 1) (T 0 2) (T 0 3) (T 0 4) (T 0 5) (T 1) (T 2) (T 3) (T 4) (T 5) (T 6) (T 7) (T 8)) (some (.int (nI 0))) (fun _ : Unit => (mX mr rf st ln 3 pl hs vs dg xx ++ qX cI (rf 0) (T 0 0) (T 0 1) (T 0 2) (T 0 3) (T 0 4) (T 0 5) (T 1) (T 2) (T 3) (T 4) (T 5) (T 6) (T 7) (T 8))) := by
  refine ct_in (cc := cX9_give) (maxL := 4) (ret := (some .int)) (own := RX9) (lv := [(0, .ref mr), (1, .int (nI h)), (2, .int (nI v)), (3, .int (nI n))]) (by decide +kernel) rfl rfl (Nat.le_of_ble_eq_true rfl) rfl ?_
  intro p e s m args below meth c A ls hx hb hr hml hts hown hlocks hK hA hP hD hS hl
  have hH := hT.1.1
  have hV := hT.1.2
  refine lv_aload_n hx hb dX9_give_0 rfl (lv_at hl 0 rfl) ?_
  refine lv_iconst (v := (nI 0)) hx hb dX9_give_1 (by decide) ?_
  refine pf_n (C := RX9) (T := TX9) (N := 15) (ci := 9) (q0 := 0) (ty := .int) (v := .int (nI 0)) (ws2 := (mX mr rf st ln 0 pl hs vs dg xx ++ qX cI (rf 0) (T 0 0) (T 0 1) (T 0 2) (T 0 3) (T 0 4) (T 0 5) (T 1) (T 2) (T 3) (T 4) (T 5) (T 6) (T 7) (T 8))) hx hb hts (iU inlX9) tyX9 tyX9_ok nmX9 hown hK hP hD hS rfl rfl 8 (by decide) (kU u_173) rfl rfl (tyX9_ok 8 (by decide)) rfl rfl (Nat.le_of_ble_eq_true rfl) dX9_give_2 rfl (fun Hp locs hP hD hS => ?_)
  refine lv_aload_n hx hb dX9_give_5 rfl (lv_at hl 0 rfl) ?_
  refine lv_iload_n hx hb dX9_give_6 rfl (lv_at hl 1 rfl) ?_
  refine gp_V (ci := 9) (q0 := 0) (cq := (RX9, TX9, 15)) (c_X9_isHouse l D cI cZ cF cL mr rf st ln 0 pl hs vs dg xx (T 0 0) (T 0 1) (T 0 2) (T 0 3) (T 0 4) (T 0 5) (T 1) (T 2) (T 3) (T 4) (T 5) (T 6) (T 7) (T 8) ((nI h)) (by omega) (by omega)) (gUV u_397 u_398 u_399 u_5 u_400) rfl hdV_X9_isHouse ⟨Nat.le_of_ble_eq_true rfl, Nat.le_of_ble_eq_true rfl⟩ ⟨rfl, rfl⟩ hx hb hml hown hts hK hA hP hD hS hl.1 ⟨Nat.le_of_ble_eq_true rfl, Nat.le_of_ble_eq_true rfl⟩ rfl rfl rfl (wr := ([] : va_W)) (pm_cnt (fun _ => by simp only [List.countP_append, List.countP_nil, fT] <;> omega)) (fun _ => by simp only [List.map_append, List.map_nil, fX_m, bX_m, sX_m, pX_m, iaX_m, r5X_m, r6X_m, fT_m, hX_m, tX_m, xX_m, sgX_m, zaX_m, fsB_a, qX_m, mX_m]) (rest := []) rfl rfl (Nat.le_of_ble_eq_true rfl) dX9_give_7 (ws2 := (fun _ : Unit => (mX mr rf st ln 0 pl hs vs dg xx ++ qX cI (rf 0) (T 0 0) (T 0 1) (T 0 2) (T 0 3) (T 0 4) (T 0 5) (T 1) (T 2) (T 3) (T 4) (T 5) (T 6) (T 7) (T 8)))) (fun _ => (pm_cnt (fun _ => by simp only [List.countP_append, List.countP_nil, fT] <;> omega))) (fun _ Hp locs hP hD hS => ?_)
  refine lv_if_eq (tgt := 21) hx hb dX9_give_10 (by decide) (fun c_10 => ?_) (fun c_10 => ?_)
  · skip
    replace c_10 := cb_z c_10
    (exact absurd (hhV hh hT.1.1) c_10)
  · skip
    replace c_10 := cb_nz c_10
    refine lv_aload_n hx hb dX9_give_13 rfl (lv_at hl 0 rfl) ?_
    refine lv_iload_n hx hb dX9_give_14 rfl (lv_at hl 2 rfl) ?_
    refine gp_V (ci := 9) (q0 := 0) (cq := (RX9, TX9, 15)) (c_X9_isVegetable l D cI cZ cF cL mr rf st ln 0 pl hs vs dg xx (T 0 0) (T 0 1) (T 0 2) (T 0 3) (T 0 4) (T 0 5) (T 1) (T 2) (T 3) (T 4) (T 5) (T 6) (T 7) (T 8) ((nI v)) (by omega) (by omega)) (gUV u_450 u_451 u_452 u_5 u_453) rfl hdV_X9_isVegetable ⟨Nat.le_of_ble_eq_true rfl, Nat.le_of_ble_eq_true rfl⟩ ⟨rfl, rfl⟩ hx hb hml hown hts hK hA hP hD hS hl.1 ⟨Nat.le_of_ble_eq_true rfl, Nat.le_of_ble_eq_true rfl⟩ rfl rfl rfl (wr := ([] : va_W)) (pm_cnt (fun _ => by simp only [List.countP_append, List.countP_nil, fT] <;> omega)) (fun _ => by simp only [List.map_append, List.map_nil, fX_m, bX_m, sX_m, pX_m, iaX_m, r5X_m, r6X_m, fT_m, hX_m, tX_m, xX_m, sgX_m, zaX_m, fsB_a, qX_m, mX_m]) (rest := []) rfl rfl (Nat.le_of_ble_eq_true rfl) dX9_give_15 (ws2 := (fun _ : Unit => (mX mr rf st ln 0 pl hs vs dg xx ++ qX cI (rf 0) (T 0 0) (T 0 1) (T 0 2) (T 0 3) (T 0 4) (T 0 5) (T 1) (T 2) (T 3) (T 4) (T 5) (T 6) (T 7) (T 8)))) (fun _ => (pm_cnt (fun _ => by simp only [List.countP_append, List.countP_nil, fT] <;> omega))) (fun _ Hp locs hP hD hS => ?_)
    refine lv_if_ne (tgt := 27) hx hb dX9_give_18 (by decide) (fun c_18 => ?_) (fun c_18 => ?_)
    · skip
      replace c_18 := cb_nz c_18
      refine lv_iload_n hx hb dX9_give_27 rfl (lv_at hl 3 rfl) ?_
      refine lv_iconst (v := (nI 1)) hx hb dX9_give_28 (by decide) ?_
      refine lv_bipush (v := (nI 40)) hx hb dX9_give_29 (by decide) ?_
      refine gp_S (c_X9_in l D cI cZ cF cL ((nI n)) ((nI 1)) ((nI 40)) ) (gUS u_140 u_141 u_5 u_142) rfl hdS_X9_in ⟨Nat.le_of_ble_eq_true rfl, Nat.le_of_ble_eq_true rfl⟩ ⟨rfl, rfl⟩ hx hb hml hown hts hK hA hP hD hS hl.1 ⟨Nat.le_of_ble_eq_true rfl, Nat.le_of_ble_eq_true rfl⟩ (wr := (mX mr rf st ln 0 pl hs vs dg xx ++ qX cI (rf 0) (T 0 0) (T 0 1) (T 0 2) (T 0 3) (T 0 4) (T 0 5) (T 1) (T 2) (T 3) (T 4) (T 5) (T 6) (T 7) (T 8))) (pm_cnt (fun _ => by simp only [List.countP_append, List.countP_nil, fT] <;> omega)) (fun _ => by simp only [List.map_append, List.map_nil, fX_m, bX_m, sX_m, pX_m, iaX_m, r5X_m, r6X_m, fT_m, hX_m, tX_m, xX_m, sgX_m, zaX_m, fsB_a, qX_m, mX_m]) (rest := []) rfl rfl (Nat.le_of_ble_eq_true rfl) dX9_give_31 (ws2 := (fun _ : Unit => (mX mr rf st ln 0 pl hs vs dg xx ++ qX cI (rf 0) (T 0 0) (T 0 1) (T 0 2) (T 0 3) (T 0 4) (T 0 5) (T 1) (T 2) (T 3) (T 4) (T 5) (T 6) (T 7) (T 8)))) (fun _ => (pm_cnt (fun _ => by simp only [List.countP_append, List.countP_nil, fT] <;> omega))) (fun _ Hp locs hP hD hS => ?_)
      refine lv_if_ne (tgt := 43) hx hb dX9_give_34 (by decide) (fun c_34 => ?_) (fun c_34 => ?_)
      · skip
        replace c_34 := cb_nz c_34
        refine lv_aload_n hx hb dX9_give_43 rfl (lv_at hl 0 rfl) ?_
        refine gf_n (C := RX9) (T := TX9) (N := 15) (ci := 9) (q0 := 0) (v := .ref (rf 0)) hx hb hts (iU inlX9) hown hK hP rfl rfl 0 (by decide) (kU u_129) rfl rfl dX9_give_44 ?_
        refine lv_iload_n hx hb dX9_give_47 rfl (lv_at hl 1 rfl) ?_
        refine lv_iload_n hx hb dX9_give_48 rfl (lv_at hl 2 rfl) ?_
        refine gp_S (c_X9_kilos l D cI cZ cF cL h v ) (gUS u_354 u_355 u_5 u_356) rfl hdS_X9_kilos ⟨Nat.le_of_ble_eq_true rfl, Nat.le_of_ble_eq_true rfl⟩ ⟨rfl, rfl⟩ hx hb hml hown hts hK hA hP hD hS hl.1 ⟨Nat.le_of_ble_eq_true rfl, Nat.le_of_ble_eq_true rfl⟩ (wr := (mX mr rf st ln 0 pl hs vs dg xx ++ qX cI (rf 0) (T 0 0) (T 0 1) (T 0 2) (T 0 3) (T 0 4) (T 0 5) (T 1) (T 2) (T 3) (T 4) (T 5) (T 6) (T 7) (T 8))) (pm_cnt (fun _ => by simp only [List.countP_append, List.countP_nil, fT] <;> omega)) (fun _ => by simp only [List.map_append, List.map_nil, fX_m, bX_m, sX_m, pX_m, iaX_m, r5X_m, r6X_m, fT_m, hX_m, tX_m, xX_m, sgX_m, zaX_m, fsB_a, qX_m, mX_m]) (rest := [.ref (rf 0)]) rfl rfl (Nat.le_of_ble_eq_true rfl) dX9_give_49 (ws2 := (fun _ : Unit => (mX mr rf st ln 0 pl hs vs dg xx ++ qX cI (rf 0) (T 0 0) (T 0 1) (T 0 2) (T 0 3) (T 0 4) (T 0 5) (T 1) (T 2) (T 3) (T 4) (T 5) (T 6) (T 7) (T 8)))) (fun _ => (pm_cnt (fun _ => by simp only [List.countP_append, List.countP_nil, fT] <;> omega))) (fun _ Hp locs hP hD hS => ?_)
        refine ia_n (q0 := 1) (t0 := 0) hx hb hK hP rfl rfl (by omega) (by decide) dX9_give_52 ?_
        rw [qR_8 (by omega) (by omega)]
        refine lv_iload_n hx hb dX9_give_53 rfl (lv_at hl 3 rfl) ?_
        refine lv_icmp_ge (tgt := 63) hx hb dX9_give_54 (by decide) (fun c_54 => ?_) (fun c_54 => ?_)
        · skip
          replace c_54 := cn_le (by omega) (by omega) c_54
          (exfalso; omega)
        · skip
          replace c_54 := cn_nle (by omega) (by omega) c_54
          refine lv_aload_n hx hb dX9_give_57 rfl (lv_at hl 0 rfl) ?_
          refine lv_iconst (v := (nI 3)) hx hb dX9_give_58 (by decide) ?_
          refine gp_V (ci := 9) (q0 := 0) (cq := (RX9, TX9, 15)) (c_X9_fails l D cI cZ cF cL mr rf st ln 0 pl hs vs dg xx 3 ) (gUV u_175 u_176 u_177 u_5 u_178) rfl hdV_X9_fails ⟨Nat.le_of_ble_eq_true rfl, Nat.le_of_ble_eq_true rfl⟩ ⟨rfl, rfl⟩ hx hb hml hown hts hK hA hP hD hS hl.1 ⟨Nat.le_of_ble_eq_true rfl, Nat.le_of_ble_eq_true rfl⟩ rfl rfl rfl (wr := (qX cI (rf 0) (T 0 0) (T 0 1) (T 0 2) (T 0 3) (T 0 4) (T 0 5) (T 1) (T 2) (T 3) (T 4) (T 5) (T 6) (T 7) (T 8))) (pm_cnt (fun _ => by simp only [List.countP_append, List.countP_nil, fT] <;> omega)) (fun _ => by simp only [List.map_append, List.map_nil, fX_m, bX_m, sX_m, pX_m, iaX_m, r5X_m, r6X_m, fT_m, hX_m, tX_m, xX_m, sgX_m, zaX_m, fsB_a, qX_m, mX_m]) (rest := []) rfl rfl (Nat.le_of_ble_eq_true rfl) dX9_give_59 (ws2 := (fun _ : Unit => (mX mr rf st ln 3 pl hs vs dg xx ++ qX cI (rf 0) (T 0 0) (T 0 1) (T 0 2) (T 0 3) (T 0 4) (T 0 5) (T 1) (T 2) (T 3) (T 4) (T 5) (T 6) (T 7) (T 8)))) (fun _ => (pm_cnt (fun _ => by simp only [List.countP_append, List.countP_nil, fT] <;> omega))) (fun _ Hp locs hP hD hS => ?_)
          exact ct_i () hx hb hr hlocks hP hS rfl dX9_give_62
      · skip
        replace c_34 := cb_z c_34
        (exact absurd ((in_n (by omega) (by decide) (by decide)).mpr ⟨by omega, by omega⟩) c_34)
    · skip
      replace c_18 := cb_z c_18
      (exact absurd (hhV hv (Nat.le_trans hT.1.2 (by decide))) c_18)
set_option maxHeartbeats 4000000 in
set_option maxRecDepth 100000 in
theorem f1_X9_skip (l : Launch) (D : va_G) (cI cZ cF cL : ClassId) (mr : Nat) (rf : Nat → Nat) (st ln th pl hs vs : Nat) (dg : Int32) (xx : Int64) (T : Nat → Nat → Nat) (x : Int32) (z : Nat) (hT : FI T) (hbad : ¬ (0 ≤ x ∧ x < nI (T 0 0))) : CT l D (tysX cI cZ cF cL) yX9_skip (wA yX9_skip cX9_skip 3 (some .int)) (rmF 2 43) [.ref mr, .int x, .int (nI z)] (mX mr rf st ln th pl hs vs dg xx ++ qX cI (rf 0) (T 0 0) (T 0 1) (T 0 2) (T 0 3) (T 0 4) (T 0 5) (T 1) (T 2) (T 3) (T 4) (T 5) (T 6) (T 7) (T 8)) (some (.int (nI 0))) (fun _ : Unit => (mX mr rf st ln 1 pl hs vs dg xx ++ qX cI (rf 0) (T 0 0) (T 0 1) (T 0 2) (T 0 3) (T 0 4) (T 0 5) (T 1) (T 2) (T 3) (T 4) (T 5) (T 6) (T 7) (T 8))) := by
  refine ct_in (cc := cX9_skip) (maxL := 3) (ret := (some .int)) (own := RX9) (lv := [(0, .ref mr), (1, .int x), (2, .int (nI z))]) (by decide +kernel) rfl rfl (Nat.le_of_ble_eq_true rfl) rfl ?_
  intro p e s m args below meth c A ls hx hb hr hml hts hown hlocks hK hA hP hD hS hl
  have hH := hT.1.1
  have hV := hT.1.2
  refine lv_aload_n hx hb dX9_skip_0 rfl (lv_at hl 0 rfl) ?_
  refine lv_iconst (v := (nI 0)) hx hb dX9_skip_1 (by decide) ?_
  refine pf_n (C := RX9) (T := TX9) (N := 15) (ci := 9) (q0 := 0) (ty := .int) (v := .int (nI 0)) (ws2 := (mX mr rf st ln 0 pl hs vs dg xx ++ qX cI (rf 0) (T 0 0) (T 0 1) (T 0 2) (T 0 3) (T 0 4) (T 0 5) (T 1) (T 2) (T 3) (T 4) (T 5) (T 6) (T 7) (T 8))) hx hb hts (iU inlX9) tyX9 tyX9_ok nmX9 hown hK hP hD hS rfl rfl 8 (by decide) (kU u_173) rfl rfl (tyX9_ok 8 (by decide)) rfl rfl (Nat.le_of_ble_eq_true rfl) dX9_skip_2 rfl (fun Hp locs hP hD hS => ?_)
  refine lv_aload_n hx hb dX9_skip_5 rfl (lv_at hl 0 rfl) ?_
  refine lv_iload_n hx hb dX9_skip_6 rfl (lv_at hl 1 rfl) ?_
  refine gp_V (ci := 9) (q0 := 0) (cq := (RX9, TX9, 15)) (c_X9_isHouse l D cI cZ cF cL mr rf st ln 0 pl hs vs dg xx (T 0 0) (T 0 1) (T 0 2) (T 0 3) (T 0 4) (T 0 5) (T 1) (T 2) (T 3) (T 4) (T 5) (T 6) (T 7) (T 8) x (by omega) (by omega)) (gUV u_397 u_398 u_399 u_5 u_400) rfl hdV_X9_isHouse ⟨Nat.le_of_ble_eq_true rfl, Nat.le_of_ble_eq_true rfl⟩ ⟨rfl, rfl⟩ hx hb hml hown hts hK hA hP hD hS hl.1 ⟨Nat.le_of_ble_eq_true rfl, Nat.le_of_ble_eq_true rfl⟩ rfl rfl rfl (wr := ([] : va_W)) (pm_cnt (fun _ => by simp only [List.countP_append, List.countP_nil, fT] <;> omega)) (fun _ => by simp only [List.map_append, List.map_nil, fX_m, bX_m, sX_m, pX_m, iaX_m, r5X_m, r6X_m, fT_m, hX_m, tX_m, xX_m, sgX_m, zaX_m, fsB_a, qX_m, mX_m]) (rest := []) rfl rfl (Nat.le_of_ble_eq_true rfl) dX9_skip_7 (ws2 := (fun _ : Unit => (mX mr rf st ln 0 pl hs vs dg xx ++ qX cI (rf 0) (T 0 0) (T 0 1) (T 0 2) (T 0 3) (T 0 4) (T 0 5) (T 1) (T 2) (T 3) (T 4) (T 5) (T 6) (T 7) (T 8)))) (fun _ => (pm_cnt (fun _ => by simp only [List.countP_append, List.countP_nil, fT] <;> omega))) (fun _ Hp locs hP hD hS => ?_)
  refine lv_if_ne (tgt := 19) hx hb dX9_skip_10 (by decide) (fun c_10 => ?_) (fun c_10 => ?_)
  · skip
    replace c_10 := cb_nz c_10
    (exact absurd c_10 hbad)
  · skip
    replace c_10 := cb_z c_10
    refine lv_aload_n hx hb dX9_skip_13 rfl (lv_at hl 0 rfl) ?_
    refine lv_iconst (v := (nI 1)) hx hb dX9_skip_14 (by decide) ?_
    refine gp_V (ci := 9) (q0 := 0) (cq := (RX9, TX9, 15)) (c_X9_fails l D cI cZ cF cL mr rf st ln 0 pl hs vs dg xx 1 ) (gUV u_175 u_176 u_177 u_5 u_178) rfl hdV_X9_fails ⟨Nat.le_of_ble_eq_true rfl, Nat.le_of_ble_eq_true rfl⟩ ⟨rfl, rfl⟩ hx hb hml hown hts hK hA hP hD hS hl.1 ⟨Nat.le_of_ble_eq_true rfl, Nat.le_of_ble_eq_true rfl⟩ rfl rfl rfl (wr := (qX cI (rf 0) (T 0 0) (T 0 1) (T 0 2) (T 0 3) (T 0 4) (T 0 5) (T 1) (T 2) (T 3) (T 4) (T 5) (T 6) (T 7) (T 8))) (pm_cnt (fun _ => by simp only [List.countP_append, List.countP_nil, fT] <;> omega)) (fun _ => by simp only [List.map_append, List.map_nil, fX_m, bX_m, sX_m, pX_m, iaX_m, r5X_m, r6X_m, fT_m, hX_m, tX_m, xX_m, sgX_m, zaX_m, fsB_a, qX_m, mX_m]) (rest := []) rfl rfl (Nat.le_of_ble_eq_true rfl) dX9_skip_15 (ws2 := (fun _ : Unit => (mX mr rf st ln 1 pl hs vs dg xx ++ qX cI (rf 0) (T 0 0) (T 0 1) (T 0 2) (T 0 3) (T 0 4) (T 0 5) (T 1) (T 2) (T 3) (T 4) (T 5) (T 6) (T 7) (T 8)))) (fun _ => (pm_cnt (fun _ => by simp only [List.countP_append, List.countP_nil, fT] <;> omega))) (fun _ Hp locs hP hD hS => ?_)
    exact ct_i () hx hb hr hlocks hP hS rfl dX9_skip_18
set_option maxHeartbeats 4000000 in
set_option maxRecDepth 100000 in
theorem f1_X9_returnCrates (l : Launch) (D : va_G) (cI cZ cF cL : ClassId) (mr : Nat) (rf : Nat → Nat) (st ln th pl hs vs : Nat) (dg : Int32) (xx : Int64) (T : Nat → Nat → Nat) (x y : Int32) (hT : FI T) (hbad : ¬ (0 ≤ x ∧ x < nI (T 0 0))) : CT l D (tysX cI cZ cF cL) yX9_returnCrates (wA yX9_returnCrates cX9_returnCrates 3 (some .int)) (rmF 2 43) [.ref mr, .int x, .int y] (mX mr rf st ln th pl hs vs dg xx ++ qX cI (rf 0) (T 0 0) (T 0 1) (T 0 2) (T 0 3) (T 0 4) (T 0 5) (T 1) (T 2) (T 3) (T 4) (T 5) (T 6) (T 7) (T 8)) (some (.int (nI 0))) (fun _ : Unit => (mX mr rf st ln 1 pl hs vs dg xx ++ qX cI (rf 0) (T 0 0) (T 0 1) (T 0 2) (T 0 3) (T 0 4) (T 0 5) (T 1) (T 2) (T 3) (T 4) (T 5) (T 6) (T 7) (T 8))) := by
  refine ct_in (cc := cX9_returnCrates) (maxL := 3) (ret := (some .int)) (own := RX9) (lv := [(0, .ref mr), (1, .int x), (2, .int y)]) (by decide +kernel) rfl rfl (Nat.le_of_ble_eq_true rfl) rfl ?_
  intro p e s m args below meth c A ls hx hb hr hml hts hown hlocks hK hA hP hD hS hl
  have hH := hT.1.1
  have hV := hT.1.2
  refine lv_aload_n hx hb dX9_returnCrates_0 rfl (lv_at hl 0 rfl) ?_
  refine lv_iconst (v := (nI 0)) hx hb dX9_returnCrates_1 (by decide) ?_
  refine pf_n (C := RX9) (T := TX9) (N := 15) (ci := 9) (q0 := 0) (ty := .int) (v := .int (nI 0)) (ws2 := (mX mr rf st ln 0 pl hs vs dg xx ++ qX cI (rf 0) (T 0 0) (T 0 1) (T 0 2) (T 0 3) (T 0 4) (T 0 5) (T 1) (T 2) (T 3) (T 4) (T 5) (T 6) (T 7) (T 8))) hx hb hts (iU inlX9) tyX9 tyX9_ok nmX9 hown hK hP hD hS rfl rfl 8 (by decide) (kU u_173) rfl rfl (tyX9_ok 8 (by decide)) rfl rfl (Nat.le_of_ble_eq_true rfl) dX9_returnCrates_2 rfl (fun Hp locs hP hD hS => ?_)
  refine lv_aload_n hx hb dX9_returnCrates_5 rfl (lv_at hl 0 rfl) ?_
  refine lv_iload_n hx hb dX9_returnCrates_6 rfl (lv_at hl 1 rfl) ?_
  refine gp_V (ci := 9) (q0 := 0) (cq := (RX9, TX9, 15)) (c_X9_isHouse l D cI cZ cF cL mr rf st ln 0 pl hs vs dg xx (T 0 0) (T 0 1) (T 0 2) (T 0 3) (T 0 4) (T 0 5) (T 1) (T 2) (T 3) (T 4) (T 5) (T 6) (T 7) (T 8) x (by omega) (by omega)) (gUV u_397 u_398 u_399 u_5 u_400) rfl hdV_X9_isHouse ⟨Nat.le_of_ble_eq_true rfl, Nat.le_of_ble_eq_true rfl⟩ ⟨rfl, rfl⟩ hx hb hml hown hts hK hA hP hD hS hl.1 ⟨Nat.le_of_ble_eq_true rfl, Nat.le_of_ble_eq_true rfl⟩ rfl rfl rfl (wr := ([] : va_W)) (pm_cnt (fun _ => by simp only [List.countP_append, List.countP_nil, fT] <;> omega)) (fun _ => by simp only [List.map_append, List.map_nil, fX_m, bX_m, sX_m, pX_m, iaX_m, r5X_m, r6X_m, fT_m, hX_m, tX_m, xX_m, sgX_m, zaX_m, fsB_a, qX_m, mX_m]) (rest := []) rfl rfl (Nat.le_of_ble_eq_true rfl) dX9_returnCrates_7 (ws2 := (fun _ : Unit => (mX mr rf st ln 0 pl hs vs dg xx ++ qX cI (rf 0) (T 0 0) (T 0 1) (T 0 2) (T 0 3) (T 0 4) (T 0 5) (T 1) (T 2) (T 3) (T 4) (T 5) (T 6) (T 7) (T 8)))) (fun _ => (pm_cnt (fun _ => by simp only [List.countP_append, List.countP_nil, fT] <;> omega))) (fun _ Hp locs hP hD hS => ?_)
  refine lv_if_ne (tgt := 19) hx hb dX9_returnCrates_10 (by decide) (fun c_10 => ?_) (fun c_10 => ?_)
  · skip
    replace c_10 := cb_nz c_10
    (exact absurd c_10 hbad)
  · skip
    replace c_10 := cb_z c_10
    refine lv_aload_n hx hb dX9_returnCrates_13 rfl (lv_at hl 0 rfl) ?_
    refine lv_iconst (v := (nI 1)) hx hb dX9_returnCrates_14 (by decide) ?_
    refine gp_V (ci := 9) (q0 := 0) (cq := (RX9, TX9, 15)) (c_X9_fails l D cI cZ cF cL mr rf st ln 0 pl hs vs dg xx 1 ) (gUV u_175 u_176 u_177 u_5 u_178) rfl hdV_X9_fails ⟨Nat.le_of_ble_eq_true rfl, Nat.le_of_ble_eq_true rfl⟩ ⟨rfl, rfl⟩ hx hb hml hown hts hK hA hP hD hS hl.1 ⟨Nat.le_of_ble_eq_true rfl, Nat.le_of_ble_eq_true rfl⟩ rfl rfl rfl (wr := (qX cI (rf 0) (T 0 0) (T 0 1) (T 0 2) (T 0 3) (T 0 4) (T 0 5) (T 1) (T 2) (T 3) (T 4) (T 5) (T 6) (T 7) (T 8))) (pm_cnt (fun _ => by simp only [List.countP_append, List.countP_nil, fT] <;> omega)) (fun _ => by simp only [List.map_append, List.map_nil, fX_m, bX_m, sX_m, pX_m, iaX_m, r5X_m, r6X_m, fT_m, hX_m, tX_m, xX_m, sgX_m, zaX_m, fsB_a, qX_m, mX_m]) (rest := []) rfl rfl (Nat.le_of_ble_eq_true rfl) dX9_returnCrates_15 (ws2 := (fun _ : Unit => (mX mr rf st ln 1 pl hs vs dg xx ++ qX cI (rf 0) (T 0 0) (T 0 1) (T 0 2) (T 0 3) (T 0 4) (T 0 5) (T 1) (T 2) (T 3) (T 4) (T 5) (T 6) (T 7) (T 8)))) (fun _ => (pm_cnt (fun _ => by simp only [List.countP_append, List.countP_nil, fT] <;> omega))) (fun _ Hp locs hP hD hS => ?_)
    exact ct_i () hx hb hr hlocks hP hS rfl dX9_returnCrates_18
set_option maxHeartbeats 4000000 in
set_option maxRecDepth 100000 in
theorem f2_X9_returnCrates (l : Launch) (D : va_G) (cI cZ cF cL : ClassId) (mr : Nat) (rf : Nat → Nat) (st ln th pl hs vs : Nat) (dg : Int32) (xx : Int64) (T : Nat → Nat → Nat) (h : Nat) (x : Int32) (hT : FI T) (hh : h < T 0 0) (hbad : ¬ (nI 1 ≤ x ∧ x ≤ nI 9)) : CT l D (tysX cI cZ cF cL) yX9_returnCrates (wA yX9_returnCrates cX9_returnCrates 3 (some .int)) (rmF 2 43) [.ref mr, .int (nI h), .int x] (mX mr rf st ln th pl hs vs dg xx ++ qX cI (rf 0) (T 0 0) (T 0 1) (T 0 2) (T 0 3) (T 0 4) (T 0 5) (T 1) (T 2) (T 3) (T 4) (T 5) (T 6) (T 7) (T 8)) (some (.int (nI 0))) (fun _ : Unit => (mX mr rf st ln 2 pl hs vs dg xx ++ qX cI (rf 0) (T 0 0) (T 0 1) (T 0 2) (T 0 3) (T 0 4) (T 0 5) (T 1) (T 2) (T 3) (T 4) (T 5) (T 6) (T 7) (T 8))) := by
  refine ct_in (cc := cX9_returnCrates) (maxL := 3) (ret := (some .int)) (own := RX9) (lv := [(0, .ref mr), (1, .int (nI h)), (2, .int x)]) (by decide +kernel) rfl rfl (Nat.le_of_ble_eq_true rfl) rfl ?_
  intro p e s m args below meth c A ls hx hb hr hml hts hown hlocks hK hA hP hD hS hl
  have hH := hT.1.1
  have hV := hT.1.2
  refine lv_aload_n hx hb dX9_returnCrates_0 rfl (lv_at hl 0 rfl) ?_
  refine lv_iconst (v := (nI 0)) hx hb dX9_returnCrates_1 (by decide) ?_
  refine pf_n (C := RX9) (T := TX9) (N := 15) (ci := 9) (q0 := 0) (ty := .int) (v := .int (nI 0)) (ws2 := (mX mr rf st ln 0 pl hs vs dg xx ++ qX cI (rf 0) (T 0 0) (T 0 1) (T 0 2) (T 0 3) (T 0 4) (T 0 5) (T 1) (T 2) (T 3) (T 4) (T 5) (T 6) (T 7) (T 8))) hx hb hts (iU inlX9) tyX9 tyX9_ok nmX9 hown hK hP hD hS rfl rfl 8 (by decide) (kU u_173) rfl rfl (tyX9_ok 8 (by decide)) rfl rfl (Nat.le_of_ble_eq_true rfl) dX9_returnCrates_2 rfl (fun Hp locs hP hD hS => ?_)
  refine lv_aload_n hx hb dX9_returnCrates_5 rfl (lv_at hl 0 rfl) ?_
  refine lv_iload_n hx hb dX9_returnCrates_6 rfl (lv_at hl 1 rfl) ?_
  refine gp_V (ci := 9) (q0 := 0) (cq := (RX9, TX9, 15)) (c_X9_isHouse l D cI cZ cF cL mr rf st ln 0 pl hs vs dg xx (T 0 0) (T 0 1) (T 0 2) (T 0 3) (T 0 4) (T 0 5) (T 1) (T 2) (T 3) (T 4) (T 5) (T 6) (T 7) (T 8) ((nI h)) (by omega) (by omega)) (gUV u_397 u_398 u_399 u_5 u_400) rfl hdV_X9_isHouse ⟨Nat.le_of_ble_eq_true rfl, Nat.le_of_ble_eq_true rfl⟩ ⟨rfl, rfl⟩ hx hb hml hown hts hK hA hP hD hS hl.1 ⟨Nat.le_of_ble_eq_true rfl, Nat.le_of_ble_eq_true rfl⟩ rfl rfl rfl (wr := ([] : va_W)) (pm_cnt (fun _ => by simp only [List.countP_append, List.countP_nil, fT] <;> omega)) (fun _ => by simp only [List.map_append, List.map_nil, fX_m, bX_m, sX_m, pX_m, iaX_m, r5X_m, r6X_m, fT_m, hX_m, tX_m, xX_m, sgX_m, zaX_m, fsB_a, qX_m, mX_m]) (rest := []) rfl rfl (Nat.le_of_ble_eq_true rfl) dX9_returnCrates_7 (ws2 := (fun _ : Unit => (mX mr rf st ln 0 pl hs vs dg xx ++ qX cI (rf 0) (T 0 0) (T 0 1) (T 0 2) (T 0 3) (T 0 4) (T 0 5) (T 1) (T 2) (T 3) (T 4) (T 5) (T 6) (T 7) (T 8)))) (fun _ => (pm_cnt (fun _ => by simp only [List.countP_append, List.countP_nil, fT] <;> omega))) (fun _ Hp locs hP hD hS => ?_)
  refine lv_if_ne (tgt := 19) hx hb dX9_returnCrates_10 (by decide) (fun c_10 => ?_) (fun c_10 => ?_)
  · skip
    replace c_10 := cb_nz c_10
    refine lv_iload_n hx hb dX9_returnCrates_19 rfl (lv_at hl 2 rfl) ?_
    refine lv_iconst (v := (nI 1)) hx hb dX9_returnCrates_20 (by decide) ?_
    refine lv_bipush (v := (nI 9)) hx hb dX9_returnCrates_21 (by decide) ?_
    refine gp_S (c_X9_in l D cI cZ cF cL x ((nI 1)) ((nI 9)) ) (gUS u_140 u_141 u_5 u_142) rfl hdS_X9_in ⟨Nat.le_of_ble_eq_true rfl, Nat.le_of_ble_eq_true rfl⟩ ⟨rfl, rfl⟩ hx hb hml hown hts hK hA hP hD hS hl.1 ⟨Nat.le_of_ble_eq_true rfl, Nat.le_of_ble_eq_true rfl⟩ (wr := (mX mr rf st ln 0 pl hs vs dg xx ++ qX cI (rf 0) (T 0 0) (T 0 1) (T 0 2) (T 0 3) (T 0 4) (T 0 5) (T 1) (T 2) (T 3) (T 4) (T 5) (T 6) (T 7) (T 8))) (pm_cnt (fun _ => by simp only [List.countP_append, List.countP_nil, fT] <;> omega)) (fun _ => by simp only [List.map_append, List.map_nil, fX_m, bX_m, sX_m, pX_m, iaX_m, r5X_m, r6X_m, fT_m, hX_m, tX_m, xX_m, sgX_m, zaX_m, fsB_a, qX_m, mX_m]) (rest := []) rfl rfl (Nat.le_of_ble_eq_true rfl) dX9_returnCrates_23 (ws2 := (fun _ : Unit => (mX mr rf st ln 0 pl hs vs dg xx ++ qX cI (rf 0) (T 0 0) (T 0 1) (T 0 2) (T 0 3) (T 0 4) (T 0 5) (T 1) (T 2) (T 3) (T 4) (T 5) (T 6) (T 7) (T 8)))) (fun _ => (pm_cnt (fun _ => by simp only [List.countP_append, List.countP_nil, fT] <;> omega))) (fun _ Hp locs hP hD hS => ?_)
    refine lv_if_ne (tgt := 35) hx hb dX9_returnCrates_26 (by decide) (fun c_26 => ?_) (fun c_26 => ?_)
    · skip
      replace c_26 := cb_nz c_26
      (exact absurd c_26 hbad)
    · skip
      replace c_26 := cb_z c_26
      refine lv_aload_n hx hb dX9_returnCrates_29 rfl (lv_at hl 0 rfl) ?_
      refine lv_iconst (v := (nI 2)) hx hb dX9_returnCrates_30 (by decide) ?_
      refine gp_V (ci := 9) (q0 := 0) (cq := (RX9, TX9, 15)) (c_X9_fails l D cI cZ cF cL mr rf st ln 0 pl hs vs dg xx 2 ) (gUV u_175 u_176 u_177 u_5 u_178) rfl hdV_X9_fails ⟨Nat.le_of_ble_eq_true rfl, Nat.le_of_ble_eq_true rfl⟩ ⟨rfl, rfl⟩ hx hb hml hown hts hK hA hP hD hS hl.1 ⟨Nat.le_of_ble_eq_true rfl, Nat.le_of_ble_eq_true rfl⟩ rfl rfl rfl (wr := (qX cI (rf 0) (T 0 0) (T 0 1) (T 0 2) (T 0 3) (T 0 4) (T 0 5) (T 1) (T 2) (T 3) (T 4) (T 5) (T 6) (T 7) (T 8))) (pm_cnt (fun _ => by simp only [List.countP_append, List.countP_nil, fT] <;> omega)) (fun _ => by simp only [List.map_append, List.map_nil, fX_m, bX_m, sX_m, pX_m, iaX_m, r5X_m, r6X_m, fT_m, hX_m, tX_m, xX_m, sgX_m, zaX_m, fsB_a, qX_m, mX_m]) (rest := []) rfl rfl (Nat.le_of_ble_eq_true rfl) dX9_returnCrates_31 (ws2 := (fun _ : Unit => (mX mr rf st ln 2 pl hs vs dg xx ++ qX cI (rf 0) (T 0 0) (T 0 1) (T 0 2) (T 0 3) (T 0 4) (T 0 5) (T 1) (T 2) (T 3) (T 4) (T 5) (T 6) (T 7) (T 8)))) (fun _ => (pm_cnt (fun _ => by simp only [List.countP_append, List.countP_nil, fT] <;> omega))) (fun _ Hp locs hP hD hS => ?_)
      exact ct_i () hx hb hr hlocks hP hS rfl dX9_returnCrates_34
  · skip
    replace c_10 := cb_z c_10
    (exact absurd (hhV hh hT.1.1) c_10)
set_option maxHeartbeats 4000000 in
set_option maxRecDepth 100000 in
theorem f3_X9_returnCrates (l : Launch) (D : va_G) (cI cZ cF cL : ClassId) (mr : Nat) (rf : Nat → Nat) (st ln th pl hs vs : Nat) (dg : Int32) (xx : Int64) (T : Nat → Nat → Nat) (h n : Nat) (hT : FI T) (hh : h < T 0 0) (h1n : 1 ≤ n) (hn9 : n ≤ 9) (hle : T 2 h < n) : CT l D (tysX cI cZ cF cL) yX9_returnCrates (wA yX9_returnCrates cX9_returnCrates 3 (some .int)) (rmF 2 43) [.ref mr, .int (nI h), .int (nI n)] (mX mr rf st ln th pl hs vs dg xx ++ qX cI (rf 0) (T 0 0) (T 0 1) (T 0 2) (T 0 3) (T 0 4) (T 0 5) (T 1) (T 2) (T 3) (T 4) (T 5) (T 6) (T 7) (T 8)) (some (.int (nI 0))) (fun _ : Unit => (mX mr rf st ln 3 pl hs vs dg xx ++ qX cI (rf 0) (T 0 0) (T 0 1) (T 0 2) (T 0 3) (T 0 4) (T 0 5) (T 1) (T 2) (T 3) (T 4) (T 5) (T 6) (T 7) (T 8))) := by
  refine ct_in (cc := cX9_returnCrates) (maxL := 3) (ret := (some .int)) (own := RX9) (lv := [(0, .ref mr), (1, .int (nI h)), (2, .int (nI n))]) (by decide +kernel) rfl rfl (Nat.le_of_ble_eq_true rfl) rfl ?_
  intro p e s m args below meth c A ls hx hb hr hml hts hown hlocks hK hA hP hD hS hl
  have hH := hT.1.1
  have hV := hT.1.2
  refine lv_aload_n hx hb dX9_returnCrates_0 rfl (lv_at hl 0 rfl) ?_
  refine lv_iconst (v := (nI 0)) hx hb dX9_returnCrates_1 (by decide) ?_
  refine pf_n (C := RX9) (T := TX9) (N := 15) (ci := 9) (q0 := 0) (ty := .int) (v := .int (nI 0)) (ws2 := (mX mr rf st ln 0 pl hs vs dg xx ++ qX cI (rf 0) (T 0 0) (T 0 1) (T 0 2) (T 0 3) (T 0 4) (T 0 5) (T 1) (T 2) (T 3) (T 4) (T 5) (T 6) (T 7) (T 8))) hx hb hts (iU inlX9) tyX9 tyX9_ok nmX9 hown hK hP hD hS rfl rfl 8 (by decide) (kU u_173) rfl rfl (tyX9_ok 8 (by decide)) rfl rfl (Nat.le_of_ble_eq_true rfl) dX9_returnCrates_2 rfl (fun Hp locs hP hD hS => ?_)
  refine lv_aload_n hx hb dX9_returnCrates_5 rfl (lv_at hl 0 rfl) ?_
  refine lv_iload_n hx hb dX9_returnCrates_6 rfl (lv_at hl 1 rfl) ?_
  refine gp_V (ci := 9) (q0 := 0) (cq := (RX9, TX9, 15)) (c_X9_isHouse l D cI cZ cF cL mr rf st ln 0 pl hs vs dg xx (T 0 0) (T 0 1) (T 0 2) (T 0 3) (T 0 4) (T 0 5) (T 1) (T 2) (T 3) (T 4) (T 5) (T 6) (T 7) (T 8) ((nI h)) (by omega) (by omega)) (gUV u_397 u_398 u_399 u_5 u_400) rfl hdV_X9_isHouse ⟨Nat.le_of_ble_eq_true rfl, Nat.le_of_ble_eq_true rfl⟩ ⟨rfl, rfl⟩ hx hb hml hown hts hK hA hP hD hS hl.1 ⟨Nat.le_of_ble_eq_true rfl, Nat.le_of_ble_eq_true rfl⟩ rfl rfl rfl (wr := ([] : va_W)) (pm_cnt (fun _ => by simp only [List.countP_append, List.countP_nil, fT] <;> omega)) (fun _ => by simp only [List.map_append, List.map_nil, fX_m, bX_m, sX_m, pX_m, iaX_m, r5X_m, r6X_m, fT_m, hX_m, tX_m, xX_m, sgX_m, zaX_m, fsB_a, qX_m, mX_m]) (rest := []) rfl rfl (Nat.le_of_ble_eq_true rfl) dX9_returnCrates_7 (ws2 := (fun _ : Unit => (mX mr rf st ln 0 pl hs vs dg xx ++ qX cI (rf 0) (T 0 0) (T 0 1) (T 0 2) (T 0 3) (T 0 4) (T 0 5) (T 1) (T 2) (T 3) (T 4) (T 5) (T 6) (T 7) (T 8)))) (fun _ => (pm_cnt (fun _ => by simp only [List.countP_append, List.countP_nil, fT] <;> omega))) (fun _ Hp locs hP hD hS => ?_)
  refine lv_if_ne (tgt := 19) hx hb dX9_returnCrates_10 (by decide) (fun c_10 => ?_) (fun c_10 => ?_)
  · skip
    replace c_10 := cb_nz c_10
    refine lv_iload_n hx hb dX9_returnCrates_19 rfl (lv_at hl 2 rfl) ?_
    refine lv_iconst (v := (nI 1)) hx hb dX9_returnCrates_20 (by decide) ?_
    refine lv_bipush (v := (nI 9)) hx hb dX9_returnCrates_21 (by decide) ?_
    refine gp_S (c_X9_in l D cI cZ cF cL ((nI n)) ((nI 1)) ((nI 9)) ) (gUS u_140 u_141 u_5 u_142) rfl hdS_X9_in ⟨Nat.le_of_ble_eq_true rfl, Nat.le_of_ble_eq_true rfl⟩ ⟨rfl, rfl⟩ hx hb hml hown hts hK hA hP hD hS hl.1 ⟨Nat.le_of_ble_eq_true rfl, Nat.le_of_ble_eq_true rfl⟩ (wr := (mX mr rf st ln 0 pl hs vs dg xx ++ qX cI (rf 0) (T 0 0) (T 0 1) (T 0 2) (T 0 3) (T 0 4) (T 0 5) (T 1) (T 2) (T 3) (T 4) (T 5) (T 6) (T 7) (T 8))) (pm_cnt (fun _ => by simp only [List.countP_append, List.countP_nil, fT] <;> omega)) (fun _ => by simp only [List.map_append, List.map_nil, fX_m, bX_m, sX_m, pX_m, iaX_m, r5X_m, r6X_m, fT_m, hX_m, tX_m, xX_m, sgX_m, zaX_m, fsB_a, qX_m, mX_m]) (rest := []) rfl rfl (Nat.le_of_ble_eq_true rfl) dX9_returnCrates_23 (ws2 := (fun _ : Unit => (mX mr rf st ln 0 pl hs vs dg xx ++ qX cI (rf 0) (T 0 0) (T 0 1) (T 0 2) (T 0 3) (T 0 4) (T 0 5) (T 1) (T 2) (T 3) (T 4) (T 5) (T 6) (T 7) (T 8)))) (fun _ => (pm_cnt (fun _ => by simp only [List.countP_append, List.countP_nil, fT] <;> omega))) (fun _ Hp locs hP hD hS => ?_)
    refine lv_if_ne (tgt := 35) hx hb dX9_returnCrates_26 (by decide) (fun c_26 => ?_) (fun c_26 => ?_)
    · skip
      replace c_26 := cb_nz c_26
      refine lv_aload_n hx hb dX9_returnCrates_35 rfl (lv_at hl 0 rfl) ?_
      refine gf_n (C := RX9) (T := TX9) (N := 15) (ci := 9) (q0 := 0) (v := .ref (rf 0)) hx hb hts (iU inlX9) hown hK hP rfl rfl 0 (by decide) (kU u_129) rfl rfl dX9_returnCrates_36 ?_
      refine lv_iload_n hx hb dX9_returnCrates_39 rfl (lv_at hl 1 rfl) ?_
      refine gp_S (c_X9_size l D cI cZ cF cL h ) (gUS u_275 u_276 u_5 u_277) rfl hdS_X9_size ⟨Nat.le_of_ble_eq_true rfl, Nat.le_of_ble_eq_true rfl⟩ ⟨rfl, rfl⟩ hx hb hml hown hts hK hA hP hD hS hl.1 ⟨Nat.le_of_ble_eq_true rfl, Nat.le_of_ble_eq_true rfl⟩ (wr := (mX mr rf st ln 0 pl hs vs dg xx ++ qX cI (rf 0) (T 0 0) (T 0 1) (T 0 2) (T 0 3) (T 0 4) (T 0 5) (T 1) (T 2) (T 3) (T 4) (T 5) (T 6) (T 7) (T 8))) (pm_cnt (fun _ => by simp only [List.countP_append, List.countP_nil, fT] <;> omega)) (fun _ => by simp only [List.map_append, List.map_nil, fX_m, bX_m, sX_m, pX_m, iaX_m, r5X_m, r6X_m, fT_m, hX_m, tX_m, xX_m, sgX_m, zaX_m, fsB_a, qX_m, mX_m]) (rest := [.ref (rf 0)]) rfl rfl (Nat.le_of_ble_eq_true rfl) dX9_returnCrates_40 (ws2 := (fun _ : Unit => (mX mr rf st ln 0 pl hs vs dg xx ++ qX cI (rf 0) (T 0 0) (T 0 1) (T 0 2) (T 0 3) (T 0 4) (T 0 5) (T 1) (T 2) (T 3) (T 4) (T 5) (T 6) (T 7) (T 8)))) (fun _ => (pm_cnt (fun _ => by simp only [List.countP_append, List.countP_nil, fT] <;> omega))) (fun _ Hp locs hP hD hS => ?_)
      refine lv_iconst (v := (nI 1)) hx hb dX9_returnCrates_43 (by decide) ?_
      refine lv_iadd hx hb dX9_returnCrates_44 ?_
      rw [nI_add (6 + 4 * h) 1]
      refine ia_n (q0 := 1) (t0 := 0) hx hb hK hP rfl rfl (by omega) (by decide) dX9_returnCrates_45 ?_
      rw [qR_2 (by omega)]
      refine lv_iload_n hx hb dX9_returnCrates_46 rfl (lv_at hl 2 rfl) ?_
      refine lv_icmp_ge (tgt := 56) hx hb dX9_returnCrates_47 (by decide) (fun c_47 => ?_) (fun c_47 => ?_)
      · skip
        replace c_47 := cn_le (by omega) (by omega) c_47
        (exfalso; omega)
      · skip
        replace c_47 := cn_nle (by omega) (by omega) c_47
        refine lv_aload_n hx hb dX9_returnCrates_50 rfl (lv_at hl 0 rfl) ?_
        refine lv_iconst (v := (nI 3)) hx hb dX9_returnCrates_51 (by decide) ?_
        refine gp_V (ci := 9) (q0 := 0) (cq := (RX9, TX9, 15)) (c_X9_fails l D cI cZ cF cL mr rf st ln 0 pl hs vs dg xx 3 ) (gUV u_175 u_176 u_177 u_5 u_178) rfl hdV_X9_fails ⟨Nat.le_of_ble_eq_true rfl, Nat.le_of_ble_eq_true rfl⟩ ⟨rfl, rfl⟩ hx hb hml hown hts hK hA hP hD hS hl.1 ⟨Nat.le_of_ble_eq_true rfl, Nat.le_of_ble_eq_true rfl⟩ rfl rfl rfl (wr := (qX cI (rf 0) (T 0 0) (T 0 1) (T 0 2) (T 0 3) (T 0 4) (T 0 5) (T 1) (T 2) (T 3) (T 4) (T 5) (T 6) (T 7) (T 8))) (pm_cnt (fun _ => by simp only [List.countP_append, List.countP_nil, fT] <;> omega)) (fun _ => by simp only [List.map_append, List.map_nil, fX_m, bX_m, sX_m, pX_m, iaX_m, r5X_m, r6X_m, fT_m, hX_m, tX_m, xX_m, sgX_m, zaX_m, fsB_a, qX_m, mX_m]) (rest := []) rfl rfl (Nat.le_of_ble_eq_true rfl) dX9_returnCrates_52 (ws2 := (fun _ : Unit => (mX mr rf st ln 3 pl hs vs dg xx ++ qX cI (rf 0) (T 0 0) (T 0 1) (T 0 2) (T 0 3) (T 0 4) (T 0 5) (T 1) (T 2) (T 3) (T 4) (T 5) (T 6) (T 7) (T 8)))) (fun _ => (pm_cnt (fun _ => by simp only [List.countP_append, List.countP_nil, fT] <;> omega))) (fun _ Hp locs hP hD hS => ?_)
        exact ct_i () hx hb hr hlocks hP hS rfl dX9_returnCrates_55
    · skip
      replace c_26 := cb_z c_26
      (exact absurd ((in_n (by omega) (by decide) (by decide)).mpr ⟨by omega, by omega⟩) c_26)
  · skip
    replace c_10 := cb_z c_10
    (exact absurd (hhV hh hT.1.1) c_10)
set_option maxHeartbeats 4000000 in
set_option maxRecDepth 100000 in
theorem f1_X9_undo (l : Launch) (D : va_G) (cI cZ cF cL : ClassId) (mr : Nat) (rf : Nat → Nat) (st ln th pl hs vs : Nat) (dg : Int32) (xx : Int64)   : CT l D (tysX cI cZ cF cL) yX9_undo (wA yX9_undo cX9_undo 2 (some .int)) (rmF 1 21) [.ref mr] (mX mr rf 0 ln th pl hs vs dg xx) (some (.int (nI 0))) (fun _ : Unit => (mX mr rf 0 ln 1 pl hs vs dg xx)) := by
  refine ct_in (cc := cX9_undo) (maxL := 2) (ret := (some .int)) (own := RX9) (lv := [(0, .ref mr)]) (by decide +kernel) rfl rfl (Nat.le_of_ble_eq_true rfl) rfl ?_
  intro p e s m args below meth c A ls hx hb hr hml hts hown hlocks hK hA hP hD hS hl
  refine lv_aload_n hx hb dX9_undo_0 rfl (lv_at hl 0 rfl) ?_
  refine lv_iconst (v := (nI 0)) hx hb dX9_undo_1 (by decide) ?_
  refine pf_n (C := RX9) (T := TX9) (N := 15) (ci := 9) (q0 := 0) (ty := .int) (v := .int (nI 0)) (ws2 := (mX mr rf 0 ln 0 pl hs vs dg xx)) hx hb hts (iU inlX9) tyX9 tyX9_ok nmX9 hown hK hP hD hS rfl rfl 8 (by decide) (kU u_173) rfl rfl (tyX9_ok 8 (by decide)) rfl rfl (Nat.le_of_ble_eq_true rfl) dX9_undo_2 rfl (fun Hp locs hP hD hS => ?_)
  refine lv_aload_n hx hb dX9_undo_5 rfl (lv_at hl 0 rfl) ?_
  refine gf_n (C := RX9) (T := TX9) (N := 15) (ci := 9) (q0 := 0) (v := .int (nI 0)) hx hb hts (iU inlX9) hown hK hP rfl rfl 3 (by decide) (kU u_309) rfl rfl dX9_undo_6 ?_
  refine lv_if_ne (tgt := 18) hx hb dX9_undo_9 (by decide) (fun c_9 => absurd c_9 (by decide +kernel)) (fun _ => ?_)
  refine lv_aload_n hx hb dX9_undo_12 rfl (lv_at hl 0 rfl) ?_
  refine lv_iconst (v := (nI 1)) hx hb dX9_undo_13 (by decide) ?_
  refine gp_V (ci := 9) (q0 := 0) (cq := (RX9, TX9, 15)) (c_X9_fails l D cI cZ cF cL mr rf 0 ln 0 pl hs vs dg xx 1 ) (gUV u_175 u_176 u_177 u_5 u_178) rfl hdV_X9_fails ⟨Nat.le_of_ble_eq_true rfl, Nat.le_of_ble_eq_true rfl⟩ ⟨rfl, rfl⟩ hx hb hml hown hts hK hA hP hD hS hl.1 ⟨Nat.le_of_ble_eq_true rfl, Nat.le_of_ble_eq_true rfl⟩ rfl rfl rfl (wr := ([] : va_W)) (pm_cnt (fun _ => by simp only [List.countP_append, List.countP_nil, fT] <;> omega)) (fun _ => by simp only [List.map_append, List.map_nil, fX_m, bX_m, sX_m, pX_m, iaX_m, r5X_m, r6X_m, fT_m, hX_m, tX_m, xX_m, sgX_m, zaX_m, fsB_a, qX_m, mX_m]) (rest := []) rfl rfl (Nat.le_of_ble_eq_true rfl) dX9_undo_14 (ws2 := (fun _ : Unit => (mX mr rf 0 ln 1 pl hs vs dg xx))) (fun _ => (pm_cnt (fun _ => by simp only [List.countP_append, List.countP_nil, fT] <;> omega))) (fun _ Hp locs hP hD hS => ?_)
  exact ct_i () hx hb hr hlocks hP hS rfl dX9_undo_17
set_option maxHeartbeats 4000000 in
set_option maxRecDepth 100000 in
theorem f1_X9_save (l : Launch) (D : va_G) (cI cZ cF cL : ClassId) (mr : Nat) (rf : Nat → Nat) (st ln th pl hs vs : Nat) (dg : Int32) (xx : Int64) (x : Int32) (hbad : ¬ (nI 0 ≤ x ∧ x ≤ nI 1)) : CT l D (tysX cI cZ cF cL) yX9_save (wA yX9_save cX9_save 3 (some .int)) (rmF 1 22) [.ref mr, .int x] (mX mr rf st ln th pl hs vs dg xx) (some (.int (nI 0))) (fun _ : Unit => (mX mr rf st ln 1 pl hs vs dg xx)) := by
  refine ct_in (cc := cX9_save) (maxL := 3) (ret := (some .int)) (own := RX9) (lv := [(0, .ref mr), (1, .int x)]) (by decide +kernel) rfl rfl (Nat.le_of_ble_eq_true rfl) rfl ?_
  intro p e s m args below meth c A ls hx hb hr hml hts hown hlocks hK hA hP hD hS hl
  refine lv_aload_n hx hb dX9_save_0 rfl (lv_at hl 0 rfl) ?_
  refine lv_iconst (v := (nI 0)) hx hb dX9_save_1 (by decide) ?_
  refine pf_n (C := RX9) (T := TX9) (N := 15) (ci := 9) (q0 := 0) (ty := .int) (v := .int (nI 0)) (ws2 := (mX mr rf st ln 0 pl hs vs dg xx)) hx hb hts (iU inlX9) tyX9 tyX9_ok nmX9 hown hK hP hD hS rfl rfl 8 (by decide) (kU u_173) rfl rfl (tyX9_ok 8 (by decide)) rfl rfl (Nat.le_of_ble_eq_true rfl) dX9_save_2 rfl (fun Hp locs hP hD hS => ?_)
  refine lv_iload_n hx hb dX9_save_5 rfl (lv_at hl 1 rfl) ?_
  refine lv_iconst (v := (nI 0)) hx hb dX9_save_6 (by decide) ?_
  refine lv_iconst (v := (nI 1)) hx hb dX9_save_7 (by decide) ?_
  refine gp_S (c_X9_in l D cI cZ cF cL x ((nI 0)) ((nI 1)) ) (gUS u_140 u_141 u_5 u_142) rfl hdS_X9_in ⟨Nat.le_of_ble_eq_true rfl, Nat.le_of_ble_eq_true rfl⟩ ⟨rfl, rfl⟩ hx hb hml hown hts hK hA hP hD hS hl.1 ⟨Nat.le_of_ble_eq_true rfl, Nat.le_of_ble_eq_true rfl⟩ (wr := (mX mr rf st ln 0 pl hs vs dg xx)) (pm_cnt (fun _ => by simp only [List.countP_append, List.countP_nil, fT] <;> omega)) (fun _ => by simp only [List.map_append, List.map_nil, fX_m, bX_m, sX_m, pX_m, iaX_m, r5X_m, r6X_m, fT_m, hX_m, tX_m, xX_m, sgX_m, zaX_m, fsB_a, qX_m, mX_m]) (rest := []) rfl rfl (Nat.le_of_ble_eq_true rfl) dX9_save_8 (ws2 := (fun _ : Unit => (mX mr rf st ln 0 pl hs vs dg xx))) (fun _ => (pm_cnt (fun _ => by simp only [List.countP_append, List.countP_nil, fT] <;> omega))) (fun _ Hp locs hP hD hS => ?_)
  refine lv_if_ne (tgt := 20) hx hb dX9_save_11 (by decide) (fun c_11 => ?_) (fun c_11 => ?_)
  · skip
    replace c_11 := cb_nz c_11
    (exact absurd c_11 hbad)
  · skip
    replace c_11 := cb_z c_11
    refine lv_aload_n hx hb dX9_save_14 rfl (lv_at hl 0 rfl) ?_
    refine lv_iconst (v := (nI 1)) hx hb dX9_save_15 (by decide) ?_
    refine gp_V (ci := 9) (q0 := 0) (cq := (RX9, TX9, 15)) (c_X9_fails l D cI cZ cF cL mr rf st ln 0 pl hs vs dg xx 1 ) (gUV u_175 u_176 u_177 u_5 u_178) rfl hdV_X9_fails ⟨Nat.le_of_ble_eq_true rfl, Nat.le_of_ble_eq_true rfl⟩ ⟨rfl, rfl⟩ hx hb hml hown hts hK hA hP hD hS hl.1 ⟨Nat.le_of_ble_eq_true rfl, Nat.le_of_ble_eq_true rfl⟩ rfl rfl rfl (wr := ([] : va_W)) (pm_cnt (fun _ => by simp only [List.countP_append, List.countP_nil, fT] <;> omega)) (fun _ => by simp only [List.map_append, List.map_nil, fX_m, bX_m, sX_m, pX_m, iaX_m, r5X_m, r6X_m, fT_m, hX_m, tX_m, xX_m, sgX_m, zaX_m, fsB_a, qX_m, mX_m]) (rest := []) rfl rfl (Nat.le_of_ble_eq_true rfl) dX9_save_16 (ws2 := (fun _ : Unit => (mX mr rf st ln 1 pl hs vs dg xx))) (fun _ => (pm_cnt (fun _ => by simp only [List.countP_append, List.countP_nil, fT] <;> omega))) (fun _ Hp locs hP hD hS => ?_)
    exact ct_i () hx hb hr hlocks hP hS rfl dX9_save_19
set_option maxHeartbeats 4000000 in
set_option maxRecDepth 100000 in
theorem f1_X9_restore (l : Launch) (D : va_G) (cI cZ cF cL : ClassId) (mr : Nat) (rf : Nat → Nat) (st ln th pl hs vs : Nat) (dg : Int32) (xx : Int64) (x : Int32) (hbad : ¬ (nI 0 ≤ x ∧ x ≤ nI 1)) : CT l D (tysX cI cZ cF cL) yX9_restore (wA yX9_restore cX9_restore 3 (some .int)) (rmF 1 22) [.ref mr, .int x] (mX mr rf st ln th pl hs vs dg xx) (some (.int (nI 0))) (fun _ : Unit => (mX mr rf st ln 1 pl hs vs dg xx)) := by
  refine ct_in (cc := cX9_restore) (maxL := 3) (ret := (some .int)) (own := RX9) (lv := [(0, .ref mr), (1, .int x)]) (by decide +kernel) rfl rfl (Nat.le_of_ble_eq_true rfl) rfl ?_
  intro p e s m args below meth c A ls hx hb hr hml hts hown hlocks hK hA hP hD hS hl
  refine lv_aload_n hx hb dX9_restore_0 rfl (lv_at hl 0 rfl) ?_
  refine lv_iconst (v := (nI 0)) hx hb dX9_restore_1 (by decide) ?_
  refine pf_n (C := RX9) (T := TX9) (N := 15) (ci := 9) (q0 := 0) (ty := .int) (v := .int (nI 0)) (ws2 := (mX mr rf st ln 0 pl hs vs dg xx)) hx hb hts (iU inlX9) tyX9 tyX9_ok nmX9 hown hK hP hD hS rfl rfl 8 (by decide) (kU u_173) rfl rfl (tyX9_ok 8 (by decide)) rfl rfl (Nat.le_of_ble_eq_true rfl) dX9_restore_2 rfl (fun Hp locs hP hD hS => ?_)
  refine lv_iload_n hx hb dX9_restore_5 rfl (lv_at hl 1 rfl) ?_
  refine lv_iconst (v := (nI 0)) hx hb dX9_restore_6 (by decide) ?_
  refine lv_iconst (v := (nI 1)) hx hb dX9_restore_7 (by decide) ?_
  refine gp_S (c_X9_in l D cI cZ cF cL x ((nI 0)) ((nI 1)) ) (gUS u_140 u_141 u_5 u_142) rfl hdS_X9_in ⟨Nat.le_of_ble_eq_true rfl, Nat.le_of_ble_eq_true rfl⟩ ⟨rfl, rfl⟩ hx hb hml hown hts hK hA hP hD hS hl.1 ⟨Nat.le_of_ble_eq_true rfl, Nat.le_of_ble_eq_true rfl⟩ (wr := (mX mr rf st ln 0 pl hs vs dg xx)) (pm_cnt (fun _ => by simp only [List.countP_append, List.countP_nil, fT] <;> omega)) (fun _ => by simp only [List.map_append, List.map_nil, fX_m, bX_m, sX_m, pX_m, iaX_m, r5X_m, r6X_m, fT_m, hX_m, tX_m, xX_m, sgX_m, zaX_m, fsB_a, qX_m, mX_m]) (rest := []) rfl rfl (Nat.le_of_ble_eq_true rfl) dX9_restore_8 (ws2 := (fun _ : Unit => (mX mr rf st ln 0 pl hs vs dg xx))) (fun _ => (pm_cnt (fun _ => by simp only [List.countP_append, List.countP_nil, fT] <;> omega))) (fun _ Hp locs hP hD hS => ?_)
  refine lv_if_ne (tgt := 20) hx hb dX9_restore_11 (by decide) (fun c_11 => ?_) (fun c_11 => ?_)
  · skip
    replace c_11 := cb_nz c_11
    (exact absurd c_11 hbad)
  · skip
    replace c_11 := cb_z c_11
    refine lv_aload_n hx hb dX9_restore_14 rfl (lv_at hl 0 rfl) ?_
    refine lv_iconst (v := (nI 1)) hx hb dX9_restore_15 (by decide) ?_
    refine gp_V (ci := 9) (q0 := 0) (cq := (RX9, TX9, 15)) (c_X9_fails l D cI cZ cF cL mr rf st ln 0 pl hs vs dg xx 1 ) (gUV u_175 u_176 u_177 u_5 u_178) rfl hdV_X9_fails ⟨Nat.le_of_ble_eq_true rfl, Nat.le_of_ble_eq_true rfl⟩ ⟨rfl, rfl⟩ hx hb hml hown hts hK hA hP hD hS hl.1 ⟨Nat.le_of_ble_eq_true rfl, Nat.le_of_ble_eq_true rfl⟩ rfl rfl rfl (wr := ([] : va_W)) (pm_cnt (fun _ => by simp only [List.countP_append, List.countP_nil, fT] <;> omega)) (fun _ => by simp only [List.map_append, List.map_nil, fX_m, bX_m, sX_m, pX_m, iaX_m, r5X_m, r6X_m, fT_m, hX_m, tX_m, xX_m, sgX_m, zaX_m, fsB_a, qX_m, mX_m]) (rest := []) rfl rfl (Nat.le_of_ble_eq_true rfl) dX9_restore_16 (ws2 := (fun _ : Unit => (mX mr rf st ln 1 pl hs vs dg xx))) (fun _ => (pm_cnt (fun _ => by simp only [List.countP_append, List.countP_nil, fT] <;> omega))) (fun _ Hp locs hP hD hS => ?_)
    exact ct_i () hx hb hr hlocks hP hS rfl dX9_restore_19
set_option maxHeartbeats 4000000 in
set_option maxRecDepth 100000 in
theorem f2_X9_restore (l : Launch) (D : va_G) (cI cZ cF cL : ClassId) (mr : Nat) (rf : Nat → Nat) (st ln th pl hs vs : Nat) (dg : Int32) (xx : Int64) (zf : Nat → Nat) (sl : Nat) (hsl : sl < 2) (hz : zf sl = 0) : CT l D (tysX cI cZ cF cL) yX9_restore (wA yX9_restore cX9_restore 3 (some .int)) (rmF 1 22) [.ref mr, .int (nI sl)] (mX mr rf st ln th pl hs vs dg xx ++ zaX cZ (rf 4) 2 zf) (some (.int (nI 0))) (fun _ : Unit => (mX mr rf st ln 2 pl hs vs dg xx ++ zaX cZ (rf 4) 2 zf)) := by
  refine ct_in (cc := cX9_restore) (maxL := 3) (ret := (some .int)) (own := RX9) (lv := [(0, .ref mr), (1, .int (nI sl))]) (by decide +kernel) rfl rfl (Nat.le_of_ble_eq_true rfl) rfl ?_
  intro p e s m args below meth c A ls hx hb hr hml hts hown hlocks hK hA hP hD hS hl
  refine lv_aload_n hx hb dX9_restore_0 rfl (lv_at hl 0 rfl) ?_
  refine lv_iconst (v := (nI 0)) hx hb dX9_restore_1 (by decide) ?_
  refine pf_n (C := RX9) (T := TX9) (N := 15) (ci := 9) (q0 := 0) (ty := .int) (v := .int (nI 0)) (ws2 := (mX mr rf st ln 0 pl hs vs dg xx ++ zaX cZ (rf 4) 2 zf)) hx hb hts (iU inlX9) tyX9 tyX9_ok nmX9 hown hK hP hD hS rfl rfl 8 (by decide) (kU u_173) rfl rfl (tyX9_ok 8 (by decide)) rfl rfl (Nat.le_of_ble_eq_true rfl) dX9_restore_2 rfl (fun Hp locs hP hD hS => ?_)
  refine lv_iload_n hx hb dX9_restore_5 rfl (lv_at hl 1 rfl) ?_
  refine lv_iconst (v := (nI 0)) hx hb dX9_restore_6 (by decide) ?_
  refine lv_iconst (v := (nI 1)) hx hb dX9_restore_7 (by decide) ?_
  refine gp_S (c_X9_in l D cI cZ cF cL ((nI sl)) ((nI 0)) ((nI 1)) ) (gUS u_140 u_141 u_5 u_142) rfl hdS_X9_in ⟨Nat.le_of_ble_eq_true rfl, Nat.le_of_ble_eq_true rfl⟩ ⟨rfl, rfl⟩ hx hb hml hown hts hK hA hP hD hS hl.1 ⟨Nat.le_of_ble_eq_true rfl, Nat.le_of_ble_eq_true rfl⟩ (wr := (mX mr rf st ln 0 pl hs vs dg xx ++ zaX cZ (rf 4) 2 zf)) (pm_cnt (fun _ => by simp only [List.countP_append, List.countP_nil, fT] <;> omega)) (fun _ => by simp only [List.map_append, List.map_nil, fX_m, bX_m, sX_m, pX_m, iaX_m, r5X_m, r6X_m, fT_m, hX_m, tX_m, xX_m, sgX_m, zaX_m, fsB_a, qX_m, mX_m]) (rest := []) rfl rfl (Nat.le_of_ble_eq_true rfl) dX9_restore_8 (ws2 := (fun _ : Unit => (mX mr rf st ln 0 pl hs vs dg xx ++ zaX cZ (rf 4) 2 zf))) (fun _ => (pm_cnt (fun _ => by simp only [List.countP_append, List.countP_nil, fT] <;> omega))) (fun _ Hp locs hP hD hS => ?_)
  refine lv_if_ne (tgt := 20) hx hb dX9_restore_11 (by decide) (fun c_11 => ?_) (fun c_11 => ?_)
  · skip
    replace c_11 := cb_nz c_11
    refine lv_aload_n hx hb dX9_restore_20 rfl (lv_at hl 0 rfl) ?_
    refine gf_n (C := RX9) (T := TX9) (N := 15) (ci := 9) (q0 := 0) (v := .ref (rf 4)) hx hb hts (iU inlX9) hown hK hP rfl rfl 5 (by decide) (kU u_133) rfl rfl dX9_restore_21 ?_
    refine lv_iload_n hx hb dX9_restore_24 rfl (lv_at hl 1 rfl) ?_
    refine za_n (q0 := 1) (t0 := 1) hx hb hK hP rfl rfl (by omega) (by decide) dX9_restore_25 ?_
    refine lv_if_ne (tgt := 35) hx hb dX9_restore_26 (by decide) (fun c_26 => ?_) (fun c_26 => ?_)
    · skip
      replace c_26 := cn_ne (b := 0) c_26
      (exact absurd hz c_26)
    · skip
      replace c_26 := cn_eq (b := 0) (by omega) (by omega) c_26
      refine lv_aload_n hx hb dX9_restore_29 rfl (lv_at hl 0 rfl) ?_
      refine lv_iconst (v := (nI 2)) hx hb dX9_restore_30 (by decide) ?_
      refine gp_V (ci := 9) (q0 := 0) (cq := (RX9, TX9, 15)) (c_X9_fails l D cI cZ cF cL mr rf st ln 0 pl hs vs dg xx 2 ) (gUV u_175 u_176 u_177 u_5 u_178) rfl hdV_X9_fails ⟨Nat.le_of_ble_eq_true rfl, Nat.le_of_ble_eq_true rfl⟩ ⟨rfl, rfl⟩ hx hb hml hown hts hK hA hP hD hS hl.1 ⟨Nat.le_of_ble_eq_true rfl, Nat.le_of_ble_eq_true rfl⟩ rfl rfl rfl (wr := (zaX cZ (rf 4) 2 zf)) (pm_cnt (fun _ => by simp only [List.countP_append, List.countP_nil, fT] <;> omega)) (fun _ => by simp only [List.map_append, List.map_nil, fX_m, bX_m, sX_m, pX_m, iaX_m, r5X_m, r6X_m, fT_m, hX_m, tX_m, xX_m, sgX_m, zaX_m, fsB_a, qX_m, mX_m]) (rest := []) rfl rfl (Nat.le_of_ble_eq_true rfl) dX9_restore_31 (ws2 := (fun _ : Unit => (mX mr rf st ln 2 pl hs vs dg xx ++ zaX cZ (rf 4) 2 zf))) (fun _ => (pm_cnt (fun _ => by simp only [List.countP_append, List.countP_nil, fT] <;> omega))) (fun _ Hp locs hP hD hS => ?_)
      exact ct_i () hx hb hr hlocks hP hS rfl dX9_restore_34
  · skip
    replace c_11 := cb_z c_11
    (exact absurd ((in_n (by omega) (by decide) (by decide)).mpr ⟨by omega, by omega⟩) c_11)
