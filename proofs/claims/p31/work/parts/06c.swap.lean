set_option maxHeartbeats 4000000 in
set_option maxRecDepth 100000 in
theorem c_X7_makeIn (l : Launch) (D : va_G) (cI cZ cF cL : ClassId) (s0 : Nat) (x1 x2 x3 x4 x5 : Nat) (a : Nat → Nat) (nH nV wk ea gi sw : Nat) (f1 f2 f3 f4 f5 f6 f7 f8 : Nat → Nat) (h12 : x1 < x2) (h26 : x2 < 6) (h35 : x3 < 5) (h45 : x4 < 5) (h34 : x3 ≠ x4) (hp1 : 0 < f8 (x1 * 5 + x3)) (hp2 : 0 < f8 (x2 * 5 + x4)) : CT l D (tysX cI cZ cF cL) yX7_makeIn (wA yX7_makeIn cX7_makeIn 2 none) (rmF 1 21) [.ref s0, .ref (a 0)] (sX s0 x1 x2 x3 x4 x5 ++ fX cI a nH nV wk ea gi sw f1 f2 f3 f4 f5 f6 f7 f8) (none : Option Value) (fun _ : Unit => (sX s0 x1 x2 x3 x4 x5 ++ fX cI a nH nV wk ea gi sw f1 f2 f3 f4 f5 f6 f7 (swK f8 x1 x2 x3 x4))) := by
  refine ct_in (cc := cX7_makeIn) (maxL := 2) (ret := none) (own := RX7) (lv := [(0, .ref s0), (1, .ref (a 0))]) (by decide +kernel) rfl rfl (Nat.le_of_ble_eq_true rfl) rfl ?_
  intro p e s m args below meth c A ls hx hb hr hml hts hown hlocks hK hA hP hD hS hl
  refine lv_aload_n hx hb dX7_makeIn_0 rfl (lv_at hl 1 rfl) ?_
  refine gf_n (C := RX1) (T := TX1) (N := 14) (ci := 1) (q0 := 1) (v := .ref (a 8)) hx hb hts (iU inlX1) hown hK hP rfl rfl 13 (by decide) (kU u_624) rfl rfl dX7_makeIn_1 ?_
  refine lv_aload_n hx hb dX7_makeIn_4 rfl (lv_at hl 0 rfl) ?_
  refine gf_n (C := RX7) (T := TX7) (N := 5) (ci := 7) (q0 := 0) (v := .int (nI x1)) hx hb hts (iU inlX7) hown hK hP rfl rfl 0 (by decide) (kU u_626) rfl rfl dX7_makeIn_5 ?_
  refine lv_aload_n hx hb dX7_makeIn_8 rfl (lv_at hl 0 rfl) ?_
  refine gf_n (C := RX7) (T := TX7) (N := 5) (ci := 7) (q0 := 0) (v := .int (nI x3)) hx hb hts (iU inlX7) hown hK hP rfl rfl 2 (by decide) (kU u_628) rfl rfl dX7_makeIn_9 ?_
  refine go_SN (ni := 8) (c_X8_cell l D cI cZ cF cL x1 x3 ) (gU u_245) rfl hdS_X8_cell ⟨Nat.le_of_ble_eq_true rfl, Nat.le_of_ble_eq_true rfl⟩ ⟨rfl, rfl⟩ rfl (hts _ (kU u_2)) (hts _ (kU u_244)) hx hb hml hown hts hK hA hP hD hS hl.1 ⟨Nat.le_of_ble_eq_true rfl, Nat.le_of_ble_eq_true rfl⟩ [] rfl rfl (fun _ => rfl) (rest := [.ref (a 8)]) rfl rfl (Nat.le_of_ble_eq_true rfl) dX7_makeIn_12 (ws2 := (fun _ : Unit => (sX s0 x1 x2 x3 x4 x5 ++ fX cI a nH nV wk ea gi sw f1 f2 f3 f4 f5 f6 f7 f8))) (fun _ => rfl) (fun _ Hp locs hP hD hS => ?_)
  refine lv_dup2_11 hx hb dX7_makeIn_15 rfl rfl ?_
  refine ia_n (q0 := 9) (t0 := 0) hx hb hK hP rfl rfl (by omega) (by decide) dX7_makeIn_16 ?_
  refine lv_iconst (v := (nI 1)) hx hb dX7_makeIn_17 (by decide) ?_
  refine lv_isub hx hb dX7_makeIn_18 ?_
  rw [pk_sub (a := f8 (x1 * 5 + x3)) (b := 1) hp1]
  refine is_n (q0 := 9) (t0 := 0) (ws2 := (sX s0 x1 x2 x3 x4 x5 ++ fX cI a nH nV wk ea gi sw f1 f2 f3 f4 f5 f6 f7 (va_up f8 (x1 * 5 + x3) ((f8 (x1 * 5 + x3)) - 1)))) hx hb hK hP hD hS rfl rfl (by omega) (by decide) dX7_makeIn_19 rfl (fun Hp locs hP hD hS => ?_)
  refine lv_aload_n hx hb dX7_makeIn_20 rfl (lv_at hl 1 rfl) ?_
  refine gf_n (C := RX1) (T := TX1) (N := 14) (ci := 1) (q0 := 1) (v := .ref (a 8)) hx hb hts (iU inlX1) hown hK hP rfl rfl 13 (by decide) (kU u_624) rfl rfl dX7_makeIn_21 ?_
  refine lv_aload_n hx hb dX7_makeIn_24 rfl (lv_at hl 0 rfl) ?_
  refine gf_n (C := RX7) (T := TX7) (N := 5) (ci := 7) (q0 := 0) (v := .int (nI x2)) hx hb hts (iU inlX7) hown hK hP rfl rfl 1 (by decide) (kU u_627) rfl rfl dX7_makeIn_25 ?_
  refine lv_aload_n hx hb dX7_makeIn_28 rfl (lv_at hl 0 rfl) ?_
  refine gf_n (C := RX7) (T := TX7) (N := 5) (ci := 7) (q0 := 0) (v := .int (nI x3)) hx hb hts (iU inlX7) hown hK hP rfl rfl 2 (by decide) (kU u_628) rfl rfl dX7_makeIn_29 ?_
  refine go_SN (ni := 8) (c_X8_cell l D cI cZ cF cL x2 x3 ) (gU u_245) rfl hdS_X8_cell ⟨Nat.le_of_ble_eq_true rfl, Nat.le_of_ble_eq_true rfl⟩ ⟨rfl, rfl⟩ rfl (hts _ (kU u_2)) (hts _ (kU u_244)) hx hb hml hown hts hK hA hP hD hS hl.1 ⟨Nat.le_of_ble_eq_true rfl, Nat.le_of_ble_eq_true rfl⟩ [] rfl rfl (fun _ => rfl) (rest := [.ref (a 8)]) rfl rfl (Nat.le_of_ble_eq_true rfl) dX7_makeIn_32 (ws2 := (fun _ : Unit => (sX s0 x1 x2 x3 x4 x5 ++ fX cI a nH nV wk ea gi sw f1 f2 f3 f4 f5 f6 f7 (va_up f8 (x1 * 5 + x3) ((f8 (x1 * 5 + x3)) - 1))))) (fun _ => rfl) (fun _ Hp locs hP hD hS => ?_)
  refine lv_dup2_11 hx hb dX7_makeIn_35 rfl rfl ?_
  refine ia_n (q0 := 9) (t0 := 0) hx hb hK hP rfl rfl (by omega) (by decide) dX7_makeIn_36 ?_
  refine lv_iconst (v := (nI 1)) hx hb dX7_makeIn_37 (by decide) ?_
  refine lv_iadd hx hb dX7_makeIn_38 ?_
  rw [nI_add ((va_up f8 (x1 * 5 + x3) ((f8 (x1 * 5 + x3)) - 1)) (x2 * 5 + x3)) 1]
  refine is_n (q0 := 9) (t0 := 0) (ws2 := (sX s0 x1 x2 x3 x4 x5 ++ fX cI a nH nV wk ea gi sw f1 f2 f3 f4 f5 f6 f7 (va_up (va_up f8 (x1 * 5 + x3) ((f8 (x1 * 5 + x3)) - 1)) (x2 * 5 + x3) (((va_up f8 (x1 * 5 + x3) ((f8 (x1 * 5 + x3)) - 1)) (x2 * 5 + x3)) + 1)))) hx hb hK hP hD hS rfl rfl (by omega) (by decide) dX7_makeIn_39 rfl (fun Hp locs hP hD hS => ?_)
  refine lv_aload_n hx hb dX7_makeIn_40 rfl (lv_at hl 1 rfl) ?_
  refine gf_n (C := RX1) (T := TX1) (N := 14) (ci := 1) (q0 := 1) (v := .ref (a 8)) hx hb hts (iU inlX1) hown hK hP rfl rfl 13 (by decide) (kU u_624) rfl rfl dX7_makeIn_41 ?_
  refine lv_aload_n hx hb dX7_makeIn_44 rfl (lv_at hl 0 rfl) ?_
  refine gf_n (C := RX7) (T := TX7) (N := 5) (ci := 7) (q0 := 0) (v := .int (nI x2)) hx hb hts (iU inlX7) hown hK hP rfl rfl 1 (by decide) (kU u_627) rfl rfl dX7_makeIn_45 ?_
  refine lv_aload_n hx hb dX7_makeIn_48 rfl (lv_at hl 0 rfl) ?_
  refine gf_n (C := RX7) (T := TX7) (N := 5) (ci := 7) (q0 := 0) (v := .int (nI x4)) hx hb hts (iU inlX7) hown hK hP rfl rfl 3 (by decide) (kU u_629) rfl rfl dX7_makeIn_49 ?_
  refine go_SN (ni := 8) (c_X8_cell l D cI cZ cF cL x2 x4 ) (gU u_245) rfl hdS_X8_cell ⟨Nat.le_of_ble_eq_true rfl, Nat.le_of_ble_eq_true rfl⟩ ⟨rfl, rfl⟩ rfl (hts _ (kU u_2)) (hts _ (kU u_244)) hx hb hml hown hts hK hA hP hD hS hl.1 ⟨Nat.le_of_ble_eq_true rfl, Nat.le_of_ble_eq_true rfl⟩ [] rfl rfl (fun _ => rfl) (rest := [.ref (a 8)]) rfl rfl (Nat.le_of_ble_eq_true rfl) dX7_makeIn_52 (ws2 := (fun _ : Unit => (sX s0 x1 x2 x3 x4 x5 ++ fX cI a nH nV wk ea gi sw f1 f2 f3 f4 f5 f6 f7 (va_up (va_up f8 (x1 * 5 + x3) ((f8 (x1 * 5 + x3)) - 1)) (x2 * 5 + x3) (((va_up f8 (x1 * 5 + x3) ((f8 (x1 * 5 + x3)) - 1)) (x2 * 5 + x3)) + 1))))) (fun _ => rfl) (fun _ Hp locs hP hD hS => ?_)
  refine lv_dup2_11 hx hb dX7_makeIn_55 rfl rfl ?_
  refine ia_n (q0 := 9) (t0 := 0) hx hb hK hP rfl rfl (by omega) (by decide) dX7_makeIn_56 ?_
  refine lv_iconst (v := (nI 1)) hx hb dX7_makeIn_57 (by decide) ?_
  refine lv_isub hx hb dX7_makeIn_58 ?_
  rw [pk_sub (a := (va_up (va_up f8 (x1 * 5 + x3) ((f8 (x1 * 5 + x3)) - 1)) (x2 * 5 + x3) (((va_up f8 (x1 * 5 + x3) ((f8 (x1 * 5 + x3)) - 1)) (x2 * 5 + x3)) + 1)) (x2 * 5 + x4)) (b := 1) (by rw [up_n (by omega), up_n (by omega)]; exact hp2)]
  refine is_n (q0 := 9) (t0 := 0) (ws2 := (sX s0 x1 x2 x3 x4 x5 ++ fX cI a nH nV wk ea gi sw f1 f2 f3 f4 f5 f6 f7 (va_up (va_up (va_up f8 (x1 * 5 + x3) ((f8 (x1 * 5 + x3)) - 1)) (x2 * 5 + x3) (((va_up f8 (x1 * 5 + x3) ((f8 (x1 * 5 + x3)) - 1)) (x2 * 5 + x3)) + 1)) (x2 * 5 + x4) (((va_up (va_up f8 (x1 * 5 + x3) ((f8 (x1 * 5 + x3)) - 1)) (x2 * 5 + x3) (((va_up f8 (x1 * 5 + x3) ((f8 (x1 * 5 + x3)) - 1)) (x2 * 5 + x3)) + 1)) (x2 * 5 + x4)) - 1)))) hx hb hK hP hD hS rfl rfl (by omega) (by decide) dX7_makeIn_59 rfl (fun Hp locs hP hD hS => ?_)
  refine lv_aload_n hx hb dX7_makeIn_60 rfl (lv_at hl 1 rfl) ?_
  refine gf_n (C := RX1) (T := TX1) (N := 14) (ci := 1) (q0 := 1) (v := .ref (a 8)) hx hb hts (iU inlX1) hown hK hP rfl rfl 13 (by decide) (kU u_624) rfl rfl dX7_makeIn_61 ?_
  refine lv_aload_n hx hb dX7_makeIn_64 rfl (lv_at hl 0 rfl) ?_
  refine gf_n (C := RX7) (T := TX7) (N := 5) (ci := 7) (q0 := 0) (v := .int (nI x1)) hx hb hts (iU inlX7) hown hK hP rfl rfl 0 (by decide) (kU u_626) rfl rfl dX7_makeIn_65 ?_
  refine lv_aload_n hx hb dX7_makeIn_68 rfl (lv_at hl 0 rfl) ?_
  refine gf_n (C := RX7) (T := TX7) (N := 5) (ci := 7) (q0 := 0) (v := .int (nI x4)) hx hb hts (iU inlX7) hown hK hP rfl rfl 3 (by decide) (kU u_629) rfl rfl dX7_makeIn_69 ?_
  refine go_SN (ni := 8) (c_X8_cell l D cI cZ cF cL x1 x4 ) (gU u_245) rfl hdS_X8_cell ⟨Nat.le_of_ble_eq_true rfl, Nat.le_of_ble_eq_true rfl⟩ ⟨rfl, rfl⟩ rfl (hts _ (kU u_2)) (hts _ (kU u_244)) hx hb hml hown hts hK hA hP hD hS hl.1 ⟨Nat.le_of_ble_eq_true rfl, Nat.le_of_ble_eq_true rfl⟩ [] rfl rfl (fun _ => rfl) (rest := [.ref (a 8)]) rfl rfl (Nat.le_of_ble_eq_true rfl) dX7_makeIn_72 (ws2 := (fun _ : Unit => (sX s0 x1 x2 x3 x4 x5 ++ fX cI a nH nV wk ea gi sw f1 f2 f3 f4 f5 f6 f7 (va_up (va_up (va_up f8 (x1 * 5 + x3) ((f8 (x1 * 5 + x3)) - 1)) (x2 * 5 + x3) (((va_up f8 (x1 * 5 + x3) ((f8 (x1 * 5 + x3)) - 1)) (x2 * 5 + x3)) + 1)) (x2 * 5 + x4) (((va_up (va_up f8 (x1 * 5 + x3) ((f8 (x1 * 5 + x3)) - 1)) (x2 * 5 + x3) (((va_up f8 (x1 * 5 + x3) ((f8 (x1 * 5 + x3)) - 1)) (x2 * 5 + x3)) + 1)) (x2 * 5 + x4)) - 1))))) (fun _ => rfl) (fun _ Hp locs hP hD hS => ?_)
  refine lv_dup2_11 hx hb dX7_makeIn_75 rfl rfl ?_
  refine ia_n (q0 := 9) (t0 := 0) hx hb hK hP rfl rfl (by omega) (by decide) dX7_makeIn_76 ?_
  refine lv_iconst (v := (nI 1)) hx hb dX7_makeIn_77 (by decide) ?_
  refine lv_iadd hx hb dX7_makeIn_78 ?_
  rw [nI_add ((va_up (va_up (va_up f8 (x1 * 5 + x3) ((f8 (x1 * 5 + x3)) - 1)) (x2 * 5 + x3) (((va_up f8 (x1 * 5 + x3) ((f8 (x1 * 5 + x3)) - 1)) (x2 * 5 + x3)) + 1)) (x2 * 5 + x4) (((va_up (va_up f8 (x1 * 5 + x3) ((f8 (x1 * 5 + x3)) - 1)) (x2 * 5 + x3) (((va_up f8 (x1 * 5 + x3) ((f8 (x1 * 5 + x3)) - 1)) (x2 * 5 + x3)) + 1)) (x2 * 5 + x4)) - 1)) (x1 * 5 + x4)) 1]
  refine is_n (q0 := 9) (t0 := 0) (ws2 := (sX s0 x1 x2 x3 x4 x5 ++ fX cI a nH nV wk ea gi sw f1 f2 f3 f4 f5 f6 f7 (va_up (va_up (va_up (va_up f8 (x1 * 5 + x3) ((f8 (x1 * 5 + x3)) - 1)) (x2 * 5 + x3) (((va_up f8 (x1 * 5 + x3) ((f8 (x1 * 5 + x3)) - 1)) (x2 * 5 + x3)) + 1)) (x2 * 5 + x4) (((va_up (va_up f8 (x1 * 5 + x3) ((f8 (x1 * 5 + x3)) - 1)) (x2 * 5 + x3) (((va_up f8 (x1 * 5 + x3) ((f8 (x1 * 5 + x3)) - 1)) (x2 * 5 + x3)) + 1)) (x2 * 5 + x4)) - 1)) (x1 * 5 + x4) (((va_up (va_up (va_up f8 (x1 * 5 + x3) ((f8 (x1 * 5 + x3)) - 1)) (x2 * 5 + x3) (((va_up f8 (x1 * 5 + x3) ((f8 (x1 * 5 + x3)) - 1)) (x2 * 5 + x3)) + 1)) (x2 * 5 + x4) (((va_up (va_up f8 (x1 * 5 + x3) ((f8 (x1 * 5 + x3)) - 1)) (x2 * 5 + x3) (((va_up f8 (x1 * 5 + x3) ((f8 (x1 * 5 + x3)) - 1)) (x2 * 5 + x3)) + 1)) (x2 * 5 + x4)) - 1)) (x1 * 5 + x4)) + 1)))) hx hb hK hP hD hS rfl rfl (by omega) (by decide) dX7_makeIn_79 rfl (fun Hp locs hP hD hS => ?_)
  exact ct_v () hx hb hr hlocks hP hS dX7_makeIn_80

