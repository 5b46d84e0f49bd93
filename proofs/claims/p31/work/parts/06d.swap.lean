set_option maxHeartbeats 4000000 in
set_option maxRecDepth 100000 in
theorem c_X7_number (l : Launch) (D : va_G) (cI cZ cF cL : ClassId) (s0 : Nat) (x1 x2 x3 x4 x5 : Nat)  : CT l D (tysX cI cZ cF cL) yX7_number (wA yX7_number cX7_number 1 (some .int)) (rmF 0 0) [.ref s0] (sX s0 x1 x2 x3 x4 x5) (some (.int (nI (1000 * x1 + 100 * x2 + 10 * x3 + x4)))) (fun _ : Unit => (sX s0 x1 x2 x3 x4 x5)) := by
  refine ct_in (cc := cX7_number) (maxL := 1) (ret := (some .int)) (own := RX7) (lv := [(0, .ref s0)]) (by decide +kernel) rfl rfl (Nat.le_of_ble_eq_true rfl) rfl ?_
  intro p e s m args below meth c A ls hx hb hr hml hts hown hlocks hK hA hP hD hS hl
  refine lv_sipush (v := (nI 1000)) hx hb dX7_number_0 (by decide +kernel) ?_
  refine lv_aload_n hx hb dX7_number_3 rfl (lv_at hl 0 rfl) ?_
  refine gf_n (C := RX7) (T := TX7) (N := 5) (ci := 7) (q0 := 0) (v := .int (nI x1)) hx hb hts (iU inlX7) hown hK hP rfl rfl 0 (by decide) (kU u_626) rfl rfl dX7_number_4 ?_
  refine lv_imul hx hb dX7_number_7 ?_
  rw [pk_mul 1000 x1]
  refine lv_bipush (v := (nI 100)) hx hb dX7_number_8 (by decide) ?_
  refine lv_aload_n hx hb dX7_number_10 rfl (lv_at hl 0 rfl) ?_
  refine gf_n (C := RX7) (T := TX7) (N := 5) (ci := 7) (q0 := 0) (v := .int (nI x2)) hx hb hts (iU inlX7) hown hK hP rfl rfl 1 (by decide) (kU u_627) rfl rfl dX7_number_11 ?_
  refine lv_imul hx hb dX7_number_14 ?_
  rw [pk_mul 100 x2]
  refine lv_iadd hx hb dX7_number_15 ?_
  rw [nI_add (1000 * x1) (100 * x2)]
  refine lv_bipush (v := (nI 10)) hx hb dX7_number_16 (by decide) ?_
  refine lv_aload_n hx hb dX7_number_18 rfl (lv_at hl 0 rfl) ?_
  refine gf_n (C := RX7) (T := TX7) (N := 5) (ci := 7) (q0 := 0) (v := .int (nI x3)) hx hb hts (iU inlX7) hown hK hP rfl rfl 2 (by decide) (kU u_628) rfl rfl dX7_number_19 ?_
  refine lv_imul hx hb dX7_number_22 ?_
  rw [pk_mul 10 x3]
  refine lv_iadd hx hb dX7_number_23 ?_
  rw [nI_add ((1000 * x1) + (100 * x2)) (10 * x3)]
  refine lv_aload_n hx hb dX7_number_24 rfl (lv_at hl 0 rfl) ?_
  refine gf_n (C := RX7) (T := TX7) (N := 5) (ci := 7) (q0 := 0) (v := .int (nI x4)) hx hb hts (iU inlX7) hown hK hP rfl rfl 3 (by decide) (kU u_629) rfl rfl dX7_number_25 ?_
  refine lv_iadd hx hb dX7_number_28 ?_
  rw [nI_add (((1000 * x1) + (100 * x2)) + (10 * x3)) x4]
  exact ct_i () hx hb hr hlocks hP hS rfl dX7_number_29

