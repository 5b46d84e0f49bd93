set_option maxRecDepth 20000 in
theorem u_218 : Cond.code yX2_readsHouse cX2_readsHouse 4 (some .boolean) ∈ wsL_law := List.mem_of_getElem? (i := 218) (by decide +kernel)
set_option maxRecDepth 20000 in
theorem u_215 : Cond.methodLink RX2 38 yX2_readsHouse ∈ wsL_law := List.mem_of_getElem? (i := 215) (by decide +kernel)
set_option maxRecDepth 20000 in
theorem u_216 : Cond.instanceMethod yX2_readsHouse ∈ wsL_law := List.mem_of_getElem? (i := 216) (by decide +kernel)
set_option maxRecDepth 20000 in
theorem u_217 : Cond.selects RX2 yX2_readsHouse yX2_readsHouse ∈ wsL_law := List.mem_of_getElem? (i := 217) (by decide +kernel)
set_option maxRecDepth 20000 in
theorem u_242 : Cond.code yX2_readsLiking cX2_readsLiking 5 (some .boolean) ∈ wsL_law := List.mem_of_getElem? (i := 242) (by decide +kernel)
set_option maxRecDepth 20000 in
theorem u_239 : Cond.methodLink RX2 47 yX2_readsLiking ∈ wsL_law := List.mem_of_getElem? (i := 239) (by decide +kernel)
set_option maxRecDepth 20000 in
theorem u_240 : Cond.instanceMethod yX2_readsLiking ∈ wsL_law := List.mem_of_getElem? (i := 240) (by decide +kernel)
set_option maxRecDepth 20000 in
theorem u_241 : Cond.selects RX2 yX2_readsLiking yX2_readsLiking ∈ wsL_law := List.mem_of_getElem? (i := 241) (by decide +kernel)
set_option maxRecDepth 20000 in
theorem u_249 : Cond.code yX2_readsSkip cX2_readsSkip 3 (some .boolean) ∈ wsL_law := List.mem_of_getElem? (i := 249) (by decide +kernel)
set_option maxRecDepth 20000 in
theorem u_246 : Cond.methodLink RX2 50 yX2_readsSkip ∈ wsL_law := List.mem_of_getElem? (i := 246) (by decide +kernel)
set_option maxRecDepth 20000 in
theorem u_247 : Cond.instanceMethod yX2_readsSkip ∈ wsL_law := List.mem_of_getElem? (i := 247) (by decide +kernel)
set_option maxRecDepth 20000 in
theorem u_248 : Cond.selects RX2 yX2_readsSkip yX2_readsSkip ∈ wsL_law := List.mem_of_getElem? (i := 248) (by decide +kernel)
set_option maxRecDepth 20000 in
theorem u_230 : Cond.code yX2_readsVegetable cX2_readsVegetable 4 (some .boolean) ∈ wsL_law := List.mem_of_getElem? (i := 230) (by decide +kernel)
set_option maxRecDepth 20000 in
theorem u_227 : Cond.methodLink RX2 44 yX2_readsVegetable ∈ wsL_law := List.mem_of_getElem? (i := 227) (by decide +kernel)
set_option maxRecDepth 20000 in
theorem u_228 : Cond.instanceMethod yX2_readsVegetable ∈ wsL_law := List.mem_of_getElem? (i := 228) (by decide +kernel)
set_option maxRecDepth 20000 in
theorem u_229 : Cond.selects RX2 yX2_readsVegetable yX2_readsVegetable ∈ wsL_law := List.mem_of_getElem? (i := 229) (by decide +kernel)
theorem hdV_X2_readsHouse : yX2_readsHouse.cls = RX2 ∧ yX2_readsHouse.cls ≠ "java/lang/invoke/MethodHandle" ∧ yX2_readsHouse.cls ≠ "java/lang/invoke/VarHandle" ∧ (parseMethodDescriptor yX2_readsHouse.desc).map (fun d => d.parameters.length) = some 1 := by decide +kernel
theorem hdV_X2_readsLiking : yX2_readsLiking.cls = RX2 ∧ yX2_readsLiking.cls ≠ "java/lang/invoke/MethodHandle" ∧ yX2_readsLiking.cls ≠ "java/lang/invoke/VarHandle" ∧ (parseMethodDescriptor yX2_readsLiking.desc).map (fun d => d.parameters.length) = some 1 := by decide +kernel
theorem hdV_X2_readsSkip : yX2_readsSkip.cls = RX2 ∧ yX2_readsSkip.cls ≠ "java/lang/invoke/MethodHandle" ∧ yX2_readsSkip.cls ≠ "java/lang/invoke/VarHandle" ∧ (parseMethodDescriptor yX2_readsSkip.desc).map (fun d => d.parameters.length) = some 1 := by decide +kernel
theorem hdV_X2_readsVegetable : yX2_readsVegetable.cls = RX2 ∧ yX2_readsVegetable.cls ≠ "java/lang/invoke/MethodHandle" ∧ yX2_readsVegetable.cls ≠ "java/lang/invoke/VarHandle" ∧ (parseMethodDescriptor yX2_readsVegetable.desc).map (fun d => d.parameters.length) = some 1 := by decide +kernel
set_option maxHeartbeats 4000000 in
set_option maxRecDepth 100000 in
theorem c_X2_readsPart (l : Launch) (D : va_G) (cI cZ cF cL : ClassId) (a : Nat → Nat) (nH nV wk ea gi sw : Nat) (f1 f2 f3 f4 f5 f6 f7 f8 : Nat → Nat) (t : Nat → Nat) (X : Nat → Nat) (L pl : Nat) (hL : L ≤ 120) (hX : ∀ k, k < 120 → X k < 256) (hp : pl < 120) (hH : nH ≤ 6) (hV : nV ≤ 5) (hpL : pl < L) : CT l D (tysX cI cZ cF cL) yX2_readsPart (wA yX2_readsPart cX2_readsPart 2 (some .boolean)) (rmF 3 67) [.ref (t 0), .ref (a 0)] (tX cI t X L pl ++ fX cI a nH nV wk ea gi sw f1 f2 f3 f4 f5 f6 f7 f8) (some (.int (if ((rpP X L pl nH nV f1 f2 f4 f5 f7).1 = true) then 1 else 0))) (fun _ : Unit => (tX cI t X L ((rpP X L pl nH nV f1 f2 f4 f5 f7).2.1) ++ fX cI a ((rpP X L pl nH nV f1 f2 f4 f5 f7).2.2.1) ((rpP X L pl nH nV f1 f2 f4 f5 f7).2.2.2.1) wk ea gi sw ((rpP X L pl nH nV f1 f2 f4 f5 f7).2.2.2.2.1) ((rpP X L pl nH nV f1 f2 f4 f5 f7).2.2.2.2.2.1) f3 ((rpP X L pl nH nV f1 f2 f4 f5 f7).2.2.2.2.2.2.1) ((rpP X L pl nH nV f1 f2 f4 f5 f7).2.2.2.2.2.2.2.1) f6 ((rpP X L pl nH nV f1 f2 f4 f5 f7).2.2.2.2.2.2.2.2) f8)) := by
  refine ct_in (cc := cX2_readsPart) (maxL := 2) (ret := (some .boolean)) (own := RX2) (lv := [(0, .ref (t 0)), (1, .ref (a 0))]) (by decide +kernel) rfl rfl (Nat.le_of_ble_eq_true rfl) rfl ?_
  intro p e s m args below meth c A ls hx hb hr hml hts hown hlocks hK hA hP hD hS hl
  refine lv_aload_n hx hb dX2_readsPart_0 rfl (lv_at hl 0 rfl) ?_
  refine go_V (ci := 2) (q0 := 0) (cq := (RX2, TX2, 3)) (c_X2_nextSign l D cI cZ cF cL t X L pl (by omega) (by omega)) (gUV u_205 u_206 u_207 u_16 u_208) rfl hdV_X2_nextSign ⟨Nat.le_of_ble_eq_true rfl, Nat.le_of_ble_eq_true rfl⟩ ⟨rfl, rfl⟩ hx hb hml hown hts hK hA hP hD hS hl.1 ⟨Nat.le_of_ble_eq_true rfl, Nat.le_of_ble_eq_true rfl⟩ rfl rfl rfl [0, 1] rfl rfl (fun _ => rfl) (rest := []) rfl rfl (Nat.le_of_ble_eq_true rfl) dX2_readsPart_1 (ws2 := (fun _ : Unit => (tX cI t X L pl ++ fX cI a nH nV wk ea gi sw f1 f2 f3 f4 f5 f6 f7 f8))) (fun _ => rfl) (fun _ Hp locs hP hD hS => ?_)
  rw [show (if pl < L then nI (X pl) else (-9)) = (nI (X pl)) from (by rw [if_pos hpL])]
  have hx8 := hX pl hp
  by_cases c_4_104 : X pl = 104
  · skip
    refine lv_lookup (off := 44) (tgt := 48) hx hb dX2_readsPart_4 (by decide +kernel) (by rw [c_4_104]; decide +kernel) (by decide) ?_
    refine lv_aload_n hx hb dX2_readsPart_48 rfl (lv_at hl 1 rfl) ?_
    refine gf_n (C := RX1) (T := TX1) (N := 14) (ci := 1) (q0 := 2) (v := .int (nI nH)) hx hb hts (iU inlX1) hown hK hP rfl rfl 0 (by decide) (kU u_213) rfl rfl dX2_readsPart_49 ?_
    refine lv_bipush (v := (nI 6)) hx hb dX2_readsPart_52 (by decide) ?_
    refine lv_icmp_ge (tgt := 69) hx hb dX2_readsPart_54 (by decide) (fun c_54 => ?_) (fun c_54 => ?_)
    · skip
      replace c_54 := cn_le (by omega) (by omega) c_54
      have hE : rpP X L pl nH nV f1 f2 f4 f5 f7 = (false, pl, nH, nV, f1, f2, f4, f5, f7) := by unfold rpP; rw [if_neg (by omega), if_neg (by omega), if_neg (by omega), if_neg (by omega)]
      refine lv_iconst (v := (nI 0)) hx hb dX2_readsPart_69 (by decide) ?_
      exact ct_z () hx hb hr hlocks (by rw [hE]; exact hP) hS (by first | exact z_t (by rw [hE]; exact c_62) | exact z_f (by rw [hE]; exact c_62) | exact z_f (by rw [hE]; exact Bool.false_ne_true)) dX2_readsPart_70
    · skip
      replace c_54 := cn_nle (by omega) (by omega) c_54
      have hE : rpP X L pl nH nV f1 f2 f4 f5 f7 = rpH X L pl nH nV f1 f2 f4 f5 f7 := by unfold rpP; rw [if_pos (by omega)]
      refine lv_aload_n hx hb dX2_readsPart_57 rfl (lv_at hl 0 rfl) ?_
      refine lv_aload_n hx hb dX2_readsPart_58 rfl (lv_at hl 1 rfl) ?_
      refine go_V (ci := 2) (q0 := 0) (cq := (RX2, TX2, 3)) (c_X2_readsHouse l D cI cZ cF cL a nH nV wk ea gi sw f1 f2 f3 f4 f5 f6 f7 f8 t X L pl (by omega) hX (by omega) (by omega) (by omega) (by omega)) (gUV u_215 u_216 u_217 u_16 u_218) rfl hdV_X2_readsHouse ⟨Nat.le_of_ble_eq_true rfl, Nat.le_of_ble_eq_true rfl⟩ ⟨rfl, rfl⟩ hx hb hml hown hts hK hA hP hD hS hl.1 ⟨Nat.le_of_ble_eq_true rfl, Nat.le_of_ble_eq_true rfl⟩ rfl rfl rfl [0, 1, 2, 3, 4, 5, 6, 7, 8, 9, 10] rfl rfl (fun _ => rfl) (rest := []) rfl rfl (Nat.le_of_ble_eq_true rfl) dX2_readsPart_59 (ws2 := (fun _ : Unit => (tX cI t X L ((rpH X L pl nH nV f1 f2 f4 f5 f7).2.1) ++ fX cI a ((rpH X L pl nH nV f1 f2 f4 f5 f7).2.2.1) ((rpH X L pl nH nV f1 f2 f4 f5 f7).2.2.2.1) wk ea gi sw ((rpH X L pl nH nV f1 f2 f4 f5 f7).2.2.2.2.1) ((rpH X L pl nH nV f1 f2 f4 f5 f7).2.2.2.2.2.1) f3 ((rpH X L pl nH nV f1 f2 f4 f5 f7).2.2.2.2.2.2.1) ((rpH X L pl nH nV f1 f2 f4 f5 f7).2.2.2.2.2.2.2.1) f6 ((rpH X L pl nH nV f1 f2 f4 f5 f7).2.2.2.2.2.2.2.2) f8))) (fun _ => rfl) (fun _ Hp locs hP hD hS => ?_)
      refine lv_if_eq (tgt := 69) hx hb dX2_readsPart_62 (by decide) (fun c_62 => ?_) (fun c_62 => ?_)
      · skip
        replace c_62 := cb_z c_62
        refine lv_iconst (v := (nI 0)) hx hb dX2_readsPart_69 (by decide) ?_
        exact ct_z () hx hb hr hlocks (by rw [hE]; exact hP) hS (by first | exact z_t (by rw [hE]; exact c_62) | exact z_f (by rw [hE]; exact c_62) | exact z_f (by rw [hE]; exact Bool.false_ne_true)) dX2_readsPart_70
      · skip
        replace c_62 := cb_nz c_62
        refine lv_iconst (v := (nI 1)) hx hb dX2_readsPart_65 (by decide) ?_
        refine lv_goto (tgt := 70) hx hb dX2_readsPart_66 (by decide) ?_
        exact ct_z () hx hb hr hlocks (by rw [hE]; exact hP) hS (by first | exact z_t (by rw [hE]; exact c_62) | exact z_f (by rw [hE]; exact c_62) | exact z_f (by rw [hE]; exact Bool.false_ne_true)) dX2_readsPart_70
  by_cases c_4_108 : X pl = 108
  · skip
    refine lv_lookup (off := 89) (tgt := 93) hx hb dX2_readsPart_4 (by decide +kernel) (by rw [c_4_108]; decide +kernel) (by decide) ?_
    refine lv_aload_n hx hb dX2_readsPart_93 rfl (lv_at hl 1 rfl) ?_
    refine gf_n (C := RX1) (T := TX1) (N := 14) (ci := 1) (q0 := 2) (v := .int (nI nH)) hx hb hts (iU inlX1) hown hK hP rfl rfl 0 (by decide) (kU u_213) rfl rfl dX2_readsPart_94 ?_
    refine lv_if_le (tgt := 119) hx hb dX2_readsPart_97 (by decide) (fun c_97 => ?_) (fun c_97 => ?_)
    · skip
      replace c_97 := cn_le (b := 0) (by omega) (by omega) c_97
      have hE : rpP X L pl nH nV f1 f2 f4 f5 f7 = (false, pl, nH, nV, f1, f2, f4, f5, f7) := by unfold rpP; rw [if_neg (by omega), if_neg (by omega), if_neg (by omega), if_neg (by omega)]
      refine lv_iconst (v := (nI 0)) hx hb dX2_readsPart_119 (by decide) ?_
      exact ct_z () hx hb hr hlocks (by rw [hE]; exact hP) hS (by first | exact z_t (by rw [hE]; exact c_112) | exact z_f (by rw [hE]; exact c_112) | exact z_f (by rw [hE]; exact Bool.false_ne_true)) dX2_readsPart_120
    · skip
      replace c_97 := cn_nle (b := 0) (by omega) (by omega) c_97
      refine lv_aload_n hx hb dX2_readsPart_100 rfl (lv_at hl 1 rfl) ?_
      refine gf_n (C := RX1) (T := TX1) (N := 14) (ci := 1) (q0 := 2) (v := .int (nI nV)) hx hb hts (iU inlX1) hown hK hP rfl rfl 1 (by decide) (kU u_214) rfl rfl dX2_readsPart_101 ?_
      refine lv_if_le (tgt := 119) hx hb dX2_readsPart_104 (by decide) (fun c_104 => ?_) (fun c_104 => ?_)
      · skip
        replace c_104 := cn_le (b := 0) (by omega) (by omega) c_104
        have hE : rpP X L pl nH nV f1 f2 f4 f5 f7 = (false, pl, nH, nV, f1, f2, f4, f5, f7) := by unfold rpP; rw [if_neg (by omega), if_neg (by omega), if_neg (by omega), if_neg (by omega)]
        refine lv_iconst (v := (nI 0)) hx hb dX2_readsPart_119 (by decide) ?_
        exact ct_z () hx hb hr hlocks (by rw [hE]; exact hP) hS (by first | exact z_t (by rw [hE]; exact c_112) | exact z_f (by rw [hE]; exact c_112) | exact z_f (by rw [hE]; exact Bool.false_ne_true)) dX2_readsPart_120
      · skip
        replace c_104 := cn_nle (b := 0) (by omega) (by omega) c_104
        have hE : rpP X L pl nH nV f1 f2 f4 f5 f7 = rpL X L pl nH nV f1 f2 f4 f5 f7 := by unfold rpP; rw [if_neg (by omega), if_neg (by omega), if_pos (by omega)]
        refine lv_aload_n hx hb dX2_readsPart_107 rfl (lv_at hl 0 rfl) ?_
        refine lv_aload_n hx hb dX2_readsPart_108 rfl (lv_at hl 1 rfl) ?_
        refine go_V (ci := 2) (q0 := 0) (cq := (RX2, TX2, 3)) (c_X2_readsLiking l D cI cZ cF cL a nH nV wk ea gi sw f1 f2 f3 f4 f5 f6 f7 f8 t X L pl (by omega) hX (by omega) (by omega) (by omega) (by omega) (by omega)) (gUV u_239 u_240 u_241 u_16 u_242) rfl hdV_X2_readsLiking ⟨Nat.le_of_ble_eq_true rfl, Nat.le_of_ble_eq_true rfl⟩ ⟨rfl, rfl⟩ hx hb hml hown hts hK hA hP hD hS hl.1 ⟨Nat.le_of_ble_eq_true rfl, Nat.le_of_ble_eq_true rfl⟩ rfl rfl rfl [0, 1, 2, 3, 4, 5, 6, 7, 8, 9, 10] rfl rfl (fun _ => rfl) (rest := []) rfl rfl (Nat.le_of_ble_eq_true rfl) dX2_readsPart_109 (ws2 := (fun _ : Unit => (tX cI t X L ((rpL X L pl nH nV f1 f2 f4 f5 f7).2.1) ++ fX cI a ((rpL X L pl nH nV f1 f2 f4 f5 f7).2.2.1) ((rpL X L pl nH nV f1 f2 f4 f5 f7).2.2.2.1) wk ea gi sw ((rpL X L pl nH nV f1 f2 f4 f5 f7).2.2.2.2.1) ((rpL X L pl nH nV f1 f2 f4 f5 f7).2.2.2.2.2.1) f3 ((rpL X L pl nH nV f1 f2 f4 f5 f7).2.2.2.2.2.2.1) ((rpL X L pl nH nV f1 f2 f4 f5 f7).2.2.2.2.2.2.2.1) f6 ((rpL X L pl nH nV f1 f2 f4 f5 f7).2.2.2.2.2.2.2.2) f8))) (fun _ => rfl) (fun _ Hp locs hP hD hS => ?_)
        refine lv_if_eq (tgt := 119) hx hb dX2_readsPart_112 (by decide) (fun c_112 => ?_) (fun c_112 => ?_)
        · skip
          replace c_112 := cb_z c_112
          refine lv_iconst (v := (nI 0)) hx hb dX2_readsPart_119 (by decide) ?_
          exact ct_z () hx hb hr hlocks (by rw [hE]; exact hP) hS (by first | exact z_t (by rw [hE]; exact c_112) | exact z_f (by rw [hE]; exact c_112) | exact z_f (by rw [hE]; exact Bool.false_ne_true)) dX2_readsPart_120
        · skip
          replace c_112 := cb_nz c_112
          refine lv_iconst (v := (nI 1)) hx hb dX2_readsPart_115 (by decide) ?_
          refine lv_goto (tgt := 120) hx hb dX2_readsPart_116 (by decide) ?_
          exact ct_z () hx hb hr hlocks (by rw [hE]; exact hP) hS (by first | exact z_t (by rw [hE]; exact c_112) | exact z_f (by rw [hE]; exact c_112) | exact z_f (by rw [hE]; exact Bool.false_ne_true)) dX2_readsPart_120
  by_cases c_4_115 : X pl = 115
  · skip
    refine lv_lookup (off := 117) (tgt := 121) hx hb dX2_readsPart_4 (by decide +kernel) (by rw [c_4_115]; decide +kernel) (by decide) ?_
    refine lv_aload_n hx hb dX2_readsPart_121 rfl (lv_at hl 1 rfl) ?_
    refine gf_n (C := RX1) (T := TX1) (N := 14) (ci := 1) (q0 := 2) (v := .int (nI nH)) hx hb hts (iU inlX1) hown hK hP rfl rfl 0 (by decide) (kU u_213) rfl rfl dX2_readsPart_122 ?_
    refine lv_if_le (tgt := 140) hx hb dX2_readsPart_125 (by decide) (fun c_125 => ?_) (fun c_125 => ?_)
    · skip
      replace c_125 := cn_le (b := 0) (by omega) (by omega) c_125
      have hE : rpP X L pl nH nV f1 f2 f4 f5 f7 = (false, pl, nH, nV, f1, f2, f4, f5, f7) := by unfold rpP; rw [if_neg (by omega), if_neg (by omega), if_neg (by omega), if_neg (by omega)]
      refine lv_iconst (v := (nI 0)) hx hb dX2_readsPart_140 (by decide) ?_
      exact ct_z () hx hb hr hlocks (by rw [hE]; exact hP) hS (by first | exact z_t (by rw [hE]; exact c_133) | exact z_f (by rw [hE]; exact c_133) | exact z_f (by rw [hE]; exact Bool.false_ne_true)) dX2_readsPart_141
    · skip
      replace c_125 := cn_nle (b := 0) (by omega) (by omega) c_125
      have hE : rpP X L pl nH nV f1 f2 f4 f5 f7 = rpS X L pl nH nV f1 f2 f4 f5 f7 := by unfold rpP; rw [if_neg (by omega), if_neg (by omega), if_neg (by omega), if_pos (by omega)]
      refine lv_aload_n hx hb dX2_readsPart_128 rfl (lv_at hl 0 rfl) ?_
      refine lv_aload_n hx hb dX2_readsPart_129 rfl (lv_at hl 1 rfl) ?_
      refine go_V (ci := 2) (q0 := 0) (cq := (RX2, TX2, 3)) (c_X2_readsSkip l D cI cZ cF cL a nH nV wk ea gi sw f1 f2 f3 f4 f5 f6 f7 f8 t X L pl (by omega) hX (by omega) (by omega) (by omega) (by omega)) (gUV u_246 u_247 u_248 u_16 u_249) rfl hdV_X2_readsSkip ⟨Nat.le_of_ble_eq_true rfl, Nat.le_of_ble_eq_true rfl⟩ ⟨rfl, rfl⟩ hx hb hml hown hts hK hA hP hD hS hl.1 ⟨Nat.le_of_ble_eq_true rfl, Nat.le_of_ble_eq_true rfl⟩ rfl rfl rfl [0, 1, 2, 3, 4, 5, 6, 7, 8, 9, 10] rfl rfl (fun _ => rfl) (rest := []) rfl rfl (Nat.le_of_ble_eq_true rfl) dX2_readsPart_130 (ws2 := (fun _ : Unit => (tX cI t X L ((rpS X L pl nH nV f1 f2 f4 f5 f7).2.1) ++ fX cI a ((rpS X L pl nH nV f1 f2 f4 f5 f7).2.2.1) ((rpS X L pl nH nV f1 f2 f4 f5 f7).2.2.2.1) wk ea gi sw ((rpS X L pl nH nV f1 f2 f4 f5 f7).2.2.2.2.1) ((rpS X L pl nH nV f1 f2 f4 f5 f7).2.2.2.2.2.1) f3 ((rpS X L pl nH nV f1 f2 f4 f5 f7).2.2.2.2.2.2.1) ((rpS X L pl nH nV f1 f2 f4 f5 f7).2.2.2.2.2.2.2.1) f6 ((rpS X L pl nH nV f1 f2 f4 f5 f7).2.2.2.2.2.2.2.2) f8))) (fun _ => rfl) (fun _ Hp locs hP hD hS => ?_)
      refine lv_if_eq (tgt := 140) hx hb dX2_readsPart_133 (by decide) (fun c_133 => ?_) (fun c_133 => ?_)
      · skip
        replace c_133 := cb_z c_133
        refine lv_iconst (v := (nI 0)) hx hb dX2_readsPart_140 (by decide) ?_
        exact ct_z () hx hb hr hlocks (by rw [hE]; exact hP) hS (by first | exact z_t (by rw [hE]; exact c_133) | exact z_f (by rw [hE]; exact c_133) | exact z_f (by rw [hE]; exact Bool.false_ne_true)) dX2_readsPart_141
      · skip
        replace c_133 := cb_nz c_133
        refine lv_iconst (v := (nI 1)) hx hb dX2_readsPart_136 (by decide) ?_
        refine lv_goto (tgt := 141) hx hb dX2_readsPart_137 (by decide) ?_
        exact ct_z () hx hb hr hlocks (by rw [hE]; exact hP) hS (by first | exact z_t (by rw [hE]; exact c_133) | exact z_f (by rw [hE]; exact c_133) | exact z_f (by rw [hE]; exact Bool.false_ne_true)) dX2_readsPart_141
  by_cases c_4_118 : X pl = 118
  · skip
    refine lv_lookup (off := 67) (tgt := 71) hx hb dX2_readsPart_4 (by decide +kernel) (by rw [c_4_118]; decide +kernel) (by decide) ?_
    refine lv_aload_n hx hb dX2_readsPart_71 rfl (lv_at hl 1 rfl) ?_
    refine gf_n (C := RX1) (T := TX1) (N := 14) (ci := 1) (q0 := 2) (v := .int (nI nV)) hx hb hts (iU inlX1) hown hK hP rfl rfl 1 (by decide) (kU u_214) rfl rfl dX2_readsPart_72 ?_
    refine lv_iconst (v := (nI 5)) hx hb dX2_readsPart_75 (by decide) ?_
    refine lv_icmp_ge (tgt := 91) hx hb dX2_readsPart_76 (by decide) (fun c_76 => ?_) (fun c_76 => ?_)
    · skip
      replace c_76 := cn_le (by omega) (by omega) c_76
      have hE : rpP X L pl nH nV f1 f2 f4 f5 f7 = (false, pl, nH, nV, f1, f2, f4, f5, f7) := by unfold rpP; rw [if_neg (by omega), if_neg (by omega), if_neg (by omega), if_neg (by omega)]
      refine lv_iconst (v := (nI 0)) hx hb dX2_readsPart_91 (by decide) ?_
      exact ct_z () hx hb hr hlocks (by rw [hE]; exact hP) hS (by first | exact z_t (by rw [hE]; exact c_84) | exact z_f (by rw [hE]; exact c_84) | exact z_f (by rw [hE]; exact Bool.false_ne_true)) dX2_readsPart_92
    · skip
      replace c_76 := cn_nle (by omega) (by omega) c_76
      have hE : rpP X L pl nH nV f1 f2 f4 f5 f7 = rpV X L pl nH nV f1 f2 f4 f5 f7 := by unfold rpP; rw [if_neg (by omega), if_pos (by omega)]
      refine lv_aload_n hx hb dX2_readsPart_79 rfl (lv_at hl 0 rfl) ?_
      refine lv_aload_n hx hb dX2_readsPart_80 rfl (lv_at hl 1 rfl) ?_
      refine go_V (ci := 2) (q0 := 0) (cq := (RX2, TX2, 3)) (c_X2_readsVegetable l D cI cZ cF cL a nH nV wk ea gi sw f1 f2 f3 f4 f5 f6 f7 f8 t X L pl (by omega) hX (by omega) (by omega) (by omega) (by omega)) (gUV u_227 u_228 u_229 u_16 u_230) rfl hdV_X2_readsVegetable ⟨Nat.le_of_ble_eq_true rfl, Nat.le_of_ble_eq_true rfl⟩ ⟨rfl, rfl⟩ hx hb hml hown hts hK hA hP hD hS hl.1 ⟨Nat.le_of_ble_eq_true rfl, Nat.le_of_ble_eq_true rfl⟩ rfl rfl rfl [0, 1, 2, 3, 4, 5, 6, 7, 8, 9, 10] rfl rfl (fun _ => rfl) (rest := []) rfl rfl (Nat.le_of_ble_eq_true rfl) dX2_readsPart_81 (ws2 := (fun _ : Unit => (tX cI t X L ((rpV X L pl nH nV f1 f2 f4 f5 f7).2.1) ++ fX cI a ((rpV X L pl nH nV f1 f2 f4 f5 f7).2.2.1) ((rpV X L pl nH nV f1 f2 f4 f5 f7).2.2.2.1) wk ea gi sw ((rpV X L pl nH nV f1 f2 f4 f5 f7).2.2.2.2.1) ((rpV X L pl nH nV f1 f2 f4 f5 f7).2.2.2.2.2.1) f3 ((rpV X L pl nH nV f1 f2 f4 f5 f7).2.2.2.2.2.2.1) ((rpV X L pl nH nV f1 f2 f4 f5 f7).2.2.2.2.2.2.2.1) f6 ((rpV X L pl nH nV f1 f2 f4 f5 f7).2.2.2.2.2.2.2.2) f8))) (fun _ => rfl) (fun _ Hp locs hP hD hS => ?_)
      refine lv_if_eq (tgt := 91) hx hb dX2_readsPart_84 (by decide) (fun c_84 => ?_) (fun c_84 => ?_)
      · skip
        replace c_84 := cb_z c_84
        refine lv_iconst (v := (nI 0)) hx hb dX2_readsPart_91 (by decide) ?_
        exact ct_z () hx hb hr hlocks (by rw [hE]; exact hP) hS (by first | exact z_t (by rw [hE]; exact c_84) | exact z_f (by rw [hE]; exact c_84) | exact z_f (by rw [hE]; exact Bool.false_ne_true)) dX2_readsPart_92
      · skip
        replace c_84 := cb_nz c_84
        refine lv_iconst (v := (nI 1)) hx hb dX2_readsPart_87 (by decide) ?_
        refine lv_goto (tgt := 92) hx hb dX2_readsPart_88 (by decide) ?_
        exact ct_z () hx hb hr hlocks (by rw [hE]; exact hP) hS (by first | exact z_t (by rw [hE]; exact c_84) | exact z_f (by rw [hE]; exact c_84) | exact z_f (by rw [hE]; exact Bool.false_ne_true)) dX2_readsPart_92
  refine lv_lookup (off := 138) (tgt := 142) hx hb dX2_readsPart_4 (by decide +kernel) (lk4 (by omega) c_4_104 c_4_108 c_4_115 c_4_118) (by decide) ?_
  have hE : rpP X L pl nH nV f1 f2 f4 f5 f7 = (false, pl, nH, nV, f1, f2, f4, f5, f7) := by unfold rpP; rw [if_neg (by omega), if_neg (by omega), if_neg (by omega), if_neg (by omega)]
  refine lv_iconst (v := (nI 0)) hx hb dX2_readsPart_142 (by decide) ?_
  exact ct_z () hx hb hr hlocks (by rw [hE]; exact hP) hS (by first | exact z_t (by rw [hE]; exact c_0) | exact z_f (by rw [hE]; exact c_0) | exact z_f (by rw [hE]; exact Bool.false_ne_true)) dX2_readsPart_143
