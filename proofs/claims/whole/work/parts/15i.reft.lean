theorem rp_ok {X : Nat → Nat} {L p nH nV : Nat} {f1 f2 f4 f5 f7 : Nat → Nat} (h : (rpP X L p nH nV f1 f2 f4 f5 f7).1 = true) : (rpP X L p nH nV f1 f2 f4 f5 f7).2.2.1 = hsP X p nH ∧ (rpP X L p nH nV f1 f2 f4 f5 f7).2.2.2.1 = vsP X p nV ∧ p + 1 ≤ (rpP X L p nH nV f1 f2 f4 f5 f7).2.1 := by
  by_cases q1 : X p = 104 ∧ nH < 6
  · rw [rpP_h q1] at h ⊢
    rw [hsP_t q1, vsP_f (by omega)]
    cases k1 : dg X L (p + 1) 1 4 with
    | none => rw [rpH_1 k1] at h; cases h
    | some d1 =>
      cases k2 : dg X L (p + 1 + 1) 0 9 with
      | none => rw [rpH_2 k1 k2] at h; cases h
      | some d2 => rw [rpH_3 k1 k2]; exact ⟨rfl, rfl, by show p + 1 ≤ p + 1 + 1 + 1; omega⟩
  · by_cases q2 : X p = 118 ∧ nV < 5
    · rw [rpP_v q1 q2] at h ⊢
      rw [hsP_f q1, vsP_t q2]
      cases k1 : dg X L (p + 1) 0 4 with
      | none => rw [rpV_1 k1] at h; cases h
      | some d1 =>
        cases k2 : dg X L (p + 1 + 1) 0 (min 9 (40 - 10 * d1)) with
        | none => rw [rpV_2 k1 k2] at h; cases h
        | some d2 => rw [rpV_3 k1 k2]; exact ⟨rfl, rfl, by show p + 1 ≤ p + 1 + 1 + 1; omega⟩
    · by_cases q3 : X p = 108 ∧ 0 < nH ∧ 0 < nV
      · rw [rpP_l q1 q2 q3] at h ⊢
        rw [hsP_f q1, vsP_f q2]
        cases k1 : dg X L (p + 1) 0 (nH - 1) with
        | none => rw [rpL_1 k1] at h; cases h
        | some d1 =>
          cases k2 : dg X L (p + 1 + 1) 0 (nV - 1) with
          | none => rw [rpL_2 k1 k2] at h; cases h
          | some d2 =>
            cases k3 : dg X L (p + 1 + 1 + 1) 0 9 with
            | none => rw [rpL_3 k1 k2 k3] at h; cases h
            | some d3 => rw [rpL_4 k1 k2 k3]; exact ⟨rfl, rfl, by show p + 1 ≤ p + 1 + 1 + 1 + 1; omega⟩
      · by_cases q4 : X p = 115 ∧ 0 < nH
        · rw [rpP_s q1 q2 q3 q4] at h ⊢
          rw [hsP_f q1, vsP_f q2]
          cases k1 : dg X L (p + 1) 0 (nH - 1) with
          | none => rw [rpS_1 k1] at h; cases h
          | some d1 => rw [rpS_2 k1]; exact ⟨rfl, rfl, by show p + 1 ≤ p + 1 + 1; omega⟩
        · rw [rpP_n q1 q2 q3 q4] at h; cases h
theorem hsP_6 {X : Nat → Nat} {p n : Nat} (h : n ≤ 6) : hsP X p n ≤ 6 := by unfold hsP; split <;> omega
theorem vsP_5 {X : Nat → Nat} {p n : Nat} (h : n ≤ 5) : vsP X p n ≤ 5 := by unfold vsP; split <;> omega
theorem bf {b : Bool} (h : ¬ b = true) : b = false := by cases b with
  | false => rfl
  | true => exact absurd rfl h
theorem rd_st {X : Nat → Nat} {L mm p nH nV : Nat} {f1 f2 f4 f5 f7 : Nat → Nat} {r : PT} (h : rdN X L (120 - mm) p nH nV f1 f2 f4 f5 f7 = r) (hm : mm < 120) (hp : p < L) (k : (rpP X L p nH nV f1 f2 f4 f5 f7).1 = true) :
    rdN X L (120 - (mm + 1)) (rpP X L p nH nV f1 f2 f4 f5 f7).2.1 (hsP X p nH) (vsP X p nV) (rpP X L p nH nV f1 f2 f4 f5 f7).2.2.2.2.1 (rpP X L p nH nV f1 f2 f4 f5 f7).2.2.2.2.2.1 (rpP X L p nH nV f1 f2 f4 f5 f7).2.2.2.2.2.2.1 (rpP X L p nH nV f1 f2 f4 f5 f7).2.2.2.2.2.2.2.1 (rpP X L p nH nV f1 f2 f4 f5 f7).2.2.2.2.2.2.2.2 = r := by
  rw [← h, show 120 - mm = (120 - (mm + 1)) + 1 by omega, rdN_t hp k, (rp_ok k).1, (rp_ok k).2.1]
theorem rd_ok {X : Nat → Nat} {L mm p nH nV : Nat} {f1 f2 f4 f5 f7 : Nat → Nat} {r : PT} (h : rdN X L (120 - mm) p nH nV f1 f2 f4 f5 f7 = r) (hm : mm < 120) (hp : p < L) (hr : r.1 = true) : (rpP X L p nH nV f1 f2 f4 f5 f7).1 = true := by
  by_cases k : (rpP X L p nH nV f1 f2 f4 f5 f7).1 = true
  · exact k
  · rw [rdN_f (by omega) hp k] at h
    rw [h]; exact hr
theorem qz_j (j : Nat) (hj : j < 100) : q0N j = qN 0 0 0 0 0 0 (fun _ => 0) (fun _ => 0) (fun _ => 0) (fun _ => 0) (fun _ => 0) (fun _ => 0) (fun _ => 5) (fun _ => 0) j := by
  have key : ∀ j : Fin 100, q0N j.1 = qN 0 0 0 0 0 0 (fun _ => 0) (fun _ => 0) (fun _ => 0) (fun _ => 0) (fun _ => 0) (fun _ => 0) (fun _ => 5) (fun _ => 0) j.1 := by decide +kernel
  exact key ⟨j, hj⟩
set_option maxRecDepth 20000 in
theorem u_269 : Cond.code yX9_part cX9_part 5 (some .boolean) ∈ wsL_law := List.mem_of_getElem? (i := 269) (by decide +kernel)
set_option maxRecDepth 20000 in
theorem u_266 : Cond.methodLink RX9 116 yX9_part ∈ wsL_law := List.mem_of_getElem? (i := 266) (by decide +kernel)
set_option maxRecDepth 20000 in
theorem u_267 : Cond.instanceMethod yX9_part ∈ wsL_law := List.mem_of_getElem? (i := 267) (by decide +kernel)
set_option maxRecDepth 20000 in
theorem u_268 : Cond.selects RX9 yX9_part yX9_part ∈ wsL_law := List.mem_of_getElem? (i := 268) (by decide +kernel)
theorem hdV_X9_part : yX9_part.cls = RX9 ∧ yX9_part.cls ≠ "java/lang/invoke/MethodHandle" ∧ yX9_part.cls ≠ "java/lang/invoke/VarHandle" ∧ (parseMethodDescriptor yX9_part.desc).map (fun d => d.parameters.length) = some 1 := by decide +kernel
set_option maxHeartbeats 4000000 in
set_option maxRecDepth 100000 in
theorem c_X9_reads0 (l : Launch) (D : va_G) (cI cZ cF cL : ClassId) (mr : Nat) (rf : Nat → Nat) (st L th pl hs vs : Nat) (dg0 : Int32) (xx : Int64) (X : Nat → Nat) (hL : L ≤ 120) (hXt : ∀ k, k < 120 → X k < 256) : CT l D (tysX cI cZ cF cL) yX9_reads (wA yX9_reads cX9_reads 3 (some .boolean)) (rmF 3 69) [.ref mr, .int (nI 0)] (mX mr rf st L th pl hs vs dg0 xx ++ iaX cI (rf 5) 120 X) (some (.int (if ((rdI X L).1 = true) then 1 else 0))) (fun u : Nat × Nat × Int32 => (mX mr rf st L th ((rdI X L).2.1) u.1 u.2.1 u.2.2 xx ++ iaX cI (rf 5) 120 X)) := by
  refine ct_in (cc := cX9_reads) (maxL := 3) (ret := (some .boolean)) (own := RX9) (lv := [(0, .ref mr), (1, .int (nI 0))]) (by decide +kernel) rfl rfl (Nat.le_of_ble_eq_true rfl) rfl ?_
  intro p e s m args below meth c A ls hx hb hr hml hts hown hlocks hK hA hP hD hS hl
  refine lv_aload_n hx hb dX9_reads_0 rfl (lv_at hl 0 rfl) ?_
  refine lv_iconst (v := (nI 0)) hx hb dX9_reads_1 (by decide) ?_
  refine pf_n (C := RX9) (T := TX9) (N := 15) (ci := 9) (q0 := 0) (ty := .int) (v := .int (nI 0)) (ws2 := (mX mr rf st L th 0 hs vs dg0 xx ++ iaX cI (rf 5) 120 X)) hx hb hts (iU inlX9) tyX9 tyX9_ok nmX9 hown hK hP hD hS rfl rfl 10 (by decide) (kU u_255) rfl rfl (tyX9_ok 10 (by decide)) rfl rfl (Nat.le_of_ble_eq_true rfl) dX9_reads_2 rfl (fun Hp locs hP hD hS => ?_)
  refine lv_aload_n hx hb dX9_reads_5 rfl (lv_at hl 0 rfl) ?_
  refine lv_iconst (v := (nI 0)) hx hb dX9_reads_6 (by decide) ?_
  refine pf_n (C := RX9) (T := TX9) (N := 15) (ci := 9) (q0 := 0) (ty := .int) (v := .int (nI 0)) (ws2 := (mX mr rf st L th 0 0 vs dg0 xx ++ iaX cI (rf 5) 120 X)) hx hb hts (iU inlX9) tyX9 tyX9_ok nmX9 hown hK hP hD hS rfl rfl 11 (by decide) (kU u_260) rfl rfl (tyX9_ok 11 (by decide)) rfl rfl (Nat.le_of_ble_eq_true rfl) dX9_reads_7 rfl (fun Hp locs hP hD hS => ?_)
  refine lv_aload_n hx hb dX9_reads_10 rfl (lv_at hl 0 rfl) ?_
  refine lv_iconst (v := (nI 0)) hx hb dX9_reads_11 (by decide) ?_
  refine pf_n (C := RX9) (T := TX9) (N := 15) (ci := 9) (q0 := 0) (ty := .int) (v := .int (nI 0)) (ws2 := (mX mr rf st L th 0 0 0 dg0 xx ++ iaX cI (rf 5) 120 X)) hx hb hts (iU inlX9) tyX9 tyX9_ok nmX9 hown hK hP hD hS rfl rfl 12 (by decide) (kU u_261) rfl rfl (tyX9_ok 12 (by decide)) rfl rfl (Nat.le_of_ble_eq_true rfl) dX9_reads_12 rfl (fun Hp locs hP hD hS => ?_)
  refine lv_aload_n hx hb dX9_reads_15 rfl (lv_at hl 0 rfl) ?_
  refine lv_bipush (v := (nI 70)) hx hb dX9_reads_16 (by decide) ?_
  refine gp_V (ci := 9) (q0 := 0) (cq := (RX9, TX9, 15)) (c_X9_letter l D cI cZ cF cL mr rf st L th 0 0 0 dg0 xx X 70 hL hXt (by decide) (by decide)) (gUV u_262 u_263 u_264 u_5 u_265) rfl hdV_X9_letter ⟨Nat.le_of_ble_eq_true rfl, Nat.le_of_ble_eq_true rfl⟩ ⟨rfl, rfl⟩ hx hb hml hown hts hK hA hP hD hS hl.1 ⟨Nat.le_of_ble_eq_true rfl, Nat.le_of_ble_eq_true rfl⟩ rfl rfl rfl (wr := ([] : va_W)) (pm_cnt (fun _ => by simp only [List.countP_append, List.countP_nil, fT] <;> omega)) (fun _ => by simp only [List.map_append, List.map_nil, fX_m, bX_m, sX_m, pX_m, iaX_m, r5X_m, r6X_m, fT_m, hX_m, tX_m, xX_m, sgX_m, zaX_m, fsB_a, qX_m, mX_m]) (rest := []) rfl rfl (Nat.le_of_ble_eq_true rfl) dX9_reads_18 (ws2 := (fun _ : Unit => (mX mr rf st L th (if (0 < L ∧ X 0 = 70) then 0 + 1 else 0) 0 0 dg0 xx ++ iaX cI (rf 5) 120 X))) (fun _ => (pm_cnt (fun _ => by simp only [List.countP_append, List.countP_nil, fT] <;> omega))) (fun _ Hp locs hP hD hS => ?_)
  by_cases q21 : (0 < L ∧ X 0 = 70)
  · skip
    rw [if_pos q21] at hP hD
    rw [show (if (0 < L ∧ X 0 = 70) then (1 : Int32) else 0) = nI 1 from if_pos q21]
    have hI : rdN X L 120 1 0 0 (fun _ => 0) (fun _ => 0) (fun _ => 0) (fun _ => 0) (fun _ => 5) = rdI X L := by unfold rdI; rw [if_pos q21]
    refine lv_istore_n (lv' := [(2, .int (nI 1)), (0, .ref mr), (1, .int (nI 0))]) hx hb dX9_reads_21 rfl hl (by decide) rfl (fun ls hl => ?_)
    have loop_22 : ∀ (dd : Nat) (gd : Nat) (p0 : Nat) (hh : Nat) (vv : Nat) (d9 : Int32) (mm : Nat) (g1 : Nat → Nat) (g2 : Nat → Nat) (g4 : Nat → Nat) (g5 : Nat → Nat) (g7 : Nat → Nat), (p0 ≤ 1 + 6 * mm ∧ mm ≤ 120 ∧ gd ≤ 1) → ((gd = 1 ∧ rdN X L (120 - mm) p0 hh vv g1 g2 g4 g5 g7 = rdI X L ∧ 1 + mm ≤ p0 ∧ hh ≤ 6 ∧ vv ≤ 5) ∨ (gd = 0 ∧ (rdI X L).1 = false ∧ (rdI X L).2.1 = p0)) → ((120 - mm) + gd) < dd → ∀ (Hp : Heap) (locs : List Loc), va_P D vwCl (mX mr rf st L th p0 hh vv d9 xx ++ iaX cI (rf 5) 120 X) Hp → va_D A (mX mr rf st L th p0 hh vv d9 xx ++ iaX cI (rf 5) 120 X) → va_S A s.heap Hp locs → ∀ ls : Array Slot, lv_has ls 3 [(2, .int (nI gd)), (0, .ref mr), (1, .int (nI 0))] → W p l e (rmF 3 69) s m args below meth c Hp locs 0 0 (MQ below (CQ D (some (.int (if ((rdI X L).1 = true) then 1 else 0))) (fun u : Nat × Nat × Int32 => (mX mr rf st L th ((rdI X L).2.1) u.1 u.2.1 u.2.2 xx ++ iaX cI (rf 5) 120 X)) A) args s 0 0 A) (F0 m 22 ls []) := by
      intro dd
      induction dd with
      | zero => intro gd p0 hh vv d9 mm g1 g2 g4 g5 g7 hq hg hm; exact absurd hm (Nat.not_lt_zero _)
      | succ dd ih_22 =>
        intro gd p0 hh vv d9 mm g1 g2 g4 g5 g7 hq hg hm Hp locs hP hD hS ls hl
        refine lv_iload_n hx hb dX9_reads_22 rfl (lv_at hl 0 rfl) ?_
        refine lv_if_eq (tgt := 46) hx hb dX9_reads_23 (by decide) (fun c_23 => ?_) (fun c_23 => ?_)
        · skip
          replace c_23 := cn_eq (b := 0) (by omega) (by omega) c_23
          obtain ⟨z1, z2, z3⟩ : (gd = 0 ∧ (rdI X L).1 = false ∧ (rdI X L).2.1 = p0) := hg.elim (fun q => absurd c_23 (by omega)) id
          refine lv_iload_n hx hb dX9_reads_46 rfl (lv_at hl 0 rfl) ?_
          exact ct_z (hh, vv, d9) hx hb hr hlocks (by first | (rw [z3]; exact hP) | (rw [hE]; exact hP)) hS (by first | (rw [z1, z2]; rfl) | (rw [y1, hE]; rfl)) dX9_reads_47
        · skip
          replace c_23 := cn_ne (b := 0) c_23
          obtain ⟨y1, y2, y3, y4, y5⟩ : (gd = 1 ∧ rdN X L (120 - mm) p0 hh vv g1 g2 g4 g5 g7 = rdI X L ∧ 1 + mm ≤ p0 ∧ hh ≤ 6 ∧ vv ≤ 5) := hg.elim id (fun q => absurd q.1 c_23)
          refine lv_aload_n hx hb dX9_reads_26 rfl (lv_at hl 1 rfl) ?_
          refine gf_n (C := RX9) (T := TX9) (N := 15) (ci := 9) (q0 := 0) (v := .int (nI p0)) hx hb hts (iU inlX9) hown hK hP rfl rfl 10 (by decide) (kU u_255) rfl rfl dX9_reads_27 ?_
          refine lv_aload_n hx hb dX9_reads_30 rfl (lv_at hl 1 rfl) ?_
          refine gf_n (C := RX9) (T := TX9) (N := 15) (ci := 9) (q0 := 0) (v := .int (nI L)) hx hb hts (iU inlX9) hown hK hP rfl rfl 7 (by decide) (kU u_174) rfl rfl dX9_reads_31 ?_
          refine lv_icmp_ge (tgt := 46) hx hb dX9_reads_34 (by decide) (fun c_34 => ?_) (fun c_34 => ?_)
          · skip
            replace c_34 := cn_le (by omega) (by omega) c_34
            have hE : rdI X L = (true, p0, hh, vv, g1, g2, g4, g5, g7) := by rw [← y2, rdN_x (by omega)]
            refine lv_iload_n hx hb dX9_reads_46 rfl (lv_at hl 0 rfl) ?_
            exact ct_z (hh, vv, d9) hx hb hr hlocks (by first | (rw [z3]; exact hP) | (rw [hE]; exact hP)) hS (by first | (rw [z1, z2]; rfl) | (rw [y1, hE]; rfl)) dX9_reads_47
          · skip
            replace c_34 := cn_nle (by omega) (by omega) c_34
            refine lv_aload_n hx hb dX9_reads_37 rfl (lv_at hl 1 rfl) ?_
            refine lv_iload_n hx hb dX9_reads_38 rfl (lv_at hl 2 rfl) ?_
            refine gp_V (ci := 9) (q0 := 0) (cq := (RX9, TX9, 15)) (c_X9_part0 l D cI cZ cF cL mr rf st L th p0 hh vv d9 xx X g1 g2 g1 g4 g5 g1 g7 g1 hL hXt (by omega) c_34 y4 y5) (gUV u_266 u_267 u_268 u_5 u_269) rfl hdV_X9_part ⟨Nat.le_of_ble_eq_true rfl, Nat.le_of_ble_eq_true rfl⟩ ⟨rfl, rfl⟩ hx hb hml hown hts hK hA hP hD hS hl.1 ⟨Nat.le_of_ble_eq_true rfl, Nat.le_of_ble_eq_true rfl⟩ rfl rfl rfl (wr := ([] : va_W)) (pm_cnt (fun _ => by simp only [List.countP_append, List.countP_nil, fT] <;> omega)) (fun _ => by simp only [List.map_append, List.map_nil, fX_m, bX_m, sX_m, pX_m, iaX_m, r5X_m, r6X_m, fT_m, hX_m, tX_m, xX_m, sgX_m, zaX_m, fsB_a, qX_m, mX_m]) (rest := []) rfl rfl (Nat.le_of_ble_eq_true rfl) dX9_reads_39 (ws2 := (fun u_39 : Int32 => (mX mr rf st L th ((rpP X L p0 hh vv g1 g2 g4 g5 g7).2.1) (hsP X p0 hh) (vsP X p0 vv) u_39 xx ++ iaX cI (rf 5) 120 X))) (fun _ => (pm_cnt (fun _ => by simp only [List.countP_append, List.countP_nil, fT] <;> omega))) (fun u_39 Hp locs hP hD hS => ?_)
            by_cases k42 : (rpP X L p0 hh vv g1 g2 g4 g5 g7).1 = true
            · skip
              rw [if_pos k42]
              refine lv_istore_n (lv' := [(2, .int (nI 1)), (0, .ref mr), (1, .int (nI 0))]) hx hb dX9_reads_42 rfl hl (by decide) rfl (fun ls hl => ?_)
              refine lv_goto (tgt := 22) hx hb dX9_reads_43 (by decide) ?_
              exact ih_22 1 ((rpP X L p0 hh vv g1 g2 g4 g5 g7).2.1) (hsP X p0 hh) (vsP X p0 vv) u_39 (mm + 1) ((rpP X L p0 hh vv g1 g2 g4 g5 g7).2.2.2.2.1) ((rpP X L p0 hh vv g1 g2 g4 g5 g7).2.2.2.2.2.1) ((rpP X L p0 hh vv g1 g2 g4 g5 g7).2.2.2.2.2.2.1) ((rpP X L p0 hh vv g1 g2 g4 g5 g7).2.2.2.2.2.2.2.1) ((rpP X L p0 hh vv g1 g2 g4 g5 g7).2.2.2.2.2.2.2.2) (by have := rpP_pl (X := X) (L := L) (p := p0) (nH := hh) (nV := vv) (f1 := g1) (f2 := g2) (f4 := g4) (f5 := g5) (f7 := g7); omega) (by first | exact Or.inl ⟨rfl, rd_st y2 (by omega) c_34 k42, by have := (rp_ok k42).2.2; omega, hsP_6 y4, vsP_5 y5⟩ | exact Or.inr ⟨rfl, by rw [← y2, rdN_f (by omega) c_34 k42]; exact bf k42, by rw [← y2, rdN_f (by omega) c_34 k42]⟩) (by omega) _ _ hP hD hS _ (lv_sub hl [0, 1, 2] rfl)
            · skip
              rw [if_neg k42]
              refine lv_istore_n (lv' := [(2, .int (nI 0)), (0, .ref mr), (1, .int (nI 0))]) hx hb dX9_reads_42 rfl hl (by decide) rfl (fun ls hl => ?_)
              refine lv_goto (tgt := 22) hx hb dX9_reads_43 (by decide) ?_
              exact ih_22 0 ((rpP X L p0 hh vv g1 g2 g4 g5 g7).2.1) (hsP X p0 hh) (vsP X p0 vv) u_39 (mm + 1) ((rpP X L p0 hh vv g1 g2 g4 g5 g7).2.2.2.2.1) ((rpP X L p0 hh vv g1 g2 g4 g5 g7).2.2.2.2.2.1) ((rpP X L p0 hh vv g1 g2 g4 g5 g7).2.2.2.2.2.2.1) ((rpP X L p0 hh vv g1 g2 g4 g5 g7).2.2.2.2.2.2.2.1) ((rpP X L p0 hh vv g1 g2 g4 g5 g7).2.2.2.2.2.2.2.2) (by have := rpP_pl (X := X) (L := L) (p := p0) (nH := hh) (nV := vv) (f1 := g1) (f2 := g2) (f4 := g4) (f5 := g5) (f7 := g7); omega) (by first | exact Or.inl ⟨rfl, rd_st y2 (by omega) c_34 k42, by have := (rp_ok k42).2.2; omega, hsP_6 y4, vsP_5 y5⟩ | exact Or.inr ⟨rfl, by rw [← y2, rdN_f (by omega) c_34 k42]; exact bf k42, by rw [← y2, rdN_f (by omega) c_34 k42]⟩) (by omega) _ _ hP hD hS _ (lv_sub hl [0, 1, 2] rfl)
    exact loop_22 (((120 - 0) + 1) + 1) 1 (0 + 1) 0 0 dg0 0 ((fun _ => 0)) ((fun _ => 0)) ((fun _ => 0)) ((fun _ => 0)) ((fun _ => 5)) (by omega) (by first | exact Or.inl ⟨rfl, hI, by omega, by omega, by omega⟩ | exact Or.inr ⟨rfl, by unfold rdI; rw [if_neg q21], by unfold rdI; rw [if_neg q21]⟩) (Nat.lt_succ_self _) _ _ hP hD hS _ (lv_sub hl [0, 1, 2] rfl)
  · skip
    rw [if_neg q21] at hP hD
    rw [show (if (0 < L ∧ X 0 = 70) then (1 : Int32) else 0) = nI 0 from if_neg q21]
    refine lv_istore_n (lv' := [(2, .int (nI 0)), (0, .ref mr), (1, .int (nI 0))]) hx hb dX9_reads_21 rfl hl (by decide) rfl (fun ls hl => ?_)
    have loop_22 : ∀ (dd : Nat) (gd : Nat) (p0 : Nat) (hh : Nat) (vv : Nat) (d9 : Int32) (mm : Nat) (g1 : Nat → Nat) (g2 : Nat → Nat) (g4 : Nat → Nat) (g5 : Nat → Nat) (g7 : Nat → Nat), (p0 ≤ 1 + 6 * mm ∧ mm ≤ 120 ∧ gd ≤ 1) → ((gd = 1 ∧ rdN X L (120 - mm) p0 hh vv g1 g2 g4 g5 g7 = rdI X L ∧ 1 + mm ≤ p0 ∧ hh ≤ 6 ∧ vv ≤ 5) ∨ (gd = 0 ∧ (rdI X L).1 = false ∧ (rdI X L).2.1 = p0)) → ((120 - mm) + gd) < dd → ∀ (Hp : Heap) (locs : List Loc), va_P D vwCl (mX mr rf st L th p0 hh vv d9 xx ++ iaX cI (rf 5) 120 X) Hp → va_D A (mX mr rf st L th p0 hh vv d9 xx ++ iaX cI (rf 5) 120 X) → va_S A s.heap Hp locs → ∀ ls : Array Slot, lv_has ls 3 [(2, .int (nI gd)), (0, .ref mr), (1, .int (nI 0))] → W p l e (rmF 3 69) s m args below meth c Hp locs 0 0 (MQ below (CQ D (some (.int (if ((rdI X L).1 = true) then 1 else 0))) (fun u : Nat × Nat × Int32 => (mX mr rf st L th ((rdI X L).2.1) u.1 u.2.1 u.2.2 xx ++ iaX cI (rf 5) 120 X)) A) args s 0 0 A) (F0 m 22 ls []) := by
      intro dd
      induction dd with
      | zero => intro gd p0 hh vv d9 mm g1 g2 g4 g5 g7 hq hg hm; exact absurd hm (Nat.not_lt_zero _)
      | succ dd ih_22 =>
        intro gd p0 hh vv d9 mm g1 g2 g4 g5 g7 hq hg hm Hp locs hP hD hS ls hl
        refine lv_iload_n hx hb dX9_reads_22 rfl (lv_at hl 0 rfl) ?_
        refine lv_if_eq (tgt := 46) hx hb dX9_reads_23 (by decide) (fun c_23 => ?_) (fun c_23 => ?_)
        · skip
          replace c_23 := cn_eq (b := 0) (by omega) (by omega) c_23
          obtain ⟨z1, z2, z3⟩ : (gd = 0 ∧ (rdI X L).1 = false ∧ (rdI X L).2.1 = p0) := hg.elim (fun q => absurd c_23 (by omega)) id
          refine lv_iload_n hx hb dX9_reads_46 rfl (lv_at hl 0 rfl) ?_
          exact ct_z (hh, vv, d9) hx hb hr hlocks (by first | (rw [z3]; exact hP) | (rw [hE]; exact hP)) hS (by first | (rw [z1, z2]; rfl) | (rw [y1, hE]; rfl)) dX9_reads_47
        · skip
          replace c_23 := cn_ne (b := 0) c_23
          obtain ⟨y1, y2, y3, y4, y5⟩ : (gd = 1 ∧ rdN X L (120 - mm) p0 hh vv g1 g2 g4 g5 g7 = rdI X L ∧ 1 + mm ≤ p0 ∧ hh ≤ 6 ∧ vv ≤ 5) := hg.elim id (fun q => absurd q.1 c_23)
          refine lv_aload_n hx hb dX9_reads_26 rfl (lv_at hl 1 rfl) ?_
          refine gf_n (C := RX9) (T := TX9) (N := 15) (ci := 9) (q0 := 0) (v := .int (nI p0)) hx hb hts (iU inlX9) hown hK hP rfl rfl 10 (by decide) (kU u_255) rfl rfl dX9_reads_27 ?_
          refine lv_aload_n hx hb dX9_reads_30 rfl (lv_at hl 1 rfl) ?_
          refine gf_n (C := RX9) (T := TX9) (N := 15) (ci := 9) (q0 := 0) (v := .int (nI L)) hx hb hts (iU inlX9) hown hK hP rfl rfl 7 (by decide) (kU u_174) rfl rfl dX9_reads_31 ?_
          refine lv_icmp_ge (tgt := 46) hx hb dX9_reads_34 (by decide) (fun c_34 => ?_) (fun c_34 => ?_)
          · skip
            replace c_34 := cn_le (by omega) (by omega) c_34
            have hE : rdI X L = (true, p0, hh, vv, g1, g2, g4, g5, g7) := by rw [← y2, rdN_x (by omega)]
            refine lv_iload_n hx hb dX9_reads_46 rfl (lv_at hl 0 rfl) ?_
            exact ct_z (hh, vv, d9) hx hb hr hlocks (by first | (rw [z3]; exact hP) | (rw [hE]; exact hP)) hS (by first | (rw [z1, z2]; rfl) | (rw [y1, hE]; rfl)) dX9_reads_47
          · skip
            replace c_34 := cn_nle (by omega) (by omega) c_34
            refine lv_aload_n hx hb dX9_reads_37 rfl (lv_at hl 1 rfl) ?_
            refine lv_iload_n hx hb dX9_reads_38 rfl (lv_at hl 2 rfl) ?_
            refine gp_V (ci := 9) (q0 := 0) (cq := (RX9, TX9, 15)) (c_X9_part0 l D cI cZ cF cL mr rf st L th p0 hh vv d9 xx X g1 g2 g1 g4 g5 g1 g7 g1 hL hXt (by omega) c_34 y4 y5) (gUV u_266 u_267 u_268 u_5 u_269) rfl hdV_X9_part ⟨Nat.le_of_ble_eq_true rfl, Nat.le_of_ble_eq_true rfl⟩ ⟨rfl, rfl⟩ hx hb hml hown hts hK hA hP hD hS hl.1 ⟨Nat.le_of_ble_eq_true rfl, Nat.le_of_ble_eq_true rfl⟩ rfl rfl rfl (wr := ([] : va_W)) (pm_cnt (fun _ => by simp only [List.countP_append, List.countP_nil, fT] <;> omega)) (fun _ => by simp only [List.map_append, List.map_nil, fX_m, bX_m, sX_m, pX_m, iaX_m, r5X_m, r6X_m, fT_m, hX_m, tX_m, xX_m, sgX_m, zaX_m, fsB_a, qX_m, mX_m]) (rest := []) rfl rfl (Nat.le_of_ble_eq_true rfl) dX9_reads_39 (ws2 := (fun u_39 : Int32 => (mX mr rf st L th ((rpP X L p0 hh vv g1 g2 g4 g5 g7).2.1) (hsP X p0 hh) (vsP X p0 vv) u_39 xx ++ iaX cI (rf 5) 120 X))) (fun _ => (pm_cnt (fun _ => by simp only [List.countP_append, List.countP_nil, fT] <;> omega))) (fun u_39 Hp locs hP hD hS => ?_)
            by_cases k42 : (rpP X L p0 hh vv g1 g2 g4 g5 g7).1 = true
            · skip
              rw [if_pos k42]
              refine lv_istore_n (lv' := [(2, .int (nI 1)), (0, .ref mr), (1, .int (nI 0))]) hx hb dX9_reads_42 rfl hl (by decide) rfl (fun ls hl => ?_)
              refine lv_goto (tgt := 22) hx hb dX9_reads_43 (by decide) ?_
              exact ih_22 1 ((rpP X L p0 hh vv g1 g2 g4 g5 g7).2.1) (hsP X p0 hh) (vsP X p0 vv) u_39 (mm + 1) ((rpP X L p0 hh vv g1 g2 g4 g5 g7).2.2.2.2.1) ((rpP X L p0 hh vv g1 g2 g4 g5 g7).2.2.2.2.2.1) ((rpP X L p0 hh vv g1 g2 g4 g5 g7).2.2.2.2.2.2.1) ((rpP X L p0 hh vv g1 g2 g4 g5 g7).2.2.2.2.2.2.2.1) ((rpP X L p0 hh vv g1 g2 g4 g5 g7).2.2.2.2.2.2.2.2) (by have := rpP_pl (X := X) (L := L) (p := p0) (nH := hh) (nV := vv) (f1 := g1) (f2 := g2) (f4 := g4) (f5 := g5) (f7 := g7); omega) (by first | exact Or.inl ⟨rfl, rd_st y2 (by omega) c_34 k42, by have := (rp_ok k42).2.2; omega, hsP_6 y4, vsP_5 y5⟩ | exact Or.inr ⟨rfl, by rw [← y2, rdN_f (by omega) c_34 k42]; exact bf k42, by rw [← y2, rdN_f (by omega) c_34 k42]⟩) (by omega) _ _ hP hD hS _ (lv_sub hl [0, 1, 2] rfl)
            · skip
              rw [if_neg k42]
              refine lv_istore_n (lv' := [(2, .int (nI 0)), (0, .ref mr), (1, .int (nI 0))]) hx hb dX9_reads_42 rfl hl (by decide) rfl (fun ls hl => ?_)
              refine lv_goto (tgt := 22) hx hb dX9_reads_43 (by decide) ?_
              exact ih_22 0 ((rpP X L p0 hh vv g1 g2 g4 g5 g7).2.1) (hsP X p0 hh) (vsP X p0 vv) u_39 (mm + 1) ((rpP X L p0 hh vv g1 g2 g4 g5 g7).2.2.2.2.1) ((rpP X L p0 hh vv g1 g2 g4 g5 g7).2.2.2.2.2.1) ((rpP X L p0 hh vv g1 g2 g4 g5 g7).2.2.2.2.2.2.1) ((rpP X L p0 hh vv g1 g2 g4 g5 g7).2.2.2.2.2.2.2.1) ((rpP X L p0 hh vv g1 g2 g4 g5 g7).2.2.2.2.2.2.2.2) (by have := rpP_pl (X := X) (L := L) (p := p0) (nH := hh) (nV := vv) (f1 := g1) (f2 := g2) (f4 := g4) (f5 := g5) (f7 := g7); omega) (by first | exact Or.inl ⟨rfl, rd_st y2 (by omega) c_34 k42, by have := (rp_ok k42).2.2; omega, hsP_6 y4, vsP_5 y5⟩ | exact Or.inr ⟨rfl, by rw [← y2, rdN_f (by omega) c_34 k42]; exact bf k42, by rw [← y2, rdN_f (by omega) c_34 k42]⟩) (by omega) _ _ hP hD hS _ (lv_sub hl [0, 1, 2] rfl)
    exact loop_22 (((120 - 0) + 0) + 1) 0 0 0 0 dg0 0 ((fun _ => 0)) ((fun _ => 0)) ((fun _ => 0)) ((fun _ => 0)) ((fun _ => 5)) (by omega) (by first | exact Or.inl ⟨rfl, hI, by omega, by omega, by omega⟩ | exact Or.inr ⟨rfl, by unfold rdI; rw [if_neg q21], by unfold rdI; rw [if_neg q21]⟩) (Nat.lt_succ_self _) _ _ hP hD hS _ (lv_sub hl [0, 1, 2] rfl)
set_option maxHeartbeats 4000000 in
set_option maxRecDepth 100000 in
theorem c_X9_reads1 (l : Launch) (D : va_G) (cI cZ cF cL : ClassId) (mr : Nat) (rf : Nat → Nat) (st L th pl hs vs : Nat) (dg0 : Int32) (xx : Int64) (X : Nat → Nat) (hL : L ≤ 120) (hXt : ∀ k, k < 120 → X k < 256) (hok : (rdI X L).1 = true) : CT l D (tysX cI cZ cF cL) yX9_reads (wA yX9_reads cX9_reads 3 (some .boolean)) (rmF 3 69) [.ref mr, .int (nI 1)] (mX mr rf st L th pl hs vs dg0 xx ++ iaX cI (rf 5) 120 X ++ qX cI (rf 0) 0 0 0 0 0 0 ((fun _ => 0)) ((fun _ => 0)) ((fun _ => 0)) ((fun _ => 0)) ((fun _ => 0)) ((fun _ => 0)) ((fun _ => 5)) ((fun _ => 0))) (some (.int (if ((rdI X L).1 = true) then 1 else 0))) (fun u : Int32 => (mX mr rf st L th ((rdI X L).2.1) ((rdI X L).2.2.1) ((rdI X L).2.2.2.1) u xx ++ iaX cI (rf 5) 120 X ++ qX cI (rf 0) 0 0 0 0 0 0 ((rdI X L).2.2.2.2.1) ((rdI X L).2.2.2.2.2.1) ((fun _ => 0)) ((rdI X L).2.2.2.2.2.2.1) ((rdI X L).2.2.2.2.2.2.2.1) ((fun _ => 0)) ((rdI X L).2.2.2.2.2.2.2.2) ((fun _ => 0)))) := by
  refine ct_in (cc := cX9_reads) (maxL := 3) (ret := (some .boolean)) (own := RX9) (lv := [(0, .ref mr), (1, .int (nI 1))]) (by decide +kernel) rfl rfl (Nat.le_of_ble_eq_true rfl) rfl ?_
  intro p e s m args below meth c A ls hx hb hr hml hts hown hlocks hK hA hP hD hS hl
  refine lv_aload_n hx hb dX9_reads_0 rfl (lv_at hl 0 rfl) ?_
  refine lv_iconst (v := (nI 0)) hx hb dX9_reads_1 (by decide) ?_
  refine pf_n (C := RX9) (T := TX9) (N := 15) (ci := 9) (q0 := 0) (ty := .int) (v := .int (nI 0)) (ws2 := (mX mr rf st L th 0 hs vs dg0 xx ++ iaX cI (rf 5) 120 X ++ qX cI (rf 0) 0 0 0 0 0 0 ((fun _ => 0)) ((fun _ => 0)) ((fun _ => 0)) ((fun _ => 0)) ((fun _ => 0)) ((fun _ => 0)) ((fun _ => 5)) ((fun _ => 0)))) hx hb hts (iU inlX9) tyX9 tyX9_ok nmX9 hown hK hP hD hS rfl rfl 10 (by decide) (kU u_255) rfl rfl (tyX9_ok 10 (by decide)) rfl rfl (Nat.le_of_ble_eq_true rfl) dX9_reads_2 rfl (fun Hp locs hP hD hS => ?_)
  refine lv_aload_n hx hb dX9_reads_5 rfl (lv_at hl 0 rfl) ?_
  refine lv_iconst (v := (nI 0)) hx hb dX9_reads_6 (by decide) ?_
  refine pf_n (C := RX9) (T := TX9) (N := 15) (ci := 9) (q0 := 0) (ty := .int) (v := .int (nI 0)) (ws2 := (mX mr rf st L th 0 0 vs dg0 xx ++ iaX cI (rf 5) 120 X ++ qX cI (rf 0) 0 0 0 0 0 0 ((fun _ => 0)) ((fun _ => 0)) ((fun _ => 0)) ((fun _ => 0)) ((fun _ => 0)) ((fun _ => 0)) ((fun _ => 5)) ((fun _ => 0)))) hx hb hts (iU inlX9) tyX9 tyX9_ok nmX9 hown hK hP hD hS rfl rfl 11 (by decide) (kU u_260) rfl rfl (tyX9_ok 11 (by decide)) rfl rfl (Nat.le_of_ble_eq_true rfl) dX9_reads_7 rfl (fun Hp locs hP hD hS => ?_)
  refine lv_aload_n hx hb dX9_reads_10 rfl (lv_at hl 0 rfl) ?_
  refine lv_iconst (v := (nI 0)) hx hb dX9_reads_11 (by decide) ?_
  refine pf_n (C := RX9) (T := TX9) (N := 15) (ci := 9) (q0 := 0) (ty := .int) (v := .int (nI 0)) (ws2 := (mX mr rf st L th 0 0 0 dg0 xx ++ iaX cI (rf 5) 120 X ++ qX cI (rf 0) 0 0 0 0 0 0 ((fun _ => 0)) ((fun _ => 0)) ((fun _ => 0)) ((fun _ => 0)) ((fun _ => 0)) ((fun _ => 0)) ((fun _ => 5)) ((fun _ => 0)))) hx hb hts (iU inlX9) tyX9 tyX9_ok nmX9 hown hK hP hD hS rfl rfl 12 (by decide) (kU u_261) rfl rfl (tyX9_ok 12 (by decide)) rfl rfl (Nat.le_of_ble_eq_true rfl) dX9_reads_12 rfl (fun Hp locs hP hD hS => ?_)
  refine lv_aload_n hx hb dX9_reads_15 rfl (lv_at hl 0 rfl) ?_
  refine lv_bipush (v := (nI 70)) hx hb dX9_reads_16 (by decide) ?_
  refine gp_V (ci := 9) (q0 := 0) (cq := (RX9, TX9, 15)) (c_X9_letter l D cI cZ cF cL mr rf st L th 0 0 0 dg0 xx X 70 hL hXt (by decide) (by decide)) (gUV u_262 u_263 u_264 u_5 u_265) rfl hdV_X9_letter ⟨Nat.le_of_ble_eq_true rfl, Nat.le_of_ble_eq_true rfl⟩ ⟨rfl, rfl⟩ hx hb hml hown hts hK hA hP hD hS hl.1 ⟨Nat.le_of_ble_eq_true rfl, Nat.le_of_ble_eq_true rfl⟩ rfl rfl rfl (wr := (qX cI (rf 0) 0 0 0 0 0 0 ((fun _ => 0)) ((fun _ => 0)) ((fun _ => 0)) ((fun _ => 0)) ((fun _ => 0)) ((fun _ => 0)) ((fun _ => 5)) ((fun _ => 0)))) (pm_cnt (fun _ => by simp only [List.countP_append, List.countP_nil, fT] <;> omega)) (fun _ => by simp only [List.map_append, List.map_nil, fX_m, bX_m, sX_m, pX_m, iaX_m, r5X_m, r6X_m, fT_m, hX_m, tX_m, xX_m, sgX_m, zaX_m, fsB_a, qX_m, mX_m]) (rest := []) rfl rfl (Nat.le_of_ble_eq_true rfl) dX9_reads_18 (ws2 := (fun _ : Unit => (mX mr rf st L th (if (0 < L ∧ X 0 = 70) then 0 + 1 else 0) 0 0 dg0 xx ++ iaX cI (rf 5) 120 X ++ qX cI (rf 0) 0 0 0 0 0 0 ((fun _ => 0)) ((fun _ => 0)) ((fun _ => 0)) ((fun _ => 0)) ((fun _ => 0)) ((fun _ => 0)) ((fun _ => 5)) ((fun _ => 0))))) (fun _ => (pm_cnt (fun _ => by simp only [List.countP_append, List.countP_nil, fT] <;> omega))) (fun _ Hp locs hP hD hS => ?_)
  by_cases q21 : (0 < L ∧ X 0 = 70)
  · skip
    rw [if_pos q21] at hP hD
    rw [show (if (0 < L ∧ X 0 = 70) then (1 : Int32) else 0) = nI 1 from if_pos q21]
    have hI : rdN X L 120 1 0 0 (fun _ => 0) (fun _ => 0) (fun _ => 0) (fun _ => 0) (fun _ => 5) = rdI X L := by unfold rdI; rw [if_pos q21]
    refine lv_istore_n (lv' := [(2, .int (nI 1)), (0, .ref mr), (1, .int (nI 1))]) hx hb dX9_reads_21 rfl hl (by decide) rfl (fun ls hl => ?_)
    have loop_22 : ∀ (dd : Nat) (gd : Nat) (p0 : Nat) (hh : Nat) (vv : Nat) (d9 : Int32) (mm : Nat) (g1 : Nat → Nat) (g2 : Nat → Nat) (g4 : Nat → Nat) (g5 : Nat → Nat) (g7 : Nat → Nat), (p0 ≤ 1 + 6 * mm ∧ mm ≤ 120 ∧ gd ≤ 1) → ((gd = 1 ∧ rdN X L (120 - mm) p0 hh vv g1 g2 g4 g5 g7 = rdI X L ∧ 1 + mm ≤ p0 ∧ hh ≤ 6 ∧ vv ≤ 5)) → ((120 - mm) + gd) < dd → ∀ (Hp : Heap) (locs : List Loc), va_P D vwCl (mX mr rf st L th p0 hh vv d9 xx ++ iaX cI (rf 5) 120 X ++ qX cI (rf 0) 0 0 0 0 0 0 g1 g2 ((fun _ => 0)) g4 g5 ((fun _ => 0)) g7 ((fun _ => 0))) Hp → va_D A (mX mr rf st L th p0 hh vv d9 xx ++ iaX cI (rf 5) 120 X ++ qX cI (rf 0) 0 0 0 0 0 0 g1 g2 ((fun _ => 0)) g4 g5 ((fun _ => 0)) g7 ((fun _ => 0))) → va_S A s.heap Hp locs → ∀ ls : Array Slot, lv_has ls 3 [(2, .int (nI gd)), (0, .ref mr), (1, .int (nI 1))] → W p l e (rmF 3 69) s m args below meth c Hp locs 0 0 (MQ below (CQ D (some (.int (if ((rdI X L).1 = true) then 1 else 0))) (fun u : Int32 => (mX mr rf st L th ((rdI X L).2.1) ((rdI X L).2.2.1) ((rdI X L).2.2.2.1) u xx ++ iaX cI (rf 5) 120 X ++ qX cI (rf 0) 0 0 0 0 0 0 ((rdI X L).2.2.2.2.1) ((rdI X L).2.2.2.2.2.1) ((fun _ => 0)) ((rdI X L).2.2.2.2.2.2.1) ((rdI X L).2.2.2.2.2.2.2.1) ((fun _ => 0)) ((rdI X L).2.2.2.2.2.2.2.2) ((fun _ => 0)))) A) args s 0 0 A) (F0 m 22 ls []) := by
      intro dd
      induction dd with
      | zero => intro gd p0 hh vv d9 mm g1 g2 g4 g5 g7 hq hg hm; exact absurd hm (Nat.not_lt_zero _)
      | succ dd ih_22 =>
        intro gd p0 hh vv d9 mm g1 g2 g4 g5 g7 hq hg hm Hp locs hP hD hS ls hl
        refine lv_iload_n hx hb dX9_reads_22 rfl (lv_at hl 0 rfl) ?_
        refine lv_if_eq (tgt := 46) hx hb dX9_reads_23 (by decide) (fun c_23 => ?_) (fun c_23 => ?_)
        · skip
          replace c_23 := cn_eq (b := 0) (by omega) (by omega) c_23
          (exfalso; omega)
        · skip
          replace c_23 := cn_ne (b := 0) c_23
          obtain ⟨y1, y2, y3, y4, y5⟩ : (gd = 1 ∧ rdN X L (120 - mm) p0 hh vv g1 g2 g4 g5 g7 = rdI X L ∧ 1 + mm ≤ p0 ∧ hh ≤ 6 ∧ vv ≤ 5) := hg
          refine lv_aload_n hx hb dX9_reads_26 rfl (lv_at hl 1 rfl) ?_
          refine gf_n (C := RX9) (T := TX9) (N := 15) (ci := 9) (q0 := 0) (v := .int (nI p0)) hx hb hts (iU inlX9) hown hK hP rfl rfl 10 (by decide) (kU u_255) rfl rfl dX9_reads_27 ?_
          refine lv_aload_n hx hb dX9_reads_30 rfl (lv_at hl 1 rfl) ?_
          refine gf_n (C := RX9) (T := TX9) (N := 15) (ci := 9) (q0 := 0) (v := .int (nI L)) hx hb hts (iU inlX9) hown hK hP rfl rfl 7 (by decide) (kU u_174) rfl rfl dX9_reads_31 ?_
          refine lv_icmp_ge (tgt := 46) hx hb dX9_reads_34 (by decide) (fun c_34 => ?_) (fun c_34 => ?_)
          · skip
            replace c_34 := cn_le (by omega) (by omega) c_34
            have hE : rdI X L = (true, p0, hh, vv, g1, g2, g4, g5, g7) := by rw [← y2, rdN_x (by omega)]
            refine lv_iload_n hx hb dX9_reads_46 rfl (lv_at hl 0 rfl) ?_
            exact ct_z (d9) hx hb hr hlocks (by rw [hE]; exact hP) hS (by rw [y1]; exact z_t hok) dX9_reads_47
          · skip
            replace c_34 := cn_nle (by omega) (by omega) c_34
            refine lv_aload_n hx hb dX9_reads_37 rfl (lv_at hl 1 rfl) ?_
            refine lv_iload_n hx hb dX9_reads_38 rfl (lv_at hl 2 rfl) ?_
            refine gp_V (ci := 9) (q0 := 0) (cq := (RX9, TX9, 15)) (c_X9_part1 l D cI cZ cF cL mr rf st L th p0 hh vv d9 xx X 0 0 0 0 0 0 g1 g2 ((fun _ => 0)) g4 g5 ((fun _ => 0)) g7 ((fun _ => 0)) hL hXt (by omega) c_34 y4 y5 (rd_ok y2 (by omega) c_34 hok)) (gUV u_266 u_267 u_268 u_5 u_269) rfl hdV_X9_part ⟨Nat.le_of_ble_eq_true rfl, Nat.le_of_ble_eq_true rfl⟩ ⟨rfl, rfl⟩ hx hb hml hown hts hK hA hP hD hS hl.1 ⟨Nat.le_of_ble_eq_true rfl, Nat.le_of_ble_eq_true rfl⟩ rfl rfl rfl (wr := ([] : va_W)) (pm_cnt (fun _ => by simp only [List.countP_append, List.countP_nil, fT] <;> omega)) (fun _ => by simp only [List.map_append, List.map_nil, fX_m, bX_m, sX_m, pX_m, iaX_m, r5X_m, r6X_m, fT_m, hX_m, tX_m, xX_m, sgX_m, zaX_m, fsB_a, qX_m, mX_m]) (rest := []) rfl rfl (Nat.le_of_ble_eq_true rfl) dX9_reads_39 (ws2 := (fun u_39 : Int32 => (mX mr rf st L th ((rpP X L p0 hh vv g1 g2 g4 g5 g7).2.1) (hsP X p0 hh) (vsP X p0 vv) u_39 xx ++ iaX cI (rf 5) 120 X ++ qX cI (rf 0) 0 0 0 0 0 0 ((rpP X L p0 hh vv g1 g2 g4 g5 g7).2.2.2.2.1) ((rpP X L p0 hh vv g1 g2 g4 g5 g7).2.2.2.2.2.1) ((fun _ => 0)) ((rpP X L p0 hh vv g1 g2 g4 g5 g7).2.2.2.2.2.2.1) ((rpP X L p0 hh vv g1 g2 g4 g5 g7).2.2.2.2.2.2.2.1) ((fun _ => 0)) ((rpP X L p0 hh vv g1 g2 g4 g5 g7).2.2.2.2.2.2.2.2) ((fun _ => 0))))) (fun _ => (pm_cnt (fun _ => by simp only [List.countP_append, List.countP_nil, fT] <;> omega))) (fun u_39 Hp locs hP hD hS => ?_)
            by_cases k43 : True
            · skip
              have k42 := rd_ok y2 (by omega) c_34 hok
              rw [if_pos k42]
              refine lv_istore_n (lv' := [(2, .int (nI 1)), (0, .ref mr), (1, .int (nI 1))]) hx hb dX9_reads_42 rfl hl (by decide) rfl (fun ls hl => ?_)
              refine lv_goto (tgt := 22) hx hb dX9_reads_43 (by decide) ?_
              exact ih_22 1 ((rpP X L p0 hh vv g1 g2 g4 g5 g7).2.1) (hsP X p0 hh) (vsP X p0 vv) u_39 (mm + 1) ((rpP X L p0 hh vv g1 g2 g4 g5 g7).2.2.2.2.1) ((rpP X L p0 hh vv g1 g2 g4 g5 g7).2.2.2.2.2.1) ((rpP X L p0 hh vv g1 g2 g4 g5 g7).2.2.2.2.2.2.1) ((rpP X L p0 hh vv g1 g2 g4 g5 g7).2.2.2.2.2.2.2.1) ((rpP X L p0 hh vv g1 g2 g4 g5 g7).2.2.2.2.2.2.2.2) (by have := rpP_pl (X := X) (L := L) (p := p0) (nH := hh) (nV := vv) (f1 := g1) (f2 := g2) (f4 := g4) (f5 := g5) (f7 := g7); omega) ⟨rfl, rd_st y2 (by omega) c_34 k42, by have := (rp_ok k42).2.2; omega, hsP_6 y4, vsP_5 y5⟩ (by omega) _ _ hP hD hS _ (lv_sub hl [0, 1, 2] rfl)
            · skip
              exact absurd trivial k43
    exact loop_22 (((120 - 0) + 1) + 1) 1 (0 + 1) 0 0 dg0 0 ((fun _ => 0)) ((fun _ => 0)) ((fun _ => 0)) ((fun _ => 0)) ((fun _ => 5)) (by omega) ⟨rfl, hI, by omega, by omega, by omega⟩ (Nat.lt_succ_self _) _ _ hP hD hS _ (lv_sub hl [0, 1, 2] rfl)
  · skip
    exfalso; unfold rdI at hok; rw [if_neg q21] at hok; cases hok
