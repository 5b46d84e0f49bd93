def dgI (X : Nat → Nat) (L p : Nat) : Int32 := if p < L then nI (X p) - nI 48 else (-1)
theorem dgI_s {X : Nat → Nat} {L p lo hi d : Nat} (h : dg X L p lo hi = some d) : dgI X L p = nI d := by
  obtain ⟨h1, h2, h3, h4⟩ := dg_le h
  unfold dgI
  rw [if_pos h3, h4, pk_sub (by omega), Nat.add_sub_cancel_left]
theorem dg_in {X : Nat → Nat} {L p lo hi : Nat} (hX : p < L → X p < 256) (hlo : lo < 2 ^ 20) (hhi : hi < 2 ^ 20) : (nI lo ≤ dgI X L p ∧ dgI X L p ≤ nI hi) ↔ (dg X L p lo hi).isSome = true := by
  unfold dgI dg
  by_cases hp : p < L
  · have h8 := hX hp
    rw [if_pos hp, dgh (by omega) hhi, ← Int32.not_lt, dgl (by omega) hlo]
    by_cases q : p < L ∧ 48 + lo ≤ X p ∧ X p ≤ 48 + hi
    · rw [if_pos q]; exact ⟨fun _ => rfl, fun _ => ⟨by omega, by omega⟩⟩
    · rw [if_neg q]; exact ⟨fun z => absurd ⟨hp, by omega, z.2⟩ q, fun z => by cases z⟩
  · rw [if_neg hp, if_neg (fun q => hp q.1)]
    exact ⟨fun z => absurd z.1 (by rw [Int32.le_iff_toInt_le, nI_toInt (by omega), show ((-1 : Int32)).toInt = -1 by decide]; omega), fun z => by cases z⟩
theorem plD_t {X : Nat → Nat} {L p lo hi : Nat} (h : (dg X L p lo hi).isSome = true) : plD X L p lo hi = p + 1 := by
  cases k : dg X L p lo hi with
  | none => rw [k] at h; cases h
  | some d => exact plD_s k
theorem plD_f {X : Nat → Nat} {L p lo hi : Nat} (h : ¬ (dg X L p lo hi).isSome = true) : plD X L p lo hi = p := by
  cases k : dg X L p lo hi with
  | none => exact plD_n k
  | some d => rw [k] at h; exact absurd rfl h
def hsP (X : Nat → Nat) (p n : Nat) : Nat := if X p = 104 ∧ n < 6 then n + 1 else n
def vsP (X : Nat → Nat) (p n : Nat) : Nat := if X p = 118 ∧ n < 5 then n + 1 else n
section
variable {X : Nat → Nat} {L p nH nV n : Nat} {f1 f2 f4 f5 f7 : Nat → Nat}
theorem hsP_t (h : X p = 104 ∧ n < 6) : hsP X p n = n + 1 := if_pos h
theorem hsP_f (h : ¬ (X p = 104 ∧ n < 6)) : hsP X p n = n := if_neg h
theorem vsP_t (h : X p = 118 ∧ n < 5) : vsP X p n = n + 1 := if_pos h
theorem vsP_f (h : ¬ (X p = 118 ∧ n < 5)) : vsP X p n = n := if_neg h
theorem rpP_h (h : X p = 104 ∧ nH < 6) : rpP X L p nH nV f1 f2 f4 f5 f7 = rpH X L p nH nV f1 f2 f4 f5 f7 := if_pos h
theorem rpP_v (h1 : ¬ (X p = 104 ∧ nH < 6)) (h : X p = 118 ∧ nV < 5) : rpP X L p nH nV f1 f2 f4 f5 f7 = rpV X L p nH nV f1 f2 f4 f5 f7 := (if_neg h1).trans (if_pos h)
theorem rpP_l (h1 : ¬ (X p = 104 ∧ nH < 6)) (h2 : ¬ (X p = 118 ∧ nV < 5)) (h : X p = 108 ∧ 0 < nH ∧ 0 < nV) : rpP X L p nH nV f1 f2 f4 f5 f7 = rpL X L p nH nV f1 f2 f4 f5 f7 := (if_neg h1).trans ((if_neg h2).trans (if_pos h))
theorem rpP_s (h1 : ¬ (X p = 104 ∧ nH < 6)) (h2 : ¬ (X p = 118 ∧ nV < 5)) (h3 : ¬ (X p = 108 ∧ 0 < nH ∧ 0 < nV)) (h : X p = 115 ∧ 0 < nH) : rpP X L p nH nV f1 f2 f4 f5 f7 = rpS X L p nH nV f1 f2 f4 f5 f7 := (if_neg h1).trans ((if_neg h2).trans ((if_neg h3).trans (if_pos h)))
theorem rpP_n (h1 : ¬ (X p = 104 ∧ nH < 6)) (h2 : ¬ (X p = 118 ∧ nV < 5)) (h3 : ¬ (X p = 108 ∧ 0 < nH ∧ 0 < nV)) (h4 : ¬ (X p = 115 ∧ 0 < nH)) : rpP X L p nH nV f1 f2 f4 f5 f7 = (false, p, nH, nV, f1, f2, f4, f5, f7) := (if_neg h1).trans ((if_neg h2).trans ((if_neg h3).trans (if_neg h4)))
end
set_option maxRecDepth 20000 in
theorem u_255 : Cond.fieldLink RX9 97 "HarvestBoxesModel" "place" "I" ∈ wsL_law := List.mem_of_getElem? (i := 255) (by decide +kernel)
set_option maxRecDepth 20000 in
theorem u_174 : Cond.fieldLink RX9 94 "HarvestBoxesModel" "length" "I" ∈ wsL_law := List.mem_of_getElem? (i := 174) (by decide +kernel)
set_option maxRecDepth 20000 in
theorem u_134 : Cond.fieldLink RX9 26 "HarvestBoxesModel" "text" "[I" ∈ wsL_law := List.mem_of_getElem? (i := 134) (by decide +kernel)
set_option maxHeartbeats 4000000 in
set_option maxRecDepth 100000 in
theorem c_X9_letter (l : Launch) (D : va_G) (cI cZ cF cL : ClassId) (mr : Nat) (rf : Nat → Nat) (st L th pl hs vs : Nat) (dg0 : Int32) (xx : Int64) (X : Nat → Nat) (ch : Nat) (hL : L ≤ 120) (hXt : ∀ k, k < 120 → X k < 256) (hpp : pl < 2 ^ 20) (hc : ch < 256) : CT l D (tysX cI cZ cF cL) yX9_letter (wA yX9_letter cX9_letter 3 (some .boolean)) (rmF 0 0) [.ref mr, .int (nI ch)] (mX mr rf st L th pl hs vs dg0 xx ++ iaX cI (rf 5) 120 X) (some (.int (if (pl < L ∧ X pl = ch) then 1 else 0))) (fun _ : Unit => (mX mr rf st L th (if (pl < L ∧ X pl = ch) then pl + 1 else pl) hs vs dg0 xx ++ iaX cI (rf 5) 120 X)) := by
  refine ct_in (cc := cX9_letter) (maxL := 3) (ret := (some .boolean)) (own := RX9) (lv := [(0, .ref mr), (1, .int (nI ch))]) (by decide +kernel) rfl rfl (Nat.le_of_ble_eq_true rfl) rfl ?_
  intro p e s m args below meth c A ls hx hb hr hml hts hown hlocks hK hA hP hD hS hl
  refine lv_aload_n hx hb dX9_letter_0 rfl (lv_at hl 0 rfl) ?_
  refine gf_n (C := RX9) (T := TX9) (N := 15) (ci := 9) (q0 := 0) (v := .int (nI pl)) hx hb hts (iU inlX9) hown hK hP rfl rfl 10 (by decide) (kU u_255) rfl rfl dX9_letter_1 ?_
  refine lv_aload_n hx hb dX9_letter_4 rfl (lv_at hl 0 rfl) ?_
  refine gf_n (C := RX9) (T := TX9) (N := 15) (ci := 9) (q0 := 0) (v := .int (nI L)) hx hb hts (iU inlX9) hown hK hP rfl rfl 7 (by decide) (kU u_174) rfl rfl dX9_letter_5 ?_
  refine lv_icmp_ge (tgt := 28) hx hb dX9_letter_8 (by decide) (fun c_8 => ?_) (fun c_8 => ?_)
  · skip
    replace c_8 := cn_le (by omega) (by omega) c_8
    refine lv_iconst (v := (nI 0)) hx hb dX9_letter_28 (by decide) ?_
    refine lv_istore_n (lv' := [(2, .int (nI 0)), (0, .ref mr), (1, .int (nI ch))]) hx hb dX9_letter_29 rfl hl (by decide) rfl (fun ls hl => ?_)
    refine lv_aload_n hx hb dX9_letter_30 rfl (lv_at hl 1 rfl) ?_
    refine lv_dup hx hb dX9_letter_31 rfl ?_
    refine gf_n (C := RX9) (T := TX9) (N := 15) (ci := 9) (q0 := 0) (v := .int (nI pl)) hx hb hts (iU inlX9) hown hK hP rfl rfl 10 (by decide) (kU u_255) rfl rfl dX9_letter_32 ?_
    refine lv_iload_n hx hb dX9_letter_35 rfl (lv_at hl 0 rfl) ?_
    refine lv_if_eq (tgt := 43) hx hb dX9_letter_36 (by decide) (fun _ => ?_) (fun c_36 => absurd (by decide +kernel) c_36)
    refine lv_iconst (v := (nI 0)) hx hb dX9_letter_43 (by decide) ?_
    refine lv_iadd hx hb dX9_letter_44 ?_
    rw [nI_add pl 0]
    refine pf_n (C := RX9) (T := TX9) (N := 15) (ci := 9) (q0 := 0) (ty := .int) (v := .int (nI (pl + 0))) (ws2 := (mX mr rf st L th (pl + 0) hs vs dg0 xx ++ iaX cI (rf 5) 120 X)) hx hb hts (iU inlX9) tyX9 tyX9_ok nmX9 hown hK hP hD hS rfl rfl 10 (by decide) (kU u_255) rfl rfl (tyX9_ok 10 (by decide)) rfl rfl (Nat.le_of_ble_eq_true rfl) dX9_letter_45 rfl (fun Hp locs hP hD hS => ?_)
    refine lv_iload_n hx hb dX9_letter_48 rfl (lv_at hl 0 rfl) ?_
    exact ct_z () hx hb hr hlocks (by first | (rw [if_pos ⟨c_8, c_21⟩]; exact hP) | (rw [if_neg (show ¬ (pl < L ∧ X pl = ch) from fun q => absurd q.1 (Nat.not_lt.mpr c_8))]; exact hP) | (rw [if_neg (show ¬ (pl < L ∧ X pl = ch) from fun q => c_21 q.2)]; exact hP)) hS (by first | exact z_t ⟨c_8, c_21⟩ | exact z_f (fun q => absurd q.1 (Nat.not_lt.mpr c_8)) | exact z_f (fun q => c_21 q.2)) dX9_letter_49
  · skip
    replace c_8 := cn_nle (by omega) (by omega) c_8
    refine lv_aload_n hx hb dX9_letter_11 rfl (lv_at hl 0 rfl) ?_
    refine gf_n (C := RX9) (T := TX9) (N := 15) (ci := 9) (q0 := 0) (v := .ref (rf 5)) hx hb hts (iU inlX9) hown hK hP rfl rfl 6 (by decide) (kU u_134) rfl rfl dX9_letter_12 ?_
    refine lv_aload_n hx hb dX9_letter_15 rfl (lv_at hl 0 rfl) ?_
    refine gf_n (C := RX9) (T := TX9) (N := 15) (ci := 9) (q0 := 0) (v := .int (nI pl)) hx hb hts (iU inlX9) hown hK hP rfl rfl 10 (by decide) (kU u_255) rfl rfl dX9_letter_16 ?_
    refine ia_n (q0 := 1) (t0 := 0) hx hb hK hP rfl rfl (by omega) (by decide) dX9_letter_19 ?_
    refine lv_iload_n hx hb dX9_letter_20 rfl (lv_at hl 1 rfl) ?_
    refine lv_icmp_ne (tgt := 28) hx hb dX9_letter_21 (by decide) (fun c_21 => ?_) (fun c_21 => ?_)
    · skip
      replace c_21 := cn_ne c_21
      refine lv_iconst (v := (nI 0)) hx hb dX9_letter_28 (by decide) ?_
      refine lv_istore_n (lv' := [(2, .int (nI 0)), (0, .ref mr), (1, .int (nI ch))]) hx hb dX9_letter_29 rfl hl (by decide) rfl (fun ls hl => ?_)
      refine lv_aload_n hx hb dX9_letter_30 rfl (lv_at hl 1 rfl) ?_
      refine lv_dup hx hb dX9_letter_31 rfl ?_
      refine gf_n (C := RX9) (T := TX9) (N := 15) (ci := 9) (q0 := 0) (v := .int (nI pl)) hx hb hts (iU inlX9) hown hK hP rfl rfl 10 (by decide) (kU u_255) rfl rfl dX9_letter_32 ?_
      refine lv_iload_n hx hb dX9_letter_35 rfl (lv_at hl 0 rfl) ?_
      refine lv_if_eq (tgt := 43) hx hb dX9_letter_36 (by decide) (fun _ => ?_) (fun c_36 => absurd (by decide +kernel) c_36)
      refine lv_iconst (v := (nI 0)) hx hb dX9_letter_43 (by decide) ?_
      refine lv_iadd hx hb dX9_letter_44 ?_
      rw [nI_add pl 0]
      refine pf_n (C := RX9) (T := TX9) (N := 15) (ci := 9) (q0 := 0) (ty := .int) (v := .int (nI (pl + 0))) (ws2 := (mX mr rf st L th (pl + 0) hs vs dg0 xx ++ iaX cI (rf 5) 120 X)) hx hb hts (iU inlX9) tyX9 tyX9_ok nmX9 hown hK hP hD hS rfl rfl 10 (by decide) (kU u_255) rfl rfl (tyX9_ok 10 (by decide)) rfl rfl (Nat.le_of_ble_eq_true rfl) dX9_letter_45 rfl (fun Hp locs hP hD hS => ?_)
      refine lv_iload_n hx hb dX9_letter_48 rfl (lv_at hl 0 rfl) ?_
      exact ct_z () hx hb hr hlocks (by first | (rw [if_pos ⟨c_8, c_21⟩]; exact hP) | (rw [if_neg (show ¬ (pl < L ∧ X pl = ch) from fun q => absurd q.1 (Nat.not_lt.mpr c_8))]; exact hP) | (rw [if_neg (show ¬ (pl < L ∧ X pl = ch) from fun q => c_21 q.2)]; exact hP)) hS (by first | exact z_t ⟨c_8, c_21⟩ | exact z_f (fun q => absurd q.1 (Nat.not_lt.mpr c_8)) | exact z_f (fun q => c_21 q.2)) dX9_letter_49
    · skip
      replace c_21 := cn_eq (by have := hXt pl (by omega); omega) (by have := hXt pl (by omega); omega) c_21
      refine lv_iconst (v := (nI 1)) hx hb dX9_letter_24 (by decide) ?_
      refine lv_goto (tgt := 29) hx hb dX9_letter_25 (by decide) ?_
      refine lv_istore_n (lv' := [(2, .int (nI 1)), (0, .ref mr), (1, .int (nI ch))]) hx hb dX9_letter_29 rfl hl (by decide) rfl (fun ls hl => ?_)
      refine lv_aload_n hx hb dX9_letter_30 rfl (lv_at hl 1 rfl) ?_
      refine lv_dup hx hb dX9_letter_31 rfl ?_
      refine gf_n (C := RX9) (T := TX9) (N := 15) (ci := 9) (q0 := 0) (v := .int (nI pl)) hx hb hts (iU inlX9) hown hK hP rfl rfl 10 (by decide) (kU u_255) rfl rfl dX9_letter_32 ?_
      refine lv_iload_n hx hb dX9_letter_35 rfl (lv_at hl 0 rfl) ?_
      refine lv_if_eq (tgt := 43) hx hb dX9_letter_36 (by decide) (fun c_36 => absurd c_36 (by decide +kernel)) (fun _ => ?_)
      refine lv_iconst (v := (nI 1)) hx hb dX9_letter_39 (by decide) ?_
      refine lv_goto (tgt := 44) hx hb dX9_letter_40 (by decide) ?_
      refine lv_iadd hx hb dX9_letter_44 ?_
      rw [nI_add pl 1]
      refine pf_n (C := RX9) (T := TX9) (N := 15) (ci := 9) (q0 := 0) (ty := .int) (v := .int (nI (pl + 1))) (ws2 := (mX mr rf st L th (pl + 1) hs vs dg0 xx ++ iaX cI (rf 5) 120 X)) hx hb hts (iU inlX9) tyX9 tyX9_ok nmX9 hown hK hP hD hS rfl rfl 10 (by decide) (kU u_255) rfl rfl (tyX9_ok 10 (by decide)) rfl rfl (Nat.le_of_ble_eq_true rfl) dX9_letter_45 rfl (fun Hp locs hP hD hS => ?_)
      refine lv_iload_n hx hb dX9_letter_48 rfl (lv_at hl 0 rfl) ?_
      exact ct_z () hx hb hr hlocks (by first | (rw [if_pos ⟨c_8, c_21⟩]; exact hP) | (rw [if_neg (show ¬ (pl < L ∧ X pl = ch) from fun q => absurd q.1 (Nat.not_lt.mpr c_8))]; exact hP) | (rw [if_neg (show ¬ (pl < L ∧ X pl = ch) from fun q => c_21 q.2)]; exact hP)) hS (by first | exact z_t ⟨c_8, c_21⟩ | exact z_f (fun q => absurd q.1 (Nat.not_lt.mpr c_8)) | exact z_f (fun q => c_21 q.2)) dX9_letter_49
set_option maxRecDepth 20000 in
theorem u_270 : Cond.fieldLink RX9 100 "HarvestBoxesModel" "digit" "I" ∈ wsL_law := List.mem_of_getElem? (i := 270) (by decide +kernel)
set_option maxHeartbeats 4000000 in
set_option maxRecDepth 100000 in
theorem c_X9_digitTo (l : Launch) (D : va_G) (cI cZ cF cL : ClassId) (mr : Nat) (rf : Nat → Nat) (st L th pl hs vs : Nat) (dg0 : Int32) (xx : Int64) (X : Nat → Nat) (lo hi : Nat) (hL : L ≤ 120) (hXt : ∀ k, k < 120 → X k < 256) (hpp : pl < 2 ^ 20) (hlo : lo < 256) (hhi : hi < 256) : CT l D (tysX cI cZ cF cL) yX9_digitTo (wA yX9_digitTo cX9_digitTo 4 (some .boolean)) (rmF 1 22) [.ref mr, .int (nI lo), .int (nI hi)] (mX mr rf st L th pl hs vs dg0 xx ++ iaX cI (rf 5) 120 X) (some (.int (if ((dg X L pl lo hi).isSome = true) then 1 else 0))) (fun _ : Unit => (mX mr rf st L th (plD X L pl lo hi) hs vs (dgI X L pl) xx ++ iaX cI (rf 5) 120 X)) := by
  refine ct_in (cc := cX9_digitTo) (maxL := 4) (ret := (some .boolean)) (own := RX9) (lv := [(0, .ref mr), (1, .int (nI lo)), (2, .int (nI hi))]) (by decide +kernel) rfl rfl (Nat.le_of_ble_eq_true rfl) rfl ?_
  intro p e s m args below meth c A ls hx hb hr hml hts hown hlocks hK hA hP hD hS hl
  refine lv_aload_n hx hb dX9_digitTo_0 rfl (lv_at hl 0 rfl) ?_
  refine lv_aload_n hx hb dX9_digitTo_1 rfl (lv_at hl 0 rfl) ?_
  refine gf_n (C := RX9) (T := TX9) (N := 15) (ci := 9) (q0 := 0) (v := .int (nI pl)) hx hb hts (iU inlX9) hown hK hP rfl rfl 10 (by decide) (kU u_255) rfl rfl dX9_digitTo_2 ?_
  refine lv_aload_n hx hb dX9_digitTo_5 rfl (lv_at hl 0 rfl) ?_
  refine gf_n (C := RX9) (T := TX9) (N := 15) (ci := 9) (q0 := 0) (v := .int (nI L)) hx hb hts (iU inlX9) hown hK hP rfl rfl 7 (by decide) (kU u_174) rfl rfl dX9_digitTo_6 ?_
  refine lv_icmp_ge (tgt := 27) hx hb dX9_digitTo_9 (by decide) (fun c_9 => ?_) (fun c_9 => ?_)
  · skip
    replace c_9 := cn_le (by omega) (by omega) c_9
    refine lv_iconst (v := ((-1))) hx hb dX9_digitTo_27 (by decide) ?_
    rw [show ((-1)) = (dgI X L pl) from (if_neg (Nat.not_lt.mpr c_9)).symm]
    refine pf_n (C := RX9) (T := TX9) (N := 15) (ci := 9) (q0 := 0) (ty := .int) (v := .int (dgI X L pl)) (ws2 := (mX mr rf st L th pl hs vs (dgI X L pl) xx ++ iaX cI (rf 5) 120 X)) hx hb hts (iU inlX9) tyX9 tyX9_ok nmX9 hown hK hP hD hS rfl rfl 13 (by decide) (kU u_270) rfl rfl (tyX9_ok 13 (by decide)) rfl rfl (Nat.le_of_ble_eq_true rfl) dX9_digitTo_28 rfl (fun Hp locs hP hD hS => ?_)
    refine lv_aload_n hx hb dX9_digitTo_31 rfl (lv_at hl 0 rfl) ?_
    refine gf_n (C := RX9) (T := TX9) (N := 15) (ci := 9) (q0 := 0) (v := .int (dgI X L pl)) hx hb hts (iU inlX9) hown hK hP rfl rfl 13 (by decide) (kU u_270) rfl rfl dX9_digitTo_32 ?_
    refine lv_iload_n hx hb dX9_digitTo_35 rfl (lv_at hl 1 rfl) ?_
    refine lv_iload_n hx hb dX9_digitTo_36 rfl (lv_at hl 2 rfl) ?_
    refine gp_S (c_X9_in l D cI cZ cF cL ((dgI X L pl)) ((nI lo)) ((nI hi)) ) (gUS u_140 u_141 u_5 u_142) rfl hdS_X9_in ⟨Nat.le_of_ble_eq_true rfl, Nat.le_of_ble_eq_true rfl⟩ ⟨rfl, rfl⟩ hx hb hml hown hts hK hA hP hD hS hl.1 ⟨Nat.le_of_ble_eq_true rfl, Nat.le_of_ble_eq_true rfl⟩ (wr := (mX mr rf st L th pl hs vs (dgI X L pl) xx ++ iaX cI (rf 5) 120 X)) (pm_cnt (fun _ => by simp only [List.countP_append, List.countP_nil, fT] <;> omega)) (fun _ => by simp only [List.map_append, List.map_nil, fX_m, bX_m, sX_m, pX_m, iaX_m, r5X_m, r6X_m, fT_m, hX_m, tX_m, xX_m, sgX_m, zaX_m, fsB_a, qX_m, mX_m]) (rest := []) rfl rfl (Nat.le_of_ble_eq_true rfl) dX9_digitTo_37 (ws2 := (fun _ : Unit => (mX mr rf st L th pl hs vs (dgI X L pl) xx ++ iaX cI (rf 5) 120 X))) (fun _ => (pm_cnt (fun _ => by simp only [List.countP_append, List.countP_nil, fT] <;> omega))) (fun _ Hp locs hP hD hS => ?_)
    refine lv_istore_n (lv' := [(3, .int (if (((nI lo)) ≤ ((dgI X L pl)) ∧ ((dgI X L pl)) ≤ ((nI hi))) then 1 else 0)), (0, .ref mr), (1, .int (nI lo)), (2, .int (nI hi))]) hx hb dX9_digitTo_40 rfl hl (by decide) rfl (fun ls hl => ?_)
    refine lv_aload_n hx hb dX9_digitTo_41 rfl (lv_at hl 1 rfl) ?_
    refine lv_dup hx hb dX9_digitTo_42 rfl ?_
    refine gf_n (C := RX9) (T := TX9) (N := 15) (ci := 9) (q0 := 0) (v := .int (nI pl)) hx hb hts (iU inlX9) hown hK hP rfl rfl 10 (by decide) (kU u_255) rfl rfl dX9_digitTo_43 ?_
    refine lv_iload_n hx hb dX9_digitTo_46 rfl (lv_at hl 0 rfl) ?_
    refine lv_if_eq (tgt := 54) hx hb dX9_digitTo_47 (by decide) (fun c_47 => ?_) (fun c_47 => ?_)
    · skip
      replace c_47 := cb_z c_47
      refine lv_iconst (v := (nI 0)) hx hb dX9_digitTo_54 (by decide) ?_
      refine lv_iadd hx hb dX9_digitTo_55 ?_
      rw [nI_add pl 0]
      refine pf_n (C := RX9) (T := TX9) (N := 15) (ci := 9) (q0 := 0) (ty := .int) (v := .int (nI (pl + 0))) (ws2 := (mX mr rf st L th (pl + 0) hs vs (dgI X L pl) xx ++ iaX cI (rf 5) 120 X)) hx hb hts (iU inlX9) tyX9 tyX9_ok nmX9 hown hK hP hD hS rfl rfl 10 (by decide) (kU u_255) rfl rfl (tyX9_ok 10 (by decide)) rfl rfl (Nat.le_of_ble_eq_true rfl) dX9_digitTo_56 rfl (fun Hp locs hP hD hS => ?_)
      refine lv_iload_n hx hb dX9_digitTo_59 rfl (lv_at hl 0 rfl) ?_
      exact ct_z () hx hb hr hlocks (by first | (rw [plD_t ((dg_in (fun _ => hXt pl (by omega)) (by omega) (by omega)).mp c_47)]; exact hP) | (rw [plD_f (fun q => c_47 ((dg_in (fun _ => hXt pl (by omega)) (by omega) (by omega)).mpr q))]; exact hP)) hS (zc (dg_in (fun _ => hXt pl (by omega)) (by omega) (by omega))) dX9_digitTo_60
    · skip
      replace c_47 := cb_nz c_47
      refine lv_iconst (v := (nI 1)) hx hb dX9_digitTo_50 (by decide) ?_
      refine lv_goto (tgt := 55) hx hb dX9_digitTo_51 (by decide) ?_
      refine lv_iadd hx hb dX9_digitTo_55 ?_
      rw [nI_add pl 1]
      refine pf_n (C := RX9) (T := TX9) (N := 15) (ci := 9) (q0 := 0) (ty := .int) (v := .int (nI (pl + 1))) (ws2 := (mX mr rf st L th (pl + 1) hs vs (dgI X L pl) xx ++ iaX cI (rf 5) 120 X)) hx hb hts (iU inlX9) tyX9 tyX9_ok nmX9 hown hK hP hD hS rfl rfl 10 (by decide) (kU u_255) rfl rfl (tyX9_ok 10 (by decide)) rfl rfl (Nat.le_of_ble_eq_true rfl) dX9_digitTo_56 rfl (fun Hp locs hP hD hS => ?_)
      refine lv_iload_n hx hb dX9_digitTo_59 rfl (lv_at hl 0 rfl) ?_
      exact ct_z () hx hb hr hlocks (by first | (rw [plD_t ((dg_in (fun _ => hXt pl (by omega)) (by omega) (by omega)).mp c_47)]; exact hP) | (rw [plD_f (fun q => c_47 ((dg_in (fun _ => hXt pl (by omega)) (by omega) (by omega)).mpr q))]; exact hP)) hS (zc (dg_in (fun _ => hXt pl (by omega)) (by omega) (by omega))) dX9_digitTo_60
  · skip
    replace c_9 := cn_nle (by omega) (by omega) c_9
    refine lv_aload_n hx hb dX9_digitTo_12 rfl (lv_at hl 0 rfl) ?_
    refine gf_n (C := RX9) (T := TX9) (N := 15) (ci := 9) (q0 := 0) (v := .ref (rf 5)) hx hb hts (iU inlX9) hown hK hP rfl rfl 6 (by decide) (kU u_134) rfl rfl dX9_digitTo_13 ?_
    refine lv_aload_n hx hb dX9_digitTo_16 rfl (lv_at hl 0 rfl) ?_
    refine gf_n (C := RX9) (T := TX9) (N := 15) (ci := 9) (q0 := 0) (v := .int (nI pl)) hx hb hts (iU inlX9) hown hK hP rfl rfl 10 (by decide) (kU u_255) rfl rfl dX9_digitTo_17 ?_
    refine ia_n (q0 := 1) (t0 := 0) hx hb hK hP rfl rfl (by omega) (by decide) dX9_digitTo_20 ?_
    refine lv_bipush (v := (nI 48)) hx hb dX9_digitTo_21 (by decide) ?_
    refine lv_isub hx hb dX9_digitTo_23 ?_
    rw [show ((nI (X pl)) - (nI 48)) = (dgI X L pl) from (if_pos c_9).symm]
    refine lv_goto (tgt := 28) hx hb dX9_digitTo_24 (by decide) ?_
    refine pf_n (C := RX9) (T := TX9) (N := 15) (ci := 9) (q0 := 0) (ty := .int) (v := .int (dgI X L pl)) (ws2 := (mX mr rf st L th pl hs vs (dgI X L pl) xx ++ iaX cI (rf 5) 120 X)) hx hb hts (iU inlX9) tyX9 tyX9_ok nmX9 hown hK hP hD hS rfl rfl 13 (by decide) (kU u_270) rfl rfl (tyX9_ok 13 (by decide)) rfl rfl (Nat.le_of_ble_eq_true rfl) dX9_digitTo_28 rfl (fun Hp locs hP hD hS => ?_)
    refine lv_aload_n hx hb dX9_digitTo_31 rfl (lv_at hl 0 rfl) ?_
    refine gf_n (C := RX9) (T := TX9) (N := 15) (ci := 9) (q0 := 0) (v := .int (dgI X L pl)) hx hb hts (iU inlX9) hown hK hP rfl rfl 13 (by decide) (kU u_270) rfl rfl dX9_digitTo_32 ?_
    refine lv_iload_n hx hb dX9_digitTo_35 rfl (lv_at hl 1 rfl) ?_
    refine lv_iload_n hx hb dX9_digitTo_36 rfl (lv_at hl 2 rfl) ?_
    refine gp_S (c_X9_in l D cI cZ cF cL ((dgI X L pl)) ((nI lo)) ((nI hi)) ) (gUS u_140 u_141 u_5 u_142) rfl hdS_X9_in ⟨Nat.le_of_ble_eq_true rfl, Nat.le_of_ble_eq_true rfl⟩ ⟨rfl, rfl⟩ hx hb hml hown hts hK hA hP hD hS hl.1 ⟨Nat.le_of_ble_eq_true rfl, Nat.le_of_ble_eq_true rfl⟩ (wr := (mX mr rf st L th pl hs vs (dgI X L pl) xx ++ iaX cI (rf 5) 120 X)) (pm_cnt (fun _ => by simp only [List.countP_append, List.countP_nil, fT] <;> omega)) (fun _ => by simp only [List.map_append, List.map_nil, fX_m, bX_m, sX_m, pX_m, iaX_m, r5X_m, r6X_m, fT_m, hX_m, tX_m, xX_m, sgX_m, zaX_m, fsB_a, qX_m, mX_m]) (rest := []) rfl rfl (Nat.le_of_ble_eq_true rfl) dX9_digitTo_37 (ws2 := (fun _ : Unit => (mX mr rf st L th pl hs vs (dgI X L pl) xx ++ iaX cI (rf 5) 120 X))) (fun _ => (pm_cnt (fun _ => by simp only [List.countP_append, List.countP_nil, fT] <;> omega))) (fun _ Hp locs hP hD hS => ?_)
    refine lv_istore_n (lv' := [(3, .int (if (((nI lo)) ≤ ((dgI X L pl)) ∧ ((dgI X L pl)) ≤ ((nI hi))) then 1 else 0)), (0, .ref mr), (1, .int (nI lo)), (2, .int (nI hi))]) hx hb dX9_digitTo_40 rfl hl (by decide) rfl (fun ls hl => ?_)
    refine lv_aload_n hx hb dX9_digitTo_41 rfl (lv_at hl 1 rfl) ?_
    refine lv_dup hx hb dX9_digitTo_42 rfl ?_
    refine gf_n (C := RX9) (T := TX9) (N := 15) (ci := 9) (q0 := 0) (v := .int (nI pl)) hx hb hts (iU inlX9) hown hK hP rfl rfl 10 (by decide) (kU u_255) rfl rfl dX9_digitTo_43 ?_
    refine lv_iload_n hx hb dX9_digitTo_46 rfl (lv_at hl 0 rfl) ?_
    refine lv_if_eq (tgt := 54) hx hb dX9_digitTo_47 (by decide) (fun c_47 => ?_) (fun c_47 => ?_)
    · skip
      replace c_47 := cb_z c_47
      refine lv_iconst (v := (nI 0)) hx hb dX9_digitTo_54 (by decide) ?_
      refine lv_iadd hx hb dX9_digitTo_55 ?_
      rw [nI_add pl 0]
      refine pf_n (C := RX9) (T := TX9) (N := 15) (ci := 9) (q0 := 0) (ty := .int) (v := .int (nI (pl + 0))) (ws2 := (mX mr rf st L th (pl + 0) hs vs (dgI X L pl) xx ++ iaX cI (rf 5) 120 X)) hx hb hts (iU inlX9) tyX9 tyX9_ok nmX9 hown hK hP hD hS rfl rfl 10 (by decide) (kU u_255) rfl rfl (tyX9_ok 10 (by decide)) rfl rfl (Nat.le_of_ble_eq_true rfl) dX9_digitTo_56 rfl (fun Hp locs hP hD hS => ?_)
      refine lv_iload_n hx hb dX9_digitTo_59 rfl (lv_at hl 0 rfl) ?_
      exact ct_z () hx hb hr hlocks (by first | (rw [plD_t ((dg_in (fun _ => hXt pl (by omega)) (by omega) (by omega)).mp c_47)]; exact hP) | (rw [plD_f (fun q => c_47 ((dg_in (fun _ => hXt pl (by omega)) (by omega) (by omega)).mpr q))]; exact hP)) hS (zc (dg_in (fun _ => hXt pl (by omega)) (by omega) (by omega))) dX9_digitTo_60
    · skip
      replace c_47 := cb_nz c_47
      refine lv_iconst (v := (nI 1)) hx hb dX9_digitTo_50 (by decide) ?_
      refine lv_goto (tgt := 55) hx hb dX9_digitTo_51 (by decide) ?_
      refine lv_iadd hx hb dX9_digitTo_55 ?_
      rw [nI_add pl 1]
      refine pf_n (C := RX9) (T := TX9) (N := 15) (ci := 9) (q0 := 0) (ty := .int) (v := .int (nI (pl + 1))) (ws2 := (mX mr rf st L th (pl + 1) hs vs (dgI X L pl) xx ++ iaX cI (rf 5) 120 X)) hx hb hts (iU inlX9) tyX9 tyX9_ok nmX9 hown hK hP hD hS rfl rfl 10 (by decide) (kU u_255) rfl rfl (tyX9_ok 10 (by decide)) rfl rfl (Nat.le_of_ble_eq_true rfl) dX9_digitTo_56 rfl (fun Hp locs hP hD hS => ?_)
      refine lv_iload_n hx hb dX9_digitTo_59 rfl (lv_at hl 0 rfl) ?_
      exact ct_z () hx hb hr hlocks (by first | (rw [plD_t ((dg_in (fun _ => hXt pl (by omega)) (by omega) (by omega)).mp c_47)]; exact hP) | (rw [plD_f (fun q => c_47 ((dg_in (fun _ => hXt pl (by omega)) (by omega) (by omega)).mpr q))]; exact hP)) hS (zc (dg_in (fun _ => hXt pl (by omega)) (by omega) (by omega))) dX9_digitTo_60
