def encM : Option Nat → Int32
  | none => (-1)
  | some h => nI h
theorem pt_pos {f1 f2 f3 f4 : Nat → Nat} {i : Nat} (c : getsB f2 f4 i) (h1 : 1 ≤ f1 i) : 0 < partN f1 f2 f3 f4 i := by unfold partN; rw [if_pos c]; split <;> omega
theorem pt_zero {f1 f2 f3 f4 : Nat → Nat} {i : Nat} (c : ¬ getsB f2 f4 i) : partN f1 f2 f3 f4 i = 0 := by unfold partN; rw [if_neg c]
section
variable {f1 f2 f3 f4 f7 g : Nat → Nat} {v i b : Nat}
theorem kr_no (h : ¬ (getsB f2 f4 i ∧ 0 < f7 (i * 5 + v))) : kz f7 (partN f1 f2 f3 f4) g v (i + 1) = kz f7 (partN f1 f2 f3 f4) g v i := by
  rw [kz, if_neg]
  rintro ⟨q1, q2⟩
  by_cases c : getsB f2 f4 i
  · exact h ⟨c, q2⟩
  · rw [pt_zero c] at q1; omega
theorem kr_0 (c : getsB f2 f4 i) (h1 : 1 ≤ f1 i) (hf : 0 < f7 (i * 5 + v)) (hk : kz f7 (partN f1 f2 f3 f4) g v i = none) : kz f7 (partN f1 f2 f3 f4) g v (i + 1) = some i := by
  rw [kz, if_pos ⟨pt_pos c h1, hf⟩, hk]
theorem kr_1 (c : getsB f2 f4 i) (h1 : 1 ≤ f1 i) (hf : 0 < f7 (i * 5 + v)) (hk : kz f7 (partN f1 f2 f3 f4) g v i = some b) (hw : wz f7 g v b < wz f7 g v i) : kz f7 (partN f1 f2 f3 f4) g v (i + 1) = some i := by
  rw [kz, if_pos ⟨pt_pos c h1, hf⟩, hk]; exact if_pos hw
theorem kr_2 (c : getsB f2 f4 i) (h1 : 1 ≤ f1 i) (hf : 0 < f7 (i * 5 + v)) (hk : kz f7 (partN f1 f2 f3 f4) g v i = some b) (hw : ¬ wz f7 g v b < wz f7 g v i) : kz f7 (partN f1 f2 f3 f4) g v (i + 1) = some b := by
  rw [kz, if_pos ⟨pt_pos c h1, hf⟩, hk]; exact if_neg hw
theorem wzx (h1 : f7 (i * 5 + v) ≤ 9) (h2 : g i ≤ 1000) (h3 : f7 (b * 5 + v) ≤ 9) (h4 : g b ≤ 1000) : (nI (f7 (i * 5 + v)) - nI (2 * g i) ≤ nI (f7 (b * 5 + v)) - nI (2 * g b)) ↔ ¬ wz f7 g v b < wz f7 g v i := by
  rw [Int32.le_iff_toInt_le, pk_sub_toInt (by omega) (by omega), pk_sub_toInt (by omega) (by omega)]
  unfold wz
  omega
end
theorem kz_cg {f7 pt g2 h2 : Nat → Nat} {v : Nat} : ∀ n, (∀ h, h < n → g2 h = h2 h) → kz f7 pt g2 v n = kz f7 pt h2 v n
  | 0, _ => rfl
  | n + 1, h => by
    have ih := kz_cg (f7 := f7) (pt := pt) (v := v) n (fun j hj => h j (by omega))
    rw [kz, kz, ih]
    split
    · cases hk : kz f7 pt h2 v n with
      | none => rfl
      | some b =>
        have hb := kz_lt n b hk
        dsimp only
        unfold wz
        rw [h n (by omega), h b (by omega)]
    · rfl
theorem encM_lt {o : Option Nat} {n : Nat} (hn : ∀ b, o = some b → b < n) (h9 : n < 2 ^ 31) : encM o < nI 0 ↔ o = none := by
  cases o with
  | none => exact ⟨fun _ => rfl, fun _ => by show (-1 : Int32) < nI 0; decide⟩
  | some b => exact ⟨fun q => absurd (cn_lt (by have := hn b rfl; omega) (by decide) q) (Nat.not_lt_zero _), fun q => by cases q⟩
set_option maxRecDepth 20000 in
theorem u_135 : Cond.fieldLink RX9 29 "HarvestBoxesModel" "got" "[I" ∈ wsL_law := List.mem_of_getElem? (i := 135) (by decide +kernel)
set_option maxHeartbeats 4000000 in
set_option maxRecDepth 100000 in
theorem c_X9_greedy (l : Launch) (D : va_G) (cI cZ cF cL : ClassId) (mr : Nat) (rf : Nat → Nat) (st ln th pl hs vs : Nat) (dg : Int32) (xx : Int64) (nH nV wk ea gi sw : Nat) (f1 f2 f3 f4 f5 f6 f7 f8 : Nat → Nat) (g : Nat → Nat) (v : Nat) (hH : nH ≤ 6) (hv : v < 5) (b1 : ∀ h, h < nH → 1 ≤ f1 h) (b14 : ∀ h, h < 6 → f1 h ≤ 4) (b2 : ∀ h, h < 6 → f2 h ≤ 9) (b3 : ∀ h, h < 6 → f3 h ≤ 9) (b4 : ∀ h, h < 6 → f4 h ≤ 1) (b7 : ∀ k, k < 30 → f7 k ≤ 9) (bg : ∀ h, h < nH → g h ≤ 1000) : CT l D (tysX cI cZ cF cL) yX9_greedy (wA yX9_greedy cX9_greedy 5 (some .int)) (rmF 2 41) [.ref mr, .int (nI v)] (mX mr rf st ln th pl hs vs dg xx ++ qX cI (rf 0) nH nV wk ea gi sw f1 f2 f3 f4 f5 f6 f7 f8 ++ iaX cI (rf 6) 6 g) (some (.int (encM (kz f7 (partN f1 f2 f3 f4) g v nH)))) (fun _ : Unit => (mX mr rf st ln th pl hs vs dg xx ++ qX cI (rf 0) nH nV wk ea gi sw f1 f2 f3 f4 f5 f6 f7 f8 ++ iaX cI (rf 6) 6 g)) := by
  refine ct_in (cc := cX9_greedy) (maxL := 5) (ret := (some .int)) (own := RX9) (lv := [(0, .ref mr), (1, .int (nI v))]) (by decide +kernel) rfl rfl (Nat.le_of_ble_eq_true rfl) rfl ?_
  intro p e s m args below meth c A ls hx hb hr hml hts hown hlocks hK hA hP hD hS hl
  refine lv_iconst (v := ((-1))) hx hb dX9_greedy_0 (by decide) ?_
  refine lv_istore_n (lv' := [(2, .int ((-1))), (0, .ref mr), (1, .int (nI v))]) hx hb dX9_greedy_1 rfl hl (by decide) rfl (fun ls hl => ?_)
  refine lv_iconst (v := (nI 0)) hx hb dX9_greedy_2 (by decide) ?_
  refine lv_istore_n (lv' := [(3, .int (nI 0)), (2, .int ((-1))), (0, .ref mr), (1, .int (nI v))]) hx hb dX9_greedy_3 rfl hl (by decide) rfl (fun ls hl => ?_)
  have loop_4 : ∀ (dd : Nat) (i : Nat) (m1 : Int32), (i ≤ nH) → (m1 = encM (kz f7 (partN f1 f2 f3 f4) g v i)) → (nH - i) < dd → ∀ (Hp : Heap) (locs : List Loc), va_P D vwCl (mX mr rf st ln th pl hs vs dg xx ++ qX cI (rf 0) nH nV wk ea gi sw f1 f2 f3 f4 f5 f6 f7 f8 ++ iaX cI (rf 6) 6 g) Hp → va_D A (mX mr rf st ln th pl hs vs dg xx ++ qX cI (rf 0) nH nV wk ea gi sw f1 f2 f3 f4 f5 f6 f7 f8 ++ iaX cI (rf 6) 6 g) → va_S A s.heap Hp locs → ∀ ls : Array Slot, lv_has ls 5 [(3, .int (nI i)), (2, .int m1), (0, .ref mr), (1, .int (nI v))] → W p l e (rmF 2 41) s m args below meth c Hp locs 0 0 (MQ below (CQ D (some (.int (encM (kz f7 (partN f1 f2 f3 f4) g v nH)))) (fun _ : Unit => (mX mr rf st ln th pl hs vs dg xx ++ qX cI (rf 0) nH nV wk ea gi sw f1 f2 f3 f4 f5 f6 f7 f8 ++ iaX cI (rf 6) 6 g)) A) args s 0 0 A) (F0 m 4 ls []) := by
    intro dd
    induction dd with
    | zero => intro i m1 hi ek hm; exact absurd hm (Nat.not_lt_zero _)
    | succ dd ih_4 =>
      intro i m1 hi ek hm Hp locs hP hD hS ls hl
      refine lv_iload_n hx hb dX9_greedy_4 rfl (lv_at hl 0 rfl) ?_
      refine lv_aload_n hx hb dX9_greedy_5 rfl (lv_at hl 2 rfl) ?_
      refine gf_n (C := RX9) (T := TX9) (N := 15) (ci := 9) (q0 := 0) (v := .ref (rf 0)) hx hb hts (iU inlX9) hown hK hP rfl rfl 0 (by decide) (kU u_129) rfl rfl dX9_greedy_6 ?_
      refine lv_iconst (v := (nI 0)) hx hb dX9_greedy_9 (by decide) ?_
      refine ia_n (q0 := 1) (t0 := 0) hx hb hK hP rfl rfl (by omega) (by decide) dX9_greedy_10 ?_
      rw [show qN nH nV wk ea gi sw f1 f2 f3 f4 f5 f6 f7 f8 0 = nH from rfl]
      refine lv_icmp_ge (tgt := 104) hx hb dX9_greedy_11 (by decide) (fun c_11 => ?_) (fun c_11 => ?_)
      · skip
        replace c_11 := cn_le (by omega) (by omega) c_11
        refine lv_iload_n hx hb dX9_greedy_104 rfl (lv_at hl 1 rfl) ?_
        exact ct_i () hx hb hr hlocks hP hS (by rw [ek, show i = nH by omega]) dX9_greedy_105
      · skip
        replace c_11 := cn_nle (by omega) (by omega) c_11
        rcases hk : kz f7 (partN f1 f2 f3 f4) g v i with _ | bb
        · skip
          obtain rfl : m1 = (-1) := by rw [ek, hk]; rfl
          refine lv_aload_n hx hb dX9_greedy_14 rfl (lv_at hl 2 rfl) ?_
          refine lv_iload_n hx hb dX9_greedy_15 rfl (lv_at hl 0 rfl) ?_
          refine gp_V (ci := 9) (q0 := 0) (cq := (RX9, TX9, 15)) (c_X9_getsBox l D cI cZ cF cL mr rf st ln th pl hs vs dg xx nH nV wk ea gi sw f1 f2 f3 f4 f5 f6 f7 f8 i (by omega) (fun h hh => Nat.lt_of_le_of_lt (b2 h hh) (by decide)) (fun h hh => Nat.lt_of_le_of_lt (b4 h hh) (by decide))) (gUV u_361 u_362 u_363 u_5 u_364) rfl hdV_X9_getsBox ⟨Nat.le_of_ble_eq_true rfl, Nat.le_of_ble_eq_true rfl⟩ ⟨rfl, rfl⟩ hx hb hml hown hts hK hA hP hD hS hl.1 ⟨Nat.le_of_ble_eq_true rfl, Nat.le_of_ble_eq_true rfl⟩ rfl rfl rfl (wr := (iaX cI (rf 6) 6 g)) (pm_cnt (fun _ => by simp only [List.countP_append, List.countP_nil, fT] <;> omega)) (fun _ => by simp only [List.map_append, List.map_nil, fX_m, bX_m, sX_m, pX_m, iaX_m, r5X_m, r6X_m, fT_m, hX_m, tX_m, xX_m, sgX_m, zaX_m, fsB_a, qX_m, mX_m]) (rest := []) rfl rfl (Nat.le_of_ble_eq_true rfl) dX9_greedy_16 (ws2 := (fun _ : Unit => (mX mr rf st ln th pl hs vs dg xx ++ qX cI (rf 0) nH nV wk ea gi sw f1 f2 f3 f4 f5 f6 f7 f8 ++ iaX cI (rf 6) 6 g))) (fun _ => (pm_cnt (fun _ => by simp only [List.countP_append, List.countP_nil, fT] <;> omega))) (fun _ Hp locs hP hD hS => ?_)
          refine lv_if_eq (tgt := 39) hx hb dX9_greedy_19 (by decide) (fun c_19 => ?_) (fun c_19 => ?_)
          · skip
            replace c_19 := cb_z c_19
            refine lv_iconst (v := (nI 0)) hx hb dX9_greedy_39 (by decide) ?_
            refine lv_istore (lv' := [(4, .int (nI 0)), (3, .int (nI i)), (2, .int ((-1))), (0, .ref mr), (1, .int (nI v))]) hx hb dX9_greedy_40 hl (by decide) rfl (fun ls hl => ?_)
            refine lv_iload hx hb dX9_greedy_42 (lv_at hl 0 rfl) ?_
            refine lv_if_eq (tgt := 96) hx hb dX9_greedy_44 (by decide) (fun _ => ?_) (fun c_44 => absurd (by decide +kernel) c_44)
            refine lv_iload_n hx hb dX9_greedy_96 rfl (lv_at hl 2 rfl) ?_
            refine lv_istore_n (lv' := [(2, .int ((-1))), (4, .int (nI 0)), (3, .int (nI i)), (0, .ref mr), (1, .int (nI v))]) hx hb dX9_greedy_97 rfl hl (by decide) rfl (fun ls hl => ?_)
            refine lv_iinc (v := (nI (i + 1))) (lv' := [(3, .int (nI (i + 1))), (2, .int ((-1))), (4, .int (nI 0)), (0, .ref mr), (1, .int (nI v))]) hx hb dX9_greedy_98 hl (k := 2) rfl (nI_add i 1) (by decide) rfl (fun ls hl => ?_)
            refine lv_goto (tgt := 4) hx hb dX9_greedy_101 (by decide) ?_
            exact ih_4 (i + 1) (((-1))) (by omega) (by first | (rw [kr_no (fun q => c_19 q.1), hk]; rfl) | (rw [kr_no (fun q => absurd q.2 (Nat.not_lt.mpr c_32)), hk]; rfl) | (rw [kr_0 c_19 (b1 i (by omega)) c_32 hk]; rfl) | (rw [kr_2 c_19 (b1 i (by omega)) c_32 hk c_89]; rfl) | (rw [kr_1 c_19 (b1 i (by omega)) c_32 hk c_89]; rfl)) (by omega) _ _ hP hD hS _ (lv_sub hl [0, 1, 3, 4] rfl)
          · skip
            replace c_19 := cb_nz c_19
            refine lv_aload_n hx hb dX9_greedy_22 rfl (lv_at hl 2 rfl) ?_
            refine gf_n (C := RX9) (T := TX9) (N := 15) (ci := 9) (q0 := 0) (v := .ref (rf 0)) hx hb hts (iU inlX9) hown hK hP rfl rfl 0 (by decide) (kU u_129) rfl rfl dX9_greedy_23 ?_
            refine lv_iload_n hx hb dX9_greedy_26 rfl (lv_at hl 0 rfl) ?_
            refine lv_iload_n hx hb dX9_greedy_27 rfl (lv_at hl 3 rfl) ?_
            refine gp_S (c_X9_like l D cI cZ cF cL i v ) (gUS u_281 u_282 u_5 u_283) rfl hdS_X9_like ⟨Nat.le_of_ble_eq_true rfl, Nat.le_of_ble_eq_true rfl⟩ ⟨rfl, rfl⟩ hx hb hml hown hts hK hA hP hD hS hl.1 ⟨Nat.le_of_ble_eq_true rfl, Nat.le_of_ble_eq_true rfl⟩ (wr := (mX mr rf st ln th pl hs vs dg xx ++ qX cI (rf 0) nH nV wk ea gi sw f1 f2 f3 f4 f5 f6 f7 f8 ++ iaX cI (rf 6) 6 g)) (pm_cnt (fun _ => by simp only [List.countP_append, List.countP_nil, fT] <;> omega)) (fun _ => by simp only [List.map_append, List.map_nil, fX_m, bX_m, sX_m, pX_m, iaX_m, r5X_m, r6X_m, fT_m, hX_m, tX_m, xX_m, sgX_m, zaX_m, fsB_a, qX_m, mX_m]) (rest := [.ref (rf 0)]) rfl rfl (Nat.le_of_ble_eq_true rfl) dX9_greedy_28 (ws2 := (fun _ : Unit => (mX mr rf st ln th pl hs vs dg xx ++ qX cI (rf 0) nH nV wk ea gi sw f1 f2 f3 f4 f5 f6 f7 f8 ++ iaX cI (rf 6) 6 g))) (fun _ => (pm_cnt (fun _ => by simp only [List.countP_append, List.countP_nil, fT] <;> omega))) (fun _ Hp locs hP hD hS => ?_)
            refine ia_n (q0 := 1) (t0 := 0) hx hb hK hP rfl rfl (by omega) (by decide) dX9_greedy_31 ?_
            rw [qR_7 (by omega) (by omega)]
            refine lv_if_le (tgt := 39) hx hb dX9_greedy_32 (by decide) (fun c_32 => ?_) (fun c_32 => ?_)
            · skip
              replace c_32 := cn_le (b := 0) (Nat.lt_of_le_of_lt (b7 _ (by omega)) (by decide)) (by decide) c_32
              refine lv_iconst (v := (nI 0)) hx hb dX9_greedy_39 (by decide) ?_
              refine lv_istore (lv' := [(4, .int (nI 0)), (3, .int (nI i)), (2, .int ((-1))), (0, .ref mr), (1, .int (nI v))]) hx hb dX9_greedy_40 hl (by decide) rfl (fun ls hl => ?_)
              refine lv_iload hx hb dX9_greedy_42 (lv_at hl 0 rfl) ?_
              refine lv_if_eq (tgt := 96) hx hb dX9_greedy_44 (by decide) (fun _ => ?_) (fun c_44 => absurd (by decide +kernel) c_44)
              refine lv_iload_n hx hb dX9_greedy_96 rfl (lv_at hl 2 rfl) ?_
              refine lv_istore_n (lv' := [(2, .int ((-1))), (4, .int (nI 0)), (3, .int (nI i)), (0, .ref mr), (1, .int (nI v))]) hx hb dX9_greedy_97 rfl hl (by decide) rfl (fun ls hl => ?_)
              refine lv_iinc (v := (nI (i + 1))) (lv' := [(3, .int (nI (i + 1))), (2, .int ((-1))), (4, .int (nI 0)), (0, .ref mr), (1, .int (nI v))]) hx hb dX9_greedy_98 hl (k := 2) rfl (nI_add i 1) (by decide) rfl (fun ls hl => ?_)
              refine lv_goto (tgt := 4) hx hb dX9_greedy_101 (by decide) ?_
              exact ih_4 (i + 1) (((-1))) (by omega) (by first | (rw [kr_no (fun q => c_19 q.1), hk]; rfl) | (rw [kr_no (fun q => absurd q.2 (Nat.not_lt.mpr c_32)), hk]; rfl) | (rw [kr_0 c_19 (b1 i (by omega)) c_32 hk]; rfl) | (rw [kr_2 c_19 (b1 i (by omega)) c_32 hk c_89]; rfl) | (rw [kr_1 c_19 (b1 i (by omega)) c_32 hk c_89]; rfl)) (by omega) _ _ hP hD hS _ (lv_sub hl [0, 1, 3, 4] rfl)
            · skip
              replace c_32 := cn_nle (b := 0) (Nat.lt_of_le_of_lt (b7 _ (by omega)) (by decide)) (by decide) c_32
              refine lv_iconst (v := (nI 1)) hx hb dX9_greedy_35 (by decide) ?_
              refine lv_goto (tgt := 40) hx hb dX9_greedy_36 (by decide) ?_
              refine lv_istore (lv' := [(4, .int (nI 1)), (3, .int (nI i)), (2, .int ((-1))), (0, .ref mr), (1, .int (nI v))]) hx hb dX9_greedy_40 hl (by decide) rfl (fun ls hl => ?_)
              refine lv_iload hx hb dX9_greedy_42 (lv_at hl 0 rfl) ?_
              refine lv_if_eq (tgt := 96) hx hb dX9_greedy_44 (by decide) (fun c_44 => absurd c_44 (by decide +kernel)) (fun _ => ?_)
              refine lv_iload_n hx hb dX9_greedy_47 rfl (lv_at hl 2 rfl) ?_
              refine lv_if_lt (tgt := 92) hx hb dX9_greedy_48 (by decide) (fun _ => ?_) (fun c_48 => absurd (by decide +kernel) c_48)
              refine lv_iload_n hx hb dX9_greedy_92 rfl (lv_at hl 1 rfl) ?_
              refine lv_goto (tgt := 97) hx hb dX9_greedy_93 (by decide) ?_
              refine lv_istore_n (lv' := [(2, .int (nI i)), (4, .int (nI 1)), (3, .int (nI i)), (0, .ref mr), (1, .int (nI v))]) hx hb dX9_greedy_97 rfl hl (by decide) rfl (fun ls hl => ?_)
              refine lv_iinc (v := (nI (i + 1))) (lv' := [(3, .int (nI (i + 1))), (2, .int (nI i)), (4, .int (nI 1)), (0, .ref mr), (1, .int (nI v))]) hx hb dX9_greedy_98 hl (k := 2) rfl (nI_add i 1) (by decide) rfl (fun ls hl => ?_)
              refine lv_goto (tgt := 4) hx hb dX9_greedy_101 (by decide) ?_
              exact ih_4 (i + 1) ((nI i)) (by omega) (by first | (rw [kr_no (fun q => c_19 q.1), hk]; rfl) | (rw [kr_no (fun q => absurd q.2 (Nat.not_lt.mpr c_32)), hk]; rfl) | (rw [kr_0 c_19 (b1 i (by omega)) c_32 hk]; rfl) | (rw [kr_2 c_19 (b1 i (by omega)) c_32 hk c_89]; rfl) | (rw [kr_1 c_19 (b1 i (by omega)) c_32 hk c_89]; rfl)) (by omega) _ _ hP hD hS _ (lv_sub hl [0, 1, 3, 4] rfl)
        · skip
          obtain rfl : m1 = nI bb := by rw [ek, hk]; rfl
          have hbl := kz_lt i bb hk
          refine lv_aload_n hx hb dX9_greedy_14 rfl (lv_at hl 2 rfl) ?_
          refine lv_iload_n hx hb dX9_greedy_15 rfl (lv_at hl 0 rfl) ?_
          refine gp_V (ci := 9) (q0 := 0) (cq := (RX9, TX9, 15)) (c_X9_getsBox l D cI cZ cF cL mr rf st ln th pl hs vs dg xx nH nV wk ea gi sw f1 f2 f3 f4 f5 f6 f7 f8 i (by omega) (fun h hh => Nat.lt_of_le_of_lt (b2 h hh) (by decide)) (fun h hh => Nat.lt_of_le_of_lt (b4 h hh) (by decide))) (gUV u_361 u_362 u_363 u_5 u_364) rfl hdV_X9_getsBox ⟨Nat.le_of_ble_eq_true rfl, Nat.le_of_ble_eq_true rfl⟩ ⟨rfl, rfl⟩ hx hb hml hown hts hK hA hP hD hS hl.1 ⟨Nat.le_of_ble_eq_true rfl, Nat.le_of_ble_eq_true rfl⟩ rfl rfl rfl (wr := (iaX cI (rf 6) 6 g)) (pm_cnt (fun _ => by simp only [List.countP_append, List.countP_nil, fT] <;> omega)) (fun _ => by simp only [List.map_append, List.map_nil, fX_m, bX_m, sX_m, pX_m, iaX_m, r5X_m, r6X_m, fT_m, hX_m, tX_m, xX_m, sgX_m, zaX_m, fsB_a, qX_m, mX_m]) (rest := []) rfl rfl (Nat.le_of_ble_eq_true rfl) dX9_greedy_16 (ws2 := (fun _ : Unit => (mX mr rf st ln th pl hs vs dg xx ++ qX cI (rf 0) nH nV wk ea gi sw f1 f2 f3 f4 f5 f6 f7 f8 ++ iaX cI (rf 6) 6 g))) (fun _ => (pm_cnt (fun _ => by simp only [List.countP_append, List.countP_nil, fT] <;> omega))) (fun _ Hp locs hP hD hS => ?_)
          refine lv_if_eq (tgt := 39) hx hb dX9_greedy_19 (by decide) (fun c_19 => ?_) (fun c_19 => ?_)
          · skip
            replace c_19 := cb_z c_19
            refine lv_iconst (v := (nI 0)) hx hb dX9_greedy_39 (by decide) ?_
            refine lv_istore (lv' := [(4, .int (nI 0)), (3, .int (nI i)), (2, .int (nI bb)), (0, .ref mr), (1, .int (nI v))]) hx hb dX9_greedy_40 hl (by decide) rfl (fun ls hl => ?_)
            refine lv_iload hx hb dX9_greedy_42 (lv_at hl 0 rfl) ?_
            refine lv_if_eq (tgt := 96) hx hb dX9_greedy_44 (by decide) (fun _ => ?_) (fun c_44 => absurd (by decide +kernel) c_44)
            refine lv_iload_n hx hb dX9_greedy_96 rfl (lv_at hl 2 rfl) ?_
            refine lv_istore_n (lv' := [(2, .int (nI bb)), (4, .int (nI 0)), (3, .int (nI i)), (0, .ref mr), (1, .int (nI v))]) hx hb dX9_greedy_97 rfl hl (by decide) rfl (fun ls hl => ?_)
            refine lv_iinc (v := (nI (i + 1))) (lv' := [(3, .int (nI (i + 1))), (2, .int (nI bb)), (4, .int (nI 0)), (0, .ref mr), (1, .int (nI v))]) hx hb dX9_greedy_98 hl (k := 2) rfl (nI_add i 1) (by decide) rfl (fun ls hl => ?_)
            refine lv_goto (tgt := 4) hx hb dX9_greedy_101 (by decide) ?_
            exact ih_4 (i + 1) ((nI bb)) (by omega) (by first | (rw [kr_no (fun q => c_19 q.1), hk]; rfl) | (rw [kr_no (fun q => absurd q.2 (Nat.not_lt.mpr c_32)), hk]; rfl) | (rw [kr_0 c_19 (b1 i (by omega)) c_32 hk]; rfl) | (rw [kr_2 c_19 (b1 i (by omega)) c_32 hk c_89]; rfl) | (rw [kr_1 c_19 (b1 i (by omega)) c_32 hk c_89]; rfl)) (by omega) _ _ hP hD hS _ (lv_sub hl [0, 1, 3, 4] rfl)
          · skip
            replace c_19 := cb_nz c_19
            refine lv_aload_n hx hb dX9_greedy_22 rfl (lv_at hl 2 rfl) ?_
            refine gf_n (C := RX9) (T := TX9) (N := 15) (ci := 9) (q0 := 0) (v := .ref (rf 0)) hx hb hts (iU inlX9) hown hK hP rfl rfl 0 (by decide) (kU u_129) rfl rfl dX9_greedy_23 ?_
            refine lv_iload_n hx hb dX9_greedy_26 rfl (lv_at hl 0 rfl) ?_
            refine lv_iload_n hx hb dX9_greedy_27 rfl (lv_at hl 3 rfl) ?_
            refine gp_S (c_X9_like l D cI cZ cF cL i v ) (gUS u_281 u_282 u_5 u_283) rfl hdS_X9_like ⟨Nat.le_of_ble_eq_true rfl, Nat.le_of_ble_eq_true rfl⟩ ⟨rfl, rfl⟩ hx hb hml hown hts hK hA hP hD hS hl.1 ⟨Nat.le_of_ble_eq_true rfl, Nat.le_of_ble_eq_true rfl⟩ (wr := (mX mr rf st ln th pl hs vs dg xx ++ qX cI (rf 0) nH nV wk ea gi sw f1 f2 f3 f4 f5 f6 f7 f8 ++ iaX cI (rf 6) 6 g)) (pm_cnt (fun _ => by simp only [List.countP_append, List.countP_nil, fT] <;> omega)) (fun _ => by simp only [List.map_append, List.map_nil, fX_m, bX_m, sX_m, pX_m, iaX_m, r5X_m, r6X_m, fT_m, hX_m, tX_m, xX_m, sgX_m, zaX_m, fsB_a, qX_m, mX_m]) (rest := [.ref (rf 0)]) rfl rfl (Nat.le_of_ble_eq_true rfl) dX9_greedy_28 (ws2 := (fun _ : Unit => (mX mr rf st ln th pl hs vs dg xx ++ qX cI (rf 0) nH nV wk ea gi sw f1 f2 f3 f4 f5 f6 f7 f8 ++ iaX cI (rf 6) 6 g))) (fun _ => (pm_cnt (fun _ => by simp only [List.countP_append, List.countP_nil, fT] <;> omega))) (fun _ Hp locs hP hD hS => ?_)
            refine ia_n (q0 := 1) (t0 := 0) hx hb hK hP rfl rfl (by omega) (by decide) dX9_greedy_31 ?_
            rw [qR_7 (by omega) (by omega)]
            refine lv_if_le (tgt := 39) hx hb dX9_greedy_32 (by decide) (fun c_32 => ?_) (fun c_32 => ?_)
            · skip
              replace c_32 := cn_le (b := 0) (Nat.lt_of_le_of_lt (b7 _ (by omega)) (by decide)) (by decide) c_32
              refine lv_iconst (v := (nI 0)) hx hb dX9_greedy_39 (by decide) ?_
              refine lv_istore (lv' := [(4, .int (nI 0)), (3, .int (nI i)), (2, .int (nI bb)), (0, .ref mr), (1, .int (nI v))]) hx hb dX9_greedy_40 hl (by decide) rfl (fun ls hl => ?_)
              refine lv_iload hx hb dX9_greedy_42 (lv_at hl 0 rfl) ?_
              refine lv_if_eq (tgt := 96) hx hb dX9_greedy_44 (by decide) (fun _ => ?_) (fun c_44 => absurd (by decide +kernel) c_44)
              refine lv_iload_n hx hb dX9_greedy_96 rfl (lv_at hl 2 rfl) ?_
              refine lv_istore_n (lv' := [(2, .int (nI bb)), (4, .int (nI 0)), (3, .int (nI i)), (0, .ref mr), (1, .int (nI v))]) hx hb dX9_greedy_97 rfl hl (by decide) rfl (fun ls hl => ?_)
              refine lv_iinc (v := (nI (i + 1))) (lv' := [(3, .int (nI (i + 1))), (2, .int (nI bb)), (4, .int (nI 0)), (0, .ref mr), (1, .int (nI v))]) hx hb dX9_greedy_98 hl (k := 2) rfl (nI_add i 1) (by decide) rfl (fun ls hl => ?_)
              refine lv_goto (tgt := 4) hx hb dX9_greedy_101 (by decide) ?_
              exact ih_4 (i + 1) ((nI bb)) (by omega) (by first | (rw [kr_no (fun q => c_19 q.1), hk]; rfl) | (rw [kr_no (fun q => absurd q.2 (Nat.not_lt.mpr c_32)), hk]; rfl) | (rw [kr_0 c_19 (b1 i (by omega)) c_32 hk]; rfl) | (rw [kr_2 c_19 (b1 i (by omega)) c_32 hk c_89]; rfl) | (rw [kr_1 c_19 (b1 i (by omega)) c_32 hk c_89]; rfl)) (by omega) _ _ hP hD hS _ (lv_sub hl [0, 1, 3, 4] rfl)
            · skip
              replace c_32 := cn_nle (b := 0) (Nat.lt_of_le_of_lt (b7 _ (by omega)) (by decide)) (by decide) c_32
              refine lv_iconst (v := (nI 1)) hx hb dX9_greedy_35 (by decide) ?_
              refine lv_goto (tgt := 40) hx hb dX9_greedy_36 (by decide) ?_
              refine lv_istore (lv' := [(4, .int (nI 1)), (3, .int (nI i)), (2, .int (nI bb)), (0, .ref mr), (1, .int (nI v))]) hx hb dX9_greedy_40 hl (by decide) rfl (fun ls hl => ?_)
              refine lv_iload hx hb dX9_greedy_42 (lv_at hl 0 rfl) ?_
              refine lv_if_eq (tgt := 96) hx hb dX9_greedy_44 (by decide) (fun c_44 => absurd c_44 (by decide +kernel)) (fun _ => ?_)
              refine lv_iload_n hx hb dX9_greedy_47 rfl (lv_at hl 2 rfl) ?_
              refine lv_if_lt (tgt := 92) hx hb dX9_greedy_48 (by decide) (fun c_48 => ?_) (fun c_48 => ?_)
              · skip
                replace c_48 := cn_lt (b := 0) (by omega) (by omega) c_48
                (exact absurd c_48 (by omega))
              · skip
                replace c_48 := cn_nlt (b := 0) (by omega) (by omega) c_48
                refine lv_aload_n hx hb dX9_greedy_51 rfl (lv_at hl 3 rfl) ?_
                refine gf_n (C := RX9) (T := TX9) (N := 15) (ci := 9) (q0 := 0) (v := .ref (rf 0)) hx hb hts (iU inlX9) hown hK hP rfl rfl 0 (by decide) (kU u_129) rfl rfl dX9_greedy_52 ?_
                refine lv_iload_n hx hb dX9_greedy_55 rfl (lv_at hl 1 rfl) ?_
                refine lv_iload_n hx hb dX9_greedy_56 rfl (lv_at hl 4 rfl) ?_
                refine gp_S (c_X9_like l D cI cZ cF cL i v ) (gUS u_281 u_282 u_5 u_283) rfl hdS_X9_like ⟨Nat.le_of_ble_eq_true rfl, Nat.le_of_ble_eq_true rfl⟩ ⟨rfl, rfl⟩ hx hb hml hown hts hK hA hP hD hS hl.1 ⟨Nat.le_of_ble_eq_true rfl, Nat.le_of_ble_eq_true rfl⟩ (wr := (mX mr rf st ln th pl hs vs dg xx ++ qX cI (rf 0) nH nV wk ea gi sw f1 f2 f3 f4 f5 f6 f7 f8 ++ iaX cI (rf 6) 6 g)) (pm_cnt (fun _ => by simp only [List.countP_append, List.countP_nil, fT] <;> omega)) (fun _ => by simp only [List.map_append, List.map_nil, fX_m, bX_m, sX_m, pX_m, iaX_m, r5X_m, r6X_m, fT_m, hX_m, tX_m, xX_m, sgX_m, zaX_m, fsB_a, qX_m, mX_m]) (rest := [.ref (rf 0)]) rfl rfl (Nat.le_of_ble_eq_true rfl) dX9_greedy_57 (ws2 := (fun _ : Unit => (mX mr rf st ln th pl hs vs dg xx ++ qX cI (rf 0) nH nV wk ea gi sw f1 f2 f3 f4 f5 f6 f7 f8 ++ iaX cI (rf 6) 6 g))) (fun _ => (pm_cnt (fun _ => by simp only [List.countP_append, List.countP_nil, fT] <;> omega))) (fun _ Hp locs hP hD hS => ?_)
                refine ia_n (q0 := 1) (t0 := 0) hx hb hK hP rfl rfl (by omega) (by decide) dX9_greedy_60 ?_
                rw [qR_7 (by omega) (by omega)]
                refine lv_iconst (v := (nI 2)) hx hb dX9_greedy_61 (by decide) ?_
                refine lv_aload_n hx hb dX9_greedy_62 rfl (lv_at hl 3 rfl) ?_
                refine gf_n (C := RX9) (T := TX9) (N := 15) (ci := 9) (q0 := 0) (v := .ref (rf 6)) hx hb hts (iU inlX9) hown hK hP rfl rfl 9 (by decide) (kU u_135) rfl rfl dX9_greedy_63 ?_
                refine lv_iload_n hx hb dX9_greedy_66 rfl (lv_at hl 1 rfl) ?_
                refine ia_n (q0 := 2) (t0 := 0) hx hb hK hP rfl rfl (by omega) (by decide) dX9_greedy_67 ?_
                refine lv_imul hx hb dX9_greedy_68 ?_
                rw [pk_mul 2 (g i)]
                refine lv_isub hx hb dX9_greedy_69 ?_
                refine lv_aload_n hx hb dX9_greedy_70 rfl (lv_at hl 3 rfl) ?_
                refine gf_n (C := RX9) (T := TX9) (N := 15) (ci := 9) (q0 := 0) (v := .ref (rf 0)) hx hb hts (iU inlX9) hown hK hP rfl rfl 0 (by decide) (kU u_129) rfl rfl dX9_greedy_71 ?_
                refine lv_iload_n hx hb dX9_greedy_74 rfl (lv_at hl 2 rfl) ?_
                refine lv_iload_n hx hb dX9_greedy_75 rfl (lv_at hl 4 rfl) ?_
                refine gp_S (c_X9_like l D cI cZ cF cL bb v ) (gUS u_281 u_282 u_5 u_283) rfl hdS_X9_like ⟨Nat.le_of_ble_eq_true rfl, Nat.le_of_ble_eq_true rfl⟩ ⟨rfl, rfl⟩ hx hb hml hown hts hK hA hP hD hS hl.1 ⟨Nat.le_of_ble_eq_true rfl, Nat.le_of_ble_eq_true rfl⟩ (wr := (mX mr rf st ln th pl hs vs dg xx ++ qX cI (rf 0) nH nV wk ea gi sw f1 f2 f3 f4 f5 f6 f7 f8 ++ iaX cI (rf 6) 6 g)) (pm_cnt (fun _ => by simp only [List.countP_append, List.countP_nil, fT] <;> omega)) (fun _ => by simp only [List.map_append, List.map_nil, fX_m, bX_m, sX_m, pX_m, iaX_m, r5X_m, r6X_m, fT_m, hX_m, tX_m, xX_m, sgX_m, zaX_m, fsB_a, qX_m, mX_m]) (rest := [.ref (rf 0), .int ((nI (f7 (i * 5 + v))) - (nI (2 * (g i))))]) rfl rfl (Nat.le_of_ble_eq_true rfl) dX9_greedy_76 (ws2 := (fun _ : Unit => (mX mr rf st ln th pl hs vs dg xx ++ qX cI (rf 0) nH nV wk ea gi sw f1 f2 f3 f4 f5 f6 f7 f8 ++ iaX cI (rf 6) 6 g))) (fun _ => (pm_cnt (fun _ => by simp only [List.countP_append, List.countP_nil, fT] <;> omega))) (fun _ Hp locs hP hD hS => ?_)
                refine ia_n (q0 := 1) (t0 := 0) hx hb hK hP rfl rfl (by omega) (by decide) dX9_greedy_79 ?_
                rw [qR_7 (by omega) (by omega)]
                refine lv_iconst (v := (nI 2)) hx hb dX9_greedy_80 (by decide) ?_
                refine lv_aload_n hx hb dX9_greedy_81 rfl (lv_at hl 3 rfl) ?_
                refine gf_n (C := RX9) (T := TX9) (N := 15) (ci := 9) (q0 := 0) (v := .ref (rf 6)) hx hb hts (iU inlX9) hown hK hP rfl rfl 9 (by decide) (kU u_135) rfl rfl dX9_greedy_82 ?_
                refine lv_iload_n hx hb dX9_greedy_85 rfl (lv_at hl 2 rfl) ?_
                refine ia_n (q0 := 2) (t0 := 0) hx hb hK hP rfl rfl (by omega) (by decide) dX9_greedy_86 ?_
                refine lv_imul hx hb dX9_greedy_87 ?_
                rw [pk_mul 2 (g bb)]
                refine lv_isub hx hb dX9_greedy_88 ?_
                refine lv_icmp_le (tgt := 96) hx hb dX9_greedy_89 (by decide) (fun c_89 => ?_) (fun c_89 => ?_)
                · skip
                  replace c_89 : ¬ wz f7 g v bb < wz f7 g v i := (wzx (b7 _ (by omega)) (bg _ (by omega)) (b7 _ (by omega)) (bg _ (by omega))).mp c_89
                  refine lv_iload_n hx hb dX9_greedy_96 rfl (lv_at hl 2 rfl) ?_
                  refine lv_istore_n (lv' := [(2, .int (nI bb)), (4, .int (nI 1)), (3, .int (nI i)), (0, .ref mr), (1, .int (nI v))]) hx hb dX9_greedy_97 rfl hl (by decide) rfl (fun ls hl => ?_)
                  refine lv_iinc (v := (nI (i + 1))) (lv' := [(3, .int (nI (i + 1))), (2, .int (nI bb)), (4, .int (nI 1)), (0, .ref mr), (1, .int (nI v))]) hx hb dX9_greedy_98 hl (k := 2) rfl (nI_add i 1) (by decide) rfl (fun ls hl => ?_)
                  refine lv_goto (tgt := 4) hx hb dX9_greedy_101 (by decide) ?_
                  exact ih_4 (i + 1) ((nI bb)) (by omega) (by first | (rw [kr_no (fun q => c_19 q.1), hk]; rfl) | (rw [kr_no (fun q => absurd q.2 (Nat.not_lt.mpr c_32)), hk]; rfl) | (rw [kr_0 c_19 (b1 i (by omega)) c_32 hk]; rfl) | (rw [kr_2 c_19 (b1 i (by omega)) c_32 hk c_89]; rfl) | (rw [kr_1 c_19 (b1 i (by omega)) c_32 hk c_89]; rfl)) (by omega) _ _ hP hD hS _ (lv_sub hl [0, 1, 3, 4] rfl)
                · skip
                  replace c_89 : wz f7 g v bb < wz f7 g v i := Classical.byContradiction (fun q => c_89 ((wzx (b7 _ (by omega)) (bg _ (by omega)) (b7 _ (by omega)) (bg _ (by omega))).mpr q))
                  refine lv_iload_n hx hb dX9_greedy_92 rfl (lv_at hl 1 rfl) ?_
                  refine lv_goto (tgt := 97) hx hb dX9_greedy_93 (by decide) ?_
                  refine lv_istore_n (lv' := [(2, .int (nI i)), (4, .int (nI 1)), (3, .int (nI i)), (0, .ref mr), (1, .int (nI v))]) hx hb dX9_greedy_97 rfl hl (by decide) rfl (fun ls hl => ?_)
                  refine lv_iinc (v := (nI (i + 1))) (lv' := [(3, .int (nI (i + 1))), (2, .int (nI i)), (4, .int (nI 1)), (0, .ref mr), (1, .int (nI v))]) hx hb dX9_greedy_98 hl (k := 2) rfl (nI_add i 1) (by decide) rfl (fun ls hl => ?_)
                  refine lv_goto (tgt := 4) hx hb dX9_greedy_101 (by decide) ?_
                  exact ih_4 (i + 1) ((nI i)) (by omega) (by first | (rw [kr_no (fun q => c_19 q.1), hk]; rfl) | (rw [kr_no (fun q => absurd q.2 (Nat.not_lt.mpr c_32)), hk]; rfl) | (rw [kr_0 c_19 (b1 i (by omega)) c_32 hk]; rfl) | (rw [kr_2 c_19 (b1 i (by omega)) c_32 hk c_89]; rfl) | (rw [kr_1 c_19 (b1 i (by omega)) c_32 hk c_89]; rfl)) (by omega) _ _ hP hD hS _ (lv_sub hl [0, 1, 3, 4] rfl)
  exact loop_4 ((nH - 0) + 1) 0 (((-1))) (by omega) rfl (Nat.lt_succ_self _) _ _ hP hD hS _ (lv_sub hl [0, 1, 2, 3] rfl)
