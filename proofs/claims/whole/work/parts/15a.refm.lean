/-- the first of the greatest -/
def amx (cnd : Nat → Bool) (val : Nat → Nat) : Nat → Option Nat
  | 0 => none
  | i + 1 => if cnd i = true then (match amx cnd val i with
    | none => some i
    | some b => if val b < val i then some i else some b) else amx cnd val i
theorem amx_lt {cnd : Nat → Bool} {val : Nat → Nat} : ∀ n b, amx cnd val n = some b → b < n
  | 0, b, h => by cases h
  | n + 1, b, h => by
    rw [amx] at h
    split at h
    · cases hk : amx cnd val n with
      | none => rw [hk] at h; cases h; omega
      | some c =>
        rw [hk] at h
        have hc := amx_lt n c hk
        dsimp only at h
        split at h <;> cases h <;> omega
    · have := amx_lt n b h
      omega
section
variable {cnd : Nat → Bool} {val : Nat → Nat} {i b : Nat}
theorem amx_no (h : ¬ cnd i = true) : amx cnd val (i + 1) = amx cnd val i := by rw [amx, if_neg h]
theorem amx_0 (h : cnd i = true) (hk : amx cnd val i = none) : amx cnd val (i + 1) = some i := by rw [amx, if_pos h, hk]
theorem amx_1 (h : cnd i = true) (hk : amx cnd val i = some b) (hw : val b < val i) : amx cnd val (i + 1) = some i := by rw [amx, if_pos h, hk]; exact if_pos hw
theorem amx_2 (h : cnd i = true) (hk : amx cnd val i = some b) (hw : ¬ val b < val i) : amx cnd val (i + 1) = some b := by rw [amx, if_pos h, hk]; exact if_neg hw
end
theorem kz_nM {o : Option Nat} : encK o = encK o := rfl
def fonO (T : Nat → Nat → Nat) (v : Nat) : Nat → Option Nat := amx (fun _ => true) (fun h => T 7 (h * 5 + v))
theorem hov_4 {T : Nat → Nat → Nat} {h w : Nat} (hw : w < 4) (hh : h < 6) : qN (T 0 0) (T 0 1) (T 0 2) (T 0 3) (T 0 4) (T 0 5) (T 1) (T 2) (T 3) (T 4) (T 5) (T 6) (T 7) (T 8) (6 + 4 * h + w) = hoV T h w := by
  match w, hw with
  | 0, _ => rw [Nat.add_zero, qR_1 hh]; rfl
  | 1, _ => rw [qR_2 hh]; rfl
  | 2, _ => rw [qR_3 hh]; rfl
  | 3, _ => rw [qR_4 hh]; rfl
  | k + 4, h => omega
set_option maxHeartbeats 4000000 in
set_option maxRecDepth 100000 in
theorem c_X9_putsH (l : Launch) (D : va_G) (cI cZ cF cL : ClassId) (mr : Nat) (rf : Nat → Nat) (st ln th pl hs vs : Nat) (dg : Int32) (xx : Int64) (nH nV wk ea gi sw : Nat) (f1 f2 f3 f4 f5 f6 f7 f8 : Nat → Nat) (v n : Nat) (hv : v < 5) : CT l D (tysX cI cZ cF cL) yX9_puts (wA yX9_puts cX9_puts 4 (some .int)) (rmF 0 0) [.ref mr, .int (nI (30 + 2 * v)), .int (nI n)] (mX mr rf st ln th pl hs vs dg xx ++ qX cI (rf 0) nH nV wk ea gi sw f1 f2 f3 f4 f5 f6 f7 f8) (some (.int (nI (f5 v)))) (fun _ : Unit => (mX mr rf st ln th pl hs vs dg xx ++ qX cI (rf 0) nH nV wk ea gi sw f1 f2 f3 f4 (va_up f5 v n) f6 f7 f8)) := by
  refine ct_in (cc := cX9_puts) (maxL := 4) (ret := (some .int)) (own := RX9) (lv := [(0, .ref mr), (1, .int (nI (30 + 2 * v))), (2, .int (nI n))]) (by decide +kernel) rfl rfl (Nat.le_of_ble_eq_true rfl) rfl ?_
  intro p e s m args below meth c A ls hx hb hr hml hts hown hlocks hK hA hP hD hS hl
  refine lv_aload_n hx hb dX9_puts_0 rfl (lv_at hl 0 rfl) ?_
  refine gf_n (C := RX9) (T := TX9) (N := 15) (ci := 9) (q0 := 0) (v := .ref (rf 0)) hx hb hts (iU inlX9) hown hK hP rfl rfl 0 (by decide) (kU u_129) rfl rfl dX9_puts_1 ?_
  refine lv_iload_n hx hb dX9_puts_4 rfl (lv_at hl 1 rfl) ?_
  refine ia_n (q0 := 1) (t0 := 0) hx hb hK hP rfl rfl (by omega) (by decide) dX9_puts_5 ?_
  rw [qR_5 (by omega)]
  refine lv_istore_n (lv' := [(3, .int (nI (f5 v))), (0, .ref mr), (1, .int (nI (30 + 2 * v))), (2, .int (nI n))]) hx hb dX9_puts_6 rfl hl (by decide) rfl (fun ls hl => ?_)
  refine lv_aload_n hx hb dX9_puts_7 rfl (lv_at hl 1 rfl) ?_
  refine gf_n (C := RX9) (T := TX9) (N := 15) (ci := 9) (q0 := 0) (v := .ref (rf 0)) hx hb hts (iU inlX9) hown hK hP rfl rfl 0 (by decide) (kU u_129) rfl rfl dX9_puts_8 ?_
  refine lv_iload_n hx hb dX9_puts_11 rfl (lv_at hl 2 rfl) ?_
  refine lv_iload_n hx hb dX9_puts_12 rfl (lv_at hl 3 rfl) ?_
  refine is_n (q0 := 1) (t0 := 0) (ws2 := (mX mr rf st ln th pl hs vs dg xx ++ qX cI (rf 0) nH nV wk ea gi sw f1 f2 f3 f4 (va_up f5 v n) f6 f7 f8)) hx hb hK hP hD hS rfl rfl (by omega) (by decide) dX9_puts_13 (by rw [qU_5 (by omega)]; rfl) (fun Hp locs hP hD hS => ?_)
  refine lv_iload_n hx hb dX9_puts_14 rfl (lv_at hl 0 rfl) ?_
  exact ct_i () hx hb hr hlocks hP hS rfl dX9_puts_15
set_option maxHeartbeats 4000000 in
set_option maxRecDepth 100000 in
theorem c_X9_putsL (l : Launch) (D : va_G) (cI cZ cF cL : ClassId) (mr : Nat) (rf : Nat → Nat) (st ln th pl hs vs : Nat) (dg : Int32) (xx : Int64) (nH nV wk ea gi sw : Nat) (f1 f2 f3 f4 f5 f6 f7 f8 : Nat → Nat) (h v n : Nat) (hh : h < 6) (hv : v < 5) : CT l D (tysX cI cZ cF cL) yX9_puts (wA yX9_puts cX9_puts 4 (some .int)) (rmF 0 0) [.ref mr, .int (nI (40 + 5 * h + v)), .int (nI n)] (mX mr rf st ln th pl hs vs dg xx ++ qX cI (rf 0) nH nV wk ea gi sw f1 f2 f3 f4 f5 f6 f7 f8) (some (.int (nI (f7 (h * 5 + v))))) (fun _ : Unit => (mX mr rf st ln th pl hs vs dg xx ++ qX cI (rf 0) nH nV wk ea gi sw f1 f2 f3 f4 f5 f6 (va_up f7 (h * 5 + v) n) f8)) := by
  refine ct_in (cc := cX9_puts) (maxL := 4) (ret := (some .int)) (own := RX9) (lv := [(0, .ref mr), (1, .int (nI (40 + 5 * h + v))), (2, .int (nI n))]) (by decide +kernel) rfl rfl (Nat.le_of_ble_eq_true rfl) rfl ?_
  intro p e s m args below meth c A ls hx hb hr hml hts hown hlocks hK hA hP hD hS hl
  refine lv_aload_n hx hb dX9_puts_0 rfl (lv_at hl 0 rfl) ?_
  refine gf_n (C := RX9) (T := TX9) (N := 15) (ci := 9) (q0 := 0) (v := .ref (rf 0)) hx hb hts (iU inlX9) hown hK hP rfl rfl 0 (by decide) (kU u_129) rfl rfl dX9_puts_1 ?_
  refine lv_iload_n hx hb dX9_puts_4 rfl (lv_at hl 1 rfl) ?_
  refine ia_n (q0 := 1) (t0 := 0) hx hb hK hP rfl rfl (by omega) (by decide) dX9_puts_5 ?_
  rw [qR_7 (by omega) (by omega)]
  refine lv_istore_n (lv' := [(3, .int (nI (f7 (h * 5 + v)))), (0, .ref mr), (1, .int (nI (40 + 5 * h + v))), (2, .int (nI n))]) hx hb dX9_puts_6 rfl hl (by decide) rfl (fun ls hl => ?_)
  refine lv_aload_n hx hb dX9_puts_7 rfl (lv_at hl 1 rfl) ?_
  refine gf_n (C := RX9) (T := TX9) (N := 15) (ci := 9) (q0 := 0) (v := .ref (rf 0)) hx hb hts (iU inlX9) hown hK hP rfl rfl 0 (by decide) (kU u_129) rfl rfl dX9_puts_8 ?_
  refine lv_iload_n hx hb dX9_puts_11 rfl (lv_at hl 2 rfl) ?_
  refine lv_iload_n hx hb dX9_puts_12 rfl (lv_at hl 3 rfl) ?_
  refine is_n (q0 := 1) (t0 := 0) (ws2 := (mX mr rf st ln th pl hs vs dg xx ++ qX cI (rf 0) nH nV wk ea gi sw f1 f2 f3 f4 f5 f6 (va_up f7 (h * 5 + v) n) f8)) hx hb hK hP hD hS rfl rfl (by omega) (by decide) dX9_puts_13 (by rw [qU_7 (by omega) (by omega)]; rfl) (fun Hp locs hP hD hS => ?_)
  refine lv_iload_n hx hb dX9_puts_14 rfl (lv_at hl 0 rfl) ?_
  exact ct_i () hx hb hr hlocks hP hS rfl dX9_puts_15
set_option maxRecDepth 20000 in
theorem u_353 : Cond.code yX9_ofHouse cX9_ofHouse 4 (some .int) ∈ wsL_law := List.mem_of_getElem? (i := 353) (by decide +kernel)
set_option maxRecDepth 20000 in
theorem u_350 : Cond.methodLink RX9 123 yX9_ofHouse ∈ wsL_law := List.mem_of_getElem? (i := 350) (by decide +kernel)
set_option maxRecDepth 20000 in
theorem u_351 : Cond.instanceMethod yX9_ofHouse ∈ wsL_law := List.mem_of_getElem? (i := 351) (by decide +kernel)
set_option maxRecDepth 20000 in
theorem u_352 : Cond.selects RX9 yX9_ofHouse yX9_ofHouse ∈ wsL_law := List.mem_of_getElem? (i := 352) (by decide +kernel)
theorem hdV_X9_ofHouse : yX9_ofHouse.cls = RX9 ∧ yX9_ofHouse.cls ≠ "java/lang/invoke/MethodHandle" ∧ yX9_ofHouse.cls ≠ "java/lang/invoke/VarHandle" ∧ (parseMethodDescriptor yX9_ofHouse.desc).map (fun d => d.parameters.length) = some 1 := by decide +kernel
set_option maxHeartbeats 4000000 in
set_option maxRecDepth 100000 in
theorem c_X9_about (l : Launch) (D : va_G) (cI cZ cF cL : ClassId) (mr : Nat) (rf : Nat → Nat) (st ln th pl hs vs : Nat) (dg : Int32) (xx : Int64) (T : Nat → Nat → Nat) (w : Nat) (hT : FI T) (hw : w < 10) : CT l D (tysX cI cZ cF cL) yX9_about (wA yX9_about cX9_about 6 (some .int)) (rmF 3 63) [.ref mr, .int (nI w)] (mX mr rf st ln th pl hs vs dg xx ++ qX cI (rf 0) (T 0 0) (T 0 1) (T 0 2) (T 0 3) (T 0 4) (T 0 5) (T 1) (T 2) (T 3) (T 4) (T 5) (T 6) (T 7) (T 8)) (some (.int (nI (abV T w)))) (fun _ : Unit => (mX mr rf st ln 0 pl hs vs dg xx ++ qX cI (rf 0) (T 0 0) (T 0 1) (T 0 2) (T 0 3) (T 0 4) (T 0 5) (T 1) (T 2) (T 3) (T 4) (T 5) (T 6) (T 7) (T 8))) := by
  refine ct_in (cc := cX9_about) (maxL := 6) (ret := (some .int)) (own := RX9) (lv := [(0, .ref mr), (1, .int (nI w))]) (by decide +kernel) rfl rfl (Nat.le_of_ble_eq_true rfl) rfl ?_
  intro p e s m args below meth c A ls hx hb hr hml hts hown hlocks hK hA hP hD hS hl
  have hH := hT.1.1
  have hV := hT.1.2
  refine lv_aload_n hx hb dX9_about_0 rfl (lv_at hl 0 rfl) ?_
  refine lv_iconst (v := (nI 0)) hx hb dX9_about_1 (by decide) ?_
  refine pf_n (C := RX9) (T := TX9) (N := 15) (ci := 9) (q0 := 0) (ty := .int) (v := .int (nI 0)) (ws2 := (mX mr rf st ln 0 pl hs vs dg xx ++ qX cI (rf 0) (T 0 0) (T 0 1) (T 0 2) (T 0 3) (T 0 4) (T 0 5) (T 1) (T 2) (T 3) (T 4) (T 5) (T 6) (T 7) (T 8))) hx hb hts (iU inlX9) tyX9 tyX9_ok nmX9 hown hK hP hD hS rfl rfl 8 (by decide) (kU u_173) rfl rfl (tyX9_ok 8 (by decide)) rfl rfl (Nat.le_of_ble_eq_true rfl) dX9_about_2 rfl (fun Hp locs hP hD hS => ?_)
  refine lv_iconst (v := (nI 0)) hx hb dX9_about_5 (by decide) ?_
  refine lv_istore_n (lv' := [(2, .int (nI 0)), (0, .ref mr), (1, .int (nI w))]) hx hb dX9_about_6 rfl hl (by decide) rfl (fun ls hl => ?_)
  refine lv_iconst (v := (nI 0)) hx hb dX9_about_7 (by decide) ?_
  refine lv_istore_n (lv' := [(3, .int (nI 0)), (2, .int (nI 0)), (0, .ref mr), (1, .int (nI w))]) hx hb dX9_about_8 rfl hl (by decide) rfl (fun ls hl => ?_)
  refine lv_iconst (v := (nI 0)) hx hb dX9_about_9 (by decide) ?_
  refine lv_istore (lv' := [(4, .int (nI 0)), (3, .int (nI 0)), (2, .int (nI 0)), (0, .ref mr), (1, .int (nI w))]) hx hb dX9_about_10 hl (by decide) rfl (fun ls hl => ?_)
  have loop_12 : ∀ (dd : Nat) (i : Nat) (k2 : Nat) (k3 : Nat), (i ≤ T 0 0) → (k2 = sumN (kilH (T 8) (T 0 1)) i) → (k3 = sumN (T 2) i) → (T 0 0 - i) < dd → ∀ (Hp : Heap) (locs : List Loc), va_P D vwCl (mX mr rf st ln 0 pl hs vs dg xx ++ qX cI (rf 0) (T 0 0) (T 0 1) (T 0 2) (T 0 3) (T 0 4) (T 0 5) (T 1) (T 2) (T 3) (T 4) (T 5) (T 6) (T 7) (T 8)) Hp → va_D A (mX mr rf st ln 0 pl hs vs dg xx ++ qX cI (rf 0) (T 0 0) (T 0 1) (T 0 2) (T 0 3) (T 0 4) (T 0 5) (T 1) (T 2) (T 3) (T 4) (T 5) (T 6) (T 7) (T 8)) → va_S A s.heap Hp locs → ∀ ls : Array Slot, lv_has ls 6 [(4, .int (nI i)), (3, .int (nI k3)), (2, .int (nI k2)), (0, .ref mr), (1, .int (nI w))] → W p l e (rmF 3 63) s m args below meth c Hp locs 0 0 (MQ below (CQ D (some (.int (nI (abV T w)))) (fun _ : Unit => (mX mr rf st ln 0 pl hs vs dg xx ++ qX cI (rf 0) (T 0 0) (T 0 1) (T 0 2) (T 0 3) (T 0 4) (T 0 5) (T 1) (T 2) (T 3) (T 4) (T 5) (T 6) (T 7) (T 8))) A) args s 0 0 A) (F0 m 12 ls []) := by
    intro dd
    induction dd with
    | zero => intro i k2 k3 hi e2 e3 hm; exact absurd hm (Nat.not_lt_zero _)
    | succ dd ih_12 =>
      intro i k2 k3 hi e2 e3 hm Hp locs hP hD hS ls hl
      refine lv_iload hx hb dX9_about_12 (lv_at hl 0 rfl) ?_
      refine lv_aload_n hx hb dX9_about_14 rfl (lv_at hl 3 rfl) ?_
      refine gf_n (C := RX9) (T := TX9) (N := 15) (ci := 9) (q0 := 0) (v := .ref (rf 0)) hx hb hts (iU inlX9) hown hK hP rfl rfl 0 (by decide) (kU u_129) rfl rfl dX9_about_15 ?_
      refine lv_iconst (v := (nI 0)) hx hb dX9_about_18 (by decide) ?_
      refine ia_n (q0 := 1) (t0 := 0) hx hb hK hP rfl rfl (by omega) (by decide) dX9_about_19 ?_
      rw [show qN (T 0 0) (T 0 1) (T 0 2) (T 0 3) (T 0 4) (T 0 5) (T 1) (T 2) (T 3) (T 4) (T 5) (T 6) (T 7) (T 8) 0 = (T 0 0) from rfl]
      refine lv_icmp_ge (tgt := 53) hx hb dX9_about_20 (by decide) (fun c_20 => ?_) (fun c_20 => ?_)
      · skip
        replace c_20 := cn_le (by omega) (by omega) c_20
        refine lv_iconst (v := (nI 0)) hx hb dX9_about_53 (by decide) ?_
        refine lv_istore (lv' := [(4, .int (nI 0)), (3, .int (nI k3)), (2, .int (nI k2)), (0, .ref mr), (1, .int (nI w))]) hx hb dX9_about_54 hl (by decide) rfl (fun ls hl => ?_)
        refine lv_iconst (v := (nI 0)) hx hb dX9_about_56 (by decide) ?_
        refine lv_istore (lv' := [(5, .int (nI 0)), (4, .int (nI 0)), (3, .int (nI k3)), (2, .int (nI k2)), (0, .ref mr), (1, .int (nI w))]) hx hb dX9_about_57 hl (by decide) rfl (fun ls hl => ?_)
        have loop_59 : ∀ (dd : Nat) (i5 : Nat) (k4 : Nat), (i5 ≤ T 0 1) → (k4 = sumN (T 6) i5) → (T 0 1 - i5) < dd → ∀ (Hp : Heap) (locs : List Loc), va_P D vwCl (mX mr rf st ln 0 pl hs vs dg xx ++ qX cI (rf 0) (T 0 0) (T 0 1) (T 0 2) (T 0 3) (T 0 4) (T 0 5) (T 1) (T 2) (T 3) (T 4) (T 5) (T 6) (T 7) (T 8)) Hp → va_D A (mX mr rf st ln 0 pl hs vs dg xx ++ qX cI (rf 0) (T 0 0) (T 0 1) (T 0 2) (T 0 3) (T 0 4) (T 0 5) (T 1) (T 2) (T 3) (T 4) (T 5) (T 6) (T 7) (T 8)) → va_S A s.heap Hp locs → ∀ ls : Array Slot, lv_has ls 6 [(5, .int (nI i5)), (4, .int (nI k4)), (3, .int (nI k3)), (2, .int (nI k2)), (0, .ref mr), (1, .int (nI w))] → W p l e (rmF 3 63) s m args below meth c Hp locs 0 0 (MQ below (CQ D (some (.int (nI (abV T w)))) (fun _ : Unit => (mX mr rf st ln 0 pl hs vs dg xx ++ qX cI (rf 0) (T 0 0) (T 0 1) (T 0 2) (T 0 3) (T 0 4) (T 0 5) (T 1) (T 2) (T 3) (T 4) (T 5) (T 6) (T 7) (T 8))) A) args s 0 0 A) (F0 m 59 ls []) := by
          intro dd
          induction dd with
          | zero => intro i5 k4 hi5 e4 hm; exact absurd hm (Nat.not_lt_zero _)
          | succ dd ih_59 =>
            intro i5 k4 hi5 e4 hm Hp locs hP hD hS ls hl
            refine lv_iload hx hb dX9_about_59 (lv_at hl 0 rfl) ?_
            refine lv_aload_n hx hb dX9_about_61 rfl (lv_at hl 4 rfl) ?_
            refine gf_n (C := RX9) (T := TX9) (N := 15) (ci := 9) (q0 := 0) (v := .ref (rf 0)) hx hb hts (iU inlX9) hown hK hP rfl rfl 0 (by decide) (kU u_129) rfl rfl dX9_about_62 ?_
            refine lv_iconst (v := (nI 1)) hx hb dX9_about_65 (by decide) ?_
            refine ia_n (q0 := 1) (t0 := 0) hx hb hK hP rfl rfl (by omega) (by decide) dX9_about_66 ?_
            rw [show qN (T 0 0) (T 0 1) (T 0 2) (T 0 3) (T 0 4) (T 0 5) (T 1) (T 2) (T 3) (T 4) (T 5) (T 6) (T 7) (T 8) 1 = (T 0 1) from rfl]
            refine lv_icmp_ge (tgt := 93) hx hb dX9_about_67 (by decide) (fun c_67 => ?_) (fun c_67 => ?_)
            · skip
              replace c_67 := cn_le (by omega) (by omega) c_67
              refine lv_iload_n hx hb dX9_about_93 rfl (lv_at hl 5 rfl) ?_
              by_cases c_94_0 : (nI w) = nI 0
              · skip
                refine lv_tableIn (off := 54) (tgt := 148) hx hb dX9_about_94 (by rw [c_94_0]; decide +kernel) (by rw [c_94_0]; decide +kernel) (by rw [c_94_0]; decide +kernel) (by decide) ?_
                have c_w : w = 0 := cn_eq (by omega) (by omega) c_94_0
                refine lv_aload_n hx hb dX9_about_148 rfl (lv_at hl 4 rfl) ?_
                refine gf_n (C := RX9) (T := TX9) (N := 15) (ci := 9) (q0 := 0) (v := .ref (rf 0)) hx hb hts (iU inlX9) hown hK hP rfl rfl 0 (by decide) (kU u_129) rfl rfl dX9_about_149 ?_
                refine lv_iload_n hx hb dX9_about_152 rfl (lv_at hl 5 rfl) ?_
                refine ia_n (q0 := 1) (t0 := 0) hx hb hK hP rfl rfl (by omega) (by decide) dX9_about_153 ?_
                exact ct_i () hx hb hr hlocks hP hS (congrArg nI (by rw [c_w]; rfl)) dX9_about_154
              by_cases c_94_1 : (nI w) = nI 1
              · skip
                refine lv_tableIn (off := 54) (tgt := 148) hx hb dX9_about_94 (by rw [c_94_1]; decide +kernel) (by rw [c_94_1]; decide +kernel) (by rw [c_94_1]; decide +kernel) (by decide) ?_
                have c_w : w = 1 := cn_eq (by omega) (by omega) c_94_1
                refine lv_aload_n hx hb dX9_about_148 rfl (lv_at hl 4 rfl) ?_
                refine gf_n (C := RX9) (T := TX9) (N := 15) (ci := 9) (q0 := 0) (v := .ref (rf 0)) hx hb hts (iU inlX9) hown hK hP rfl rfl 0 (by decide) (kU u_129) rfl rfl dX9_about_149 ?_
                refine lv_iload_n hx hb dX9_about_152 rfl (lv_at hl 5 rfl) ?_
                refine ia_n (q0 := 1) (t0 := 0) hx hb hK hP rfl rfl (by omega) (by decide) dX9_about_153 ?_
                exact ct_i () hx hb hr hlocks hP hS (congrArg nI (by rw [c_w]; rfl)) dX9_about_154
              by_cases c_94_2 : (nI w) = nI 2
              · skip
                refine lv_tableIn (off := 54) (tgt := 148) hx hb dX9_about_94 (by rw [c_94_2]; decide +kernel) (by rw [c_94_2]; decide +kernel) (by rw [c_94_2]; decide +kernel) (by decide) ?_
                have c_w : w = 2 := cn_eq (by omega) (by omega) c_94_2
                refine lv_aload_n hx hb dX9_about_148 rfl (lv_at hl 4 rfl) ?_
                refine gf_n (C := RX9) (T := TX9) (N := 15) (ci := 9) (q0 := 0) (v := .ref (rf 0)) hx hb hts (iU inlX9) hown hK hP rfl rfl 0 (by decide) (kU u_129) rfl rfl dX9_about_149 ?_
                refine lv_iload_n hx hb dX9_about_152 rfl (lv_at hl 5 rfl) ?_
                refine ia_n (q0 := 1) (t0 := 0) hx hb hK hP rfl rfl (by omega) (by decide) dX9_about_153 ?_
                exact ct_i () hx hb hr hlocks hP hS (congrArg nI (by rw [c_w]; rfl)) dX9_about_154
              by_cases c_94_3 : (nI w) = nI 3
              · skip
                refine lv_tableIn (off := 61) (tgt := 155) hx hb dX9_about_94 (by rw [c_94_3]; decide +kernel) (by rw [c_94_3]; decide +kernel) (by rw [c_94_3]; decide +kernel) (by decide) ?_
                have c_w : w = 3 := cn_eq (by omega) (by omega) c_94_3
                refine lv_iload_n hx hb dX9_about_155 rfl (lv_at hl 3 rfl) ?_
                exact ct_i () hx hb hr hlocks hP hS (congrArg nI (by rw [abV, if_neg (show ¬ w = 0 by omega), if_neg (show ¬ w = 1 by omega), if_neg (show ¬ w = 2 by omega), if_pos c_w]; rw [e2, show i = T 0 0 by omega]; rfl)) dX9_about_156
              by_cases c_94_4 : (nI w) = nI 4
              · skip
                refine lv_tableIn (off := 63) (tgt := 157) hx hb dX9_about_94 (by rw [c_94_4]; decide +kernel) (by rw [c_94_4]; decide +kernel) (by rw [c_94_4]; decide +kernel) (by decide) ?_
                have c_w : w = 4 := cn_eq (by omega) (by omega) c_94_4
                refine lv_aload_n hx hb dX9_about_157 rfl (lv_at hl 4 rfl) ?_
                refine gf_n (C := RX9) (T := TX9) (N := 15) (ci := 9) (q0 := 0) (v := .ref (rf 0)) hx hb hts (iU inlX9) hown hK hP rfl rfl 0 (by decide) (kU u_129) rfl rfl dX9_about_158 ?_
                refine lv_iconst (v := (nI 3)) hx hb dX9_about_161 (by decide) ?_
                refine ia_n (q0 := 1) (t0 := 0) hx hb hK hP rfl rfl (by omega) (by decide) dX9_about_162 ?_
                rw [show qN (T 0 0) (T 0 1) (T 0 2) (T 0 3) (T 0 4) (T 0 5) (T 1) (T 2) (T 3) (T 4) (T 5) (T 6) (T 7) (T 8) 3 = (T 0 3) from rfl]
                exact ct_i () hx hb hr hlocks hP hS (congrArg nI (by rw [c_w]; rfl)) dX9_about_163
              by_cases c_94_5 : (nI w) = nI 5
              · skip
                refine lv_tableIn (off := 70) (tgt := 164) hx hb dX9_about_94 (by rw [c_94_5]; decide +kernel) (by rw [c_94_5]; decide +kernel) (by rw [c_94_5]; decide +kernel) (by decide) ?_
                have c_w : w = 5 := cn_eq (by omega) (by omega) c_94_5
                refine lv_aload_n hx hb dX9_about_164 rfl (lv_at hl 4 rfl) ?_
                refine gf_n (C := RX9) (T := TX9) (N := 15) (ci := 9) (q0 := 0) (v := .ref (rf 0)) hx hb hts (iU inlX9) hown hK hP rfl rfl 0 (by decide) (kU u_129) rfl rfl dX9_about_165 ?_
                refine lv_iconst (v := (nI 4)) hx hb dX9_about_168 (by decide) ?_
                refine ia_n (q0 := 1) (t0 := 0) hx hb hK hP rfl rfl (by omega) (by decide) dX9_about_169 ?_
                rw [show qN (T 0 0) (T 0 1) (T 0 2) (T 0 3) (T 0 4) (T 0 5) (T 1) (T 2) (T 3) (T 4) (T 5) (T 6) (T 7) (T 8) 4 = (T 0 4) from rfl]
                exact ct_i () hx hb hr hlocks hP hS (congrArg nI (by rw [c_w]; rfl)) dX9_about_170
              by_cases c_94_6 : (nI w) = nI 6
              · skip
                refine lv_tableIn (off := 77) (tgt := 171) hx hb dX9_about_94 (by rw [c_94_6]; decide +kernel) (by rw [c_94_6]; decide +kernel) (by rw [c_94_6]; decide +kernel) (by decide) ?_
                have c_w : w = 6 := cn_eq (by omega) (by omega) c_94_6
                refine lv_iload hx hb dX9_about_171 (lv_at hl 1 rfl) ?_
                exact ct_i () hx hb hr hlocks hP hS (congrArg nI (by rw [abV, if_neg (show ¬ w = 0 by omega), if_neg (show ¬ w = 1 by omega), if_neg (show ¬ w = 2 by omega), if_neg (show ¬ w = 3 by omega), if_neg (show ¬ w = 4 by omega), if_neg (show ¬ w = 5 by omega), if_pos c_w]; rw [e4, show i5 = T 0 1 by omega])) dX9_about_173
              by_cases c_94_7 : (nI w) = nI 7
              · skip
                refine lv_tableIn (off := 80) (tgt := 174) hx hb dX9_about_94 (by rw [c_94_7]; decide +kernel) (by rw [c_94_7]; decide +kernel) (by rw [c_94_7]; decide +kernel) (by decide) ?_
                have c_w : w = 7 := cn_eq (by omega) (by omega) c_94_7
                refine lv_iload_n hx hb dX9_about_174 rfl (lv_at hl 2 rfl) ?_
                exact ct_i () hx hb hr hlocks hP hS (congrArg nI (by rw [abV, if_neg (show ¬ w = 0 by omega), if_neg (show ¬ w = 1 by omega), if_neg (show ¬ w = 2 by omega), if_neg (show ¬ w = 3 by omega), if_neg (show ¬ w = 4 by omega), if_neg (show ¬ w = 5 by omega), if_neg (show ¬ w = 6 by omega), if_pos c_w]; rw [e3, show i = T 0 0 by omega])) dX9_about_175
              by_cases c_94_8 : (nI w) = nI 8
              · skip
                refine lv_tableIn (off := 82) (tgt := 176) hx hb dX9_about_94 (by rw [c_94_8]; decide +kernel) (by rw [c_94_8]; decide +kernel) (by rw [c_94_8]; decide +kernel) (by decide) ?_
                have c_w : w = 8 := cn_eq (by omega) (by omega) c_94_8
                refine lv_aload_n hx hb dX9_about_176 rfl (lv_at hl 4 rfl) ?_
                refine gf_n (C := RX9) (T := TX9) (N := 15) (ci := 9) (q0 := 0) (v := .ref (rf 0)) hx hb hts (iU inlX9) hown hK hP rfl rfl 0 (by decide) (kU u_129) rfl rfl dX9_about_177 ?_
                refine lv_iconst (v := (nI 5)) hx hb dX9_about_180 (by decide) ?_
                refine ia_n (q0 := 1) (t0 := 0) hx hb hK hP rfl rfl (by omega) (by decide) dX9_about_181 ?_
                rw [show qN (T 0 0) (T 0 1) (T 0 2) (T 0 3) (T 0 4) (T 0 5) (T 1) (T 2) (T 3) (T 4) (T 5) (T 6) (T 7) (T 8) 5 = (T 0 5) from rfl]
                exact ct_i () hx hb hr hlocks hP hS (congrArg nI (by rw [c_w]; rfl)) dX9_about_182
              by_cases c_94_9 : (nI w) = nI 9
              · skip
                refine lv_tableIn (off := 89) (tgt := 183) hx hb dX9_about_94 (by rw [c_94_9]; decide +kernel) (by rw [c_94_9]; decide +kernel) (by rw [c_94_9]; decide +kernel) (by decide) ?_
                have c_w : w = 9 := cn_eq (by omega) (by omega) c_94_9
                refine lv_aload_n hx hb dX9_about_183 rfl (lv_at hl 4 rfl) ?_
                refine gp_V (ci := 9) (q0 := 0) (cq := (RX9, TX9, 15)) (c_X9_boxes l D cI cZ cF cL mr rf st ln 0 pl hs vs dg xx (T 0 0) (T 0 1) (T 0 2) (T 0 3) (T 0 4) (T 0 5) (T 1) (T 2) (T 3) (T 4) (T 5) (T 6) (T 7) (T 8) hH (fun h hh => by have := (hT.2.1 h hh).2.1; omega) (fun h hh => by have := (hT.2.1 h hh).2.2.2.1; omega)) (gUV u_357 u_358 u_359 u_5 u_360) rfl hdV_X9_boxes ⟨Nat.le_of_ble_eq_true rfl, Nat.le_of_ble_eq_true rfl⟩ ⟨rfl, rfl⟩ hx hb hml hown hts hK hA hP hD hS hl.1 ⟨Nat.le_of_ble_eq_true rfl, Nat.le_of_ble_eq_true rfl⟩ rfl rfl rfl (wr := ([] : va_W)) (pm_cnt (fun _ => by simp only [List.countP_append, List.countP_nil, fT] <;> omega)) (fun _ => by simp only [List.map_append, List.map_nil, fX_m, bX_m, sX_m, pX_m, iaX_m, r5X_m, r6X_m, fT_m, hX_m, tX_m, xX_m, sgX_m, zaX_m, fsB_a, qX_m, mX_m]) (rest := []) rfl rfl (Nat.le_of_ble_eq_true rfl) dX9_about_184 (ws2 := (fun _ : Unit => (mX mr rf st ln 0 pl hs vs dg xx ++ qX cI (rf 0) (T 0 0) (T 0 1) (T 0 2) (T 0 3) (T 0 4) (T 0 5) (T 1) (T 2) (T 3) (T 4) (T 5) (T 6) (T 7) (T 8)))) (fun _ => (pm_cnt (fun _ => by simp only [List.countP_append, List.countP_nil, fT] <;> omega))) (fun _ Hp locs hP hD hS => ?_)
                exact ct_i () hx hb hr hlocks hP hS (congrArg nI (by rw [c_w]; rfl)) dX9_about_187
              exfalso; have n0 := cn_ne c_94_0; have n1 := cn_ne c_94_1; have n2 := cn_ne c_94_2; have n3 := cn_ne c_94_3; have n4 := cn_ne c_94_4; have n5 := cn_ne c_94_5; have n6 := cn_ne c_94_6; have n7 := cn_ne c_94_7; have n8 := cn_ne c_94_8; have n9 := cn_ne c_94_9; omega
            · skip
              replace c_67 := cn_nle (by omega) (by omega) c_67
              refine lv_iload hx hb dX9_about_70 (lv_at hl 1 rfl) ?_
              refine lv_aload_n hx hb dX9_about_72 rfl (lv_at hl 4 rfl) ?_
              refine gf_n (C := RX9) (T := TX9) (N := 15) (ci := 9) (q0 := 0) (v := .ref (rf 0)) hx hb hts (iU inlX9) hown hK hP rfl rfl 0 (by decide) (kU u_129) rfl rfl dX9_about_73 ?_
              refine lv_iload hx hb dX9_about_76 (lv_at hl 0 rfl) ?_
              refine gp_S (c_X9_harvest l D cI cZ cF cL i5 ) (gUS u_278 u_279 u_5 u_280) rfl hdS_X9_harvest ⟨Nat.le_of_ble_eq_true rfl, Nat.le_of_ble_eq_true rfl⟩ ⟨rfl, rfl⟩ hx hb hml hown hts hK hA hP hD hS hl.1 ⟨Nat.le_of_ble_eq_true rfl, Nat.le_of_ble_eq_true rfl⟩ (wr := (mX mr rf st ln 0 pl hs vs dg xx ++ qX cI (rf 0) (T 0 0) (T 0 1) (T 0 2) (T 0 3) (T 0 4) (T 0 5) (T 1) (T 2) (T 3) (T 4) (T 5) (T 6) (T 7) (T 8))) (pm_cnt (fun _ => by simp only [List.countP_append, List.countP_nil, fT] <;> omega)) (fun _ => by simp only [List.map_append, List.map_nil, fX_m, bX_m, sX_m, pX_m, iaX_m, r5X_m, r6X_m, fT_m, hX_m, tX_m, xX_m, sgX_m, zaX_m, fsB_a, qX_m, mX_m]) (rest := [.ref (rf 0), .int (nI k4)]) rfl rfl (Nat.le_of_ble_eq_true rfl) dX9_about_78 (ws2 := (fun _ : Unit => (mX mr rf st ln 0 pl hs vs dg xx ++ qX cI (rf 0) (T 0 0) (T 0 1) (T 0 2) (T 0 3) (T 0 4) (T 0 5) (T 1) (T 2) (T 3) (T 4) (T 5) (T 6) (T 7) (T 8)))) (fun _ => (pm_cnt (fun _ => by simp only [List.countP_append, List.countP_nil, fT] <;> omega))) (fun _ Hp locs hP hD hS => ?_)
              refine lv_iconst (v := (nI 1)) hx hb dX9_about_81 (by decide) ?_
              refine lv_iadd hx hb dX9_about_82 ?_
              rw [nI_add (30 + 2 * i5) 1]
              refine ia_n (q0 := 1) (t0 := 0) hx hb hK hP rfl rfl (by omega) (by decide) dX9_about_83 ?_
              rw [qR_6 (by omega)]
              refine lv_iadd hx hb dX9_about_84 ?_
              rw [nI_add k4 ((T 6) i5)]
              refine lv_istore (lv' := [(4, .int (nI (k4 + ((T 6) i5)))), (5, .int (nI i5)), (3, .int (nI k3)), (2, .int (nI k2)), (0, .ref mr), (1, .int (nI w))]) hx hb dX9_about_85 hl (by decide) rfl (fun ls hl => ?_)
              refine lv_iinc (v := (nI (i5 + 1))) (lv' := [(5, .int (nI (i5 + 1))), (4, .int (nI (k4 + ((T 6) i5)))), (3, .int (nI k3)), (2, .int (nI k2)), (0, .ref mr), (1, .int (nI w))]) hx hb dX9_about_87 hl (k := 1) rfl (nI_add i5 1) (by decide) rfl (fun ls hl => ?_)
              refine lv_goto (tgt := 59) hx hb dX9_about_90 (by decide) ?_
              exact ih_59 (i5 + 1) (k4 + ((T 6) i5)) (by omega) (by rw [e4, sumN_s]) (by omega) _ _ hP hD hS _ (lv_sub hl [0, 1, 2, 3, 4, 5] rfl)
        exact loop_59 ((T 0 1 - 0) + 1) 0 0 (Nat.zero_le _) rfl (Nat.lt_succ_self _) _ _ hP hD hS _ (lv_sub hl [0, 1, 2, 3, 4, 5] rfl)
      · skip
        replace c_20 := cn_nle (by omega) (by omega) c_20
        refine lv_iload_n hx hb dX9_about_23 rfl (lv_at hl 2 rfl) ?_
        refine lv_aload_n hx hb dX9_about_24 rfl (lv_at hl 3 rfl) ?_
        refine lv_iload hx hb dX9_about_25 (lv_at hl 0 rfl) ?_
        refine gp_V (ci := 9) (q0 := 0) (cq := (RX9, TX9, 15)) (c_X9_ofHouse l D cI cZ cF cL mr rf st ln 0 pl hs vs dg xx (T 0 0) (T 0 1) (T 0 2) (T 0 3) (T 0 4) (T 0 5) (T 1) (T 2) (T 3) (T 4) (T 5) (T 6) (T 7) (T 8) i (by omega) hV) (gUV u_350 u_351 u_352 u_5 u_353) rfl hdV_X9_ofHouse ⟨Nat.le_of_ble_eq_true rfl, Nat.le_of_ble_eq_true rfl⟩ ⟨rfl, rfl⟩ hx hb hml hown hts hK hA hP hD hS hl.1 ⟨Nat.le_of_ble_eq_true rfl, Nat.le_of_ble_eq_true rfl⟩ rfl rfl rfl (wr := ([] : va_W)) (pm_cnt (fun _ => by simp only [List.countP_append, List.countP_nil, fT] <;> omega)) (fun _ => by simp only [List.map_append, List.map_nil, fX_m, bX_m, sX_m, pX_m, iaX_m, r5X_m, r6X_m, fT_m, hX_m, tX_m, xX_m, sgX_m, zaX_m, fsB_a, qX_m, mX_m]) (rest := [.int (nI k2)]) rfl rfl (Nat.le_of_ble_eq_true rfl) dX9_about_27 (ws2 := (fun _ : Unit => (mX mr rf st ln 0 pl hs vs dg xx ++ qX cI (rf 0) (T 0 0) (T 0 1) (T 0 2) (T 0 3) (T 0 4) (T 0 5) (T 1) (T 2) (T 3) (T 4) (T 5) (T 6) (T 7) (T 8)))) (fun _ => (pm_cnt (fun _ => by simp only [List.countP_append, List.countP_nil, fT] <;> omega))) (fun _ Hp locs hP hD hS => ?_)
        refine lv_iadd hx hb dX9_about_30 ?_
        rw [nI_add k2 (kilH (T 8) (T 0 1) i)]
        refine lv_istore_n (lv' := [(2, .int (nI (k2 + (kilH (T 8) (T 0 1) i)))), (4, .int (nI i)), (3, .int (nI k3)), (0, .ref mr), (1, .int (nI w))]) hx hb dX9_about_31 rfl hl (by decide) rfl (fun ls hl => ?_)
        refine lv_iload_n hx hb dX9_about_32 rfl (lv_at hl 2 rfl) ?_
        refine lv_aload_n hx hb dX9_about_33 rfl (lv_at hl 3 rfl) ?_
        refine gf_n (C := RX9) (T := TX9) (N := 15) (ci := 9) (q0 := 0) (v := .ref (rf 0)) hx hb hts (iU inlX9) hown hK hP rfl rfl 0 (by decide) (kU u_129) rfl rfl dX9_about_34 ?_
        refine lv_iload hx hb dX9_about_37 (lv_at hl 1 rfl) ?_
        refine gp_S (c_X9_size l D cI cZ cF cL i ) (gUS u_275 u_276 u_5 u_277) rfl hdS_X9_size ⟨Nat.le_of_ble_eq_true rfl, Nat.le_of_ble_eq_true rfl⟩ ⟨rfl, rfl⟩ hx hb hml hown hts hK hA hP hD hS hl.1 ⟨Nat.le_of_ble_eq_true rfl, Nat.le_of_ble_eq_true rfl⟩ (wr := (mX mr rf st ln 0 pl hs vs dg xx ++ qX cI (rf 0) (T 0 0) (T 0 1) (T 0 2) (T 0 3) (T 0 4) (T 0 5) (T 1) (T 2) (T 3) (T 4) (T 5) (T 6) (T 7) (T 8))) (pm_cnt (fun _ => by simp only [List.countP_append, List.countP_nil, fT] <;> omega)) (fun _ => by simp only [List.map_append, List.map_nil, fX_m, bX_m, sX_m, pX_m, iaX_m, r5X_m, r6X_m, fT_m, hX_m, tX_m, xX_m, sgX_m, zaX_m, fsB_a, qX_m, mX_m]) (rest := [.ref (rf 0), .int (nI k3)]) rfl rfl (Nat.le_of_ble_eq_true rfl) dX9_about_39 (ws2 := (fun _ : Unit => (mX mr rf st ln 0 pl hs vs dg xx ++ qX cI (rf 0) (T 0 0) (T 0 1) (T 0 2) (T 0 3) (T 0 4) (T 0 5) (T 1) (T 2) (T 3) (T 4) (T 5) (T 6) (T 7) (T 8)))) (fun _ => (pm_cnt (fun _ => by simp only [List.countP_append, List.countP_nil, fT] <;> omega))) (fun _ Hp locs hP hD hS => ?_)
        refine lv_iconst (v := (nI 1)) hx hb dX9_about_42 (by decide) ?_
        refine lv_iadd hx hb dX9_about_43 ?_
        rw [nI_add (6 + 4 * i) 1]
        refine ia_n (q0 := 1) (t0 := 0) hx hb hK hP rfl rfl (by omega) (by decide) dX9_about_44 ?_
        rw [qR_2 (by omega)]
        refine lv_iadd hx hb dX9_about_45 ?_
        rw [nI_add k3 ((T 2) i)]
        refine lv_istore_n (lv' := [(3, .int (nI (k3 + ((T 2) i)))), (2, .int (nI (k2 + (kilH (T 8) (T 0 1) i)))), (4, .int (nI i)), (0, .ref mr), (1, .int (nI w))]) hx hb dX9_about_46 rfl hl (by decide) rfl (fun ls hl => ?_)
        refine lv_iinc (v := (nI (i + 1))) (lv' := [(4, .int (nI (i + 1))), (3, .int (nI (k3 + ((T 2) i)))), (2, .int (nI (k2 + (kilH (T 8) (T 0 1) i)))), (0, .ref mr), (1, .int (nI w))]) hx hb dX9_about_47 hl (k := 2) rfl (nI_add i 1) (by decide) rfl (fun ls hl => ?_)
        refine lv_goto (tgt := 12) hx hb dX9_about_50 (by decide) ?_
        exact ih_12 (i + 1) (k2 + (kilH (T 8) (T 0 1) i)) (k3 + ((T 2) i)) (by omega) (by rw [e2, sumN_s]) (by rw [e3, sumN_s]) (by omega) _ _ hP hD hS _ (lv_sub hl [0, 1, 2, 3, 4] rfl)
  exact loop_12 ((T 0 0 - 0) + 1) 0 0 0 (Nat.zero_le _) rfl rfl (Nat.lt_succ_self _) _ _ hP hD hS _ (lv_sub hl [0, 1, 2, 3, 4] rfl)
set_option maxRecDepth 20000 in
theorem u_178 : Cond.code yX9_fails cX9_fails 2 (some .int) ∈ wsL_law := List.mem_of_getElem? (i := 178) (by decide +kernel)
set_option maxRecDepth 20000 in
theorem u_175 : Cond.methodLink RX9 91 yX9_fails ∈ wsL_law := List.mem_of_getElem? (i := 175) (by decide +kernel)
set_option maxRecDepth 20000 in
theorem u_176 : Cond.instanceMethod yX9_fails ∈ wsL_law := List.mem_of_getElem? (i := 176) (by decide +kernel)
set_option maxRecDepth 20000 in
theorem u_177 : Cond.selects RX9 yX9_fails yX9_fails ∈ wsL_law := List.mem_of_getElem? (i := 177) (by decide +kernel)
theorem hdV_X9_fails : yX9_fails.cls = RX9 ∧ yX9_fails.cls ≠ "java/lang/invoke/MethodHandle" ∧ yX9_fails.cls ≠ "java/lang/invoke/VarHandle" ∧ (parseMethodDescriptor yX9_fails.desc).map (fun d => d.parameters.length) = some 1 := by decide +kernel
set_option maxHeartbeats 4000000 in
set_option maxRecDepth 100000 in
theorem f1_X9_about (l : Launch) (D : va_G) (cI cZ cF cL : ClassId) (mr : Nat) (rf : Nat → Nat) (st ln th pl hs vs : Nat) (dg : Int32) (xx : Int64) (T : Nat → Nat → Nat) (w : Int32) (hT : FI T) (hbad : ∀ j, j < 10 → ¬ w = nI j) : CT l D (tysX cI cZ cF cL) yX9_about (wA yX9_about cX9_about 6 (some .int)) (rmF 2 44) [.ref mr, .int w] (mX mr rf st ln th pl hs vs dg xx ++ qX cI (rf 0) (T 0 0) (T 0 1) (T 0 2) (T 0 3) (T 0 4) (T 0 5) (T 1) (T 2) (T 3) (T 4) (T 5) (T 6) (T 7) (T 8)) (some (.int (nI 0))) (fun _ : Unit => (mX mr rf st ln 1 pl hs vs dg xx ++ qX cI (rf 0) (T 0 0) (T 0 1) (T 0 2) (T 0 3) (T 0 4) (T 0 5) (T 1) (T 2) (T 3) (T 4) (T 5) (T 6) (T 7) (T 8))) := by
  refine ct_in (cc := cX9_about) (maxL := 6) (ret := (some .int)) (own := RX9) (lv := [(0, .ref mr), (1, .int w)]) (by decide +kernel) rfl rfl (Nat.le_of_ble_eq_true rfl) rfl ?_
  intro p e s m args below meth c A ls hx hb hr hml hts hown hlocks hK hA hP hD hS hl
  have hH := hT.1.1
  have hV := hT.1.2
  refine lv_aload_n hx hb dX9_about_0 rfl (lv_at hl 0 rfl) ?_
  refine lv_iconst (v := (nI 0)) hx hb dX9_about_1 (by decide) ?_
  refine pf_n (C := RX9) (T := TX9) (N := 15) (ci := 9) (q0 := 0) (ty := .int) (v := .int (nI 0)) (ws2 := (mX mr rf st ln 0 pl hs vs dg xx ++ qX cI (rf 0) (T 0 0) (T 0 1) (T 0 2) (T 0 3) (T 0 4) (T 0 5) (T 1) (T 2) (T 3) (T 4) (T 5) (T 6) (T 7) (T 8))) hx hb hts (iU inlX9) tyX9 tyX9_ok nmX9 hown hK hP hD hS rfl rfl 8 (by decide) (kU u_173) rfl rfl (tyX9_ok 8 (by decide)) rfl rfl (Nat.le_of_ble_eq_true rfl) dX9_about_2 rfl (fun Hp locs hP hD hS => ?_)
  refine lv_iconst (v := (nI 0)) hx hb dX9_about_5 (by decide) ?_
  refine lv_istore_n (lv' := [(2, .int (nI 0)), (0, .ref mr), (1, .int w)]) hx hb dX9_about_6 rfl hl (by decide) rfl (fun ls hl => ?_)
  refine lv_iconst (v := (nI 0)) hx hb dX9_about_7 (by decide) ?_
  refine lv_istore_n (lv' := [(3, .int (nI 0)), (2, .int (nI 0)), (0, .ref mr), (1, .int w)]) hx hb dX9_about_8 rfl hl (by decide) rfl (fun ls hl => ?_)
  refine lv_iconst (v := (nI 0)) hx hb dX9_about_9 (by decide) ?_
  refine lv_istore (lv' := [(4, .int (nI 0)), (3, .int (nI 0)), (2, .int (nI 0)), (0, .ref mr), (1, .int w)]) hx hb dX9_about_10 hl (by decide) rfl (fun ls hl => ?_)
  have loop_12 : ∀ (dd : Nat) (i : Nat) (k2 : Nat) (k3 : Nat), (i ≤ T 0 0) → (k2 = sumN (kilH (T 8) (T 0 1)) i) → (k3 = sumN (T 2) i) → (T 0 0 - i) < dd → ∀ (Hp : Heap) (locs : List Loc), va_P D vwCl (mX mr rf st ln 0 pl hs vs dg xx ++ qX cI (rf 0) (T 0 0) (T 0 1) (T 0 2) (T 0 3) (T 0 4) (T 0 5) (T 1) (T 2) (T 3) (T 4) (T 5) (T 6) (T 7) (T 8)) Hp → va_D A (mX mr rf st ln 0 pl hs vs dg xx ++ qX cI (rf 0) (T 0 0) (T 0 1) (T 0 2) (T 0 3) (T 0 4) (T 0 5) (T 1) (T 2) (T 3) (T 4) (T 5) (T 6) (T 7) (T 8)) → va_S A s.heap Hp locs → ∀ ls : Array Slot, lv_has ls 6 [(4, .int (nI i)), (3, .int (nI k3)), (2, .int (nI k2)), (0, .ref mr), (1, .int w)] → W p l e (rmF 2 44) s m args below meth c Hp locs 0 0 (MQ below (CQ D (some (.int (nI 0))) (fun _ : Unit => (mX mr rf st ln 1 pl hs vs dg xx ++ qX cI (rf 0) (T 0 0) (T 0 1) (T 0 2) (T 0 3) (T 0 4) (T 0 5) (T 1) (T 2) (T 3) (T 4) (T 5) (T 6) (T 7) (T 8))) A) args s 0 0 A) (F0 m 12 ls []) := by
    intro dd
    induction dd with
    | zero => intro i k2 k3 hi e2 e3 hm; exact absurd hm (Nat.not_lt_zero _)
    | succ dd ih_12 =>
      intro i k2 k3 hi e2 e3 hm Hp locs hP hD hS ls hl
      refine lv_iload hx hb dX9_about_12 (lv_at hl 0 rfl) ?_
      refine lv_aload_n hx hb dX9_about_14 rfl (lv_at hl 3 rfl) ?_
      refine gf_n (C := RX9) (T := TX9) (N := 15) (ci := 9) (q0 := 0) (v := .ref (rf 0)) hx hb hts (iU inlX9) hown hK hP rfl rfl 0 (by decide) (kU u_129) rfl rfl dX9_about_15 ?_
      refine lv_iconst (v := (nI 0)) hx hb dX9_about_18 (by decide) ?_
      refine ia_n (q0 := 1) (t0 := 0) hx hb hK hP rfl rfl (by omega) (by decide) dX9_about_19 ?_
      rw [show qN (T 0 0) (T 0 1) (T 0 2) (T 0 3) (T 0 4) (T 0 5) (T 1) (T 2) (T 3) (T 4) (T 5) (T 6) (T 7) (T 8) 0 = (T 0 0) from rfl]
      refine lv_icmp_ge (tgt := 53) hx hb dX9_about_20 (by decide) (fun c_20 => ?_) (fun c_20 => ?_)
      · skip
        replace c_20 := cn_le (by omega) (by omega) c_20
        refine lv_iconst (v := (nI 0)) hx hb dX9_about_53 (by decide) ?_
        refine lv_istore (lv' := [(4, .int (nI 0)), (3, .int (nI k3)), (2, .int (nI k2)), (0, .ref mr), (1, .int w)]) hx hb dX9_about_54 hl (by decide) rfl (fun ls hl => ?_)
        refine lv_iconst (v := (nI 0)) hx hb dX9_about_56 (by decide) ?_
        refine lv_istore (lv' := [(5, .int (nI 0)), (4, .int (nI 0)), (3, .int (nI k3)), (2, .int (nI k2)), (0, .ref mr), (1, .int w)]) hx hb dX9_about_57 hl (by decide) rfl (fun ls hl => ?_)
        have loop_59 : ∀ (dd : Nat) (i5 : Nat) (k4 : Nat), (i5 ≤ T 0 1) → (k4 = sumN (T 6) i5) → (T 0 1 - i5) < dd → ∀ (Hp : Heap) (locs : List Loc), va_P D vwCl (mX mr rf st ln 0 pl hs vs dg xx ++ qX cI (rf 0) (T 0 0) (T 0 1) (T 0 2) (T 0 3) (T 0 4) (T 0 5) (T 1) (T 2) (T 3) (T 4) (T 5) (T 6) (T 7) (T 8)) Hp → va_D A (mX mr rf st ln 0 pl hs vs dg xx ++ qX cI (rf 0) (T 0 0) (T 0 1) (T 0 2) (T 0 3) (T 0 4) (T 0 5) (T 1) (T 2) (T 3) (T 4) (T 5) (T 6) (T 7) (T 8)) → va_S A s.heap Hp locs → ∀ ls : Array Slot, lv_has ls 6 [(5, .int (nI i5)), (4, .int (nI k4)), (3, .int (nI k3)), (2, .int (nI k2)), (0, .ref mr), (1, .int w)] → W p l e (rmF 2 44) s m args below meth c Hp locs 0 0 (MQ below (CQ D (some (.int (nI 0))) (fun _ : Unit => (mX mr rf st ln 1 pl hs vs dg xx ++ qX cI (rf 0) (T 0 0) (T 0 1) (T 0 2) (T 0 3) (T 0 4) (T 0 5) (T 1) (T 2) (T 3) (T 4) (T 5) (T 6) (T 7) (T 8))) A) args s 0 0 A) (F0 m 59 ls []) := by
          intro dd
          induction dd with
          | zero => intro i5 k4 hi5 e4 hm; exact absurd hm (Nat.not_lt_zero _)
          | succ dd ih_59 =>
            intro i5 k4 hi5 e4 hm Hp locs hP hD hS ls hl
            refine lv_iload hx hb dX9_about_59 (lv_at hl 0 rfl) ?_
            refine lv_aload_n hx hb dX9_about_61 rfl (lv_at hl 4 rfl) ?_
            refine gf_n (C := RX9) (T := TX9) (N := 15) (ci := 9) (q0 := 0) (v := .ref (rf 0)) hx hb hts (iU inlX9) hown hK hP rfl rfl 0 (by decide) (kU u_129) rfl rfl dX9_about_62 ?_
            refine lv_iconst (v := (nI 1)) hx hb dX9_about_65 (by decide) ?_
            refine ia_n (q0 := 1) (t0 := 0) hx hb hK hP rfl rfl (by omega) (by decide) dX9_about_66 ?_
            rw [show qN (T 0 0) (T 0 1) (T 0 2) (T 0 3) (T 0 4) (T 0 5) (T 1) (T 2) (T 3) (T 4) (T 5) (T 6) (T 7) (T 8) 1 = (T 0 1) from rfl]
            refine lv_icmp_ge (tgt := 93) hx hb dX9_about_67 (by decide) (fun c_67 => ?_) (fun c_67 => ?_)
            · skip
              replace c_67 := cn_le (by omega) (by omega) c_67
              refine lv_iload_n hx hb dX9_about_93 rfl (lv_at hl 5 rfl) ?_
              by_cases c_94_0 : w = nI 0
              · skip
                refine lv_tableIn (off := 54) (tgt := 148) hx hb dX9_about_94 (by rw [c_94_0]; decide +kernel) (by rw [c_94_0]; decide +kernel) (by rw [c_94_0]; decide +kernel) (by decide) ?_
                (exact absurd c_94_0 (hbad 0 (by decide)))
              by_cases c_94_1 : w = nI 1
              · skip
                refine lv_tableIn (off := 54) (tgt := 148) hx hb dX9_about_94 (by rw [c_94_1]; decide +kernel) (by rw [c_94_1]; decide +kernel) (by rw [c_94_1]; decide +kernel) (by decide) ?_
                (exact absurd c_94_1 (hbad 1 (by decide)))
              by_cases c_94_2 : w = nI 2
              · skip
                refine lv_tableIn (off := 54) (tgt := 148) hx hb dX9_about_94 (by rw [c_94_2]; decide +kernel) (by rw [c_94_2]; decide +kernel) (by rw [c_94_2]; decide +kernel) (by decide) ?_
                (exact absurd c_94_2 (hbad 2 (by decide)))
              by_cases c_94_3 : w = nI 3
              · skip
                refine lv_tableIn (off := 61) (tgt := 155) hx hb dX9_about_94 (by rw [c_94_3]; decide +kernel) (by rw [c_94_3]; decide +kernel) (by rw [c_94_3]; decide +kernel) (by decide) ?_
                (exact absurd c_94_3 (hbad 3 (by decide)))
              by_cases c_94_4 : w = nI 4
              · skip
                refine lv_tableIn (off := 63) (tgt := 157) hx hb dX9_about_94 (by rw [c_94_4]; decide +kernel) (by rw [c_94_4]; decide +kernel) (by rw [c_94_4]; decide +kernel) (by decide) ?_
                (exact absurd c_94_4 (hbad 4 (by decide)))
              by_cases c_94_5 : w = nI 5
              · skip
                refine lv_tableIn (off := 70) (tgt := 164) hx hb dX9_about_94 (by rw [c_94_5]; decide +kernel) (by rw [c_94_5]; decide +kernel) (by rw [c_94_5]; decide +kernel) (by decide) ?_
                (exact absurd c_94_5 (hbad 5 (by decide)))
              by_cases c_94_6 : w = nI 6
              · skip
                refine lv_tableIn (off := 77) (tgt := 171) hx hb dX9_about_94 (by rw [c_94_6]; decide +kernel) (by rw [c_94_6]; decide +kernel) (by rw [c_94_6]; decide +kernel) (by decide) ?_
                (exact absurd c_94_6 (hbad 6 (by decide)))
              by_cases c_94_7 : w = nI 7
              · skip
                refine lv_tableIn (off := 80) (tgt := 174) hx hb dX9_about_94 (by rw [c_94_7]; decide +kernel) (by rw [c_94_7]; decide +kernel) (by rw [c_94_7]; decide +kernel) (by decide) ?_
                (exact absurd c_94_7 (hbad 7 (by decide)))
              by_cases c_94_8 : w = nI 8
              · skip
                refine lv_tableIn (off := 82) (tgt := 176) hx hb dX9_about_94 (by rw [c_94_8]; decide +kernel) (by rw [c_94_8]; decide +kernel) (by rw [c_94_8]; decide +kernel) (by decide) ?_
                (exact absurd c_94_8 (hbad 8 (by decide)))
              by_cases c_94_9 : w = nI 9
              · skip
                refine lv_tableIn (off := 89) (tgt := 183) hx hb dX9_about_94 (by rw [c_94_9]; decide +kernel) (by rw [c_94_9]; decide +kernel) (by rw [c_94_9]; decide +kernel) (by decide) ?_
                (exact absurd c_94_9 (hbad 9 (by decide)))
              refine lv_tableOut (tgt := 188) hx hb dX9_about_94 (tb_out 0 10 (fun j hj => match j, hj with | 0, _ => c_94_0 | 1, _ => c_94_1 | 2, _ => c_94_2 | 3, _ => c_94_3 | 4, _ => c_94_4 | 5, _ => c_94_5 | 6, _ => c_94_6 | 7, _ => c_94_7 | 8, _ => c_94_8 | 9, _ => c_94_9 | k + 10, hj => absurd hj (by omega)) (by decide) rfl rfl) (by decide) ?_
              refine lv_aload_n hx hb dX9_about_188 rfl (lv_at hl 4 rfl) ?_
              refine lv_iconst (v := (nI 1)) hx hb dX9_about_189 (by decide) ?_
              refine gp_V (ci := 9) (q0 := 0) (cq := (RX9, TX9, 15)) (c_X9_fails l D cI cZ cF cL mr rf st ln 0 pl hs vs dg xx 1 ) (gUV u_175 u_176 u_177 u_5 u_178) rfl hdV_X9_fails ⟨Nat.le_of_ble_eq_true rfl, Nat.le_of_ble_eq_true rfl⟩ ⟨rfl, rfl⟩ hx hb hml hown hts hK hA hP hD hS hl.1 ⟨Nat.le_of_ble_eq_true rfl, Nat.le_of_ble_eq_true rfl⟩ rfl rfl rfl (wr := (qX cI (rf 0) (T 0 0) (T 0 1) (T 0 2) (T 0 3) (T 0 4) (T 0 5) (T 1) (T 2) (T 3) (T 4) (T 5) (T 6) (T 7) (T 8))) (pm_cnt (fun _ => by simp only [List.countP_append, List.countP_nil, fT] <;> omega)) (fun _ => by simp only [List.map_append, List.map_nil, fX_m, bX_m, sX_m, pX_m, iaX_m, r5X_m, r6X_m, fT_m, hX_m, tX_m, xX_m, sgX_m, zaX_m, fsB_a, qX_m, mX_m]) (rest := []) rfl rfl (Nat.le_of_ble_eq_true rfl) dX9_about_190 (ws2 := (fun _ : Unit => (mX mr rf st ln 1 pl hs vs dg xx ++ qX cI (rf 0) (T 0 0) (T 0 1) (T 0 2) (T 0 3) (T 0 4) (T 0 5) (T 1) (T 2) (T 3) (T 4) (T 5) (T 6) (T 7) (T 8)))) (fun _ => (pm_cnt (fun _ => by simp only [List.countP_append, List.countP_nil, fT] <;> omega))) (fun _ Hp locs hP hD hS => ?_)
              exact ct_i () hx hb hr hlocks hP hS rfl dX9_about_193
            · skip
              replace c_67 := cn_nle (by omega) (by omega) c_67
              refine lv_iload hx hb dX9_about_70 (lv_at hl 1 rfl) ?_
              refine lv_aload_n hx hb dX9_about_72 rfl (lv_at hl 4 rfl) ?_
              refine gf_n (C := RX9) (T := TX9) (N := 15) (ci := 9) (q0 := 0) (v := .ref (rf 0)) hx hb hts (iU inlX9) hown hK hP rfl rfl 0 (by decide) (kU u_129) rfl rfl dX9_about_73 ?_
              refine lv_iload hx hb dX9_about_76 (lv_at hl 0 rfl) ?_
              refine gp_S (c_X9_harvest l D cI cZ cF cL i5 ) (gUS u_278 u_279 u_5 u_280) rfl hdS_X9_harvest ⟨Nat.le_of_ble_eq_true rfl, Nat.le_of_ble_eq_true rfl⟩ ⟨rfl, rfl⟩ hx hb hml hown hts hK hA hP hD hS hl.1 ⟨Nat.le_of_ble_eq_true rfl, Nat.le_of_ble_eq_true rfl⟩ (wr := (mX mr rf st ln 0 pl hs vs dg xx ++ qX cI (rf 0) (T 0 0) (T 0 1) (T 0 2) (T 0 3) (T 0 4) (T 0 5) (T 1) (T 2) (T 3) (T 4) (T 5) (T 6) (T 7) (T 8))) (pm_cnt (fun _ => by simp only [List.countP_append, List.countP_nil, fT] <;> omega)) (fun _ => by simp only [List.map_append, List.map_nil, fX_m, bX_m, sX_m, pX_m, iaX_m, r5X_m, r6X_m, fT_m, hX_m, tX_m, xX_m, sgX_m, zaX_m, fsB_a, qX_m, mX_m]) (rest := [.ref (rf 0), .int (nI k4)]) rfl rfl (Nat.le_of_ble_eq_true rfl) dX9_about_78 (ws2 := (fun _ : Unit => (mX mr rf st ln 0 pl hs vs dg xx ++ qX cI (rf 0) (T 0 0) (T 0 1) (T 0 2) (T 0 3) (T 0 4) (T 0 5) (T 1) (T 2) (T 3) (T 4) (T 5) (T 6) (T 7) (T 8)))) (fun _ => (pm_cnt (fun _ => by simp only [List.countP_append, List.countP_nil, fT] <;> omega))) (fun _ Hp locs hP hD hS => ?_)
              refine lv_iconst (v := (nI 1)) hx hb dX9_about_81 (by decide) ?_
              refine lv_iadd hx hb dX9_about_82 ?_
              rw [nI_add (30 + 2 * i5) 1]
              refine ia_n (q0 := 1) (t0 := 0) hx hb hK hP rfl rfl (by omega) (by decide) dX9_about_83 ?_
              rw [qR_6 (by omega)]
              refine lv_iadd hx hb dX9_about_84 ?_
              rw [nI_add k4 ((T 6) i5)]
              refine lv_istore (lv' := [(4, .int (nI (k4 + ((T 6) i5)))), (5, .int (nI i5)), (3, .int (nI k3)), (2, .int (nI k2)), (0, .ref mr), (1, .int w)]) hx hb dX9_about_85 hl (by decide) rfl (fun ls hl => ?_)
              refine lv_iinc (v := (nI (i5 + 1))) (lv' := [(5, .int (nI (i5 + 1))), (4, .int (nI (k4 + ((T 6) i5)))), (3, .int (nI k3)), (2, .int (nI k2)), (0, .ref mr), (1, .int w)]) hx hb dX9_about_87 hl (k := 1) rfl (nI_add i5 1) (by decide) rfl (fun ls hl => ?_)
              refine lv_goto (tgt := 59) hx hb dX9_about_90 (by decide) ?_
              exact ih_59 (i5 + 1) (k4 + ((T 6) i5)) (by omega) (by rw [e4, sumN_s]) (by omega) _ _ hP hD hS _ (lv_sub hl [0, 1, 2, 3, 4, 5] rfl)
        exact loop_59 ((T 0 1 - 0) + 1) 0 0 (Nat.zero_le _) rfl (Nat.lt_succ_self _) _ _ hP hD hS _ (lv_sub hl [0, 1, 2, 3, 4, 5] rfl)
      · skip
        replace c_20 := cn_nle (by omega) (by omega) c_20
        refine lv_iload_n hx hb dX9_about_23 rfl (lv_at hl 2 rfl) ?_
        refine lv_aload_n hx hb dX9_about_24 rfl (lv_at hl 3 rfl) ?_
        refine lv_iload hx hb dX9_about_25 (lv_at hl 0 rfl) ?_
        refine gp_V (ci := 9) (q0 := 0) (cq := (RX9, TX9, 15)) (c_X9_ofHouse l D cI cZ cF cL mr rf st ln 0 pl hs vs dg xx (T 0 0) (T 0 1) (T 0 2) (T 0 3) (T 0 4) (T 0 5) (T 1) (T 2) (T 3) (T 4) (T 5) (T 6) (T 7) (T 8) i (by omega) hV) (gUV u_350 u_351 u_352 u_5 u_353) rfl hdV_X9_ofHouse ⟨Nat.le_of_ble_eq_true rfl, Nat.le_of_ble_eq_true rfl⟩ ⟨rfl, rfl⟩ hx hb hml hown hts hK hA hP hD hS hl.1 ⟨Nat.le_of_ble_eq_true rfl, Nat.le_of_ble_eq_true rfl⟩ rfl rfl rfl (wr := ([] : va_W)) (pm_cnt (fun _ => by simp only [List.countP_append, List.countP_nil, fT] <;> omega)) (fun _ => by simp only [List.map_append, List.map_nil, fX_m, bX_m, sX_m, pX_m, iaX_m, r5X_m, r6X_m, fT_m, hX_m, tX_m, xX_m, sgX_m, zaX_m, fsB_a, qX_m, mX_m]) (rest := [.int (nI k2)]) rfl rfl (Nat.le_of_ble_eq_true rfl) dX9_about_27 (ws2 := (fun _ : Unit => (mX mr rf st ln 0 pl hs vs dg xx ++ qX cI (rf 0) (T 0 0) (T 0 1) (T 0 2) (T 0 3) (T 0 4) (T 0 5) (T 1) (T 2) (T 3) (T 4) (T 5) (T 6) (T 7) (T 8)))) (fun _ => (pm_cnt (fun _ => by simp only [List.countP_append, List.countP_nil, fT] <;> omega))) (fun _ Hp locs hP hD hS => ?_)
        refine lv_iadd hx hb dX9_about_30 ?_
        rw [nI_add k2 (kilH (T 8) (T 0 1) i)]
        refine lv_istore_n (lv' := [(2, .int (nI (k2 + (kilH (T 8) (T 0 1) i)))), (4, .int (nI i)), (3, .int (nI k3)), (0, .ref mr), (1, .int w)]) hx hb dX9_about_31 rfl hl (by decide) rfl (fun ls hl => ?_)
        refine lv_iload_n hx hb dX9_about_32 rfl (lv_at hl 2 rfl) ?_
        refine lv_aload_n hx hb dX9_about_33 rfl (lv_at hl 3 rfl) ?_
        refine gf_n (C := RX9) (T := TX9) (N := 15) (ci := 9) (q0 := 0) (v := .ref (rf 0)) hx hb hts (iU inlX9) hown hK hP rfl rfl 0 (by decide) (kU u_129) rfl rfl dX9_about_34 ?_
        refine lv_iload hx hb dX9_about_37 (lv_at hl 1 rfl) ?_
        refine gp_S (c_X9_size l D cI cZ cF cL i ) (gUS u_275 u_276 u_5 u_277) rfl hdS_X9_size ⟨Nat.le_of_ble_eq_true rfl, Nat.le_of_ble_eq_true rfl⟩ ⟨rfl, rfl⟩ hx hb hml hown hts hK hA hP hD hS hl.1 ⟨Nat.le_of_ble_eq_true rfl, Nat.le_of_ble_eq_true rfl⟩ (wr := (mX mr rf st ln 0 pl hs vs dg xx ++ qX cI (rf 0) (T 0 0) (T 0 1) (T 0 2) (T 0 3) (T 0 4) (T 0 5) (T 1) (T 2) (T 3) (T 4) (T 5) (T 6) (T 7) (T 8))) (pm_cnt (fun _ => by simp only [List.countP_append, List.countP_nil, fT] <;> omega)) (fun _ => by simp only [List.map_append, List.map_nil, fX_m, bX_m, sX_m, pX_m, iaX_m, r5X_m, r6X_m, fT_m, hX_m, tX_m, xX_m, sgX_m, zaX_m, fsB_a, qX_m, mX_m]) (rest := [.ref (rf 0), .int (nI k3)]) rfl rfl (Nat.le_of_ble_eq_true rfl) dX9_about_39 (ws2 := (fun _ : Unit => (mX mr rf st ln 0 pl hs vs dg xx ++ qX cI (rf 0) (T 0 0) (T 0 1) (T 0 2) (T 0 3) (T 0 4) (T 0 5) (T 1) (T 2) (T 3) (T 4) (T 5) (T 6) (T 7) (T 8)))) (fun _ => (pm_cnt (fun _ => by simp only [List.countP_append, List.countP_nil, fT] <;> omega))) (fun _ Hp locs hP hD hS => ?_)
        refine lv_iconst (v := (nI 1)) hx hb dX9_about_42 (by decide) ?_
        refine lv_iadd hx hb dX9_about_43 ?_
        rw [nI_add (6 + 4 * i) 1]
        refine ia_n (q0 := 1) (t0 := 0) hx hb hK hP rfl rfl (by omega) (by decide) dX9_about_44 ?_
        rw [qR_2 (by omega)]
        refine lv_iadd hx hb dX9_about_45 ?_
        rw [nI_add k3 ((T 2) i)]
        refine lv_istore_n (lv' := [(3, .int (nI (k3 + ((T 2) i)))), (2, .int (nI (k2 + (kilH (T 8) (T 0 1) i)))), (4, .int (nI i)), (0, .ref mr), (1, .int w)]) hx hb dX9_about_46 rfl hl (by decide) rfl (fun ls hl => ?_)
        refine lv_iinc (v := (nI (i + 1))) (lv' := [(4, .int (nI (i + 1))), (3, .int (nI (k3 + ((T 2) i)))), (2, .int (nI (k2 + (kilH (T 8) (T 0 1) i)))), (0, .ref mr), (1, .int w)]) hx hb dX9_about_47 hl (k := 2) rfl (nI_add i 1) (by decide) rfl (fun ls hl => ?_)
        refine lv_goto (tgt := 12) hx hb dX9_about_50 (by decide) ?_
        exact ih_12 (i + 1) (k2 + (kilH (T 8) (T 0 1) i)) (k3 + ((T 2) i)) (by omega) (by rw [e2, sumN_s]) (by rw [e3, sumN_s]) (by omega) _ _ hP hD hS _ (lv_sub hl [0, 1, 2, 3, 4] rfl)
  exact loop_12 ((T 0 0 - 0) + 1) 0 0 0 (Nat.zero_le _) rfl rfl (Nat.lt_succ_self _) _ _ hP hD hS _ (lv_sub hl [0, 1, 2, 3, 4] rfl)
set_option maxRecDepth 20000 in
theorem u_400 : Cond.code yX9_isHouse cX9_isHouse 2 (some .boolean) ∈ wsL_law := List.mem_of_getElem? (i := 400) (by decide +kernel)
set_option maxRecDepth 20000 in
theorem u_397 : Cond.methodLink RX9 126 yX9_isHouse ∈ wsL_law := List.mem_of_getElem? (i := 397) (by decide +kernel)
set_option maxRecDepth 20000 in
theorem u_398 : Cond.instanceMethod yX9_isHouse ∈ wsL_law := List.mem_of_getElem? (i := 398) (by decide +kernel)
set_option maxRecDepth 20000 in
theorem u_399 : Cond.selects RX9 yX9_isHouse yX9_isHouse ∈ wsL_law := List.mem_of_getElem? (i := 399) (by decide +kernel)
theorem hdV_X9_isHouse : yX9_isHouse.cls = RX9 ∧ yX9_isHouse.cls ≠ "java/lang/invoke/MethodHandle" ∧ yX9_isHouse.cls ≠ "java/lang/invoke/VarHandle" ∧ (parseMethodDescriptor yX9_isHouse.desc).map (fun d => d.parameters.length) = some 1 := by decide +kernel
set_option maxHeartbeats 4000000 in
set_option maxRecDepth 100000 in
theorem c_X9_house (l : Launch) (D : va_G) (cI cZ cF cL : ClassId) (mr : Nat) (rf : Nat → Nat) (st ln th pl hs vs : Nat) (dg : Int32) (xx : Int64) (T : Nat → Nat → Nat) (h w : Nat) (hT : FI T) (hh : h < T 0 0) (hw : w < 7) : CT l D (tysX cI cZ cF cL) yX9_house (wA yX9_house cX9_house 3 (some .int)) (rmF 2 44) [.ref mr, .int (nI h), .int (nI w)] (mX mr rf st ln th pl hs vs dg xx ++ qX cI (rf 0) (T 0 0) (T 0 1) (T 0 2) (T 0 3) (T 0 4) (T 0 5) (T 1) (T 2) (T 3) (T 4) (T 5) (T 6) (T 7) (T 8)) (some (.int (nI (hoV T h w)))) (fun _ : Unit => (mX mr rf st ln 0 pl hs vs dg xx ++ qX cI (rf 0) (T 0 0) (T 0 1) (T 0 2) (T 0 3) (T 0 4) (T 0 5) (T 1) (T 2) (T 3) (T 4) (T 5) (T 6) (T 7) (T 8))) := by
  refine ct_in (cc := cX9_house) (maxL := 3) (ret := (some .int)) (own := RX9) (lv := [(0, .ref mr), (1, .int (nI h)), (2, .int (nI w))]) (by decide +kernel) rfl rfl (Nat.le_of_ble_eq_true rfl) rfl ?_
  intro p e s m args below meth c A ls hx hb hr hml hts hown hlocks hK hA hP hD hS hl
  have hH := hT.1.1
  have hV := hT.1.2
  refine lv_aload_n hx hb dX9_house_0 rfl (lv_at hl 0 rfl) ?_
  refine lv_iconst (v := (nI 0)) hx hb dX9_house_1 (by decide) ?_
  refine pf_n (C := RX9) (T := TX9) (N := 15) (ci := 9) (q0 := 0) (ty := .int) (v := .int (nI 0)) (ws2 := (mX mr rf st ln 0 pl hs vs dg xx ++ qX cI (rf 0) (T 0 0) (T 0 1) (T 0 2) (T 0 3) (T 0 4) (T 0 5) (T 1) (T 2) (T 3) (T 4) (T 5) (T 6) (T 7) (T 8))) hx hb hts (iU inlX9) tyX9 tyX9_ok nmX9 hown hK hP hD hS rfl rfl 8 (by decide) (kU u_173) rfl rfl (tyX9_ok 8 (by decide)) rfl rfl (Nat.le_of_ble_eq_true rfl) dX9_house_2 rfl (fun Hp locs hP hD hS => ?_)
  refine lv_aload_n hx hb dX9_house_5 rfl (lv_at hl 0 rfl) ?_
  refine lv_iload_n hx hb dX9_house_6 rfl (lv_at hl 1 rfl) ?_
  refine gp_V (ci := 9) (q0 := 0) (cq := (RX9, TX9, 15)) (c_X9_isHouse l D cI cZ cF cL mr rf st ln 0 pl hs vs dg xx (T 0 0) (T 0 1) (T 0 2) (T 0 3) (T 0 4) (T 0 5) (T 1) (T 2) (T 3) (T 4) (T 5) (T 6) (T 7) (T 8) ((nI h)) (by omega) (by omega)) (gUV u_397 u_398 u_399 u_5 u_400) rfl hdV_X9_isHouse ⟨Nat.le_of_ble_eq_true rfl, Nat.le_of_ble_eq_true rfl⟩ ⟨rfl, rfl⟩ hx hb hml hown hts hK hA hP hD hS hl.1 ⟨Nat.le_of_ble_eq_true rfl, Nat.le_of_ble_eq_true rfl⟩ rfl rfl rfl (wr := ([] : va_W)) (pm_cnt (fun _ => by simp only [List.countP_append, List.countP_nil, fT] <;> omega)) (fun _ => by simp only [List.map_append, List.map_nil, fX_m, bX_m, sX_m, pX_m, iaX_m, r5X_m, r6X_m, fT_m, hX_m, tX_m, xX_m, sgX_m, zaX_m, fsB_a, qX_m, mX_m]) (rest := []) rfl rfl (Nat.le_of_ble_eq_true rfl) dX9_house_7 (ws2 := (fun _ : Unit => (mX mr rf st ln 0 pl hs vs dg xx ++ qX cI (rf 0) (T 0 0) (T 0 1) (T 0 2) (T 0 3) (T 0 4) (T 0 5) (T 1) (T 2) (T 3) (T 4) (T 5) (T 6) (T 7) (T 8)))) (fun _ => (pm_cnt (fun _ => by simp only [List.countP_append, List.countP_nil, fT] <;> omega))) (fun _ Hp locs hP hD hS => ?_)
  refine lv_if_ne (tgt := 19) hx hb dX9_house_10 (by decide) (fun c_10 => ?_) (fun c_10 => ?_)
  · skip
    replace c_10 := cb_nz c_10
    refine lv_iload_n hx hb dX9_house_19 rfl (lv_at hl 2 rfl) ?_
    refine lv_iconst (v := (nI 0)) hx hb dX9_house_20 (by decide) ?_
    refine lv_bipush (v := (nI 6)) hx hb dX9_house_21 (by decide) ?_
    refine gp_S (c_X9_in l D cI cZ cF cL ((nI w)) ((nI 0)) ((nI 6)) ) (gUS u_140 u_141 u_5 u_142) rfl hdS_X9_in ⟨Nat.le_of_ble_eq_true rfl, Nat.le_of_ble_eq_true rfl⟩ ⟨rfl, rfl⟩ hx hb hml hown hts hK hA hP hD hS hl.1 ⟨Nat.le_of_ble_eq_true rfl, Nat.le_of_ble_eq_true rfl⟩ (wr := (mX mr rf st ln 0 pl hs vs dg xx ++ qX cI (rf 0) (T 0 0) (T 0 1) (T 0 2) (T 0 3) (T 0 4) (T 0 5) (T 1) (T 2) (T 3) (T 4) (T 5) (T 6) (T 7) (T 8))) (pm_cnt (fun _ => by simp only [List.countP_append, List.countP_nil, fT] <;> omega)) (fun _ => by simp only [List.map_append, List.map_nil, fX_m, bX_m, sX_m, pX_m, iaX_m, r5X_m, r6X_m, fT_m, hX_m, tX_m, xX_m, sgX_m, zaX_m, fsB_a, qX_m, mX_m]) (rest := []) rfl rfl (Nat.le_of_ble_eq_true rfl) dX9_house_23 (ws2 := (fun _ : Unit => (mX mr rf st ln 0 pl hs vs dg xx ++ qX cI (rf 0) (T 0 0) (T 0 1) (T 0 2) (T 0 3) (T 0 4) (T 0 5) (T 1) (T 2) (T 3) (T 4) (T 5) (T 6) (T 7) (T 8)))) (fun _ => (pm_cnt (fun _ => by simp only [List.countP_append, List.countP_nil, fT] <;> omega))) (fun _ Hp locs hP hD hS => ?_)
    refine lv_if_ne (tgt := 35) hx hb dX9_house_26 (by decide) (fun c_26 => ?_) (fun c_26 => ?_)
    · skip
      replace c_26 := cb_nz c_26
      refine lv_iload_n hx hb dX9_house_35 rfl (lv_at hl 2 rfl) ?_
      refine lv_iconst (v := (nI 4)) hx hb dX9_house_36 (by decide) ?_
      refine lv_icmp_ge (tgt := 54) hx hb dX9_house_37 (by decide) (fun c_37 => ?_) (fun c_37 => ?_)
      · skip
        replace c_37 := cn_le (by omega) (by omega) c_37
        refine lv_iload_n hx hb dX9_house_54 rfl (lv_at hl 2 rfl) ?_
        refine lv_iconst (v := (nI 4)) hx hb dX9_house_55 (by decide) ?_
        refine lv_icmp_ne (tgt := 67) hx hb dX9_house_56 (by decide) (fun c_56 => ?_) (fun c_56 => ?_)
        · skip
          replace c_56 := cn_ne c_56
          refine lv_iload_n hx hb dX9_house_67 rfl (lv_at hl 2 rfl) ?_
          refine lv_iconst (v := (nI 5)) hx hb dX9_house_68 (by decide) ?_
          refine lv_icmp_ne (tgt := 80) hx hb dX9_house_69 (by decide) (fun c_69 => ?_) (fun c_69 => ?_)
          · skip
            replace c_69 := cn_ne c_69
            refine lv_aload_n hx hb dX9_house_80 rfl (lv_at hl 0 rfl) ?_
            refine lv_iload_n hx hb dX9_house_81 rfl (lv_at hl 1 rfl) ?_
            refine gp_V (ci := 9) (q0 := 0) (cq := (RX9, TX9, 15)) (c_X9_getsBox l D cI cZ cF cL mr rf st ln 0 pl hs vs dg xx (T 0 0) (T 0 1) (T 0 2) (T 0 3) (T 0 4) (T 0 5) (T 1) (T 2) (T 3) (T 4) (T 5) (T 6) (T 7) (T 8) h (by omega) (fun h hh => by have := (hT.2.1 h hh).2.1; omega) (fun h hh => by have := (hT.2.1 h hh).2.2.2.1; omega)) (gUV u_361 u_362 u_363 u_5 u_364) rfl hdV_X9_getsBox ⟨Nat.le_of_ble_eq_true rfl, Nat.le_of_ble_eq_true rfl⟩ ⟨rfl, rfl⟩ hx hb hml hown hts hK hA hP hD hS hl.1 ⟨Nat.le_of_ble_eq_true rfl, Nat.le_of_ble_eq_true rfl⟩ rfl rfl rfl (wr := ([] : va_W)) (pm_cnt (fun _ => by simp only [List.countP_append, List.countP_nil, fT] <;> omega)) (fun _ => by simp only [List.map_append, List.map_nil, fX_m, bX_m, sX_m, pX_m, iaX_m, r5X_m, r6X_m, fT_m, hX_m, tX_m, xX_m, sgX_m, zaX_m, fsB_a, qX_m, mX_m]) (rest := []) rfl rfl (Nat.le_of_ble_eq_true rfl) dX9_house_82 (ws2 := (fun _ : Unit => (mX mr rf st ln 0 pl hs vs dg xx ++ qX cI (rf 0) (T 0 0) (T 0 1) (T 0 2) (T 0 3) (T 0 4) (T 0 5) (T 1) (T 2) (T 3) (T 4) (T 5) (T 6) (T 7) (T 8)))) (fun _ => (pm_cnt (fun _ => by simp only [List.countP_append, List.countP_nil, fT] <;> omega))) (fun _ Hp locs hP hD hS => ?_)
            refine lv_if_eq (tgt := 92) hx hb dX9_house_85 (by decide) (fun c_85 => ?_) (fun c_85 => ?_)
            · skip
              replace c_85 := cb_z c_85
              refine lv_iconst (v := (nI 0)) hx hb dX9_house_92 (by decide) ?_
              exact ct_i () hx hb hr hlocks hP hS (by first | exact congrArg nI (hov_4 c_37 (by omega)) | exact congrArg nI (by rw [c_56]; rfl) | exact congrArg nI (by rw [c_69]; rfl) | exact congrArg nI (by rw [show w = 6 by omega]; exact (if_pos c_85).symm) | exact congrArg nI (by rw [show w = 6 by omega]; exact (if_neg c_85).symm)) dX9_house_93
            · skip
              replace c_85 := cb_nz c_85
              refine lv_iconst (v := (nI 1)) hx hb dX9_house_88 (by decide) ?_
              refine lv_goto (tgt := 93) hx hb dX9_house_89 (by decide) ?_
              exact ct_i () hx hb hr hlocks hP hS (by first | exact congrArg nI (hov_4 c_37 (by omega)) | exact congrArg nI (by rw [c_56]; rfl) | exact congrArg nI (by rw [c_69]; rfl) | exact congrArg nI (by rw [show w = 6 by omega]; exact (if_pos c_85).symm) | exact congrArg nI (by rw [show w = 6 by omega]; exact (if_neg c_85).symm)) dX9_house_93
          · skip
            replace c_69 := cn_eq (by omega) (by omega) c_69
            refine lv_aload_n hx hb dX9_house_72 rfl (lv_at hl 0 rfl) ?_
            refine lv_iload_n hx hb dX9_house_73 rfl (lv_at hl 1 rfl) ?_
            refine gp_V (ci := 9) (q0 := 0) (cq := (RX9, TX9, 15)) (c_X9_happiness l D cI cZ cF cL mr rf st ln 0 pl hs vs dg xx (T 0 0) (T 0 1) (T 0 2) (T 0 3) (T 0 4) (T 0 5) (T 1) (T 2) (T 3) (T 4) (T 5) (T 6) (T 7) (T 8) h (by omega) hV) (gUV u_401 u_402 u_403 u_5 u_404) rfl hdV_X9_happiness ⟨Nat.le_of_ble_eq_true rfl, Nat.le_of_ble_eq_true rfl⟩ ⟨rfl, rfl⟩ hx hb hml hown hts hK hA hP hD hS hl.1 ⟨Nat.le_of_ble_eq_true rfl, Nat.le_of_ble_eq_true rfl⟩ rfl rfl rfl (wr := ([] : va_W)) (pm_cnt (fun _ => by simp only [List.countP_append, List.countP_nil, fT] <;> omega)) (fun _ => by simp only [List.map_append, List.map_nil, fX_m, bX_m, sX_m, pX_m, iaX_m, r5X_m, r6X_m, fT_m, hX_m, tX_m, xX_m, sgX_m, zaX_m, fsB_a, qX_m, mX_m]) (rest := []) rfl rfl (Nat.le_of_ble_eq_true rfl) dX9_house_74 (ws2 := (fun _ : Unit => (mX mr rf st ln 0 pl hs vs dg xx ++ qX cI (rf 0) (T 0 0) (T 0 1) (T 0 2) (T 0 3) (T 0 4) (T 0 5) (T 1) (T 2) (T 3) (T 4) (T 5) (T 6) (T 7) (T 8)))) (fun _ => (pm_cnt (fun _ => by simp only [List.countP_append, List.countP_nil, fT] <;> omega))) (fun _ Hp locs hP hD hS => ?_)
            refine lv_goto (tgt := 93) hx hb dX9_house_77 (by decide) ?_
            exact ct_i () hx hb hr hlocks hP hS (by first | exact congrArg nI (hov_4 c_37 (by omega)) | exact congrArg nI (by rw [c_56]; rfl) | exact congrArg nI (by rw [c_69]; rfl) | exact congrArg nI (by rw [show w = 6 by omega]; exact (if_pos c_85).symm) | exact congrArg nI (by rw [show w = 6 by omega]; exact (if_neg c_85).symm)) dX9_house_93
        · skip
          replace c_56 := cn_eq (by omega) (by omega) c_56
          refine lv_aload_n hx hb dX9_house_59 rfl (lv_at hl 0 rfl) ?_
          refine lv_iload_n hx hb dX9_house_60 rfl (lv_at hl 1 rfl) ?_
          refine gp_V (ci := 9) (q0 := 0) (cq := (RX9, TX9, 15)) (c_X9_ofHouse l D cI cZ cF cL mr rf st ln 0 pl hs vs dg xx (T 0 0) (T 0 1) (T 0 2) (T 0 3) (T 0 4) (T 0 5) (T 1) (T 2) (T 3) (T 4) (T 5) (T 6) (T 7) (T 8) h (by omega) hV) (gUV u_350 u_351 u_352 u_5 u_353) rfl hdV_X9_ofHouse ⟨Nat.le_of_ble_eq_true rfl, Nat.le_of_ble_eq_true rfl⟩ ⟨rfl, rfl⟩ hx hb hml hown hts hK hA hP hD hS hl.1 ⟨Nat.le_of_ble_eq_true rfl, Nat.le_of_ble_eq_true rfl⟩ rfl rfl rfl (wr := ([] : va_W)) (pm_cnt (fun _ => by simp only [List.countP_append, List.countP_nil, fT] <;> omega)) (fun _ => by simp only [List.map_append, List.map_nil, fX_m, bX_m, sX_m, pX_m, iaX_m, r5X_m, r6X_m, fT_m, hX_m, tX_m, xX_m, sgX_m, zaX_m, fsB_a, qX_m, mX_m]) (rest := []) rfl rfl (Nat.le_of_ble_eq_true rfl) dX9_house_61 (ws2 := (fun _ : Unit => (mX mr rf st ln 0 pl hs vs dg xx ++ qX cI (rf 0) (T 0 0) (T 0 1) (T 0 2) (T 0 3) (T 0 4) (T 0 5) (T 1) (T 2) (T 3) (T 4) (T 5) (T 6) (T 7) (T 8)))) (fun _ => (pm_cnt (fun _ => by simp only [List.countP_append, List.countP_nil, fT] <;> omega))) (fun _ Hp locs hP hD hS => ?_)
          refine lv_goto (tgt := 93) hx hb dX9_house_64 (by decide) ?_
          exact ct_i () hx hb hr hlocks hP hS (by first | exact congrArg nI (hov_4 c_37 (by omega)) | exact congrArg nI (by rw [c_56]; rfl) | exact congrArg nI (by rw [c_69]; rfl) | exact congrArg nI (by rw [show w = 6 by omega]; exact (if_pos c_85).symm) | exact congrArg nI (by rw [show w = 6 by omega]; exact (if_neg c_85).symm)) dX9_house_93
      · skip
        replace c_37 := cn_nle (by omega) (by omega) c_37
        refine lv_aload_n hx hb dX9_house_40 rfl (lv_at hl 0 rfl) ?_
        refine gf_n (C := RX9) (T := TX9) (N := 15) (ci := 9) (q0 := 0) (v := .ref (rf 0)) hx hb hts (iU inlX9) hown hK hP rfl rfl 0 (by decide) (kU u_129) rfl rfl dX9_house_41 ?_
        refine lv_iload_n hx hb dX9_house_44 rfl (lv_at hl 1 rfl) ?_
        refine gp_S (c_X9_size l D cI cZ cF cL h ) (gUS u_275 u_276 u_5 u_277) rfl hdS_X9_size ⟨Nat.le_of_ble_eq_true rfl, Nat.le_of_ble_eq_true rfl⟩ ⟨rfl, rfl⟩ hx hb hml hown hts hK hA hP hD hS hl.1 ⟨Nat.le_of_ble_eq_true rfl, Nat.le_of_ble_eq_true rfl⟩ (wr := (mX mr rf st ln 0 pl hs vs dg xx ++ qX cI (rf 0) (T 0 0) (T 0 1) (T 0 2) (T 0 3) (T 0 4) (T 0 5) (T 1) (T 2) (T 3) (T 4) (T 5) (T 6) (T 7) (T 8))) (pm_cnt (fun _ => by simp only [List.countP_append, List.countP_nil, fT] <;> omega)) (fun _ => by simp only [List.map_append, List.map_nil, fX_m, bX_m, sX_m, pX_m, iaX_m, r5X_m, r6X_m, fT_m, hX_m, tX_m, xX_m, sgX_m, zaX_m, fsB_a, qX_m, mX_m]) (rest := [.ref (rf 0)]) rfl rfl (Nat.le_of_ble_eq_true rfl) dX9_house_45 (ws2 := (fun _ : Unit => (mX mr rf st ln 0 pl hs vs dg xx ++ qX cI (rf 0) (T 0 0) (T 0 1) (T 0 2) (T 0 3) (T 0 4) (T 0 5) (T 1) (T 2) (T 3) (T 4) (T 5) (T 6) (T 7) (T 8)))) (fun _ => (pm_cnt (fun _ => by simp only [List.countP_append, List.countP_nil, fT] <;> omega))) (fun _ Hp locs hP hD hS => ?_)
        refine lv_iload_n hx hb dX9_house_48 rfl (lv_at hl 2 rfl) ?_
        refine lv_iadd hx hb dX9_house_49 ?_
        rw [nI_add (6 + 4 * h) w]
        refine ia_n (q0 := 1) (t0 := 0) hx hb hK hP rfl rfl (by omega) (by decide) dX9_house_50 ?_
        refine lv_goto (tgt := 93) hx hb dX9_house_51 (by decide) ?_
        exact ct_i () hx hb hr hlocks hP hS (by first | exact congrArg nI (hov_4 c_37 (by omega)) | exact congrArg nI (by rw [c_56]; rfl) | exact congrArg nI (by rw [c_69]; rfl) | exact congrArg nI (by rw [show w = 6 by omega]; exact (if_pos c_85).symm) | exact congrArg nI (by rw [show w = 6 by omega]; exact (if_neg c_85).symm)) dX9_house_93
    · skip
      replace c_26 := cb_z c_26
      (exact absurd ((in_n (by omega) (by decide) (by decide)).mpr ⟨by omega, by omega⟩) c_26)
  · skip
    replace c_10 := cb_z c_10
    (exact absurd (hhV hh hT.1.1) c_10)
set_option maxHeartbeats 4000000 in
set_option maxRecDepth 100000 in
theorem f1_X9_house (l : Launch) (D : va_G) (cI cZ cF cL : ClassId) (mr : Nat) (rf : Nat → Nat) (st ln th pl hs vs : Nat) (dg : Int32) (xx : Int64) (T : Nat → Nat → Nat) (x w : Int32) (hT : FI T) (hbad : ¬ (0 ≤ x ∧ x < nI (T 0 0))) : CT l D (tysX cI cZ cF cL) yX9_house (wA yX9_house cX9_house 3 (some .int)) (rmF 2 43) [.ref mr, .int x, .int w] (mX mr rf st ln th pl hs vs dg xx ++ qX cI (rf 0) (T 0 0) (T 0 1) (T 0 2) (T 0 3) (T 0 4) (T 0 5) (T 1) (T 2) (T 3) (T 4) (T 5) (T 6) (T 7) (T 8)) (some (.int (nI 0))) (fun _ : Unit => (mX mr rf st ln 1 pl hs vs dg xx ++ qX cI (rf 0) (T 0 0) (T 0 1) (T 0 2) (T 0 3) (T 0 4) (T 0 5) (T 1) (T 2) (T 3) (T 4) (T 5) (T 6) (T 7) (T 8))) := by
  refine ct_in (cc := cX9_house) (maxL := 3) (ret := (some .int)) (own := RX9) (lv := [(0, .ref mr), (1, .int x), (2, .int w)]) (by decide +kernel) rfl rfl (Nat.le_of_ble_eq_true rfl) rfl ?_
  intro p e s m args below meth c A ls hx hb hr hml hts hown hlocks hK hA hP hD hS hl
  have hH := hT.1.1
  have hV := hT.1.2
  refine lv_aload_n hx hb dX9_house_0 rfl (lv_at hl 0 rfl) ?_
  refine lv_iconst (v := (nI 0)) hx hb dX9_house_1 (by decide) ?_
  refine pf_n (C := RX9) (T := TX9) (N := 15) (ci := 9) (q0 := 0) (ty := .int) (v := .int (nI 0)) (ws2 := (mX mr rf st ln 0 pl hs vs dg xx ++ qX cI (rf 0) (T 0 0) (T 0 1) (T 0 2) (T 0 3) (T 0 4) (T 0 5) (T 1) (T 2) (T 3) (T 4) (T 5) (T 6) (T 7) (T 8))) hx hb hts (iU inlX9) tyX9 tyX9_ok nmX9 hown hK hP hD hS rfl rfl 8 (by decide) (kU u_173) rfl rfl (tyX9_ok 8 (by decide)) rfl rfl (Nat.le_of_ble_eq_true rfl) dX9_house_2 rfl (fun Hp locs hP hD hS => ?_)
  refine lv_aload_n hx hb dX9_house_5 rfl (lv_at hl 0 rfl) ?_
  refine lv_iload_n hx hb dX9_house_6 rfl (lv_at hl 1 rfl) ?_
  refine gp_V (ci := 9) (q0 := 0) (cq := (RX9, TX9, 15)) (c_X9_isHouse l D cI cZ cF cL mr rf st ln 0 pl hs vs dg xx (T 0 0) (T 0 1) (T 0 2) (T 0 3) (T 0 4) (T 0 5) (T 1) (T 2) (T 3) (T 4) (T 5) (T 6) (T 7) (T 8) x (by omega) (by omega)) (gUV u_397 u_398 u_399 u_5 u_400) rfl hdV_X9_isHouse ⟨Nat.le_of_ble_eq_true rfl, Nat.le_of_ble_eq_true rfl⟩ ⟨rfl, rfl⟩ hx hb hml hown hts hK hA hP hD hS hl.1 ⟨Nat.le_of_ble_eq_true rfl, Nat.le_of_ble_eq_true rfl⟩ rfl rfl rfl (wr := ([] : va_W)) (pm_cnt (fun _ => by simp only [List.countP_append, List.countP_nil, fT] <;> omega)) (fun _ => by simp only [List.map_append, List.map_nil, fX_m, bX_m, sX_m, pX_m, iaX_m, r5X_m, r6X_m, fT_m, hX_m, tX_m, xX_m, sgX_m, zaX_m, fsB_a, qX_m, mX_m]) (rest := []) rfl rfl (Nat.le_of_ble_eq_true rfl) dX9_house_7 (ws2 := (fun _ : Unit => (mX mr rf st ln 0 pl hs vs dg xx ++ qX cI (rf 0) (T 0 0) (T 0 1) (T 0 2) (T 0 3) (T 0 4) (T 0 5) (T 1) (T 2) (T 3) (T 4) (T 5) (T 6) (T 7) (T 8)))) (fun _ => (pm_cnt (fun _ => by simp only [List.countP_append, List.countP_nil, fT] <;> omega))) (fun _ Hp locs hP hD hS => ?_)
  refine lv_if_ne (tgt := 19) hx hb dX9_house_10 (by decide) (fun c_10 => ?_) (fun c_10 => ?_)
  · skip
    replace c_10 := cb_nz c_10
    (exact absurd c_10 hbad)
  · skip
    replace c_10 := cb_z c_10
    refine lv_aload_n hx hb dX9_house_13 rfl (lv_at hl 0 rfl) ?_
    refine lv_iconst (v := (nI 1)) hx hb dX9_house_14 (by decide) ?_
    refine gp_V (ci := 9) (q0 := 0) (cq := (RX9, TX9, 15)) (c_X9_fails l D cI cZ cF cL mr rf st ln 0 pl hs vs dg xx 1 ) (gUV u_175 u_176 u_177 u_5 u_178) rfl hdV_X9_fails ⟨Nat.le_of_ble_eq_true rfl, Nat.le_of_ble_eq_true rfl⟩ ⟨rfl, rfl⟩ hx hb hml hown hts hK hA hP hD hS hl.1 ⟨Nat.le_of_ble_eq_true rfl, Nat.le_of_ble_eq_true rfl⟩ rfl rfl rfl (wr := (qX cI (rf 0) (T 0 0) (T 0 1) (T 0 2) (T 0 3) (T 0 4) (T 0 5) (T 1) (T 2) (T 3) (T 4) (T 5) (T 6) (T 7) (T 8))) (pm_cnt (fun _ => by simp only [List.countP_append, List.countP_nil, fT] <;> omega)) (fun _ => by simp only [List.map_append, List.map_nil, fX_m, bX_m, sX_m, pX_m, iaX_m, r5X_m, r6X_m, fT_m, hX_m, tX_m, xX_m, sgX_m, zaX_m, fsB_a, qX_m, mX_m]) (rest := []) rfl rfl (Nat.le_of_ble_eq_true rfl) dX9_house_15 (ws2 := (fun _ : Unit => (mX mr rf st ln 1 pl hs vs dg xx ++ qX cI (rf 0) (T 0 0) (T 0 1) (T 0 2) (T 0 3) (T 0 4) (T 0 5) (T 1) (T 2) (T 3) (T 4) (T 5) (T 6) (T 7) (T 8)))) (fun _ => (pm_cnt (fun _ => by simp only [List.countP_append, List.countP_nil, fT] <;> omega))) (fun _ Hp locs hP hD hS => ?_)
    exact ct_i () hx hb hr hlocks hP hS rfl dX9_house_18
set_option maxHeartbeats 4000000 in
set_option maxRecDepth 100000 in
theorem f2_X9_house (l : Launch) (D : va_G) (cI cZ cF cL : ClassId) (mr : Nat) (rf : Nat → Nat) (st ln th pl hs vs : Nat) (dg : Int32) (xx : Int64) (T : Nat → Nat → Nat) (h : Nat) (x : Int32) (hT : FI T) (hh : h < T 0 0) (hbad : ¬ (nI 0 ≤ x ∧ x ≤ nI 6)) : CT l D (tysX cI cZ cF cL) yX9_house (wA yX9_house cX9_house 3 (some .int)) (rmF 2 43) [.ref mr, .int (nI h), .int x] (mX mr rf st ln th pl hs vs dg xx ++ qX cI (rf 0) (T 0 0) (T 0 1) (T 0 2) (T 0 3) (T 0 4) (T 0 5) (T 1) (T 2) (T 3) (T 4) (T 5) (T 6) (T 7) (T 8)) (some (.int (nI 0))) (fun _ : Unit => (mX mr rf st ln 2 pl hs vs dg xx ++ qX cI (rf 0) (T 0 0) (T 0 1) (T 0 2) (T 0 3) (T 0 4) (T 0 5) (T 1) (T 2) (T 3) (T 4) (T 5) (T 6) (T 7) (T 8))) := by
  refine ct_in (cc := cX9_house) (maxL := 3) (ret := (some .int)) (own := RX9) (lv := [(0, .ref mr), (1, .int (nI h)), (2, .int x)]) (by decide +kernel) rfl rfl (Nat.le_of_ble_eq_true rfl) rfl ?_
  intro p e s m args below meth c A ls hx hb hr hml hts hown hlocks hK hA hP hD hS hl
  have hH := hT.1.1
  have hV := hT.1.2
  refine lv_aload_n hx hb dX9_house_0 rfl (lv_at hl 0 rfl) ?_
  refine lv_iconst (v := (nI 0)) hx hb dX9_house_1 (by decide) ?_
  refine pf_n (C := RX9) (T := TX9) (N := 15) (ci := 9) (q0 := 0) (ty := .int) (v := .int (nI 0)) (ws2 := (mX mr rf st ln 0 pl hs vs dg xx ++ qX cI (rf 0) (T 0 0) (T 0 1) (T 0 2) (T 0 3) (T 0 4) (T 0 5) (T 1) (T 2) (T 3) (T 4) (T 5) (T 6) (T 7) (T 8))) hx hb hts (iU inlX9) tyX9 tyX9_ok nmX9 hown hK hP hD hS rfl rfl 8 (by decide) (kU u_173) rfl rfl (tyX9_ok 8 (by decide)) rfl rfl (Nat.le_of_ble_eq_true rfl) dX9_house_2 rfl (fun Hp locs hP hD hS => ?_)
  refine lv_aload_n hx hb dX9_house_5 rfl (lv_at hl 0 rfl) ?_
  refine lv_iload_n hx hb dX9_house_6 rfl (lv_at hl 1 rfl) ?_
  refine gp_V (ci := 9) (q0 := 0) (cq := (RX9, TX9, 15)) (c_X9_isHouse l D cI cZ cF cL mr rf st ln 0 pl hs vs dg xx (T 0 0) (T 0 1) (T 0 2) (T 0 3) (T 0 4) (T 0 5) (T 1) (T 2) (T 3) (T 4) (T 5) (T 6) (T 7) (T 8) ((nI h)) (by omega) (by omega)) (gUV u_397 u_398 u_399 u_5 u_400) rfl hdV_X9_isHouse ⟨Nat.le_of_ble_eq_true rfl, Nat.le_of_ble_eq_true rfl⟩ ⟨rfl, rfl⟩ hx hb hml hown hts hK hA hP hD hS hl.1 ⟨Nat.le_of_ble_eq_true rfl, Nat.le_of_ble_eq_true rfl⟩ rfl rfl rfl (wr := ([] : va_W)) (pm_cnt (fun _ => by simp only [List.countP_append, List.countP_nil, fT] <;> omega)) (fun _ => by simp only [List.map_append, List.map_nil, fX_m, bX_m, sX_m, pX_m, iaX_m, r5X_m, r6X_m, fT_m, hX_m, tX_m, xX_m, sgX_m, zaX_m, fsB_a, qX_m, mX_m]) (rest := []) rfl rfl (Nat.le_of_ble_eq_true rfl) dX9_house_7 (ws2 := (fun _ : Unit => (mX mr rf st ln 0 pl hs vs dg xx ++ qX cI (rf 0) (T 0 0) (T 0 1) (T 0 2) (T 0 3) (T 0 4) (T 0 5) (T 1) (T 2) (T 3) (T 4) (T 5) (T 6) (T 7) (T 8)))) (fun _ => (pm_cnt (fun _ => by simp only [List.countP_append, List.countP_nil, fT] <;> omega))) (fun _ Hp locs hP hD hS => ?_)
  refine lv_if_ne (tgt := 19) hx hb dX9_house_10 (by decide) (fun c_10 => ?_) (fun c_10 => ?_)
  · skip
    replace c_10 := cb_nz c_10
    refine lv_iload_n hx hb dX9_house_19 rfl (lv_at hl 2 rfl) ?_
    refine lv_iconst (v := (nI 0)) hx hb dX9_house_20 (by decide) ?_
    refine lv_bipush (v := (nI 6)) hx hb dX9_house_21 (by decide) ?_
    refine gp_S (c_X9_in l D cI cZ cF cL x ((nI 0)) ((nI 6)) ) (gUS u_140 u_141 u_5 u_142) rfl hdS_X9_in ⟨Nat.le_of_ble_eq_true rfl, Nat.le_of_ble_eq_true rfl⟩ ⟨rfl, rfl⟩ hx hb hml hown hts hK hA hP hD hS hl.1 ⟨Nat.le_of_ble_eq_true rfl, Nat.le_of_ble_eq_true rfl⟩ (wr := (mX mr rf st ln 0 pl hs vs dg xx ++ qX cI (rf 0) (T 0 0) (T 0 1) (T 0 2) (T 0 3) (T 0 4) (T 0 5) (T 1) (T 2) (T 3) (T 4) (T 5) (T 6) (T 7) (T 8))) (pm_cnt (fun _ => by simp only [List.countP_append, List.countP_nil, fT] <;> omega)) (fun _ => by simp only [List.map_append, List.map_nil, fX_m, bX_m, sX_m, pX_m, iaX_m, r5X_m, r6X_m, fT_m, hX_m, tX_m, xX_m, sgX_m, zaX_m, fsB_a, qX_m, mX_m]) (rest := []) rfl rfl (Nat.le_of_ble_eq_true rfl) dX9_house_23 (ws2 := (fun _ : Unit => (mX mr rf st ln 0 pl hs vs dg xx ++ qX cI (rf 0) (T 0 0) (T 0 1) (T 0 2) (T 0 3) (T 0 4) (T 0 5) (T 1) (T 2) (T 3) (T 4) (T 5) (T 6) (T 7) (T 8)))) (fun _ => (pm_cnt (fun _ => by simp only [List.countP_append, List.countP_nil, fT] <;> omega))) (fun _ Hp locs hP hD hS => ?_)
    refine lv_if_ne (tgt := 35) hx hb dX9_house_26 (by decide) (fun c_26 => ?_) (fun c_26 => ?_)
    · skip
      replace c_26 := cb_nz c_26
      (exact absurd c_26 hbad)
    · skip
      replace c_26 := cb_z c_26
      refine lv_aload_n hx hb dX9_house_29 rfl (lv_at hl 0 rfl) ?_
      refine lv_iconst (v := (nI 2)) hx hb dX9_house_30 (by decide) ?_
      refine gp_V (ci := 9) (q0 := 0) (cq := (RX9, TX9, 15)) (c_X9_fails l D cI cZ cF cL mr rf st ln 0 pl hs vs dg xx 2 ) (gUV u_175 u_176 u_177 u_5 u_178) rfl hdV_X9_fails ⟨Nat.le_of_ble_eq_true rfl, Nat.le_of_ble_eq_true rfl⟩ ⟨rfl, rfl⟩ hx hb hml hown hts hK hA hP hD hS hl.1 ⟨Nat.le_of_ble_eq_true rfl, Nat.le_of_ble_eq_true rfl⟩ rfl rfl rfl (wr := (qX cI (rf 0) (T 0 0) (T 0 1) (T 0 2) (T 0 3) (T 0 4) (T 0 5) (T 1) (T 2) (T 3) (T 4) (T 5) (T 6) (T 7) (T 8))) (pm_cnt (fun _ => by simp only [List.countP_append, List.countP_nil, fT] <;> omega)) (fun _ => by simp only [List.map_append, List.map_nil, fX_m, bX_m, sX_m, pX_m, iaX_m, r5X_m, r6X_m, fT_m, hX_m, tX_m, xX_m, sgX_m, zaX_m, fsB_a, qX_m, mX_m]) (rest := []) rfl rfl (Nat.le_of_ble_eq_true rfl) dX9_house_31 (ws2 := (fun _ : Unit => (mX mr rf st ln 2 pl hs vs dg xx ++ qX cI (rf 0) (T 0 0) (T 0 1) (T 0 2) (T 0 3) (T 0 4) (T 0 5) (T 1) (T 2) (T 3) (T 4) (T 5) (T 6) (T 7) (T 8)))) (fun _ => (pm_cnt (fun _ => by simp only [List.countP_append, List.countP_nil, fT] <;> omega))) (fun _ Hp locs hP hD hS => ?_)
      exact ct_i () hx hb hr hlocks hP hS rfl dX9_house_34
  · skip
    replace c_10 := cb_z c_10
    (exact absurd (hhV hh hT.1.1) c_10)
set_option maxRecDepth 20000 in
theorem u_453 : Cond.code yX9_isVegetable cX9_isVegetable 2 (some .boolean) ∈ wsL_law := List.mem_of_getElem? (i := 453) (by decide +kernel)
set_option maxRecDepth 20000 in
theorem u_450 : Cond.methodLink RX9 129 yX9_isVegetable ∈ wsL_law := List.mem_of_getElem? (i := 450) (by decide +kernel)
set_option maxRecDepth 20000 in
theorem u_451 : Cond.instanceMethod yX9_isVegetable ∈ wsL_law := List.mem_of_getElem? (i := 451) (by decide +kernel)
set_option maxRecDepth 20000 in
theorem u_452 : Cond.selects RX9 yX9_isVegetable yX9_isVegetable ∈ wsL_law := List.mem_of_getElem? (i := 452) (by decide +kernel)
set_option maxRecDepth 20000 in
theorem u_457 : Cond.code yX9_ofVegetable cX9_ofVegetable 4 (some .int) ∈ wsL_law := List.mem_of_getElem? (i := 457) (by decide +kernel)
set_option maxRecDepth 20000 in
theorem u_454 : Cond.methodLink RX9 132 yX9_ofVegetable ∈ wsL_law := List.mem_of_getElem? (i := 454) (by decide +kernel)
set_option maxRecDepth 20000 in
theorem u_455 : Cond.instanceMethod yX9_ofVegetable ∈ wsL_law := List.mem_of_getElem? (i := 455) (by decide +kernel)
set_option maxRecDepth 20000 in
theorem u_456 : Cond.selects RX9 yX9_ofVegetable yX9_ofVegetable ∈ wsL_law := List.mem_of_getElem? (i := 456) (by decide +kernel)
theorem hdV_X9_isVegetable : yX9_isVegetable.cls = RX9 ∧ yX9_isVegetable.cls ≠ "java/lang/invoke/MethodHandle" ∧ yX9_isVegetable.cls ≠ "java/lang/invoke/VarHandle" ∧ (parseMethodDescriptor yX9_isVegetable.desc).map (fun d => d.parameters.length) = some 1 := by decide +kernel
theorem hdV_X9_ofVegetable : yX9_ofVegetable.cls = RX9 ∧ yX9_ofVegetable.cls ≠ "java/lang/invoke/MethodHandle" ∧ yX9_ofVegetable.cls ≠ "java/lang/invoke/VarHandle" ∧ (parseMethodDescriptor yX9_ofVegetable.desc).map (fun d => d.parameters.length) = some 1 := by decide +kernel
set_option maxHeartbeats 4000000 in
set_option maxRecDepth 100000 in
theorem c_X9_vegetable (l : Launch) (D : va_G) (cI cZ cF cL : ClassId) (mr : Nat) (rf : Nat → Nat) (st ln th pl hs vs : Nat) (dg : Int32) (xx : Int64) (T : Nat → Nat → Nat) (v w : Nat) (hT : FI T) (hv : v < T 0 1) (hw : w < 4) : CT l D (tysX cI cZ cF cL) yX9_vegetable (wA yX9_vegetable cX9_vegetable 5 (some .int)) (rmF 2 44) [.ref mr, .int (nI v), .int (nI w)] (mX mr rf st ln th pl hs vs dg xx ++ qX cI (rf 0) (T 0 0) (T 0 1) (T 0 2) (T 0 3) (T 0 4) (T 0 5) (T 1) (T 2) (T 3) (T 4) (T 5) (T 6) (T 7) (T 8)) (some (.int (if w = 0 then nI (T 5 v) else if w = 1 then nI (kilV (T 8) (T 0 0) v) else if w = 2 then nI (T 6 v) else encK (fonO T v (T 0 0))))) (fun _ : Unit => (mX mr rf st ln 0 pl hs vs dg xx ++ qX cI (rf 0) (T 0 0) (T 0 1) (T 0 2) (T 0 3) (T 0 4) (T 0 5) (T 1) (T 2) (T 3) (T 4) (T 5) (T 6) (T 7) (T 8))) := by
  refine ct_in (cc := cX9_vegetable) (maxL := 5) (ret := (some .int)) (own := RX9) (lv := [(0, .ref mr), (1, .int (nI v)), (2, .int (nI w))]) (by decide +kernel) rfl rfl (Nat.le_of_ble_eq_true rfl) rfl ?_
  intro p e s m args below meth c A ls hx hb hr hml hts hown hlocks hK hA hP hD hS hl
  have hH := hT.1.1
  have hV := hT.1.2
  refine lv_aload_n hx hb dX9_vegetable_0 rfl (lv_at hl 0 rfl) ?_
  refine lv_iconst (v := (nI 0)) hx hb dX9_vegetable_1 (by decide) ?_
  refine pf_n (C := RX9) (T := TX9) (N := 15) (ci := 9) (q0 := 0) (ty := .int) (v := .int (nI 0)) (ws2 := (mX mr rf st ln 0 pl hs vs dg xx ++ qX cI (rf 0) (T 0 0) (T 0 1) (T 0 2) (T 0 3) (T 0 4) (T 0 5) (T 1) (T 2) (T 3) (T 4) (T 5) (T 6) (T 7) (T 8))) hx hb hts (iU inlX9) tyX9 tyX9_ok nmX9 hown hK hP hD hS rfl rfl 8 (by decide) (kU u_173) rfl rfl (tyX9_ok 8 (by decide)) rfl rfl (Nat.le_of_ble_eq_true rfl) dX9_vegetable_2 rfl (fun Hp locs hP hD hS => ?_)
  refine lv_aload_n hx hb dX9_vegetable_5 rfl (lv_at hl 0 rfl) ?_
  refine lv_iload_n hx hb dX9_vegetable_6 rfl (lv_at hl 1 rfl) ?_
  refine gp_V (ci := 9) (q0 := 0) (cq := (RX9, TX9, 15)) (c_X9_isVegetable l D cI cZ cF cL mr rf st ln 0 pl hs vs dg xx (T 0 0) (T 0 1) (T 0 2) (T 0 3) (T 0 4) (T 0 5) (T 1) (T 2) (T 3) (T 4) (T 5) (T 6) (T 7) (T 8) ((nI v)) (by omega) (by omega)) (gUV u_450 u_451 u_452 u_5 u_453) rfl hdV_X9_isVegetable ⟨Nat.le_of_ble_eq_true rfl, Nat.le_of_ble_eq_true rfl⟩ ⟨rfl, rfl⟩ hx hb hml hown hts hK hA hP hD hS hl.1 ⟨Nat.le_of_ble_eq_true rfl, Nat.le_of_ble_eq_true rfl⟩ rfl rfl rfl (wr := ([] : va_W)) (pm_cnt (fun _ => by simp only [List.countP_append, List.countP_nil, fT] <;> omega)) (fun _ => by simp only [List.map_append, List.map_nil, fX_m, bX_m, sX_m, pX_m, iaX_m, r5X_m, r6X_m, fT_m, hX_m, tX_m, xX_m, sgX_m, zaX_m, fsB_a, qX_m, mX_m]) (rest := []) rfl rfl (Nat.le_of_ble_eq_true rfl) dX9_vegetable_7 (ws2 := (fun _ : Unit => (mX mr rf st ln 0 pl hs vs dg xx ++ qX cI (rf 0) (T 0 0) (T 0 1) (T 0 2) (T 0 3) (T 0 4) (T 0 5) (T 1) (T 2) (T 3) (T 4) (T 5) (T 6) (T 7) (T 8)))) (fun _ => (pm_cnt (fun _ => by simp only [List.countP_append, List.countP_nil, fT] <;> omega))) (fun _ Hp locs hP hD hS => ?_)
  refine lv_if_ne (tgt := 19) hx hb dX9_vegetable_10 (by decide) (fun c_10 => ?_) (fun c_10 => ?_)
  · skip
    replace c_10 := cb_nz c_10
    refine lv_iload_n hx hb dX9_vegetable_19 rfl (lv_at hl 2 rfl) ?_
    refine lv_iconst (v := (nI 0)) hx hb dX9_vegetable_20 (by decide) ?_
    refine lv_iconst (v := (nI 3)) hx hb dX9_vegetable_21 (by decide) ?_
    refine gp_S (c_X9_in l D cI cZ cF cL ((nI w)) ((nI 0)) ((nI 3)) ) (gUS u_140 u_141 u_5 u_142) rfl hdS_X9_in ⟨Nat.le_of_ble_eq_true rfl, Nat.le_of_ble_eq_true rfl⟩ ⟨rfl, rfl⟩ hx hb hml hown hts hK hA hP hD hS hl.1 ⟨Nat.le_of_ble_eq_true rfl, Nat.le_of_ble_eq_true rfl⟩ (wr := (mX mr rf st ln 0 pl hs vs dg xx ++ qX cI (rf 0) (T 0 0) (T 0 1) (T 0 2) (T 0 3) (T 0 4) (T 0 5) (T 1) (T 2) (T 3) (T 4) (T 5) (T 6) (T 7) (T 8))) (pm_cnt (fun _ => by simp only [List.countP_append, List.countP_nil, fT] <;> omega)) (fun _ => by simp only [List.map_append, List.map_nil, fX_m, bX_m, sX_m, pX_m, iaX_m, r5X_m, r6X_m, fT_m, hX_m, tX_m, xX_m, sgX_m, zaX_m, fsB_a, qX_m, mX_m]) (rest := []) rfl rfl (Nat.le_of_ble_eq_true rfl) dX9_vegetable_22 (ws2 := (fun _ : Unit => (mX mr rf st ln 0 pl hs vs dg xx ++ qX cI (rf 0) (T 0 0) (T 0 1) (T 0 2) (T 0 3) (T 0 4) (T 0 5) (T 1) (T 2) (T 3) (T 4) (T 5) (T 6) (T 7) (T 8)))) (fun _ => (pm_cnt (fun _ => by simp only [List.countP_append, List.countP_nil, fT] <;> omega))) (fun _ Hp locs hP hD hS => ?_)
    refine lv_if_ne (tgt := 34) hx hb dX9_vegetable_25 (by decide) (fun c_25 => ?_) (fun c_25 => ?_)
    · skip
      replace c_25 := cb_nz c_25
      refine lv_bipush (v := ((-9))) hx hb dX9_vegetable_34 (by decide) ?_
      refine lv_istore_n (lv' := [(3, .int ((-9))), (0, .ref mr), (1, .int (nI v)), (2, .int (nI w))]) hx hb dX9_vegetable_36 rfl hl (by decide) rfl (fun ls hl => ?_)
      refine lv_iconst (v := (nI 0)) hx hb dX9_vegetable_37 (by decide) ?_
      refine lv_istore (lv' := [(4, .int (nI 0)), (3, .int ((-9))), (0, .ref mr), (1, .int (nI v)), (2, .int (nI w))]) hx hb dX9_vegetable_38 hl (by decide) rfl (fun ls hl => ?_)
      have loop_40 : ∀ (dd : Nat) (i : Nat) (m1 : Int32), (i ≤ T 0 0) → (m1 = encK (fonO T v i)) → (T 0 0 - i) < dd → ∀ (Hp : Heap) (locs : List Loc), va_P D vwCl (mX mr rf st ln 0 pl hs vs dg xx ++ qX cI (rf 0) (T 0 0) (T 0 1) (T 0 2) (T 0 3) (T 0 4) (T 0 5) (T 1) (T 2) (T 3) (T 4) (T 5) (T 6) (T 7) (T 8)) Hp → va_D A (mX mr rf st ln 0 pl hs vs dg xx ++ qX cI (rf 0) (T 0 0) (T 0 1) (T 0 2) (T 0 3) (T 0 4) (T 0 5) (T 1) (T 2) (T 3) (T 4) (T 5) (T 6) (T 7) (T 8)) → va_S A s.heap Hp locs → ∀ ls : Array Slot, lv_has ls 5 [(4, .int (nI i)), (3, .int m1), (0, .ref mr), (1, .int (nI v)), (2, .int (nI w))] → W p l e (rmF 2 44) s m args below meth c Hp locs 0 0 (MQ below (CQ D (some (.int (if w = 0 then nI (T 5 v) else if w = 1 then nI (kilV (T 8) (T 0 0) v) else if w = 2 then nI (T 6 v) else encK (fonO T v (T 0 0))))) (fun _ : Unit => (mX mr rf st ln 0 pl hs vs dg xx ++ qX cI (rf 0) (T 0 0) (T 0 1) (T 0 2) (T 0 3) (T 0 4) (T 0 5) (T 1) (T 2) (T 3) (T 4) (T 5) (T 6) (T 7) (T 8))) A) args s 0 0 A) (F0 m 40 ls []) := by
        intro dd
        induction dd with
        | zero => intro i m1 hi ek hm; exact absurd hm (Nat.not_lt_zero _)
        | succ dd ih_40 =>
          intro i m1 hi ek hm Hp locs hP hD hS ls hl
          refine lv_iload hx hb dX9_vegetable_40 (lv_at hl 0 rfl) ?_
          refine lv_aload_n hx hb dX9_vegetable_42 rfl (lv_at hl 2 rfl) ?_
          refine gf_n (C := RX9) (T := TX9) (N := 15) (ci := 9) (q0 := 0) (v := .ref (rf 0)) hx hb hts (iU inlX9) hown hK hP rfl rfl 0 (by decide) (kU u_129) rfl rfl dX9_vegetable_43 ?_
          refine lv_iconst (v := (nI 0)) hx hb dX9_vegetable_46 (by decide) ?_
          refine ia_n (q0 := 1) (t0 := 0) hx hb hK hP rfl rfl (by omega) (by decide) dX9_vegetable_47 ?_
          rw [show qN (T 0 0) (T 0 1) (T 0 2) (T 0 3) (T 0 4) (T 0 5) (T 1) (T 2) (T 3) (T 4) (T 5) (T 6) (T 7) (T 8) 0 = (T 0 0) from rfl]
          refine lv_icmp_ge (tgt := 92) hx hb dX9_vegetable_48 (by decide) (fun c_48 => ?_) (fun c_48 => ?_)
          · skip
            replace c_48 := cn_le (by omega) (by omega) c_48
            refine lv_iload_n hx hb dX9_vegetable_92 rfl (lv_at hl 4 rfl) ?_
            refine lv_if_ne (tgt := 108) hx hb dX9_vegetable_93 (by decide) (fun c_93 => ?_) (fun c_93 => ?_)
            · skip
              replace c_93 := cn_ne (b := 0) c_93
              refine lv_iload_n hx hb dX9_vegetable_108 rfl (lv_at hl 4 rfl) ?_
              refine lv_iconst (v := (nI 1)) hx hb dX9_vegetable_109 (by decide) ?_
              refine lv_icmp_ne (tgt := 121) hx hb dX9_vegetable_110 (by decide) (fun c_110 => ?_) (fun c_110 => ?_)
              · skip
                replace c_110 := cn_ne c_110
                refine lv_iload_n hx hb dX9_vegetable_121 rfl (lv_at hl 4 rfl) ?_
                refine lv_iconst (v := (nI 2)) hx hb dX9_vegetable_122 (by decide) ?_
                refine lv_icmp_ne (tgt := 140) hx hb dX9_vegetable_123 (by decide) (fun c_123 => ?_) (fun c_123 => ?_)
                · skip
                  replace c_123 := cn_ne c_123
                  refine lv_iload_n hx hb dX9_vegetable_140 rfl (lv_at hl 1 rfl) ?_
                  exact ct_i () hx hb hr hlocks hP hS (by first | (rw [if_pos c_93]) | (rw [if_neg c_93, if_pos c_110]) | (rw [if_neg c_93, if_neg c_110, if_pos c_123]) | (rw [if_neg c_93, if_neg c_110, if_neg c_123, ek, show i = T 0 0 by omega])) dX9_vegetable_141
                · skip
                  replace c_123 := cn_eq (by omega) (by omega) c_123
                  refine lv_aload_n hx hb dX9_vegetable_126 rfl (lv_at hl 2 rfl) ?_
                  refine gf_n (C := RX9) (T := TX9) (N := 15) (ci := 9) (q0 := 0) (v := .ref (rf 0)) hx hb hts (iU inlX9) hown hK hP rfl rfl 0 (by decide) (kU u_129) rfl rfl dX9_vegetable_127 ?_
                  refine lv_iload_n hx hb dX9_vegetable_130 rfl (lv_at hl 3 rfl) ?_
                  refine gp_S (c_X9_harvest l D cI cZ cF cL v ) (gUS u_278 u_279 u_5 u_280) rfl hdS_X9_harvest ⟨Nat.le_of_ble_eq_true rfl, Nat.le_of_ble_eq_true rfl⟩ ⟨rfl, rfl⟩ hx hb hml hown hts hK hA hP hD hS hl.1 ⟨Nat.le_of_ble_eq_true rfl, Nat.le_of_ble_eq_true rfl⟩ (wr := (mX mr rf st ln 0 pl hs vs dg xx ++ qX cI (rf 0) (T 0 0) (T 0 1) (T 0 2) (T 0 3) (T 0 4) (T 0 5) (T 1) (T 2) (T 3) (T 4) (T 5) (T 6) (T 7) (T 8))) (pm_cnt (fun _ => by simp only [List.countP_append, List.countP_nil, fT] <;> omega)) (fun _ => by simp only [List.map_append, List.map_nil, fX_m, bX_m, sX_m, pX_m, iaX_m, r5X_m, r6X_m, fT_m, hX_m, tX_m, xX_m, sgX_m, zaX_m, fsB_a, qX_m, mX_m]) (rest := [.ref (rf 0)]) rfl rfl (Nat.le_of_ble_eq_true rfl) dX9_vegetable_131 (ws2 := (fun _ : Unit => (mX mr rf st ln 0 pl hs vs dg xx ++ qX cI (rf 0) (T 0 0) (T 0 1) (T 0 2) (T 0 3) (T 0 4) (T 0 5) (T 1) (T 2) (T 3) (T 4) (T 5) (T 6) (T 7) (T 8)))) (fun _ => (pm_cnt (fun _ => by simp only [List.countP_append, List.countP_nil, fT] <;> omega))) (fun _ Hp locs hP hD hS => ?_)
                  refine lv_iconst (v := (nI 1)) hx hb dX9_vegetable_134 (by decide) ?_
                  refine lv_iadd hx hb dX9_vegetable_135 ?_
                  rw [nI_add (30 + 2 * v) 1]
                  refine ia_n (q0 := 1) (t0 := 0) hx hb hK hP rfl rfl (by omega) (by decide) dX9_vegetable_136 ?_
                  rw [qR_6 (by omega)]
                  refine lv_goto (tgt := 141) hx hb dX9_vegetable_137 (by decide) ?_
                  exact ct_i () hx hb hr hlocks hP hS (by first | (rw [if_pos c_93]) | (rw [if_neg c_93, if_pos c_110]) | (rw [if_neg c_93, if_neg c_110, if_pos c_123]) | (rw [if_neg c_93, if_neg c_110, if_neg c_123, ek, show i = T 0 0 by omega])) dX9_vegetable_141
              · skip
                replace c_110 := cn_eq (by omega) (by omega) c_110
                refine lv_aload_n hx hb dX9_vegetable_113 rfl (lv_at hl 2 rfl) ?_
                refine lv_iload_n hx hb dX9_vegetable_114 rfl (lv_at hl 3 rfl) ?_
                refine gp_V (ci := 9) (q0 := 0) (cq := (RX9, TX9, 15)) (c_X9_ofVegetable l D cI cZ cF cL mr rf st ln 0 pl hs vs dg xx (T 0 0) (T 0 1) (T 0 2) (T 0 3) (T 0 4) (T 0 5) (T 1) (T 2) (T 3) (T 4) (T 5) (T 6) (T 7) (T 8) v (by omega) hH) (gUV u_454 u_455 u_456 u_5 u_457) rfl hdV_X9_ofVegetable ⟨Nat.le_of_ble_eq_true rfl, Nat.le_of_ble_eq_true rfl⟩ ⟨rfl, rfl⟩ hx hb hml hown hts hK hA hP hD hS hl.1 ⟨Nat.le_of_ble_eq_true rfl, Nat.le_of_ble_eq_true rfl⟩ rfl rfl rfl (wr := ([] : va_W)) (pm_cnt (fun _ => by simp only [List.countP_append, List.countP_nil, fT] <;> omega)) (fun _ => by simp only [List.map_append, List.map_nil, fX_m, bX_m, sX_m, pX_m, iaX_m, r5X_m, r6X_m, fT_m, hX_m, tX_m, xX_m, sgX_m, zaX_m, fsB_a, qX_m, mX_m]) (rest := []) rfl rfl (Nat.le_of_ble_eq_true rfl) dX9_vegetable_115 (ws2 := (fun _ : Unit => (mX mr rf st ln 0 pl hs vs dg xx ++ qX cI (rf 0) (T 0 0) (T 0 1) (T 0 2) (T 0 3) (T 0 4) (T 0 5) (T 1) (T 2) (T 3) (T 4) (T 5) (T 6) (T 7) (T 8)))) (fun _ => (pm_cnt (fun _ => by simp only [List.countP_append, List.countP_nil, fT] <;> omega))) (fun _ Hp locs hP hD hS => ?_)
                refine lv_goto (tgt := 141) hx hb dX9_vegetable_118 (by decide) ?_
                exact ct_i () hx hb hr hlocks hP hS (by first | (rw [if_pos c_93]) | (rw [if_neg c_93, if_pos c_110]) | (rw [if_neg c_93, if_neg c_110, if_pos c_123]) | (rw [if_neg c_93, if_neg c_110, if_neg c_123, ek, show i = T 0 0 by omega])) dX9_vegetable_141
            · skip
              replace c_93 := cn_eq (b := 0) (by omega) (by omega) c_93
              refine lv_aload_n hx hb dX9_vegetable_96 rfl (lv_at hl 2 rfl) ?_
              refine gf_n (C := RX9) (T := TX9) (N := 15) (ci := 9) (q0 := 0) (v := .ref (rf 0)) hx hb hts (iU inlX9) hown hK hP rfl rfl 0 (by decide) (kU u_129) rfl rfl dX9_vegetable_97 ?_
              refine lv_iload_n hx hb dX9_vegetable_100 rfl (lv_at hl 3 rfl) ?_
              refine gp_S (c_X9_harvest l D cI cZ cF cL v ) (gUS u_278 u_279 u_5 u_280) rfl hdS_X9_harvest ⟨Nat.le_of_ble_eq_true rfl, Nat.le_of_ble_eq_true rfl⟩ ⟨rfl, rfl⟩ hx hb hml hown hts hK hA hP hD hS hl.1 ⟨Nat.le_of_ble_eq_true rfl, Nat.le_of_ble_eq_true rfl⟩ (wr := (mX mr rf st ln 0 pl hs vs dg xx ++ qX cI (rf 0) (T 0 0) (T 0 1) (T 0 2) (T 0 3) (T 0 4) (T 0 5) (T 1) (T 2) (T 3) (T 4) (T 5) (T 6) (T 7) (T 8))) (pm_cnt (fun _ => by simp only [List.countP_append, List.countP_nil, fT] <;> omega)) (fun _ => by simp only [List.map_append, List.map_nil, fX_m, bX_m, sX_m, pX_m, iaX_m, r5X_m, r6X_m, fT_m, hX_m, tX_m, xX_m, sgX_m, zaX_m, fsB_a, qX_m, mX_m]) (rest := [.ref (rf 0)]) rfl rfl (Nat.le_of_ble_eq_true rfl) dX9_vegetable_101 (ws2 := (fun _ : Unit => (mX mr rf st ln 0 pl hs vs dg xx ++ qX cI (rf 0) (T 0 0) (T 0 1) (T 0 2) (T 0 3) (T 0 4) (T 0 5) (T 1) (T 2) (T 3) (T 4) (T 5) (T 6) (T 7) (T 8)))) (fun _ => (pm_cnt (fun _ => by simp only [List.countP_append, List.countP_nil, fT] <;> omega))) (fun _ Hp locs hP hD hS => ?_)
              refine ia_n (q0 := 1) (t0 := 0) hx hb hK hP rfl rfl (by omega) (by decide) dX9_vegetable_104 ?_
              rw [qR_5 (by omega)]
              refine lv_goto (tgt := 141) hx hb dX9_vegetable_105 (by decide) ?_
              exact ct_i () hx hb hr hlocks hP hS (by first | (rw [if_pos c_93]) | (rw [if_neg c_93, if_pos c_110]) | (rw [if_neg c_93, if_neg c_110, if_pos c_123]) | (rw [if_neg c_93, if_neg c_110, if_neg c_123, ek, show i = T 0 0 by omega])) dX9_vegetable_141
          · skip
            replace c_48 := cn_nle (by omega) (by omega) c_48
            rcases hk : fonO T v i with _ | bb
            · skip
              obtain rfl : m1 = (-9) := by rw [ek, hk]; rfl
              refine lv_iload_n hx hb dX9_vegetable_51 rfl (lv_at hl 1 rfl) ?_
              refine lv_if_lt (tgt := 79) hx hb dX9_vegetable_52 (by decide) (fun _ => ?_) (fun c_52 => absurd (by decide +kernel) c_52)
              refine lv_iload hx hb dX9_vegetable_79 (lv_at hl 0 rfl) ?_
              refine lv_goto (tgt := 85) hx hb dX9_vegetable_81 (by decide) ?_
              refine lv_istore_n (lv' := [(3, .int (nI i)), (4, .int (nI i)), (0, .ref mr), (1, .int (nI v)), (2, .int (nI w))]) hx hb dX9_vegetable_85 rfl hl (by decide) rfl (fun ls hl => ?_)
              refine lv_iinc (v := (nI (i + 1))) (lv' := [(4, .int (nI (i + 1))), (3, .int (nI i)), (0, .ref mr), (1, .int (nI v)), (2, .int (nI w))]) hx hb dX9_vegetable_86 hl (k := 1) rfl (nI_add i 1) (by decide) rfl (fun ls hl => ?_)
              refine lv_goto (tgt := 40) hx hb dX9_vegetable_89 (by decide) ?_
              exact ih_40 (i + 1) ((nI i)) (by omega) (by first | (rw [show fonO T v (i + 1) = some i from amx_0 rfl hk]; rfl) | (rw [show fonO T v (i + 1) = some bb from amx_2 rfl hk (Nat.not_lt.mpr c_76)]; rfl) | (rw [show fonO T v (i + 1) = some i from amx_1 rfl hk c_76]; rfl)) (by omega) _ _ hP hD hS _ (lv_sub hl [0, 1, 2, 3, 4] rfl)
            · skip
              obtain rfl : m1 = nI bb := by rw [ek, hk]; rfl
              have hbl : bb < i := amx_lt i bb hk
              refine lv_iload_n hx hb dX9_vegetable_51 rfl (lv_at hl 1 rfl) ?_
              refine lv_if_lt (tgt := 79) hx hb dX9_vegetable_52 (by decide) (fun c_52 => ?_) (fun c_52 => ?_)
              · skip
                replace c_52 := cn_lt (b := 0) (by omega) (by omega) c_52
                (exact absurd c_52 (by omega))
              · skip
                replace c_52 := cn_nlt (b := 0) (by omega) (by omega) c_52
                refine lv_aload_n hx hb dX9_vegetable_55 rfl (lv_at hl 2 rfl) ?_
                refine gf_n (C := RX9) (T := TX9) (N := 15) (ci := 9) (q0 := 0) (v := .ref (rf 0)) hx hb hts (iU inlX9) hown hK hP rfl rfl 0 (by decide) (kU u_129) rfl rfl dX9_vegetable_56 ?_
                refine lv_iload hx hb dX9_vegetable_59 (lv_at hl 0 rfl) ?_
                refine lv_iload_n hx hb dX9_vegetable_61 rfl (lv_at hl 3 rfl) ?_
                refine gp_S (c_X9_like l D cI cZ cF cL i v ) (gUS u_281 u_282 u_5 u_283) rfl hdS_X9_like ⟨Nat.le_of_ble_eq_true rfl, Nat.le_of_ble_eq_true rfl⟩ ⟨rfl, rfl⟩ hx hb hml hown hts hK hA hP hD hS hl.1 ⟨Nat.le_of_ble_eq_true rfl, Nat.le_of_ble_eq_true rfl⟩ (wr := (mX mr rf st ln 0 pl hs vs dg xx ++ qX cI (rf 0) (T 0 0) (T 0 1) (T 0 2) (T 0 3) (T 0 4) (T 0 5) (T 1) (T 2) (T 3) (T 4) (T 5) (T 6) (T 7) (T 8))) (pm_cnt (fun _ => by simp only [List.countP_append, List.countP_nil, fT] <;> omega)) (fun _ => by simp only [List.map_append, List.map_nil, fX_m, bX_m, sX_m, pX_m, iaX_m, r5X_m, r6X_m, fT_m, hX_m, tX_m, xX_m, sgX_m, zaX_m, fsB_a, qX_m, mX_m]) (rest := [.ref (rf 0)]) rfl rfl (Nat.le_of_ble_eq_true rfl) dX9_vegetable_62 (ws2 := (fun _ : Unit => (mX mr rf st ln 0 pl hs vs dg xx ++ qX cI (rf 0) (T 0 0) (T 0 1) (T 0 2) (T 0 3) (T 0 4) (T 0 5) (T 1) (T 2) (T 3) (T 4) (T 5) (T 6) (T 7) (T 8)))) (fun _ => (pm_cnt (fun _ => by simp only [List.countP_append, List.countP_nil, fT] <;> omega))) (fun _ Hp locs hP hD hS => ?_)
                refine ia_n (q0 := 1) (t0 := 0) hx hb hK hP rfl rfl (by omega) (by decide) dX9_vegetable_65 ?_
                rw [qR_7 (by omega) (by omega)]
                refine lv_aload_n hx hb dX9_vegetable_66 rfl (lv_at hl 2 rfl) ?_
                refine gf_n (C := RX9) (T := TX9) (N := 15) (ci := 9) (q0 := 0) (v := .ref (rf 0)) hx hb hts (iU inlX9) hown hK hP rfl rfl 0 (by decide) (kU u_129) rfl rfl dX9_vegetable_67 ?_
                refine lv_iload_n hx hb dX9_vegetable_70 rfl (lv_at hl 1 rfl) ?_
                refine lv_iload_n hx hb dX9_vegetable_71 rfl (lv_at hl 3 rfl) ?_
                refine gp_S (c_X9_like l D cI cZ cF cL bb v ) (gUS u_281 u_282 u_5 u_283) rfl hdS_X9_like ⟨Nat.le_of_ble_eq_true rfl, Nat.le_of_ble_eq_true rfl⟩ ⟨rfl, rfl⟩ hx hb hml hown hts hK hA hP hD hS hl.1 ⟨Nat.le_of_ble_eq_true rfl, Nat.le_of_ble_eq_true rfl⟩ (wr := (mX mr rf st ln 0 pl hs vs dg xx ++ qX cI (rf 0) (T 0 0) (T 0 1) (T 0 2) (T 0 3) (T 0 4) (T 0 5) (T 1) (T 2) (T 3) (T 4) (T 5) (T 6) (T 7) (T 8))) (pm_cnt (fun _ => by simp only [List.countP_append, List.countP_nil, fT] <;> omega)) (fun _ => by simp only [List.map_append, List.map_nil, fX_m, bX_m, sX_m, pX_m, iaX_m, r5X_m, r6X_m, fT_m, hX_m, tX_m, xX_m, sgX_m, zaX_m, fsB_a, qX_m, mX_m]) (rest := [.ref (rf 0), .int (nI ((T 7) (i * 5 + v)))]) rfl rfl (Nat.le_of_ble_eq_true rfl) dX9_vegetable_72 (ws2 := (fun _ : Unit => (mX mr rf st ln 0 pl hs vs dg xx ++ qX cI (rf 0) (T 0 0) (T 0 1) (T 0 2) (T 0 3) (T 0 4) (T 0 5) (T 1) (T 2) (T 3) (T 4) (T 5) (T 6) (T 7) (T 8)))) (fun _ => (pm_cnt (fun _ => by simp only [List.countP_append, List.countP_nil, fT] <;> omega))) (fun _ Hp locs hP hD hS => ?_)
                refine ia_n (q0 := 1) (t0 := 0) hx hb hK hP rfl rfl (by omega) (by decide) dX9_vegetable_75 ?_
                rw [qR_7 (by omega) (by omega)]
                refine lv_icmp_le (tgt := 84) hx hb dX9_vegetable_76 (by decide) (fun c_76 => ?_) (fun c_76 => ?_)
                · skip
                  replace c_76 := cn_le (Nat.lt_of_le_of_lt (hT.2.2.2.1 _ (by omega)) (by decide)) (Nat.lt_of_le_of_lt (hT.2.2.2.1 _ (by omega)) (by decide)) c_76
                  refine lv_iload_n hx hb dX9_vegetable_84 rfl (lv_at hl 1 rfl) ?_
                  refine lv_istore_n (lv' := [(3, .int (nI bb)), (4, .int (nI i)), (0, .ref mr), (1, .int (nI v)), (2, .int (nI w))]) hx hb dX9_vegetable_85 rfl hl (by decide) rfl (fun ls hl => ?_)
                  refine lv_iinc (v := (nI (i + 1))) (lv' := [(4, .int (nI (i + 1))), (3, .int (nI bb)), (0, .ref mr), (1, .int (nI v)), (2, .int (nI w))]) hx hb dX9_vegetable_86 hl (k := 1) rfl (nI_add i 1) (by decide) rfl (fun ls hl => ?_)
                  refine lv_goto (tgt := 40) hx hb dX9_vegetable_89 (by decide) ?_
                  exact ih_40 (i + 1) ((nI bb)) (by omega) (by first | (rw [show fonO T v (i + 1) = some i from amx_0 rfl hk]; rfl) | (rw [show fonO T v (i + 1) = some bb from amx_2 rfl hk (Nat.not_lt.mpr c_76)]; rfl) | (rw [show fonO T v (i + 1) = some i from amx_1 rfl hk c_76]; rfl)) (by omega) _ _ hP hD hS _ (lv_sub hl [0, 1, 2, 3, 4] rfl)
                · skip
                  replace c_76 := cn_nle (Nat.lt_of_le_of_lt (hT.2.2.2.1 _ (by omega)) (by decide)) (Nat.lt_of_le_of_lt (hT.2.2.2.1 _ (by omega)) (by decide)) c_76
                  refine lv_iload hx hb dX9_vegetable_79 (lv_at hl 0 rfl) ?_
                  refine lv_goto (tgt := 85) hx hb dX9_vegetable_81 (by decide) ?_
                  refine lv_istore_n (lv' := [(3, .int (nI i)), (4, .int (nI i)), (0, .ref mr), (1, .int (nI v)), (2, .int (nI w))]) hx hb dX9_vegetable_85 rfl hl (by decide) rfl (fun ls hl => ?_)
                  refine lv_iinc (v := (nI (i + 1))) (lv' := [(4, .int (nI (i + 1))), (3, .int (nI i)), (0, .ref mr), (1, .int (nI v)), (2, .int (nI w))]) hx hb dX9_vegetable_86 hl (k := 1) rfl (nI_add i 1) (by decide) rfl (fun ls hl => ?_)
                  refine lv_goto (tgt := 40) hx hb dX9_vegetable_89 (by decide) ?_
                  exact ih_40 (i + 1) ((nI i)) (by omega) (by first | (rw [show fonO T v (i + 1) = some i from amx_0 rfl hk]; rfl) | (rw [show fonO T v (i + 1) = some bb from amx_2 rfl hk (Nat.not_lt.mpr c_76)]; rfl) | (rw [show fonO T v (i + 1) = some i from amx_1 rfl hk c_76]; rfl)) (by omega) _ _ hP hD hS _ (lv_sub hl [0, 1, 2, 3, 4] rfl)
      exact loop_40 ((T 0 0 - 0) + 1) 0 (((-9))) (Nat.zero_le _) rfl (Nat.lt_succ_self _) _ _ hP hD hS _ (lv_sub hl [0, 1, 2, 3, 4] rfl)
    · skip
      replace c_25 := cb_z c_25
      (exact absurd ((in_n (by omega) (by decide) (by decide)).mpr ⟨by omega, by omega⟩) c_25)
  · skip
    replace c_10 := cb_z c_10
    (exact absurd (hhV hv (Nat.le_trans hT.1.2 (by decide))) c_10)
set_option maxHeartbeats 4000000 in
set_option maxRecDepth 100000 in
theorem f1_X9_vegetable (l : Launch) (D : va_G) (cI cZ cF cL : ClassId) (mr : Nat) (rf : Nat → Nat) (st ln th pl hs vs : Nat) (dg : Int32) (xx : Int64) (T : Nat → Nat → Nat) (x w : Int32) (hT : FI T) (hbad : ¬ (0 ≤ x ∧ x < nI (T 0 1))) : CT l D (tysX cI cZ cF cL) yX9_vegetable (wA yX9_vegetable cX9_vegetable 5 (some .int)) (rmF 2 43) [.ref mr, .int x, .int w] (mX mr rf st ln th pl hs vs dg xx ++ qX cI (rf 0) (T 0 0) (T 0 1) (T 0 2) (T 0 3) (T 0 4) (T 0 5) (T 1) (T 2) (T 3) (T 4) (T 5) (T 6) (T 7) (T 8)) (some (.int (nI 0))) (fun _ : Unit => (mX mr rf st ln 1 pl hs vs dg xx ++ qX cI (rf 0) (T 0 0) (T 0 1) (T 0 2) (T 0 3) (T 0 4) (T 0 5) (T 1) (T 2) (T 3) (T 4) (T 5) (T 6) (T 7) (T 8))) := by
  refine ct_in (cc := cX9_vegetable) (maxL := 5) (ret := (some .int)) (own := RX9) (lv := [(0, .ref mr), (1, .int x), (2, .int w)]) (by decide +kernel) rfl rfl (Nat.le_of_ble_eq_true rfl) rfl ?_
  intro p e s m args below meth c A ls hx hb hr hml hts hown hlocks hK hA hP hD hS hl
  have hH := hT.1.1
  have hV := hT.1.2
  refine lv_aload_n hx hb dX9_vegetable_0 rfl (lv_at hl 0 rfl) ?_
  refine lv_iconst (v := (nI 0)) hx hb dX9_vegetable_1 (by decide) ?_
  refine pf_n (C := RX9) (T := TX9) (N := 15) (ci := 9) (q0 := 0) (ty := .int) (v := .int (nI 0)) (ws2 := (mX mr rf st ln 0 pl hs vs dg xx ++ qX cI (rf 0) (T 0 0) (T 0 1) (T 0 2) (T 0 3) (T 0 4) (T 0 5) (T 1) (T 2) (T 3) (T 4) (T 5) (T 6) (T 7) (T 8))) hx hb hts (iU inlX9) tyX9 tyX9_ok nmX9 hown hK hP hD hS rfl rfl 8 (by decide) (kU u_173) rfl rfl (tyX9_ok 8 (by decide)) rfl rfl (Nat.le_of_ble_eq_true rfl) dX9_vegetable_2 rfl (fun Hp locs hP hD hS => ?_)
  refine lv_aload_n hx hb dX9_vegetable_5 rfl (lv_at hl 0 rfl) ?_
  refine lv_iload_n hx hb dX9_vegetable_6 rfl (lv_at hl 1 rfl) ?_
  refine gp_V (ci := 9) (q0 := 0) (cq := (RX9, TX9, 15)) (c_X9_isVegetable l D cI cZ cF cL mr rf st ln 0 pl hs vs dg xx (T 0 0) (T 0 1) (T 0 2) (T 0 3) (T 0 4) (T 0 5) (T 1) (T 2) (T 3) (T 4) (T 5) (T 6) (T 7) (T 8) x (by omega) (by omega)) (gUV u_450 u_451 u_452 u_5 u_453) rfl hdV_X9_isVegetable ⟨Nat.le_of_ble_eq_true rfl, Nat.le_of_ble_eq_true rfl⟩ ⟨rfl, rfl⟩ hx hb hml hown hts hK hA hP hD hS hl.1 ⟨Nat.le_of_ble_eq_true rfl, Nat.le_of_ble_eq_true rfl⟩ rfl rfl rfl (wr := ([] : va_W)) (pm_cnt (fun _ => by simp only [List.countP_append, List.countP_nil, fT] <;> omega)) (fun _ => by simp only [List.map_append, List.map_nil, fX_m, bX_m, sX_m, pX_m, iaX_m, r5X_m, r6X_m, fT_m, hX_m, tX_m, xX_m, sgX_m, zaX_m, fsB_a, qX_m, mX_m]) (rest := []) rfl rfl (Nat.le_of_ble_eq_true rfl) dX9_vegetable_7 (ws2 := (fun _ : Unit => (mX mr rf st ln 0 pl hs vs dg xx ++ qX cI (rf 0) (T 0 0) (T 0 1) (T 0 2) (T 0 3) (T 0 4) (T 0 5) (T 1) (T 2) (T 3) (T 4) (T 5) (T 6) (T 7) (T 8)))) (fun _ => (pm_cnt (fun _ => by simp only [List.countP_append, List.countP_nil, fT] <;> omega))) (fun _ Hp locs hP hD hS => ?_)
  refine lv_if_ne (tgt := 19) hx hb dX9_vegetable_10 (by decide) (fun c_10 => ?_) (fun c_10 => ?_)
  · skip
    replace c_10 := cb_nz c_10
    (exact absurd c_10 hbad)
  · skip
    replace c_10 := cb_z c_10
    refine lv_aload_n hx hb dX9_vegetable_13 rfl (lv_at hl 0 rfl) ?_
    refine lv_iconst (v := (nI 1)) hx hb dX9_vegetable_14 (by decide) ?_
    refine gp_V (ci := 9) (q0 := 0) (cq := (RX9, TX9, 15)) (c_X9_fails l D cI cZ cF cL mr rf st ln 0 pl hs vs dg xx 1 ) (gUV u_175 u_176 u_177 u_5 u_178) rfl hdV_X9_fails ⟨Nat.le_of_ble_eq_true rfl, Nat.le_of_ble_eq_true rfl⟩ ⟨rfl, rfl⟩ hx hb hml hown hts hK hA hP hD hS hl.1 ⟨Nat.le_of_ble_eq_true rfl, Nat.le_of_ble_eq_true rfl⟩ rfl rfl rfl (wr := (qX cI (rf 0) (T 0 0) (T 0 1) (T 0 2) (T 0 3) (T 0 4) (T 0 5) (T 1) (T 2) (T 3) (T 4) (T 5) (T 6) (T 7) (T 8))) (pm_cnt (fun _ => by simp only [List.countP_append, List.countP_nil, fT] <;> omega)) (fun _ => by simp only [List.map_append, List.map_nil, fX_m, bX_m, sX_m, pX_m, iaX_m, r5X_m, r6X_m, fT_m, hX_m, tX_m, xX_m, sgX_m, zaX_m, fsB_a, qX_m, mX_m]) (rest := []) rfl rfl (Nat.le_of_ble_eq_true rfl) dX9_vegetable_15 (ws2 := (fun _ : Unit => (mX mr rf st ln 1 pl hs vs dg xx ++ qX cI (rf 0) (T 0 0) (T 0 1) (T 0 2) (T 0 3) (T 0 4) (T 0 5) (T 1) (T 2) (T 3) (T 4) (T 5) (T 6) (T 7) (T 8)))) (fun _ => (pm_cnt (fun _ => by simp only [List.countP_append, List.countP_nil, fT] <;> omega))) (fun _ Hp locs hP hD hS => ?_)
    exact ct_i () hx hb hr hlocks hP hS rfl dX9_vegetable_18
set_option maxHeartbeats 4000000 in
set_option maxRecDepth 100000 in
theorem f2_X9_vegetable (l : Launch) (D : va_G) (cI cZ cF cL : ClassId) (mr : Nat) (rf : Nat → Nat) (st ln th pl hs vs : Nat) (dg : Int32) (xx : Int64) (T : Nat → Nat → Nat) (v : Nat) (x : Int32) (hT : FI T) (hv : v < T 0 1) (hbad : ¬ (nI 0 ≤ x ∧ x ≤ nI 3)) : CT l D (tysX cI cZ cF cL) yX9_vegetable (wA yX9_vegetable cX9_vegetable 5 (some .int)) (rmF 2 43) [.ref mr, .int (nI v), .int x] (mX mr rf st ln th pl hs vs dg xx ++ qX cI (rf 0) (T 0 0) (T 0 1) (T 0 2) (T 0 3) (T 0 4) (T 0 5) (T 1) (T 2) (T 3) (T 4) (T 5) (T 6) (T 7) (T 8)) (some (.int (nI 0))) (fun _ : Unit => (mX mr rf st ln 2 pl hs vs dg xx ++ qX cI (rf 0) (T 0 0) (T 0 1) (T 0 2) (T 0 3) (T 0 4) (T 0 5) (T 1) (T 2) (T 3) (T 4) (T 5) (T 6) (T 7) (T 8))) := by
  refine ct_in (cc := cX9_vegetable) (maxL := 5) (ret := (some .int)) (own := RX9) (lv := [(0, .ref mr), (1, .int (nI v)), (2, .int x)]) (by decide +kernel) rfl rfl (Nat.le_of_ble_eq_true rfl) rfl ?_
  intro p e s m args below meth c A ls hx hb hr hml hts hown hlocks hK hA hP hD hS hl
  have hH := hT.1.1
  have hV := hT.1.2
  refine lv_aload_n hx hb dX9_vegetable_0 rfl (lv_at hl 0 rfl) ?_
  refine lv_iconst (v := (nI 0)) hx hb dX9_vegetable_1 (by decide) ?_
  refine pf_n (C := RX9) (T := TX9) (N := 15) (ci := 9) (q0 := 0) (ty := .int) (v := .int (nI 0)) (ws2 := (mX mr rf st ln 0 pl hs vs dg xx ++ qX cI (rf 0) (T 0 0) (T 0 1) (T 0 2) (T 0 3) (T 0 4) (T 0 5) (T 1) (T 2) (T 3) (T 4) (T 5) (T 6) (T 7) (T 8))) hx hb hts (iU inlX9) tyX9 tyX9_ok nmX9 hown hK hP hD hS rfl rfl 8 (by decide) (kU u_173) rfl rfl (tyX9_ok 8 (by decide)) rfl rfl (Nat.le_of_ble_eq_true rfl) dX9_vegetable_2 rfl (fun Hp locs hP hD hS => ?_)
  refine lv_aload_n hx hb dX9_vegetable_5 rfl (lv_at hl 0 rfl) ?_
  refine lv_iload_n hx hb dX9_vegetable_6 rfl (lv_at hl 1 rfl) ?_
  refine gp_V (ci := 9) (q0 := 0) (cq := (RX9, TX9, 15)) (c_X9_isVegetable l D cI cZ cF cL mr rf st ln 0 pl hs vs dg xx (T 0 0) (T 0 1) (T 0 2) (T 0 3) (T 0 4) (T 0 5) (T 1) (T 2) (T 3) (T 4) (T 5) (T 6) (T 7) (T 8) ((nI v)) (by omega) (by omega)) (gUV u_450 u_451 u_452 u_5 u_453) rfl hdV_X9_isVegetable ⟨Nat.le_of_ble_eq_true rfl, Nat.le_of_ble_eq_true rfl⟩ ⟨rfl, rfl⟩ hx hb hml hown hts hK hA hP hD hS hl.1 ⟨Nat.le_of_ble_eq_true rfl, Nat.le_of_ble_eq_true rfl⟩ rfl rfl rfl (wr := ([] : va_W)) (pm_cnt (fun _ => by simp only [List.countP_append, List.countP_nil, fT] <;> omega)) (fun _ => by simp only [List.map_append, List.map_nil, fX_m, bX_m, sX_m, pX_m, iaX_m, r5X_m, r6X_m, fT_m, hX_m, tX_m, xX_m, sgX_m, zaX_m, fsB_a, qX_m, mX_m]) (rest := []) rfl rfl (Nat.le_of_ble_eq_true rfl) dX9_vegetable_7 (ws2 := (fun _ : Unit => (mX mr rf st ln 0 pl hs vs dg xx ++ qX cI (rf 0) (T 0 0) (T 0 1) (T 0 2) (T 0 3) (T 0 4) (T 0 5) (T 1) (T 2) (T 3) (T 4) (T 5) (T 6) (T 7) (T 8)))) (fun _ => (pm_cnt (fun _ => by simp only [List.countP_append, List.countP_nil, fT] <;> omega))) (fun _ Hp locs hP hD hS => ?_)
  refine lv_if_ne (tgt := 19) hx hb dX9_vegetable_10 (by decide) (fun c_10 => ?_) (fun c_10 => ?_)
  · skip
    replace c_10 := cb_nz c_10
    refine lv_iload_n hx hb dX9_vegetable_19 rfl (lv_at hl 2 rfl) ?_
    refine lv_iconst (v := (nI 0)) hx hb dX9_vegetable_20 (by decide) ?_
    refine lv_iconst (v := (nI 3)) hx hb dX9_vegetable_21 (by decide) ?_
    refine gp_S (c_X9_in l D cI cZ cF cL x ((nI 0)) ((nI 3)) ) (gUS u_140 u_141 u_5 u_142) rfl hdS_X9_in ⟨Nat.le_of_ble_eq_true rfl, Nat.le_of_ble_eq_true rfl⟩ ⟨rfl, rfl⟩ hx hb hml hown hts hK hA hP hD hS hl.1 ⟨Nat.le_of_ble_eq_true rfl, Nat.le_of_ble_eq_true rfl⟩ (wr := (mX mr rf st ln 0 pl hs vs dg xx ++ qX cI (rf 0) (T 0 0) (T 0 1) (T 0 2) (T 0 3) (T 0 4) (T 0 5) (T 1) (T 2) (T 3) (T 4) (T 5) (T 6) (T 7) (T 8))) (pm_cnt (fun _ => by simp only [List.countP_append, List.countP_nil, fT] <;> omega)) (fun _ => by simp only [List.map_append, List.map_nil, fX_m, bX_m, sX_m, pX_m, iaX_m, r5X_m, r6X_m, fT_m, hX_m, tX_m, xX_m, sgX_m, zaX_m, fsB_a, qX_m, mX_m]) (rest := []) rfl rfl (Nat.le_of_ble_eq_true rfl) dX9_vegetable_22 (ws2 := (fun _ : Unit => (mX mr rf st ln 0 pl hs vs dg xx ++ qX cI (rf 0) (T 0 0) (T 0 1) (T 0 2) (T 0 3) (T 0 4) (T 0 5) (T 1) (T 2) (T 3) (T 4) (T 5) (T 6) (T 7) (T 8)))) (fun _ => (pm_cnt (fun _ => by simp only [List.countP_append, List.countP_nil, fT] <;> omega))) (fun _ Hp locs hP hD hS => ?_)
    refine lv_if_ne (tgt := 34) hx hb dX9_vegetable_25 (by decide) (fun c_25 => ?_) (fun c_25 => ?_)
    · skip
      replace c_25 := cb_nz c_25
      (exact absurd c_25 hbad)
    · skip
      replace c_25 := cb_z c_25
      refine lv_aload_n hx hb dX9_vegetable_28 rfl (lv_at hl 0 rfl) ?_
      refine lv_iconst (v := (nI 2)) hx hb dX9_vegetable_29 (by decide) ?_
      refine gp_V (ci := 9) (q0 := 0) (cq := (RX9, TX9, 15)) (c_X9_fails l D cI cZ cF cL mr rf st ln 0 pl hs vs dg xx 2 ) (gUV u_175 u_176 u_177 u_5 u_178) rfl hdV_X9_fails ⟨Nat.le_of_ble_eq_true rfl, Nat.le_of_ble_eq_true rfl⟩ ⟨rfl, rfl⟩ hx hb hml hown hts hK hA hP hD hS hl.1 ⟨Nat.le_of_ble_eq_true rfl, Nat.le_of_ble_eq_true rfl⟩ rfl rfl rfl (wr := (qX cI (rf 0) (T 0 0) (T 0 1) (T 0 2) (T 0 3) (T 0 4) (T 0 5) (T 1) (T 2) (T 3) (T 4) (T 5) (T 6) (T 7) (T 8))) (pm_cnt (fun _ => by simp only [List.countP_append, List.countP_nil, fT] <;> omega)) (fun _ => by simp only [List.map_append, List.map_nil, fX_m, bX_m, sX_m, pX_m, iaX_m, r5X_m, r6X_m, fT_m, hX_m, tX_m, xX_m, sgX_m, zaX_m, fsB_a, qX_m, mX_m]) (rest := []) rfl rfl (Nat.le_of_ble_eq_true rfl) dX9_vegetable_30 (ws2 := (fun _ : Unit => (mX mr rf st ln 2 pl hs vs dg xx ++ qX cI (rf 0) (T 0 0) (T 0 1) (T 0 2) (T 0 3) (T 0 4) (T 0 5) (T 1) (T 2) (T 3) (T 4) (T 5) (T 6) (T 7) (T 8)))) (fun _ => (pm_cnt (fun _ => by simp only [List.countP_append, List.countP_nil, fT] <;> omega))) (fun _ Hp locs hP hD hS => ?_)
      exact ct_i () hx hb hr hlocks hP hS rfl dX9_vegetable_33
  · skip
    replace c_10 := cb_z c_10
    (exact absurd (hhV hv (Nat.le_trans hT.1.2 (by decide))) c_10)
set_option maxHeartbeats 4000000 in
set_option maxRecDepth 100000 in
theorem c_X9_box (l : Launch) (D : va_G) (cI cZ cF cL : ClassId) (mr : Nat) (rf : Nat → Nat) (st ln th pl hs vs : Nat) (dg : Int32) (xx : Int64) (T : Nat → Nat → Nat) (h v : Nat) (hT : FI T) (hh : h < T 0 0) (hv : v < T 0 1) : CT l D (tysX cI cZ cF cL) yX9_box (wA yX9_box cX9_box 3 (some .int)) (rmF 2 43) [.ref mr, .int (nI h), .int (nI v)] (mX mr rf st ln th pl hs vs dg xx ++ qX cI (rf 0) (T 0 0) (T 0 1) (T 0 2) (T 0 3) (T 0 4) (T 0 5) (T 1) (T 2) (T 3) (T 4) (T 5) (T 6) (T 7) (T 8)) (some (.int (nI (T 8 (h * 5 + v))))) (fun _ : Unit => (mX mr rf st ln 0 pl hs vs dg xx ++ qX cI (rf 0) (T 0 0) (T 0 1) (T 0 2) (T 0 3) (T 0 4) (T 0 5) (T 1) (T 2) (T 3) (T 4) (T 5) (T 6) (T 7) (T 8))) := by
  refine ct_in (cc := cX9_box) (maxL := 3) (ret := (some .int)) (own := RX9) (lv := [(0, .ref mr), (1, .int (nI h)), (2, .int (nI v))]) (by decide +kernel) rfl rfl (Nat.le_of_ble_eq_true rfl) rfl ?_
  intro p e s m args below meth c A ls hx hb hr hml hts hown hlocks hK hA hP hD hS hl
  have hH := hT.1.1
  have hV := hT.1.2
  refine lv_aload_n hx hb dX9_box_0 rfl (lv_at hl 0 rfl) ?_
  refine lv_iconst (v := (nI 0)) hx hb dX9_box_1 (by decide) ?_
  refine pf_n (C := RX9) (T := TX9) (N := 15) (ci := 9) (q0 := 0) (ty := .int) (v := .int (nI 0)) (ws2 := (mX mr rf st ln 0 pl hs vs dg xx ++ qX cI (rf 0) (T 0 0) (T 0 1) (T 0 2) (T 0 3) (T 0 4) (T 0 5) (T 1) (T 2) (T 3) (T 4) (T 5) (T 6) (T 7) (T 8))) hx hb hts (iU inlX9) tyX9 tyX9_ok nmX9 hown hK hP hD hS rfl rfl 8 (by decide) (kU u_173) rfl rfl (tyX9_ok 8 (by decide)) rfl rfl (Nat.le_of_ble_eq_true rfl) dX9_box_2 rfl (fun Hp locs hP hD hS => ?_)
  refine lv_aload_n hx hb dX9_box_5 rfl (lv_at hl 0 rfl) ?_
  refine lv_iload_n hx hb dX9_box_6 rfl (lv_at hl 1 rfl) ?_
  refine gp_V (ci := 9) (q0 := 0) (cq := (RX9, TX9, 15)) (c_X9_isHouse l D cI cZ cF cL mr rf st ln 0 pl hs vs dg xx (T 0 0) (T 0 1) (T 0 2) (T 0 3) (T 0 4) (T 0 5) (T 1) (T 2) (T 3) (T 4) (T 5) (T 6) (T 7) (T 8) ((nI h)) (by omega) (by omega)) (gUV u_397 u_398 u_399 u_5 u_400) rfl hdV_X9_isHouse ⟨Nat.le_of_ble_eq_true rfl, Nat.le_of_ble_eq_true rfl⟩ ⟨rfl, rfl⟩ hx hb hml hown hts hK hA hP hD hS hl.1 ⟨Nat.le_of_ble_eq_true rfl, Nat.le_of_ble_eq_true rfl⟩ rfl rfl rfl (wr := ([] : va_W)) (pm_cnt (fun _ => by simp only [List.countP_append, List.countP_nil, fT] <;> omega)) (fun _ => by simp only [List.map_append, List.map_nil, fX_m, bX_m, sX_m, pX_m, iaX_m, r5X_m, r6X_m, fT_m, hX_m, tX_m, xX_m, sgX_m, zaX_m, fsB_a, qX_m, mX_m]) (rest := []) rfl rfl (Nat.le_of_ble_eq_true rfl) dX9_box_7 (ws2 := (fun _ : Unit => (mX mr rf st ln 0 pl hs vs dg xx ++ qX cI (rf 0) (T 0 0) (T 0 1) (T 0 2) (T 0 3) (T 0 4) (T 0 5) (T 1) (T 2) (T 3) (T 4) (T 5) (T 6) (T 7) (T 8)))) (fun _ => (pm_cnt (fun _ => by simp only [List.countP_append, List.countP_nil, fT] <;> omega))) (fun _ Hp locs hP hD hS => ?_)
  refine lv_if_eq (tgt := 34) hx hb dX9_box_10 (by decide) (fun c_10 => ?_) (fun c_10 => ?_)
  · skip
    replace c_10 := cb_z c_10
    (exact absurd (hhV hh hT.1.1) c_10)
  · skip
    replace c_10 := cb_nz c_10
    refine lv_aload_n hx hb dX9_box_13 rfl (lv_at hl 0 rfl) ?_
    refine lv_iload_n hx hb dX9_box_14 rfl (lv_at hl 2 rfl) ?_
    refine gp_V (ci := 9) (q0 := 0) (cq := (RX9, TX9, 15)) (c_X9_isVegetable l D cI cZ cF cL mr rf st ln 0 pl hs vs dg xx (T 0 0) (T 0 1) (T 0 2) (T 0 3) (T 0 4) (T 0 5) (T 1) (T 2) (T 3) (T 4) (T 5) (T 6) (T 7) (T 8) ((nI v)) (by omega) (by omega)) (gUV u_450 u_451 u_452 u_5 u_453) rfl hdV_X9_isVegetable ⟨Nat.le_of_ble_eq_true rfl, Nat.le_of_ble_eq_true rfl⟩ ⟨rfl, rfl⟩ hx hb hml hown hts hK hA hP hD hS hl.1 ⟨Nat.le_of_ble_eq_true rfl, Nat.le_of_ble_eq_true rfl⟩ rfl rfl rfl (wr := ([] : va_W)) (pm_cnt (fun _ => by simp only [List.countP_append, List.countP_nil, fT] <;> omega)) (fun _ => by simp only [List.map_append, List.map_nil, fX_m, bX_m, sX_m, pX_m, iaX_m, r5X_m, r6X_m, fT_m, hX_m, tX_m, xX_m, sgX_m, zaX_m, fsB_a, qX_m, mX_m]) (rest := []) rfl rfl (Nat.le_of_ble_eq_true rfl) dX9_box_15 (ws2 := (fun _ : Unit => (mX mr rf st ln 0 pl hs vs dg xx ++ qX cI (rf 0) (T 0 0) (T 0 1) (T 0 2) (T 0 3) (T 0 4) (T 0 5) (T 1) (T 2) (T 3) (T 4) (T 5) (T 6) (T 7) (T 8)))) (fun _ => (pm_cnt (fun _ => by simp only [List.countP_append, List.countP_nil, fT] <;> omega))) (fun _ Hp locs hP hD hS => ?_)
    refine lv_if_eq (tgt := 34) hx hb dX9_box_18 (by decide) (fun c_18 => ?_) (fun c_18 => ?_)
    · skip
      replace c_18 := cb_z c_18
      (exact absurd (hhV hv (Nat.le_trans hT.1.2 (by decide))) c_18)
    · skip
      replace c_18 := cb_nz c_18
      refine lv_aload_n hx hb dX9_box_21 rfl (lv_at hl 0 rfl) ?_
      refine gf_n (C := RX9) (T := TX9) (N := 15) (ci := 9) (q0 := 0) (v := .ref (rf 0)) hx hb hts (iU inlX9) hown hK hP rfl rfl 0 (by decide) (kU u_129) rfl rfl dX9_box_22 ?_
      refine lv_iload_n hx hb dX9_box_25 rfl (lv_at hl 1 rfl) ?_
      refine lv_iload_n hx hb dX9_box_26 rfl (lv_at hl 2 rfl) ?_
      refine gp_S (c_X9_kilos l D cI cZ cF cL h v ) (gUS u_354 u_355 u_5 u_356) rfl hdS_X9_kilos ⟨Nat.le_of_ble_eq_true rfl, Nat.le_of_ble_eq_true rfl⟩ ⟨rfl, rfl⟩ hx hb hml hown hts hK hA hP hD hS hl.1 ⟨Nat.le_of_ble_eq_true rfl, Nat.le_of_ble_eq_true rfl⟩ (wr := (mX mr rf st ln 0 pl hs vs dg xx ++ qX cI (rf 0) (T 0 0) (T 0 1) (T 0 2) (T 0 3) (T 0 4) (T 0 5) (T 1) (T 2) (T 3) (T 4) (T 5) (T 6) (T 7) (T 8))) (pm_cnt (fun _ => by simp only [List.countP_append, List.countP_nil, fT] <;> omega)) (fun _ => by simp only [List.map_append, List.map_nil, fX_m, bX_m, sX_m, pX_m, iaX_m, r5X_m, r6X_m, fT_m, hX_m, tX_m, xX_m, sgX_m, zaX_m, fsB_a, qX_m, mX_m]) (rest := [.ref (rf 0)]) rfl rfl (Nat.le_of_ble_eq_true rfl) dX9_box_27 (ws2 := (fun _ : Unit => (mX mr rf st ln 0 pl hs vs dg xx ++ qX cI (rf 0) (T 0 0) (T 0 1) (T 0 2) (T 0 3) (T 0 4) (T 0 5) (T 1) (T 2) (T 3) (T 4) (T 5) (T 6) (T 7) (T 8)))) (fun _ => (pm_cnt (fun _ => by simp only [List.countP_append, List.countP_nil, fT] <;> omega))) (fun _ Hp locs hP hD hS => ?_)
      refine ia_n (q0 := 1) (t0 := 0) hx hb hK hP rfl rfl (by omega) (by decide) dX9_box_30 ?_
      rw [qR_8 (by omega) (by omega)]
      refine lv_goto (tgt := 39) hx hb dX9_box_31 (by decide) ?_
      exact ct_i () hx hb hr hlocks hP hS rfl dX9_box_39
set_option maxHeartbeats 4000000 in
set_option maxRecDepth 100000 in
theorem f1_X9_box (l : Launch) (D : va_G) (cI cZ cF cL : ClassId) (mr : Nat) (rf : Nat → Nat) (st ln th pl hs vs : Nat) (dg : Int32) (xx : Int64) (T : Nat → Nat → Nat) (x y : Int32) (hT : FI T) (hbad : ¬ (0 ≤ x ∧ x < nI (T 0 0))) : CT l D (tysX cI cZ cF cL) yX9_box (wA yX9_box cX9_box 3 (some .int)) (rmF 2 43) [.ref mr, .int x, .int y] (mX mr rf st ln th pl hs vs dg xx ++ qX cI (rf 0) (T 0 0) (T 0 1) (T 0 2) (T 0 3) (T 0 4) (T 0 5) (T 1) (T 2) (T 3) (T 4) (T 5) (T 6) (T 7) (T 8)) (some (.int (nI 0))) (fun _ : Unit => (mX mr rf st ln 1 pl hs vs dg xx ++ qX cI (rf 0) (T 0 0) (T 0 1) (T 0 2) (T 0 3) (T 0 4) (T 0 5) (T 1) (T 2) (T 3) (T 4) (T 5) (T 6) (T 7) (T 8))) := by
  refine ct_in (cc := cX9_box) (maxL := 3) (ret := (some .int)) (own := RX9) (lv := [(0, .ref mr), (1, .int x), (2, .int y)]) (by decide +kernel) rfl rfl (Nat.le_of_ble_eq_true rfl) rfl ?_
  intro p e s m args below meth c A ls hx hb hr hml hts hown hlocks hK hA hP hD hS hl
  have hH := hT.1.1
  have hV := hT.1.2
  refine lv_aload_n hx hb dX9_box_0 rfl (lv_at hl 0 rfl) ?_
  refine lv_iconst (v := (nI 0)) hx hb dX9_box_1 (by decide) ?_
  refine pf_n (C := RX9) (T := TX9) (N := 15) (ci := 9) (q0 := 0) (ty := .int) (v := .int (nI 0)) (ws2 := (mX mr rf st ln 0 pl hs vs dg xx ++ qX cI (rf 0) (T 0 0) (T 0 1) (T 0 2) (T 0 3) (T 0 4) (T 0 5) (T 1) (T 2) (T 3) (T 4) (T 5) (T 6) (T 7) (T 8))) hx hb hts (iU inlX9) tyX9 tyX9_ok nmX9 hown hK hP hD hS rfl rfl 8 (by decide) (kU u_173) rfl rfl (tyX9_ok 8 (by decide)) rfl rfl (Nat.le_of_ble_eq_true rfl) dX9_box_2 rfl (fun Hp locs hP hD hS => ?_)
  refine lv_aload_n hx hb dX9_box_5 rfl (lv_at hl 0 rfl) ?_
  refine lv_iload_n hx hb dX9_box_6 rfl (lv_at hl 1 rfl) ?_
  refine gp_V (ci := 9) (q0 := 0) (cq := (RX9, TX9, 15)) (c_X9_isHouse l D cI cZ cF cL mr rf st ln 0 pl hs vs dg xx (T 0 0) (T 0 1) (T 0 2) (T 0 3) (T 0 4) (T 0 5) (T 1) (T 2) (T 3) (T 4) (T 5) (T 6) (T 7) (T 8) x (by omega) (by omega)) (gUV u_397 u_398 u_399 u_5 u_400) rfl hdV_X9_isHouse ⟨Nat.le_of_ble_eq_true rfl, Nat.le_of_ble_eq_true rfl⟩ ⟨rfl, rfl⟩ hx hb hml hown hts hK hA hP hD hS hl.1 ⟨Nat.le_of_ble_eq_true rfl, Nat.le_of_ble_eq_true rfl⟩ rfl rfl rfl (wr := ([] : va_W)) (pm_cnt (fun _ => by simp only [List.countP_append, List.countP_nil, fT] <;> omega)) (fun _ => by simp only [List.map_append, List.map_nil, fX_m, bX_m, sX_m, pX_m, iaX_m, r5X_m, r6X_m, fT_m, hX_m, tX_m, xX_m, sgX_m, zaX_m, fsB_a, qX_m, mX_m]) (rest := []) rfl rfl (Nat.le_of_ble_eq_true rfl) dX9_box_7 (ws2 := (fun _ : Unit => (mX mr rf st ln 0 pl hs vs dg xx ++ qX cI (rf 0) (T 0 0) (T 0 1) (T 0 2) (T 0 3) (T 0 4) (T 0 5) (T 1) (T 2) (T 3) (T 4) (T 5) (T 6) (T 7) (T 8)))) (fun _ => (pm_cnt (fun _ => by simp only [List.countP_append, List.countP_nil, fT] <;> omega))) (fun _ Hp locs hP hD hS => ?_)
  refine lv_if_eq (tgt := 34) hx hb dX9_box_10 (by decide) (fun c_10 => ?_) (fun c_10 => ?_)
  · skip
    replace c_10 := cb_z c_10
    refine lv_aload_n hx hb dX9_box_34 rfl (lv_at hl 0 rfl) ?_
    refine lv_iconst (v := (nI 1)) hx hb dX9_box_35 (by decide) ?_
    refine gp_V (ci := 9) (q0 := 0) (cq := (RX9, TX9, 15)) (c_X9_fails l D cI cZ cF cL mr rf st ln 0 pl hs vs dg xx 1 ) (gUV u_175 u_176 u_177 u_5 u_178) rfl hdV_X9_fails ⟨Nat.le_of_ble_eq_true rfl, Nat.le_of_ble_eq_true rfl⟩ ⟨rfl, rfl⟩ hx hb hml hown hts hK hA hP hD hS hl.1 ⟨Nat.le_of_ble_eq_true rfl, Nat.le_of_ble_eq_true rfl⟩ rfl rfl rfl (wr := (qX cI (rf 0) (T 0 0) (T 0 1) (T 0 2) (T 0 3) (T 0 4) (T 0 5) (T 1) (T 2) (T 3) (T 4) (T 5) (T 6) (T 7) (T 8))) (pm_cnt (fun _ => by simp only [List.countP_append, List.countP_nil, fT] <;> omega)) (fun _ => by simp only [List.map_append, List.map_nil, fX_m, bX_m, sX_m, pX_m, iaX_m, r5X_m, r6X_m, fT_m, hX_m, tX_m, xX_m, sgX_m, zaX_m, fsB_a, qX_m, mX_m]) (rest := []) rfl rfl (Nat.le_of_ble_eq_true rfl) dX9_box_36 (ws2 := (fun _ : Unit => (mX mr rf st ln 1 pl hs vs dg xx ++ qX cI (rf 0) (T 0 0) (T 0 1) (T 0 2) (T 0 3) (T 0 4) (T 0 5) (T 1) (T 2) (T 3) (T 4) (T 5) (T 6) (T 7) (T 8)))) (fun _ => (pm_cnt (fun _ => by simp only [List.countP_append, List.countP_nil, fT] <;> omega))) (fun _ Hp locs hP hD hS => ?_)
    exact ct_i () hx hb hr hlocks hP hS rfl dX9_box_39
  · skip
    replace c_10 := cb_nz c_10
    (exact absurd c_10 hbad)
set_option maxHeartbeats 4000000 in
set_option maxRecDepth 100000 in
theorem f2_X9_box (l : Launch) (D : va_G) (cI cZ cF cL : ClassId) (mr : Nat) (rf : Nat → Nat) (st ln th pl hs vs : Nat) (dg : Int32) (xx : Int64) (T : Nat → Nat → Nat) (h : Nat) (x : Int32) (hT : FI T) (hh : h < T 0 0) (hbad : ¬ (0 ≤ x ∧ x < nI (T 0 1))) : CT l D (tysX cI cZ cF cL) yX9_box (wA yX9_box cX9_box 3 (some .int)) (rmF 2 43) [.ref mr, .int (nI h), .int x] (mX mr rf st ln th pl hs vs dg xx ++ qX cI (rf 0) (T 0 0) (T 0 1) (T 0 2) (T 0 3) (T 0 4) (T 0 5) (T 1) (T 2) (T 3) (T 4) (T 5) (T 6) (T 7) (T 8)) (some (.int (nI 0))) (fun _ : Unit => (mX mr rf st ln 1 pl hs vs dg xx ++ qX cI (rf 0) (T 0 0) (T 0 1) (T 0 2) (T 0 3) (T 0 4) (T 0 5) (T 1) (T 2) (T 3) (T 4) (T 5) (T 6) (T 7) (T 8))) := by
  refine ct_in (cc := cX9_box) (maxL := 3) (ret := (some .int)) (own := RX9) (lv := [(0, .ref mr), (1, .int (nI h)), (2, .int x)]) (by decide +kernel) rfl rfl (Nat.le_of_ble_eq_true rfl) rfl ?_
  intro p e s m args below meth c A ls hx hb hr hml hts hown hlocks hK hA hP hD hS hl
  have hH := hT.1.1
  have hV := hT.1.2
  refine lv_aload_n hx hb dX9_box_0 rfl (lv_at hl 0 rfl) ?_
  refine lv_iconst (v := (nI 0)) hx hb dX9_box_1 (by decide) ?_
  refine pf_n (C := RX9) (T := TX9) (N := 15) (ci := 9) (q0 := 0) (ty := .int) (v := .int (nI 0)) (ws2 := (mX mr rf st ln 0 pl hs vs dg xx ++ qX cI (rf 0) (T 0 0) (T 0 1) (T 0 2) (T 0 3) (T 0 4) (T 0 5) (T 1) (T 2) (T 3) (T 4) (T 5) (T 6) (T 7) (T 8))) hx hb hts (iU inlX9) tyX9 tyX9_ok nmX9 hown hK hP hD hS rfl rfl 8 (by decide) (kU u_173) rfl rfl (tyX9_ok 8 (by decide)) rfl rfl (Nat.le_of_ble_eq_true rfl) dX9_box_2 rfl (fun Hp locs hP hD hS => ?_)
  refine lv_aload_n hx hb dX9_box_5 rfl (lv_at hl 0 rfl) ?_
  refine lv_iload_n hx hb dX9_box_6 rfl (lv_at hl 1 rfl) ?_
  refine gp_V (ci := 9) (q0 := 0) (cq := (RX9, TX9, 15)) (c_X9_isHouse l D cI cZ cF cL mr rf st ln 0 pl hs vs dg xx (T 0 0) (T 0 1) (T 0 2) (T 0 3) (T 0 4) (T 0 5) (T 1) (T 2) (T 3) (T 4) (T 5) (T 6) (T 7) (T 8) ((nI h)) (by omega) (by omega)) (gUV u_397 u_398 u_399 u_5 u_400) rfl hdV_X9_isHouse ⟨Nat.le_of_ble_eq_true rfl, Nat.le_of_ble_eq_true rfl⟩ ⟨rfl, rfl⟩ hx hb hml hown hts hK hA hP hD hS hl.1 ⟨Nat.le_of_ble_eq_true rfl, Nat.le_of_ble_eq_true rfl⟩ rfl rfl rfl (wr := ([] : va_W)) (pm_cnt (fun _ => by simp only [List.countP_append, List.countP_nil, fT] <;> omega)) (fun _ => by simp only [List.map_append, List.map_nil, fX_m, bX_m, sX_m, pX_m, iaX_m, r5X_m, r6X_m, fT_m, hX_m, tX_m, xX_m, sgX_m, zaX_m, fsB_a, qX_m, mX_m]) (rest := []) rfl rfl (Nat.le_of_ble_eq_true rfl) dX9_box_7 (ws2 := (fun _ : Unit => (mX mr rf st ln 0 pl hs vs dg xx ++ qX cI (rf 0) (T 0 0) (T 0 1) (T 0 2) (T 0 3) (T 0 4) (T 0 5) (T 1) (T 2) (T 3) (T 4) (T 5) (T 6) (T 7) (T 8)))) (fun _ => (pm_cnt (fun _ => by simp only [List.countP_append, List.countP_nil, fT] <;> omega))) (fun _ Hp locs hP hD hS => ?_)
  refine lv_if_eq (tgt := 34) hx hb dX9_box_10 (by decide) (fun c_10 => ?_) (fun c_10 => ?_)
  · skip
    replace c_10 := cb_z c_10
    (exact absurd (hhV hh hT.1.1) c_10)
  · skip
    replace c_10 := cb_nz c_10
    refine lv_aload_n hx hb dX9_box_13 rfl (lv_at hl 0 rfl) ?_
    refine lv_iload_n hx hb dX9_box_14 rfl (lv_at hl 2 rfl) ?_
    refine gp_V (ci := 9) (q0 := 0) (cq := (RX9, TX9, 15)) (c_X9_isVegetable l D cI cZ cF cL mr rf st ln 0 pl hs vs dg xx (T 0 0) (T 0 1) (T 0 2) (T 0 3) (T 0 4) (T 0 5) (T 1) (T 2) (T 3) (T 4) (T 5) (T 6) (T 7) (T 8) x (by omega) (by omega)) (gUV u_450 u_451 u_452 u_5 u_453) rfl hdV_X9_isVegetable ⟨Nat.le_of_ble_eq_true rfl, Nat.le_of_ble_eq_true rfl⟩ ⟨rfl, rfl⟩ hx hb hml hown hts hK hA hP hD hS hl.1 ⟨Nat.le_of_ble_eq_true rfl, Nat.le_of_ble_eq_true rfl⟩ rfl rfl rfl (wr := ([] : va_W)) (pm_cnt (fun _ => by simp only [List.countP_append, List.countP_nil, fT] <;> omega)) (fun _ => by simp only [List.map_append, List.map_nil, fX_m, bX_m, sX_m, pX_m, iaX_m, r5X_m, r6X_m, fT_m, hX_m, tX_m, xX_m, sgX_m, zaX_m, fsB_a, qX_m, mX_m]) (rest := []) rfl rfl (Nat.le_of_ble_eq_true rfl) dX9_box_15 (ws2 := (fun _ : Unit => (mX mr rf st ln 0 pl hs vs dg xx ++ qX cI (rf 0) (T 0 0) (T 0 1) (T 0 2) (T 0 3) (T 0 4) (T 0 5) (T 1) (T 2) (T 3) (T 4) (T 5) (T 6) (T 7) (T 8)))) (fun _ => (pm_cnt (fun _ => by simp only [List.countP_append, List.countP_nil, fT] <;> omega))) (fun _ Hp locs hP hD hS => ?_)
    refine lv_if_eq (tgt := 34) hx hb dX9_box_18 (by decide) (fun c_18 => ?_) (fun c_18 => ?_)
    · skip
      replace c_18 := cb_z c_18
      refine lv_aload_n hx hb dX9_box_34 rfl (lv_at hl 0 rfl) ?_
      refine lv_iconst (v := (nI 1)) hx hb dX9_box_35 (by decide) ?_
      refine gp_V (ci := 9) (q0 := 0) (cq := (RX9, TX9, 15)) (c_X9_fails l D cI cZ cF cL mr rf st ln 0 pl hs vs dg xx 1 ) (gUV u_175 u_176 u_177 u_5 u_178) rfl hdV_X9_fails ⟨Nat.le_of_ble_eq_true rfl, Nat.le_of_ble_eq_true rfl⟩ ⟨rfl, rfl⟩ hx hb hml hown hts hK hA hP hD hS hl.1 ⟨Nat.le_of_ble_eq_true rfl, Nat.le_of_ble_eq_true rfl⟩ rfl rfl rfl (wr := (qX cI (rf 0) (T 0 0) (T 0 1) (T 0 2) (T 0 3) (T 0 4) (T 0 5) (T 1) (T 2) (T 3) (T 4) (T 5) (T 6) (T 7) (T 8))) (pm_cnt (fun _ => by simp only [List.countP_append, List.countP_nil, fT] <;> omega)) (fun _ => by simp only [List.map_append, List.map_nil, fX_m, bX_m, sX_m, pX_m, iaX_m, r5X_m, r6X_m, fT_m, hX_m, tX_m, xX_m, sgX_m, zaX_m, fsB_a, qX_m, mX_m]) (rest := []) rfl rfl (Nat.le_of_ble_eq_true rfl) dX9_box_36 (ws2 := (fun _ : Unit => (mX mr rf st ln 1 pl hs vs dg xx ++ qX cI (rf 0) (T 0 0) (T 0 1) (T 0 2) (T 0 3) (T 0 4) (T 0 5) (T 1) (T 2) (T 3) (T 4) (T 5) (T 6) (T 7) (T 8)))) (fun _ => (pm_cnt (fun _ => by simp only [List.countP_append, List.countP_nil, fT] <;> omega))) (fun _ Hp locs hP hD hS => ?_)
      exact ct_i () hx hb hr hlocks hP hS rfl dX9_box_39
    · skip
      replace c_18 := cb_nz c_18
      (exact absurd c_18 hbad)
set_option maxHeartbeats 4000000 in
set_option maxRecDepth 100000 in
theorem c_X9_liking (l : Launch) (D : va_G) (cI cZ cF cL : ClassId) (mr : Nat) (rf : Nat → Nat) (st ln th pl hs vs : Nat) (dg : Int32) (xx : Int64) (T : Nat → Nat → Nat) (h v : Nat) (hT : FI T) (hh : h < T 0 0) (hv : v < T 0 1) : CT l D (tysX cI cZ cF cL) yX9_liking (wA yX9_liking cX9_liking 3 (some .int)) (rmF 2 43) [.ref mr, .int (nI h), .int (nI v)] (mX mr rf st ln th pl hs vs dg xx ++ qX cI (rf 0) (T 0 0) (T 0 1) (T 0 2) (T 0 3) (T 0 4) (T 0 5) (T 1) (T 2) (T 3) (T 4) (T 5) (T 6) (T 7) (T 8)) (some (.int (nI (T 7 (h * 5 + v))))) (fun _ : Unit => (mX mr rf st ln 0 pl hs vs dg xx ++ qX cI (rf 0) (T 0 0) (T 0 1) (T 0 2) (T 0 3) (T 0 4) (T 0 5) (T 1) (T 2) (T 3) (T 4) (T 5) (T 6) (T 7) (T 8))) := by
  refine ct_in (cc := cX9_liking) (maxL := 3) (ret := (some .int)) (own := RX9) (lv := [(0, .ref mr), (1, .int (nI h)), (2, .int (nI v))]) (by decide +kernel) rfl rfl (Nat.le_of_ble_eq_true rfl) rfl ?_
  intro p e s m args below meth c A ls hx hb hr hml hts hown hlocks hK hA hP hD hS hl
  have hH := hT.1.1
  have hV := hT.1.2
  refine lv_aload_n hx hb dX9_liking_0 rfl (lv_at hl 0 rfl) ?_
  refine lv_iconst (v := (nI 0)) hx hb dX9_liking_1 (by decide) ?_
  refine pf_n (C := RX9) (T := TX9) (N := 15) (ci := 9) (q0 := 0) (ty := .int) (v := .int (nI 0)) (ws2 := (mX mr rf st ln 0 pl hs vs dg xx ++ qX cI (rf 0) (T 0 0) (T 0 1) (T 0 2) (T 0 3) (T 0 4) (T 0 5) (T 1) (T 2) (T 3) (T 4) (T 5) (T 6) (T 7) (T 8))) hx hb hts (iU inlX9) tyX9 tyX9_ok nmX9 hown hK hP hD hS rfl rfl 8 (by decide) (kU u_173) rfl rfl (tyX9_ok 8 (by decide)) rfl rfl (Nat.le_of_ble_eq_true rfl) dX9_liking_2 rfl (fun Hp locs hP hD hS => ?_)
  refine lv_aload_n hx hb dX9_liking_5 rfl (lv_at hl 0 rfl) ?_
  refine lv_iload_n hx hb dX9_liking_6 rfl (lv_at hl 1 rfl) ?_
  refine gp_V (ci := 9) (q0 := 0) (cq := (RX9, TX9, 15)) (c_X9_isHouse l D cI cZ cF cL mr rf st ln 0 pl hs vs dg xx (T 0 0) (T 0 1) (T 0 2) (T 0 3) (T 0 4) (T 0 5) (T 1) (T 2) (T 3) (T 4) (T 5) (T 6) (T 7) (T 8) ((nI h)) (by omega) (by omega)) (gUV u_397 u_398 u_399 u_5 u_400) rfl hdV_X9_isHouse ⟨Nat.le_of_ble_eq_true rfl, Nat.le_of_ble_eq_true rfl⟩ ⟨rfl, rfl⟩ hx hb hml hown hts hK hA hP hD hS hl.1 ⟨Nat.le_of_ble_eq_true rfl, Nat.le_of_ble_eq_true rfl⟩ rfl rfl rfl (wr := ([] : va_W)) (pm_cnt (fun _ => by simp only [List.countP_append, List.countP_nil, fT] <;> omega)) (fun _ => by simp only [List.map_append, List.map_nil, fX_m, bX_m, sX_m, pX_m, iaX_m, r5X_m, r6X_m, fT_m, hX_m, tX_m, xX_m, sgX_m, zaX_m, fsB_a, qX_m, mX_m]) (rest := []) rfl rfl (Nat.le_of_ble_eq_true rfl) dX9_liking_7 (ws2 := (fun _ : Unit => (mX mr rf st ln 0 pl hs vs dg xx ++ qX cI (rf 0) (T 0 0) (T 0 1) (T 0 2) (T 0 3) (T 0 4) (T 0 5) (T 1) (T 2) (T 3) (T 4) (T 5) (T 6) (T 7) (T 8)))) (fun _ => (pm_cnt (fun _ => by simp only [List.countP_append, List.countP_nil, fT] <;> omega))) (fun _ Hp locs hP hD hS => ?_)
  refine lv_if_eq (tgt := 34) hx hb dX9_liking_10 (by decide) (fun c_10 => ?_) (fun c_10 => ?_)
  · skip
    replace c_10 := cb_z c_10
    (exact absurd (hhV hh hT.1.1) c_10)
  · skip
    replace c_10 := cb_nz c_10
    refine lv_aload_n hx hb dX9_liking_13 rfl (lv_at hl 0 rfl) ?_
    refine lv_iload_n hx hb dX9_liking_14 rfl (lv_at hl 2 rfl) ?_
    refine gp_V (ci := 9) (q0 := 0) (cq := (RX9, TX9, 15)) (c_X9_isVegetable l D cI cZ cF cL mr rf st ln 0 pl hs vs dg xx (T 0 0) (T 0 1) (T 0 2) (T 0 3) (T 0 4) (T 0 5) (T 1) (T 2) (T 3) (T 4) (T 5) (T 6) (T 7) (T 8) ((nI v)) (by omega) (by omega)) (gUV u_450 u_451 u_452 u_5 u_453) rfl hdV_X9_isVegetable ⟨Nat.le_of_ble_eq_true rfl, Nat.le_of_ble_eq_true rfl⟩ ⟨rfl, rfl⟩ hx hb hml hown hts hK hA hP hD hS hl.1 ⟨Nat.le_of_ble_eq_true rfl, Nat.le_of_ble_eq_true rfl⟩ rfl rfl rfl (wr := ([] : va_W)) (pm_cnt (fun _ => by simp only [List.countP_append, List.countP_nil, fT] <;> omega)) (fun _ => by simp only [List.map_append, List.map_nil, fX_m, bX_m, sX_m, pX_m, iaX_m, r5X_m, r6X_m, fT_m, hX_m, tX_m, xX_m, sgX_m, zaX_m, fsB_a, qX_m, mX_m]) (rest := []) rfl rfl (Nat.le_of_ble_eq_true rfl) dX9_liking_15 (ws2 := (fun _ : Unit => (mX mr rf st ln 0 pl hs vs dg xx ++ qX cI (rf 0) (T 0 0) (T 0 1) (T 0 2) (T 0 3) (T 0 4) (T 0 5) (T 1) (T 2) (T 3) (T 4) (T 5) (T 6) (T 7) (T 8)))) (fun _ => (pm_cnt (fun _ => by simp only [List.countP_append, List.countP_nil, fT] <;> omega))) (fun _ Hp locs hP hD hS => ?_)
    refine lv_if_eq (tgt := 34) hx hb dX9_liking_18 (by decide) (fun c_18 => ?_) (fun c_18 => ?_)
    · skip
      replace c_18 := cb_z c_18
      (exact absurd (hhV hv (Nat.le_trans hT.1.2 (by decide))) c_18)
    · skip
      replace c_18 := cb_nz c_18
      refine lv_aload_n hx hb dX9_liking_21 rfl (lv_at hl 0 rfl) ?_
      refine gf_n (C := RX9) (T := TX9) (N := 15) (ci := 9) (q0 := 0) (v := .ref (rf 0)) hx hb hts (iU inlX9) hown hK hP rfl rfl 0 (by decide) (kU u_129) rfl rfl dX9_liking_22 ?_
      refine lv_iload_n hx hb dX9_liking_25 rfl (lv_at hl 1 rfl) ?_
      refine lv_iload_n hx hb dX9_liking_26 rfl (lv_at hl 2 rfl) ?_
      refine gp_S (c_X9_like l D cI cZ cF cL h v ) (gUS u_281 u_282 u_5 u_283) rfl hdS_X9_like ⟨Nat.le_of_ble_eq_true rfl, Nat.le_of_ble_eq_true rfl⟩ ⟨rfl, rfl⟩ hx hb hml hown hts hK hA hP hD hS hl.1 ⟨Nat.le_of_ble_eq_true rfl, Nat.le_of_ble_eq_true rfl⟩ (wr := (mX mr rf st ln 0 pl hs vs dg xx ++ qX cI (rf 0) (T 0 0) (T 0 1) (T 0 2) (T 0 3) (T 0 4) (T 0 5) (T 1) (T 2) (T 3) (T 4) (T 5) (T 6) (T 7) (T 8))) (pm_cnt (fun _ => by simp only [List.countP_append, List.countP_nil, fT] <;> omega)) (fun _ => by simp only [List.map_append, List.map_nil, fX_m, bX_m, sX_m, pX_m, iaX_m, r5X_m, r6X_m, fT_m, hX_m, tX_m, xX_m, sgX_m, zaX_m, fsB_a, qX_m, mX_m]) (rest := [.ref (rf 0)]) rfl rfl (Nat.le_of_ble_eq_true rfl) dX9_liking_27 (ws2 := (fun _ : Unit => (mX mr rf st ln 0 pl hs vs dg xx ++ qX cI (rf 0) (T 0 0) (T 0 1) (T 0 2) (T 0 3) (T 0 4) (T 0 5) (T 1) (T 2) (T 3) (T 4) (T 5) (T 6) (T 7) (T 8)))) (fun _ => (pm_cnt (fun _ => by simp only [List.countP_append, List.countP_nil, fT] <;> omega))) (fun _ Hp locs hP hD hS => ?_)
      refine ia_n (q0 := 1) (t0 := 0) hx hb hK hP rfl rfl (by omega) (by decide) dX9_liking_30 ?_
      rw [qR_7 (by omega) (by omega)]
      refine lv_goto (tgt := 39) hx hb dX9_liking_31 (by decide) ?_
      exact ct_i () hx hb hr hlocks hP hS rfl dX9_liking_39
set_option maxHeartbeats 4000000 in
set_option maxRecDepth 100000 in
theorem f1_X9_liking (l : Launch) (D : va_G) (cI cZ cF cL : ClassId) (mr : Nat) (rf : Nat → Nat) (st ln th pl hs vs : Nat) (dg : Int32) (xx : Int64) (T : Nat → Nat → Nat) (x y : Int32) (hT : FI T) (hbad : ¬ (0 ≤ x ∧ x < nI (T 0 0))) : CT l D (tysX cI cZ cF cL) yX9_liking (wA yX9_liking cX9_liking 3 (some .int)) (rmF 2 43) [.ref mr, .int x, .int y] (mX mr rf st ln th pl hs vs dg xx ++ qX cI (rf 0) (T 0 0) (T 0 1) (T 0 2) (T 0 3) (T 0 4) (T 0 5) (T 1) (T 2) (T 3) (T 4) (T 5) (T 6) (T 7) (T 8)) (some (.int (nI 0))) (fun _ : Unit => (mX mr rf st ln 1 pl hs vs dg xx ++ qX cI (rf 0) (T 0 0) (T 0 1) (T 0 2) (T 0 3) (T 0 4) (T 0 5) (T 1) (T 2) (T 3) (T 4) (T 5) (T 6) (T 7) (T 8))) := by
  refine ct_in (cc := cX9_liking) (maxL := 3) (ret := (some .int)) (own := RX9) (lv := [(0, .ref mr), (1, .int x), (2, .int y)]) (by decide +kernel) rfl rfl (Nat.le_of_ble_eq_true rfl) rfl ?_
  intro p e s m args below meth c A ls hx hb hr hml hts hown hlocks hK hA hP hD hS hl
  have hH := hT.1.1
  have hV := hT.1.2
  refine lv_aload_n hx hb dX9_liking_0 rfl (lv_at hl 0 rfl) ?_
  refine lv_iconst (v := (nI 0)) hx hb dX9_liking_1 (by decide) ?_
  refine pf_n (C := RX9) (T := TX9) (N := 15) (ci := 9) (q0 := 0) (ty := .int) (v := .int (nI 0)) (ws2 := (mX mr rf st ln 0 pl hs vs dg xx ++ qX cI (rf 0) (T 0 0) (T 0 1) (T 0 2) (T 0 3) (T 0 4) (T 0 5) (T 1) (T 2) (T 3) (T 4) (T 5) (T 6) (T 7) (T 8))) hx hb hts (iU inlX9) tyX9 tyX9_ok nmX9 hown hK hP hD hS rfl rfl 8 (by decide) (kU u_173) rfl rfl (tyX9_ok 8 (by decide)) rfl rfl (Nat.le_of_ble_eq_true rfl) dX9_liking_2 rfl (fun Hp locs hP hD hS => ?_)
  refine lv_aload_n hx hb dX9_liking_5 rfl (lv_at hl 0 rfl) ?_
  refine lv_iload_n hx hb dX9_liking_6 rfl (lv_at hl 1 rfl) ?_
  refine gp_V (ci := 9) (q0 := 0) (cq := (RX9, TX9, 15)) (c_X9_isHouse l D cI cZ cF cL mr rf st ln 0 pl hs vs dg xx (T 0 0) (T 0 1) (T 0 2) (T 0 3) (T 0 4) (T 0 5) (T 1) (T 2) (T 3) (T 4) (T 5) (T 6) (T 7) (T 8) x (by omega) (by omega)) (gUV u_397 u_398 u_399 u_5 u_400) rfl hdV_X9_isHouse ⟨Nat.le_of_ble_eq_true rfl, Nat.le_of_ble_eq_true rfl⟩ ⟨rfl, rfl⟩ hx hb hml hown hts hK hA hP hD hS hl.1 ⟨Nat.le_of_ble_eq_true rfl, Nat.le_of_ble_eq_true rfl⟩ rfl rfl rfl (wr := ([] : va_W)) (pm_cnt (fun _ => by simp only [List.countP_append, List.countP_nil, fT] <;> omega)) (fun _ => by simp only [List.map_append, List.map_nil, fX_m, bX_m, sX_m, pX_m, iaX_m, r5X_m, r6X_m, fT_m, hX_m, tX_m, xX_m, sgX_m, zaX_m, fsB_a, qX_m, mX_m]) (rest := []) rfl rfl (Nat.le_of_ble_eq_true rfl) dX9_liking_7 (ws2 := (fun _ : Unit => (mX mr rf st ln 0 pl hs vs dg xx ++ qX cI (rf 0) (T 0 0) (T 0 1) (T 0 2) (T 0 3) (T 0 4) (T 0 5) (T 1) (T 2) (T 3) (T 4) (T 5) (T 6) (T 7) (T 8)))) (fun _ => (pm_cnt (fun _ => by simp only [List.countP_append, List.countP_nil, fT] <;> omega))) (fun _ Hp locs hP hD hS => ?_)
  refine lv_if_eq (tgt := 34) hx hb dX9_liking_10 (by decide) (fun c_10 => ?_) (fun c_10 => ?_)
  · skip
    replace c_10 := cb_z c_10
    refine lv_aload_n hx hb dX9_liking_34 rfl (lv_at hl 0 rfl) ?_
    refine lv_iconst (v := (nI 1)) hx hb dX9_liking_35 (by decide) ?_
    refine gp_V (ci := 9) (q0 := 0) (cq := (RX9, TX9, 15)) (c_X9_fails l D cI cZ cF cL mr rf st ln 0 pl hs vs dg xx 1 ) (gUV u_175 u_176 u_177 u_5 u_178) rfl hdV_X9_fails ⟨Nat.le_of_ble_eq_true rfl, Nat.le_of_ble_eq_true rfl⟩ ⟨rfl, rfl⟩ hx hb hml hown hts hK hA hP hD hS hl.1 ⟨Nat.le_of_ble_eq_true rfl, Nat.le_of_ble_eq_true rfl⟩ rfl rfl rfl (wr := (qX cI (rf 0) (T 0 0) (T 0 1) (T 0 2) (T 0 3) (T 0 4) (T 0 5) (T 1) (T 2) (T 3) (T 4) (T 5) (T 6) (T 7) (T 8))) (pm_cnt (fun _ => by simp only [List.countP_append, List.countP_nil, fT] <;> omega)) (fun _ => by simp only [List.map_append, List.map_nil, fX_m, bX_m, sX_m, pX_m, iaX_m, r5X_m, r6X_m, fT_m, hX_m, tX_m, xX_m, sgX_m, zaX_m, fsB_a, qX_m, mX_m]) (rest := []) rfl rfl (Nat.le_of_ble_eq_true rfl) dX9_liking_36 (ws2 := (fun _ : Unit => (mX mr rf st ln 1 pl hs vs dg xx ++ qX cI (rf 0) (T 0 0) (T 0 1) (T 0 2) (T 0 3) (T 0 4) (T 0 5) (T 1) (T 2) (T 3) (T 4) (T 5) (T 6) (T 7) (T 8)))) (fun _ => (pm_cnt (fun _ => by simp only [List.countP_append, List.countP_nil, fT] <;> omega))) (fun _ Hp locs hP hD hS => ?_)
    exact ct_i () hx hb hr hlocks hP hS rfl dX9_liking_39
  · skip
    replace c_10 := cb_nz c_10
    (exact absurd c_10 hbad)
set_option maxHeartbeats 4000000 in
set_option maxRecDepth 100000 in
theorem f2_X9_liking (l : Launch) (D : va_G) (cI cZ cF cL : ClassId) (mr : Nat) (rf : Nat → Nat) (st ln th pl hs vs : Nat) (dg : Int32) (xx : Int64) (T : Nat → Nat → Nat) (h : Nat) (x : Int32) (hT : FI T) (hh : h < T 0 0) (hbad : ¬ (0 ≤ x ∧ x < nI (T 0 1))) : CT l D (tysX cI cZ cF cL) yX9_liking (wA yX9_liking cX9_liking 3 (some .int)) (rmF 2 43) [.ref mr, .int (nI h), .int x] (mX mr rf st ln th pl hs vs dg xx ++ qX cI (rf 0) (T 0 0) (T 0 1) (T 0 2) (T 0 3) (T 0 4) (T 0 5) (T 1) (T 2) (T 3) (T 4) (T 5) (T 6) (T 7) (T 8)) (some (.int (nI 0))) (fun _ : Unit => (mX mr rf st ln 1 pl hs vs dg xx ++ qX cI (rf 0) (T 0 0) (T 0 1) (T 0 2) (T 0 3) (T 0 4) (T 0 5) (T 1) (T 2) (T 3) (T 4) (T 5) (T 6) (T 7) (T 8))) := by
  refine ct_in (cc := cX9_liking) (maxL := 3) (ret := (some .int)) (own := RX9) (lv := [(0, .ref mr), (1, .int (nI h)), (2, .int x)]) (by decide +kernel) rfl rfl (Nat.le_of_ble_eq_true rfl) rfl ?_
  intro p e s m args below meth c A ls hx hb hr hml hts hown hlocks hK hA hP hD hS hl
  have hH := hT.1.1
  have hV := hT.1.2
  refine lv_aload_n hx hb dX9_liking_0 rfl (lv_at hl 0 rfl) ?_
  refine lv_iconst (v := (nI 0)) hx hb dX9_liking_1 (by decide) ?_
  refine pf_n (C := RX9) (T := TX9) (N := 15) (ci := 9) (q0 := 0) (ty := .int) (v := .int (nI 0)) (ws2 := (mX mr rf st ln 0 pl hs vs dg xx ++ qX cI (rf 0) (T 0 0) (T 0 1) (T 0 2) (T 0 3) (T 0 4) (T 0 5) (T 1) (T 2) (T 3) (T 4) (T 5) (T 6) (T 7) (T 8))) hx hb hts (iU inlX9) tyX9 tyX9_ok nmX9 hown hK hP hD hS rfl rfl 8 (by decide) (kU u_173) rfl rfl (tyX9_ok 8 (by decide)) rfl rfl (Nat.le_of_ble_eq_true rfl) dX9_liking_2 rfl (fun Hp locs hP hD hS => ?_)
  refine lv_aload_n hx hb dX9_liking_5 rfl (lv_at hl 0 rfl) ?_
  refine lv_iload_n hx hb dX9_liking_6 rfl (lv_at hl 1 rfl) ?_
  refine gp_V (ci := 9) (q0 := 0) (cq := (RX9, TX9, 15)) (c_X9_isHouse l D cI cZ cF cL mr rf st ln 0 pl hs vs dg xx (T 0 0) (T 0 1) (T 0 2) (T 0 3) (T 0 4) (T 0 5) (T 1) (T 2) (T 3) (T 4) (T 5) (T 6) (T 7) (T 8) ((nI h)) (by omega) (by omega)) (gUV u_397 u_398 u_399 u_5 u_400) rfl hdV_X9_isHouse ⟨Nat.le_of_ble_eq_true rfl, Nat.le_of_ble_eq_true rfl⟩ ⟨rfl, rfl⟩ hx hb hml hown hts hK hA hP hD hS hl.1 ⟨Nat.le_of_ble_eq_true rfl, Nat.le_of_ble_eq_true rfl⟩ rfl rfl rfl (wr := ([] : va_W)) (pm_cnt (fun _ => by simp only [List.countP_append, List.countP_nil, fT] <;> omega)) (fun _ => by simp only [List.map_append, List.map_nil, fX_m, bX_m, sX_m, pX_m, iaX_m, r5X_m, r6X_m, fT_m, hX_m, tX_m, xX_m, sgX_m, zaX_m, fsB_a, qX_m, mX_m]) (rest := []) rfl rfl (Nat.le_of_ble_eq_true rfl) dX9_liking_7 (ws2 := (fun _ : Unit => (mX mr rf st ln 0 pl hs vs dg xx ++ qX cI (rf 0) (T 0 0) (T 0 1) (T 0 2) (T 0 3) (T 0 4) (T 0 5) (T 1) (T 2) (T 3) (T 4) (T 5) (T 6) (T 7) (T 8)))) (fun _ => (pm_cnt (fun _ => by simp only [List.countP_append, List.countP_nil, fT] <;> omega))) (fun _ Hp locs hP hD hS => ?_)
  refine lv_if_eq (tgt := 34) hx hb dX9_liking_10 (by decide) (fun c_10 => ?_) (fun c_10 => ?_)
  · skip
    replace c_10 := cb_z c_10
    (exact absurd (hhV hh hT.1.1) c_10)
  · skip
    replace c_10 := cb_nz c_10
    refine lv_aload_n hx hb dX9_liking_13 rfl (lv_at hl 0 rfl) ?_
    refine lv_iload_n hx hb dX9_liking_14 rfl (lv_at hl 2 rfl) ?_
    refine gp_V (ci := 9) (q0 := 0) (cq := (RX9, TX9, 15)) (c_X9_isVegetable l D cI cZ cF cL mr rf st ln 0 pl hs vs dg xx (T 0 0) (T 0 1) (T 0 2) (T 0 3) (T 0 4) (T 0 5) (T 1) (T 2) (T 3) (T 4) (T 5) (T 6) (T 7) (T 8) x (by omega) (by omega)) (gUV u_450 u_451 u_452 u_5 u_453) rfl hdV_X9_isVegetable ⟨Nat.le_of_ble_eq_true rfl, Nat.le_of_ble_eq_true rfl⟩ ⟨rfl, rfl⟩ hx hb hml hown hts hK hA hP hD hS hl.1 ⟨Nat.le_of_ble_eq_true rfl, Nat.le_of_ble_eq_true rfl⟩ rfl rfl rfl (wr := ([] : va_W)) (pm_cnt (fun _ => by simp only [List.countP_append, List.countP_nil, fT] <;> omega)) (fun _ => by simp only [List.map_append, List.map_nil, fX_m, bX_m, sX_m, pX_m, iaX_m, r5X_m, r6X_m, fT_m, hX_m, tX_m, xX_m, sgX_m, zaX_m, fsB_a, qX_m, mX_m]) (rest := []) rfl rfl (Nat.le_of_ble_eq_true rfl) dX9_liking_15 (ws2 := (fun _ : Unit => (mX mr rf st ln 0 pl hs vs dg xx ++ qX cI (rf 0) (T 0 0) (T 0 1) (T 0 2) (T 0 3) (T 0 4) (T 0 5) (T 1) (T 2) (T 3) (T 4) (T 5) (T 6) (T 7) (T 8)))) (fun _ => (pm_cnt (fun _ => by simp only [List.countP_append, List.countP_nil, fT] <;> omega))) (fun _ Hp locs hP hD hS => ?_)
    refine lv_if_eq (tgt := 34) hx hb dX9_liking_18 (by decide) (fun c_18 => ?_) (fun c_18 => ?_)
    · skip
      replace c_18 := cb_z c_18
      refine lv_aload_n hx hb dX9_liking_34 rfl (lv_at hl 0 rfl) ?_
      refine lv_iconst (v := (nI 1)) hx hb dX9_liking_35 (by decide) ?_
      refine gp_V (ci := 9) (q0 := 0) (cq := (RX9, TX9, 15)) (c_X9_fails l D cI cZ cF cL mr rf st ln 0 pl hs vs dg xx 1 ) (gUV u_175 u_176 u_177 u_5 u_178) rfl hdV_X9_fails ⟨Nat.le_of_ble_eq_true rfl, Nat.le_of_ble_eq_true rfl⟩ ⟨rfl, rfl⟩ hx hb hml hown hts hK hA hP hD hS hl.1 ⟨Nat.le_of_ble_eq_true rfl, Nat.le_of_ble_eq_true rfl⟩ rfl rfl rfl (wr := (qX cI (rf 0) (T 0 0) (T 0 1) (T 0 2) (T 0 3) (T 0 4) (T 0 5) (T 1) (T 2) (T 3) (T 4) (T 5) (T 6) (T 7) (T 8))) (pm_cnt (fun _ => by simp only [List.countP_append, List.countP_nil, fT] <;> omega)) (fun _ => by simp only [List.map_append, List.map_nil, fX_m, bX_m, sX_m, pX_m, iaX_m, r5X_m, r6X_m, fT_m, hX_m, tX_m, xX_m, sgX_m, zaX_m, fsB_a, qX_m, mX_m]) (rest := []) rfl rfl (Nat.le_of_ble_eq_true rfl) dX9_liking_36 (ws2 := (fun _ : Unit => (mX mr rf st ln 1 pl hs vs dg xx ++ qX cI (rf 0) (T 0 0) (T 0 1) (T 0 2) (T 0 3) (T 0 4) (T 0 5) (T 1) (T 2) (T 3) (T 4) (T 5) (T 6) (T 7) (T 8)))) (fun _ => (pm_cnt (fun _ => by simp only [List.countP_append, List.countP_nil, fT] <;> omega))) (fun _ Hp locs hP hD hS => ?_)
      exact ct_i () hx hb hr hlocks hP hS rfl dX9_liking_39
    · skip
      replace c_18 := cb_nz c_18
      (exact absurd c_18 hbad)
