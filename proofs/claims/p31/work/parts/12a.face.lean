/-- the system's own object, its save slots, what is saved -/
def xX (x : Nat) (tt a c : Nat → Nat) (r3 rs rz : Nat) (b : Nat → Nat) (b0 s0 r5 r6 : Nat) : va_W := [(x, .inr (8, [.ref (tt 0), .ref (a 0), .ref (c 0), .ref r3, .ref rs, .ref rz, .ref (b 0), .ref b0, .ref s0, .ref r5, .ref r6]))]
def sgX (cF : ClassId) (rs : Nat) (pz : Nat → Nat → Nat) (n : Nat) : va_W := [(rs, .inl (cF, n, .inr (.inr (.inr (.inr (fun i => some (pz i 0)))))))]
def zaX (cZ : ClassId) (a n : Nat) (f : Nat → Nat) : va_W := [(a, .inl (cZ, n, .inl (nF f)))]
theorem tX_m (cI : ClassId) (a : Nat → Nat) (X : Nat → Nat) (L p : Nat) : (tX cI a X L p).map Prod.fst = [a 0, a 1] := rfl
theorem xX_m (x : Nat) (tt a c : Nat → Nat) (r3 rs rz : Nat) (b : Nat → Nat) (b0 s0 r5 r6 : Nat) : (xX x tt a c r3 rs rz b b0 s0 r5 r6).map Prod.fst = [x] := rfl
theorem sgX_m (cF : ClassId) (rs : Nat) (pz : Nat → Nat → Nat) (n : Nat) : (sgX cF rs pz n).map Prod.fst = [rs] := rfl
theorem zaX_m (cZ : ClassId) (a n : Nat) (f : Nat → Nat) : (zaX cZ a n f).map Prod.fst = [a] := rfl
def fsA (pa : Nat → Nat → Nat) : Nat → List Nat
  | 0 => []
  | n + 1 => fsA pa n ++ [pa n 0, pa n 1, pa n 2, pa n 3, pa n 4, pa n 5, pa n 6, pa n 7, pa n 8]
theorem fsB_a (cI : ClassId) (pa : Nat → Nat → Nat) (Ts : Nat → Nat → Nat → Nat) : ∀ n, (fsB cI pa Ts n).map Prod.fst = fsA pa n
  | 0 => rfl
  | n + 1 => by rw [fsB, fsA, List.map_append, fsB_a cI pa Ts n, fT_m]
section
variable {p : Program} {l : Launch} {e : Env} {R : Room} {s : State} {m : MethodId} {args : Array Value} {below : List Frame} {meth : Method} {c : Code} {H : Heap} {locs : List Loc} {cells slots pc : Nat} {Q : State → Prop} {D : va_G} {tys : List (ClassId × FieldType)} {A : Nat → Prop} {H0 : Heap} {cc : ByteArray} {ls : Array Slot} {ws : va_W} {rest : List Value}
theorem za_n {a q0 t0 n i : Nat} {cA : ClassId} {f : Nat → Nat} (hx : p.tables.exec = Jvm.exec) (hb : c.code = cc) (hK : KK D tys s) (hP : va_P D vwCl ws H) (ha : ws[q0]? = some (a, .inl (cA, n, .inl (nF f)))) (ht : tys[t0]? = some (cA, .boolean)) (hin : i < n) (hn : n < 2 ^ 31) (hdg : decode cc pc = .ok (.baload, 1))
    (kk : W p l e R s m args below meth c H locs cells slots Q (F0 m (pc + 1) ls (.int (nI (f i)) :: rest))) : W p l e R s m args below meth c H locs cells slots Q (F0 m pc ls (.int (nI i) :: .ref a :: rest)) := by
  refine va_zald hx hb hK.1 hP q0 t0 ha ht (vp_in_nI hin hn) hdg ?_
  rw [nI_clamp (Nat.lt_trans hin hn)]
  exact kk
theorem za_nar {x : Nat} (h : x ≤ 1) : vp_nar .boolean (nI x) = nI x := by
  rcases Nat.le_one_iff_eq_zero_or_eq_one.mp h with rfl | rfl <;> decide +kernel
theorem zs_n {a q0 t0 n i : Nat} {cA : ClassId} {f : Nat → Nat} {x : Nat} {ws2 : va_W} (hx : p.tables.exec = Jvm.exec) (hb : c.code = cc) (hK : KK D tys s) (hP : va_P D vwCl ws H) (hD : va_D A ws) (hS : va_S A H0 H locs) (ha : ws[q0]? = some (a, .inl (cA, n, .inl (nF f)))) (ht : tys[t0]? = some (cA, .boolean)) (hin : i < n) (hn : n < 2 ^ 31) (h01 : x ≤ 1) (hdg : decode cc pc = .ok (.bastore, 1)) (h2 : ws.set q0 (a, .inl (cA, n, .inl (nF (va_up f i x)))) = ws2)
    (kk : ∀ (H1 : Heap) (locs1 : List Loc), va_P D vwCl ws2 H1 → va_D A ws2 → va_S A H0 H1 locs1 → W p l e R s m args below meth c H1 locs1 cells slots Q (F0 m (pc + 1) ls rest)) : W p l e R s m args below meth c H locs cells slots Q (F0 m pc ls (.int (nI x) :: .int (nI i) :: .ref a :: rest)) := by
  refine va_zast hx hb hK.1 hP hD hS q0 t0 ha ht (vp_in_nI hin hn) hdg (fun H1 locs1 hP hD hS => ?_)
  rw [nI_clamp (Nat.lt_trans hin hn), za_nar h01, nF_up, h2] at hP hD
  exact kk H1 locs1 hP hD hS
end
/-- what the calls tell of a farm -/
def hapAT (T : Nat → Nat → Nat) : Nat := hapA (T 7) (T 8) (T 0 1) (T 0 0)
def boxT (T : Nat → Nat → Nat) : Nat := boxN (T 2) (T 4) (T 0 0)
def abV (T : Nat → Nat → Nat) (w : Nat) : Nat := if w = 0 then T 0 0 else if w = 1 then T 0 1 else if w = 2 then T 0 2 else if w = 3 then kilA (T 8) (T 0 1) (T 0 0) else if w = 4 then T 0 3 else if w = 5 then T 0 4 else if w = 6 then sumN (T 6) (T 0 1) else if w = 7 then sumN (T 2) (T 0 0) else if w = 8 then T 0 5 else boxT T
def hoV (T : Nat → Nat → Nat) (h w : Nat) : Nat := if w = 0 then T 1 h else if w = 1 then T 2 h else if w = 2 then T 3 h else if w = 3 then T 4 h else if w = 4 then kilH (T 8) (T 0 1) h else if w = 5 then hap (T 7) (T 8) (T 0 1) h else if getsB (T 2) (T 4) h then 1 else 0
def offK (k : Int32 × Int32) (x : Nat) (y : Int32) : Int32 × Int32 := (if (k.1 = (-9) ∨ k.2 < y) then nI x else k.1, if (k.1 = (-9) ∨ k.2 < y) then y else k.2)
def fonF (T : Nat → Nat → Nat) (v : Nat) (kw : Int32) : Nat → Int32 × Int32
  | 0 => (-9, kw)
  | i + 1 => offK (fonF T v kw i) i (nI (T 7 (i * 5 + v)))
def bskF (T : Nat → Nat → Nat) (kw : Int32) : Nat → Int32 × Int32
  | 0 => (-9, kw)
  | i + 1 => if getsB (T 2) (T 4) i then offK (bskF T kw i) i (nI (hapAT (packT (skT T i 1)))) else bskF T kw i
def bmoF (T : Nat → Nat → Nat) (kw : Int32) : Nat → Int32 × Int32
  | 0 => (-9, kw)
  | i + 1 => if T 5 i < 40 then offK (bmoF T kw i) i (nI (hapAT (packT (hvT T i (T 5 i + 1))))) else bmoF T kw i
def veV (T : Nat → Nat → Nat) (v : Nat) (kw : Int32) (w : Nat) : Int32 := if w = 0 then nI (T 5 v) else if w = 1 then nI (kilV (T 8) (T 0 0) v) else if w = 2 then nI (T 6 v) else (fonF T v kw (T 0 0)).1
/-- the house at a place of the order -/
def ordF (T : Nat → Nat → Nat) (p : Nat) : Nat → Nat → Int32
  | 0, _ => -9
  | k + 1, i => if plcN (T 7) (T 8) (T 0 1) (T 0 0) i = p then nI i else ordF T p k (i + 1)
theorem ordF_s {T : Nat → Nat → Nat} {p i : Nat} (h : i < T 0 0) (hk : ¬ plcN (T 7) (T 8) (T 0 1) (T 0 0) i = p) : ordF T p (T 0 0 - i) i = ordF T p (T 0 0 - (i + 1)) (i + 1) := by
  have e : T 0 0 - i = (T 0 0 - (i + 1)) + 1 := by omega
  rw [e, ordF, if_neg hk]
theorem ordF_e {T : Nat → Nat → Nat} {p i : Nat} (h : i < T 0 0) (hk : plcN (T 7) (T 8) (T 0 1) (T 0 0) i = p) : ordF T p (T 0 0 - i) i = nI i := by
  have e : T 0 0 - i = (T 0 0 - (i + 1)) + 1 := by omega
  rw [e, ordF, if_pos hk]
theorem hhV {h : Nat} {n : Nat} (hh : h < n) (hn : n ≤ 6) : 0 ≤ nI h ∧ nI h < nI n := (hhI (by omega) (by omega)).mpr hh
set_option maxRecDepth 20000 in
theorem u_21 : Cond.fieldLink RX8 19 "HarvestBoxes" "now" "LHarvestBoxes$Farm;" ∈ wsL_law := List.mem_of_getElem? (i := 16) (by decide +kernel)
set_option maxRecDepth 20000 in
theorem u_383 : Cond.methodLink RX8 280 yX1_hasHouse ∈ wsL_law := List.mem_of_getElem? (i := 378) (by decide +kernel)
set_option maxHeartbeats 4000000 in
set_option maxRecDepth 100000 in
theorem c_X8_needHouse (l : Launch) (D : va_G) (cI cZ cF cL : ClassId) (rx : Nat) (tt a tr : Nat → Nat) (r3 rs rz : Nat) (b : Nat → Nat) (b0 s0 r5 r6 : Nat) (T : Nat → Nat → Nat) (h : Nat) (hT : FI T) (hh : h < T 0 0) : CT l D (tysX cI cZ cF cL) yX8_needHouse (wA yX8_needHouse cX8_needHouse 2 none) (rmF 1 21) [.ref rx, .int (nI h)] (xX rx tt a tr r3 rs rz b b0 s0 r5 r6 ++ fX cI a (T 0 0) (T 0 1) (T 0 2) (T 0 3) (T 0 4) (T 0 5) (T 1) (T 2) (T 3) (T 4) (T 5) (T 6) (T 7) (T 8)) (none : Option Value) (fun _ : Unit => (xX rx tt a tr r3 rs rz b b0 s0 r5 r6 ++ fX cI a (T 0 0) (T 0 1) (T 0 2) (T 0 3) (T 0 4) (T 0 5) (T 1) (T 2) (T 3) (T 4) (T 5) (T 6) (T 7) (T 8))) := by
  refine ct_in (cc := cX8_needHouse) (maxL := 2) (ret := none) (own := RX8) (lv := [(0, .ref rx), (1, .int (nI h))]) (by decide +kernel) rfl rfl (Nat.le_of_ble_eq_true rfl) rfl ?_
  intro p e s m args below meth c A ls hx hb hr hml hts hown hlocks hK hA hP hD hS hl
  refine lv_aload_n hx hb dX8_needHouse_0 rfl (lv_at hl 0 rfl) ?_
  refine gf_n (C := RX8) (T := TX8) (N := 11) (ci := 8) (q0 := 0) (v := .ref (a 0)) hx hb hts (iU inlX8) hown hK hP rfl rfl 1 (by decide) (kU u_21) rfl rfl dX8_needHouse_1 ?_
  refine lv_iload_n hx hb dX8_needHouse_4 rfl (lv_at hl 1 rfl) ?_
  refine gp_V (ci := 1) (q0 := 0) (cq := (RX1, TX1, 14)) (c_X1_hasHouse l D cI cZ cF cL a (T 0 0) (T 0 1) (T 0 2) (T 0 3) (T 0 4) (T 0 5) (T 1) (T 2) (T 3) (T 4) (T 5) (T 6) (T 7) (T 8) ((nI h)) hT.1.1) (gUV u_383 u_384 u_385 u_20 u_386) rfl hdV_X1_hasHouse ⟨Nat.le_of_ble_eq_true rfl, Nat.le_of_ble_eq_true rfl⟩ ⟨rfl, rfl⟩ hx hb hml hown hts hK hA hP hD hS hl.1 ⟨Nat.le_of_ble_eq_true rfl, Nat.le_of_ble_eq_true rfl⟩ rfl rfl rfl (wr := (xX rx tt a tr r3 rs rz b b0 s0 r5 r6)) (pm_cnt (fun _ => by simp only [List.countP_append, List.countP_nil, fT] <;> omega)) (fun _ => by simp only [List.map_append, List.map_nil, fX_m, bX_m, sX_m, pX_m, iaX_m, r5X_m, r6X_m, fT_m, hX_m, tX_m, xX_m, sgX_m, zaX_m, fsB_a]) (rest := []) rfl rfl (Nat.le_of_ble_eq_true rfl) dX8_needHouse_5 (ws2 := (fun _ : Unit => (xX rx tt a tr r3 rs rz b b0 s0 r5 r6 ++ fX cI a (T 0 0) (T 0 1) (T 0 2) (T 0 3) (T 0 4) (T 0 5) (T 1) (T 2) (T 3) (T 4) (T 5) (T 6) (T 7) (T 8)))) (fun _ => (pm_cnt (fun _ => by simp only [List.countP_append, List.countP_nil, fT] <;> omega))) (fun _ Hp locs hP hD hS => ?_)
  refine lv_if_ne (tgt := 22) hx hb dX8_needHouse_8 (by decide) (fun c_8 => ?_) (fun c_8 => ?_)
  · skip
    replace c_8 := cb_nz c_8
    exact ct_v () hx hb hr hlocks hP hS dX8_needHouse_22
  · skip
    replace c_8 := cb_z c_8
    (exact absurd (hhV hh hT.1.1) c_8)
set_option maxRecDepth 20000 in
theorem u_418 : Cond.methodLink RX8 288 yX1_hasVegetable ∈ wsL_law := List.mem_of_getElem? (i := 352) (by decide +kernel)
set_option maxHeartbeats 4000000 in
set_option maxRecDepth 100000 in
theorem c_X8_needVegetable (l : Launch) (D : va_G) (cI cZ cF cL : ClassId) (rx : Nat) (tt a tr : Nat → Nat) (r3 rs rz : Nat) (b : Nat → Nat) (b0 s0 r5 r6 : Nat) (T : Nat → Nat → Nat) (h : Nat) (hT : FI T) (hh : h < T 0 1) : CT l D (tysX cI cZ cF cL) yX8_needVegetable (wA yX8_needVegetable cX8_needVegetable 2 none) (rmF 1 21) [.ref rx, .int (nI h)] (xX rx tt a tr r3 rs rz b b0 s0 r5 r6 ++ fX cI a (T 0 0) (T 0 1) (T 0 2) (T 0 3) (T 0 4) (T 0 5) (T 1) (T 2) (T 3) (T 4) (T 5) (T 6) (T 7) (T 8)) (none : Option Value) (fun _ : Unit => (xX rx tt a tr r3 rs rz b b0 s0 r5 r6 ++ fX cI a (T 0 0) (T 0 1) (T 0 2) (T 0 3) (T 0 4) (T 0 5) (T 1) (T 2) (T 3) (T 4) (T 5) (T 6) (T 7) (T 8))) := by
  refine ct_in (cc := cX8_needVegetable) (maxL := 2) (ret := none) (own := RX8) (lv := [(0, .ref rx), (1, .int (nI h))]) (by decide +kernel) rfl rfl (Nat.le_of_ble_eq_true rfl) rfl ?_
  intro p e s m args below meth c A ls hx hb hr hml hts hown hlocks hK hA hP hD hS hl
  refine lv_aload_n hx hb dX8_needVegetable_0 rfl (lv_at hl 0 rfl) ?_
  refine gf_n (C := RX8) (T := TX8) (N := 11) (ci := 8) (q0 := 0) (v := .ref (a 0)) hx hb hts (iU inlX8) hown hK hP rfl rfl 1 (by decide) (kU u_21) rfl rfl dX8_needVegetable_1 ?_
  refine lv_iload_n hx hb dX8_needVegetable_4 rfl (lv_at hl 1 rfl) ?_
  refine gp_V (ci := 1) (q0 := 0) (cq := (RX1, TX1, 14)) (c_X1_hasVegetable l D cI cZ cF cL a (T 0 0) (T 0 1) (T 0 2) (T 0 3) (T 0 4) (T 0 5) (T 1) (T 2) (T 3) (T 4) (T 5) (T 6) (T 7) (T 8) ((nI h)) hT.1.2) (gUV u_418 u_419 u_420 u_20 u_421) rfl hdV_X1_hasVegetable ⟨Nat.le_of_ble_eq_true rfl, Nat.le_of_ble_eq_true rfl⟩ ⟨rfl, rfl⟩ hx hb hml hown hts hK hA hP hD hS hl.1 ⟨Nat.le_of_ble_eq_true rfl, Nat.le_of_ble_eq_true rfl⟩ rfl rfl rfl (wr := (xX rx tt a tr r3 rs rz b b0 s0 r5 r6)) (pm_cnt (fun _ => by simp only [List.countP_append, List.countP_nil, fT] <;> omega)) (fun _ => by simp only [List.map_append, List.map_nil, fX_m, bX_m, sX_m, pX_m, iaX_m, r5X_m, r6X_m, fT_m, hX_m, tX_m, xX_m, sgX_m, zaX_m, fsB_a]) (rest := []) rfl rfl (Nat.le_of_ble_eq_true rfl) dX8_needVegetable_5 (ws2 := (fun _ : Unit => (xX rx tt a tr r3 rs rz b b0 s0 r5 r6 ++ fX cI a (T 0 0) (T 0 1) (T 0 2) (T 0 3) (T 0 4) (T 0 5) (T 1) (T 2) (T 3) (T 4) (T 5) (T 6) (T 7) (T 8)))) (fun _ => (pm_cnt (fun _ => by simp only [List.countP_append, List.countP_nil, fT] <;> omega))) (fun _ Hp locs hP hD hS => ?_)
  refine lv_if_ne (tgt := 22) hx hb dX8_needVegetable_8 (by decide) (fun c_8 => ?_) (fun c_8 => ?_)
  · skip
    replace c_8 := cb_nz c_8
    exact ct_v () hx hb hr hlocks hP hS dX8_needVegetable_22
  · skip
    replace c_8 := cb_z c_8
    (exact absurd (hhV hh (by have := hT.1.2; omega)) c_8)
set_option maxHeartbeats 4000000 in
set_option maxRecDepth 100000 in
theorem c_X8_needSlot (l : Launch) (D : va_G) (cI cZ cF cL : ClassId) (i : Nat) (hi : i < 2) : CT l D (tysX cI cZ cF cL) yX8_needSlot (wA yX8_needSlot cX8_needSlot 1 none) (rmF 0 0) [.int (nI i)] ([] : va_W) (none : Option Value) (fun _ : Unit => ([] : va_W)) := by
  refine ct_in (cc := cX8_needSlot) (maxL := 1) (ret := none) (own := RX8) (lv := [(0, .int (nI i))]) (by decide +kernel) rfl rfl (Nat.le_of_ble_eq_true rfl) rfl ?_
  intro p e s m args below meth c A ls hx hb hr hml hts hown hlocks hK hA hP hD hS hl
  refine lv_iload_n hx hb dX8_needSlot_0 rfl (lv_at hl 0 rfl) ?_
  refine lv_if_lt (tgt := 9) hx hb dX8_needSlot_1 (by decide) (fun c_1 => ?_) (fun c_1 => ?_)
  · skip
    replace c_1 := cn_lt (b := 0) (by omega) (by omega) c_1
    (exact absurd c_1 (by omega))
  · skip
    replace c_1 := cn_nlt (b := 0) (by omega) (by omega) c_1
    refine lv_iload_n hx hb dX8_needSlot_4 rfl (lv_at hl 0 rfl) ?_
    refine lv_iconst (v := (nI 2)) hx hb dX8_needSlot_5 (by decide) ?_
    refine lv_icmp_lt (tgt := 20) hx hb dX8_needSlot_6 (by decide) (fun c_6 => ?_) (fun c_6 => ?_)
    · skip
      replace c_6 := cn_lt (by omega) (by omega) c_6
      exact ct_v () hx hb hr hlocks hP hS dX8_needSlot_20
    · skip
      replace c_6 := cn_nlt (by omega) (by omega) c_6
      (exfalso; omega)
set_option maxHeartbeats 4000000 in
set_option maxRecDepth 100000 in
theorem c_X8_needWithin (l : Launch) (D : va_G) (cI cZ cF cL : ClassId) (x lo hi : Int32) (h1 : ¬ x < lo) (h2 : x ≤ hi) : CT l D (tysX cI cZ cF cL) yX8_needWithin (wA yX8_needWithin cX8_needWithin 3 none) (rmF 0 0) [.int x, .int lo, .int hi] ([] : va_W) (none : Option Value) (fun _ : Unit => ([] : va_W)) := by
  refine ct_in (cc := cX8_needWithin) (maxL := 3) (ret := none) (own := RX8) (lv := [(0, .int x), (1, .int lo), (2, .int hi)]) (by decide +kernel) rfl rfl (Nat.le_of_ble_eq_true rfl) rfl ?_
  intro p e s m args below meth c A ls hx hb hr hml hts hown hlocks hK hA hP hD hS hl
  refine lv_iload_n hx hb dX8_needWithin_0 rfl (lv_at hl 0 rfl) ?_
  refine lv_iload_n hx hb dX8_needWithin_1 rfl (lv_at hl 1 rfl) ?_
  refine lv_icmp_lt (tgt := 10) hx hb dX8_needWithin_2 (by decide) (fun c_2 => ?_) (fun c_2 => ?_)
  · skip
    (exact absurd c_2 h1)
  · skip
    refine lv_iload_n hx hb dX8_needWithin_5 rfl (lv_at hl 0 rfl) ?_
    refine lv_iload_n hx hb dX8_needWithin_6 rfl (lv_at hl 2 rfl) ?_
    refine lv_icmp_le (tgt := 21) hx hb dX8_needWithin_7 (by decide) (fun c_7 => ?_) (fun c_7 => ?_)
    · skip
      exact ct_v () hx hb hr hlocks hP hS dX8_needWithin_21
    · skip
      (exact absurd h2 c_7)

