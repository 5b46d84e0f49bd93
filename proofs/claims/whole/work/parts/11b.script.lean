theorem okC_1 {T : Nat → Nat → Nat} {d1 d2 d3 d4 : Nat} (e : d1 = 1) : okC T d1 d2 d3 d4 ↔ (d2 < T 0 1 ∧ 10 * d3 + d4 ≤ 40) := by
  constructor
  · rintro (⟨q, h⟩ | ⟨q, h⟩ | ⟨q, h⟩ | ⟨q, h⟩ | ⟨q, h⟩ | ⟨q, h⟩ | ⟨q, h⟩ | ⟨q, h⟩ | ⟨q, h⟩) <;> first | exact h | (exfalso; omega)
  · intro h; exact Or.inl (⟨e, h⟩)
theorem okC_2 {T : Nat → Nat → Nat} {d1 d2 d3 d4 : Nat} (e : d1 = 2) : okC T d1 d2 d3 d4 ↔ (d2 < T 0 0 ∧ d3 < T 0 1) := by
  constructor
  · rintro (⟨q, h⟩ | ⟨q, h⟩ | ⟨q, h⟩ | ⟨q, h⟩ | ⟨q, h⟩ | ⟨q, h⟩ | ⟨q, h⟩ | ⟨q, h⟩ | ⟨q, h⟩) <;> first | exact h | (exfalso; omega)
  · intro h; exact Or.inr (Or.inl (⟨e, h⟩))
theorem okC_3 {T : Nat → Nat → Nat} {d1 d2 d3 d4 : Nat} (e : d1 = 3) : okC T d1 d2 d3 d4 ↔ (d4 = 0 ∧ d2 < T 0 0 ∧ d3 ≤ 1) := by
  constructor
  · rintro (⟨q, h⟩ | ⟨q, h⟩ | ⟨q, h⟩ | ⟨q, h⟩ | ⟨q, h⟩ | ⟨q, h⟩ | ⟨q, h⟩ | ⟨q, h⟩ | ⟨q, h⟩) <;> first | exact h | (exfalso; omega)
  · intro h; exact Or.inr (Or.inr (Or.inl (⟨e, h⟩)))
theorem okC_4 {T : Nat → Nat → Nat} {d1 d2 d3 d4 : Nat} (e : d1 = 4) : okC T d1 d2 d3 d4 ↔ (d2 = 0 ∧ d3 = 0 ∧ d4 = 0) := by
  constructor
  · rintro (⟨q, h⟩ | ⟨q, h⟩ | ⟨q, h⟩ | ⟨q, h⟩ | ⟨q, h⟩ | ⟨q, h⟩ | ⟨q, h⟩ | ⟨q, h⟩ | ⟨q, h⟩) <;> first | exact h | (exfalso; omega)
  · intro h; exact Or.inr (Or.inr (Or.inr (Or.inl (⟨e, h⟩))))
theorem okC_5 {T : Nat → Nat → Nat} {d1 d2 d3 d4 : Nat} (e : d1 = 5) : okC T d1 d2 d3 d4 ↔ (d4 = 0 ∧ d2 < T 0 0 ∧ 1 ≤ d3 ∧ d3 ≤ T 2 d2) := by
  constructor
  · rintro (⟨q, h⟩ | ⟨q, h⟩ | ⟨q, h⟩ | ⟨q, h⟩ | ⟨q, h⟩ | ⟨q, h⟩ | ⟨q, h⟩ | ⟨q, h⟩ | ⟨q, h⟩) <;> first | exact h | (exfalso; omega)
  · intro h; exact Or.inr (Or.inr (Or.inr (Or.inr (Or.inl (⟨e, h⟩)))))
theorem okC_6 {T : Nat → Nat → Nat} {d1 d2 d3 d4 : Nat} (e : d1 = 6) : okC T d1 d2 d3 d4 ↔ (d2 < T 0 0 ∧ d3 < T 0 1 ∧ 1 ≤ d4 ∧ d4 ≤ T 8 (d2 * 5 + d3)) := by
  constructor
  · rintro (⟨q, h⟩ | ⟨q, h⟩ | ⟨q, h⟩ | ⟨q, h⟩ | ⟨q, h⟩ | ⟨q, h⟩ | ⟨q, h⟩ | ⟨q, h⟩ | ⟨q, h⟩) <;> first | exact h | (exfalso; omega)
  · intro h; exact Or.inr (Or.inr (Or.inr (Or.inr (Or.inr (Or.inl (⟨e, h⟩))))))
theorem okC_7 {T : Nat → Nat → Nat} {d1 d2 d3 d4 : Nat} (e : d1 = 7) : okC T d1 d2 d3 d4 ↔ (d2 < T 0 0 ∧ 10 * d3 + d4 ≤ hap (T 7) (T 8) (T 0 1) d2) := by
  constructor
  · rintro (⟨q, h⟩ | ⟨q, h⟩ | ⟨q, h⟩ | ⟨q, h⟩ | ⟨q, h⟩ | ⟨q, h⟩ | ⟨q, h⟩ | ⟨q, h⟩ | ⟨q, h⟩) <;> first | exact h | (exfalso; omega)
  · intro h; exact Or.inr (Or.inr (Or.inr (Or.inr (Or.inr (Or.inr (Or.inl (⟨e, h⟩)))))))
theorem okC_8 {T : Nat → Nat → Nat} {d1 d2 d3 d4 : Nat} (e : d1 = 8) : okC T d1 d2 d3 d4 ↔ (d2 < T 0 0 ∧ d3 < T 0 1 ∧ d4 ≤ T 8 (d2 * 5 + d3)) := by
  constructor
  · rintro (⟨q, h⟩ | ⟨q, h⟩ | ⟨q, h⟩ | ⟨q, h⟩ | ⟨q, h⟩ | ⟨q, h⟩ | ⟨q, h⟩ | ⟨q, h⟩ | ⟨q, h⟩) <;> first | exact h | (exfalso; omega)
  · intro h; exact Or.inr (Or.inr (Or.inr (Or.inr (Or.inr (Or.inr (Or.inr (Or.inl (⟨e, h⟩))))))))
theorem okC_9 {T : Nat → Nat → Nat} {d1 d2 d3 d4 : Nat} (e : d1 = 9) : okC T d1 d2 d3 d4 ↔ (d3 = 0 ∧ d4 = 0 ∧ d2 ≤ boxN (T 2) (T 4) (T 0 0)) := by
  constructor
  · rintro (⟨q, h⟩ | ⟨q, h⟩ | ⟨q, h⟩ | ⟨q, h⟩ | ⟨q, h⟩ | ⟨q, h⟩ | ⟨q, h⟩ | ⟨q, h⟩ | ⟨q, h⟩) <;> first | exact h | (exfalso; omega)
  · intro h; exact Or.inr (Or.inr (Or.inr (Or.inr (Or.inr (Or.inr (Or.inr (Or.inr (⟨e, h⟩))))))))
theorem okC_no {T : Nat → Nat → Nat} {d1 d2 d3 d4 : Nat} (h1 : ¬ d1 = 1) (h2 : ¬ d1 = 2) (h3 : ¬ d1 = 3) (h4 : ¬ d1 = 4) (h5 : ¬ d1 = 5) (h6 : ¬ d1 = 6) (h7 : ¬ d1 = 7) (h8 : ¬ d1 = 8) (h9 : ¬ d1 = 9) : ¬ okC T d1 d2 d3 d4 := by
  rintro (⟨q, h⟩ | ⟨q, h⟩ | ⟨q, h⟩ | ⟨q, h⟩ | ⟨q, h⟩ | ⟨q, h⟩ | ⟨q, h⟩ | ⟨q, h⟩ | ⟨q, h⟩) <;> exact absurd q (by assumption)
theorem zc {p q : Prop} [Decidable p] [Decidable q] (h : p ↔ q) : (if p then (1 : Int32) else 0) = if q then 1 else 0 := by
  by_cases hp : p
  · rw [if_pos hp, if_pos (h.mp hp)]
  · rw [if_neg hp, if_neg (fun z => hp (h.mpr z))]
theorem scF_go {T : Nat → Nat → Nat} {S n i : Nat} (h : i < n) (hk : okG (scT T S n i) (grC S n i)) : scF T S n (n - i) i = scF T S n (n - (i + 1)) (i + 1) := by
  have e : n - i = (n - (i + 1)) + 1 := by omega
  rw [e, scF, if_pos hk]
theorem scF_stop {T : Nat → Nat → Nat} {S n i : Nat} (h : i < n) (hk : ¬ okG (scT T S n i) (grC S n i)) : scF T S n (n - i) i = nI i := by
  have e : n - i = (n - (i + 1)) + 1 := by omega
  rw [e, scF, if_neg hk]
set_option maxRecDepth 20000 in
theorem u_826 : Cond.code yX5_setsHarvest cX5_setsHarvest 3 (some .boolean) ∈ wsL_law := List.mem_of_getElem? (i := 826) (by decide +kernel)
set_option maxRecDepth 20000 in
theorem u_823 : Cond.methodLink RX5 39 yX5_setsHarvest ∈ wsL_law := List.mem_of_getElem? (i := 823) (by decide +kernel)
set_option maxRecDepth 20000 in
theorem u_824 : Cond.instanceMethod yX5_setsHarvest ∈ wsL_law := List.mem_of_getElem? (i := 824) (by decide +kernel)
set_option maxRecDepth 20000 in
theorem u_825 : Cond.selects RX5 yX5_setsHarvest yX5_setsHarvest ∈ wsL_law := List.mem_of_getElem? (i := 825) (by decide +kernel)
set_option maxRecDepth 20000 in
theorem u_832 : Cond.code yX5_setsLiking cX5_setsLiking 4 (some .boolean) ∈ wsL_law := List.mem_of_getElem? (i := 832) (by decide +kernel)
set_option maxRecDepth 20000 in
theorem u_829 : Cond.methodLink RX5 43 yX5_setsLiking ∈ wsL_law := List.mem_of_getElem? (i := 829) (by decide +kernel)
set_option maxRecDepth 20000 in
theorem u_830 : Cond.instanceMethod yX5_setsLiking ∈ wsL_law := List.mem_of_getElem? (i := 830) (by decide +kernel)
set_option maxRecDepth 20000 in
theorem u_831 : Cond.selects RX5 yX5_setsLiking yX5_setsLiking ∈ wsL_law := List.mem_of_getElem? (i := 831) (by decide +kernel)
set_option maxRecDepth 20000 in
theorem u_842 : Cond.code yX5_setsSkip cX5_setsSkip 3 (some .boolean) ∈ wsL_law := List.mem_of_getElem? (i := 842) (by decide +kernel)
set_option maxRecDepth 20000 in
theorem u_839 : Cond.methodLink RX5 47 yX5_setsSkip ∈ wsL_law := List.mem_of_getElem? (i := 839) (by decide +kernel)
set_option maxRecDepth 20000 in
theorem u_840 : Cond.instanceMethod yX5_setsSkip ∈ wsL_law := List.mem_of_getElem? (i := 840) (by decide +kernel)
set_option maxRecDepth 20000 in
theorem u_841 : Cond.selects RX5 yX5_setsSkip yX5_setsSkip ∈ wsL_law := List.mem_of_getElem? (i := 841) (by decide +kernel)
set_option maxRecDepth 20000 in
theorem u_112 : Cond.fieldLink RX5 21 "HarvestBoxes$ScriptRunner" "packer" "LHarvestBoxes$Packer;" ∈ wsL_law := List.mem_of_getElem? (i := 112) (by decide +kernel)
set_option maxRecDepth 20000 in
theorem u_844 : Cond.methodLink RX5 50 yX4_packWeek ∈ wsL_law := List.mem_of_getElem? (i := 844) (by decide +kernel)
set_option maxRecDepth 20000 in
theorem u_848 : Cond.code yX5_returnsCrates cX5_returnsCrates 3 (some .boolean) ∈ wsL_law := List.mem_of_getElem? (i := 848) (by decide +kernel)
set_option maxRecDepth 20000 in
theorem u_845 : Cond.methodLink RX5 53 yX5_returnsCrates ∈ wsL_law := List.mem_of_getElem? (i := 845) (by decide +kernel)
set_option maxRecDepth 20000 in
theorem u_846 : Cond.instanceMethod yX5_returnsCrates ∈ wsL_law := List.mem_of_getElem? (i := 846) (by decide +kernel)
set_option maxRecDepth 20000 in
theorem u_847 : Cond.selects RX5 yX5_returnsCrates yX5_returnsCrates ∈ wsL_law := List.mem_of_getElem? (i := 847) (by decide +kernel)
set_option maxRecDepth 20000 in
theorem u_853 : Cond.code yX5_givesAway cX5_givesAway 4 (some .boolean) ∈ wsL_law := List.mem_of_getElem? (i := 853) (by decide +kernel)
set_option maxRecDepth 20000 in
theorem u_850 : Cond.methodLink RX5 56 yX5_givesAway ∈ wsL_law := List.mem_of_getElem? (i := 850) (by decide +kernel)
set_option maxRecDepth 20000 in
theorem u_851 : Cond.instanceMethod yX5_givesAway ∈ wsL_law := List.mem_of_getElem? (i := 851) (by decide +kernel)
set_option maxRecDepth 20000 in
theorem u_852 : Cond.selects RX5 yX5_givesAway yX5_givesAway ∈ wsL_law := List.mem_of_getElem? (i := 852) (by decide +kernel)
set_option maxRecDepth 20000 in
theorem u_855 : Cond.methodLink RX5 63 yX1_happinessOf ∈ wsL_law := List.mem_of_getElem? (i := 855) (by decide +kernel)
set_option maxRecDepth 20000 in
theorem u_341 : Cond.code yX1_housesWithBoxNext cX1_housesWithBoxNext 3 (some .int) ∈ wsL_law := List.mem_of_getElem? (i := 341) (by decide +kernel)
set_option maxRecDepth 20000 in
theorem u_856 : Cond.methodLink RX5 78 yX1_housesWithBoxNext ∈ wsL_law := List.mem_of_getElem? (i := 856) (by decide +kernel)
set_option maxRecDepth 20000 in
theorem u_339 : Cond.instanceMethod yX1_housesWithBoxNext ∈ wsL_law := List.mem_of_getElem? (i := 339) (by decide +kernel)
set_option maxRecDepth 20000 in
theorem u_340 : Cond.selects RX1 yX1_housesWithBoxNext yX1_housesWithBoxNext ∈ wsL_law := List.mem_of_getElem? (i := 340) (by decide +kernel)
theorem hdV_X5_setsHarvest : yX5_setsHarvest.cls = RX5 ∧ yX5_setsHarvest.cls ≠ "java/lang/invoke/MethodHandle" ∧ yX5_setsHarvest.cls ≠ "java/lang/invoke/VarHandle" ∧ (parseMethodDescriptor yX5_setsHarvest.desc).map (fun d => d.parameters.length) = some 2 := by decide +kernel
theorem hdV_X5_setsLiking : yX5_setsLiking.cls = RX5 ∧ yX5_setsLiking.cls ≠ "java/lang/invoke/MethodHandle" ∧ yX5_setsLiking.cls ≠ "java/lang/invoke/VarHandle" ∧ (parseMethodDescriptor yX5_setsLiking.desc).map (fun d => d.parameters.length) = some 3 := by decide +kernel
theorem hdV_X5_setsSkip : yX5_setsSkip.cls = RX5 ∧ yX5_setsSkip.cls ≠ "java/lang/invoke/MethodHandle" ∧ yX5_setsSkip.cls ≠ "java/lang/invoke/VarHandle" ∧ (parseMethodDescriptor yX5_setsSkip.desc).map (fun d => d.parameters.length) = some 2 := by decide +kernel
theorem hdV_X5_returnsCrates : yX5_returnsCrates.cls = RX5 ∧ yX5_returnsCrates.cls ≠ "java/lang/invoke/MethodHandle" ∧ yX5_returnsCrates.cls ≠ "java/lang/invoke/VarHandle" ∧ (parseMethodDescriptor yX5_returnsCrates.desc).map (fun d => d.parameters.length) = some 2 := by decide +kernel
theorem hdV_X5_givesAway : yX5_givesAway.cls = RX5 ∧ yX5_givesAway.cls ≠ "java/lang/invoke/MethodHandle" ∧ yX5_givesAway.cls ≠ "java/lang/invoke/VarHandle" ∧ (parseMethodDescriptor yX5_givesAway.desc).map (fun d => d.parameters.length) = some 3 := by decide +kernel
theorem hdV_X1_housesWithBoxNext : yX1_housesWithBoxNext.cls = RX1 ∧ yX1_housesWithBoxNext.cls ≠ "java/lang/invoke/MethodHandle" ∧ yX1_housesWithBoxNext.cls ≠ "java/lang/invoke/VarHandle" ∧ (parseMethodDescriptor yX1_housesWithBoxNext.desc).map (fun d => d.parameters.length) = some 0 := by decide +kernel
set_option maxHeartbeats 4000000 in
set_option maxRecDepth 100000 in
theorem c_X5_succeeds (l : Launch) (D : va_G) (cI cZ cF cL : ClassId) (r0 : Nat) (a : Nat → Nat) (T : Nat → Nat → Nat) (b : Nat → Nat) (g1 g2 : Nat → Nat) (kn kw : Int32) (x1 x2 x3 x4 x5 : Nat) (d1 d2 d3 d4 : Nat) (hT : FI T) (q1 : d1 < 10) (q2 : d2 < 10) (q3 : d3 < 10) (q4 : d4 < 10) : CT l D (tysX cI cZ cF cL) yX5_succeeds (wA yX5_succeeds cX5_succeeds 5 (some .boolean)) (rmF 4 99) [.ref r0, .int (nI d1), .int (nI d2), .int (nI d3), .int (nI d4)] (r5X r0 a b ++ fX cI a (T 0 0) (T 0 1) (T 0 2) (T 0 3) (T 0 4) (T 0 5) (T 1) (T 2) (T 3) (T 4) (T 5) (T 6) (T 7) (T 8) ++ pX cI b g1 g2 kn kw x1 x2 x3 x4 x5) (some (.int (if (okC T d1 d2 d3 d4) then 1 else 0))) (fun u : (Nat → Nat) × (Nat → Nat) × Int32 × Int32 × Nat × Nat × Nat × Nat × Nat => (r5X r0 a b ++ fX cI a ((doC T d1 d2 d3 d4) 0 0) ((doC T d1 d2 d3 d4) 0 1) ((doC T d1 d2 d3 d4) 0 2) ((doC T d1 d2 d3 d4) 0 3) ((doC T d1 d2 d3 d4) 0 4) ((doC T d1 d2 d3 d4) 0 5) ((doC T d1 d2 d3 d4) 1) ((doC T d1 d2 d3 d4) 2) ((doC T d1 d2 d3 d4) 3) ((doC T d1 d2 d3 d4) 4) ((doC T d1 d2 d3 d4) 5) ((doC T d1 d2 d3 d4) 6) ((doC T d1 d2 d3 d4) 7) ((doC T d1 d2 d3 d4) 8) ++ pX cI b u.1 u.2.1 u.2.2.1 u.2.2.2.1 u.2.2.2.2.1 u.2.2.2.2.2.1 u.2.2.2.2.2.2.1 u.2.2.2.2.2.2.2.1 u.2.2.2.2.2.2.2.2)) := by
  refine ct_in (cc := cX5_succeeds) (maxL := 5) (ret := (some .boolean)) (own := RX5) (lv := [(0, .ref r0), (1, .int (nI d1)), (2, .int (nI d2)), (3, .int (nI d3)), (4, .int (nI d4))]) (by decide +kernel) rfl rfl (Nat.le_of_ble_eq_true rfl) rfl ?_
  intro p e s m args below meth c A ls hx hb hr hml hts hown hlocks hK hA hP hD hS hl
  refine lv_iload_n hx hb dX5_succeeds_0 rfl (lv_at hl 1 rfl) ?_
  by_cases c_1_1 : (nI d1) = nI 1
  · skip
    refine lv_tableIn (off := 51) (tgt := 52) hx hb dX5_succeeds_1 (by rw [c_1_1]; decide +kernel) (by rw [c_1_1]; decide +kernel) (by rw [c_1_1]; decide +kernel) (by decide) ?_
    have e_1 : d1 = 1 := cn_eq (by omega) (by omega) c_1_1
    refine lv_aload_n hx hb dX5_succeeds_52 rfl (lv_at hl 0 rfl) ?_
    refine lv_iload_n hx hb dX5_succeeds_53 rfl (lv_at hl 2 rfl) ?_
    refine lv_bipush (v := (nI 10)) hx hb dX5_succeeds_54 (by decide) ?_
    refine lv_iload_n hx hb dX5_succeeds_56 rfl (lv_at hl 3 rfl) ?_
    refine lv_imul hx hb dX5_succeeds_57 ?_
    rw [pk_mul 10 d3]
    refine lv_iload hx hb dX5_succeeds_58 (lv_at hl 4 rfl) ?_
    refine lv_iadd hx hb dX5_succeeds_60 ?_
    rw [nI_add (10 * d3) d4]
    refine gp_V (ci := 5) (q0 := 0) (cq := (RX5, TX5, 2)) (c_X5_setsHarvest l D cI cZ cF cL r0 b a (T 0 0) (T 0 1) (T 0 2) (T 0 3) (T 0 4) (T 0 5) (T 1) (T 2) (T 3) (T 4) (T 5) (T 6) (T 7) (T 8) d2 ((10 * d3) + d4) hT.1.1 hT.1.2 (by omega) (by omega)) (gUV u_823 u_824 u_825 u_44 u_826) rfl hdV_X5_setsHarvest ⟨Nat.le_of_ble_eq_true rfl, Nat.le_of_ble_eq_true rfl⟩ ⟨rfl, rfl⟩ hx hb hml hown hts hK hA hP hD hS hl.1 ⟨Nat.le_of_ble_eq_true rfl, Nat.le_of_ble_eq_true rfl⟩ rfl rfl rfl (wr := (pX cI b g1 g2 kn kw x1 x2 x3 x4 x5)) (pm_cnt (fun _ => by simp only [List.countP_append, List.countP_nil, fT] <;> omega)) (fun _ => by simp only [List.map_append, List.map_nil, fX_m, bX_m, sX_m, pX_m, iaX_m, r5X_m, r6X_m, fT_m, hX_m]) (rest := []) rfl rfl (Nat.le_of_ble_eq_true rfl) dX5_succeeds_61 (ws2 := (fun _ : Unit => (r5X r0 a b ++ fX cI a (T 0 0) (T 0 1) (T 0 2) (T 0 3) (T 0 4) (T 0 5) (T 1) (T 2) (T 3) (T 4) (if (d2 < (T 0 1) ∧ ((10 * d3) + d4) ≤ 40) then va_up (T 5) d2 ((10 * d3) + d4) else (T 5)) (T 6) (T 7) (T 8) ++ pX cI b g1 g2 kn kw x1 x2 x3 x4 x5))) (fun _ => (pm_cnt (fun _ => by simp only [List.countP_append, List.countP_nil, fT] <;> omega))) (fun _ Hp locs hP hD hS => ?_)
    exact ct_z (g1, g2, kn, kw, x1, x2, x3, x4, x5) hx hb hr hlocks (by by_cases q : okC T d1 d2 d3 d4; rw [doC_1 q e_1]; have q2 := (okC_1 e_1).mp q; simp only [if_pos q2] at hP; exact hP; rw [doC_n q]; have q2 := fun z => q ((okC_1 e_1).mpr z); simp only [if_neg q2] at hP; exact hP) hS (zc (okC_1 e_1).symm) dX5_succeeds_64
  by_cases c_1_2 : (nI d1) = nI 2
  · skip
    refine lv_tableIn (off := 64) (tgt := 65) hx hb dX5_succeeds_1 (by rw [c_1_2]; decide +kernel) (by rw [c_1_2]; decide +kernel) (by rw [c_1_2]; decide +kernel) (by decide) ?_
    have e_2 : d1 = 2 := cn_eq (by omega) (by omega) c_1_2
    refine lv_aload_n hx hb dX5_succeeds_65 rfl (lv_at hl 0 rfl) ?_
    refine lv_iload_n hx hb dX5_succeeds_66 rfl (lv_at hl 2 rfl) ?_
    refine lv_iload_n hx hb dX5_succeeds_67 rfl (lv_at hl 3 rfl) ?_
    refine lv_iload hx hb dX5_succeeds_68 (lv_at hl 4 rfl) ?_
    refine gp_V (ci := 5) (q0 := 0) (cq := (RX5, TX5, 2)) (c_X5_setsLiking l D cI cZ cF cL r0 b a (T 0 0) (T 0 1) (T 0 2) (T 0 3) (T 0 4) (T 0 5) (T 1) (T 2) (T 3) (T 4) (T 5) (T 6) (T 7) (T 8) d2 d3 d4 hT.1.1 hT.1.2 (by omega) (by omega) (by omega)) (gUV u_829 u_830 u_831 u_44 u_832) rfl hdV_X5_setsLiking ⟨Nat.le_of_ble_eq_true rfl, Nat.le_of_ble_eq_true rfl⟩ ⟨rfl, rfl⟩ hx hb hml hown hts hK hA hP hD hS hl.1 ⟨Nat.le_of_ble_eq_true rfl, Nat.le_of_ble_eq_true rfl⟩ rfl rfl rfl (wr := (pX cI b g1 g2 kn kw x1 x2 x3 x4 x5)) (pm_cnt (fun _ => by simp only [List.countP_append, List.countP_nil, fT] <;> omega)) (fun _ => by simp only [List.map_append, List.map_nil, fX_m, bX_m, sX_m, pX_m, iaX_m, r5X_m, r6X_m, fT_m, hX_m]) (rest := []) rfl rfl (Nat.le_of_ble_eq_true rfl) dX5_succeeds_70 (ws2 := (fun _ : Unit => (r5X r0 a b ++ fX cI a (T 0 0) (T 0 1) (T 0 2) (T 0 3) (T 0 4) (T 0 5) (T 1) (T 2) (T 3) (T 4) (T 5) (T 6) (if (d2 < (T 0 0) ∧ d3 < (T 0 1)) then va_up (T 7) (d2 * 5 + d3) d4 else (T 7)) (T 8) ++ pX cI b g1 g2 kn kw x1 x2 x3 x4 x5))) (fun _ => (pm_cnt (fun _ => by simp only [List.countP_append, List.countP_nil, fT] <;> omega))) (fun _ Hp locs hP hD hS => ?_)
    exact ct_z (g1, g2, kn, kw, x1, x2, x3, x4, x5) hx hb hr hlocks (by by_cases q : okC T d1 d2 d3 d4; rw [doC_2 q e_2]; have q2 := (okC_2 e_2).mp q; simp only [if_pos q2] at hP; exact hP; rw [doC_n q]; have q2 := fun z => q ((okC_2 e_2).mpr z); simp only [if_neg q2] at hP; exact hP) hS (zc (okC_2 e_2).symm) dX5_succeeds_73
  by_cases c_1_3 : (nI d1) = nI 3
  · skip
    refine lv_tableIn (off := 73) (tgt := 74) hx hb dX5_succeeds_1 (by rw [c_1_3]; decide +kernel) (by rw [c_1_3]; decide +kernel) (by rw [c_1_3]; decide +kernel) (by decide) ?_
    have e_3 : d1 = 3 := cn_eq (by omega) (by omega) c_1_3
    refine lv_iload hx hb dX5_succeeds_74 (lv_at hl 4 rfl) ?_
    refine lv_if_ne (tgt := 92) hx hb dX5_succeeds_76 (by decide) (fun c_76 => ?_) (fun c_76 => ?_)
    · skip
      replace c_76 := cn_ne (b := 0) c_76
      refine lv_iconst (v := (nI 0)) hx hb dX5_succeeds_92 (by decide) ?_
      exact ct_z (g1, g2, kn, kw, x1, x2, x3, x4, x5) hx hb hr hlocks (by first | (rw [doC_n (fun z => (fun z => c_76 z.1) ((okC_3 e_3).mp z))]; exact hP) | (rw [doC_n (fun z => (fun z => c_85 z.2) ((okC_3 e_3).mp z))]; rw [if_neg c_85] at hP; exact hP) | (rw [doC_3 ((okC_3 e_3).mpr (⟨c_76, c_85⟩)) e_3]; rw [if_pos c_85] at hP; exact hP)) hS (by first | exact z_f (fun z => (fun z => c_76 z.1) ((okC_3 e_3).mp z)) | exact z_f (fun z => (fun z => c_85 z.2) ((okC_3 e_3).mp z)) | exact z_t ((okC_3 e_3).mpr (⟨c_76, c_85⟩))) dX5_succeeds_93
    · skip
      replace c_76 := cn_eq (b := 0) (by omega) (by omega) c_76
      refine lv_aload_n hx hb dX5_succeeds_79 rfl (lv_at hl 0 rfl) ?_
      refine lv_iload_n hx hb dX5_succeeds_80 rfl (lv_at hl 2 rfl) ?_
      refine lv_iload_n hx hb dX5_succeeds_81 rfl (lv_at hl 3 rfl) ?_
      refine gp_V (ci := 5) (q0 := 0) (cq := (RX5, TX5, 2)) (c_X5_setsSkip l D cI cZ cF cL r0 b a (T 0 0) (T 0 1) (T 0 2) (T 0 3) (T 0 4) (T 0 5) (T 1) (T 2) (T 3) (T 4) (T 5) (T 6) (T 7) (T 8) d2 d3 hT.1.1 hT.1.2 (by omega) (by omega)) (gUV u_839 u_840 u_841 u_44 u_842) rfl hdV_X5_setsSkip ⟨Nat.le_of_ble_eq_true rfl, Nat.le_of_ble_eq_true rfl⟩ ⟨rfl, rfl⟩ hx hb hml hown hts hK hA hP hD hS hl.1 ⟨Nat.le_of_ble_eq_true rfl, Nat.le_of_ble_eq_true rfl⟩ rfl rfl rfl (wr := (pX cI b g1 g2 kn kw x1 x2 x3 x4 x5)) (pm_cnt (fun _ => by simp only [List.countP_append, List.countP_nil, fT] <;> omega)) (fun _ => by simp only [List.map_append, List.map_nil, fX_m, bX_m, sX_m, pX_m, iaX_m, r5X_m, r6X_m, fT_m, hX_m]) (rest := []) rfl rfl (Nat.le_of_ble_eq_true rfl) dX5_succeeds_82 (ws2 := (fun _ : Unit => (r5X r0 a b ++ fX cI a (T 0 0) (T 0 1) (T 0 2) (T 0 3) (T 0 4) (T 0 5) (T 1) (T 2) (T 3) (if (d2 < (T 0 0) ∧ d3 ≤ 1) then va_up (T 4) d2 d3 else (T 4)) (T 5) (T 6) (T 7) (T 8) ++ pX cI b g1 g2 kn kw x1 x2 x3 x4 x5))) (fun _ => (pm_cnt (fun _ => by simp only [List.countP_append, List.countP_nil, fT] <;> omega))) (fun _ Hp locs hP hD hS => ?_)
      refine lv_if_eq (tgt := 92) hx hb dX5_succeeds_85 (by decide) (fun c_85 => ?_) (fun c_85 => ?_)
      · skip
        replace c_85 := cb_z c_85
        refine lv_iconst (v := (nI 0)) hx hb dX5_succeeds_92 (by decide) ?_
        exact ct_z (g1, g2, kn, kw, x1, x2, x3, x4, x5) hx hb hr hlocks (by first | (rw [doC_n (fun z => (fun z => c_76 z.1) ((okC_3 e_3).mp z))]; exact hP) | (rw [doC_n (fun z => (fun z => c_85 z.2) ((okC_3 e_3).mp z))]; rw [if_neg c_85] at hP; exact hP) | (rw [doC_3 ((okC_3 e_3).mpr (⟨c_76, c_85⟩)) e_3]; rw [if_pos c_85] at hP; exact hP)) hS (by first | exact z_f (fun z => (fun z => c_76 z.1) ((okC_3 e_3).mp z)) | exact z_f (fun z => (fun z => c_85 z.2) ((okC_3 e_3).mp z)) | exact z_t ((okC_3 e_3).mpr (⟨c_76, c_85⟩))) dX5_succeeds_93
      · skip
        replace c_85 := cb_nz c_85
        refine lv_iconst (v := (nI 1)) hx hb dX5_succeeds_88 (by decide) ?_
        refine lv_goto (tgt := 93) hx hb dX5_succeeds_89 (by decide) ?_
        exact ct_z (g1, g2, kn, kw, x1, x2, x3, x4, x5) hx hb hr hlocks (by first | (rw [doC_n (fun z => (fun z => c_76 z.1) ((okC_3 e_3).mp z))]; exact hP) | (rw [doC_n (fun z => (fun z => c_85 z.2) ((okC_3 e_3).mp z))]; rw [if_neg c_85] at hP; exact hP) | (rw [doC_3 ((okC_3 e_3).mpr (⟨c_76, c_85⟩)) e_3]; rw [if_pos c_85] at hP; exact hP)) hS (by first | exact z_f (fun z => (fun z => c_76 z.1) ((okC_3 e_3).mp z)) | exact z_f (fun z => (fun z => c_85 z.2) ((okC_3 e_3).mp z)) | exact z_t ((okC_3 e_3).mpr (⟨c_76, c_85⟩))) dX5_succeeds_93
  by_cases c_1_4 : (nI d1) = nI 4
  · skip
    refine lv_tableIn (off := 93) (tgt := 94) hx hb dX5_succeeds_1 (by rw [c_1_4]; decide +kernel) (by rw [c_1_4]; decide +kernel) (by rw [c_1_4]; decide +kernel) (by decide) ?_
    have e_4 : d1 = 4 := cn_eq (by omega) (by omega) c_1_4
    refine lv_iload_n hx hb dX5_succeeds_94 rfl (lv_at hl 2 rfl) ?_
    refine lv_if_ne (tgt := 107) hx hb dX5_succeeds_95 (by decide) (fun c_95 => ?_) (fun c_95 => ?_)
    · skip
      replace c_95 := cn_ne (b := 0) c_95
      refine lv_iconst (v := (nI 0)) hx hb dX5_succeeds_107 (by decide) ?_
      exact ct_z (g1, g2, kn, kw, x1, x2, x3, x4, x5) hx hb hr hlocks (by first | (rw [doC_n (fun z => (fun z => c_95 z.1) ((okC_4 e_4).mp z))]; exact hP) | (rw [doC_n (fun z => (fun z => c_99 z.2.1) ((okC_4 e_4).mp z))]; exact hP) | (rw [doC_n (fun z => (fun z => c_104 z.2.2) ((okC_4 e_4).mp z))]; exact hP) | (rw [doC_4 ((okC_4 e_4).mpr (absurd c_95 c_95)) e_4]; exact hP)) hS (by first | exact z_f (fun z => (fun z => c_95 z.1) ((okC_4 e_4).mp z)) | exact z_f (fun z => (fun z => c_99 z.2.1) ((okC_4 e_4).mp z)) | exact z_f (fun z => (fun z => c_104 z.2.2) ((okC_4 e_4).mp z)) | exact z_t ((okC_4 e_4).mpr (absurd c_95 c_95))) dX5_succeeds_108
    · skip
      replace c_95 := cn_eq (b := 0) (by omega) (by omega) c_95
      refine lv_iload_n hx hb dX5_succeeds_98 rfl (lv_at hl 3 rfl) ?_
      refine lv_if_ne (tgt := 107) hx hb dX5_succeeds_99 (by decide) (fun c_99 => ?_) (fun c_99 => ?_)
      · skip
        replace c_99 := cn_ne (b := 0) c_99
        refine lv_iconst (v := (nI 0)) hx hb dX5_succeeds_107 (by decide) ?_
        exact ct_z (g1, g2, kn, kw, x1, x2, x3, x4, x5) hx hb hr hlocks (by first | (rw [doC_n (fun z => (fun z => c_95 z.1) ((okC_4 e_4).mp z))]; exact hP) | (rw [doC_n (fun z => (fun z => c_99 z.2.1) ((okC_4 e_4).mp z))]; exact hP) | (rw [doC_n (fun z => (fun z => c_104 z.2.2) ((okC_4 e_4).mp z))]; exact hP) | (rw [doC_4 ((okC_4 e_4).mpr (absurd c_95 c_95)) e_4]; exact hP)) hS (by first | exact z_f (fun z => (fun z => c_95 z.1) ((okC_4 e_4).mp z)) | exact z_f (fun z => (fun z => c_99 z.2.1) ((okC_4 e_4).mp z)) | exact z_f (fun z => (fun z => c_104 z.2.2) ((okC_4 e_4).mp z)) | exact z_t ((okC_4 e_4).mpr (absurd c_95 c_95))) dX5_succeeds_108
      · skip
        replace c_99 := cn_eq (b := 0) (by omega) (by omega) c_99
        refine lv_iload hx hb dX5_succeeds_102 (lv_at hl 4 rfl) ?_
        refine lv_if_eq (tgt := 109) hx hb dX5_succeeds_104 (by decide) (fun c_104 => ?_) (fun c_104 => ?_)
        · skip
          replace c_104 := cn_eq (b := 0) (by omega) (by omega) c_104
          refine lv_aload_n hx hb dX5_succeeds_109 rfl (lv_at hl 0 rfl) ?_
          refine gf_n (C := RX5) (T := TX5) (N := 2) (ci := 5) (q0 := 0) (v := .ref (b 0)) hx hb hts (iU inlX5) hown hK hP rfl rfl 1 (by decide) (kU u_112) rfl rfl dX5_succeeds_110 ?_
          refine lv_aload_n hx hb dX5_succeeds_113 rfl (lv_at hl 0 rfl) ?_
          refine gf_n (C := RX5) (T := TX5) (N := 2) (ci := 5) (q0 := 0) (v := .ref (a 0)) hx hb hts (iU inlX5) hown hK hP rfl rfl 0 (by decide) (kU u_110) rfl rfl dX5_succeeds_114 ?_
          refine gp_V (ci := 4) (q0 := 0) (cq := (RX4, TX4, 4)) (c_X4_packWeekT l D cI cZ cF cL b g1 g2 kn kw x1 x2 x3 x4 x5 a T hT) (gUV u_844 u_573 u_574 u_32 u_575) rfl hdV_X4_packWeek ⟨Nat.le_of_ble_eq_true rfl, Nat.le_of_ble_eq_true rfl⟩ ⟨rfl, rfl⟩ hx hb hml hown hts hK hA hP hD hS hl.1 ⟨Nat.le_of_ble_eq_true rfl, Nat.le_of_ble_eq_true rfl⟩ rfl rfl rfl (wr := (r5X r0 a b)) (pm_cnt (fun _ => by simp only [List.countP_append, List.countP_nil, fT] <;> omega)) (fun _ => by simp only [List.map_append, List.map_nil, fX_m, bX_m, sX_m, pX_m, iaX_m, r5X_m, r6X_m, fT_m, hX_m]) (rest := []) rfl rfl (Nat.le_of_ble_eq_true rfl) dX5_succeeds_117 (ws2 := (fun u_117 : (Nat → Nat) × (Nat → Nat) × Int32 × Int32 × Nat × Nat × Nat × Nat × Nat => (r5X r0 a b ++ fX cI a ((packT T) 0 0) ((packT T) 0 1) ((packT T) 0 2) ((packT T) 0 3) ((packT T) 0 4) ((packT T) 0 5) ((packT T) 1) ((packT T) 2) ((packT T) 3) ((packT T) 4) ((packT T) 5) ((packT T) 6) ((packT T) 7) ((packT T) 8) ++ pX cI b u_117.1 u_117.2.1 u_117.2.2.1 u_117.2.2.2.1 u_117.2.2.2.2.1 u_117.2.2.2.2.2.1 u_117.2.2.2.2.2.2.1 u_117.2.2.2.2.2.2.2.1 u_117.2.2.2.2.2.2.2.2))) (fun _ => (pm_cnt (fun _ => by simp only [List.countP_append, List.countP_nil, fT] <;> omega))) (fun u_117 Hp locs hP hD hS => ?_)
          refine lv_iconst (v := (nI 1)) hx hb dX5_succeeds_120 (by decide) ?_
          exact ct_z (u_117.1, u_117.2.1, u_117.2.2.1, u_117.2.2.2.1, u_117.2.2.2.2.1, u_117.2.2.2.2.2.1, u_117.2.2.2.2.2.2.1, u_117.2.2.2.2.2.2.2.1, u_117.2.2.2.2.2.2.2.2) hx hb hr hlocks (by rw [doC_4 ((okC_4 e_4).mpr ⟨c_95, c_99, c_104⟩) e_4]; exact hP) hS (z_t ((okC_4 e_4).mpr ⟨c_95, c_99, c_104⟩)) dX5_succeeds_121
        · skip
          replace c_104 := cn_ne (b := 0) c_104
          refine lv_iconst (v := (nI 0)) hx hb dX5_succeeds_107 (by decide) ?_
          exact ct_z (g1, g2, kn, kw, x1, x2, x3, x4, x5) hx hb hr hlocks (by first | (rw [doC_n (fun z => (fun z => c_95 z.1) ((okC_4 e_4).mp z))]; exact hP) | (rw [doC_n (fun z => (fun z => c_99 z.2.1) ((okC_4 e_4).mp z))]; exact hP) | (rw [doC_n (fun z => (fun z => c_104 z.2.2) ((okC_4 e_4).mp z))]; exact hP) | (rw [doC_4 ((okC_4 e_4).mpr (absurd c_95 c_95)) e_4]; exact hP)) hS (by first | exact z_f (fun z => (fun z => c_95 z.1) ((okC_4 e_4).mp z)) | exact z_f (fun z => (fun z => c_99 z.2.1) ((okC_4 e_4).mp z)) | exact z_f (fun z => (fun z => c_104 z.2.2) ((okC_4 e_4).mp z)) | exact z_t ((okC_4 e_4).mpr (absurd c_95 c_95))) dX5_succeeds_108
  by_cases c_1_5 : (nI d1) = nI 5
  · skip
    refine lv_tableIn (off := 121) (tgt := 122) hx hb dX5_succeeds_1 (by rw [c_1_5]; decide +kernel) (by rw [c_1_5]; decide +kernel) (by rw [c_1_5]; decide +kernel) (by decide) ?_
    have e_5 : d1 = 5 := cn_eq (by omega) (by omega) c_1_5
    refine lv_iload hx hb dX5_succeeds_122 (lv_at hl 4 rfl) ?_
    refine lv_if_ne (tgt := 140) hx hb dX5_succeeds_124 (by decide) (fun c_124 => ?_) (fun c_124 => ?_)
    · skip
      replace c_124 := cn_ne (b := 0) c_124
      refine lv_iconst (v := (nI 0)) hx hb dX5_succeeds_140 (by decide) ?_
      exact ct_z (g1, g2, kn, kw, x1, x2, x3, x4, x5) hx hb hr hlocks (by first | (rw [doC_n (fun z => (fun z => c_124 z.1) ((okC_5 e_5).mp z))]; exact hP) | (rw [doC_n (fun z => (fun z => c_133 z.2) ((okC_5 e_5).mp z))]; rw [if_neg c_133] at hP; exact hP) | (rw [doC_5 ((okC_5 e_5).mpr (⟨c_124, c_133⟩)) e_5]; rw [if_pos c_133] at hP; exact hP)) hS (by first | exact z_f (fun z => (fun z => c_124 z.1) ((okC_5 e_5).mp z)) | exact z_f (fun z => (fun z => c_133 z.2) ((okC_5 e_5).mp z)) | exact z_t ((okC_5 e_5).mpr (⟨c_124, c_133⟩))) dX5_succeeds_141
    · skip
      replace c_124 := cn_eq (b := 0) (by omega) (by omega) c_124
      refine lv_aload_n hx hb dX5_succeeds_127 rfl (lv_at hl 0 rfl) ?_
      refine lv_iload_n hx hb dX5_succeeds_128 rfl (lv_at hl 2 rfl) ?_
      refine lv_iload_n hx hb dX5_succeeds_129 rfl (lv_at hl 3 rfl) ?_
      refine gp_V (ci := 5) (q0 := 0) (cq := (RX5, TX5, 2)) (c_X5_returnsCrates l D cI cZ cF cL r0 b a (T 0 0) (T 0 1) (T 0 2) (T 0 3) (T 0 4) (T 0 5) (T 1) (T 2) (T 3) (T 4) (T 5) (T 6) (T 7) (T 8) d2 d3 hT.1.1 hT.1.2 (by omega) (by omega) (fun h hh => (hT.2.1 h hh).2.1)) (gUV u_845 u_846 u_847 u_44 u_848) rfl hdV_X5_returnsCrates ⟨Nat.le_of_ble_eq_true rfl, Nat.le_of_ble_eq_true rfl⟩ ⟨rfl, rfl⟩ hx hb hml hown hts hK hA hP hD hS hl.1 ⟨Nat.le_of_ble_eq_true rfl, Nat.le_of_ble_eq_true rfl⟩ rfl rfl rfl (wr := (pX cI b g1 g2 kn kw x1 x2 x3 x4 x5)) (pm_cnt (fun _ => by simp only [List.countP_append, List.countP_nil, fT] <;> omega)) (fun _ => by simp only [List.map_append, List.map_nil, fX_m, bX_m, sX_m, pX_m, iaX_m, r5X_m, r6X_m, fT_m, hX_m]) (rest := []) rfl rfl (Nat.le_of_ble_eq_true rfl) dX5_succeeds_130 (ws2 := (fun _ : Unit => (r5X r0 a b ++ fX cI a (T 0 0) (T 0 1) (T 0 2) (T 0 3) (T 0 4) (T 0 5) (T 1) (if (d2 < (T 0 0) ∧ 1 ≤ d3 ∧ d3 ≤ (T 2) d2) then va_up (T 2) d2 ((T 2) d2 - d3) else (T 2)) (T 3) (T 4) (T 5) (T 6) (T 7) (T 8) ++ pX cI b g1 g2 kn kw x1 x2 x3 x4 x5))) (fun _ => (pm_cnt (fun _ => by simp only [List.countP_append, List.countP_nil, fT] <;> omega))) (fun _ Hp locs hP hD hS => ?_)
      refine lv_if_eq (tgt := 140) hx hb dX5_succeeds_133 (by decide) (fun c_133 => ?_) (fun c_133 => ?_)
      · skip
        replace c_133 := cb_z c_133
        refine lv_iconst (v := (nI 0)) hx hb dX5_succeeds_140 (by decide) ?_
        exact ct_z (g1, g2, kn, kw, x1, x2, x3, x4, x5) hx hb hr hlocks (by first | (rw [doC_n (fun z => (fun z => c_124 z.1) ((okC_5 e_5).mp z))]; exact hP) | (rw [doC_n (fun z => (fun z => c_133 z.2) ((okC_5 e_5).mp z))]; rw [if_neg c_133] at hP; exact hP) | (rw [doC_5 ((okC_5 e_5).mpr (⟨c_124, c_133⟩)) e_5]; rw [if_pos c_133] at hP; exact hP)) hS (by first | exact z_f (fun z => (fun z => c_124 z.1) ((okC_5 e_5).mp z)) | exact z_f (fun z => (fun z => c_133 z.2) ((okC_5 e_5).mp z)) | exact z_t ((okC_5 e_5).mpr (⟨c_124, c_133⟩))) dX5_succeeds_141
      · skip
        replace c_133 := cb_nz c_133
        refine lv_iconst (v := (nI 1)) hx hb dX5_succeeds_136 (by decide) ?_
        refine lv_goto (tgt := 141) hx hb dX5_succeeds_137 (by decide) ?_
        exact ct_z (g1, g2, kn, kw, x1, x2, x3, x4, x5) hx hb hr hlocks (by first | (rw [doC_n (fun z => (fun z => c_124 z.1) ((okC_5 e_5).mp z))]; exact hP) | (rw [doC_n (fun z => (fun z => c_133 z.2) ((okC_5 e_5).mp z))]; rw [if_neg c_133] at hP; exact hP) | (rw [doC_5 ((okC_5 e_5).mpr (⟨c_124, c_133⟩)) e_5]; rw [if_pos c_133] at hP; exact hP)) hS (by first | exact z_f (fun z => (fun z => c_124 z.1) ((okC_5 e_5).mp z)) | exact z_f (fun z => (fun z => c_133 z.2) ((okC_5 e_5).mp z)) | exact z_t ((okC_5 e_5).mpr (⟨c_124, c_133⟩))) dX5_succeeds_141
  by_cases c_1_6 : (nI d1) = nI 6
  · skip
    refine lv_tableIn (off := 141) (tgt := 142) hx hb dX5_succeeds_1 (by rw [c_1_6]; decide +kernel) (by rw [c_1_6]; decide +kernel) (by rw [c_1_6]; decide +kernel) (by decide) ?_
    have e_6 : d1 = 6 := cn_eq (by omega) (by omega) c_1_6
    refine lv_aload_n hx hb dX5_succeeds_142 rfl (lv_at hl 0 rfl) ?_
    refine lv_iload_n hx hb dX5_succeeds_143 rfl (lv_at hl 2 rfl) ?_
    refine lv_iload_n hx hb dX5_succeeds_144 rfl (lv_at hl 3 rfl) ?_
    refine lv_iload hx hb dX5_succeeds_145 (lv_at hl 4 rfl) ?_
    refine gp_V (ci := 5) (q0 := 0) (cq := (RX5, TX5, 2)) (c_X5_givesAway l D cI cZ cF cL r0 b a (T 0 0) (T 0 1) (T 0 2) (T 0 3) (T 0 4) (T 0 5) (T 1) (T 2) (T 3) (T 4) (T 5) (T 6) (T 7) (T 8) d2 d3 d4 hT.1.1 hT.1.2 (by omega) (by omega) (by omega) (fun k hk => FI_8 hT hk)) (gUV u_850 u_851 u_852 u_44 u_853) rfl hdV_X5_givesAway ⟨Nat.le_of_ble_eq_true rfl, Nat.le_of_ble_eq_true rfl⟩ ⟨rfl, rfl⟩ hx hb hml hown hts hK hA hP hD hS hl.1 ⟨Nat.le_of_ble_eq_true rfl, Nat.le_of_ble_eq_true rfl⟩ rfl rfl rfl (wr := (pX cI b g1 g2 kn kw x1 x2 x3 x4 x5)) (pm_cnt (fun _ => by simp only [List.countP_append, List.countP_nil, fT] <;> omega)) (fun _ => by simp only [List.map_append, List.map_nil, fX_m, bX_m, sX_m, pX_m, iaX_m, r5X_m, r6X_m, fT_m, hX_m]) (rest := []) rfl rfl (Nat.le_of_ble_eq_true rfl) dX5_succeeds_147 (ws2 := (fun _ : Unit => (r5X r0 a b ++ fX cI a (T 0 0) (T 0 1) (T 0 2) (T 0 3) (if (d2 < (T 0 0) ∧ d3 < (T 0 1) ∧ 1 ≤ d4 ∧ d4 ≤ (T 8) (d2 * 5 + d3)) then (T 0 4) + d4 else (T 0 4)) (T 0 5) (T 1) (T 2) (T 3) (T 4) (T 5) (T 6) (T 7) (if (d2 < (T 0 0) ∧ d3 < (T 0 1) ∧ 1 ≤ d4 ∧ d4 ≤ (T 8) (d2 * 5 + d3)) then va_up (T 8) (d2 * 5 + d3) ((T 8) (d2 * 5 + d3) - d4) else (T 8)) ++ pX cI b g1 g2 kn kw x1 x2 x3 x4 x5))) (fun _ => (pm_cnt (fun _ => by simp only [List.countP_append, List.countP_nil, fT] <;> omega))) (fun _ Hp locs hP hD hS => ?_)
    exact ct_z (g1, g2, kn, kw, x1, x2, x3, x4, x5) hx hb hr hlocks (by by_cases q : okC T d1 d2 d3 d4; rw [doC_6 q e_6]; have q2 := (okC_6 e_6).mp q; simp only [if_pos q2] at hP; exact hP; rw [doC_n q]; have q2 := fun z => q ((okC_6 e_6).mpr z); simp only [if_neg q2] at hP; exact hP) hS (zc (okC_6 e_6).symm) dX5_succeeds_150
  by_cases c_1_7 : (nI d1) = nI 7
  · skip
    refine lv_tableIn (off := 150) (tgt := 151) hx hb dX5_succeeds_1 (by rw [c_1_7]; decide +kernel) (by rw [c_1_7]; decide +kernel) (by rw [c_1_7]; decide +kernel) (by decide) ?_
    have e_7 : d1 = 7 := cn_eq (by omega) (by omega) c_1_7
    refine lv_aload_n hx hb dX5_succeeds_151 rfl (lv_at hl 0 rfl) ?_
    refine gf_n (C := RX5) (T := TX5) (N := 2) (ci := 5) (q0 := 0) (v := .ref (a 0)) hx hb hts (iU inlX5) hown hK hP rfl rfl 0 (by decide) (kU u_110) rfl rfl dX5_succeeds_152 ?_
    refine lv_iload_n hx hb dX5_succeeds_155 rfl (lv_at hl 2 rfl) ?_
    refine gp_V (ci := 1) (q0 := 0) (cq := (RX1, TX1, 14)) (c_X1_hasHouse l D cI cZ cF cL a (T 0 0) (T 0 1) (T 0 2) (T 0 3) (T 0 4) (T 0 5) (T 1) (T 2) (T 3) (T 4) (T 5) (T 6) (T 7) (T 8) ((nI d2)) hT.1.1) (gUV u_838 u_384 u_385 u_20 u_386) rfl hdV_X1_hasHouse ⟨Nat.le_of_ble_eq_true rfl, Nat.le_of_ble_eq_true rfl⟩ ⟨rfl, rfl⟩ hx hb hml hown hts hK hA hP hD hS hl.1 ⟨Nat.le_of_ble_eq_true rfl, Nat.le_of_ble_eq_true rfl⟩ rfl rfl rfl (wr := (r5X r0 a b ++ pX cI b g1 g2 kn kw x1 x2 x3 x4 x5)) (pm_cnt (fun _ => by simp only [List.countP_append, List.countP_nil, fT] <;> omega)) (fun _ => by simp only [List.map_append, List.map_nil, fX_m, bX_m, sX_m, pX_m, iaX_m, r5X_m, r6X_m, fT_m, hX_m]) (rest := []) rfl rfl (Nat.le_of_ble_eq_true rfl) dX5_succeeds_156 (ws2 := (fun _ : Unit => (r5X r0 a b ++ fX cI a (T 0 0) (T 0 1) (T 0 2) (T 0 3) (T 0 4) (T 0 5) (T 1) (T 2) (T 3) (T 4) (T 5) (T 6) (T 7) (T 8) ++ pX cI b g1 g2 kn kw x1 x2 x3 x4 x5))) (fun _ => (pm_cnt (fun _ => by simp only [List.countP_append, List.countP_nil, fT] <;> omega))) (fun _ Hp locs hP hD hS => ?_)
    refine lv_if_eq (tgt := 184) hx hb dX5_succeeds_159 (by decide) (fun c_159 => ?_) (fun c_159 => ?_)
    · skip
      replace c_159 := cb_z c_159
      replace c_159 : ¬ d2 < (T 0 0) := fun q => c_159 ((hhI (by omega) (by have := hT.1.1; omega)).mpr q)
      refine lv_iconst (v := (nI 0)) hx hb dX5_succeeds_184 (by decide) ?_
      exact ct_z (g1, g2, kn, kw, x1, x2, x3, x4, x5) hx hb hr hlocks (by first | (rw [doC_n (fun z => (fun z => c_159 z.1) ((okC_7 e_7).mp z))]; exact hP) | (rw [doC_n (fun z => (fun z => Nat.not_le.mpr c_177 z.2) ((okC_7 e_7).mp z))]; exact hP) | (rw [doC_7 (Or.inl (by omega))]; exact hP)) hS (by first | exact z_f (fun z => (fun z => c_159 z.1) ((okC_7 e_7).mp z)) | exact z_f (fun z => (fun z => Nat.not_le.mpr c_177 z.2) ((okC_7 e_7).mp z)) | exact z_t ((okC_7 e_7).mpr (⟨c_159, c_177⟩))) dX5_succeeds_185
    · skip
      replace c_159 := cb_nz c_159
      replace c_159 : d2 < (T 0 0) := (hhI (by omega) (by have := hT.1.1; omega)).mp c_159
      refine lv_aload_n hx hb dX5_succeeds_162 rfl (lv_at hl 0 rfl) ?_
      refine gf_n (C := RX5) (T := TX5) (N := 2) (ci := 5) (q0 := 0) (v := .ref (a 0)) hx hb hts (iU inlX5) hown hK hP rfl rfl 0 (by decide) (kU u_110) rfl rfl dX5_succeeds_163 ?_
      refine lv_iload_n hx hb dX5_succeeds_166 rfl (lv_at hl 2 rfl) ?_
      refine gp_V (ci := 1) (q0 := 0) (cq := (RX1, TX1, 14)) (c_X1_happinessOf l D cI cZ cF cL a (T 0 0) (T 0 1) (T 0 2) (T 0 3) (T 0 4) (T 0 5) (T 1) (T 2) (T 3) (T 4) (T 5) (T 6) (T 7) (T 8) d2 hT.1.2 (by have := hT.1.1; omega)) (gUV u_855 u_389 u_390 u_20 u_391) rfl hdV_X1_happinessOf ⟨Nat.le_of_ble_eq_true rfl, Nat.le_of_ble_eq_true rfl⟩ ⟨rfl, rfl⟩ hx hb hml hown hts hK hA hP hD hS hl.1 ⟨Nat.le_of_ble_eq_true rfl, Nat.le_of_ble_eq_true rfl⟩ rfl rfl rfl (wr := (r5X r0 a b ++ pX cI b g1 g2 kn kw x1 x2 x3 x4 x5)) (pm_cnt (fun _ => by simp only [List.countP_append, List.countP_nil, fT] <;> omega)) (fun _ => by simp only [List.map_append, List.map_nil, fX_m, bX_m, sX_m, pX_m, iaX_m, r5X_m, r6X_m, fT_m, hX_m]) (rest := []) rfl rfl (Nat.le_of_ble_eq_true rfl) dX5_succeeds_167 (ws2 := (fun _ : Unit => (r5X r0 a b ++ fX cI a (T 0 0) (T 0 1) (T 0 2) (T 0 3) (T 0 4) (T 0 5) (T 1) (T 2) (T 3) (T 4) (T 5) (T 6) (T 7) (T 8) ++ pX cI b g1 g2 kn kw x1 x2 x3 x4 x5))) (fun _ => (pm_cnt (fun _ => by simp only [List.countP_append, List.countP_nil, fT] <;> omega))) (fun _ Hp locs hP hD hS => ?_)
      refine lv_bipush (v := (nI 10)) hx hb dX5_succeeds_170 (by decide) ?_
      refine lv_iload_n hx hb dX5_succeeds_172 rfl (lv_at hl 3 rfl) ?_
      refine lv_imul hx hb dX5_succeeds_173 ?_
      rw [pk_mul 10 d3]
      refine lv_iload hx hb dX5_succeeds_174 (lv_at hl 4 rfl) ?_
      refine lv_iadd hx hb dX5_succeeds_176 ?_
      rw [nI_add (10 * d3) d4]
      refine lv_icmp_lt (tgt := 184) hx hb dX5_succeeds_177 (by decide) (fun c_177 => ?_) (fun c_177 => ?_)
      · skip
        replace c_177 := cn_lt (by have := FI_hap hT (j := d2) (by have := hT.1.1; omega); omega) (by omega) c_177
        refine lv_iconst (v := (nI 0)) hx hb dX5_succeeds_184 (by decide) ?_
        exact ct_z (g1, g2, kn, kw, x1, x2, x3, x4, x5) hx hb hr hlocks (by first | (rw [doC_n (fun z => (fun z => c_159 z.1) ((okC_7 e_7).mp z))]; exact hP) | (rw [doC_n (fun z => (fun z => Nat.not_le.mpr c_177 z.2) ((okC_7 e_7).mp z))]; exact hP) | (rw [doC_7 (Or.inl (by omega))]; exact hP)) hS (by first | exact z_f (fun z => (fun z => c_159 z.1) ((okC_7 e_7).mp z)) | exact z_f (fun z => (fun z => Nat.not_le.mpr c_177 z.2) ((okC_7 e_7).mp z)) | exact z_t ((okC_7 e_7).mpr (⟨c_159, c_177⟩))) dX5_succeeds_185
      · skip
        replace c_177 := cn_nlt (by have := FI_hap hT (j := d2) (by have := hT.1.1; omega); omega) (by omega) c_177
        refine lv_iconst (v := (nI 1)) hx hb dX5_succeeds_180 (by decide) ?_
        refine lv_goto (tgt := 185) hx hb dX5_succeeds_181 (by decide) ?_
        exact ct_z (g1, g2, kn, kw, x1, x2, x3, x4, x5) hx hb hr hlocks (by first | (rw [doC_n (fun z => (fun z => c_159 z.1) ((okC_7 e_7).mp z))]; exact hP) | (rw [doC_n (fun z => (fun z => Nat.not_le.mpr c_177 z.2) ((okC_7 e_7).mp z))]; exact hP) | (rw [doC_7 (Or.inl (by omega))]; exact hP)) hS (by first | exact z_f (fun z => (fun z => c_159 z.1) ((okC_7 e_7).mp z)) | exact z_f (fun z => (fun z => Nat.not_le.mpr c_177 z.2) ((okC_7 e_7).mp z)) | exact z_t ((okC_7 e_7).mpr (⟨c_159, c_177⟩))) dX5_succeeds_185
  by_cases c_1_8 : (nI d1) = nI 8
  · skip
    refine lv_tableIn (off := 185) (tgt := 186) hx hb dX5_succeeds_1 (by rw [c_1_8]; decide +kernel) (by rw [c_1_8]; decide +kernel) (by rw [c_1_8]; decide +kernel) (by decide) ?_
    have e_8 : d1 = 8 := cn_eq (by omega) (by omega) c_1_8
    refine lv_aload_n hx hb dX5_succeeds_186 rfl (lv_at hl 0 rfl) ?_
    refine lv_iload_n hx hb dX5_succeeds_187 rfl (lv_at hl 2 rfl) ?_
    refine lv_iload_n hx hb dX5_succeeds_188 rfl (lv_at hl 3 rfl) ?_
    refine gp_V (ci := 5) (q0 := 0) (cq := (RX5, TX5, 2)) (c_X5_hasCell l D cI cZ cF cL r0 b a (T 0 0) (T 0 1) (T 0 2) (T 0 3) (T 0 4) (T 0 5) (T 1) (T 2) (T 3) (T 4) (T 5) (T 6) (T 7) (T 8) d2 d3 hT.1.1 hT.1.2 (by omega) (by omega)) (gUV u_834 u_835 u_836 u_44 u_837) rfl hdV_X5_hasCell ⟨Nat.le_of_ble_eq_true rfl, Nat.le_of_ble_eq_true rfl⟩ ⟨rfl, rfl⟩ hx hb hml hown hts hK hA hP hD hS hl.1 ⟨Nat.le_of_ble_eq_true rfl, Nat.le_of_ble_eq_true rfl⟩ rfl rfl rfl (wr := (pX cI b g1 g2 kn kw x1 x2 x3 x4 x5)) (pm_cnt (fun _ => by simp only [List.countP_append, List.countP_nil, fT] <;> omega)) (fun _ => by simp only [List.map_append, List.map_nil, fX_m, bX_m, sX_m, pX_m, iaX_m, r5X_m, r6X_m, fT_m, hX_m]) (rest := []) rfl rfl (Nat.le_of_ble_eq_true rfl) dX5_succeeds_189 (ws2 := (fun _ : Unit => (r5X r0 a b ++ fX cI a (T 0 0) (T 0 1) (T 0 2) (T 0 3) (T 0 4) (T 0 5) (T 1) (T 2) (T 3) (T 4) (T 5) (T 6) (T 7) (T 8) ++ pX cI b g1 g2 kn kw x1 x2 x3 x4 x5))) (fun _ => (pm_cnt (fun _ => by simp only [List.countP_append, List.countP_nil, fT] <;> omega))) (fun _ Hp locs hP hD hS => ?_)
    refine lv_if_eq (tgt := 217) hx hb dX5_succeeds_192 (by decide) (fun c_192 => ?_) (fun c_192 => ?_)
    · skip
      replace c_192 := cb_z c_192
      refine lv_iconst (v := (nI 0)) hx hb dX5_succeeds_217 (by decide) ?_
      exact ct_z (g1, g2, kn, kw, x1, x2, x3, x4, x5) hx hb hr hlocks (by first | (rw [doC_n (fun z => (fun z => c_192 ⟨z.1, z.2.1⟩) ((okC_8 e_8).mp z))]; exact hP) | (rw [doC_n (fun z => (fun z => Nat.not_le.mpr c_210 z.2.2) ((okC_8 e_8).mp z))]; exact hP) | (rw [doC_7 (Or.inl (by omega))]; exact hP)) hS (by first | exact z_f (fun z => (fun z => c_192 ⟨z.1, z.2.1⟩) ((okC_8 e_8).mp z)) | exact z_f (fun z => (fun z => Nat.not_le.mpr c_210 z.2.2) ((okC_8 e_8).mp z)) | exact z_t ((okC_8 e_8).mpr (⟨c_192.1, c_192.2, c_210⟩))) dX5_succeeds_218
    · skip
      replace c_192 := cb_nz c_192
      refine lv_aload_n hx hb dX5_succeeds_195 rfl (lv_at hl 0 rfl) ?_
      refine gf_n (C := RX5) (T := TX5) (N := 2) (ci := 5) (q0 := 0) (v := .ref (a 0)) hx hb hts (iU inlX5) hown hK hP rfl rfl 0 (by decide) (kU u_110) rfl rfl dX5_succeeds_196 ?_
      refine gf_n (C := RX1) (T := TX1) (N := 14) (ci := 1) (q0 := 1) (v := .ref (a 8)) hx hb hts (iU inlX1) hown hK hP rfl rfl 13 (by decide) (kU u_822) rfl rfl dX5_succeeds_199 ?_
      refine lv_iload_n hx hb dX5_succeeds_202 rfl (lv_at hl 2 rfl) ?_
      refine lv_iload_n hx hb dX5_succeeds_203 rfl (lv_at hl 3 rfl) ?_
      refine gp_SN (ni := 7) (c_X8_cell l D cI cZ cF cL d2 d3 ) (gU u_245) rfl hdS_X8_cell ⟨Nat.le_of_ble_eq_true rfl, Nat.le_of_ble_eq_true rfl⟩ ⟨rfl, rfl⟩ rfl (hts _ (kU u_2)) (hts _ (kU u_244)) hx hb hml hown hts hK hA hP hD hS hl.1 ⟨Nat.le_of_ble_eq_true rfl, Nat.le_of_ble_eq_true rfl⟩ (wr := (r5X r0 a b ++ fX cI a (T 0 0) (T 0 1) (T 0 2) (T 0 3) (T 0 4) (T 0 5) (T 1) (T 2) (T 3) (T 4) (T 5) (T 6) (T 7) (T 8) ++ pX cI b g1 g2 kn kw x1 x2 x3 x4 x5)) (pm_cnt (fun _ => by simp only [List.countP_append, List.countP_nil, fT] <;> omega)) (fun _ => by simp only [List.map_append, List.map_nil, fX_m, bX_m, sX_m, pX_m, iaX_m, r5X_m, r6X_m, fT_m, hX_m]) (rest := [.ref (a 8)]) rfl rfl (Nat.le_of_ble_eq_true rfl) dX5_succeeds_204 (ws2 := (fun _ : Unit => (r5X r0 a b ++ fX cI a (T 0 0) (T 0 1) (T 0 2) (T 0 3) (T 0 4) (T 0 5) (T 1) (T 2) (T 3) (T 4) (T 5) (T 6) (T 7) (T 8) ++ pX cI b g1 g2 kn kw x1 x2 x3 x4 x5))) (fun _ => (pm_cnt (fun _ => by simp only [List.countP_append, List.countP_nil, fT] <;> omega))) (fun _ Hp locs hP hD hS => ?_)
      refine ia_n (q0 := 9) (t0 := 0) hx hb hK hP rfl rfl (by have := hT.1; omega) (by decide) dX5_succeeds_207 ?_
      refine lv_iload hx hb dX5_succeeds_208 (lv_at hl 4 rfl) ?_
      refine lv_icmp_lt (tgt := 217) hx hb dX5_succeeds_210 (by decide) (fun c_210 => ?_) (fun c_210 => ?_)
      · skip
        replace c_210 := cn_lt (by have := FI_8 hT (k := d2 * 5 + d3) (by have := hT.1; omega); omega) (by omega) c_210
        refine lv_iconst (v := (nI 0)) hx hb dX5_succeeds_217 (by decide) ?_
        exact ct_z (g1, g2, kn, kw, x1, x2, x3, x4, x5) hx hb hr hlocks (by first | (rw [doC_n (fun z => (fun z => c_192 ⟨z.1, z.2.1⟩) ((okC_8 e_8).mp z))]; exact hP) | (rw [doC_n (fun z => (fun z => Nat.not_le.mpr c_210 z.2.2) ((okC_8 e_8).mp z))]; exact hP) | (rw [doC_7 (Or.inl (by omega))]; exact hP)) hS (by first | exact z_f (fun z => (fun z => c_192 ⟨z.1, z.2.1⟩) ((okC_8 e_8).mp z)) | exact z_f (fun z => (fun z => Nat.not_le.mpr c_210 z.2.2) ((okC_8 e_8).mp z)) | exact z_t ((okC_8 e_8).mpr (⟨c_192.1, c_192.2, c_210⟩))) dX5_succeeds_218
      · skip
        replace c_210 := cn_nlt (by have := FI_8 hT (k := d2 * 5 + d3) (by have := hT.1; omega); omega) (by omega) c_210
        refine lv_iconst (v := (nI 1)) hx hb dX5_succeeds_213 (by decide) ?_
        refine lv_goto (tgt := 218) hx hb dX5_succeeds_214 (by decide) ?_
        exact ct_z (g1, g2, kn, kw, x1, x2, x3, x4, x5) hx hb hr hlocks (by first | (rw [doC_n (fun z => (fun z => c_192 ⟨z.1, z.2.1⟩) ((okC_8 e_8).mp z))]; exact hP) | (rw [doC_n (fun z => (fun z => Nat.not_le.mpr c_210 z.2.2) ((okC_8 e_8).mp z))]; exact hP) | (rw [doC_7 (Or.inl (by omega))]; exact hP)) hS (by first | exact z_f (fun z => (fun z => c_192 ⟨z.1, z.2.1⟩) ((okC_8 e_8).mp z)) | exact z_f (fun z => (fun z => Nat.not_le.mpr c_210 z.2.2) ((okC_8 e_8).mp z)) | exact z_t ((okC_8 e_8).mpr (⟨c_192.1, c_192.2, c_210⟩))) dX5_succeeds_218
  by_cases c_1_9 : (nI d1) = nI 9
  · skip
    refine lv_tableIn (off := 218) (tgt := 219) hx hb dX5_succeeds_1 (by rw [c_1_9]; decide +kernel) (by rw [c_1_9]; decide +kernel) (by rw [c_1_9]; decide +kernel) (by decide) ?_
    have e_9 : d1 = 9 := cn_eq (by omega) (by omega) c_1_9
    refine lv_iload_n hx hb dX5_succeeds_219 rfl (lv_at hl 3 rfl) ?_
    refine lv_if_ne (tgt := 243) hx hb dX5_succeeds_220 (by decide) (fun c_220 => ?_) (fun c_220 => ?_)
    · skip
      replace c_220 := cn_ne (b := 0) c_220
      refine lv_iconst (v := (nI 0)) hx hb dX5_succeeds_243 (by decide) ?_
      exact ct_z (g1, g2, kn, kw, x1, x2, x3, x4, x5) hx hb hr hlocks (by first | (rw [doC_n (fun z => (fun z => c_220 z.1) ((okC_9 e_9).mp z))]; exact hP) | (rw [doC_n (fun z => (fun z => c_225 z.2.1) ((okC_9 e_9).mp z))]; exact hP) | (rw [doC_n (fun z => (fun z => Nat.not_le.mpr c_236 z.2.2) ((okC_9 e_9).mp z))]; exact hP) | (rw [doC_7 (Or.inl (by omega))]; exact hP)) hS (by first | exact z_f (fun z => (fun z => c_220 z.1) ((okC_9 e_9).mp z)) | exact z_f (fun z => (fun z => c_225 z.2.1) ((okC_9 e_9).mp z)) | exact z_f (fun z => (fun z => Nat.not_le.mpr c_236 z.2.2) ((okC_9 e_9).mp z)) | exact z_t ((okC_9 e_9).mpr (⟨c_220, c_225, c_236⟩))) dX5_succeeds_244
    · skip
      replace c_220 := cn_eq (b := 0) (by omega) (by omega) c_220
      refine lv_iload hx hb dX5_succeeds_223 (lv_at hl 4 rfl) ?_
      refine lv_if_ne (tgt := 243) hx hb dX5_succeeds_225 (by decide) (fun c_225 => ?_) (fun c_225 => ?_)
      · skip
        replace c_225 := cn_ne (b := 0) c_225
        refine lv_iconst (v := (nI 0)) hx hb dX5_succeeds_243 (by decide) ?_
        exact ct_z (g1, g2, kn, kw, x1, x2, x3, x4, x5) hx hb hr hlocks (by first | (rw [doC_n (fun z => (fun z => c_220 z.1) ((okC_9 e_9).mp z))]; exact hP) | (rw [doC_n (fun z => (fun z => c_225 z.2.1) ((okC_9 e_9).mp z))]; exact hP) | (rw [doC_n (fun z => (fun z => Nat.not_le.mpr c_236 z.2.2) ((okC_9 e_9).mp z))]; exact hP) | (rw [doC_7 (Or.inl (by omega))]; exact hP)) hS (by first | exact z_f (fun z => (fun z => c_220 z.1) ((okC_9 e_9).mp z)) | exact z_f (fun z => (fun z => c_225 z.2.1) ((okC_9 e_9).mp z)) | exact z_f (fun z => (fun z => Nat.not_le.mpr c_236 z.2.2) ((okC_9 e_9).mp z)) | exact z_t ((okC_9 e_9).mpr (⟨c_220, c_225, c_236⟩))) dX5_succeeds_244
      · skip
        replace c_225 := cn_eq (b := 0) (by omega) (by omega) c_225
        refine lv_aload_n hx hb dX5_succeeds_228 rfl (lv_at hl 0 rfl) ?_
        refine gf_n (C := RX5) (T := TX5) (N := 2) (ci := 5) (q0 := 0) (v := .ref (a 0)) hx hb hts (iU inlX5) hown hK hP rfl rfl 0 (by decide) (kU u_110) rfl rfl dX5_succeeds_229 ?_
        refine gp_V (ci := 1) (q0 := 0) (cq := (RX1, TX1, 14)) (c_X1_housesWithBoxNext l D cI cZ cF cL a (T 0 0) (T 0 1) (T 0 2) (T 0 3) (T 0 4) (T 0 5) (T 1) (T 2) (T 3) (T 4) (T 5) (T 6) (T 7) (T 8) hT.1.1 (fun h hh => by have := (hT.2.1 h hh).2.1; omega) (fun h hh => by have := (hT.2.1 h hh).2.2.2.1; omega)) (gUV u_856 u_339 u_340 u_20 u_341) rfl hdV_X1_housesWithBoxNext ⟨Nat.le_of_ble_eq_true rfl, Nat.le_of_ble_eq_true rfl⟩ ⟨rfl, rfl⟩ hx hb hml hown hts hK hA hP hD hS hl.1 ⟨Nat.le_of_ble_eq_true rfl, Nat.le_of_ble_eq_true rfl⟩ rfl rfl rfl (wr := (r5X r0 a b ++ pX cI b g1 g2 kn kw x1 x2 x3 x4 x5)) (pm_cnt (fun _ => by simp only [List.countP_append, List.countP_nil, fT] <;> omega)) (fun _ => by simp only [List.map_append, List.map_nil, fX_m, bX_m, sX_m, pX_m, iaX_m, r5X_m, r6X_m, fT_m, hX_m]) (rest := []) rfl rfl (Nat.le_of_ble_eq_true rfl) dX5_succeeds_232 (ws2 := (fun _ : Unit => (r5X r0 a b ++ fX cI a (T 0 0) (T 0 1) (T 0 2) (T 0 3) (T 0 4) (T 0 5) (T 1) (T 2) (T 3) (T 4) (T 5) (T 6) (T 7) (T 8) ++ pX cI b g1 g2 kn kw x1 x2 x3 x4 x5))) (fun _ => (pm_cnt (fun _ => by simp only [List.countP_append, List.countP_nil, fT] <;> omega))) (fun _ Hp locs hP hD hS => ?_)
        refine lv_iload_n hx hb dX5_succeeds_235 rfl (lv_at hl 2 rfl) ?_
        refine lv_icmp_lt (tgt := 243) hx hb dX5_succeeds_236 (by decide) (fun c_236 => ?_) (fun c_236 => ?_)
        · skip
          replace c_236 := cn_lt (by have := FI_box T; have := hT.1.1; omega) (by omega) c_236
          refine lv_iconst (v := (nI 0)) hx hb dX5_succeeds_243 (by decide) ?_
          exact ct_z (g1, g2, kn, kw, x1, x2, x3, x4, x5) hx hb hr hlocks (by first | (rw [doC_n (fun z => (fun z => c_220 z.1) ((okC_9 e_9).mp z))]; exact hP) | (rw [doC_n (fun z => (fun z => c_225 z.2.1) ((okC_9 e_9).mp z))]; exact hP) | (rw [doC_n (fun z => (fun z => Nat.not_le.mpr c_236 z.2.2) ((okC_9 e_9).mp z))]; exact hP) | (rw [doC_7 (Or.inl (by omega))]; exact hP)) hS (by first | exact z_f (fun z => (fun z => c_220 z.1) ((okC_9 e_9).mp z)) | exact z_f (fun z => (fun z => c_225 z.2.1) ((okC_9 e_9).mp z)) | exact z_f (fun z => (fun z => Nat.not_le.mpr c_236 z.2.2) ((okC_9 e_9).mp z)) | exact z_t ((okC_9 e_9).mpr (⟨c_220, c_225, c_236⟩))) dX5_succeeds_244
        · skip
          replace c_236 := cn_nlt (by have := FI_box T; have := hT.1.1; omega) (by omega) c_236
          refine lv_iconst (v := (nI 1)) hx hb dX5_succeeds_239 (by decide) ?_
          refine lv_goto (tgt := 244) hx hb dX5_succeeds_240 (by decide) ?_
          exact ct_z (g1, g2, kn, kw, x1, x2, x3, x4, x5) hx hb hr hlocks (by first | (rw [doC_n (fun z => (fun z => c_220 z.1) ((okC_9 e_9).mp z))]; exact hP) | (rw [doC_n (fun z => (fun z => c_225 z.2.1) ((okC_9 e_9).mp z))]; exact hP) | (rw [doC_n (fun z => (fun z => Nat.not_le.mpr c_236 z.2.2) ((okC_9 e_9).mp z))]; exact hP) | (rw [doC_7 (Or.inl (by omega))]; exact hP)) hS (by first | exact z_f (fun z => (fun z => c_220 z.1) ((okC_9 e_9).mp z)) | exact z_f (fun z => (fun z => c_225 z.2.1) ((okC_9 e_9).mp z)) | exact z_f (fun z => (fun z => Nat.not_le.mpr c_236 z.2.2) ((okC_9 e_9).mp z)) | exact z_t ((okC_9 e_9).mpr (⟨c_220, c_225, c_236⟩))) dX5_succeeds_244
  refine lv_tableOut (tgt := 245) hx hb dX5_succeeds_1 (tb_out 1 9 (fun j hj => match j, hj with | 0, _ => c_1_1 | 1, _ => c_1_2 | 2, _ => c_1_3 | 3, _ => c_1_4 | 4, _ => c_1_5 | 5, _ => c_1_6 | 6, _ => c_1_7 | 7, _ => c_1_8 | 8, _ => c_1_9 | k + 9, hj => absurd hj (by omega)) (by decide) rfl rfl) (by decide) ?_
  refine lv_iconst (v := (nI 0)) hx hb dX5_succeeds_245 (by decide) ?_
  exact ct_z (g1, g2, kn, kw, x1, x2, x3, x4, x5) hx hb hr hlocks (by rw [doC_n (okC_no (cn_ne c_1_1) (cn_ne c_1_2) (cn_ne c_1_3) (cn_ne c_1_4) (cn_ne c_1_5) (cn_ne c_1_6) (cn_ne c_1_7) (cn_ne c_1_8) (cn_ne c_1_9))]; exact hP) hS (z_f (okC_no (cn_ne c_1_1) (cn_ne c_1_2) (cn_ne c_1_3) (cn_ne c_1_4) (cn_ne c_1_5) (cn_ne c_1_6) (cn_ne c_1_7) (cn_ne c_1_8) (cn_ne c_1_9))) dX5_succeeds_246
set_option maxRecDepth 20000 in
theorem u_816 : Cond.methodLink RX5 27 yX1_copyFrom ∈ wsL_law := List.mem_of_getElem? (i := 816) (by decide +kernel)
set_option maxRecDepth 20000 in
theorem u_810 : Cond.code yX5_withoutLast cX5_withoutLast 6 (some .long) ∈ wsL_law := List.mem_of_getElem? (i := 810) (by decide +kernel)
set_option maxRecDepth 20000 in
theorem u_817 : Cond.methodLink RX5 31 yX5_withoutLast ∈ wsL_law := List.mem_of_getElem? (i := 817) (by decide +kernel)
set_option maxRecDepth 20000 in
theorem u_809 : Cond.static yX5_withoutLast ∈ wsL_law := List.mem_of_getElem? (i := 809) (by decide +kernel)
set_option maxRecDepth 20000 in
theorem u_821 : Cond.code yX5_succeeds cX5_succeeds 5 (some .boolean) ∈ wsL_law := List.mem_of_getElem? (i := 821) (by decide +kernel)
set_option maxRecDepth 20000 in
theorem u_818 : Cond.methodLink RX5 35 yX5_succeeds ∈ wsL_law := List.mem_of_getElem? (i := 818) (by decide +kernel)
set_option maxRecDepth 20000 in
theorem u_819 : Cond.instanceMethod yX5_succeeds ∈ wsL_law := List.mem_of_getElem? (i := 819) (by decide +kernel)
set_option maxRecDepth 20000 in
theorem u_820 : Cond.selects RX5 yX5_succeeds yX5_succeeds ∈ wsL_law := List.mem_of_getElem? (i := 820) (by decide +kernel)
theorem hdS_X5_withoutLast : yX5_withoutLast.cls ≠ "java/lang/invoke/MethodHandle" ∧ yX5_withoutLast.cls ≠ "java/lang/invoke/VarHandle" ∧ (parseMethodDescriptor yX5_withoutLast.desc).map (fun d => d.parameters.length) = some 2 := by decide +kernel
theorem hdV_X5_succeeds : yX5_succeeds.cls = RX5 ∧ yX5_succeeds.cls ≠ "java/lang/invoke/MethodHandle" ∧ yX5_succeeds.cls ≠ "java/lang/invoke/VarHandle" ∧ (parseMethodDescriptor yX5_succeeds.desc).map (fun d => d.parameters.length) = some 4 := by decide +kernel
set_option maxHeartbeats 4000000 in
set_option maxRecDepth 100000 in
theorem c_X5_firstFailure (l : Launch) (D : va_G) (cI cZ cF cL : ClassId) (r0 : Nat) (a : Nat → Nat) (U : Nat → Nat → Nat) (b : Nat → Nat) (g1 g2 : Nat → Nat) (kn kw : Int32) (x1 x2 x3 x4 x5 : Nat) (d : Nat → Nat) (T : Nat → Nat → Nat) (n S : Nat) (hT : FI T) (hn : n < 2 ^ 20) (hS0 : S < 2 ^ 63) : CT l D (tysX cI cZ cF cL) yX5_firstFailure (wA yX5_firstFailure cX5_firstFailure 7 (some .int)) (rmF 5 123) [.ref r0, .ref (d 0), .int (nI n), .long (lN S)] (r5X r0 a b ++ fX cI a (U 0 0) (U 0 1) (U 0 2) (U 0 3) (U 0 4) (U 0 5) (U 1) (U 2) (U 3) (U 4) (U 5) (U 6) (U 7) (U 8) ++ pX cI b g1 g2 kn kw x1 x2 x3 x4 x5 ++ fX cI d (T 0 0) (T 0 1) (T 0 2) (T 0 3) (T 0 4) (T 0 5) (T 1) (T 2) (T 3) (T 4) (T 5) (T 6) (T 7) (T 8)) (some (.int (scF T S n n 0))) (fun u : (Nat → Nat → Nat) × (Nat → Nat) × (Nat → Nat) × Int32 × Int32 × Nat × Nat × Nat × Nat × Nat => (r5X r0 a b ++ fX cI a (u.1 0 0) (u.1 0 1) (u.1 0 2) (u.1 0 3) (u.1 0 4) (u.1 0 5) (u.1 1) (u.1 2) (u.1 3) (u.1 4) (u.1 5) (u.1 6) (u.1 7) (u.1 8) ++ pX cI b u.2.1 u.2.2.1 u.2.2.2.1 u.2.2.2.2.1 u.2.2.2.2.2.1 u.2.2.2.2.2.2.1 u.2.2.2.2.2.2.2.1 u.2.2.2.2.2.2.2.2.1 u.2.2.2.2.2.2.2.2.2 ++ fX cI d (T 0 0) (T 0 1) (T 0 2) (T 0 3) (T 0 4) (T 0 5) (T 1) (T 2) (T 3) (T 4) (T 5) (T 6) (T 7) (T 8))) := by
  refine ct_in (cc := cX5_firstFailure) (maxL := 7) (ret := (some .int)) (own := RX5) (lv := [(0, .ref r0), (1, .ref (d 0)), (2, .int (nI n)), (3, .long (lN S))]) (by decide +kernel) rfl rfl (Nat.le_of_ble_eq_true rfl) rfl ?_
  intro p e s m args below meth c A ls hx hb hr hml hts hown hlocks hK hA hP hD hS hl
  refine lv_aload_n hx hb dX5_firstFailure_0 rfl (lv_at hl 0 rfl) ?_
  refine gf_n (C := RX5) (T := TX5) (N := 2) (ci := 5) (q0 := 0) (v := .ref (a 0)) hx hb hts (iU inlX5) hown hK hP rfl rfl 0 (by decide) (kU u_110) rfl rfl dX5_firstFailure_1 ?_
  refine lv_aload_n hx hb dX5_firstFailure_4 rfl (lv_at hl 1 rfl) ?_
  refine gp_V (ci := 1) (q0 := 0) (cq := (RX1, TX1, 14)) (c_X1_copyFrom l D cI cZ cF cL a (U 0 0) (U 0 1) (U 0 2) (U 0 3) (U 0 4) (U 0 5) (U 1) (U 2) (U 3) (U 4) (U 5) (U 6) (U 7) (U 8) d (T 0 0) (T 0 1) (T 0 2) (T 0 3) (T 0 4) (T 0 5) (T 1) (T 2) (T 3) (T 4) (T 5) (T 6) (T 7) (T 8) ) (gUV u_816 u_293 u_294 u_20 u_295) rfl hdV_X1_copyFrom ⟨Nat.le_of_ble_eq_true rfl, Nat.le_of_ble_eq_true rfl⟩ ⟨rfl, rfl⟩ hx hb hml hown hts hK hA hP hD hS hl.1 ⟨Nat.le_of_ble_eq_true rfl, Nat.le_of_ble_eq_true rfl⟩ rfl rfl rfl (wr := (r5X r0 a b ++ pX cI b g1 g2 kn kw x1 x2 x3 x4 x5)) (pm_cnt (fun _ => by simp only [List.countP_append, List.countP_nil, fT] <;> omega)) (fun _ => by simp only [List.map_append, List.map_nil, fX_m, bX_m, sX_m, pX_m, iaX_m, r5X_m, r6X_m, fT_m, hX_m]) (rest := []) rfl rfl (Nat.le_of_ble_eq_true rfl) dX5_firstFailure_5 (ws2 := (fun _ : Unit => (r5X r0 a b ++ fX cI a (T 0 0) (T 0 1) (T 0 2) (T 0 3) (T 0 4) (T 0 5) (T 1) (T 2) (T 3) (T 4) (T 5) (T 6) (T 7) (T 8) ++ pX cI b g1 g2 kn kw x1 x2 x3 x4 x5 ++ fX cI d (T 0 0) (T 0 1) (T 0 2) (T 0 3) (T 0 4) (T 0 5) (T 1) (T 2) (T 3) (T 4) (T 5) (T 6) (T 7) (T 8)))) (fun _ => (pm_cnt (fun _ => by simp only [List.countP_append, List.countP_nil, fT] <;> omega))) (fun _ Hp locs hP hD hS => ?_)
  refine lv_iconst (v := (nI 0)) hx hb dX5_firstFailure_8 (by decide) ?_
  refine lv_istore (lv' := [(5, .int (nI 0)), (0, .ref r0), (1, .ref (d 0)), (2, .int (nI n)), (3, .long (lN S))]) hx hb dX5_firstFailure_9 hl (by decide) rfl (fun ls hl => ?_)
  have loop_11 : ∀ (dd : Nat) (i : Nat) (t : Nat → Nat → Nat) (q1 : Nat → Nat) (q2 : Nat → Nat) (k1 : Int32) (k2 : Int32) (z1 : Nat) (z2 : Nat) (z3 : Nat) (z4 : Nat) (z5 : Nat), (i ≤ n) → (t = scT T S n i) → (scF T S n n 0 = scF T S n (n - i) i) → (n - i) < dd → ∀ (Hp : Heap) (locs : List Loc), va_P D vwCl (r5X r0 a b ++ fX cI a (t 0 0) (t 0 1) (t 0 2) (t 0 3) (t 0 4) (t 0 5) (t 1) (t 2) (t 3) (t 4) (t 5) (t 6) (t 7) (t 8) ++ pX cI b q1 q2 k1 k2 z1 z2 z3 z4 z5 ++ fX cI d (T 0 0) (T 0 1) (T 0 2) (T 0 3) (T 0 4) (T 0 5) (T 1) (T 2) (T 3) (T 4) (T 5) (T 6) (T 7) (T 8)) Hp → va_D A (r5X r0 a b ++ fX cI a (t 0 0) (t 0 1) (t 0 2) (t 0 3) (t 0 4) (t 0 5) (t 1) (t 2) (t 3) (t 4) (t 5) (t 6) (t 7) (t 8) ++ pX cI b q1 q2 k1 k2 z1 z2 z3 z4 z5 ++ fX cI d (T 0 0) (T 0 1) (T 0 2) (T 0 3) (T 0 4) (T 0 5) (T 1) (T 2) (T 3) (T 4) (T 5) (T 6) (T 7) (T 8)) → va_S A s.heap Hp locs → ∀ ls : Array Slot, lv_has ls 7 [(5, .int (nI i)), (0, .ref r0), (1, .ref (d 0)), (2, .int (nI n)), (3, .long (lN S))] → W p l e (rmF 5 123) s m args below meth c Hp locs 0 0 (MQ below (CQ D (some (.int (scF T S n n 0))) (fun u : (Nat → Nat → Nat) × (Nat → Nat) × (Nat → Nat) × Int32 × Int32 × Nat × Nat × Nat × Nat × Nat => (r5X r0 a b ++ fX cI a (u.1 0 0) (u.1 0 1) (u.1 0 2) (u.1 0 3) (u.1 0 4) (u.1 0 5) (u.1 1) (u.1 2) (u.1 3) (u.1 4) (u.1 5) (u.1 6) (u.1 7) (u.1 8) ++ pX cI b u.2.1 u.2.2.1 u.2.2.2.1 u.2.2.2.2.1 u.2.2.2.2.2.1 u.2.2.2.2.2.2.1 u.2.2.2.2.2.2.2.1 u.2.2.2.2.2.2.2.2.1 u.2.2.2.2.2.2.2.2.2 ++ fX cI d (T 0 0) (T 0 1) (T 0 2) (T 0 3) (T 0 4) (T 0 5) (T 1) (T 2) (T 3) (T 4) (T 5) (T 6) (T 7) (T 8))) A) args s 0 0 A) (F0 m 11 ls []) := by
    intro dd
    induction dd with
    | zero => intro i t q1 q2 k1 k2 z1 z2 z3 z4 z5 hi eT eR hm; exact absurd hm (Nat.not_lt_zero _)
    | succ dd ih_11 =>
      intro i t q1 q2 k1 k2 z1 z2 z3 z4 z5 hi eT eR hm Hp locs hP hD hS ls hl
      refine lv_iload hx hb dX5_firstFailure_11 (lv_at hl 0 rfl) ?_
      refine lv_iload_n hx hb dX5_firstFailure_13 rfl (lv_at hl 3 rfl) ?_
      refine lv_icmp_ge (tgt := 77) hx hb dX5_firstFailure_14 (by decide) (fun c_14 => ?_) (fun c_14 => ?_)
      · skip
        replace c_14 := cn_le (by omega) (by omega) c_14
        refine lv_bipush (v := ((-9))) hx hb dX5_firstFailure_77 (by decide) ?_
        exact ct_i (t, q1, q2, k1, k2, z1, z2, z3, z4, z5) hx hb hr hlocks hP hS (by rw [eR, show n - i = 0 by omega]; rfl) dX5_firstFailure_79
      · skip
        replace c_14 := cn_nle (by omega) (by omega) c_14
        refine lv_lload_n hx hb dX5_firstFailure_17 rfl (lv_at hl 4 rfl) ?_
        refine lv_iload_n hx hb dX5_firstFailure_18 rfl (lv_at hl 3 rfl) ?_
        refine lv_iconst (v := (nI 1)) hx hb dX5_firstFailure_19 (by decide) ?_
        refine lv_isub hx hb dX5_firstFailure_20 ?_
        rw [pk_sub (a := n) (b := 1) (by omega)]
        refine lv_iload hx hb dX5_firstFailure_21 (lv_at hl 0 rfl) ?_
        refine lv_isub hx hb dX5_firstFailure_23 ?_
        rw [pk_sub (a := n - 1) (b := i) (by omega)]
        refine gp_S (c_X5_withoutLast l D cI cZ cF cL S ((n - 1) - i) (by omega) (by omega)) (gUS u_817 u_809 u_44 u_810) rfl hdS_X5_withoutLast ⟨Nat.le_of_ble_eq_true rfl, Nat.le_of_ble_eq_true rfl⟩ ⟨rfl, rfl⟩ hx hb hml hown hts hK hA hP hD hS hl.1 ⟨Nat.le_of_ble_eq_true rfl, Nat.le_of_ble_eq_true rfl⟩ (wr := (r5X r0 a b ++ fX cI a (t 0 0) (t 0 1) (t 0 2) (t 0 3) (t 0 4) (t 0 5) (t 1) (t 2) (t 3) (t 4) (t 5) (t 6) (t 7) (t 8) ++ pX cI b q1 q2 k1 k2 z1 z2 z3 z4 z5 ++ fX cI d (T 0 0) (T 0 1) (T 0 2) (T 0 3) (T 0 4) (T 0 5) (T 1) (T 2) (T 3) (T 4) (T 5) (T 6) (T 7) (T 8))) (pm_cnt (fun _ => by simp only [List.countP_append, List.countP_nil, fT] <;> omega)) (fun _ => by simp only [List.map_append, List.map_nil, fX_m, bX_m, sX_m, pX_m, iaX_m, r5X_m, r6X_m, fT_m, hX_m]) (rest := []) rfl rfl (Nat.le_of_ble_eq_true rfl) dX5_firstFailure_24 (ws2 := (fun _ : Unit => (r5X r0 a b ++ fX cI a (t 0 0) (t 0 1) (t 0 2) (t 0 3) (t 0 4) (t 0 5) (t 1) (t 2) (t 3) (t 4) (t 5) (t 6) (t 7) (t 8) ++ pX cI b q1 q2 k1 k2 z1 z2 z3 z4 z5 ++ fX cI d (T 0 0) (T 0 1) (T 0 2) (T 0 3) (T 0 4) (T 0 5) (T 1) (T 2) (T 3) (T 4) (T 5) (T 6) (T 7) (T 8)))) (fun _ => (pm_cnt (fun _ => by simp only [List.countP_append, List.countP_nil, fT] <;> omega))) (fun _ Hp locs hP hD hS => ?_)
        refine lv_ldc2 (v := (10000)) hx hb hown (hts _ (kU u_811)) dX5_firstFailure_27 ?_
        rw [show ((10000) : Int64) = lN 10000 from by decide +kernel]
        refine lv_lrem hx hb dX5_firstFailure_30 (by decide +kernel) ?_
        rw [pk_lRem (a := S / 10000 ^ ((n - 1) - i)) (b := 10000) (by have := Nat.div_le_self S (10000 ^ (n - 1 - i)); omega) (by decide) (by decide)]
        refine lv_l2i (v := nI ((S / 10000 ^ ((n - 1) - i)) % 10000)) hx hb dX5_firstFailure_31 (lN_i _) ?_
        rw [show (nI ((S / 10000 ^ ((n - 1) - i)) % 10000)) = (nI (grC S n i)) from rfl]
        refine lv_istore (lv' := [(6, .int (nI (grC S n i))), (5, .int (nI i)), (0, .ref r0), (1, .ref (d 0)), (2, .int (nI n)), (3, .long (lN S))]) hx hb dX5_firstFailure_32 hl (by decide) rfl (fun ls hl => ?_)
        have hg : grC S n i < 10000 := Nat.mod_lt _ (by decide)
        refine lv_aload_n hx hb dX5_firstFailure_34 rfl (lv_at hl 2 rfl) ?_
        refine lv_iload hx hb dX5_firstFailure_35 (lv_at hl 0 rfl) ?_
        refine lv_sipush (v := (nI 1000)) hx hb dX5_firstFailure_37 (by decide +kernel) ?_
        refine lv_idiv hx hb dX5_firstFailure_40 (by decide) ?_
        rw [pk_div (a := grC S n i) (d := 1000) (by omega) (by omega) (by omega)]
        refine lv_iload hx hb dX5_firstFailure_41 (lv_at hl 0 rfl) ?_
        refine lv_bipush (v := (nI 100)) hx hb dX5_firstFailure_43 (by decide) ?_
        refine lv_idiv hx hb dX5_firstFailure_45 (by decide) ?_
        rw [pk_div (a := grC S n i) (d := 100) (by omega) (by omega) (by omega)]
        refine lv_bipush (v := (nI 10)) hx hb dX5_firstFailure_46 (by decide) ?_
        refine lv_irem hx hb dX5_firstFailure_48 (by decide) ?_
        rw [pk_rem (a := (grC S n i) / 100) (d := 10) (by omega) (by omega) (by omega)]
        refine lv_iload hx hb dX5_firstFailure_49 (lv_at hl 0 rfl) ?_
        refine lv_bipush (v := (nI 10)) hx hb dX5_firstFailure_51 (by decide) ?_
        refine lv_idiv hx hb dX5_firstFailure_53 (by decide) ?_
        rw [pk_div (a := grC S n i) (d := 10) (by omega) (by omega) (by omega)]
        refine lv_bipush (v := (nI 10)) hx hb dX5_firstFailure_54 (by decide) ?_
        refine lv_irem hx hb dX5_firstFailure_56 (by decide) ?_
        rw [pk_rem (a := (grC S n i) / 10) (d := 10) (by omega) (by omega) (by omega)]
        refine lv_iload hx hb dX5_firstFailure_57 (lv_at hl 0 rfl) ?_
        refine lv_bipush (v := (nI 10)) hx hb dX5_firstFailure_59 (by decide) ?_
        refine lv_irem hx hb dX5_firstFailure_61 (by decide) ?_
        rw [pk_rem (a := grC S n i) (d := 10) (by omega) (by omega) (by omega)]
        refine gp_V (ci := 5) (q0 := 0) (cq := (RX5, TX5, 2)) (c_X5_succeeds l D cI cZ cF cL r0 a t b q1 q2 k1 k2 z1 z2 z3 z4 z5 ((grC S n i) / 1000) (((grC S n i) / 100) % 10) (((grC S n i) / 10) % 10) ((grC S n i) % 10) (by rw [eT]; exact FI_sc hT i) (by omega) (by omega) (by omega) (by omega)) (gUV u_818 u_819 u_820 u_44 u_821) rfl hdV_X5_succeeds ⟨Nat.le_of_ble_eq_true rfl, Nat.le_of_ble_eq_true rfl⟩ ⟨rfl, rfl⟩ hx hb hml hown hts hK hA hP hD hS hl.1 ⟨Nat.le_of_ble_eq_true rfl, Nat.le_of_ble_eq_true rfl⟩ rfl rfl rfl (wr := (fX cI d (T 0 0) (T 0 1) (T 0 2) (T 0 3) (T 0 4) (T 0 5) (T 1) (T 2) (T 3) (T 4) (T 5) (T 6) (T 7) (T 8))) (pm_cnt (fun _ => by simp only [List.countP_append, List.countP_nil, fT] <;> omega)) (fun _ => by simp only [List.map_append, List.map_nil, fX_m, bX_m, sX_m, pX_m, iaX_m, r5X_m, r6X_m, fT_m, hX_m]) (rest := []) rfl rfl (Nat.le_of_ble_eq_true rfl) dX5_firstFailure_62 (ws2 := (fun u_62 : (Nat → Nat) × (Nat → Nat) × Int32 × Int32 × Nat × Nat × Nat × Nat × Nat => (r5X r0 a b ++ fX cI a ((doC t ((grC S n i) / 1000) (((grC S n i) / 100) % 10) (((grC S n i) / 10) % 10) ((grC S n i) % 10)) 0 0) ((doC t ((grC S n i) / 1000) (((grC S n i) / 100) % 10) (((grC S n i) / 10) % 10) ((grC S n i) % 10)) 0 1) ((doC t ((grC S n i) / 1000) (((grC S n i) / 100) % 10) (((grC S n i) / 10) % 10) ((grC S n i) % 10)) 0 2) ((doC t ((grC S n i) / 1000) (((grC S n i) / 100) % 10) (((grC S n i) / 10) % 10) ((grC S n i) % 10)) 0 3) ((doC t ((grC S n i) / 1000) (((grC S n i) / 100) % 10) (((grC S n i) / 10) % 10) ((grC S n i) % 10)) 0 4) ((doC t ((grC S n i) / 1000) (((grC S n i) / 100) % 10) (((grC S n i) / 10) % 10) ((grC S n i) % 10)) 0 5) ((doC t ((grC S n i) / 1000) (((grC S n i) / 100) % 10) (((grC S n i) / 10) % 10) ((grC S n i) % 10)) 1) ((doC t ((grC S n i) / 1000) (((grC S n i) / 100) % 10) (((grC S n i) / 10) % 10) ((grC S n i) % 10)) 2) ((doC t ((grC S n i) / 1000) (((grC S n i) / 100) % 10) (((grC S n i) / 10) % 10) ((grC S n i) % 10)) 3) ((doC t ((grC S n i) / 1000) (((grC S n i) / 100) % 10) (((grC S n i) / 10) % 10) ((grC S n i) % 10)) 4) ((doC t ((grC S n i) / 1000) (((grC S n i) / 100) % 10) (((grC S n i) / 10) % 10) ((grC S n i) % 10)) 5) ((doC t ((grC S n i) / 1000) (((grC S n i) / 100) % 10) (((grC S n i) / 10) % 10) ((grC S n i) % 10)) 6) ((doC t ((grC S n i) / 1000) (((grC S n i) / 100) % 10) (((grC S n i) / 10) % 10) ((grC S n i) % 10)) 7) ((doC t ((grC S n i) / 1000) (((grC S n i) / 100) % 10) (((grC S n i) / 10) % 10) ((grC S n i) % 10)) 8) ++ pX cI b u_62.1 u_62.2.1 u_62.2.2.1 u_62.2.2.2.1 u_62.2.2.2.2.1 u_62.2.2.2.2.2.1 u_62.2.2.2.2.2.2.1 u_62.2.2.2.2.2.2.2.1 u_62.2.2.2.2.2.2.2.2 ++ fX cI d (T 0 0) (T 0 1) (T 0 2) (T 0 3) (T 0 4) (T 0 5) (T 1) (T 2) (T 3) (T 4) (T 5) (T 6) (T 7) (T 8)))) (fun _ => (pm_cnt (fun _ => by simp only [List.countP_append, List.countP_nil, fT] <;> omega))) (fun u_62 Hp locs hP hD hS => ?_)
        refine lv_if_ne (tgt := 71) hx hb dX5_firstFailure_65 (by decide) (fun c_65 => ?_) (fun c_65 => ?_)
        · skip
          replace c_65 := cb_nz c_65
          refine lv_iinc (v := (nI (i + 1))) (lv' := [(5, .int (nI (i + 1))), (6, .int (nI (grC S n i))), (0, .ref r0), (1, .ref (d 0)), (2, .int (nI n)), (3, .long (lN S))]) hx hb dX5_firstFailure_71 hl (k := 1) rfl (nI_add i 1) (by decide) rfl (fun ls hl => ?_)
          refine lv_goto (tgt := 11) hx hb dX5_firstFailure_74 (by decide) ?_
          exact ih_11 (i + 1) (doC t ((grC S n i) / 1000) (((grC S n i) / 100) % 10) (((grC S n i) / 10) % 10) ((grC S n i) % 10)) u_62.1 u_62.2.1 u_62.2.2.1 u_62.2.2.2.1 u_62.2.2.2.2.1 u_62.2.2.2.2.2.1 u_62.2.2.2.2.2.2.1 u_62.2.2.2.2.2.2.2.1 u_62.2.2.2.2.2.2.2.2 (by omega) (by rw [eT]; rfl) (by rw [eR]; exact scF_go (by omega) (by rw [← eT]; exact c_65)) (by omega) _ _ hP hD hS _ (lv_sub hl [0, 2, 3, 4, 5] rfl)
        · skip
          replace c_65 := cb_z c_65
          refine lv_iload hx hb dX5_firstFailure_68 (lv_at hl 1 rfl) ?_
          exact ct_i (doC t ((grC S n i) / 1000) (((grC S n i) / 100) % 10) (((grC S n i) / 10) % 10) ((grC S n i) % 10), u_62.1, u_62.2.1, u_62.2.2.1, u_62.2.2.2.1, u_62.2.2.2.2.1, u_62.2.2.2.2.2.1, u_62.2.2.2.2.2.2.1, u_62.2.2.2.2.2.2.2.1, u_62.2.2.2.2.2.2.2.2) hx hb hr hlocks hP hS (by rw [eR]; exact (scF_stop (by omega) (by rw [← eT]; exact c_65)).symm) dX5_firstFailure_70
  exact loop_11 ((n - 0) + 1) 0 T g1 g2 kn kw x1 x2 x3 x4 x5 (by omega) rfl rfl (Nat.lt_succ_self _) _ _ hP hD hS _ (lv_sub hl [0, 1, 2, 3, 4] rfl)
