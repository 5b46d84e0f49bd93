/-! The law's loop. -/
theorem and31 (x : Int32) : ∃ k, k < 32 ∧ x &&& nI 31 = nI k := by
  refine ⟨(x &&& nI 31).toBitVec.toNat, ?_, Int32.toBitVec_inj.mp (by show _ = BitVec.ofNat 32 _; simp)⟩
  rw [Int32.toBitVec_and, BitVec.toNat_and]
  exact Nat.lt_of_le_of_lt Nat.and_le_right (by decide)
section
variable {p : Program} {l : Launch} {e : Env} {s : State} {m : MethodId} {below : List Frame} {meth : Method} {c : Code} {sb sL : Nat} {sx : Nat → Int32} {D : va_G} {H : Heap} {locs : List Loc} {cells slots i : Nat} {ls : Array Slot} {cI cZ cF cL : ClassId} {rx : Nat} {tt a tr : Nat → Nat} {r3 rs rz : Nat} {b : Nat → Nat} {b0 s0 r5 r6 ra : Nat} {pa pz : Nat → Nat → Nat} {er fr gr jr : Nat → Nat} {mr : Nat} {rf : Nat → Nat} {oq : Nat}
set_option maxHeartbeats 4000000 in
set_option maxRecDepth 100000 in
theorem la_head (C : LC p l s m c sb sL sx D cI cZ cF cL) (hi4 : i ≤ sL) (hS : va_S (AS s) s.heap H locs) (hl : lv_has ls 7 (lvs sb rx mr oq i)) (kend : WL p l e s m sb below meth c H locs cells slots (F0 m 1704 ls [])) (kgo : i + 4 ≤ sL → ∀ k, k < 32 → WL p l e s m sb below meth c H locs cells slots (F0 m 39 ls [.int (nI k)])) : WL p l e s m sb below meth c H locs cells slots (F0 m 23 ls []) := by
  obtain ⟨hx, hb, hml, hown, hts, hX, hbl, hK, hKX, hst, hsL⟩ := C
  refine lv_iload hx hb dL_law_23 (lv_at hl 0 rfl) ?_
  refine lv_aload_n hx hb dL_law_25 rfl (lv_at hl 1 rfl) ?_
  refine va_slen hx hb hX hbl (Nat.not_le.mpr hbl) hS dL_law_26 ?_
  refine lv_iconst (v := nI 4) hx hb dL_law_27 (by decide) ?_
  refine lv_isub hx hb dL_law_28 ?_
  refine lv_icmp_gt (tgt := 1704) hx hb dL_law_29 (by decide) (fun _ => kend) (fun q => ?_)
  have h4 : i + 4 ≤ sL := by
    rw [Int32.lt_iff_toInt_lt, show Int32.ofNat sL - nI 4 = nI sL - nI 4 from rfl, pk_sub_toInt (by omega) (by omega), nI_toInt (by omega)] at q
    omega
  refine lv_aload_n hx hb dL_law_32 rfl (lv_at hl 1 rfl) ?_
  refine lv_iload hx hb dL_law_33 (lv_at hl 0 rfl) ?_
  refine va_sld hx hb hX hbl (Nat.not_le.mpr hbl) hS (vp_in_nI (show i < sL by omega) (by omega)) dL_law_35 ?_
  rw [nI_clamp (show i < 2 ^ 31 by omega)]
  refine lv_bipush (v := nI 31) hx hb dL_law_36 (by decide) ?_
  refine lv_iand hx hb dL_law_38 ?_
  obtain ⟨k, hk, e⟩ := and31 (sx i)
  rw [e]
  exact kgo h4 k hk
set_option maxHeartbeats 4000000 in
set_option maxRecDepth 100000 in
theorem la_turn {T : Nat → Nat → Nat} {cnt nx : Nat} {Ts : Nat → Nat → Nat → Nat} {zf : Nat → Nat} {Zs : Nat → Nat → Nat → Nat} {X : Nat → Nat} {Ln : Nat} {Q Sv : Nat → Nat → Nat} {fq : Nat → Int64} {pl : Nat} {U : Nat → Nat → Nat} {g1 g2 : Nat → Nat} {kn kw : Int32} {x1 x2 x3 x4 x5 : Nat} {kn2 kw2 : Int32} {y1 y2 y3 y4 y5 : Nat} {V5 : Nat → Nat → Nat} {d1 d2 : Nat → Nat} {dn dw : Int32} {z1 z2 z3 z4 z5 : Nat} {x6 : Int64} {V6 : Nat → Nat → Nat} {e1 e2 : Nat → Nat} {en ew : Int32} {v1 v2 v3 v4 v5 th9 pl9 hs9 vs9 : Nat} {dg9 : Int32} {xx9 : Int64} {h9 g9 : Nat → Nat} (C : LC p l s m c sb sL sx D cI cZ cF cL) (K : LH p l e s m sb below meth c D cI cZ cF cL rx tt a tr r3 rs rz b b0 s0 r5 r6 ra pa pz er fr gr jr mr rf oq (i + 4) (cells + 1) (slots + 6)) (hroom : cells + 1 ≤ room_1.cells ∧ slots + 6 ≤ room_1.slots) (hi : i + 4 ≤ sL) (hI : INV T cnt nx Ts zf Zs X Ln Q Sv) (hP : va_P D vwCl (bW cI cZ cF cL rx tt a tr r3 rs rz b b0 s0 r5 r6 ra pa pz er fr gr jr mr rf oq T cnt nx Ts zf Zs X Ln Q Sv fq pl U g1 g2 kn kw x1 x2 x3 x4 x5 kn2 kw2 y1 y2 y3 y4 y5 V5 d1 d2 dn dw z1 z2 z3 z4 z5 x6 V6 e1 e2 en ew v1 v2 v3 v4 v5 th9 pl9 hs9 vs9 dg9 xx9 h9 g9) H) (hD : va_D (AS s) (bW cI cZ cF cL rx tt a tr r3 rs rz b b0 s0 r5 r6 ra pa pz er fr gr jr mr rf oq T cnt nx Ts zf Zs X Ln Q Sv fq pl U g1 g2 kn kw x1 x2 x3 x4 x5 kn2 kw2 y1 y2 y3 y4 y5 V5 d1 d2 dn dw z1 z2 z3 z4 z5 x6 V6 e1 e2 en ew v1 v2 v3 v4 v5 th9 pl9 hs9 vs9 dg9 xx9 h9 g9)) (hS : va_S (AS s) s.heap H locs) (hl : lv_has ls 7 (lvs sb rx mr oq i)) (k : Nat) (hk : k < 32) : WL p l e s m sb below meth c H locs cells slots (F0 m 39 ls [.int (nI k)]) := by
  obtain ⟨hx, hb, hml, hown, hts, hX, hbl, hK, hKX, hst, hsL⟩ := id C
  match k, hk with
  | 0, _ => exact lv_tableIn (tgt := 164) (off := 125) hx hb dL_law_39 (by decide) (by decide) rfl (by decide) (ar_append C K hroom hi hI hP hD hS hl)
  | 1, _ => exact lv_tableIn (tgt := 220) (off := 181) hx hb dL_law_39 (by decide) (by decide) rfl (by decide) (ar_clearText C K hroom hi hI hP hD hS hl)
  | 2, _ => exact lv_tableIn (tgt := 233) (off := 194) hx hb dL_law_39 (by decide) (by decide) rfl (by decide) (ar_errorPosition C K hroom hi hI hP hD hS hl)
  | 3, _ => exact lv_tableIn (tgt := 246) (off := 207) hx hb dL_law_39 (by decide) (by decide) rfl (by decide) (ar_load C K hroom hi hI hP hD hS hl)
  | 4, _ => exact lv_tableIn (tgt := 290) (off := 251) hx hb dL_law_39 (by decide) (by decide) rfl (by decide) (ar_about C K hroom hi hI hP hD hS hl)
  | 5, _ => exact lv_tableIn (tgt := 346) (off := 307) hx hb dL_law_39 (by decide) (by decide) rfl (by decide) (ar_house C K hroom hi hI hP hD hS hl)
  | 6, _ => exact lv_tableIn (tgt := 414) (off := 375) hx hb dL_law_39 (by decide) (by decide) rfl (by decide) (ar_vegetable C K hroom hi hI hP hD hS hl)
  | 7, _ => exact lv_tableIn (tgt := 482) (off := 443) hx hb dL_law_39 (by decide) (by decide) rfl (by decide) (ar_box C K hroom hi hI hP hD hS hl)
  | 8, _ => exact lv_tableIn (tgt := 550) (off := 511) hx hb dL_law_39 (by decide) (by decide) rfl (by decide) (ar_liking C K hroom hi hI hP hD hS hl)
  | 9, _ => exact lv_tableIn (tgt := 618) (off := 579) hx hb dL_law_39 (by decide) (by decide) rfl (by decide) (ar_order C K hroom hi hI hP hD hS hl)
  | 10, _ => exact lv_tableIn (tgt := 674) (off := 635) hx hb dL_law_39 (by decide) (by decide) rfl (by decide) (ar_addHouse C K hroom hi hI hP hD hS hl)
  | 11, _ => exact lv_tableIn (tgt := 730) (off := 691) hx hb dL_law_39 (by decide) (by decide) rfl (by decide) (ar_addVegetable C K hroom hi hI hP hD hS hl)
  | 12, _ => exact lv_tableIn (tgt := 786) (off := 747) hx hb dL_law_39 (by decide) (by decide) rfl (by decide) (ar_setHarvest C K hroom hi hI hP hD hS hl)
  | 13, _ => exact lv_tableIn (tgt := 854) (off := 815) hx hb dL_law_39 (by decide) (by decide) rfl (by decide) (ar_setLiking C K hroom hi hI hP hD hS hl)
  | 14, _ => exact lv_tableIn (tgt := 934) (off := 895) hx hb dL_law_39 (by decide) (by decide) rfl (by decide) (ar_skip C K hroom hi hI hP hD hS hl)
  | 15, _ => exact lv_tableIn (tgt := 1018) (off := 979) hx hb dL_law_39 (by decide) (by decide) rfl (by decide) (ar_pack C K hroom hi hI hP hD hS hl)
  | 16, _ => exact lv_tableIn (tgt := 1031) (off := 992) hx hb dL_law_39 (by decide) (by decide) rfl (by decide) (ar_returnCrates C K hroom hi hI hP hD hS hl)
  | 17, _ => exact lv_tableIn (tgt := 1099) (off := 1060) hx hb dL_law_39 (by decide) (by decide) rfl (by decide) (ar_give C K hroom hi hI hP hD hS hl)
  | 18, _ => exact lv_tableIn (tgt := 1179) (off := 1140) hx hb dL_law_39 (by decide) (by decide) rfl (by decide) (ar_undo C K hroom hi hI hP hD hS hl)
  | 19, _ => exact lv_tableIn (tgt := 1223) (off := 1184) hx hb dL_law_39 (by decide) (by decide) rfl (by decide) (ar_wouldGet C K hroom hi hI hP hD hS hl)
  | 20, _ => exact lv_tableIn (tgt := 1291) (off := 1252) hx hb dL_law_39 (by decide) (by decide) rfl (by decide) (ar_wouldBe C K hroom hi hI hP hD hS hl)
  | 21, _ => exact lv_tableIn (tgt := 1347) (off := 1308) hx hb dL_law_39 (by decide) (by decide) rfl (by decide) (ar_bestSkip C K hroom hi hI hP hD hS hl)
  | 22, _ => exact lv_tableIn (tgt := 1360) (off := 1321) hx hb dL_law_39 (by decide) (by decide) rfl (by decide) (ar_bestMore C K hroom hi hI hP hD hS hl)
  | 23, _ => exact lv_tableIn (tgt := 1373) (off := 1334) hx hb dL_law_39 (by decide) (by decide) rfl (by decide) (ar_firstSwap C K hroom hi hI hP hD hS hl)
  | 24, _ => exact lv_tableIn (tgt := 1386) (off := 1347) hx hb dL_law_39 (by decide) (by decide) rfl (by decide) (ar_runScript C K hroom hi hI hP hD hS hl)
  | 25, _ => exact lv_tableIn (tgt := 1486) (off := 1447) hx hb dL_law_39 (by decide) (by decide) rfl (by decide) (ar_simulate C K hroom hi hI hP hD hS hl)
  | 26, _ => exact lv_tableIn (tgt := 1586) (off := 1547) hx hb dL_law_39 (by decide) (by decide) rfl (by decide) (ar_save C K hroom hi hI hP hD hS hl)
  | 27, _ => exact lv_tableIn (tgt := 1642) (off := 1603) hx hb dL_law_39 (by decide) (by decide) rfl (by decide) (ar_restore C K hroom hi hI hP hD hS hl)
  | 28, _ => exact lv_tableOut (tgt := 1698) hx hb dL_law_39 (by decide) (by decide) (la_end C hl (lv_at hl 0 rfl) (lv_at hl 1 rfl) (lv_at hl 2 rfl) (lv_at hl 3 rfl) (lv_at hl 4 rfl) (fun ls hl => K T cnt nx Ts zf Zs X Ln Q Sv fq pl U g1 g2 kn kw x1 x2 x3 x4 x5 kn2 kw2 y1 y2 y3 y4 y5 V5 d1 d2 dn dw z1 z2 z3 z4 z5 x6 V6 e1 e2 en ew v1 v2 v3 v4 v5 th9 pl9 hs9 vs9 dg9 xx9 h9 g9 H locs ls _ _ (Nat.le_succ _) (Nat.le_add_right _ _) hI hP hD hS hl))
  | 29, _ => exact lv_tableOut (tgt := 1698) hx hb dL_law_39 (by decide) (by decide) (la_end C hl (lv_at hl 0 rfl) (lv_at hl 1 rfl) (lv_at hl 2 rfl) (lv_at hl 3 rfl) (lv_at hl 4 rfl) (fun ls hl => K T cnt nx Ts zf Zs X Ln Q Sv fq pl U g1 g2 kn kw x1 x2 x3 x4 x5 kn2 kw2 y1 y2 y3 y4 y5 V5 d1 d2 dn dw z1 z2 z3 z4 z5 x6 V6 e1 e2 en ew v1 v2 v3 v4 v5 th9 pl9 hs9 vs9 dg9 xx9 h9 g9 H locs ls _ _ (Nat.le_succ _) (Nat.le_add_right _ _) hI hP hD hS hl))
  | 30, _ => exact lv_tableOut (tgt := 1698) hx hb dL_law_39 (by decide) (by decide) (la_end C hl (lv_at hl 0 rfl) (lv_at hl 1 rfl) (lv_at hl 2 rfl) (lv_at hl 3 rfl) (lv_at hl 4 rfl) (fun ls hl => K T cnt nx Ts zf Zs X Ln Q Sv fq pl U g1 g2 kn kw x1 x2 x3 x4 x5 kn2 kw2 y1 y2 y3 y4 y5 V5 d1 d2 dn dw z1 z2 z3 z4 z5 x6 V6 e1 e2 en ew v1 v2 v3 v4 v5 th9 pl9 hs9 vs9 dg9 xx9 h9 g9 H locs ls _ _ (Nat.le_succ _) (Nat.le_add_right _ _) hI hP hD hS hl))
  | 31, _ => exact lv_tableOut (tgt := 1698) hx hb dL_law_39 (by decide) (by decide) (la_end C hl (lv_at hl 0 rfl) (lv_at hl 1 rfl) (lv_at hl 2 rfl) (lv_at hl 3 rfl) (lv_at hl 4 rfl) (fun ls hl => K T cnt nx Ts zf Zs X Ln Q Sv fq pl U g1 g2 kn kw x1 x2 x3 x4 x5 kn2 kw2 y1 y2 y3 y4 y5 V5 d1 d2 dn dw z1 z2 z3 z4 z5 x6 V6 e1 e2 en ew v1 v2 v3 v4 v5 th9 pl9 hs9 vs9 dg9 xx9 h9 g9 H locs ls _ _ (Nat.le_succ _) (Nat.le_add_right _ _) hI hP hD hS hl))
  | k + 32, h => exact absurd h (by omega)
set_option maxHeartbeats 4000000 in
set_option maxRecDepth 100000 in
theorem law_loop (C : LC p l s m c sb sL sx D cI cZ cF cL) (hr : meth.sig.returnType = ret) (hlocks : meth.locks = false) : ∀ (n i cells slots : Nat), i ≤ sL → sL < i + 4 * (n + 1) → cells + n ≤ room_1.cells → slots + 6 * n ≤ room_1.slots → LH p l e s m sb below meth c D cI cZ cF cL rx tt a tr r3 rs rz b b0 s0 r5 r6 ra pa pz er fr gr jr mr rf oq i cells slots := by
  intro n
  induction n with
  | zero =>
    intro i cells slots h0 h1 h2 h3
    intro T cnt nx Ts zf Zs X Ln Q Sv fq pl U g1 g2 kn kw x1 x2 x3 x4 x5 kn2 kw2 y1 y2 y3 y4 y5 V5 d1 d2 dn dw z1 z2 z3 z4 z5 x6 V6 e1 e2 en ew v1 v2 v3 v4 v5 th9 pl9 hs9 vs9 dg9 xx9 h9 g9 H locs ls cells1 slots1 hc hs hI hP hD hS hl
    refine la_head C h0 hS hl ?_ (fun h4 => absurd h4 (by omega))
    refine lv_iconst (v := 1) C.1 C.2.1 dL_law_1704 (by decide) ?_
    refine va_forget (fun q hq => hS.2.2 q hq) ?_
    refine W.widen (k := 601024) (n := 7293034) (show cells1 ≤ room_1.cells by omega) (show slots1 ≤ room_1.slots by omega) ?_
    exact lw_ret C.1 C.2.1 hr hlocks dL_law_1705
  | succ n ih =>
    intro i cells slots h0 h1 h2 h3
    intro T cnt nx Ts zf Zs X Ln Q Sv fq pl U g1 g2 kn kw x1 x2 x3 x4 x5 kn2 kw2 y1 y2 y3 y4 y5 V5 d1 d2 dn dw z1 z2 z3 z4 z5 x6 V6 e1 e2 en ew v1 v2 v3 v4 v5 th9 pl9 hs9 vs9 dg9 xx9 h9 g9 H locs ls cells1 slots1 hc hs hI hP hD hS hl
    refine la_head C h0 hS hl ?_ (fun h4 k hk => ?_)
    · refine lv_iconst (v := 1) C.1 C.2.1 dL_law_1704 (by decide) ?_
      refine va_forget (fun q hq => hS.2.2 q hq) ?_
      refine W.widen (k := 601024) (n := 7293034) (show cells1 ≤ room_1.cells by omega) (show slots1 ≤ room_1.slots by omega) ?_
      exact lw_ret C.1 C.2.1 hr hlocks dL_law_1705
    · exact la_turn C (ih (i + 4) (cells1 + 1) (slots1 + 6) h4 (by omega) (by omega) (by omega)) ⟨by omega, by omega⟩ h4 hI hP hD hS hl k hk
end
