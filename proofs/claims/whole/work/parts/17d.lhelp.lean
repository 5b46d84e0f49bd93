/-! The law's helpers. -/
set_option maxRecDepth 20000 in
theorem u_313 : Cond.methodLink RL 21 yX8_about ∈ wsL_law := List.mem_of_getElem? (i := 313) (by decide +kernel)
set_option maxRecDepth 20000 in
theorem u_314 : Cond.instanceMethod yX8_about ∈ wsL_law := List.mem_of_getElem? (i := 314) (by decide +kernel)
set_option maxRecDepth 20000 in
theorem u_315 : Cond.selects RX8 yX8_about yX8_about ∈ wsL_law := List.mem_of_getElem? (i := 315) (by decide +kernel)
set_option maxRecDepth 20000 in
theorem u_316 : Cond.code yX8_about cX8_about 2 (some .int) ∈ wsL_law := List.mem_of_getElem? (i := 316) (by decide +kernel)
set_option maxRecDepth 20000 in
theorem u_369 : Cond.methodLink RL 24 yX8_house ∈ wsL_law := List.mem_of_getElem? (i := 369) (by decide +kernel)
set_option maxRecDepth 20000 in
theorem u_370 : Cond.instanceMethod yX8_house ∈ wsL_law := List.mem_of_getElem? (i := 370) (by decide +kernel)
set_option maxRecDepth 20000 in
theorem u_371 : Cond.selects RX8 yX8_house yX8_house ∈ wsL_law := List.mem_of_getElem? (i := 371) (by decide +kernel)
set_option maxRecDepth 20000 in
theorem u_372 : Cond.code yX8_house cX8_house 3 (some .int) ∈ wsL_law := List.mem_of_getElem? (i := 372) (by decide +kernel)
set_option maxRecDepth 20000 in
theorem u_408 : Cond.methodLink RL 30 yX8_vegetable ∈ wsL_law := List.mem_of_getElem? (i := 408) (by decide +kernel)
set_option maxRecDepth 20000 in
theorem u_409 : Cond.instanceMethod yX8_vegetable ∈ wsL_law := List.mem_of_getElem? (i := 409) (by decide +kernel)
set_option maxRecDepth 20000 in
theorem u_410 : Cond.selects RX8 yX8_vegetable yX8_vegetable ∈ wsL_law := List.mem_of_getElem? (i := 410) (by decide +kernel)
set_option maxRecDepth 20000 in
theorem u_411 : Cond.code yX8_vegetable cX8_vegetable 3 (some .int) ∈ wsL_law := List.mem_of_getElem? (i := 411) (by decide +kernel)
set_option maxRecDepth 20000 in
theorem u_461 : Cond.methodLink RL 33 yX8_box ∈ wsL_law := List.mem_of_getElem? (i := 461) (by decide +kernel)
set_option maxRecDepth 20000 in
theorem u_462 : Cond.instanceMethod yX8_box ∈ wsL_law := List.mem_of_getElem? (i := 462) (by decide +kernel)
set_option maxRecDepth 20000 in
theorem u_463 : Cond.selects RX8 yX8_box yX8_box ∈ wsL_law := List.mem_of_getElem? (i := 463) (by decide +kernel)
set_option maxRecDepth 20000 in
theorem u_464 : Cond.code yX8_box cX8_box 3 (some .int) ∈ wsL_law := List.mem_of_getElem? (i := 464) (by decide +kernel)
set_option maxRecDepth 20000 in
theorem u_473 : Cond.methodLink RL 36 yX8_liking ∈ wsL_law := List.mem_of_getElem? (i := 473) (by decide +kernel)
set_option maxRecDepth 20000 in
theorem u_474 : Cond.instanceMethod yX8_liking ∈ wsL_law := List.mem_of_getElem? (i := 474) (by decide +kernel)
set_option maxRecDepth 20000 in
theorem u_475 : Cond.selects RX8 yX8_liking yX8_liking ∈ wsL_law := List.mem_of_getElem? (i := 475) (by decide +kernel)
set_option maxRecDepth 20000 in
theorem u_476 : Cond.code yX8_liking cX8_liking 3 (some .int) ∈ wsL_law := List.mem_of_getElem? (i := 476) (by decide +kernel)
set_option maxRecDepth 20000 in
theorem u_484 : Cond.methodLink RL 39 yX8_order ∈ wsL_law := List.mem_of_getElem? (i := 484) (by decide +kernel)
set_option maxRecDepth 20000 in
theorem u_485 : Cond.instanceMethod yX8_order ∈ wsL_law := List.mem_of_getElem? (i := 485) (by decide +kernel)
set_option maxRecDepth 20000 in
theorem u_486 : Cond.selects RX8 yX8_order yX8_order ∈ wsL_law := List.mem_of_getElem? (i := 486) (by decide +kernel)
set_option maxRecDepth 20000 in
theorem u_487 : Cond.code yX8_order cX8_order 3 (some .int) ∈ wsL_law := List.mem_of_getElem? (i := 487) (by decide +kernel)
set_option maxRecDepth 20000 in
theorem u_500 : Cond.methodLink RL 42 yX8_addHouse ∈ wsL_law := List.mem_of_getElem? (i := 500) (by decide +kernel)
set_option maxRecDepth 20000 in
theorem u_501 : Cond.instanceMethod yX8_addHouse ∈ wsL_law := List.mem_of_getElem? (i := 501) (by decide +kernel)
set_option maxRecDepth 20000 in
theorem u_502 : Cond.selects RX8 yX8_addHouse yX8_addHouse ∈ wsL_law := List.mem_of_getElem? (i := 502) (by decide +kernel)
set_option maxRecDepth 20000 in
theorem u_503 : Cond.code yX8_addHouse cX8_addHouse 2 (some .int) ∈ wsL_law := List.mem_of_getElem? (i := 503) (by decide +kernel)
set_option maxRecDepth 20000 in
theorem u_522 : Cond.methodLink RL 45 yX8_addVegetable ∈ wsL_law := List.mem_of_getElem? (i := 522) (by decide +kernel)
set_option maxRecDepth 20000 in
theorem u_523 : Cond.instanceMethod yX8_addVegetable ∈ wsL_law := List.mem_of_getElem? (i := 523) (by decide +kernel)
set_option maxRecDepth 20000 in
theorem u_524 : Cond.selects RX8 yX8_addVegetable yX8_addVegetable ∈ wsL_law := List.mem_of_getElem? (i := 524) (by decide +kernel)
set_option maxRecDepth 20000 in
theorem u_525 : Cond.code yX8_addVegetable cX8_addVegetable 2 (some .int) ∈ wsL_law := List.mem_of_getElem? (i := 525) (by decide +kernel)
set_option maxRecDepth 20000 in
theorem u_534 : Cond.methodLink RL 48 yX8_setHarvest ∈ wsL_law := List.mem_of_getElem? (i := 534) (by decide +kernel)
set_option maxRecDepth 20000 in
theorem u_535 : Cond.instanceMethod yX8_setHarvest ∈ wsL_law := List.mem_of_getElem? (i := 535) (by decide +kernel)
set_option maxRecDepth 20000 in
theorem u_536 : Cond.selects RX8 yX8_setHarvest yX8_setHarvest ∈ wsL_law := List.mem_of_getElem? (i := 536) (by decide +kernel)
set_option maxRecDepth 20000 in
theorem u_537 : Cond.code yX8_setHarvest cX8_setHarvest 4 (some .int) ∈ wsL_law := List.mem_of_getElem? (i := 537) (by decide +kernel)
set_option maxRecDepth 20000 in
theorem u_549 : Cond.methodLink RL 51 yX8_setLiking ∈ wsL_law := List.mem_of_getElem? (i := 549) (by decide +kernel)
set_option maxRecDepth 20000 in
theorem u_550 : Cond.instanceMethod yX8_setLiking ∈ wsL_law := List.mem_of_getElem? (i := 550) (by decide +kernel)
set_option maxRecDepth 20000 in
theorem u_551 : Cond.selects RX8 yX8_setLiking yX8_setLiking ∈ wsL_law := List.mem_of_getElem? (i := 551) (by decide +kernel)
set_option maxRecDepth 20000 in
theorem u_552 : Cond.code yX8_setLiking cX8_setLiking 5 (some .int) ∈ wsL_law := List.mem_of_getElem? (i := 552) (by decide +kernel)
set_option maxRecDepth 20000 in
theorem u_560 : Cond.methodLink RL 55 yX8_skip ∈ wsL_law := List.mem_of_getElem? (i := 560) (by decide +kernel)
set_option maxRecDepth 20000 in
theorem u_561 : Cond.instanceMethod yX8_skip ∈ wsL_law := List.mem_of_getElem? (i := 561) (by decide +kernel)
set_option maxRecDepth 20000 in
theorem u_562 : Cond.selects RX8 yX8_skip yX8_skip ∈ wsL_law := List.mem_of_getElem? (i := 562) (by decide +kernel)
set_option maxRecDepth 20000 in
theorem u_563 : Cond.code yX8_skip cX8_skip 3 (some .int) ∈ wsL_law := List.mem_of_getElem? (i := 563) (by decide +kernel)
set_option maxRecDepth 20000 in
theorem u_680 : Cond.methodLink RL 59 yX8_returnCrates ∈ wsL_law := List.mem_of_getElem? (i := 680) (by decide +kernel)
set_option maxRecDepth 20000 in
theorem u_681 : Cond.instanceMethod yX8_returnCrates ∈ wsL_law := List.mem_of_getElem? (i := 681) (by decide +kernel)
set_option maxRecDepth 20000 in
theorem u_682 : Cond.selects RX8 yX8_returnCrates yX8_returnCrates ∈ wsL_law := List.mem_of_getElem? (i := 682) (by decide +kernel)
set_option maxRecDepth 20000 in
theorem u_683 : Cond.code yX8_returnCrates cX8_returnCrates 3 (some .int) ∈ wsL_law := List.mem_of_getElem? (i := 683) (by decide +kernel)
set_option maxRecDepth 20000 in
theorem u_691 : Cond.methodLink RL 62 yX8_give ∈ wsL_law := List.mem_of_getElem? (i := 691) (by decide +kernel)
set_option maxRecDepth 20000 in
theorem u_692 : Cond.instanceMethod yX8_give ∈ wsL_law := List.mem_of_getElem? (i := 692) (by decide +kernel)
set_option maxRecDepth 20000 in
theorem u_693 : Cond.selects RX8 yX8_give yX8_give ∈ wsL_law := List.mem_of_getElem? (i := 693) (by decide +kernel)
set_option maxRecDepth 20000 in
theorem u_694 : Cond.code yX8_give cX8_give 4 (some .int) ∈ wsL_law := List.mem_of_getElem? (i := 694) (by decide +kernel)
set_option maxRecDepth 20000 in
theorem u_710 : Cond.methodLink RL 65 yX8_undo ∈ wsL_law := List.mem_of_getElem? (i := 710) (by decide +kernel)
set_option maxRecDepth 20000 in
theorem u_711 : Cond.instanceMethod yX8_undo ∈ wsL_law := List.mem_of_getElem? (i := 711) (by decide +kernel)
set_option maxRecDepth 20000 in
theorem u_712 : Cond.selects RX8 yX8_undo yX8_undo ∈ wsL_law := List.mem_of_getElem? (i := 712) (by decide +kernel)
set_option maxRecDepth 20000 in
theorem u_713 : Cond.code yX8_undo cX8_undo 1 (some .int) ∈ wsL_law := List.mem_of_getElem? (i := 713) (by decide +kernel)
set_option maxRecDepth 20000 in
theorem u_287 : Cond.methodLink RL 17 yX8_load ∈ wsL_law := List.mem_of_getElem? (i := 287) (by decide +kernel)
set_option maxRecDepth 20000 in
theorem u_288 : Cond.instanceMethod yX8_load ∈ wsL_law := List.mem_of_getElem? (i := 288) (by decide +kernel)
set_option maxRecDepth 20000 in
theorem u_289 : Cond.selects RX8 yX8_load yX8_load ∈ wsL_law := List.mem_of_getElem? (i := 289) (by decide +kernel)
set_option maxRecDepth 20000 in
theorem u_290 : Cond.code yX8_load cX8_load 2 (some .int) ∈ wsL_law := List.mem_of_getElem? (i := 290) (by decide +kernel)
set_option maxRecDepth 20000 in
theorem u_924 : Cond.methodLink RL 82 yX8_save ∈ wsL_law := List.mem_of_getElem? (i := 924) (by decide +kernel)
set_option maxRecDepth 20000 in
theorem u_925 : Cond.instanceMethod yX8_save ∈ wsL_law := List.mem_of_getElem? (i := 925) (by decide +kernel)
set_option maxRecDepth 20000 in
theorem u_926 : Cond.selects RX8 yX8_save yX8_save ∈ wsL_law := List.mem_of_getElem? (i := 926) (by decide +kernel)
set_option maxRecDepth 20000 in
theorem u_927 : Cond.code yX8_save cX8_save 2 (some .int) ∈ wsL_law := List.mem_of_getElem? (i := 927) (by decide +kernel)
set_option maxRecDepth 20000 in
theorem u_938 : Cond.methodLink RL 85 yX8_restore ∈ wsL_law := List.mem_of_getElem? (i := 938) (by decide +kernel)
set_option maxRecDepth 20000 in
theorem u_939 : Cond.instanceMethod yX8_restore ∈ wsL_law := List.mem_of_getElem? (i := 939) (by decide +kernel)
set_option maxRecDepth 20000 in
theorem u_940 : Cond.selects RX8 yX8_restore yX8_restore ∈ wsL_law := List.mem_of_getElem? (i := 940) (by decide +kernel)
set_option maxRecDepth 20000 in
theorem u_941 : Cond.code yX8_restore cX8_restore 2 (some .int) ∈ wsL_law := List.mem_of_getElem? (i := 941) (by decide +kernel)
set_option maxRecDepth 20000 in
theorem u_729 : Cond.methodLink RL 68 yX8_wouldGet ∈ wsL_law := List.mem_of_getElem? (i := 729) (by decide +kernel)
set_option maxRecDepth 20000 in
theorem u_730 : Cond.instanceMethod yX8_wouldGet ∈ wsL_law := List.mem_of_getElem? (i := 730) (by decide +kernel)
set_option maxRecDepth 20000 in
theorem u_731 : Cond.selects RX8 yX8_wouldGet yX8_wouldGet ∈ wsL_law := List.mem_of_getElem? (i := 731) (by decide +kernel)
set_option maxRecDepth 20000 in
theorem u_732 : Cond.code yX8_wouldGet cX8_wouldGet 3 (some .int) ∈ wsL_law := List.mem_of_getElem? (i := 732) (by decide +kernel)
set_option maxRecDepth 20000 in
theorem u_748 : Cond.methodLink RL 71 yX8_wouldBe ∈ wsL_law := List.mem_of_getElem? (i := 748) (by decide +kernel)
set_option maxRecDepth 20000 in
theorem u_749 : Cond.instanceMethod yX8_wouldBe ∈ wsL_law := List.mem_of_getElem? (i := 749) (by decide +kernel)
set_option maxRecDepth 20000 in
theorem u_750 : Cond.selects RX8 yX8_wouldBe yX8_wouldBe ∈ wsL_law := List.mem_of_getElem? (i := 750) (by decide +kernel)
set_option maxRecDepth 20000 in
theorem u_751 : Cond.code yX8_wouldBe cX8_wouldBe 2 (some .int) ∈ wsL_law := List.mem_of_getElem? (i := 751) (by decide +kernel)
set_option maxRecDepth 20000 in
theorem u_804 : Cond.methodLink RL 74 yX8_runScript ∈ wsL_law := List.mem_of_getElem? (i := 804) (by decide +kernel)
set_option maxRecDepth 20000 in
theorem u_805 : Cond.instanceMethod yX8_runScript ∈ wsL_law := List.mem_of_getElem? (i := 805) (by decide +kernel)
set_option maxRecDepth 20000 in
theorem u_806 : Cond.selects RX8 yX8_runScript yX8_runScript ∈ wsL_law := List.mem_of_getElem? (i := 806) (by decide +kernel)
set_option maxRecDepth 20000 in
theorem u_807 : Cond.code yX8_runScript cX8_runScript 4 (some .int) ∈ wsL_law := List.mem_of_getElem? (i := 807) (by decide +kernel)
set_option maxRecDepth 20000 in
theorem u_873 : Cond.methodLink RL 78 yX8_simulate ∈ wsL_law := List.mem_of_getElem? (i := 873) (by decide +kernel)
set_option maxRecDepth 20000 in
theorem u_874 : Cond.instanceMethod yX8_simulate ∈ wsL_law := List.mem_of_getElem? (i := 874) (by decide +kernel)
set_option maxRecDepth 20000 in
theorem u_875 : Cond.selects RX8 yX8_simulate yX8_simulate ∈ wsL_law := List.mem_of_getElem? (i := 875) (by decide +kernel)
set_option maxRecDepth 20000 in
theorem u_876 : Cond.code yX8_simulate cX8_simulate 4 (some .int) ∈ wsL_law := List.mem_of_getElem? (i := 876) (by decide +kernel)
set_option maxRecDepth 20000 in
theorem u_368 : Cond.classLink RL 28 "java/lang/IndexOutOfBoundsException" ∈ wsL_law := List.mem_of_getElem? (i := 368) (by decide +kernel)
theorem hdV_X8_about : yX8_about.cls = RX8 ∧ yX8_about.cls ≠ "java/lang/invoke/MethodHandle" ∧ yX8_about.cls ≠ "java/lang/invoke/VarHandle" ∧ (parseMethodDescriptor yX8_about.desc).map (fun d => d.parameters.length) = some 1 := by decide +kernel
set_option maxHeartbeats 4000000 in
set_option maxRecDepth 100000 in
theorem c_L_about (l : Launch) (D : va_G) (cI cZ cF cL : ClassId) (rx : Nat) (tt a tr : Nat → Nat) (r3 rs rz : Nat) (b : Nat → Nat) (b0 s0 r5 r6 : Nat) (T : Nat → Nat → Nat) (w : Nat) (hT : FI T) (hw : w < 10) (oq : Nat) (fq : Nat → Int64) : CTL l D (tysX cI cZ cF cL) yL_about (wH yL_about cL_about 4 (some .int) [(0, 9, 12, 13)]) (rmF 4 87) [.ref rx, .int (nI w), .ref oq] (oX cL oq fq ++ ((xX rx tt a tr r3 rs rz b b0 s0 r5 r6 ++ fX cI a (T 0 0) (T 0 1) (T 0 2) (T 0 3) (T 0 4) (T 0 5) (T 1) (T 2) (T 3) (T 4) (T 5) (T 6) (T 7) (T 8)))) 0 0 (some (.int (nI 0))) (fun _ : Unit => (oX cL oq (vp_updL fq (nI 0).toNatClampNeg ((nI (abV T w))).toInt64) ++ ((xX rx tt a tr r3 rs rz b b0 s0 r5 r6 ++ fX cI a (T 0 0) (T 0 1) (T 0 2) (T 0 3) (T 0 4) (T 0 5) (T 1) (T 2) (T 3) (T 4) (T 5) (T 6) (T 7) (T 8))))) := by
  refine cl_in (cc := cL_about) (maxL := 4) (ret := (some .int)) (own := RL) (lv := [(0, .ref rx), (1, .int (nI w)), (2, .ref oq)]) (by decide +kernel) rfl rfl (Nat.le_of_ble_eq_true rfl) rfl ?_
  intro p e s m args below meth c A ls hx hb hr hml hts hown hlocks hK hA hP hD hS hl hKX htab
  refine lv_aload_n hx hb dL_about_0 rfl (lv_at hl 2 rfl) ?_
  refine lv_iconst (v := (nI 0)) hx hb dL_about_1 (by decide) ?_
  refine lv_aload_n hx hb dL_about_2 rfl (lv_at hl 0 rfl) ?_
  refine lv_iload_n hx hb dL_about_3 rfl (lv_at hl 1 rfl) ?_
  refine gp_V (ci := 8) (q0 := 0) (cq := (RX8, TX8, 11)) (c_X8_about l D cI cZ cF cL rx tt a tr r3 rs rz b b0 s0 r5 r6 T w hT hw) (gHV u_313 u_314 u_315 u_2 u_316) rfl hdV_X8_about ⟨Nat.le_of_ble_eq_true rfl, Nat.le_of_ble_eq_true rfl⟩ ⟨rfl, rfl⟩ hx hb hml hown hts hK hA hP hD hS hl.1 ⟨Nat.le_of_ble_eq_true rfl, Nat.le_of_ble_eq_true rfl⟩ rfl rfl rfl (wr := oX cL oq fq) (pm_cnt (fun _ => by simp only [List.countP_append, List.countP_nil, fT] <;> omega)) (fun _ => by simp only [List.map_append, List.map_nil, fX_m, bX_m, sX_m, pX_m, iaX_m, r5X_m, r6X_m, fT_m, hX_m, tX_m, xX_m, sgX_m, zaX_m, fsB_a]) (rest := [.int (nI 0), .ref oq]) rfl rfl (Nat.le_of_ble_eq_true rfl) dL_about_4 (ws2 := (fun _ : Unit => (oX cL oq fq ++ ((xX rx tt a tr r3 rs rz b b0 s0 r5 r6 ++ fX cI a (T 0 0) (T 0 1) (T 0 2) (T 0 3) (T 0 4) (T 0 5) (T 1) (T 2) (T 3) (T 4) (T 5) (T 6) (T 7) (T 8)))))) (fun _ => (pm_cnt (fun _ => by simp only [List.countP_append, List.countP_nil, fT] <;> omega))) (fun uz Hp locs hP hD hS => ?_)
  refine t_i2l hx hb dL_about_7 rfl ?_
  refine va_last hx hb hK.1 hP hD hS 0 3 rfl rfl cl_0 dL_about_8 (fun Hq locs1 hP hD hS => ?_)
  refine lv_goto (tgt := 15) hx hb dL_about_9 (by decide) ?_
  refine lv_iconst (v := (nI 0)) hx hb dL_about_15 (by decide) ?_
  exact cl_i uz hx hb hr hlocks hP hS rfl dL_about_16
theorem hdV_X8_house : yX8_house.cls = RX8 ∧ yX8_house.cls ≠ "java/lang/invoke/MethodHandle" ∧ yX8_house.cls ≠ "java/lang/invoke/VarHandle" ∧ (parseMethodDescriptor yX8_house.desc).map (fun d => d.parameters.length) = some 2 := by decide +kernel
set_option maxHeartbeats 4000000 in
set_option maxRecDepth 100000 in
theorem c_L_house (l : Launch) (D : va_G) (cI cZ cF cL : ClassId) (rx : Nat) (tt a tr : Nat → Nat) (r3 rs rz : Nat) (b : Nat → Nat) (b0 s0 r5 r6 : Nat) (T : Nat → Nat → Nat) (h w : Nat) (hT : FI T) (hh : h < T 0 0) (hw : w < 7) (oq : Nat) (fq : Nat → Int64) : CTL l D (tysX cI cZ cF cL) yL_house (wH yL_house cL_house 5 (some .int) [(0, 10, 13, 28), (0, 10, 17, 13)]) (rmF 3 66) [.ref rx, .int (nI h), .int (nI w), .ref oq] (oX cL oq fq ++ ((xX rx tt a tr r3 rs rz b b0 s0 r5 r6 ++ fX cI a (T 0 0) (T 0 1) (T 0 2) (T 0 3) (T 0 4) (T 0 5) (T 1) (T 2) (T 3) (T 4) (T 5) (T 6) (T 7) (T 8)))) 0 0 (some (.int (nI 0))) (fun _ : Unit => (oX cL oq (vp_updL fq (nI 0).toNatClampNeg ((nI (hoV T h w))).toInt64) ++ ((xX rx tt a tr r3 rs rz b b0 s0 r5 r6 ++ fX cI a (T 0 0) (T 0 1) (T 0 2) (T 0 3) (T 0 4) (T 0 5) (T 1) (T 2) (T 3) (T 4) (T 5) (T 6) (T 7) (T 8))))) := by
  refine cl_in (cc := cL_house) (maxL := 5) (ret := (some .int)) (own := RL) (lv := [(0, .ref rx), (1, .int (nI h)), (2, .int (nI w)), (3, .ref oq)]) (by decide +kernel) rfl rfl (Nat.le_of_ble_eq_true rfl) rfl ?_
  intro p e s m args below meth c A ls hx hb hr hml hts hown hlocks hK hA hP hD hS hl hKX htab
  refine lv_aload_n hx hb dL_house_0 rfl (lv_at hl 3 rfl) ?_
  refine lv_iconst (v := (nI 0)) hx hb dL_house_1 (by decide) ?_
  refine lv_aload_n hx hb dL_house_2 rfl (lv_at hl 0 rfl) ?_
  refine lv_iload_n hx hb dL_house_3 rfl (lv_at hl 1 rfl) ?_
  refine lv_iload_n hx hb dL_house_4 rfl (lv_at hl 2 rfl) ?_
  refine gp_V (ci := 8) (q0 := 0) (cq := (RX8, TX8, 11)) (c_X8_house l D cI cZ cF cL rx tt a tr r3 rs rz b b0 s0 r5 r6 T h w hT hh hw) (gHV u_369 u_370 u_371 u_2 u_372) rfl hdV_X8_house ⟨Nat.le_of_ble_eq_true rfl, Nat.le_of_ble_eq_true rfl⟩ ⟨rfl, rfl⟩ hx hb hml hown hts hK hA hP hD hS hl.1 ⟨Nat.le_of_ble_eq_true rfl, Nat.le_of_ble_eq_true rfl⟩ rfl rfl rfl (wr := oX cL oq fq) (pm_cnt (fun _ => by simp only [List.countP_append, List.countP_nil, fT] <;> omega)) (fun _ => by simp only [List.map_append, List.map_nil, fX_m, bX_m, sX_m, pX_m, iaX_m, r5X_m, r6X_m, fT_m, hX_m, tX_m, xX_m, sgX_m, zaX_m, fsB_a]) (rest := [.int (nI 0), .ref oq]) rfl rfl (Nat.le_of_ble_eq_true rfl) dL_house_5 (ws2 := (fun _ : Unit => (oX cL oq fq ++ ((xX rx tt a tr r3 rs rz b b0 s0 r5 r6 ++ fX cI a (T 0 0) (T 0 1) (T 0 2) (T 0 3) (T 0 4) (T 0 5) (T 1) (T 2) (T 3) (T 4) (T 5) (T 6) (T 7) (T 8)))))) (fun _ => (pm_cnt (fun _ => by simp only [List.countP_append, List.countP_nil, fT] <;> omega))) (fun uz Hp locs hP hD hS => ?_)
  refine t_i2l hx hb dL_house_8 rfl ?_
  refine va_last hx hb hK.1 hP hD hS 0 3 rfl rfl cl_0 dL_house_9 (fun Hq locs1 hP hD hS => ?_)
  refine lv_goto (tgt := 21) hx hb dL_house_10 (by decide) ?_
  refine lv_iconst (v := (nI 0)) hx hb dL_house_21 (by decide) ?_
  exact cl_i uz hx hb hr hlocks hP hS rfl dL_house_22
theorem hdV_X8_vegetable : yX8_vegetable.cls = RX8 ∧ yX8_vegetable.cls ≠ "java/lang/invoke/MethodHandle" ∧ yX8_vegetable.cls ≠ "java/lang/invoke/VarHandle" ∧ (parseMethodDescriptor yX8_vegetable.desc).map (fun d => d.parameters.length) = some 2 := by decide +kernel
set_option maxHeartbeats 4000000 in
set_option maxRecDepth 100000 in
theorem c_L_vegetable (l : Launch) (D : va_G) (cI cZ cF cL : ClassId) (rx : Nat) (tt a tr : Nat → Nat) (r3 rs rz : Nat) (b : Nat → Nat) (b0 s0 r5 r6 : Nat) (T : Nat → Nat → Nat) (kn kw : Int32) (v w : Nat) (hT : FI T) (hv : v < T 0 1) (hw : w < 4) (oq : Nat) (fq : Nat → Int64) : CTL l D (tysX cI cZ cF cL) yL_vegetable (wH yL_vegetable cL_vegetable 5 (some .int) [(0, 10, 13, 28), (0, 10, 17, 13)]) (rmF 3 66) [.ref rx, .int (nI v), .int (nI w), .ref oq] (oX cL oq fq ++ ((xX rx tt a tr r3 rs rz b b0 s0 r5 r6 ++ fX cI a (T 0 0) (T 0 1) (T 0 2) (T 0 3) (T 0 4) (T 0 5) (T 1) (T 2) (T 3) (T 4) (T 5) (T 6) (T 7) (T 8) ++ bX b0 kn kw))) 0 0 (some (.int (nI 0))) (fun _ : Unit => (oX cL oq (vp_updL fq (nI 0).toNatClampNeg ((veV T v kw w)).toInt64) ++ ((xX rx tt a tr r3 rs rz b b0 s0 r5 r6 ++ fX cI a (T 0 0) (T 0 1) (T 0 2) (T 0 3) (T 0 4) (T 0 5) (T 1) (T 2) (T 3) (T 4) (T 5) (T 6) (T 7) (T 8) ++ bX b0 (if w = 3 then (fonF T v kw (T 0 0)).1 else kn) (if w = 3 then (fonF T v kw (T 0 0)).2 else kw))))) := by
  refine cl_in (cc := cL_vegetable) (maxL := 5) (ret := (some .int)) (own := RL) (lv := [(0, .ref rx), (1, .int (nI v)), (2, .int (nI w)), (3, .ref oq)]) (by decide +kernel) rfl rfl (Nat.le_of_ble_eq_true rfl) rfl ?_
  intro p e s m args below meth c A ls hx hb hr hml hts hown hlocks hK hA hP hD hS hl hKX htab
  refine lv_aload_n hx hb dL_vegetable_0 rfl (lv_at hl 3 rfl) ?_
  refine lv_iconst (v := (nI 0)) hx hb dL_vegetable_1 (by decide) ?_
  refine lv_aload_n hx hb dL_vegetable_2 rfl (lv_at hl 0 rfl) ?_
  refine lv_iload_n hx hb dL_vegetable_3 rfl (lv_at hl 1 rfl) ?_
  refine lv_iload_n hx hb dL_vegetable_4 rfl (lv_at hl 2 rfl) ?_
  refine gp_V (ci := 8) (q0 := 0) (cq := (RX8, TX8, 11)) (c_X8_vegetable l D cI cZ cF cL rx tt a tr r3 rs rz b b0 s0 r5 r6 T kn kw v w hT hv hw) (gHV u_408 u_409 u_410 u_2 u_411) rfl hdV_X8_vegetable ⟨Nat.le_of_ble_eq_true rfl, Nat.le_of_ble_eq_true rfl⟩ ⟨rfl, rfl⟩ hx hb hml hown hts hK hA hP hD hS hl.1 ⟨Nat.le_of_ble_eq_true rfl, Nat.le_of_ble_eq_true rfl⟩ rfl rfl rfl (wr := oX cL oq fq) (pm_cnt (fun _ => by simp only [List.countP_append, List.countP_nil, fT] <;> omega)) (fun _ => by simp only [List.map_append, List.map_nil, fX_m, bX_m, sX_m, pX_m, iaX_m, r5X_m, r6X_m, fT_m, hX_m, tX_m, xX_m, sgX_m, zaX_m, fsB_a]) (rest := [.int (nI 0), .ref oq]) rfl rfl (Nat.le_of_ble_eq_true rfl) dL_vegetable_5 (ws2 := (fun _ : Unit => (oX cL oq fq ++ ((xX rx tt a tr r3 rs rz b b0 s0 r5 r6 ++ fX cI a (T 0 0) (T 0 1) (T 0 2) (T 0 3) (T 0 4) (T 0 5) (T 1) (T 2) (T 3) (T 4) (T 5) (T 6) (T 7) (T 8) ++ bX b0 (if w = 3 then (fonF T v kw (T 0 0)).1 else kn) (if w = 3 then (fonF T v kw (T 0 0)).2 else kw)))))) (fun _ => (pm_cnt (fun _ => by simp only [List.countP_append, List.countP_nil, fT] <;> omega))) (fun uz Hp locs hP hD hS => ?_)
  refine t_i2l hx hb dL_vegetable_8 rfl ?_
  refine va_last hx hb hK.1 hP hD hS 0 3 rfl rfl cl_0 dL_vegetable_9 (fun Hq locs1 hP hD hS => ?_)
  refine lv_goto (tgt := 21) hx hb dL_vegetable_10 (by decide) ?_
  refine lv_iconst (v := (nI 0)) hx hb dL_vegetable_21 (by decide) ?_
  exact cl_i uz hx hb hr hlocks hP hS rfl dL_vegetable_22
theorem hdV_X8_box : yX8_box.cls = RX8 ∧ yX8_box.cls ≠ "java/lang/invoke/MethodHandle" ∧ yX8_box.cls ≠ "java/lang/invoke/VarHandle" ∧ (parseMethodDescriptor yX8_box.desc).map (fun d => d.parameters.length) = some 2 := by decide +kernel
set_option maxHeartbeats 4000000 in
set_option maxRecDepth 100000 in
theorem c_L_box (l : Launch) (D : va_G) (cI cZ cF cL : ClassId) (rx : Nat) (tt a tr : Nat → Nat) (r3 rs rz : Nat) (b : Nat → Nat) (b0 s0 r5 r6 : Nat) (T : Nat → Nat → Nat) (h v : Nat) (hT : FI T) (hh : h < T 0 0) (hv : v < T 0 1) (oq : Nat) (fq : Nat → Int64) : CTL l D (tysX cI cZ cF cL) yL_box (wH yL_box cL_box 5 (some .int) [(0, 10, 13, 28)]) (rmF 3 64) [.ref rx, .int (nI h), .int (nI v), .ref oq] (oX cL oq fq ++ ((xX rx tt a tr r3 rs rz b b0 s0 r5 r6 ++ fX cI a (T 0 0) (T 0 1) (T 0 2) (T 0 3) (T 0 4) (T 0 5) (T 1) (T 2) (T 3) (T 4) (T 5) (T 6) (T 7) (T 8)))) 0 0 (some (.int (nI 0))) (fun _ : Unit => (oX cL oq (vp_updL fq (nI 0).toNatClampNeg ((nI (T 8 (h * 5 + v)))).toInt64) ++ ((xX rx tt a tr r3 rs rz b b0 s0 r5 r6 ++ fX cI a (T 0 0) (T 0 1) (T 0 2) (T 0 3) (T 0 4) (T 0 5) (T 1) (T 2) (T 3) (T 4) (T 5) (T 6) (T 7) (T 8))))) := by
  refine cl_in (cc := cL_box) (maxL := 5) (ret := (some .int)) (own := RL) (lv := [(0, .ref rx), (1, .int (nI h)), (2, .int (nI v)), (3, .ref oq)]) (by decide +kernel) rfl rfl (Nat.le_of_ble_eq_true rfl) rfl ?_
  intro p e s m args below meth c A ls hx hb hr hml hts hown hlocks hK hA hP hD hS hl hKX htab
  refine lv_aload_n hx hb dL_box_0 rfl (lv_at hl 3 rfl) ?_
  refine lv_iconst (v := (nI 0)) hx hb dL_box_1 (by decide) ?_
  refine lv_aload_n hx hb dL_box_2 rfl (lv_at hl 0 rfl) ?_
  refine lv_iload_n hx hb dL_box_3 rfl (lv_at hl 1 rfl) ?_
  refine lv_iload_n hx hb dL_box_4 rfl (lv_at hl 2 rfl) ?_
  refine gp_V (ci := 8) (q0 := 0) (cq := (RX8, TX8, 11)) (c_X8_box l D cI cZ cF cL rx tt a tr r3 rs rz b b0 s0 r5 r6 T h v hT hh hv) (gHV u_461 u_462 u_463 u_2 u_464) rfl hdV_X8_box ⟨Nat.le_of_ble_eq_true rfl, Nat.le_of_ble_eq_true rfl⟩ ⟨rfl, rfl⟩ hx hb hml hown hts hK hA hP hD hS hl.1 ⟨Nat.le_of_ble_eq_true rfl, Nat.le_of_ble_eq_true rfl⟩ rfl rfl rfl (wr := oX cL oq fq) (pm_cnt (fun _ => by simp only [List.countP_append, List.countP_nil, fT] <;> omega)) (fun _ => by simp only [List.map_append, List.map_nil, fX_m, bX_m, sX_m, pX_m, iaX_m, r5X_m, r6X_m, fT_m, hX_m, tX_m, xX_m, sgX_m, zaX_m, fsB_a]) (rest := [.int (nI 0), .ref oq]) rfl rfl (Nat.le_of_ble_eq_true rfl) dL_box_5 (ws2 := (fun _ : Unit => (oX cL oq fq ++ ((xX rx tt a tr r3 rs rz b b0 s0 r5 r6 ++ fX cI a (T 0 0) (T 0 1) (T 0 2) (T 0 3) (T 0 4) (T 0 5) (T 1) (T 2) (T 3) (T 4) (T 5) (T 6) (T 7) (T 8)))))) (fun _ => (pm_cnt (fun _ => by simp only [List.countP_append, List.countP_nil, fT] <;> omega))) (fun uz Hp locs hP hD hS => ?_)
  refine t_i2l hx hb dL_box_8 rfl ?_
  refine va_last hx hb hK.1 hP hD hS 0 3 rfl rfl cl_0 dL_box_9 (fun Hq locs1 hP hD hS => ?_)
  refine lv_goto (tgt := 17) hx hb dL_box_10 (by decide) ?_
  refine lv_iconst (v := (nI 0)) hx hb dL_box_17 (by decide) ?_
  exact cl_i uz hx hb hr hlocks hP hS rfl dL_box_18
theorem hdV_X8_liking : yX8_liking.cls = RX8 ∧ yX8_liking.cls ≠ "java/lang/invoke/MethodHandle" ∧ yX8_liking.cls ≠ "java/lang/invoke/VarHandle" ∧ (parseMethodDescriptor yX8_liking.desc).map (fun d => d.parameters.length) = some 2 := by decide +kernel
set_option maxHeartbeats 4000000 in
set_option maxRecDepth 100000 in
theorem c_L_liking (l : Launch) (D : va_G) (cI cZ cF cL : ClassId) (rx : Nat) (tt a tr : Nat → Nat) (r3 rs rz : Nat) (b : Nat → Nat) (b0 s0 r5 r6 : Nat) (T : Nat → Nat → Nat) (h v : Nat) (hT : FI T) (hh : h < T 0 0) (hv : v < T 0 1) (oq : Nat) (fq : Nat → Int64) : CTL l D (tysX cI cZ cF cL) yL_liking (wH yL_liking cL_liking 5 (some .int) [(0, 10, 13, 28)]) (rmF 3 64) [.ref rx, .int (nI h), .int (nI v), .ref oq] (oX cL oq fq ++ ((xX rx tt a tr r3 rs rz b b0 s0 r5 r6 ++ fX cI a (T 0 0) (T 0 1) (T 0 2) (T 0 3) (T 0 4) (T 0 5) (T 1) (T 2) (T 3) (T 4) (T 5) (T 6) (T 7) (T 8)))) 0 0 (some (.int (nI 0))) (fun _ : Unit => (oX cL oq (vp_updL fq (nI 0).toNatClampNeg ((nI (T 7 (h * 5 + v)))).toInt64) ++ ((xX rx tt a tr r3 rs rz b b0 s0 r5 r6 ++ fX cI a (T 0 0) (T 0 1) (T 0 2) (T 0 3) (T 0 4) (T 0 5) (T 1) (T 2) (T 3) (T 4) (T 5) (T 6) (T 7) (T 8))))) := by
  refine cl_in (cc := cL_liking) (maxL := 5) (ret := (some .int)) (own := RL) (lv := [(0, .ref rx), (1, .int (nI h)), (2, .int (nI v)), (3, .ref oq)]) (by decide +kernel) rfl rfl (Nat.le_of_ble_eq_true rfl) rfl ?_
  intro p e s m args below meth c A ls hx hb hr hml hts hown hlocks hK hA hP hD hS hl hKX htab
  refine lv_aload_n hx hb dL_liking_0 rfl (lv_at hl 3 rfl) ?_
  refine lv_iconst (v := (nI 0)) hx hb dL_liking_1 (by decide) ?_
  refine lv_aload_n hx hb dL_liking_2 rfl (lv_at hl 0 rfl) ?_
  refine lv_iload_n hx hb dL_liking_3 rfl (lv_at hl 1 rfl) ?_
  refine lv_iload_n hx hb dL_liking_4 rfl (lv_at hl 2 rfl) ?_
  refine gp_V (ci := 8) (q0 := 0) (cq := (RX8, TX8, 11)) (c_X8_liking l D cI cZ cF cL rx tt a tr r3 rs rz b b0 s0 r5 r6 T h v hT hh hv) (gHV u_473 u_474 u_475 u_2 u_476) rfl hdV_X8_liking ⟨Nat.le_of_ble_eq_true rfl, Nat.le_of_ble_eq_true rfl⟩ ⟨rfl, rfl⟩ hx hb hml hown hts hK hA hP hD hS hl.1 ⟨Nat.le_of_ble_eq_true rfl, Nat.le_of_ble_eq_true rfl⟩ rfl rfl rfl (wr := oX cL oq fq) (pm_cnt (fun _ => by simp only [List.countP_append, List.countP_nil, fT] <;> omega)) (fun _ => by simp only [List.map_append, List.map_nil, fX_m, bX_m, sX_m, pX_m, iaX_m, r5X_m, r6X_m, fT_m, hX_m, tX_m, xX_m, sgX_m, zaX_m, fsB_a]) (rest := [.int (nI 0), .ref oq]) rfl rfl (Nat.le_of_ble_eq_true rfl) dL_liking_5 (ws2 := (fun _ : Unit => (oX cL oq fq ++ ((xX rx tt a tr r3 rs rz b b0 s0 r5 r6 ++ fX cI a (T 0 0) (T 0 1) (T 0 2) (T 0 3) (T 0 4) (T 0 5) (T 1) (T 2) (T 3) (T 4) (T 5) (T 6) (T 7) (T 8)))))) (fun _ => (pm_cnt (fun _ => by simp only [List.countP_append, List.countP_nil, fT] <;> omega))) (fun uz Hp locs hP hD hS => ?_)
  refine t_i2l hx hb dL_liking_8 rfl ?_
  refine va_last hx hb hK.1 hP hD hS 0 3 rfl rfl cl_0 dL_liking_9 (fun Hq locs1 hP hD hS => ?_)
  refine lv_goto (tgt := 17) hx hb dL_liking_10 (by decide) ?_
  refine lv_iconst (v := (nI 0)) hx hb dL_liking_17 (by decide) ?_
  exact cl_i uz hx hb hr hlocks hP hS rfl dL_liking_18
theorem hdV_X8_order : yX8_order.cls = RX8 ∧ yX8_order.cls ≠ "java/lang/invoke/MethodHandle" ∧ yX8_order.cls ≠ "java/lang/invoke/VarHandle" ∧ (parseMethodDescriptor yX8_order.desc).map (fun d => d.parameters.length) = some 1 := by decide +kernel
set_option maxHeartbeats 4000000 in
set_option maxRecDepth 100000 in
theorem c_L_order (l : Launch) (D : va_G) (cI cZ cF cL : ClassId) (rx : Nat) (tt a tr : Nat → Nat) (r3 rs rz : Nat) (b : Nat → Nat) (b0 s0 r5 r6 : Nat) (T : Nat → Nat → Nat) (p0 : Nat) (hT : FI T) (hp : p0 < 2 ^ 31) (oq : Nat) (fq : Nat → Int64) : CTL l D (tysX cI cZ cF cL) yL_order (wH yL_order cL_order 4 (some .int) [(0, 9, 12, 13)]) (rmF 4 91) [.ref rx, .int (nI p0), .ref oq] (oX cL oq fq ++ ((xX rx tt a tr r3 rs rz b b0 s0 r5 r6 ++ fX cI a (T 0 0) (T 0 1) (T 0 2) (T 0 3) (T 0 4) (T 0 5) (T 1) (T 2) (T 3) (T 4) (T 5) (T 6) (T 7) (T 8)))) 0 0 (some (.int (nI 0))) (fun _ : Unit => (oX cL oq (vp_updL fq (nI 0).toNatClampNeg ((ordF T p0 (T 0 0) 0)).toInt64) ++ ((xX rx tt a tr r3 rs rz b b0 s0 r5 r6 ++ fX cI a (T 0 0) (T 0 1) (T 0 2) (T 0 3) (T 0 4) (T 0 5) (T 1) (T 2) (T 3) (T 4) (T 5) (T 6) (T 7) (T 8))))) := by
  refine cl_in (cc := cL_order) (maxL := 4) (ret := (some .int)) (own := RL) (lv := [(0, .ref rx), (1, .int (nI p0)), (2, .ref oq)]) (by decide +kernel) rfl rfl (Nat.le_of_ble_eq_true rfl) rfl ?_
  intro p e s m args below meth c A ls hx hb hr hml hts hown hlocks hK hA hP hD hS hl hKX htab
  refine lv_aload_n hx hb dL_order_0 rfl (lv_at hl 2 rfl) ?_
  refine lv_iconst (v := (nI 0)) hx hb dL_order_1 (by decide) ?_
  refine lv_aload_n hx hb dL_order_2 rfl (lv_at hl 0 rfl) ?_
  refine lv_iload_n hx hb dL_order_3 rfl (lv_at hl 1 rfl) ?_
  refine gp_V (ci := 8) (q0 := 0) (cq := (RX8, TX8, 11)) (c_X8_order l D cI cZ cF cL rx tt a tr r3 rs rz b b0 s0 r5 r6 T p0 hT hp) (gHV u_484 u_485 u_486 u_2 u_487) rfl hdV_X8_order ⟨Nat.le_of_ble_eq_true rfl, Nat.le_of_ble_eq_true rfl⟩ ⟨rfl, rfl⟩ hx hb hml hown hts hK hA hP hD hS hl.1 ⟨Nat.le_of_ble_eq_true rfl, Nat.le_of_ble_eq_true rfl⟩ rfl rfl rfl (wr := oX cL oq fq) (pm_cnt (fun _ => by simp only [List.countP_append, List.countP_nil, fT] <;> omega)) (fun _ => by simp only [List.map_append, List.map_nil, fX_m, bX_m, sX_m, pX_m, iaX_m, r5X_m, r6X_m, fT_m, hX_m, tX_m, xX_m, sgX_m, zaX_m, fsB_a]) (rest := [.int (nI 0), .ref oq]) rfl rfl (Nat.le_of_ble_eq_true rfl) dL_order_4 (ws2 := (fun _ : Unit => (oX cL oq fq ++ ((xX rx tt a tr r3 rs rz b b0 s0 r5 r6 ++ fX cI a (T 0 0) (T 0 1) (T 0 2) (T 0 3) (T 0 4) (T 0 5) (T 1) (T 2) (T 3) (T 4) (T 5) (T 6) (T 7) (T 8)))))) (fun _ => (pm_cnt (fun _ => by simp only [List.countP_append, List.countP_nil, fT] <;> omega))) (fun uz Hp locs hP hD hS => ?_)
  refine t_i2l hx hb dL_order_7 rfl ?_
  refine va_last hx hb hK.1 hP hD hS 0 3 rfl rfl cl_0 dL_order_8 (fun Hq locs1 hP hD hS => ?_)
  refine lv_goto (tgt := 15) hx hb dL_order_9 (by decide) ?_
  refine lv_iconst (v := (nI 0)) hx hb dL_order_15 (by decide) ?_
  exact cl_i uz hx hb hr hlocks hP hS rfl dL_order_16
theorem hdV_X8_addHouse : yX8_addHouse.cls = RX8 ∧ yX8_addHouse.cls ≠ "java/lang/invoke/MethodHandle" ∧ yX8_addHouse.cls ≠ "java/lang/invoke/VarHandle" ∧ (parseMethodDescriptor yX8_addHouse.desc).map (fun d => d.parameters.length) = some 1 := by decide +kernel
set_option maxHeartbeats 4000000 in
set_option maxRecDepth 100000 in
theorem c_L_addHouse (l : Launch) (D : va_G) (cI cZ cF cL : ClassId) (rx : Nat) (tt a tr : Nat → Nat) (r3 rs rz : Nat) (b : Nat → Nat) (b0 s0 r5 r6 : Nat) (ra : Nat) (pa : Nat → Nat → Nat) (cnt nx : Nat) (Ts : Nat → Nat → Nat → Nat) (T : Nat → Nat → Nat) (z : Nat) (hc : cnt ≤ 14) (hn : nx < 14) (hT : FI T) (h1z : 1 ≤ z) (hz : z ≤ 4) (hH6 : T 0 0 < 6) (oq : Nat) (fq : Nat → Int64) : CTL l D (tysX cI cZ cF cL) yL_addHouse (wH yL_addHouse cL_addHouse 4 (some .int) [(0, 9, 12, 13), (0, 9, 15, 15)]) (rmF 4 123) [.ref rx, .int (nI z), .ref oq] (oX cL oq fq ++ ((xX rx tt a tr r3 rs rz b b0 s0 r5 r6 ++ hX cF r3 ra pa cnt nx ++ fX cI a (T 0 0) (T 0 1) (T 0 2) (T 0 3) (T 0 4) (T 0 5) (T 1) (T 2) (T 3) (T 4) (T 5) (T 6) (T 7) (T 8) ++ fsB cI pa Ts 14))) 0 0 (some (.int (nI 0))) (fun _ : Unit => (oX cL oq (vp_updL fq (nI 0).toNatClampNeg ((nI (T 0 0))).toInt64) ++ ((xX rx tt a tr r3 rs rz b b0 s0 r5 r6 ++ hX cF r3 ra pa (if cnt < 14 then cnt + 1 else cnt) ((nx + 1) % 14) ++ fX cI a ((ahT T z 0) 0 0) ((ahT T z 0) 0 1) ((ahT T z 0) 0 2) ((ahT T z 0) 0 3) ((ahT T z 0) 0 4) ((ahT T z 0) 0 5) ((ahT T z 0) 1) ((ahT T z 0) 2) ((ahT T z 0) 3) ((ahT T z 0) 4) ((ahT T z 0) 5) ((ahT T z 0) 6) ((ahT T z 0) 7) ((ahT T z 0) 8) ++ fsB cI pa (va_up Ts nx T) 14)))) := by
  refine cl_in (cc := cL_addHouse) (maxL := 4) (ret := (some .int)) (own := RL) (lv := [(0, .ref rx), (1, .int (nI z)), (2, .ref oq)]) (by decide +kernel) rfl rfl (Nat.le_of_ble_eq_true rfl) rfl ?_
  intro p e s m args below meth c A ls hx hb hr hml hts hown hlocks hK hA hP hD hS hl hKX htab
  refine lv_aload_n hx hb dL_addHouse_0 rfl (lv_at hl 2 rfl) ?_
  refine lv_iconst (v := (nI 0)) hx hb dL_addHouse_1 (by decide) ?_
  refine lv_aload_n hx hb dL_addHouse_2 rfl (lv_at hl 0 rfl) ?_
  refine lv_iload_n hx hb dL_addHouse_3 rfl (lv_at hl 1 rfl) ?_
  refine gp_V (ci := 8) (q0 := 0) (cq := (RX8, TX8, 11)) (c_X8_addHouse l D cI cZ cF cL rx tt a tr r3 rs rz b b0 s0 r5 r6 ra pa cnt nx Ts T z hc hn hT h1z hz hH6) (gHV u_500 u_501 u_502 u_2 u_503) rfl hdV_X8_addHouse ⟨Nat.le_of_ble_eq_true rfl, Nat.le_of_ble_eq_true rfl⟩ ⟨rfl, rfl⟩ hx hb hml hown hts hK hA hP hD hS hl.1 ⟨Nat.le_of_ble_eq_true rfl, Nat.le_of_ble_eq_true rfl⟩ rfl rfl rfl (wr := oX cL oq fq) (pm_cnt (fun _ => by simp only [List.countP_append, List.countP_nil, fT] <;> omega)) (fun _ => by simp only [List.map_append, List.map_nil, fX_m, bX_m, sX_m, pX_m, iaX_m, r5X_m, r6X_m, fT_m, hX_m, tX_m, xX_m, sgX_m, zaX_m, fsB_a]) (rest := [.int (nI 0), .ref oq]) rfl rfl (Nat.le_of_ble_eq_true rfl) dL_addHouse_4 (ws2 := (fun _ : Unit => (oX cL oq fq ++ ((xX rx tt a tr r3 rs rz b b0 s0 r5 r6 ++ hX cF r3 ra pa (if cnt < 14 then cnt + 1 else cnt) ((nx + 1) % 14) ++ fX cI a ((ahT T z 0) 0 0) ((ahT T z 0) 0 1) ((ahT T z 0) 0 2) ((ahT T z 0) 0 3) ((ahT T z 0) 0 4) ((ahT T z 0) 0 5) ((ahT T z 0) 1) ((ahT T z 0) 2) ((ahT T z 0) 3) ((ahT T z 0) 4) ((ahT T z 0) 5) ((ahT T z 0) 6) ((ahT T z 0) 7) ((ahT T z 0) 8) ++ fsB cI pa (va_up Ts nx T) 14))))) (fun _ => (pm_cnt (fun _ => by simp only [List.countP_append, List.countP_nil, fT] <;> omega))) (fun uz Hp locs hP hD hS => ?_)
  refine t_i2l hx hb dL_addHouse_7 rfl ?_
  refine va_last hx hb hK.1 hP hD hS 0 3 rfl rfl cl_0 dL_addHouse_8 (fun Hq locs1 hP hD hS => ?_)
  refine lv_goto (tgt := 18) hx hb dL_addHouse_9 (by decide) ?_
  refine lv_iconst (v := (nI 0)) hx hb dL_addHouse_18 (by decide) ?_
  exact cl_i uz hx hb hr hlocks hP hS rfl dL_addHouse_19
theorem hdV_X8_addVegetable : yX8_addVegetable.cls = RX8 ∧ yX8_addVegetable.cls ≠ "java/lang/invoke/MethodHandle" ∧ yX8_addVegetable.cls ≠ "java/lang/invoke/VarHandle" ∧ (parseMethodDescriptor yX8_addVegetable.desc).map (fun d => d.parameters.length) = some 1 := by decide +kernel
set_option maxHeartbeats 4000000 in
set_option maxRecDepth 100000 in
theorem c_L_addVegetable (l : Launch) (D : va_G) (cI cZ cF cL : ClassId) (rx : Nat) (tt a tr : Nat → Nat) (r3 rs rz : Nat) (b : Nat → Nat) (b0 s0 r5 r6 : Nat) (ra : Nat) (pa : Nat → Nat → Nat) (cnt nx : Nat) (Ts : Nat → Nat → Nat → Nat) (T : Nat → Nat → Nat) (z : Nat) (hc : cnt ≤ 14) (hn : nx < 14) (hT : FI T) (hz : z ≤ 40) (hV5 : T 0 1 < 5) (oq : Nat) (fq : Nat → Int64) : CTL l D (tysX cI cZ cF cL) yL_addVegetable (wH yL_addVegetable cL_addVegetable 4 (some .int) [(0, 9, 12, 13), (0, 9, 15, 15)]) (rmF 4 123) [.ref rx, .int (nI z), .ref oq] (oX cL oq fq ++ ((xX rx tt a tr r3 rs rz b b0 s0 r5 r6 ++ hX cF r3 ra pa cnt nx ++ fX cI a (T 0 0) (T 0 1) (T 0 2) (T 0 3) (T 0 4) (T 0 5) (T 1) (T 2) (T 3) (T 4) (T 5) (T 6) (T 7) (T 8) ++ fsB cI pa Ts 14))) 0 0 (some (.int (nI 0))) (fun _ : Unit => (oX cL oq (vp_updL fq (nI 0).toNatClampNeg ((nI (T 0 1))).toInt64) ++ ((xX rx tt a tr r3 rs rz b b0 s0 r5 r6 ++ hX cF r3 ra pa (if cnt < 14 then cnt + 1 else cnt) ((nx + 1) % 14) ++ fX cI a ((avT T z) 0 0) ((avT T z) 0 1) ((avT T z) 0 2) ((avT T z) 0 3) ((avT T z) 0 4) ((avT T z) 0 5) ((avT T z) 1) ((avT T z) 2) ((avT T z) 3) ((avT T z) 4) ((avT T z) 5) ((avT T z) 6) ((avT T z) 7) ((avT T z) 8) ++ fsB cI pa (va_up Ts nx T) 14)))) := by
  refine cl_in (cc := cL_addVegetable) (maxL := 4) (ret := (some .int)) (own := RL) (lv := [(0, .ref rx), (1, .int (nI z)), (2, .ref oq)]) (by decide +kernel) rfl rfl (Nat.le_of_ble_eq_true rfl) rfl ?_
  intro p e s m args below meth c A ls hx hb hr hml hts hown hlocks hK hA hP hD hS hl hKX htab
  refine lv_aload_n hx hb dL_addVegetable_0 rfl (lv_at hl 2 rfl) ?_
  refine lv_iconst (v := (nI 0)) hx hb dL_addVegetable_1 (by decide) ?_
  refine lv_aload_n hx hb dL_addVegetable_2 rfl (lv_at hl 0 rfl) ?_
  refine lv_iload_n hx hb dL_addVegetable_3 rfl (lv_at hl 1 rfl) ?_
  refine gp_V (ci := 8) (q0 := 0) (cq := (RX8, TX8, 11)) (c_X8_addVegetable l D cI cZ cF cL rx tt a tr r3 rs rz b b0 s0 r5 r6 ra pa cnt nx Ts T z hc hn hT hz hV5) (gHV u_522 u_523 u_524 u_2 u_525) rfl hdV_X8_addVegetable ⟨Nat.le_of_ble_eq_true rfl, Nat.le_of_ble_eq_true rfl⟩ ⟨rfl, rfl⟩ hx hb hml hown hts hK hA hP hD hS hl.1 ⟨Nat.le_of_ble_eq_true rfl, Nat.le_of_ble_eq_true rfl⟩ rfl rfl rfl (wr := oX cL oq fq) (pm_cnt (fun _ => by simp only [List.countP_append, List.countP_nil, fT] <;> omega)) (fun _ => by simp only [List.map_append, List.map_nil, fX_m, bX_m, sX_m, pX_m, iaX_m, r5X_m, r6X_m, fT_m, hX_m, tX_m, xX_m, sgX_m, zaX_m, fsB_a]) (rest := [.int (nI 0), .ref oq]) rfl rfl (Nat.le_of_ble_eq_true rfl) dL_addVegetable_4 (ws2 := (fun _ : Unit => (oX cL oq fq ++ ((xX rx tt a tr r3 rs rz b b0 s0 r5 r6 ++ hX cF r3 ra pa (if cnt < 14 then cnt + 1 else cnt) ((nx + 1) % 14) ++ fX cI a ((avT T z) 0 0) ((avT T z) 0 1) ((avT T z) 0 2) ((avT T z) 0 3) ((avT T z) 0 4) ((avT T z) 0 5) ((avT T z) 1) ((avT T z) 2) ((avT T z) 3) ((avT T z) 4) ((avT T z) 5) ((avT T z) 6) ((avT T z) 7) ((avT T z) 8) ++ fsB cI pa (va_up Ts nx T) 14))))) (fun _ => (pm_cnt (fun _ => by simp only [List.countP_append, List.countP_nil, fT] <;> omega))) (fun uz Hp locs hP hD hS => ?_)
  refine t_i2l hx hb dL_addVegetable_7 rfl ?_
  refine va_last hx hb hK.1 hP hD hS 0 3 rfl rfl cl_0 dL_addVegetable_8 (fun Hq locs1 hP hD hS => ?_)
  refine lv_goto (tgt := 18) hx hb dL_addVegetable_9 (by decide) ?_
  refine lv_iconst (v := (nI 0)) hx hb dL_addVegetable_18 (by decide) ?_
  exact cl_i uz hx hb hr hlocks hP hS rfl dL_addVegetable_19
theorem hdV_X8_setHarvest : yX8_setHarvest.cls = RX8 ∧ yX8_setHarvest.cls ≠ "java/lang/invoke/MethodHandle" ∧ yX8_setHarvest.cls ≠ "java/lang/invoke/VarHandle" ∧ (parseMethodDescriptor yX8_setHarvest.desc).map (fun d => d.parameters.length) = some 2 := by decide +kernel
set_option maxHeartbeats 4000000 in
set_option maxRecDepth 100000 in
theorem c_L_setHarvest (l : Launch) (D : va_G) (cI cZ cF cL : ClassId) (rx : Nat) (tt a tr : Nat → Nat) (r3 rs rz : Nat) (b : Nat → Nat) (b0 s0 r5 r6 : Nat) (ra : Nat) (pa : Nat → Nat → Nat) (cnt nx : Nat) (Ts : Nat → Nat → Nat → Nat) (T : Nat → Nat → Nat) (v n : Nat) (hc : cnt ≤ 14) (hn : nx < 14) (hT : FI T) (hv : v < T 0 1) (hn40 : n ≤ 40) (oq : Nat) (fq : Nat → Int64) : CTL l D (tysX cI cZ cF cL) yL_setHarvest (wH yL_setHarvest cL_setHarvest 5 (some .int) [(0, 10, 13, 28), (0, 10, 17, 13)]) (rmF 4 125) [.ref rx, .int (nI v), .int (nI n), .ref oq] (oX cL oq fq ++ ((xX rx tt a tr r3 rs rz b b0 s0 r5 r6 ++ hX cF r3 ra pa cnt nx ++ fX cI a (T 0 0) (T 0 1) (T 0 2) (T 0 3) (T 0 4) (T 0 5) (T 1) (T 2) (T 3) (T 4) (T 5) (T 6) (T 7) (T 8) ++ fsB cI pa Ts 14))) 0 0 (some (.int (nI 0))) (fun _ : Unit => (oX cL oq (vp_updL fq (nI 0).toNatClampNeg ((nI (T 5 v))).toInt64) ++ ((xX rx tt a tr r3 rs rz b b0 s0 r5 r6 ++ hX cF r3 ra pa (if cnt < 14 then cnt + 1 else cnt) ((nx + 1) % 14) ++ fX cI a ((hvT T v n) 0 0) ((hvT T v n) 0 1) ((hvT T v n) 0 2) ((hvT T v n) 0 3) ((hvT T v n) 0 4) ((hvT T v n) 0 5) ((hvT T v n) 1) ((hvT T v n) 2) ((hvT T v n) 3) ((hvT T v n) 4) ((hvT T v n) 5) ((hvT T v n) 6) ((hvT T v n) 7) ((hvT T v n) 8) ++ fsB cI pa (va_up Ts nx T) 14)))) := by
  refine cl_in (cc := cL_setHarvest) (maxL := 5) (ret := (some .int)) (own := RL) (lv := [(0, .ref rx), (1, .int (nI v)), (2, .int (nI n)), (3, .ref oq)]) (by decide +kernel) rfl rfl (Nat.le_of_ble_eq_true rfl) rfl ?_
  intro p e s m args below meth c A ls hx hb hr hml hts hown hlocks hK hA hP hD hS hl hKX htab
  refine lv_aload_n hx hb dL_setHarvest_0 rfl (lv_at hl 3 rfl) ?_
  refine lv_iconst (v := (nI 0)) hx hb dL_setHarvest_1 (by decide) ?_
  refine lv_aload_n hx hb dL_setHarvest_2 rfl (lv_at hl 0 rfl) ?_
  refine lv_iload_n hx hb dL_setHarvest_3 rfl (lv_at hl 1 rfl) ?_
  refine lv_iload_n hx hb dL_setHarvest_4 rfl (lv_at hl 2 rfl) ?_
  refine gp_V (ci := 8) (q0 := 0) (cq := (RX8, TX8, 11)) (c_X8_setHarvest l D cI cZ cF cL rx tt a tr r3 rs rz b b0 s0 r5 r6 ra pa cnt nx Ts T v n hc hn hT hv hn40) (gHV u_534 u_535 u_536 u_2 u_537) rfl hdV_X8_setHarvest ⟨Nat.le_of_ble_eq_true rfl, Nat.le_of_ble_eq_true rfl⟩ ⟨rfl, rfl⟩ hx hb hml hown hts hK hA hP hD hS hl.1 ⟨Nat.le_of_ble_eq_true rfl, Nat.le_of_ble_eq_true rfl⟩ rfl rfl rfl (wr := oX cL oq fq) (pm_cnt (fun _ => by simp only [List.countP_append, List.countP_nil, fT] <;> omega)) (fun _ => by simp only [List.map_append, List.map_nil, fX_m, bX_m, sX_m, pX_m, iaX_m, r5X_m, r6X_m, fT_m, hX_m, tX_m, xX_m, sgX_m, zaX_m, fsB_a]) (rest := [.int (nI 0), .ref oq]) rfl rfl (Nat.le_of_ble_eq_true rfl) dL_setHarvest_5 (ws2 := (fun _ : Unit => (oX cL oq fq ++ ((xX rx tt a tr r3 rs rz b b0 s0 r5 r6 ++ hX cF r3 ra pa (if cnt < 14 then cnt + 1 else cnt) ((nx + 1) % 14) ++ fX cI a ((hvT T v n) 0 0) ((hvT T v n) 0 1) ((hvT T v n) 0 2) ((hvT T v n) 0 3) ((hvT T v n) 0 4) ((hvT T v n) 0 5) ((hvT T v n) 1) ((hvT T v n) 2) ((hvT T v n) 3) ((hvT T v n) 4) ((hvT T v n) 5) ((hvT T v n) 6) ((hvT T v n) 7) ((hvT T v n) 8) ++ fsB cI pa (va_up Ts nx T) 14))))) (fun _ => (pm_cnt (fun _ => by simp only [List.countP_append, List.countP_nil, fT] <;> omega))) (fun uz Hp locs hP hD hS => ?_)
  refine t_i2l hx hb dL_setHarvest_8 rfl ?_
  refine va_last hx hb hK.1 hP hD hS 0 3 rfl rfl cl_0 dL_setHarvest_9 (fun Hq locs1 hP hD hS => ?_)
  refine lv_goto (tgt := 21) hx hb dL_setHarvest_10 (by decide) ?_
  refine lv_iconst (v := (nI 0)) hx hb dL_setHarvest_21 (by decide) ?_
  exact cl_i uz hx hb hr hlocks hP hS rfl dL_setHarvest_22
theorem hdV_X8_setLiking : yX8_setLiking.cls = RX8 ∧ yX8_setLiking.cls ≠ "java/lang/invoke/MethodHandle" ∧ yX8_setLiking.cls ≠ "java/lang/invoke/VarHandle" ∧ (parseMethodDescriptor yX8_setLiking.desc).map (fun d => d.parameters.length) = some 3 := by decide +kernel
set_option maxHeartbeats 4000000 in
set_option maxRecDepth 100000 in
theorem c_L_setLiking (l : Launch) (D : va_G) (cI cZ cF cL : ClassId) (rx : Nat) (tt a tr : Nat → Nat) (r3 rs rz : Nat) (b : Nat → Nat) (b0 s0 r5 r6 : Nat) (ra : Nat) (pa : Nat → Nat → Nat) (cnt nx : Nat) (Ts : Nat → Nat → Nat → Nat) (T : Nat → Nat → Nat) (h v n : Nat) (hc : cnt ≤ 14) (hn : nx < 14) (hT : FI T) (hh : h < T 0 0) (hv : v < T 0 1) (hn9 : n ≤ 9) (oq : Nat) (fq : Nat → Int64) : CTL l D (tysX cI cZ cF cL) yL_setLiking (wH yL_setLiking cL_setLiking 6 (some .int) [(0, 12, 15, 28), (0, 12, 19, 13)]) (rmF 4 126) [.ref rx, .int (nI h), .int (nI v), .int (nI n), .ref oq] (oX cL oq fq ++ ((xX rx tt a tr r3 rs rz b b0 s0 r5 r6 ++ hX cF r3 ra pa cnt nx ++ fX cI a (T 0 0) (T 0 1) (T 0 2) (T 0 3) (T 0 4) (T 0 5) (T 1) (T 2) (T 3) (T 4) (T 5) (T 6) (T 7) (T 8) ++ fsB cI pa Ts 14))) 0 0 (some (.int (nI 0))) (fun _ : Unit => (oX cL oq (vp_updL fq (nI 0).toNatClampNeg ((nI (T 7 (h * 5 + v)))).toInt64) ++ ((xX rx tt a tr r3 rs rz b b0 s0 r5 r6 ++ hX cF r3 ra pa (if cnt < 14 then cnt + 1 else cnt) ((nx + 1) % 14) ++ fX cI a ((lkT T h v n) 0 0) ((lkT T h v n) 0 1) ((lkT T h v n) 0 2) ((lkT T h v n) 0 3) ((lkT T h v n) 0 4) ((lkT T h v n) 0 5) ((lkT T h v n) 1) ((lkT T h v n) 2) ((lkT T h v n) 3) ((lkT T h v n) 4) ((lkT T h v n) 5) ((lkT T h v n) 6) ((lkT T h v n) 7) ((lkT T h v n) 8) ++ fsB cI pa (va_up Ts nx T) 14)))) := by
  refine cl_in (cc := cL_setLiking) (maxL := 6) (ret := (some .int)) (own := RL) (lv := [(0, .ref rx), (1, .int (nI h)), (2, .int (nI v)), (3, .int (nI n)), (4, .ref oq)]) (by decide +kernel) rfl rfl (Nat.le_of_ble_eq_true rfl) rfl ?_
  intro p e s m args below meth c A ls hx hb hr hml hts hown hlocks hK hA hP hD hS hl hKX htab
  refine lv_aload hx hb dL_setLiking_0 (lv_at hl 4 rfl) ?_
  refine lv_iconst (v := (nI 0)) hx hb dL_setLiking_2 (by decide) ?_
  refine lv_aload_n hx hb dL_setLiking_3 rfl (lv_at hl 0 rfl) ?_
  refine lv_iload_n hx hb dL_setLiking_4 rfl (lv_at hl 1 rfl) ?_
  refine lv_iload_n hx hb dL_setLiking_5 rfl (lv_at hl 2 rfl) ?_
  refine lv_iload_n hx hb dL_setLiking_6 rfl (lv_at hl 3 rfl) ?_
  refine gp_V (ci := 8) (q0 := 0) (cq := (RX8, TX8, 11)) (c_X8_setLiking l D cI cZ cF cL rx tt a tr r3 rs rz b b0 s0 r5 r6 ra pa cnt nx Ts T h v n hc hn hT hh hv hn9) (gHV u_549 u_550 u_551 u_2 u_552) rfl hdV_X8_setLiking ⟨Nat.le_of_ble_eq_true rfl, Nat.le_of_ble_eq_true rfl⟩ ⟨rfl, rfl⟩ hx hb hml hown hts hK hA hP hD hS hl.1 ⟨Nat.le_of_ble_eq_true rfl, Nat.le_of_ble_eq_true rfl⟩ rfl rfl rfl (wr := oX cL oq fq) (pm_cnt (fun _ => by simp only [List.countP_append, List.countP_nil, fT] <;> omega)) (fun _ => by simp only [List.map_append, List.map_nil, fX_m, bX_m, sX_m, pX_m, iaX_m, r5X_m, r6X_m, fT_m, hX_m, tX_m, xX_m, sgX_m, zaX_m, fsB_a]) (rest := [.int (nI 0), .ref oq]) rfl rfl (Nat.le_of_ble_eq_true rfl) dL_setLiking_7 (ws2 := (fun _ : Unit => (oX cL oq fq ++ ((xX rx tt a tr r3 rs rz b b0 s0 r5 r6 ++ hX cF r3 ra pa (if cnt < 14 then cnt + 1 else cnt) ((nx + 1) % 14) ++ fX cI a ((lkT T h v n) 0 0) ((lkT T h v n) 0 1) ((lkT T h v n) 0 2) ((lkT T h v n) 0 3) ((lkT T h v n) 0 4) ((lkT T h v n) 0 5) ((lkT T h v n) 1) ((lkT T h v n) 2) ((lkT T h v n) 3) ((lkT T h v n) 4) ((lkT T h v n) 5) ((lkT T h v n) 6) ((lkT T h v n) 7) ((lkT T h v n) 8) ++ fsB cI pa (va_up Ts nx T) 14))))) (fun _ => (pm_cnt (fun _ => by simp only [List.countP_append, List.countP_nil, fT] <;> omega))) (fun uz Hp locs hP hD hS => ?_)
  refine t_i2l hx hb dL_setLiking_10 rfl ?_
  refine va_last hx hb hK.1 hP hD hS 0 3 rfl rfl cl_0 dL_setLiking_11 (fun Hq locs1 hP hD hS => ?_)
  refine lv_goto (tgt := 23) hx hb dL_setLiking_12 (by decide) ?_
  refine lv_iconst (v := (nI 0)) hx hb dL_setLiking_23 (by decide) ?_
  exact cl_i uz hx hb hr hlocks hP hS rfl dL_setLiking_24
theorem hdV_X8_skip : yX8_skip.cls = RX8 ∧ yX8_skip.cls ≠ "java/lang/invoke/MethodHandle" ∧ yX8_skip.cls ≠ "java/lang/invoke/VarHandle" ∧ (parseMethodDescriptor yX8_skip.desc).map (fun d => d.parameters.length) = some 2 := by decide +kernel
set_option maxHeartbeats 4000000 in
set_option maxRecDepth 100000 in
theorem c_L_skip (l : Launch) (D : va_G) (cI cZ cF cL : ClassId) (rx : Nat) (tt a tr : Nat → Nat) (r3 rs rz : Nat) (b : Nat → Nat) (b0 s0 r5 r6 : Nat) (ra : Nat) (pa : Nat → Nat → Nat) (cnt nx : Nat) (Ts : Nat → Nat → Nat → Nat) (T : Nat → Nat → Nat) (h z : Nat) (hc : cnt ≤ 14) (hn : nx < 14) (hT : FI T) (hh : h < T 0 0) (hz : z ≤ 1) (oq : Nat) (fq : Nat → Int64) : CTL l D (tysX cI cZ cF cL) yL_skip (wH yL_skip cL_skip 5 (some .int) [(0, 10, 13, 28)]) (rmF 4 124) [.ref rx, .int (nI h), .int (nI z), .ref oq] (oX cL oq fq ++ ((xX rx tt a tr r3 rs rz b b0 s0 r5 r6 ++ hX cF r3 ra pa cnt nx ++ fX cI a (T 0 0) (T 0 1) (T 0 2) (T 0 3) (T 0 4) (T 0 5) (T 1) (T 2) (T 3) (T 4) (T 5) (T 6) (T 7) (T 8) ++ fsB cI pa Ts 14))) 0 0 (some (.int (nI 0))) (fun _ : Unit => (oX cL oq (vp_updL fq (nI 0).toNatClampNeg ((nI (boxT (skT T h z)))).toInt64) ++ ((xX rx tt a tr r3 rs rz b b0 s0 r5 r6 ++ hX cF r3 ra pa (if cnt < 14 then cnt + 1 else cnt) ((nx + 1) % 14) ++ fX cI a ((skT T h z) 0 0) ((skT T h z) 0 1) ((skT T h z) 0 2) ((skT T h z) 0 3) ((skT T h z) 0 4) ((skT T h z) 0 5) ((skT T h z) 1) ((skT T h z) 2) ((skT T h z) 3) ((skT T h z) 4) ((skT T h z) 5) ((skT T h z) 6) ((skT T h z) 7) ((skT T h z) 8) ++ fsB cI pa (va_up Ts nx T) 14)))) := by
  refine cl_in (cc := cL_skip) (maxL := 5) (ret := (some .int)) (own := RL) (lv := [(0, .ref rx), (1, .int (nI h)), (2, .int (nI z)), (3, .ref oq)]) (by decide +kernel) rfl rfl (Nat.le_of_ble_eq_true rfl) rfl ?_
  intro p e s m args below meth c A ls hx hb hr hml hts hown hlocks hK hA hP hD hS hl hKX htab
  refine lv_aload_n hx hb dL_skip_0 rfl (lv_at hl 3 rfl) ?_
  refine lv_iconst (v := (nI 0)) hx hb dL_skip_1 (by decide) ?_
  refine lv_aload_n hx hb dL_skip_2 rfl (lv_at hl 0 rfl) ?_
  refine lv_iload_n hx hb dL_skip_3 rfl (lv_at hl 1 rfl) ?_
  refine lv_iload_n hx hb dL_skip_4 rfl (lv_at hl 2 rfl) ?_
  refine gp_V (ci := 8) (q0 := 0) (cq := (RX8, TX8, 11)) (c_X8_skip l D cI cZ cF cL rx tt a tr r3 rs rz b b0 s0 r5 r6 ra pa cnt nx Ts T h z hc hn hT hh hz) (gHV u_560 u_561 u_562 u_2 u_563) rfl hdV_X8_skip ⟨Nat.le_of_ble_eq_true rfl, Nat.le_of_ble_eq_true rfl⟩ ⟨rfl, rfl⟩ hx hb hml hown hts hK hA hP hD hS hl.1 ⟨Nat.le_of_ble_eq_true rfl, Nat.le_of_ble_eq_true rfl⟩ rfl rfl rfl (wr := oX cL oq fq) (pm_cnt (fun _ => by simp only [List.countP_append, List.countP_nil, fT] <;> omega)) (fun _ => by simp only [List.map_append, List.map_nil, fX_m, bX_m, sX_m, pX_m, iaX_m, r5X_m, r6X_m, fT_m, hX_m, tX_m, xX_m, sgX_m, zaX_m, fsB_a]) (rest := [.int (nI 0), .ref oq]) rfl rfl (Nat.le_of_ble_eq_true rfl) dL_skip_5 (ws2 := (fun _ : Unit => (oX cL oq fq ++ ((xX rx tt a tr r3 rs rz b b0 s0 r5 r6 ++ hX cF r3 ra pa (if cnt < 14 then cnt + 1 else cnt) ((nx + 1) % 14) ++ fX cI a ((skT T h z) 0 0) ((skT T h z) 0 1) ((skT T h z) 0 2) ((skT T h z) 0 3) ((skT T h z) 0 4) ((skT T h z) 0 5) ((skT T h z) 1) ((skT T h z) 2) ((skT T h z) 3) ((skT T h z) 4) ((skT T h z) 5) ((skT T h z) 6) ((skT T h z) 7) ((skT T h z) 8) ++ fsB cI pa (va_up Ts nx T) 14))))) (fun _ => (pm_cnt (fun _ => by simp only [List.countP_append, List.countP_nil, fT] <;> omega))) (fun uz Hp locs hP hD hS => ?_)
  refine t_i2l hx hb dL_skip_8 rfl ?_
  refine va_last hx hb hK.1 hP hD hS 0 3 rfl rfl cl_0 dL_skip_9 (fun Hq locs1 hP hD hS => ?_)
  refine lv_goto (tgt := 17) hx hb dL_skip_10 (by decide) ?_
  refine lv_iconst (v := (nI 0)) hx hb dL_skip_17 (by decide) ?_
  exact cl_i uz hx hb hr hlocks hP hS rfl dL_skip_18
theorem hdV_X8_returnCrates : yX8_returnCrates.cls = RX8 ∧ yX8_returnCrates.cls ≠ "java/lang/invoke/MethodHandle" ∧ yX8_returnCrates.cls ≠ "java/lang/invoke/VarHandle" ∧ (parseMethodDescriptor yX8_returnCrates.desc).map (fun d => d.parameters.length) = some 2 := by decide +kernel
set_option maxHeartbeats 4000000 in
set_option maxRecDepth 100000 in
theorem c_L_returnCrates (l : Launch) (D : va_G) (cI cZ cF cL : ClassId) (rx : Nat) (tt a tr : Nat → Nat) (r3 rs rz : Nat) (b : Nat → Nat) (b0 s0 r5 r6 : Nat) (ra : Nat) (pa : Nat → Nat → Nat) (cnt nx : Nat) (Ts : Nat → Nat → Nat → Nat) (T : Nat → Nat → Nat) (h n : Nat) (hc : cnt ≤ 14) (hn : nx < 14) (hT : FI T) (hh : h < T 0 0) (h1n : 1 ≤ n) (hn9 : n ≤ 9) (hle : n ≤ T 2 h) (oq : Nat) (fq : Nat → Int64) : CTL l D (tysX cI cZ cF cL) yL_returnCrates (wH yL_returnCrates cL_returnCrates 5 (some .int) [(0, 10, 13, 28), (0, 10, 17, 13), (0, 10, 21, 15)]) (rmF 4 124) [.ref rx, .int (nI h), .int (nI n), .ref oq] (oX cL oq fq ++ ((xX rx tt a tr r3 rs rz b b0 s0 r5 r6 ++ hX cF r3 ra pa cnt nx ++ fX cI a (T 0 0) (T 0 1) (T 0 2) (T 0 3) (T 0 4) (T 0 5) (T 1) (T 2) (T 3) (T 4) (T 5) (T 6) (T 7) (T 8) ++ fsB cI pa Ts 14))) 0 0 (some (.int (nI 0))) (fun _ : Unit => (oX cL oq (vp_updL fq (nI 0).toNatClampNeg ((nI (T 2 h - n))).toInt64) ++ ((xX rx tt a tr r3 rs rz b b0 s0 r5 r6 ++ hX cF r3 ra pa (if cnt < 14 then cnt + 1 else cnt) ((nx + 1) % 14) ++ fX cI a ((owT T h (T 2 h - n)) 0 0) ((owT T h (T 2 h - n)) 0 1) ((owT T h (T 2 h - n)) 0 2) ((owT T h (T 2 h - n)) 0 3) ((owT T h (T 2 h - n)) 0 4) ((owT T h (T 2 h - n)) 0 5) ((owT T h (T 2 h - n)) 1) ((owT T h (T 2 h - n)) 2) ((owT T h (T 2 h - n)) 3) ((owT T h (T 2 h - n)) 4) ((owT T h (T 2 h - n)) 5) ((owT T h (T 2 h - n)) 6) ((owT T h (T 2 h - n)) 7) ((owT T h (T 2 h - n)) 8) ++ fsB cI pa (va_up Ts nx T) 14)))) := by
  refine cl_in (cc := cL_returnCrates) (maxL := 5) (ret := (some .int)) (own := RL) (lv := [(0, .ref rx), (1, .int (nI h)), (2, .int (nI n)), (3, .ref oq)]) (by decide +kernel) rfl rfl (Nat.le_of_ble_eq_true rfl) rfl ?_
  intro p e s m args below meth c A ls hx hb hr hml hts hown hlocks hK hA hP hD hS hl hKX htab
  refine lv_aload_n hx hb dL_returnCrates_0 rfl (lv_at hl 3 rfl) ?_
  refine lv_iconst (v := (nI 0)) hx hb dL_returnCrates_1 (by decide) ?_
  refine lv_aload_n hx hb dL_returnCrates_2 rfl (lv_at hl 0 rfl) ?_
  refine lv_iload_n hx hb dL_returnCrates_3 rfl (lv_at hl 1 rfl) ?_
  refine lv_iload_n hx hb dL_returnCrates_4 rfl (lv_at hl 2 rfl) ?_
  refine gp_V (ci := 8) (q0 := 0) (cq := (RX8, TX8, 11)) (c_X8_returnCrates l D cI cZ cF cL rx tt a tr r3 rs rz b b0 s0 r5 r6 ra pa cnt nx Ts T h n hc hn hT hh h1n hn9 hle) (gHV u_680 u_681 u_682 u_2 u_683) rfl hdV_X8_returnCrates ⟨Nat.le_of_ble_eq_true rfl, Nat.le_of_ble_eq_true rfl⟩ ⟨rfl, rfl⟩ hx hb hml hown hts hK hA hP hD hS hl.1 ⟨Nat.le_of_ble_eq_true rfl, Nat.le_of_ble_eq_true rfl⟩ rfl rfl rfl (wr := oX cL oq fq) (pm_cnt (fun _ => by simp only [List.countP_append, List.countP_nil, fT] <;> omega)) (fun _ => by simp only [List.map_append, List.map_nil, fX_m, bX_m, sX_m, pX_m, iaX_m, r5X_m, r6X_m, fT_m, hX_m, tX_m, xX_m, sgX_m, zaX_m, fsB_a]) (rest := [.int (nI 0), .ref oq]) rfl rfl (Nat.le_of_ble_eq_true rfl) dL_returnCrates_5 (ws2 := (fun _ : Unit => (oX cL oq fq ++ ((xX rx tt a tr r3 rs rz b b0 s0 r5 r6 ++ hX cF r3 ra pa (if cnt < 14 then cnt + 1 else cnt) ((nx + 1) % 14) ++ fX cI a ((owT T h (T 2 h - n)) 0 0) ((owT T h (T 2 h - n)) 0 1) ((owT T h (T 2 h - n)) 0 2) ((owT T h (T 2 h - n)) 0 3) ((owT T h (T 2 h - n)) 0 4) ((owT T h (T 2 h - n)) 0 5) ((owT T h (T 2 h - n)) 1) ((owT T h (T 2 h - n)) 2) ((owT T h (T 2 h - n)) 3) ((owT T h (T 2 h - n)) 4) ((owT T h (T 2 h - n)) 5) ((owT T h (T 2 h - n)) 6) ((owT T h (T 2 h - n)) 7) ((owT T h (T 2 h - n)) 8) ++ fsB cI pa (va_up Ts nx T) 14))))) (fun _ => (pm_cnt (fun _ => by simp only [List.countP_append, List.countP_nil, fT] <;> omega))) (fun uz Hp locs hP hD hS => ?_)
  refine t_i2l hx hb dL_returnCrates_8 rfl ?_
  refine va_last hx hb hK.1 hP hD hS 0 3 rfl rfl cl_0 dL_returnCrates_9 (fun Hq locs1 hP hD hS => ?_)
  refine lv_goto (tgt := 25) hx hb dL_returnCrates_10 (by decide) ?_
  refine lv_iconst (v := (nI 0)) hx hb dL_returnCrates_25 (by decide) ?_
  exact cl_i uz hx hb hr hlocks hP hS rfl dL_returnCrates_26
theorem hdV_X8_give : yX8_give.cls = RX8 ∧ yX8_give.cls ≠ "java/lang/invoke/MethodHandle" ∧ yX8_give.cls ≠ "java/lang/invoke/VarHandle" ∧ (parseMethodDescriptor yX8_give.desc).map (fun d => d.parameters.length) = some 3 := by decide +kernel
set_option maxHeartbeats 4000000 in
set_option maxRecDepth 100000 in
theorem c_L_give (l : Launch) (D : va_G) (cI cZ cF cL : ClassId) (rx : Nat) (tt a tr : Nat → Nat) (r3 rs rz : Nat) (b : Nat → Nat) (b0 s0 r5 r6 : Nat) (ra : Nat) (pa : Nat → Nat → Nat) (cnt nx : Nat) (Ts : Nat → Nat → Nat → Nat) (T : Nat → Nat → Nat) (h v n : Nat) (hc : cnt ≤ 14) (hn : nx < 14) (hT : FI T) (hh : h < T 0 0) (hv : v < T 0 1) (h1n : 1 ≤ n) (hn40 : n ≤ 40) (hle : n ≤ T 8 (h * 5 + v)) (oq : Nat) (fq : Nat → Int64) : CTL l D (tysX cI cZ cF cL) yL_give (wH yL_give cL_give 6 (some .int) [(0, 12, 15, 28), (0, 12, 19, 13), (0, 12, 23, 15)]) (rmF 4 125) [.ref rx, .int (nI h), .int (nI v), .int (nI n), .ref oq] (oX cL oq fq ++ ((xX rx tt a tr r3 rs rz b b0 s0 r5 r6 ++ hX cF r3 ra pa cnt nx ++ fX cI a (T 0 0) (T 0 1) (T 0 2) (T 0 3) (T 0 4) (T 0 5) (T 1) (T 2) (T 3) (T 4) (T 5) (T 6) (T 7) (T 8) ++ fsB cI pa Ts 14))) 0 0 (some (.int (nI 0))) (fun _ : Unit => (oX cL oq (vp_updL fq (nI 0).toNatClampNeg ((nI (T 8 (h * 5 + v) - n))).toInt64) ++ ((xX rx tt a tr r3 rs rz b b0 s0 r5 r6 ++ hX cF r3 ra pa (if cnt < 14 then cnt + 1 else cnt) ((nx + 1) % 14) ++ fX cI a ((gvT T h v n) 0 0) ((gvT T h v n) 0 1) ((gvT T h v n) 0 2) ((gvT T h v n) 0 3) ((gvT T h v n) 0 4) ((gvT T h v n) 0 5) ((gvT T h v n) 1) ((gvT T h v n) 2) ((gvT T h v n) 3) ((gvT T h v n) 4) ((gvT T h v n) 5) ((gvT T h v n) 6) ((gvT T h v n) 7) ((gvT T h v n) 8) ++ fsB cI pa (va_up Ts nx T) 14)))) := by
  refine cl_in (cc := cL_give) (maxL := 6) (ret := (some .int)) (own := RL) (lv := [(0, .ref rx), (1, .int (nI h)), (2, .int (nI v)), (3, .int (nI n)), (4, .ref oq)]) (by decide +kernel) rfl rfl (Nat.le_of_ble_eq_true rfl) rfl ?_
  intro p e s m args below meth c A ls hx hb hr hml hts hown hlocks hK hA hP hD hS hl hKX htab
  refine lv_aload hx hb dL_give_0 (lv_at hl 4 rfl) ?_
  refine lv_iconst (v := (nI 0)) hx hb dL_give_2 (by decide) ?_
  refine lv_aload_n hx hb dL_give_3 rfl (lv_at hl 0 rfl) ?_
  refine lv_iload_n hx hb dL_give_4 rfl (lv_at hl 1 rfl) ?_
  refine lv_iload_n hx hb dL_give_5 rfl (lv_at hl 2 rfl) ?_
  refine lv_iload_n hx hb dL_give_6 rfl (lv_at hl 3 rfl) ?_
  refine gp_V (ci := 8) (q0 := 0) (cq := (RX8, TX8, 11)) (c_X8_give l D cI cZ cF cL rx tt a tr r3 rs rz b b0 s0 r5 r6 ra pa cnt nx Ts T h v n hc hn hT hh hv h1n hn40 hle) (gHV u_691 u_692 u_693 u_2 u_694) rfl hdV_X8_give ⟨Nat.le_of_ble_eq_true rfl, Nat.le_of_ble_eq_true rfl⟩ ⟨rfl, rfl⟩ hx hb hml hown hts hK hA hP hD hS hl.1 ⟨Nat.le_of_ble_eq_true rfl, Nat.le_of_ble_eq_true rfl⟩ rfl rfl rfl (wr := oX cL oq fq) (pm_cnt (fun _ => by simp only [List.countP_append, List.countP_nil, fT] <;> omega)) (fun _ => by simp only [List.map_append, List.map_nil, fX_m, bX_m, sX_m, pX_m, iaX_m, r5X_m, r6X_m, fT_m, hX_m, tX_m, xX_m, sgX_m, zaX_m, fsB_a]) (rest := [.int (nI 0), .ref oq]) rfl rfl (Nat.le_of_ble_eq_true rfl) dL_give_7 (ws2 := (fun _ : Unit => (oX cL oq fq ++ ((xX rx tt a tr r3 rs rz b b0 s0 r5 r6 ++ hX cF r3 ra pa (if cnt < 14 then cnt + 1 else cnt) ((nx + 1) % 14) ++ fX cI a ((gvT T h v n) 0 0) ((gvT T h v n) 0 1) ((gvT T h v n) 0 2) ((gvT T h v n) 0 3) ((gvT T h v n) 0 4) ((gvT T h v n) 0 5) ((gvT T h v n) 1) ((gvT T h v n) 2) ((gvT T h v n) 3) ((gvT T h v n) 4) ((gvT T h v n) 5) ((gvT T h v n) 6) ((gvT T h v n) 7) ((gvT T h v n) 8) ++ fsB cI pa (va_up Ts nx T) 14))))) (fun _ => (pm_cnt (fun _ => by simp only [List.countP_append, List.countP_nil, fT] <;> omega))) (fun uz Hp locs hP hD hS => ?_)
  refine t_i2l hx hb dL_give_10 rfl ?_
  refine va_last hx hb hK.1 hP hD hS 0 3 rfl rfl cl_0 dL_give_11 (fun Hq locs1 hP hD hS => ?_)
  refine lv_goto (tgt := 27) hx hb dL_give_12 (by decide) ?_
  refine lv_iconst (v := (nI 0)) hx hb dL_give_27 (by decide) ?_
  exact cl_i uz hx hb hr hlocks hP hS rfl dL_give_28
theorem hdV_X8_undo : yX8_undo.cls = RX8 ∧ yX8_undo.cls ≠ "java/lang/invoke/MethodHandle" ∧ yX8_undo.cls ≠ "java/lang/invoke/VarHandle" ∧ (parseMethodDescriptor yX8_undo.desc).map (fun d => d.parameters.length) = some 0 := by decide +kernel
set_option maxHeartbeats 4000000 in
set_option maxRecDepth 100000 in
theorem c_L_undo (l : Launch) (D : va_G) (cI cZ cF cL : ClassId) (rx : Nat) (tt a tr : Nat → Nat) (r3 rs rz : Nat) (b : Nat → Nat) (b0 s0 r5 r6 : Nat) (ra : Nat) (pa : Nat → Nat → Nat) (cnt nx : Nat) (Ts : Nat → Nat → Nat → Nat) (T : Nat → Nat → Nat) (hc : cnt ≤ 14) (hn : nx < 14) (hc0 : 0 < cnt) (oq : Nat) (fq : Nat → Int64) : CTL l D (tysX cI cZ cF cL) yL_undo (wH yL_undo cL_undo 3 (some .int) [(0, 8, 11, 15)]) (rmF 4 122) [.ref rx, .ref oq] (oX cL oq fq ++ ((xX rx tt a tr r3 rs rz b b0 s0 r5 r6 ++ hX cF r3 ra pa cnt nx ++ fX cI a (T 0 0) (T 0 1) (T 0 2) (T 0 3) (T 0 4) (T 0 5) (T 1) (T 2) (T 3) (T 4) (T 5) (T 6) (T 7) (T 8) ++ fsB cI pa Ts 14))) 0 0 (some (.int (nI 0))) (fun _ : Unit => (oX cL oq (vp_updL fq (nI 0).toNatClampNeg ((nI (cnt - 1))).toInt64) ++ ((xX rx tt a tr r3 rs rz b b0 s0 r5 r6 ++ hX cF r3 ra pa (cnt - 1) (((nx + 14) - 1) % 14) ++ fX cI a ((Ts (((nx + 14) - 1) % 14)) 0 0) ((Ts (((nx + 14) - 1) % 14)) 0 1) ((Ts (((nx + 14) - 1) % 14)) 0 2) ((Ts (((nx + 14) - 1) % 14)) 0 3) ((Ts (((nx + 14) - 1) % 14)) 0 4) ((Ts (((nx + 14) - 1) % 14)) 0 5) ((Ts (((nx + 14) - 1) % 14)) 1) ((Ts (((nx + 14) - 1) % 14)) 2) ((Ts (((nx + 14) - 1) % 14)) 3) ((Ts (((nx + 14) - 1) % 14)) 4) ((Ts (((nx + 14) - 1) % 14)) 5) ((Ts (((nx + 14) - 1) % 14)) 6) ((Ts (((nx + 14) - 1) % 14)) 7) ((Ts (((nx + 14) - 1) % 14)) 8) ++ fsB cI pa Ts 14)))) := by
  refine cl_in (cc := cL_undo) (maxL := 3) (ret := (some .int)) (own := RL) (lv := [(0, .ref rx), (1, .ref oq)]) (by decide +kernel) rfl rfl (Nat.le_of_ble_eq_true rfl) rfl ?_
  intro p e s m args below meth c A ls hx hb hr hml hts hown hlocks hK hA hP hD hS hl hKX htab
  refine lv_aload_n hx hb dL_undo_0 rfl (lv_at hl 1 rfl) ?_
  refine lv_iconst (v := (nI 0)) hx hb dL_undo_1 (by decide) ?_
  refine lv_aload_n hx hb dL_undo_2 rfl (lv_at hl 0 rfl) ?_
  refine gp_V (ci := 8) (q0 := 0) (cq := (RX8, TX8, 11)) (c_X8_undo l D cI cZ cF cL rx tt a tr r3 rs rz b b0 s0 r5 r6 ra pa cnt nx Ts T hc hn hc0) (gHV u_710 u_711 u_712 u_2 u_713) rfl hdV_X8_undo ⟨Nat.le_of_ble_eq_true rfl, Nat.le_of_ble_eq_true rfl⟩ ⟨rfl, rfl⟩ hx hb hml hown hts hK hA hP hD hS hl.1 ⟨Nat.le_of_ble_eq_true rfl, Nat.le_of_ble_eq_true rfl⟩ rfl rfl rfl (wr := oX cL oq fq) (pm_cnt (fun _ => by simp only [List.countP_append, List.countP_nil, fT] <;> omega)) (fun _ => by simp only [List.map_append, List.map_nil, fX_m, bX_m, sX_m, pX_m, iaX_m, r5X_m, r6X_m, fT_m, hX_m, tX_m, xX_m, sgX_m, zaX_m, fsB_a]) (rest := [.int (nI 0), .ref oq]) rfl rfl (Nat.le_of_ble_eq_true rfl) dL_undo_3 (ws2 := (fun _ : Unit => (oX cL oq fq ++ ((xX rx tt a tr r3 rs rz b b0 s0 r5 r6 ++ hX cF r3 ra pa (cnt - 1) (((nx + 14) - 1) % 14) ++ fX cI a ((Ts (((nx + 14) - 1) % 14)) 0 0) ((Ts (((nx + 14) - 1) % 14)) 0 1) ((Ts (((nx + 14) - 1) % 14)) 0 2) ((Ts (((nx + 14) - 1) % 14)) 0 3) ((Ts (((nx + 14) - 1) % 14)) 0 4) ((Ts (((nx + 14) - 1) % 14)) 0 5) ((Ts (((nx + 14) - 1) % 14)) 1) ((Ts (((nx + 14) - 1) % 14)) 2) ((Ts (((nx + 14) - 1) % 14)) 3) ((Ts (((nx + 14) - 1) % 14)) 4) ((Ts (((nx + 14) - 1) % 14)) 5) ((Ts (((nx + 14) - 1) % 14)) 6) ((Ts (((nx + 14) - 1) % 14)) 7) ((Ts (((nx + 14) - 1) % 14)) 8) ++ fsB cI pa Ts 14))))) (fun _ => (pm_cnt (fun _ => by simp only [List.countP_append, List.countP_nil, fT] <;> omega))) (fun uz Hp locs hP hD hS => ?_)
  refine t_i2l hx hb dL_undo_6 rfl ?_
  refine va_last hx hb hK.1 hP hD hS 0 3 rfl rfl cl_0 dL_undo_7 (fun Hq locs1 hP hD hS => ?_)
  refine lv_goto (tgt := 14) hx hb dL_undo_8 (by decide) ?_
  refine lv_iconst (v := (nI 0)) hx hb dL_undo_14 (by decide) ?_
  exact cl_i uz hx hb hr hlocks hP hS rfl dL_undo_15
theorem hdV_X8_load : yX8_load.cls = RX8 ∧ yX8_load.cls ≠ "java/lang/invoke/MethodHandle" ∧ yX8_load.cls ≠ "java/lang/invoke/VarHandle" ∧ (parseMethodDescriptor yX8_load.desc).map (fun d => d.parameters.length) = some 0 := by decide +kernel
set_option maxHeartbeats 4000000 in
set_option maxRecDepth 100000 in
theorem c_L_load (l : Launch) (D : va_G) (cI cZ cF cL : ClassId) (rx : Nat) (tt a tr : Nat → Nat) (r3 rs rz : Nat) (b : Nat → Nat) (b0 s0 r5 r6 : Nat) (X : Nat → Nat) (L pl : Nat) (U : Nat → Nat → Nat) (T : Nat → Nat → Nat) (ra : Nat) (pa : Nat → Nat → Nat) (cnt nx : Nat) (zf : Nat → Nat) (hL : L ≤ 120) (hXt : ∀ k, k < 120 → X k < 256) (hok : (rdI X L).1 = true) (oq : Nat) (fq : Nat → Int64) : CTL l D (tysX cI cZ cF cL) yL_load (wH yL_load cL_load 3 (some .int) [(0, 8, 11, 15)]) (rmF 6 131) [.ref rx, .ref oq] (oX cL oq fq ++ ((xX rx tt a tr r3 rs rz b b0 s0 r5 r6 ++ tX cI tt X L pl ++ fX cI tr (U 0 0) (U 0 1) (U 0 2) (U 0 3) (U 0 4) (U 0 5) (U 1) (U 2) (U 3) (U 4) (U 5) (U 6) (U 7) (U 8) ++ fX cI a (T 0 0) (T 0 1) (T 0 2) (T 0 3) (T 0 4) (T 0 5) (T 1) (T 2) (T 3) (T 4) (T 5) (T 6) (T 7) (T 8) ++ hX cF r3 ra pa cnt nx ++ zaX cZ rz 2 zf))) 0 0 (some (.int (nI 0))) (fun _ : Unit => (oX cL oq (vp_updL fq (nI 0).toNatClampNeg ((nI (rdT X L 0 0))).toInt64) ++ ((xX rx tt a tr r3 rs rz b b0 s0 r5 r6 ++ tX cI tt X L ((rdI X L).2.1) ++ fX cI tr ((rdT X L) 0 0) ((rdT X L) 0 1) ((rdT X L) 0 2) ((rdT X L) 0 3) ((rdT X L) 0 4) ((rdT X L) 0 5) ((rdT X L) 1) ((rdT X L) 2) ((rdT X L) 3) ((rdT X L) 4) ((rdT X L) 5) ((rdT X L) 6) ((rdT X L) 7) ((rdT X L) 8) ++ fX cI a ((rdT X L) 0 0) ((rdT X L) 0 1) ((rdT X L) 0 2) ((rdT X L) 0 3) ((rdT X L) 0 4) ((rdT X L) 0 5) ((rdT X L) 1) ((rdT X L) 2) ((rdT X L) 3) ((rdT X L) 4) ((rdT X L) 5) ((rdT X L) 6) ((rdT X L) 7) ((rdT X L) 8) ++ hX cF r3 ra pa 0 nx ++ zaX cZ rz 2 ((fun _ => 0)))))) := by
  refine cl_in (cc := cL_load) (maxL := 3) (ret := (some .int)) (own := RL) (lv := [(0, .ref rx), (1, .ref oq)]) (by decide +kernel) rfl rfl (Nat.le_of_ble_eq_true rfl) rfl ?_
  intro p e s m args below meth c A ls hx hb hr hml hts hown hlocks hK hA hP hD hS hl hKX htab
  refine lv_aload_n hx hb dL_load_0 rfl (lv_at hl 1 rfl) ?_
  refine lv_iconst (v := (nI 0)) hx hb dL_load_1 (by decide) ?_
  refine lv_aload_n hx hb dL_load_2 rfl (lv_at hl 0 rfl) ?_
  refine gp_V (ci := 8) (q0 := 0) (cq := (RX8, TX8, 11)) (c_X8_load l D cI cZ cF cL rx tt a tr r3 rs rz b b0 s0 r5 r6 X L pl U T ra pa cnt nx zf hL hXt hok) (gHV u_287 u_288 u_289 u_2 u_290) rfl hdV_X8_load ⟨Nat.le_of_ble_eq_true rfl, Nat.le_of_ble_eq_true rfl⟩ ⟨rfl, rfl⟩ hx hb hml hown hts hK hA hP hD hS hl.1 ⟨Nat.le_of_ble_eq_true rfl, Nat.le_of_ble_eq_true rfl⟩ rfl rfl rfl (wr := oX cL oq fq) (pm_cnt (fun _ => by simp only [List.countP_append, List.countP_nil, fT] <;> omega)) (fun _ => by simp only [List.map_append, List.map_nil, fX_m, bX_m, sX_m, pX_m, iaX_m, r5X_m, r6X_m, fT_m, hX_m, tX_m, xX_m, sgX_m, zaX_m, fsB_a]) (rest := [.int (nI 0), .ref oq]) rfl rfl (Nat.le_of_ble_eq_true rfl) dL_load_3 (ws2 := (fun _ : Unit => (oX cL oq fq ++ ((xX rx tt a tr r3 rs rz b b0 s0 r5 r6 ++ tX cI tt X L ((rdI X L).2.1) ++ fX cI tr ((rdT X L) 0 0) ((rdT X L) 0 1) ((rdT X L) 0 2) ((rdT X L) 0 3) ((rdT X L) 0 4) ((rdT X L) 0 5) ((rdT X L) 1) ((rdT X L) 2) ((rdT X L) 3) ((rdT X L) 4) ((rdT X L) 5) ((rdT X L) 6) ((rdT X L) 7) ((rdT X L) 8) ++ fX cI a ((rdT X L) 0 0) ((rdT X L) 0 1) ((rdT X L) 0 2) ((rdT X L) 0 3) ((rdT X L) 0 4) ((rdT X L) 0 5) ((rdT X L) 1) ((rdT X L) 2) ((rdT X L) 3) ((rdT X L) 4) ((rdT X L) 5) ((rdT X L) 6) ((rdT X L) 7) ((rdT X L) 8) ++ hX cF r3 ra pa 0 nx ++ zaX cZ rz 2 ((fun _ => 0))))))) (fun _ => (pm_cnt (fun _ => by simp only [List.countP_append, List.countP_nil, fT] <;> omega))) (fun uz Hp locs hP hD hS => ?_)
  refine t_i2l hx hb dL_load_6 rfl ?_
  refine va_last hx hb hK.1 hP hD hS 0 3 rfl rfl cl_0 dL_load_7 (fun Hq locs1 hP hD hS => ?_)
  refine lv_goto (tgt := 14) hx hb dL_load_8 (by decide) ?_
  refine lv_iconst (v := (nI 0)) hx hb dL_load_14 (by decide) ?_
  exact cl_i uz hx hb hr hlocks hP hS rfl dL_load_15
theorem hdV_X8_save : yX8_save.cls = RX8 ∧ yX8_save.cls ≠ "java/lang/invoke/MethodHandle" ∧ yX8_save.cls ≠ "java/lang/invoke/VarHandle" ∧ (parseMethodDescriptor yX8_save.desc).map (fun d => d.parameters.length) = some 1 := by decide +kernel
set_option maxHeartbeats 4000000 in
set_option maxRecDepth 100000 in
theorem c_L_save (l : Launch) (D : va_G) (cI cZ cF cL : ClassId) (rx : Nat) (tt a tr : Nat → Nat) (r3 rs rz : Nat) (b : Nat → Nat) (b0 s0 r5 r6 : Nat) (pz : Nat → Nat → Nat) (Zs : Nat → Nat → Nat → Nat) (zf : Nat → Nat) (T : Nat → Nat → Nat) (sl : Nat) (hs : sl < 2) (oq : Nat) (fq : Nat → Int64) : CTL l D (tysX cI cZ cF cL) yL_save (wH yL_save cL_save 4 (some .int) [(0, 9, 12, 28)]) (rmF 3 102) [.ref rx, .int (nI sl), .ref oq] (oX cL oq fq ++ ((xX rx tt a tr r3 rs rz b b0 s0 r5 r6 ++ sgX cF rs pz 2 ++ fX cI a (T 0 0) (T 0 1) (T 0 2) (T 0 3) (T 0 4) (T 0 5) (T 1) (T 2) (T 3) (T 4) (T 5) (T 6) (T 7) (T 8) ++ zaX cZ rz 2 zf ++ fsB cI pz Zs 2))) 0 0 (some (.int (nI 0))) (fun _ : Unit => (oX cL oq (vp_updL fq (nI 0).toNatClampNeg ((nI (T 0 2))).toInt64) ++ ((xX rx tt a tr r3 rs rz b b0 s0 r5 r6 ++ sgX cF rs pz 2 ++ fX cI a (T 0 0) (T 0 1) (T 0 2) (T 0 3) (T 0 4) (T 0 5) (T 1) (T 2) (T 3) (T 4) (T 5) (T 6) (T 7) (T 8) ++ zaX cZ rz 2 (va_up zf sl 1) ++ fsB cI pz (va_up Zs sl T) 2)))) := by
  refine cl_in (cc := cL_save) (maxL := 4) (ret := (some .int)) (own := RL) (lv := [(0, .ref rx), (1, .int (nI sl)), (2, .ref oq)]) (by decide +kernel) rfl rfl (Nat.le_of_ble_eq_true rfl) rfl ?_
  intro p e s m args below meth c A ls hx hb hr hml hts hown hlocks hK hA hP hD hS hl hKX htab
  refine lv_aload_n hx hb dL_save_0 rfl (lv_at hl 2 rfl) ?_
  refine lv_iconst (v := (nI 0)) hx hb dL_save_1 (by decide) ?_
  refine lv_aload_n hx hb dL_save_2 rfl (lv_at hl 0 rfl) ?_
  refine lv_iload_n hx hb dL_save_3 rfl (lv_at hl 1 rfl) ?_
  refine gp_V (ci := 8) (q0 := 0) (cq := (RX8, TX8, 11)) (c_X8_save l D cI cZ cF cL rx tt a tr r3 rs rz b b0 s0 r5 r6 pz Zs zf T sl hs) (gHV u_924 u_925 u_926 u_2 u_927) rfl hdV_X8_save ⟨Nat.le_of_ble_eq_true rfl, Nat.le_of_ble_eq_true rfl⟩ ⟨rfl, rfl⟩ hx hb hml hown hts hK hA hP hD hS hl.1 ⟨Nat.le_of_ble_eq_true rfl, Nat.le_of_ble_eq_true rfl⟩ rfl rfl rfl (wr := oX cL oq fq) (pm_cnt (fun _ => by simp only [List.countP_append, List.countP_nil, fT] <;> omega)) (fun _ => by simp only [List.map_append, List.map_nil, fX_m, bX_m, sX_m, pX_m, iaX_m, r5X_m, r6X_m, fT_m, hX_m, tX_m, xX_m, sgX_m, zaX_m, fsB_a]) (rest := [.int (nI 0), .ref oq]) rfl rfl (Nat.le_of_ble_eq_true rfl) dL_save_4 (ws2 := (fun _ : Unit => (oX cL oq fq ++ ((xX rx tt a tr r3 rs rz b b0 s0 r5 r6 ++ sgX cF rs pz 2 ++ fX cI a (T 0 0) (T 0 1) (T 0 2) (T 0 3) (T 0 4) (T 0 5) (T 1) (T 2) (T 3) (T 4) (T 5) (T 6) (T 7) (T 8) ++ zaX cZ rz 2 (va_up zf sl 1) ++ fsB cI pz (va_up Zs sl T) 2))))) (fun _ => (pm_cnt (fun _ => by simp only [List.countP_append, List.countP_nil, fT] <;> omega))) (fun uz Hp locs hP hD hS => ?_)
  refine t_i2l hx hb dL_save_7 rfl ?_
  refine va_last hx hb hK.1 hP hD hS 0 3 rfl rfl cl_0 dL_save_8 (fun Hq locs1 hP hD hS => ?_)
  refine lv_goto (tgt := 15) hx hb dL_save_9 (by decide) ?_
  refine lv_iconst (v := (nI 0)) hx hb dL_save_15 (by decide) ?_
  exact cl_i uz hx hb hr hlocks hP hS rfl dL_save_16
theorem hdV_X8_restore : yX8_restore.cls = RX8 ∧ yX8_restore.cls ≠ "java/lang/invoke/MethodHandle" ∧ yX8_restore.cls ≠ "java/lang/invoke/VarHandle" ∧ (parseMethodDescriptor yX8_restore.desc).map (fun d => d.parameters.length) = some 1 := by decide +kernel
set_option maxHeartbeats 4000000 in
set_option maxRecDepth 100000 in
theorem c_L_restore (l : Launch) (D : va_G) (cI cZ cF cL : ClassId) (rx : Nat) (tt a tr : Nat → Nat) (r3 rs rz : Nat) (b : Nat → Nat) (b0 s0 r5 r6 : Nat) (pz : Nat → Nat → Nat) (Zs : Nat → Nat → Nat → Nat) (zf : Nat → Nat) (T : Nat → Nat → Nat) (ra : Nat) (pa : Nat → Nat → Nat) (cnt nx : Nat) (sl : Nat) (hs : sl < 2) (hz : zf sl = 1) (oq : Nat) (fq : Nat → Int64) : CTL l D (tysX cI cZ cF cL) yL_restore (wH yL_restore cL_restore 4 (some .int) [(0, 9, 12, 28), (0, 9, 15, 15)]) (rmF 3 102) [.ref rx, .int (nI sl), .ref oq] (oX cL oq fq ++ ((xX rx tt a tr r3 rs rz b b0 s0 r5 r6 ++ sgX cF rs pz 2 ++ fX cI a (T 0 0) (T 0 1) (T 0 2) (T 0 3) (T 0 4) (T 0 5) (T 1) (T 2) (T 3) (T 4) (T 5) (T 6) (T 7) (T 8) ++ zaX cZ rz 2 zf ++ hX cF r3 ra pa cnt nx ++ fsB cI pz Zs 2))) 0 0 (some (.int (nI 0))) (fun _ : Unit => (oX cL oq (vp_updL fq (nI 0).toNatClampNeg ((nI (Zs sl 0 2))).toInt64) ++ ((xX rx tt a tr r3 rs rz b b0 s0 r5 r6 ++ sgX cF rs pz 2 ++ fX cI a ((Zs sl) 0 0) ((Zs sl) 0 1) ((Zs sl) 0 2) ((Zs sl) 0 3) ((Zs sl) 0 4) ((Zs sl) 0 5) ((Zs sl) 1) ((Zs sl) 2) ((Zs sl) 3) ((Zs sl) 4) ((Zs sl) 5) ((Zs sl) 6) ((Zs sl) 7) ((Zs sl) 8) ++ zaX cZ rz 2 zf ++ hX cF r3 ra pa 0 nx ++ fsB cI pz Zs 2)))) := by
  refine cl_in (cc := cL_restore) (maxL := 4) (ret := (some .int)) (own := RL) (lv := [(0, .ref rx), (1, .int (nI sl)), (2, .ref oq)]) (by decide +kernel) rfl rfl (Nat.le_of_ble_eq_true rfl) rfl ?_
  intro p e s m args below meth c A ls hx hb hr hml hts hown hlocks hK hA hP hD hS hl hKX htab
  refine lv_aload_n hx hb dL_restore_0 rfl (lv_at hl 2 rfl) ?_
  refine lv_iconst (v := (nI 0)) hx hb dL_restore_1 (by decide) ?_
  refine lv_aload_n hx hb dL_restore_2 rfl (lv_at hl 0 rfl) ?_
  refine lv_iload_n hx hb dL_restore_3 rfl (lv_at hl 1 rfl) ?_
  refine gp_V (ci := 8) (q0 := 0) (cq := (RX8, TX8, 11)) (c_X8_restore l D cI cZ cF cL rx tt a tr r3 rs rz b b0 s0 r5 r6 pz Zs zf T ra pa cnt nx sl hs hz) (gHV u_938 u_939 u_940 u_2 u_941) rfl hdV_X8_restore ⟨Nat.le_of_ble_eq_true rfl, Nat.le_of_ble_eq_true rfl⟩ ⟨rfl, rfl⟩ hx hb hml hown hts hK hA hP hD hS hl.1 ⟨Nat.le_of_ble_eq_true rfl, Nat.le_of_ble_eq_true rfl⟩ rfl rfl rfl (wr := oX cL oq fq) (pm_cnt (fun _ => by simp only [List.countP_append, List.countP_nil, fT] <;> omega)) (fun _ => by simp only [List.map_append, List.map_nil, fX_m, bX_m, sX_m, pX_m, iaX_m, r5X_m, r6X_m, fT_m, hX_m, tX_m, xX_m, sgX_m, zaX_m, fsB_a]) (rest := [.int (nI 0), .ref oq]) rfl rfl (Nat.le_of_ble_eq_true rfl) dL_restore_4 (ws2 := (fun _ : Unit => (oX cL oq fq ++ ((xX rx tt a tr r3 rs rz b b0 s0 r5 r6 ++ sgX cF rs pz 2 ++ fX cI a ((Zs sl) 0 0) ((Zs sl) 0 1) ((Zs sl) 0 2) ((Zs sl) 0 3) ((Zs sl) 0 4) ((Zs sl) 0 5) ((Zs sl) 1) ((Zs sl) 2) ((Zs sl) 3) ((Zs sl) 4) ((Zs sl) 5) ((Zs sl) 6) ((Zs sl) 7) ((Zs sl) 8) ++ zaX cZ rz 2 zf ++ hX cF r3 ra pa 0 nx ++ fsB cI pz Zs 2))))) (fun _ => (pm_cnt (fun _ => by simp only [List.countP_append, List.countP_nil, fT] <;> omega))) (fun uz Hp locs hP hD hS => ?_)
  refine t_i2l hx hb dL_restore_7 rfl ?_
  refine va_last hx hb hK.1 hP hD hS 0 3 rfl rfl cl_0 dL_restore_8 (fun Hq locs1 hP hD hS => ?_)
  refine lv_goto (tgt := 18) hx hb dL_restore_9 (by decide) ?_
  refine lv_iconst (v := (nI 0)) hx hb dL_restore_18 (by decide) ?_
  exact cl_i uz hx hb hr hlocks hP hS rfl dL_restore_19
theorem hdV_X8_wouldGet : yX8_wouldGet.cls = RX8 ∧ yX8_wouldGet.cls ≠ "java/lang/invoke/MethodHandle" ∧ yX8_wouldGet.cls ≠ "java/lang/invoke/VarHandle" ∧ (parseMethodDescriptor yX8_wouldGet.desc).map (fun d => d.parameters.length) = some 2 := by decide +kernel
set_option maxHeartbeats 4000000 in
set_option maxRecDepth 100000 in
theorem c_L_wouldGet (l : Launch) (D : va_G) (cI cZ cF cL : ClassId) (rx : Nat) (tt a tr : Nat → Nat) (r3 rs rz : Nat) (b : Nat → Nat) (b0 s0 r5 r6 : Nat) (T : Nat → Nat → Nat) (U : Nat → Nat → Nat) (g1 g2 : Nat → Nat) (kn kw : Int32) (x1 x2 x3 x4 x5 : Nat) (h v : Nat) (hT : FI T) (hh : h < T 0 0) (hv : v < T 0 1) (oq : Nat) (fq : Nat → Int64) : CTL l D (tysX cI cZ cF cL) yL_wouldGet (wH yL_wouldGet cL_wouldGet 5 (some .int) [(0, 10, 13, 28)]) (rmF 5 121) [.ref rx, .int (nI h), .int (nI v), .ref oq] (oX cL oq fq ++ ((xX rx tt a tr r3 rs rz b b0 s0 r5 r6 ++ fX cI a (T 0 0) (T 0 1) (T 0 2) (T 0 3) (T 0 4) (T 0 5) (T 1) (T 2) (T 3) (T 4) (T 5) (T 6) (T 7) (T 8) ++ fX cI tr (U 0 0) (U 0 1) (U 0 2) (U 0 3) (U 0 4) (U 0 5) (U 1) (U 2) (U 3) (U 4) (U 5) (U 6) (U 7) (U 8) ++ pX cI b g1 g2 kn kw x1 x2 x3 x4 x5))) 0 0 (some (.int (nI 0))) (fun u : (Nat → Nat) × (Nat → Nat) × Int32 × Int32 × Nat × Nat × Nat × Nat × Nat => (oX cL oq (vp_updL fq (nI 0).toNatClampNeg ((nI (packT T 8 (h * 5 + v)))).toInt64) ++ ((xX rx tt a tr r3 rs rz b b0 s0 r5 r6 ++ fX cI a (T 0 0) (T 0 1) (T 0 2) (T 0 3) (T 0 4) (T 0 5) (T 1) (T 2) (T 3) (T 4) (T 5) (T 6) (T 7) (T 8) ++ fX cI tr ((packT T) 0 0) ((packT T) 0 1) ((packT T) 0 2) ((packT T) 0 3) ((packT T) 0 4) ((packT T) 0 5) ((packT T) 1) ((packT T) 2) ((packT T) 3) ((packT T) 4) ((packT T) 5) ((packT T) 6) ((packT T) 7) ((packT T) 8) ++ pX cI b u.1 u.2.1 u.2.2.1 u.2.2.2.1 u.2.2.2.2.1 u.2.2.2.2.2.1 u.2.2.2.2.2.2.1 u.2.2.2.2.2.2.2.1 u.2.2.2.2.2.2.2.2)))) := by
  refine cl_in (cc := cL_wouldGet) (maxL := 5) (ret := (some .int)) (own := RL) (lv := [(0, .ref rx), (1, .int (nI h)), (2, .int (nI v)), (3, .ref oq)]) (by decide +kernel) rfl rfl (Nat.le_of_ble_eq_true rfl) rfl ?_
  intro p e s m args below meth c A ls hx hb hr hml hts hown hlocks hK hA hP hD hS hl hKX htab
  refine lv_aload_n hx hb dL_wouldGet_0 rfl (lv_at hl 3 rfl) ?_
  refine lv_iconst (v := (nI 0)) hx hb dL_wouldGet_1 (by decide) ?_
  refine lv_aload_n hx hb dL_wouldGet_2 rfl (lv_at hl 0 rfl) ?_
  refine lv_iload_n hx hb dL_wouldGet_3 rfl (lv_at hl 1 rfl) ?_
  refine lv_iload_n hx hb dL_wouldGet_4 rfl (lv_at hl 2 rfl) ?_
  refine gp_V (ci := 8) (q0 := 0) (cq := (RX8, TX8, 11)) (c_X8_wouldGet l D cI cZ cF cL rx tt a tr r3 rs rz b b0 s0 r5 r6 T U g1 g2 kn kw x1 x2 x3 x4 x5 h v hT hh hv) (gHV u_729 u_730 u_731 u_2 u_732) rfl hdV_X8_wouldGet ⟨Nat.le_of_ble_eq_true rfl, Nat.le_of_ble_eq_true rfl⟩ ⟨rfl, rfl⟩ hx hb hml hown hts hK hA hP hD hS hl.1 ⟨Nat.le_of_ble_eq_true rfl, Nat.le_of_ble_eq_true rfl⟩ rfl rfl rfl (wr := oX cL oq fq) (pm_cnt (fun _ => by simp only [List.countP_append, List.countP_nil, fT] <;> omega)) (fun _ => by simp only [List.map_append, List.map_nil, fX_m, bX_m, sX_m, pX_m, iaX_m, r5X_m, r6X_m, fT_m, hX_m, tX_m, xX_m, sgX_m, zaX_m, fsB_a]) (rest := [.int (nI 0), .ref oq]) rfl rfl (Nat.le_of_ble_eq_true rfl) dL_wouldGet_5 (ws2 := (fun u : (Nat → Nat) × (Nat → Nat) × Int32 × Int32 × Nat × Nat × Nat × Nat × Nat => (oX cL oq fq ++ ((xX rx tt a tr r3 rs rz b b0 s0 r5 r6 ++ fX cI a (T 0 0) (T 0 1) (T 0 2) (T 0 3) (T 0 4) (T 0 5) (T 1) (T 2) (T 3) (T 4) (T 5) (T 6) (T 7) (T 8) ++ fX cI tr ((packT T) 0 0) ((packT T) 0 1) ((packT T) 0 2) ((packT T) 0 3) ((packT T) 0 4) ((packT T) 0 5) ((packT T) 1) ((packT T) 2) ((packT T) 3) ((packT T) 4) ((packT T) 5) ((packT T) 6) ((packT T) 7) ((packT T) 8) ++ pX cI b u.1 u.2.1 u.2.2.1 u.2.2.2.1 u.2.2.2.2.1 u.2.2.2.2.2.1 u.2.2.2.2.2.2.1 u.2.2.2.2.2.2.2.1 u.2.2.2.2.2.2.2.2))))) (fun _ => (pm_cnt (fun _ => by simp only [List.countP_append, List.countP_nil, fT] <;> omega))) (fun uz Hp locs hP hD hS => ?_)
  refine t_i2l hx hb dL_wouldGet_8 rfl ?_
  refine va_last hx hb hK.1 hP hD hS 0 3 rfl rfl cl_0 dL_wouldGet_9 (fun Hq locs1 hP hD hS => ?_)
  refine lv_goto (tgt := 17) hx hb dL_wouldGet_10 (by decide) ?_
  refine lv_iconst (v := (nI 0)) hx hb dL_wouldGet_17 (by decide) ?_
  exact cl_i uz hx hb hr hlocks hP hS rfl dL_wouldGet_18
theorem hdV_X8_wouldBe : yX8_wouldBe.cls = RX8 ∧ yX8_wouldBe.cls ≠ "java/lang/invoke/MethodHandle" ∧ yX8_wouldBe.cls ≠ "java/lang/invoke/VarHandle" ∧ (parseMethodDescriptor yX8_wouldBe.desc).map (fun d => d.parameters.length) = some 1 := by decide +kernel
set_option maxHeartbeats 4000000 in
set_option maxRecDepth 100000 in
theorem c_L_wouldBe (l : Launch) (D : va_G) (cI cZ cF cL : ClassId) (rx : Nat) (tt a tr : Nat → Nat) (r3 rs rz : Nat) (b : Nat → Nat) (b0 s0 r5 r6 : Nat) (T : Nat → Nat → Nat) (U : Nat → Nat → Nat) (g1 g2 : Nat → Nat) (kn kw : Int32) (x1 x2 x3 x4 x5 : Nat) (h : Nat) (hT : FI T) (hh : h < T 0 0) (oq : Nat) (fq : Nat → Int64) : CTL l D (tysX cI cZ cF cL) yL_wouldBe (wH yL_wouldBe cL_wouldBe 4 (some .int) [(0, 9, 12, 28)]) (rmF 5 120) [.ref rx, .int (nI h), .ref oq] (oX cL oq fq ++ ((xX rx tt a tr r3 rs rz b b0 s0 r5 r6 ++ fX cI a (T 0 0) (T 0 1) (T 0 2) (T 0 3) (T 0 4) (T 0 5) (T 1) (T 2) (T 3) (T 4) (T 5) (T 6) (T 7) (T 8) ++ fX cI tr (U 0 0) (U 0 1) (U 0 2) (U 0 3) (U 0 4) (U 0 5) (U 1) (U 2) (U 3) (U 4) (U 5) (U 6) (U 7) (U 8) ++ pX cI b g1 g2 kn kw x1 x2 x3 x4 x5))) 0 0 (some (.int (nI 0))) (fun u : (Nat → Nat) × (Nat → Nat) × Int32 × Int32 × Nat × Nat × Nat × Nat × Nat => (oX cL oq (vp_updL fq (nI 0).toNatClampNeg ((nI (hap (packT T 7) (packT T 8) (packT T 0 1) h))).toInt64) ++ ((xX rx tt a tr r3 rs rz b b0 s0 r5 r6 ++ fX cI a (T 0 0) (T 0 1) (T 0 2) (T 0 3) (T 0 4) (T 0 5) (T 1) (T 2) (T 3) (T 4) (T 5) (T 6) (T 7) (T 8) ++ fX cI tr ((packT T) 0 0) ((packT T) 0 1) ((packT T) 0 2) ((packT T) 0 3) ((packT T) 0 4) ((packT T) 0 5) ((packT T) 1) ((packT T) 2) ((packT T) 3) ((packT T) 4) ((packT T) 5) ((packT T) 6) ((packT T) 7) ((packT T) 8) ++ pX cI b u.1 u.2.1 u.2.2.1 u.2.2.2.1 u.2.2.2.2.1 u.2.2.2.2.2.1 u.2.2.2.2.2.2.1 u.2.2.2.2.2.2.2.1 u.2.2.2.2.2.2.2.2)))) := by
  refine cl_in (cc := cL_wouldBe) (maxL := 4) (ret := (some .int)) (own := RL) (lv := [(0, .ref rx), (1, .int (nI h)), (2, .ref oq)]) (by decide +kernel) rfl rfl (Nat.le_of_ble_eq_true rfl) rfl ?_
  intro p e s m args below meth c A ls hx hb hr hml hts hown hlocks hK hA hP hD hS hl hKX htab
  refine lv_aload_n hx hb dL_wouldBe_0 rfl (lv_at hl 2 rfl) ?_
  refine lv_iconst (v := (nI 0)) hx hb dL_wouldBe_1 (by decide) ?_
  refine lv_aload_n hx hb dL_wouldBe_2 rfl (lv_at hl 0 rfl) ?_
  refine lv_iload_n hx hb dL_wouldBe_3 rfl (lv_at hl 1 rfl) ?_
  refine gp_V (ci := 8) (q0 := 0) (cq := (RX8, TX8, 11)) (c_X8_wouldBe l D cI cZ cF cL rx tt a tr r3 rs rz b b0 s0 r5 r6 T U g1 g2 kn kw x1 x2 x3 x4 x5 h hT hh) (gHV u_748 u_749 u_750 u_2 u_751) rfl hdV_X8_wouldBe ⟨Nat.le_of_ble_eq_true rfl, Nat.le_of_ble_eq_true rfl⟩ ⟨rfl, rfl⟩ hx hb hml hown hts hK hA hP hD hS hl.1 ⟨Nat.le_of_ble_eq_true rfl, Nat.le_of_ble_eq_true rfl⟩ rfl rfl rfl (wr := oX cL oq fq) (pm_cnt (fun _ => by simp only [List.countP_append, List.countP_nil, fT] <;> omega)) (fun _ => by simp only [List.map_append, List.map_nil, fX_m, bX_m, sX_m, pX_m, iaX_m, r5X_m, r6X_m, fT_m, hX_m, tX_m, xX_m, sgX_m, zaX_m, fsB_a]) (rest := [.int (nI 0), .ref oq]) rfl rfl (Nat.le_of_ble_eq_true rfl) dL_wouldBe_4 (ws2 := (fun u : (Nat → Nat) × (Nat → Nat) × Int32 × Int32 × Nat × Nat × Nat × Nat × Nat => (oX cL oq fq ++ ((xX rx tt a tr r3 rs rz b b0 s0 r5 r6 ++ fX cI a (T 0 0) (T 0 1) (T 0 2) (T 0 3) (T 0 4) (T 0 5) (T 1) (T 2) (T 3) (T 4) (T 5) (T 6) (T 7) (T 8) ++ fX cI tr ((packT T) 0 0) ((packT T) 0 1) ((packT T) 0 2) ((packT T) 0 3) ((packT T) 0 4) ((packT T) 0 5) ((packT T) 1) ((packT T) 2) ((packT T) 3) ((packT T) 4) ((packT T) 5) ((packT T) 6) ((packT T) 7) ((packT T) 8) ++ pX cI b u.1 u.2.1 u.2.2.1 u.2.2.2.1 u.2.2.2.2.1 u.2.2.2.2.2.1 u.2.2.2.2.2.2.1 u.2.2.2.2.2.2.2.1 u.2.2.2.2.2.2.2.2))))) (fun _ => (pm_cnt (fun _ => by simp only [List.countP_append, List.countP_nil, fT] <;> omega))) (fun uz Hp locs hP hD hS => ?_)
  refine t_i2l hx hb dL_wouldBe_7 rfl ?_
  refine va_last hx hb hK.1 hP hD hS 0 3 rfl rfl cl_0 dL_wouldBe_8 (fun Hq locs1 hP hD hS => ?_)
  refine lv_goto (tgt := 15) hx hb dL_wouldBe_9 (by decide) ?_
  refine lv_iconst (v := (nI 0)) hx hb dL_wouldBe_15 (by decide) ?_
  exact cl_i uz hx hb hr hlocks hP hS rfl dL_wouldBe_16
theorem hdV_X8_runScript : yX8_runScript.cls = RX8 ∧ yX8_runScript.cls ≠ "java/lang/invoke/MethodHandle" ∧ yX8_runScript.cls ≠ "java/lang/invoke/VarHandle" ∧ (parseMethodDescriptor yX8_runScript.desc).map (fun d => d.parameters.length) = some 2 := by decide +kernel
set_option maxHeartbeats 4000000 in
set_option maxRecDepth 100000 in
theorem c_L_runScript (l : Launch) (D : va_G) (cI cZ cF cL : ClassId) (rx : Nat) (tt a tr : Nat → Nat) (r3 rs rz : Nat) (b : Nat → Nat) (b0 s0 r5 r6 : Nat) (T : Nat → Nat → Nat) (er fr : Nat → Nat) (V : Nat → Nat → Nat) (g1 g2 : Nat → Nat) (kn kw : Int32) (x1 x2 x3 x4 x5 : Nat) (n S : Nat) (hT : FI T) (h1n : 1 ≤ n) (hn4 : n ≤ 4) (hS0 : S < 2 ^ 63) (hz : S / 10000 ^ n = 0) (oq : Nat) (fq : Nat → Int64) : CTL l D (tysX cI cZ cF cL) yL_runScript (wH yL_runScript cL_runScript 6 (some .int) [(0, 11, 14, 13)]) (rmF 7 172) [.ref rx, .int (nI n), .long (lN S), .ref oq] (oX cL oq fq ++ ((xX rx tt a tr r3 rs rz b b0 s0 r5 r6 ++ fX cI a (T 0 0) (T 0 1) (T 0 2) (T 0 3) (T 0 4) (T 0 5) (T 1) (T 2) (T 3) (T 4) (T 5) (T 6) (T 7) (T 8) ++ r5X r5 er fr ++ fX cI er (V 0 0) (V 0 1) (V 0 2) (V 0 3) (V 0 4) (V 0 5) (V 1) (V 2) (V 3) (V 4) (V 5) (V 6) (V 7) (V 8) ++ pX cI fr g1 g2 kn kw x1 x2 x3 x4 x5))) 0 0 (some (.int (nI 0))) (fun u : (Nat → Nat → Nat) × (Nat → Nat) × (Nat → Nat) × Int32 × Int32 × Nat × Nat × Nat × Nat × Nat => (oX cL oq (vp_updL fq (nI 0).toNatClampNeg ((scF T S n n 0)).toInt64) ++ ((xX rx tt a tr r3 rs rz b b0 s0 r5 r6 ++ fX cI a (T 0 0) (T 0 1) (T 0 2) (T 0 3) (T 0 4) (T 0 5) (T 1) (T 2) (T 3) (T 4) (T 5) (T 6) (T 7) (T 8) ++ r5X r5 er fr ++ fX cI er (u.1 0 0) (u.1 0 1) (u.1 0 2) (u.1 0 3) (u.1 0 4) (u.1 0 5) (u.1 1) (u.1 2) (u.1 3) (u.1 4) (u.1 5) (u.1 6) (u.1 7) (u.1 8) ++ pX cI fr u.2.1 u.2.2.1 u.2.2.2.1 u.2.2.2.2.1 u.2.2.2.2.2.1 u.2.2.2.2.2.2.1 u.2.2.2.2.2.2.2.1 u.2.2.2.2.2.2.2.2.1 u.2.2.2.2.2.2.2.2.2)))) := by
  refine cl_in (cc := cL_runScript) (maxL := 6) (ret := (some .int)) (own := RL) (lv := [(0, .ref rx), (1, .int (nI n)), (2, .long (lN S)), (4, .ref oq)]) (by decide +kernel) rfl rfl (Nat.le_of_ble_eq_true rfl) rfl ?_
  intro p e s m args below meth c A ls hx hb hr hml hts hown hlocks hK hA hP hD hS hl hKX htab
  refine lv_aload hx hb dL_runScript_0 (lv_at hl 3 rfl) ?_
  refine lv_iconst (v := (nI 0)) hx hb dL_runScript_2 (by decide) ?_
  refine lv_aload_n hx hb dL_runScript_3 rfl (lv_at hl 0 rfl) ?_
  refine lv_iload_n hx hb dL_runScript_4 rfl (lv_at hl 1 rfl) ?_
  refine lv_lload_n hx hb dL_runScript_5 rfl (lv_at hl 2 rfl) ?_
  refine gp_V (ci := 8) (q0 := 0) (cq := (RX8, TX8, 11)) (c_X8_runScript l D cI cZ cF cL rx tt a tr r3 rs rz b b0 s0 r5 r6 T er fr V g1 g2 kn kw x1 x2 x3 x4 x5 n S hT h1n hn4 hS0 hz) (gHV u_804 u_805 u_806 u_2 u_807) rfl hdV_X8_runScript ⟨Nat.le_of_ble_eq_true rfl, Nat.le_of_ble_eq_true rfl⟩ ⟨rfl, rfl⟩ hx hb hml hown hts hK hA hP hD hS hl.1 ⟨Nat.le_of_ble_eq_true rfl, Nat.le_of_ble_eq_true rfl⟩ rfl rfl rfl (wr := oX cL oq fq) (pm_cnt (fun _ => by simp only [List.countP_append, List.countP_nil, fT] <;> omega)) (fun _ => by simp only [List.map_append, List.map_nil, fX_m, bX_m, sX_m, pX_m, iaX_m, r5X_m, r6X_m, fT_m, hX_m, tX_m, xX_m, sgX_m, zaX_m, fsB_a]) (rest := [.int (nI 0), .ref oq]) rfl rfl (Nat.le_of_ble_eq_true rfl) dL_runScript_6 (ws2 := (fun u : (Nat → Nat → Nat) × (Nat → Nat) × (Nat → Nat) × Int32 × Int32 × Nat × Nat × Nat × Nat × Nat => (oX cL oq fq ++ ((xX rx tt a tr r3 rs rz b b0 s0 r5 r6 ++ fX cI a (T 0 0) (T 0 1) (T 0 2) (T 0 3) (T 0 4) (T 0 5) (T 1) (T 2) (T 3) (T 4) (T 5) (T 6) (T 7) (T 8) ++ r5X r5 er fr ++ fX cI er (u.1 0 0) (u.1 0 1) (u.1 0 2) (u.1 0 3) (u.1 0 4) (u.1 0 5) (u.1 1) (u.1 2) (u.1 3) (u.1 4) (u.1 5) (u.1 6) (u.1 7) (u.1 8) ++ pX cI fr u.2.1 u.2.2.1 u.2.2.2.1 u.2.2.2.2.1 u.2.2.2.2.2.1 u.2.2.2.2.2.2.1 u.2.2.2.2.2.2.2.1 u.2.2.2.2.2.2.2.2.1 u.2.2.2.2.2.2.2.2.2))))) (fun _ => (pm_cnt (fun _ => by simp only [List.countP_append, List.countP_nil, fT] <;> omega))) (fun uz Hp locs hP hD hS => ?_)
  refine t_i2l hx hb dL_runScript_9 rfl ?_
  refine va_last hx hb hK.1 hP hD hS 0 3 rfl rfl cl_0 dL_runScript_10 (fun Hq locs1 hP hD hS => ?_)
  refine lv_goto (tgt := 18) hx hb dL_runScript_11 (by decide) ?_
  refine lv_iconst (v := (nI 0)) hx hb dL_runScript_18 (by decide) ?_
  exact cl_i uz hx hb hr hlocks hP hS rfl dL_runScript_19
theorem hdV_X8_simulate : yX8_simulate.cls = RX8 ∧ yX8_simulate.cls ≠ "java/lang/invoke/MethodHandle" ∧ yX8_simulate.cls ≠ "java/lang/invoke/VarHandle" ∧ (parseMethodDescriptor yX8_simulate.desc).map (fun d => d.parameters.length) = some 2 := by decide +kernel
set_option maxHeartbeats 4000000 in
set_option maxRecDepth 100000 in
theorem c_L_simulate (l : Launch) (D : va_G) (cI cZ cF cL : ClassId) (rx : Nat) (tt a tr : Nat → Nat) (r3 rs rz : Nat) (b : Nat → Nat) (b0 s0 r5 r6 : Nat) (T : Nat → Nat → Nat) (gr jr : Nat → Nat) (x0 : Int64) (V : Nat → Nat → Nat) (g1 g2 : Nat → Nat) (kn kw : Int32) (x1 x2 x3 x4 x5 : Nat) (sd : Int64) (mw : Nat) (hT : FI T) (h1n : 1 ≤ mw) (hn4 : mw ≤ 30) (oq : Nat) (fq : Nat → Int64) : CTL l D (tysX cI cZ cF cL) yL_simulate (wH yL_simulate cL_simulate 6 (some .int) [(0, 11, 14, 13)]) (rmF 6 149) [.ref rx, .long sd, .int (nI mw), .ref oq] (oX cL oq fq ++ ((xX rx tt a tr r3 rs rz b b0 s0 r5 r6 ++ fX cI a (T 0 0) (T 0 1) (T 0 2) (T 0 3) (T 0 4) (T 0 5) (T 1) (T 2) (T 3) (T 4) (T 5) (T 6) (T 7) (T 8) ++ r6X r6 gr jr x0 ++ fX cI gr (V 0 0) (V 0 1) (V 0 2) (V 0 3) (V 0 4) (V 0 5) (V 1) (V 2) (V 3) (V 4) (V 5) (V 6) (V 7) (V 8) ++ pX cI jr g1 g2 kn kw x1 x2 x3 x4 x5))) 0 0 (some (.int (nI 0))) (fun u : (Nat → Nat) × (Nat → Nat) × Int32 × Int32 × Nat × Nat × Nat × Nat × Nat => (oX cL oq (vp_updL fq (nI 0).toNatClampNeg ((smR T sd mw)).toInt64) ++ ((xX rx tt a tr r3 rs rz b b0 s0 r5 r6 ++ fX cI a (T 0 0) (T 0 1) (T 0 2) (T 0 3) (T 0 4) (T 0 5) (T 1) (T 2) (T 3) (T 4) (T 5) (T 6) (T 7) (T 8) ++ r6X r6 gr jr ((smN T sd mw).2.1) ++ fX cI gr (((smN T sd mw).1) 0 0) (((smN T sd mw).1) 0 1) (((smN T sd mw).1) 0 2) (((smN T sd mw).1) 0 3) (((smN T sd mw).1) 0 4) (((smN T sd mw).1) 0 5) (((smN T sd mw).1) 1) (((smN T sd mw).1) 2) (((smN T sd mw).1) 3) (((smN T sd mw).1) 4) (((smN T sd mw).1) 5) (((smN T sd mw).1) 6) (((smN T sd mw).1) 7) (((smN T sd mw).1) 8) ++ pX cI jr u.1 u.2.1 u.2.2.1 u.2.2.2.1 u.2.2.2.2.1 u.2.2.2.2.2.1 u.2.2.2.2.2.2.1 u.2.2.2.2.2.2.2.1 u.2.2.2.2.2.2.2.2)))) := by
  refine cl_in (cc := cL_simulate) (maxL := 6) (ret := (some .int)) (own := RL) (lv := [(0, .ref rx), (1, .long sd), (3, .int (nI mw)), (4, .ref oq)]) (by decide +kernel) rfl rfl (Nat.le_of_ble_eq_true rfl) rfl ?_
  intro p e s m args below meth c A ls hx hb hr hml hts hown hlocks hK hA hP hD hS hl hKX htab
  refine lv_aload hx hb dL_simulate_0 (lv_at hl 3 rfl) ?_
  refine lv_iconst (v := (nI 0)) hx hb dL_simulate_2 (by decide) ?_
  refine lv_aload_n hx hb dL_simulate_3 rfl (lv_at hl 0 rfl) ?_
  refine lv_lload_n hx hb dL_simulate_4 rfl (lv_at hl 1 rfl) ?_
  refine lv_iload_n hx hb dL_simulate_5 rfl (lv_at hl 2 rfl) ?_
  refine gp_V (ci := 8) (q0 := 0) (cq := (RX8, TX8, 11)) (c_X8_simulate l D cI cZ cF cL rx tt a tr r3 rs rz b b0 s0 r5 r6 T gr jr x0 V g1 g2 kn kw x1 x2 x3 x4 x5 sd mw hT h1n hn4) (gHV u_873 u_874 u_875 u_2 u_876) rfl hdV_X8_simulate ⟨Nat.le_of_ble_eq_true rfl, Nat.le_of_ble_eq_true rfl⟩ ⟨rfl, rfl⟩ hx hb hml hown hts hK hA hP hD hS hl.1 ⟨Nat.le_of_ble_eq_true rfl, Nat.le_of_ble_eq_true rfl⟩ rfl rfl rfl (wr := oX cL oq fq) (pm_cnt (fun _ => by simp only [List.countP_append, List.countP_nil, fT] <;> omega)) (fun _ => by simp only [List.map_append, List.map_nil, fX_m, bX_m, sX_m, pX_m, iaX_m, r5X_m, r6X_m, fT_m, hX_m, tX_m, xX_m, sgX_m, zaX_m, fsB_a]) (rest := [.int (nI 0), .ref oq]) rfl rfl (Nat.le_of_ble_eq_true rfl) dL_simulate_6 (ws2 := (fun u : (Nat → Nat) × (Nat → Nat) × Int32 × Int32 × Nat × Nat × Nat × Nat × Nat => (oX cL oq fq ++ ((xX rx tt a tr r3 rs rz b b0 s0 r5 r6 ++ fX cI a (T 0 0) (T 0 1) (T 0 2) (T 0 3) (T 0 4) (T 0 5) (T 1) (T 2) (T 3) (T 4) (T 5) (T 6) (T 7) (T 8) ++ r6X r6 gr jr ((smN T sd mw).2.1) ++ fX cI gr (((smN T sd mw).1) 0 0) (((smN T sd mw).1) 0 1) (((smN T sd mw).1) 0 2) (((smN T sd mw).1) 0 3) (((smN T sd mw).1) 0 4) (((smN T sd mw).1) 0 5) (((smN T sd mw).1) 1) (((smN T sd mw).1) 2) (((smN T sd mw).1) 3) (((smN T sd mw).1) 4) (((smN T sd mw).1) 5) (((smN T sd mw).1) 6) (((smN T sd mw).1) 7) (((smN T sd mw).1) 8) ++ pX cI jr u.1 u.2.1 u.2.2.1 u.2.2.2.1 u.2.2.2.2.1 u.2.2.2.2.2.1 u.2.2.2.2.2.2.1 u.2.2.2.2.2.2.2.1 u.2.2.2.2.2.2.2.2))))) (fun _ => (pm_cnt (fun _ => by simp only [List.countP_append, List.countP_nil, fT] <;> omega))) (fun uz Hp locs hP hD hS => ?_)
  refine t_i2l hx hb dL_simulate_9 rfl ?_
  refine va_last hx hb hK.1 hP hD hS 0 3 rfl rfl cl_0 dL_simulate_10 (fun Hq locs1 hP hD hS => ?_)
  refine lv_goto (tgt := 18) hx hb dL_simulate_11 (by decide) ?_
  refine lv_iconst (v := (nI 0)) hx hb dL_simulate_18 (by decide) ?_
  exact cl_i uz hx hb hr hlocks hP hS rfl dL_simulate_19
set_option maxHeartbeats 4000000 in
set_option maxRecDepth 100000 in
theorem x1_L_load (l : Launch) (D : va_G) (cI cZ cF cL : ClassId) (rx : Nat) (tt a tr : Nat → Nat) (r3 rs rz : Nat) (b : Nat → Nat) (b0 s0 r5 r6 : Nat) (X : Nat → Nat) (L pl : Nat) (U : Nat → Nat → Nat) (hst : l.stackTraces = false) (hL : L ≤ 120) (hXt : ∀ k, k < 120 → X k < 256) (hok : ¬ (rdI X L).1 = true) (oq : Nat) (fq : Nat → Int64) : CTL l D (tysX cI cZ cF cL) yL_load (wH yL_load cL_load 3 (some .int) [(0, 8, 11, 15)]) (rmX 7 131) [.ref rx, .ref oq] (oX cL oq fq ++ ((xX rx tt a tr r3 rs rz b b0 s0 r5 r6 ++ tX cI tt X L pl ++ fX cI tr (U 0 0) (U 0 1) (U 0 2) (U 0 3) (U 0 4) (U 0 5) (U 1) (U 2) (U 3) (U 4) (U 5) (U 6) (U 7) (U 8)))) 1 6 (some (.int (nI 1))) (fun _ : Unit => (oX cL oq fq ++ ((xX rx tt a tr r3 rs rz b b0 s0 r5 r6 ++ tX cI tt X L ((rdI X L).2.1) ++ fX cI tr ((rdT X L) 0 0) ((rdT X L) 0 1) ((rdT X L) 0 2) ((rdT X L) 0 3) ((rdT X L) 0 4) ((rdT X L) 0 5) ((rdT X L) 1) ((rdT X L) 2) ((rdT X L) 3) ((rdT X L) 4) ((rdT X L) 5) ((rdT X L) 6) ((rdT X L) 7) ((rdT X L) 8))))) := by
  refine cl_in (cc := cL_load) (maxL := 3) (ret := (some .int)) (own := RL) (lv := [(0, .ref rx), (1, .ref oq)]) (by decide +kernel) rfl rfl (Nat.le_of_ble_eq_true rfl) rfl ?_
  intro p e s m args below meth c A ls hx hb hr hml hts hown hlocks hK hA hP hD hS hl hKX htab
  refine lv_aload_n hx hb dL_load_0 rfl (lv_at hl 1 rfl) ?_
  refine lv_iconst (v := (nI 0)) hx hb dL_load_1 (by decide) ?_
  refine lv_aload_n hx hb dL_load_2 rfl (lv_at hl 0 rfl) ?_
  refine gx_V (ci := 8) (q0 := 0) (cq := (RX8, TX8, 11)) (x1_X8_load l D cI cZ cF cL rx tt a tr r3 rs rz b b0 s0 r5 r6 X L pl U hst hL hXt hok) (gHV u_287 u_288 u_289 u_2 u_290) rfl hdV_X8_load ⟨Nat.le_of_ble_eq_true rfl, Nat.le_of_ble_eq_true rfl⟩ ⟨rfl, rfl⟩ hx hb hml hown hts hK hKX rfl hA hP hD hS hl.1 ⟨Nat.le_of_ble_eq_true rfl, Nat.le_of_ble_eq_true rfl⟩ rfl rfl rfl (wr := oX cL oq fq) (pm_cnt (fun _ => by simp only [List.countP_append, List.countP_nil, fT] <;> omega)) (fun _ => by simp only [List.map_append, List.map_nil, fX_m, bX_m, sX_m, pX_m, iaX_m, r5X_m, r6X_m, fT_m, hX_m, tX_m, xX_m, sgX_m, zaX_m, fsB_a]) (rest := [.int (nI 0), .ref oq]) rfl (Nat.le_of_ble_eq_true rfl) dL_load_3 (ws2 := (fun _ : Unit => (oX cL oq fq ++ ((xX rx tt a tr r3 rs rz b b0 s0 r5 r6 ++ tX cI tt X L ((rdI X L).2.1) ++ fX cI tr ((rdT X L) 0 0) ((rdT X L) 0 1) ((rdT X L) 0 2) ((rdT X L) 0 3) ((rdT X L) 0 4) ((rdT X L) 0 5) ((rdT X L) 1) ((rdT X L) 2) ((rdT X L) 3) ((rdT X L) 4) ((rdT X L) 5) ((rdT X L) 6) ((rdT X L) 7) ((rdT X L) 8)))))) (fun _ => (pm_cnt (fun _ => by simp only [List.countP_append, List.countP_nil, fT] <;> omega))) (fun uz Hp locs q9 ce9 hP hD hS hce hcv hcl => ?_)
  refine cl_catch (E := cISE) [] [] (0, 8, 11, 15) htab hts hown hKX (by decide) (fun z hz => nomatch hz) (by decide) (by decide) (kH u_148) hce hcv hcl ?_
  refine lv_astore_n (lv' := [(2, .ref q9), (0, .ref rx), (1, .ref oq)]) hx hb dL_load_11 rfl hl (by decide) rfl (fun ls hl => ?_)
  refine lv_iconst (v := (nI 1)) hx hb dL_load_12 (by decide) ?_
  exact cl_i uz hx hb hr hlocks hP hS rfl dL_load_13
set_option maxHeartbeats 4000000 in
set_option maxRecDepth 100000 in
theorem x1_L_about (l : Launch) (D : va_G) (cI cZ cF cL : ClassId) (rx : Nat) (tt a tr : Nat → Nat) (r3 rs rz : Nat) (b : Nat → Nat) (b0 s0 r5 r6 : Nat) (T : Nat → Nat → Nat)  (w : Int32) (hst : l.stackTraces = false) (hT : FI T)  (hbad : ∀ j, j < 10 → ¬ w = nI j) (oq : Nat) (fq : Nat → Int64) : CTL l D (tysX cI cZ cF cL) yL_about (wH yL_about cL_about 4 (some .int) [(0, 9, 12, 13)]) (rmX 7 121) [.ref rx, .int w, .ref oq] (oX cL oq fq ++ ((xX rx tt a tr r3 rs rz b b0 s0 r5 r6 ++ fX cI a (T 0 0) (T 0 1) (T 0 2) (T 0 3) (T 0 4) (T 0 5) (T 1) (T 2) (T 3) (T 4) (T 5) (T 6) (T 7) (T 8)))) 1 6 (some (.int (nI 1))) (fun _ : Unit => (oX cL oq fq ++ ((xX rx tt a tr r3 rs rz b b0 s0 r5 r6 ++ fX cI a (T 0 0) (T 0 1) (T 0 2) (T 0 3) (T 0 4) (T 0 5) (T 1) (T 2) (T 3) (T 4) (T 5) (T 6) (T 7) (T 8))))) := by
  refine cl_in (cc := cL_about) (maxL := 4) (ret := (some .int)) (own := RL) (lv := [(0, .ref rx), (1, .int w), (2, .ref oq)]) (by decide +kernel) rfl rfl (Nat.le_of_ble_eq_true rfl) rfl ?_
  intro p e s m args below meth c A ls hx hb hr hml hts hown hlocks hK hA hP hD hS hl hKX htab
  refine lv_aload_n hx hb dL_about_0 rfl (lv_at hl 2 rfl) ?_
  refine lv_iconst (v := (nI 0)) hx hb dL_about_1 (by decide) ?_
  refine lv_aload_n hx hb dL_about_2 rfl (lv_at hl 0 rfl) ?_
  refine lv_iload_n hx hb dL_about_3 rfl (lv_at hl 1 rfl) ?_
  refine gx_V (ci := 8) (q0 := 0) (cq := (RX8, TX8, 11)) (x1_X8_about l D cI cZ cF cL rx tt a tr r3 rs rz b b0 s0 r5 r6 T w hst hT hbad) (gHV u_313 u_314 u_315 u_2 u_316) rfl hdV_X8_about ⟨Nat.le_of_ble_eq_true rfl, Nat.le_of_ble_eq_true rfl⟩ ⟨rfl, rfl⟩ hx hb hml hown hts hK hKX rfl hA hP hD hS hl.1 ⟨Nat.le_of_ble_eq_true rfl, Nat.le_of_ble_eq_true rfl⟩ rfl rfl rfl (wr := oX cL oq fq) (pm_cnt (fun _ => by simp only [List.countP_append, List.countP_nil, fT] <;> omega)) (fun _ => by simp only [List.map_append, List.map_nil, fX_m, bX_m, sX_m, pX_m, iaX_m, r5X_m, r6X_m, fT_m, hX_m, tX_m, xX_m, sgX_m, zaX_m, fsB_a]) (rest := [.int (nI 0), .ref oq]) rfl (Nat.le_of_ble_eq_true rfl) dL_about_4 (ws2 := (fun _ : Unit => (oX cL oq fq ++ ((xX rx tt a tr r3 rs rz b b0 s0 r5 r6 ++ fX cI a (T 0 0) (T 0 1) (T 0 2) (T 0 3) (T 0 4) (T 0 5) (T 1) (T 2) (T 3) (T 4) (T 5) (T 6) (T 7) (T 8)))))) (fun _ => (pm_cnt (fun _ => by simp only [List.countP_append, List.countP_nil, fT] <;> omega))) (fun uz Hp locs q9 ce9 hP hD hS hce hcv hcl => ?_)
  refine cl_catch (E := cIAE) [] [] (0, 9, 12, 13) htab hts hown hKX (by decide) (fun z hz => nomatch hz) (by decide) (by decide) (kH u_147) hce hcv hcl ?_
  refine lv_astore_n (lv' := [(3, .ref q9), (0, .ref rx), (1, .int w), (2, .ref oq)]) hx hb dL_about_12 rfl hl (by decide) rfl (fun ls hl => ?_)
  refine lv_iconst (v := (nI 1)) hx hb dL_about_13 (by decide) ?_
  exact cl_i uz hx hb hr hlocks hP hS rfl dL_about_14
set_option maxHeartbeats 4000000 in
set_option maxRecDepth 100000 in
theorem x1_L_house (l : Launch) (D : va_G) (cI cZ cF cL : ClassId) (rx : Nat) (tt a tr : Nat → Nat) (r3 rs rz : Nat) (b : Nat → Nat) (b0 s0 r5 r6 : Nat) (T : Nat → Nat → Nat) (x w : Int32) (hst : l.stackTraces = false) (hT : FI T) (hbad : ¬ (0 ≤ x ∧ x < nI (T 0 0))) (oq : Nat) (fq : Nat → Int64) : CTL l D (tysX cI cZ cF cL) yL_house (wH yL_house cL_house 5 (some .int) [(0, 10, 13, 28), (0, 10, 17, 13)]) (rmX 8 143) [.ref rx, .int x, .int w, .ref oq] (oX cL oq fq ++ ((xX rx tt a tr r3 rs rz b b0 s0 r5 r6 ++ fX cI a (T 0 0) (T 0 1) (T 0 2) (T 0 3) (T 0 4) (T 0 5) (T 1) (T 2) (T 3) (T 4) (T 5) (T 6) (T 7) (T 8)))) 1 6 (some (.int (nI 1))) (fun _ : Unit => (oX cL oq fq ++ ((xX rx tt a tr r3 rs rz b b0 s0 r5 r6 ++ fX cI a (T 0 0) (T 0 1) (T 0 2) (T 0 3) (T 0 4) (T 0 5) (T 1) (T 2) (T 3) (T 4) (T 5) (T 6) (T 7) (T 8))))) := by
  refine cl_in (cc := cL_house) (maxL := 5) (ret := (some .int)) (own := RL) (lv := [(0, .ref rx), (1, .int x), (2, .int w), (3, .ref oq)]) (by decide +kernel) rfl rfl (Nat.le_of_ble_eq_true rfl) rfl ?_
  intro p e s m args below meth c A ls hx hb hr hml hts hown hlocks hK hA hP hD hS hl hKX htab
  refine lv_aload_n hx hb dL_house_0 rfl (lv_at hl 3 rfl) ?_
  refine lv_iconst (v := (nI 0)) hx hb dL_house_1 (by decide) ?_
  refine lv_aload_n hx hb dL_house_2 rfl (lv_at hl 0 rfl) ?_
  refine lv_iload_n hx hb dL_house_3 rfl (lv_at hl 1 rfl) ?_
  refine lv_iload_n hx hb dL_house_4 rfl (lv_at hl 2 rfl) ?_
  refine gx_V (ci := 8) (q0 := 0) (cq := (RX8, TX8, 11)) (x1_X8_house l D cI cZ cF cL rx tt a tr r3 rs rz b b0 s0 r5 r6 T x w hst hT hbad) (gHV u_369 u_370 u_371 u_2 u_372) rfl hdV_X8_house ⟨Nat.le_of_ble_eq_true rfl, Nat.le_of_ble_eq_true rfl⟩ ⟨rfl, rfl⟩ hx hb hml hown hts hK hKX rfl hA hP hD hS hl.1 ⟨Nat.le_of_ble_eq_true rfl, Nat.le_of_ble_eq_true rfl⟩ rfl rfl rfl (wr := oX cL oq fq) (pm_cnt (fun _ => by simp only [List.countP_append, List.countP_nil, fT] <;> omega)) (fun _ => by simp only [List.map_append, List.map_nil, fX_m, bX_m, sX_m, pX_m, iaX_m, r5X_m, r6X_m, fT_m, hX_m, tX_m, xX_m, sgX_m, zaX_m, fsB_a]) (rest := [.int (nI 0), .ref oq]) rfl (Nat.le_of_ble_eq_true rfl) dL_house_5 (ws2 := (fun _ : Unit => (oX cL oq fq ++ ((xX rx tt a tr r3 rs rz b b0 s0 r5 r6 ++ fX cI a (T 0 0) (T 0 1) (T 0 2) (T 0 3) (T 0 4) (T 0 5) (T 1) (T 2) (T 3) (T 4) (T 5) (T 6) (T 7) (T 8)))))) (fun _ => (pm_cnt (fun _ => by simp only [List.countP_append, List.countP_nil, fT] <;> omega))) (fun uz Hp locs q9 ce9 hP hD hS hce hcv hcl => ?_)
  refine cl_catch (E := cIOB) [] [(0, 10, 17, 13)] (0, 10, 13, 28) htab hts hown hKX (by decide) (fun z hz => nomatch hz) (by decide) (by decide) (kH u_368) hce hcv hcl ?_
  refine lv_astore (lv' := [(4, .ref q9), (0, .ref rx), (1, .int x), (2, .int w), (3, .ref oq)]) hx hb dL_house_13 hl (by decide) rfl (fun ls hl => ?_)
  refine lv_iconst (v := (nI 1)) hx hb dL_house_15 (by decide) ?_
  exact cl_i uz hx hb hr hlocks hP hS rfl dL_house_16
set_option maxHeartbeats 4000000 in
set_option maxRecDepth 100000 in
theorem x2_L_house (l : Launch) (D : va_G) (cI cZ cF cL : ClassId) (rx : Nat) (tt a tr : Nat → Nat) (r3 rs rz : Nat) (b : Nat → Nat) (b0 s0 r5 r6 : Nat) (T : Nat → Nat → Nat) (h : Nat) (w : Int32) (hst : l.stackTraces = false) (hT : FI T) (hh : h < T 0 0) (hbad : ∀ j, j < 7 → ¬ w = nI j) (oq : Nat) (fq : Nat → Int64) : CTL l D (tysX cI cZ cF cL) yL_house (wH yL_house cL_house 5 (some .int) [(0, 10, 13, 28), (0, 10, 17, 13)]) (rmX 7 122) [.ref rx, .int (nI h), .int w, .ref oq] (oX cL oq fq ++ ((xX rx tt a tr r3 rs rz b b0 s0 r5 r6 ++ fX cI a (T 0 0) (T 0 1) (T 0 2) (T 0 3) (T 0 4) (T 0 5) (T 1) (T 2) (T 3) (T 4) (T 5) (T 6) (T 7) (T 8)))) 1 6 (some (.int (nI 2))) (fun _ : Unit => (oX cL oq fq ++ ((xX rx tt a tr r3 rs rz b b0 s0 r5 r6 ++ fX cI a (T 0 0) (T 0 1) (T 0 2) (T 0 3) (T 0 4) (T 0 5) (T 1) (T 2) (T 3) (T 4) (T 5) (T 6) (T 7) (T 8))))) := by
  refine cl_in (cc := cL_house) (maxL := 5) (ret := (some .int)) (own := RL) (lv := [(0, .ref rx), (1, .int (nI h)), (2, .int w), (3, .ref oq)]) (by decide +kernel) rfl rfl (Nat.le_of_ble_eq_true rfl) rfl ?_
  intro p e s m args below meth c A ls hx hb hr hml hts hown hlocks hK hA hP hD hS hl hKX htab
  refine lv_aload_n hx hb dL_house_0 rfl (lv_at hl 3 rfl) ?_
  refine lv_iconst (v := (nI 0)) hx hb dL_house_1 (by decide) ?_
  refine lv_aload_n hx hb dL_house_2 rfl (lv_at hl 0 rfl) ?_
  refine lv_iload_n hx hb dL_house_3 rfl (lv_at hl 1 rfl) ?_
  refine lv_iload_n hx hb dL_house_4 rfl (lv_at hl 2 rfl) ?_
  refine gx_V (ci := 8) (q0 := 0) (cq := (RX8, TX8, 11)) (x2_X8_house l D cI cZ cF cL rx tt a tr r3 rs rz b b0 s0 r5 r6 T h w hst hT hh hbad) (gHV u_369 u_370 u_371 u_2 u_372) rfl hdV_X8_house ⟨Nat.le_of_ble_eq_true rfl, Nat.le_of_ble_eq_true rfl⟩ ⟨rfl, rfl⟩ hx hb hml hown hts hK hKX rfl hA hP hD hS hl.1 ⟨Nat.le_of_ble_eq_true rfl, Nat.le_of_ble_eq_true rfl⟩ rfl rfl rfl (wr := oX cL oq fq) (pm_cnt (fun _ => by simp only [List.countP_append, List.countP_nil, fT] <;> omega)) (fun _ => by simp only [List.map_append, List.map_nil, fX_m, bX_m, sX_m, pX_m, iaX_m, r5X_m, r6X_m, fT_m, hX_m, tX_m, xX_m, sgX_m, zaX_m, fsB_a]) (rest := [.int (nI 0), .ref oq]) rfl (Nat.le_of_ble_eq_true rfl) dL_house_5 (ws2 := (fun _ : Unit => (oX cL oq fq ++ ((xX rx tt a tr r3 rs rz b b0 s0 r5 r6 ++ fX cI a (T 0 0) (T 0 1) (T 0 2) (T 0 3) (T 0 4) (T 0 5) (T 1) (T 2) (T 3) (T 4) (T 5) (T 6) (T 7) (T 8)))))) (fun _ => (pm_cnt (fun _ => by simp only [List.countP_append, List.countP_nil, fT] <;> omega))) (fun uz Hp locs q9 ce9 hP hD hS hce hcv hcl => ?_)
  refine cl_catch (E := cIAE) [(0, 10, 13, 28)] [] (0, 10, 17, 13) htab hts hown hKX (by decide) (fun z hz => by rcases List.mem_singleton.mp hz with rfl; exact ⟨by decide, cIOB, kH u_368, by decide⟩) (by decide) (by decide) (kH u_147) hce hcv hcl ?_
  refine lv_astore (lv' := [(4, .ref q9), (0, .ref rx), (1, .int (nI h)), (2, .int w), (3, .ref oq)]) hx hb dL_house_17 hl (by decide) rfl (fun ls hl => ?_)
  refine lv_iconst (v := (nI 2)) hx hb dL_house_19 (by decide) ?_
  exact cl_i uz hx hb hr hlocks hP hS rfl dL_house_20
set_option maxHeartbeats 4000000 in
set_option maxRecDepth 100000 in
theorem x1_L_vegetable (l : Launch) (D : va_G) (cI cZ cF cL : ClassId) (rx : Nat) (tt a tr : Nat → Nat) (r3 rs rz : Nat) (b : Nat → Nat) (b0 s0 r5 r6 : Nat) (T : Nat → Nat → Nat) (x w : Int32) (hst : l.stackTraces = false) (hT : FI T) (hbad : ¬ (0 ≤ x ∧ x < nI (T 0 1))) (oq : Nat) (fq : Nat → Int64) : CTL l D (tysX cI cZ cF cL) yL_vegetable (wH yL_vegetable cL_vegetable 5 (some .int) [(0, 10, 13, 28), (0, 10, 17, 13)]) (rmX 8 143) [.ref rx, .int x, .int w, .ref oq] (oX cL oq fq ++ ((xX rx tt a tr r3 rs rz b b0 s0 r5 r6 ++ fX cI a (T 0 0) (T 0 1) (T 0 2) (T 0 3) (T 0 4) (T 0 5) (T 1) (T 2) (T 3) (T 4) (T 5) (T 6) (T 7) (T 8)))) 1 6 (some (.int (nI 1))) (fun _ : Unit => (oX cL oq fq ++ ((xX rx tt a tr r3 rs rz b b0 s0 r5 r6 ++ fX cI a (T 0 0) (T 0 1) (T 0 2) (T 0 3) (T 0 4) (T 0 5) (T 1) (T 2) (T 3) (T 4) (T 5) (T 6) (T 7) (T 8))))) := by
  refine cl_in (cc := cL_vegetable) (maxL := 5) (ret := (some .int)) (own := RL) (lv := [(0, .ref rx), (1, .int x), (2, .int w), (3, .ref oq)]) (by decide +kernel) rfl rfl (Nat.le_of_ble_eq_true rfl) rfl ?_
  intro p e s m args below meth c A ls hx hb hr hml hts hown hlocks hK hA hP hD hS hl hKX htab
  refine lv_aload_n hx hb dL_vegetable_0 rfl (lv_at hl 3 rfl) ?_
  refine lv_iconst (v := (nI 0)) hx hb dL_vegetable_1 (by decide) ?_
  refine lv_aload_n hx hb dL_vegetable_2 rfl (lv_at hl 0 rfl) ?_
  refine lv_iload_n hx hb dL_vegetable_3 rfl (lv_at hl 1 rfl) ?_
  refine lv_iload_n hx hb dL_vegetable_4 rfl (lv_at hl 2 rfl) ?_
  refine gx_V (ci := 8) (q0 := 0) (cq := (RX8, TX8, 11)) (x1_X8_vegetable l D cI cZ cF cL rx tt a tr r3 rs rz b b0 s0 r5 r6 T x w hst hT hbad) (gHV u_408 u_409 u_410 u_2 u_411) rfl hdV_X8_vegetable ⟨Nat.le_of_ble_eq_true rfl, Nat.le_of_ble_eq_true rfl⟩ ⟨rfl, rfl⟩ hx hb hml hown hts hK hKX rfl hA hP hD hS hl.1 ⟨Nat.le_of_ble_eq_true rfl, Nat.le_of_ble_eq_true rfl⟩ rfl rfl rfl (wr := oX cL oq fq) (pm_cnt (fun _ => by simp only [List.countP_append, List.countP_nil, fT] <;> omega)) (fun _ => by simp only [List.map_append, List.map_nil, fX_m, bX_m, sX_m, pX_m, iaX_m, r5X_m, r6X_m, fT_m, hX_m, tX_m, xX_m, sgX_m, zaX_m, fsB_a]) (rest := [.int (nI 0), .ref oq]) rfl (Nat.le_of_ble_eq_true rfl) dL_vegetable_5 (ws2 := (fun _ : Unit => (oX cL oq fq ++ ((xX rx tt a tr r3 rs rz b b0 s0 r5 r6 ++ fX cI a (T 0 0) (T 0 1) (T 0 2) (T 0 3) (T 0 4) (T 0 5) (T 1) (T 2) (T 3) (T 4) (T 5) (T 6) (T 7) (T 8)))))) (fun _ => (pm_cnt (fun _ => by simp only [List.countP_append, List.countP_nil, fT] <;> omega))) (fun uz Hp locs q9 ce9 hP hD hS hce hcv hcl => ?_)
  refine cl_catch (E := cIOB) [] [(0, 10, 17, 13)] (0, 10, 13, 28) htab hts hown hKX (by decide) (fun z hz => nomatch hz) (by decide) (by decide) (kH u_368) hce hcv hcl ?_
  refine lv_astore (lv' := [(4, .ref q9), (0, .ref rx), (1, .int x), (2, .int w), (3, .ref oq)]) hx hb dL_vegetable_13 hl (by decide) rfl (fun ls hl => ?_)
  refine lv_iconst (v := (nI 1)) hx hb dL_vegetable_15 (by decide) ?_
  exact cl_i uz hx hb hr hlocks hP hS rfl dL_vegetable_16
set_option maxHeartbeats 4000000 in
set_option maxRecDepth 100000 in
theorem x2_L_vegetable (l : Launch) (D : va_G) (cI cZ cF cL : ClassId) (rx : Nat) (tt a tr : Nat → Nat) (r3 rs rz : Nat) (b : Nat → Nat) (b0 s0 r5 r6 : Nat) (T : Nat → Nat → Nat) (v : Nat) (w : Int32) (hst : l.stackTraces = false) (hT : FI T) (hv : v < T 0 1) (hbad : ∀ j, j < 4 → ¬ w = nI j) (oq : Nat) (fq : Nat → Int64) : CTL l D (tysX cI cZ cF cL) yL_vegetable (wH yL_vegetable cL_vegetable 5 (some .int) [(0, 10, 13, 28), (0, 10, 17, 13)]) (rmX 7 122) [.ref rx, .int (nI v), .int w, .ref oq] (oX cL oq fq ++ ((xX rx tt a tr r3 rs rz b b0 s0 r5 r6 ++ fX cI a (T 0 0) (T 0 1) (T 0 2) (T 0 3) (T 0 4) (T 0 5) (T 1) (T 2) (T 3) (T 4) (T 5) (T 6) (T 7) (T 8)))) 1 6 (some (.int (nI 2))) (fun _ : Unit => (oX cL oq fq ++ ((xX rx tt a tr r3 rs rz b b0 s0 r5 r6 ++ fX cI a (T 0 0) (T 0 1) (T 0 2) (T 0 3) (T 0 4) (T 0 5) (T 1) (T 2) (T 3) (T 4) (T 5) (T 6) (T 7) (T 8))))) := by
  refine cl_in (cc := cL_vegetable) (maxL := 5) (ret := (some .int)) (own := RL) (lv := [(0, .ref rx), (1, .int (nI v)), (2, .int w), (3, .ref oq)]) (by decide +kernel) rfl rfl (Nat.le_of_ble_eq_true rfl) rfl ?_
  intro p e s m args below meth c A ls hx hb hr hml hts hown hlocks hK hA hP hD hS hl hKX htab
  refine lv_aload_n hx hb dL_vegetable_0 rfl (lv_at hl 3 rfl) ?_
  refine lv_iconst (v := (nI 0)) hx hb dL_vegetable_1 (by decide) ?_
  refine lv_aload_n hx hb dL_vegetable_2 rfl (lv_at hl 0 rfl) ?_
  refine lv_iload_n hx hb dL_vegetable_3 rfl (lv_at hl 1 rfl) ?_
  refine lv_iload_n hx hb dL_vegetable_4 rfl (lv_at hl 2 rfl) ?_
  refine gx_V (ci := 8) (q0 := 0) (cq := (RX8, TX8, 11)) (x2_X8_vegetable l D cI cZ cF cL rx tt a tr r3 rs rz b b0 s0 r5 r6 T v w hst hT hv hbad) (gHV u_408 u_409 u_410 u_2 u_411) rfl hdV_X8_vegetable ⟨Nat.le_of_ble_eq_true rfl, Nat.le_of_ble_eq_true rfl⟩ ⟨rfl, rfl⟩ hx hb hml hown hts hK hKX rfl hA hP hD hS hl.1 ⟨Nat.le_of_ble_eq_true rfl, Nat.le_of_ble_eq_true rfl⟩ rfl rfl rfl (wr := oX cL oq fq) (pm_cnt (fun _ => by simp only [List.countP_append, List.countP_nil, fT] <;> omega)) (fun _ => by simp only [List.map_append, List.map_nil, fX_m, bX_m, sX_m, pX_m, iaX_m, r5X_m, r6X_m, fT_m, hX_m, tX_m, xX_m, sgX_m, zaX_m, fsB_a]) (rest := [.int (nI 0), .ref oq]) rfl (Nat.le_of_ble_eq_true rfl) dL_vegetable_5 (ws2 := (fun _ : Unit => (oX cL oq fq ++ ((xX rx tt a tr r3 rs rz b b0 s0 r5 r6 ++ fX cI a (T 0 0) (T 0 1) (T 0 2) (T 0 3) (T 0 4) (T 0 5) (T 1) (T 2) (T 3) (T 4) (T 5) (T 6) (T 7) (T 8)))))) (fun _ => (pm_cnt (fun _ => by simp only [List.countP_append, List.countP_nil, fT] <;> omega))) (fun uz Hp locs q9 ce9 hP hD hS hce hcv hcl => ?_)
  refine cl_catch (E := cIAE) [(0, 10, 13, 28)] [] (0, 10, 17, 13) htab hts hown hKX (by decide) (fun z hz => by rcases List.mem_singleton.mp hz with rfl; exact ⟨by decide, cIOB, kH u_368, by decide⟩) (by decide) (by decide) (kH u_147) hce hcv hcl ?_
  refine lv_astore (lv' := [(4, .ref q9), (0, .ref rx), (1, .int (nI v)), (2, .int w), (3, .ref oq)]) hx hb dL_vegetable_17 hl (by decide) rfl (fun ls hl => ?_)
  refine lv_iconst (v := (nI 2)) hx hb dL_vegetable_19 (by decide) ?_
  exact cl_i uz hx hb hr hlocks hP hS rfl dL_vegetable_20
set_option maxHeartbeats 4000000 in
set_option maxRecDepth 100000 in
theorem x1_L_box (l : Launch) (D : va_G) (cI cZ cF cL : ClassId) (rx : Nat) (tt a tr : Nat → Nat) (r3 rs rz : Nat) (b : Nat → Nat) (b0 s0 r5 r6 : Nat) (T : Nat → Nat → Nat) (x y : Int32) (hst : l.stackTraces = false) (hT : FI T) (hbad : ¬ (0 ≤ x ∧ x < nI (T 0 0))) (oq : Nat) (fq : Nat → Int64) : CTL l D (tysX cI cZ cF cL) yL_box (wH yL_box cL_box 5 (some .int) [(0, 10, 13, 28)]) (rmX 8 143) [.ref rx, .int x, .int y, .ref oq] (oX cL oq fq ++ ((xX rx tt a tr r3 rs rz b b0 s0 r5 r6 ++ fX cI a (T 0 0) (T 0 1) (T 0 2) (T 0 3) (T 0 4) (T 0 5) (T 1) (T 2) (T 3) (T 4) (T 5) (T 6) (T 7) (T 8)))) 1 6 (some (.int (nI 1))) (fun _ : Unit => (oX cL oq fq ++ ((xX rx tt a tr r3 rs rz b b0 s0 r5 r6 ++ fX cI a (T 0 0) (T 0 1) (T 0 2) (T 0 3) (T 0 4) (T 0 5) (T 1) (T 2) (T 3) (T 4) (T 5) (T 6) (T 7) (T 8))))) := by
  refine cl_in (cc := cL_box) (maxL := 5) (ret := (some .int)) (own := RL) (lv := [(0, .ref rx), (1, .int x), (2, .int y), (3, .ref oq)]) (by decide +kernel) rfl rfl (Nat.le_of_ble_eq_true rfl) rfl ?_
  intro p e s m args below meth c A ls hx hb hr hml hts hown hlocks hK hA hP hD hS hl hKX htab
  refine lv_aload_n hx hb dL_box_0 rfl (lv_at hl 3 rfl) ?_
  refine lv_iconst (v := (nI 0)) hx hb dL_box_1 (by decide) ?_
  refine lv_aload_n hx hb dL_box_2 rfl (lv_at hl 0 rfl) ?_
  refine lv_iload_n hx hb dL_box_3 rfl (lv_at hl 1 rfl) ?_
  refine lv_iload_n hx hb dL_box_4 rfl (lv_at hl 2 rfl) ?_
  refine gx_V (ci := 8) (q0 := 0) (cq := (RX8, TX8, 11)) (x1_X8_box l D cI cZ cF cL rx tt a tr r3 rs rz b b0 s0 r5 r6 T x y hst hT hbad) (gHV u_461 u_462 u_463 u_2 u_464) rfl hdV_X8_box ⟨Nat.le_of_ble_eq_true rfl, Nat.le_of_ble_eq_true rfl⟩ ⟨rfl, rfl⟩ hx hb hml hown hts hK hKX rfl hA hP hD hS hl.1 ⟨Nat.le_of_ble_eq_true rfl, Nat.le_of_ble_eq_true rfl⟩ rfl rfl rfl (wr := oX cL oq fq) (pm_cnt (fun _ => by simp only [List.countP_append, List.countP_nil, fT] <;> omega)) (fun _ => by simp only [List.map_append, List.map_nil, fX_m, bX_m, sX_m, pX_m, iaX_m, r5X_m, r6X_m, fT_m, hX_m, tX_m, xX_m, sgX_m, zaX_m, fsB_a]) (rest := [.int (nI 0), .ref oq]) rfl (Nat.le_of_ble_eq_true rfl) dL_box_5 (ws2 := (fun _ : Unit => (oX cL oq fq ++ ((xX rx tt a tr r3 rs rz b b0 s0 r5 r6 ++ fX cI a (T 0 0) (T 0 1) (T 0 2) (T 0 3) (T 0 4) (T 0 5) (T 1) (T 2) (T 3) (T 4) (T 5) (T 6) (T 7) (T 8)))))) (fun _ => (pm_cnt (fun _ => by simp only [List.countP_append, List.countP_nil, fT] <;> omega))) (fun uz Hp locs q9 ce9 hP hD hS hce hcv hcl => ?_)
  refine cl_catch (E := cIOB) [] [] (0, 10, 13, 28) htab hts hown hKX (by decide) (fun z hz => nomatch hz) (by decide) (by decide) (kH u_368) hce hcv hcl ?_
  refine lv_astore (lv' := [(4, .ref q9), (0, .ref rx), (1, .int x), (2, .int y), (3, .ref oq)]) hx hb dL_box_13 hl (by decide) rfl (fun ls hl => ?_)
  refine lv_iconst (v := (nI 1)) hx hb dL_box_15 (by decide) ?_
  exact cl_i uz hx hb hr hlocks hP hS rfl dL_box_16
set_option maxHeartbeats 4000000 in
set_option maxRecDepth 100000 in
theorem x2_L_box (l : Launch) (D : va_G) (cI cZ cF cL : ClassId) (rx : Nat) (tt a tr : Nat → Nat) (r3 rs rz : Nat) (b : Nat → Nat) (b0 s0 r5 r6 : Nat) (T : Nat → Nat → Nat) (h : Nat) (x : Int32) (hst : l.stackTraces = false) (hT : FI T) (hh : h < T 0 0) (hbad : ¬ (0 ≤ x ∧ x < nI (T 0 1))) (oq : Nat) (fq : Nat → Int64) : CTL l D (tysX cI cZ cF cL) yL_box (wH yL_box cL_box 5 (some .int) [(0, 10, 13, 28)]) (rmX 8 143) [.ref rx, .int (nI h), .int x, .ref oq] (oX cL oq fq ++ ((xX rx tt a tr r3 rs rz b b0 s0 r5 r6 ++ fX cI a (T 0 0) (T 0 1) (T 0 2) (T 0 3) (T 0 4) (T 0 5) (T 1) (T 2) (T 3) (T 4) (T 5) (T 6) (T 7) (T 8)))) 1 6 (some (.int (nI 1))) (fun _ : Unit => (oX cL oq fq ++ ((xX rx tt a tr r3 rs rz b b0 s0 r5 r6 ++ fX cI a (T 0 0) (T 0 1) (T 0 2) (T 0 3) (T 0 4) (T 0 5) (T 1) (T 2) (T 3) (T 4) (T 5) (T 6) (T 7) (T 8))))) := by
  refine cl_in (cc := cL_box) (maxL := 5) (ret := (some .int)) (own := RL) (lv := [(0, .ref rx), (1, .int (nI h)), (2, .int x), (3, .ref oq)]) (by decide +kernel) rfl rfl (Nat.le_of_ble_eq_true rfl) rfl ?_
  intro p e s m args below meth c A ls hx hb hr hml hts hown hlocks hK hA hP hD hS hl hKX htab
  refine lv_aload_n hx hb dL_box_0 rfl (lv_at hl 3 rfl) ?_
  refine lv_iconst (v := (nI 0)) hx hb dL_box_1 (by decide) ?_
  refine lv_aload_n hx hb dL_box_2 rfl (lv_at hl 0 rfl) ?_
  refine lv_iload_n hx hb dL_box_3 rfl (lv_at hl 1 rfl) ?_
  refine lv_iload_n hx hb dL_box_4 rfl (lv_at hl 2 rfl) ?_
  refine gx_V (ci := 8) (q0 := 0) (cq := (RX8, TX8, 11)) (x2_X8_box l D cI cZ cF cL rx tt a tr r3 rs rz b b0 s0 r5 r6 T h x hst hT hh hbad) (gHV u_461 u_462 u_463 u_2 u_464) rfl hdV_X8_box ⟨Nat.le_of_ble_eq_true rfl, Nat.le_of_ble_eq_true rfl⟩ ⟨rfl, rfl⟩ hx hb hml hown hts hK hKX rfl hA hP hD hS hl.1 ⟨Nat.le_of_ble_eq_true rfl, Nat.le_of_ble_eq_true rfl⟩ rfl rfl rfl (wr := oX cL oq fq) (pm_cnt (fun _ => by simp only [List.countP_append, List.countP_nil, fT] <;> omega)) (fun _ => by simp only [List.map_append, List.map_nil, fX_m, bX_m, sX_m, pX_m, iaX_m, r5X_m, r6X_m, fT_m, hX_m, tX_m, xX_m, sgX_m, zaX_m, fsB_a]) (rest := [.int (nI 0), .ref oq]) rfl (Nat.le_of_ble_eq_true rfl) dL_box_5 (ws2 := (fun _ : Unit => (oX cL oq fq ++ ((xX rx tt a tr r3 rs rz b b0 s0 r5 r6 ++ fX cI a (T 0 0) (T 0 1) (T 0 2) (T 0 3) (T 0 4) (T 0 5) (T 1) (T 2) (T 3) (T 4) (T 5) (T 6) (T 7) (T 8)))))) (fun _ => (pm_cnt (fun _ => by simp only [List.countP_append, List.countP_nil, fT] <;> omega))) (fun uz Hp locs q9 ce9 hP hD hS hce hcv hcl => ?_)
  refine cl_catch (E := cIOB) [] [] (0, 10, 13, 28) htab hts hown hKX (by decide) (fun z hz => nomatch hz) (by decide) (by decide) (kH u_368) hce hcv hcl ?_
  refine lv_astore (lv' := [(4, .ref q9), (0, .ref rx), (1, .int (nI h)), (2, .int x), (3, .ref oq)]) hx hb dL_box_13 hl (by decide) rfl (fun ls hl => ?_)
  refine lv_iconst (v := (nI 1)) hx hb dL_box_15 (by decide) ?_
  exact cl_i uz hx hb hr hlocks hP hS rfl dL_box_16
set_option maxHeartbeats 4000000 in
set_option maxRecDepth 100000 in
theorem x1_L_liking (l : Launch) (D : va_G) (cI cZ cF cL : ClassId) (rx : Nat) (tt a tr : Nat → Nat) (r3 rs rz : Nat) (b : Nat → Nat) (b0 s0 r5 r6 : Nat) (T : Nat → Nat → Nat) (x y : Int32) (hst : l.stackTraces = false) (hT : FI T) (hbad : ¬ (0 ≤ x ∧ x < nI (T 0 0))) (oq : Nat) (fq : Nat → Int64) : CTL l D (tysX cI cZ cF cL) yL_liking (wH yL_liking cL_liking 5 (some .int) [(0, 10, 13, 28)]) (rmX 8 143) [.ref rx, .int x, .int y, .ref oq] (oX cL oq fq ++ ((xX rx tt a tr r3 rs rz b b0 s0 r5 r6 ++ fX cI a (T 0 0) (T 0 1) (T 0 2) (T 0 3) (T 0 4) (T 0 5) (T 1) (T 2) (T 3) (T 4) (T 5) (T 6) (T 7) (T 8)))) 1 6 (some (.int (nI 1))) (fun _ : Unit => (oX cL oq fq ++ ((xX rx tt a tr r3 rs rz b b0 s0 r5 r6 ++ fX cI a (T 0 0) (T 0 1) (T 0 2) (T 0 3) (T 0 4) (T 0 5) (T 1) (T 2) (T 3) (T 4) (T 5) (T 6) (T 7) (T 8))))) := by
  refine cl_in (cc := cL_liking) (maxL := 5) (ret := (some .int)) (own := RL) (lv := [(0, .ref rx), (1, .int x), (2, .int y), (3, .ref oq)]) (by decide +kernel) rfl rfl (Nat.le_of_ble_eq_true rfl) rfl ?_
  intro p e s m args below meth c A ls hx hb hr hml hts hown hlocks hK hA hP hD hS hl hKX htab
  refine lv_aload_n hx hb dL_liking_0 rfl (lv_at hl 3 rfl) ?_
  refine lv_iconst (v := (nI 0)) hx hb dL_liking_1 (by decide) ?_
  refine lv_aload_n hx hb dL_liking_2 rfl (lv_at hl 0 rfl) ?_
  refine lv_iload_n hx hb dL_liking_3 rfl (lv_at hl 1 rfl) ?_
  refine lv_iload_n hx hb dL_liking_4 rfl (lv_at hl 2 rfl) ?_
  refine gx_V (ci := 8) (q0 := 0) (cq := (RX8, TX8, 11)) (x1_X8_liking l D cI cZ cF cL rx tt a tr r3 rs rz b b0 s0 r5 r6 T x y hst hT hbad) (gHV u_473 u_474 u_475 u_2 u_476) rfl hdV_X8_liking ⟨Nat.le_of_ble_eq_true rfl, Nat.le_of_ble_eq_true rfl⟩ ⟨rfl, rfl⟩ hx hb hml hown hts hK hKX rfl hA hP hD hS hl.1 ⟨Nat.le_of_ble_eq_true rfl, Nat.le_of_ble_eq_true rfl⟩ rfl rfl rfl (wr := oX cL oq fq) (pm_cnt (fun _ => by simp only [List.countP_append, List.countP_nil, fT] <;> omega)) (fun _ => by simp only [List.map_append, List.map_nil, fX_m, bX_m, sX_m, pX_m, iaX_m, r5X_m, r6X_m, fT_m, hX_m, tX_m, xX_m, sgX_m, zaX_m, fsB_a]) (rest := [.int (nI 0), .ref oq]) rfl (Nat.le_of_ble_eq_true rfl) dL_liking_5 (ws2 := (fun _ : Unit => (oX cL oq fq ++ ((xX rx tt a tr r3 rs rz b b0 s0 r5 r6 ++ fX cI a (T 0 0) (T 0 1) (T 0 2) (T 0 3) (T 0 4) (T 0 5) (T 1) (T 2) (T 3) (T 4) (T 5) (T 6) (T 7) (T 8)))))) (fun _ => (pm_cnt (fun _ => by simp only [List.countP_append, List.countP_nil, fT] <;> omega))) (fun uz Hp locs q9 ce9 hP hD hS hce hcv hcl => ?_)
  refine cl_catch (E := cIOB) [] [] (0, 10, 13, 28) htab hts hown hKX (by decide) (fun z hz => nomatch hz) (by decide) (by decide) (kH u_368) hce hcv hcl ?_
  refine lv_astore (lv' := [(4, .ref q9), (0, .ref rx), (1, .int x), (2, .int y), (3, .ref oq)]) hx hb dL_liking_13 hl (by decide) rfl (fun ls hl => ?_)
  refine lv_iconst (v := (nI 1)) hx hb dL_liking_15 (by decide) ?_
  exact cl_i uz hx hb hr hlocks hP hS rfl dL_liking_16
set_option maxHeartbeats 4000000 in
set_option maxRecDepth 100000 in
theorem x2_L_liking (l : Launch) (D : va_G) (cI cZ cF cL : ClassId) (rx : Nat) (tt a tr : Nat → Nat) (r3 rs rz : Nat) (b : Nat → Nat) (b0 s0 r5 r6 : Nat) (T : Nat → Nat → Nat) (h : Nat) (x : Int32) (hst : l.stackTraces = false) (hT : FI T) (hh : h < T 0 0) (hbad : ¬ (0 ≤ x ∧ x < nI (T 0 1))) (oq : Nat) (fq : Nat → Int64) : CTL l D (tysX cI cZ cF cL) yL_liking (wH yL_liking cL_liking 5 (some .int) [(0, 10, 13, 28)]) (rmX 8 143) [.ref rx, .int (nI h), .int x, .ref oq] (oX cL oq fq ++ ((xX rx tt a tr r3 rs rz b b0 s0 r5 r6 ++ fX cI a (T 0 0) (T 0 1) (T 0 2) (T 0 3) (T 0 4) (T 0 5) (T 1) (T 2) (T 3) (T 4) (T 5) (T 6) (T 7) (T 8)))) 1 6 (some (.int (nI 1))) (fun _ : Unit => (oX cL oq fq ++ ((xX rx tt a tr r3 rs rz b b0 s0 r5 r6 ++ fX cI a (T 0 0) (T 0 1) (T 0 2) (T 0 3) (T 0 4) (T 0 5) (T 1) (T 2) (T 3) (T 4) (T 5) (T 6) (T 7) (T 8))))) := by
  refine cl_in (cc := cL_liking) (maxL := 5) (ret := (some .int)) (own := RL) (lv := [(0, .ref rx), (1, .int (nI h)), (2, .int x), (3, .ref oq)]) (by decide +kernel) rfl rfl (Nat.le_of_ble_eq_true rfl) rfl ?_
  intro p e s m args below meth c A ls hx hb hr hml hts hown hlocks hK hA hP hD hS hl hKX htab
  refine lv_aload_n hx hb dL_liking_0 rfl (lv_at hl 3 rfl) ?_
  refine lv_iconst (v := (nI 0)) hx hb dL_liking_1 (by decide) ?_
  refine lv_aload_n hx hb dL_liking_2 rfl (lv_at hl 0 rfl) ?_
  refine lv_iload_n hx hb dL_liking_3 rfl (lv_at hl 1 rfl) ?_
  refine lv_iload_n hx hb dL_liking_4 rfl (lv_at hl 2 rfl) ?_
  refine gx_V (ci := 8) (q0 := 0) (cq := (RX8, TX8, 11)) (x2_X8_liking l D cI cZ cF cL rx tt a tr r3 rs rz b b0 s0 r5 r6 T h x hst hT hh hbad) (gHV u_473 u_474 u_475 u_2 u_476) rfl hdV_X8_liking ⟨Nat.le_of_ble_eq_true rfl, Nat.le_of_ble_eq_true rfl⟩ ⟨rfl, rfl⟩ hx hb hml hown hts hK hKX rfl hA hP hD hS hl.1 ⟨Nat.le_of_ble_eq_true rfl, Nat.le_of_ble_eq_true rfl⟩ rfl rfl rfl (wr := oX cL oq fq) (pm_cnt (fun _ => by simp only [List.countP_append, List.countP_nil, fT] <;> omega)) (fun _ => by simp only [List.map_append, List.map_nil, fX_m, bX_m, sX_m, pX_m, iaX_m, r5X_m, r6X_m, fT_m, hX_m, tX_m, xX_m, sgX_m, zaX_m, fsB_a]) (rest := [.int (nI 0), .ref oq]) rfl (Nat.le_of_ble_eq_true rfl) dL_liking_5 (ws2 := (fun _ : Unit => (oX cL oq fq ++ ((xX rx tt a tr r3 rs rz b b0 s0 r5 r6 ++ fX cI a (T 0 0) (T 0 1) (T 0 2) (T 0 3) (T 0 4) (T 0 5) (T 1) (T 2) (T 3) (T 4) (T 5) (T 6) (T 7) (T 8)))))) (fun _ => (pm_cnt (fun _ => by simp only [List.countP_append, List.countP_nil, fT] <;> omega))) (fun uz Hp locs q9 ce9 hP hD hS hce hcv hcl => ?_)
  refine cl_catch (E := cIOB) [] [] (0, 10, 13, 28) htab hts hown hKX (by decide) (fun z hz => nomatch hz) (by decide) (by decide) (kH u_368) hce hcv hcl ?_
  refine lv_astore (lv' := [(4, .ref q9), (0, .ref rx), (1, .int (nI h)), (2, .int x), (3, .ref oq)]) hx hb dL_liking_13 hl (by decide) rfl (fun ls hl => ?_)
  refine lv_iconst (v := (nI 1)) hx hb dL_liking_15 (by decide) ?_
  exact cl_i uz hx hb hr hlocks hP hS rfl dL_liking_16
set_option maxHeartbeats 4000000 in
set_option maxRecDepth 100000 in
theorem x1_L_wouldGet (l : Launch) (D : va_G) (cI cZ cF cL : ClassId) (rx : Nat) (tt a tr : Nat → Nat) (r3 rs rz : Nat) (b : Nat → Nat) (b0 s0 r5 r6 : Nat) (T : Nat → Nat → Nat) (x y : Int32) (hst : l.stackTraces = false) (hT : FI T) (hbad : ¬ (0 ≤ x ∧ x < nI (T 0 0))) (oq : Nat) (fq : Nat → Int64) : CTL l D (tysX cI cZ cF cL) yL_wouldGet (wH yL_wouldGet cL_wouldGet 5 (some .int) [(0, 10, 13, 28)]) (rmX 8 143) [.ref rx, .int x, .int y, .ref oq] (oX cL oq fq ++ ((xX rx tt a tr r3 rs rz b b0 s0 r5 r6 ++ fX cI a (T 0 0) (T 0 1) (T 0 2) (T 0 3) (T 0 4) (T 0 5) (T 1) (T 2) (T 3) (T 4) (T 5) (T 6) (T 7) (T 8)))) 1 6 (some (.int (nI 1))) (fun _ : Unit => (oX cL oq fq ++ ((xX rx tt a tr r3 rs rz b b0 s0 r5 r6 ++ fX cI a (T 0 0) (T 0 1) (T 0 2) (T 0 3) (T 0 4) (T 0 5) (T 1) (T 2) (T 3) (T 4) (T 5) (T 6) (T 7) (T 8))))) := by
  refine cl_in (cc := cL_wouldGet) (maxL := 5) (ret := (some .int)) (own := RL) (lv := [(0, .ref rx), (1, .int x), (2, .int y), (3, .ref oq)]) (by decide +kernel) rfl rfl (Nat.le_of_ble_eq_true rfl) rfl ?_
  intro p e s m args below meth c A ls hx hb hr hml hts hown hlocks hK hA hP hD hS hl hKX htab
  refine lv_aload_n hx hb dL_wouldGet_0 rfl (lv_at hl 3 rfl) ?_
  refine lv_iconst (v := (nI 0)) hx hb dL_wouldGet_1 (by decide) ?_
  refine lv_aload_n hx hb dL_wouldGet_2 rfl (lv_at hl 0 rfl) ?_
  refine lv_iload_n hx hb dL_wouldGet_3 rfl (lv_at hl 1 rfl) ?_
  refine lv_iload_n hx hb dL_wouldGet_4 rfl (lv_at hl 2 rfl) ?_
  refine gx_V (ci := 8) (q0 := 0) (cq := (RX8, TX8, 11)) (x1_X8_wouldGet l D cI cZ cF cL rx tt a tr r3 rs rz b b0 s0 r5 r6 T x y hst hT hbad) (gHV u_729 u_730 u_731 u_2 u_732) rfl hdV_X8_wouldGet ⟨Nat.le_of_ble_eq_true rfl, Nat.le_of_ble_eq_true rfl⟩ ⟨rfl, rfl⟩ hx hb hml hown hts hK hKX rfl hA hP hD hS hl.1 ⟨Nat.le_of_ble_eq_true rfl, Nat.le_of_ble_eq_true rfl⟩ rfl rfl rfl (wr := oX cL oq fq) (pm_cnt (fun _ => by simp only [List.countP_append, List.countP_nil, fT] <;> omega)) (fun _ => by simp only [List.map_append, List.map_nil, fX_m, bX_m, sX_m, pX_m, iaX_m, r5X_m, r6X_m, fT_m, hX_m, tX_m, xX_m, sgX_m, zaX_m, fsB_a]) (rest := [.int (nI 0), .ref oq]) rfl (Nat.le_of_ble_eq_true rfl) dL_wouldGet_5 (ws2 := (fun _ : Unit => (oX cL oq fq ++ ((xX rx tt a tr r3 rs rz b b0 s0 r5 r6 ++ fX cI a (T 0 0) (T 0 1) (T 0 2) (T 0 3) (T 0 4) (T 0 5) (T 1) (T 2) (T 3) (T 4) (T 5) (T 6) (T 7) (T 8)))))) (fun _ => (pm_cnt (fun _ => by simp only [List.countP_append, List.countP_nil, fT] <;> omega))) (fun uz Hp locs q9 ce9 hP hD hS hce hcv hcl => ?_)
  refine cl_catch (E := cIOB) [] [] (0, 10, 13, 28) htab hts hown hKX (by decide) (fun z hz => nomatch hz) (by decide) (by decide) (kH u_368) hce hcv hcl ?_
  refine lv_astore (lv' := [(4, .ref q9), (0, .ref rx), (1, .int x), (2, .int y), (3, .ref oq)]) hx hb dL_wouldGet_13 hl (by decide) rfl (fun ls hl => ?_)
  refine lv_iconst (v := (nI 1)) hx hb dL_wouldGet_15 (by decide) ?_
  exact cl_i uz hx hb hr hlocks hP hS rfl dL_wouldGet_16
set_option maxHeartbeats 4000000 in
set_option maxRecDepth 100000 in
theorem x2_L_wouldGet (l : Launch) (D : va_G) (cI cZ cF cL : ClassId) (rx : Nat) (tt a tr : Nat → Nat) (r3 rs rz : Nat) (b : Nat → Nat) (b0 s0 r5 r6 : Nat) (T : Nat → Nat → Nat) (h : Nat) (x : Int32) (hst : l.stackTraces = false) (hT : FI T) (hh : h < T 0 0) (hbad : ¬ (0 ≤ x ∧ x < nI (T 0 1))) (oq : Nat) (fq : Nat → Int64) : CTL l D (tysX cI cZ cF cL) yL_wouldGet (wH yL_wouldGet cL_wouldGet 5 (some .int) [(0, 10, 13, 28)]) (rmX 8 143) [.ref rx, .int (nI h), .int x, .ref oq] (oX cL oq fq ++ ((xX rx tt a tr r3 rs rz b b0 s0 r5 r6 ++ fX cI a (T 0 0) (T 0 1) (T 0 2) (T 0 3) (T 0 4) (T 0 5) (T 1) (T 2) (T 3) (T 4) (T 5) (T 6) (T 7) (T 8)))) 1 6 (some (.int (nI 1))) (fun _ : Unit => (oX cL oq fq ++ ((xX rx tt a tr r3 rs rz b b0 s0 r5 r6 ++ fX cI a (T 0 0) (T 0 1) (T 0 2) (T 0 3) (T 0 4) (T 0 5) (T 1) (T 2) (T 3) (T 4) (T 5) (T 6) (T 7) (T 8))))) := by
  refine cl_in (cc := cL_wouldGet) (maxL := 5) (ret := (some .int)) (own := RL) (lv := [(0, .ref rx), (1, .int (nI h)), (2, .int x), (3, .ref oq)]) (by decide +kernel) rfl rfl (Nat.le_of_ble_eq_true rfl) rfl ?_
  intro p e s m args below meth c A ls hx hb hr hml hts hown hlocks hK hA hP hD hS hl hKX htab
  refine lv_aload_n hx hb dL_wouldGet_0 rfl (lv_at hl 3 rfl) ?_
  refine lv_iconst (v := (nI 0)) hx hb dL_wouldGet_1 (by decide) ?_
  refine lv_aload_n hx hb dL_wouldGet_2 rfl (lv_at hl 0 rfl) ?_
  refine lv_iload_n hx hb dL_wouldGet_3 rfl (lv_at hl 1 rfl) ?_
  refine lv_iload_n hx hb dL_wouldGet_4 rfl (lv_at hl 2 rfl) ?_
  refine gx_V (ci := 8) (q0 := 0) (cq := (RX8, TX8, 11)) (x2_X8_wouldGet l D cI cZ cF cL rx tt a tr r3 rs rz b b0 s0 r5 r6 T h x hst hT hh hbad) (gHV u_729 u_730 u_731 u_2 u_732) rfl hdV_X8_wouldGet ⟨Nat.le_of_ble_eq_true rfl, Nat.le_of_ble_eq_true rfl⟩ ⟨rfl, rfl⟩ hx hb hml hown hts hK hKX rfl hA hP hD hS hl.1 ⟨Nat.le_of_ble_eq_true rfl, Nat.le_of_ble_eq_true rfl⟩ rfl rfl rfl (wr := oX cL oq fq) (pm_cnt (fun _ => by simp only [List.countP_append, List.countP_nil, fT] <;> omega)) (fun _ => by simp only [List.map_append, List.map_nil, fX_m, bX_m, sX_m, pX_m, iaX_m, r5X_m, r6X_m, fT_m, hX_m, tX_m, xX_m, sgX_m, zaX_m, fsB_a]) (rest := [.int (nI 0), .ref oq]) rfl (Nat.le_of_ble_eq_true rfl) dL_wouldGet_5 (ws2 := (fun _ : Unit => (oX cL oq fq ++ ((xX rx tt a tr r3 rs rz b b0 s0 r5 r6 ++ fX cI a (T 0 0) (T 0 1) (T 0 2) (T 0 3) (T 0 4) (T 0 5) (T 1) (T 2) (T 3) (T 4) (T 5) (T 6) (T 7) (T 8)))))) (fun _ => (pm_cnt (fun _ => by simp only [List.countP_append, List.countP_nil, fT] <;> omega))) (fun uz Hp locs q9 ce9 hP hD hS hce hcv hcl => ?_)
  refine cl_catch (E := cIOB) [] [] (0, 10, 13, 28) htab hts hown hKX (by decide) (fun z hz => nomatch hz) (by decide) (by decide) (kH u_368) hce hcv hcl ?_
  refine lv_astore (lv' := [(4, .ref q9), (0, .ref rx), (1, .int (nI h)), (2, .int x), (3, .ref oq)]) hx hb dL_wouldGet_13 hl (by decide) rfl (fun ls hl => ?_)
  refine lv_iconst (v := (nI 1)) hx hb dL_wouldGet_15 (by decide) ?_
  exact cl_i uz hx hb hr hlocks hP hS rfl dL_wouldGet_16
set_option maxHeartbeats 4000000 in
set_option maxRecDepth 100000 in
theorem x1_L_wouldBe (l : Launch) (D : va_G) (cI cZ cF cL : ClassId) (rx : Nat) (tt a tr : Nat → Nat) (r3 rs rz : Nat) (b : Nat → Nat) (b0 s0 r5 r6 : Nat) (T : Nat → Nat → Nat) (x : Int32) (hst : l.stackTraces = false) (hT : FI T) (hbad : ¬ (0 ≤ x ∧ x < nI (T 0 0))) (oq : Nat) (fq : Nat → Int64) : CTL l D (tysX cI cZ cF cL) yL_wouldBe (wH yL_wouldBe cL_wouldBe 4 (some .int) [(0, 9, 12, 28)]) (rmX 8 142) [.ref rx, .int x, .ref oq] (oX cL oq fq ++ ((xX rx tt a tr r3 rs rz b b0 s0 r5 r6 ++ fX cI a (T 0 0) (T 0 1) (T 0 2) (T 0 3) (T 0 4) (T 0 5) (T 1) (T 2) (T 3) (T 4) (T 5) (T 6) (T 7) (T 8)))) 1 6 (some (.int (nI 1))) (fun _ : Unit => (oX cL oq fq ++ ((xX rx tt a tr r3 rs rz b b0 s0 r5 r6 ++ fX cI a (T 0 0) (T 0 1) (T 0 2) (T 0 3) (T 0 4) (T 0 5) (T 1) (T 2) (T 3) (T 4) (T 5) (T 6) (T 7) (T 8))))) := by
  refine cl_in (cc := cL_wouldBe) (maxL := 4) (ret := (some .int)) (own := RL) (lv := [(0, .ref rx), (1, .int x), (2, .ref oq)]) (by decide +kernel) rfl rfl (Nat.le_of_ble_eq_true rfl) rfl ?_
  intro p e s m args below meth c A ls hx hb hr hml hts hown hlocks hK hA hP hD hS hl hKX htab
  refine lv_aload_n hx hb dL_wouldBe_0 rfl (lv_at hl 2 rfl) ?_
  refine lv_iconst (v := (nI 0)) hx hb dL_wouldBe_1 (by decide) ?_
  refine lv_aload_n hx hb dL_wouldBe_2 rfl (lv_at hl 0 rfl) ?_
  refine lv_iload_n hx hb dL_wouldBe_3 rfl (lv_at hl 1 rfl) ?_
  refine gx_V (ci := 8) (q0 := 0) (cq := (RX8, TX8, 11)) (x1_X8_wouldBe l D cI cZ cF cL rx tt a tr r3 rs rz b b0 s0 r5 r6 T x hst hT hbad) (gHV u_748 u_749 u_750 u_2 u_751) rfl hdV_X8_wouldBe ⟨Nat.le_of_ble_eq_true rfl, Nat.le_of_ble_eq_true rfl⟩ ⟨rfl, rfl⟩ hx hb hml hown hts hK hKX rfl hA hP hD hS hl.1 ⟨Nat.le_of_ble_eq_true rfl, Nat.le_of_ble_eq_true rfl⟩ rfl rfl rfl (wr := oX cL oq fq) (pm_cnt (fun _ => by simp only [List.countP_append, List.countP_nil, fT] <;> omega)) (fun _ => by simp only [List.map_append, List.map_nil, fX_m, bX_m, sX_m, pX_m, iaX_m, r5X_m, r6X_m, fT_m, hX_m, tX_m, xX_m, sgX_m, zaX_m, fsB_a]) (rest := [.int (nI 0), .ref oq]) rfl (Nat.le_of_ble_eq_true rfl) dL_wouldBe_4 (ws2 := (fun _ : Unit => (oX cL oq fq ++ ((xX rx tt a tr r3 rs rz b b0 s0 r5 r6 ++ fX cI a (T 0 0) (T 0 1) (T 0 2) (T 0 3) (T 0 4) (T 0 5) (T 1) (T 2) (T 3) (T 4) (T 5) (T 6) (T 7) (T 8)))))) (fun _ => (pm_cnt (fun _ => by simp only [List.countP_append, List.countP_nil, fT] <;> omega))) (fun uz Hp locs q9 ce9 hP hD hS hce hcv hcl => ?_)
  refine cl_catch (E := cIOB) [] [] (0, 9, 12, 28) htab hts hown hKX (by decide) (fun z hz => nomatch hz) (by decide) (by decide) (kH u_368) hce hcv hcl ?_
  refine lv_astore_n (lv' := [(3, .ref q9), (0, .ref rx), (1, .int x), (2, .ref oq)]) hx hb dL_wouldBe_12 rfl hl (by decide) rfl (fun ls hl => ?_)
  refine lv_iconst (v := (nI 1)) hx hb dL_wouldBe_13 (by decide) ?_
  exact cl_i uz hx hb hr hlocks hP hS rfl dL_wouldBe_14
set_option maxHeartbeats 4000000 in
set_option maxRecDepth 100000 in
theorem x1_L_skip (l : Launch) (D : va_G) (cI cZ cF cL : ClassId) (rx : Nat) (tt a tr : Nat → Nat) (r3 rs rz : Nat) (b : Nat → Nat) (b0 s0 r5 r6 : Nat) (T : Nat → Nat → Nat) (x : Int32) (z : Nat) (hst : l.stackTraces = false) (hT : FI T) (hbad : ¬ (0 ≤ x ∧ x < nI (T 0 0))) (oq : Nat) (fq : Nat → Int64) : CTL l D (tysX cI cZ cF cL) yL_skip (wH yL_skip cL_skip 5 (some .int) [(0, 10, 13, 28)]) (rmX 8 143) [.ref rx, .int x, .int (nI z), .ref oq] (oX cL oq fq ++ ((xX rx tt a tr r3 rs rz b b0 s0 r5 r6 ++ fX cI a (T 0 0) (T 0 1) (T 0 2) (T 0 3) (T 0 4) (T 0 5) (T 1) (T 2) (T 3) (T 4) (T 5) (T 6) (T 7) (T 8)))) 1 6 (some (.int (nI 1))) (fun _ : Unit => (oX cL oq fq ++ ((xX rx tt a tr r3 rs rz b b0 s0 r5 r6 ++ fX cI a (T 0 0) (T 0 1) (T 0 2) (T 0 3) (T 0 4) (T 0 5) (T 1) (T 2) (T 3) (T 4) (T 5) (T 6) (T 7) (T 8))))) := by
  refine cl_in (cc := cL_skip) (maxL := 5) (ret := (some .int)) (own := RL) (lv := [(0, .ref rx), (1, .int x), (2, .int (nI z)), (3, .ref oq)]) (by decide +kernel) rfl rfl (Nat.le_of_ble_eq_true rfl) rfl ?_
  intro p e s m args below meth c A ls hx hb hr hml hts hown hlocks hK hA hP hD hS hl hKX htab
  refine lv_aload_n hx hb dL_skip_0 rfl (lv_at hl 3 rfl) ?_
  refine lv_iconst (v := (nI 0)) hx hb dL_skip_1 (by decide) ?_
  refine lv_aload_n hx hb dL_skip_2 rfl (lv_at hl 0 rfl) ?_
  refine lv_iload_n hx hb dL_skip_3 rfl (lv_at hl 1 rfl) ?_
  refine lv_iload_n hx hb dL_skip_4 rfl (lv_at hl 2 rfl) ?_
  refine gx_V (ci := 8) (q0 := 0) (cq := (RX8, TX8, 11)) (x1_X8_skip l D cI cZ cF cL rx tt a tr r3 rs rz b b0 s0 r5 r6 T x z hst hT hbad) (gHV u_560 u_561 u_562 u_2 u_563) rfl hdV_X8_skip ⟨Nat.le_of_ble_eq_true rfl, Nat.le_of_ble_eq_true rfl⟩ ⟨rfl, rfl⟩ hx hb hml hown hts hK hKX rfl hA hP hD hS hl.1 ⟨Nat.le_of_ble_eq_true rfl, Nat.le_of_ble_eq_true rfl⟩ rfl rfl rfl (wr := oX cL oq fq) (pm_cnt (fun _ => by simp only [List.countP_append, List.countP_nil, fT] <;> omega)) (fun _ => by simp only [List.map_append, List.map_nil, fX_m, bX_m, sX_m, pX_m, iaX_m, r5X_m, r6X_m, fT_m, hX_m, tX_m, xX_m, sgX_m, zaX_m, fsB_a]) (rest := [.int (nI 0), .ref oq]) rfl (Nat.le_of_ble_eq_true rfl) dL_skip_5 (ws2 := (fun _ : Unit => (oX cL oq fq ++ ((xX rx tt a tr r3 rs rz b b0 s0 r5 r6 ++ fX cI a (T 0 0) (T 0 1) (T 0 2) (T 0 3) (T 0 4) (T 0 5) (T 1) (T 2) (T 3) (T 4) (T 5) (T 6) (T 7) (T 8)))))) (fun _ => (pm_cnt (fun _ => by simp only [List.countP_append, List.countP_nil, fT] <;> omega))) (fun uz Hp locs q9 ce9 hP hD hS hce hcv hcl => ?_)
  refine cl_catch (E := cIOB) [] [] (0, 10, 13, 28) htab hts hown hKX (by decide) (fun z hz => nomatch hz) (by decide) (by decide) (kH u_368) hce hcv hcl ?_
  refine lv_astore (lv' := [(4, .ref q9), (0, .ref rx), (1, .int x), (2, .int (nI z)), (3, .ref oq)]) hx hb dL_skip_13 hl (by decide) rfl (fun ls hl => ?_)
  refine lv_iconst (v := (nI 1)) hx hb dL_skip_15 (by decide) ?_
  exact cl_i uz hx hb hr hlocks hP hS rfl dL_skip_16
set_option maxHeartbeats 4000000 in
set_option maxRecDepth 100000 in
theorem x1_L_order (l : Launch) (D : va_G) (cI cZ cF cL : ClassId) (rx : Nat) (tt a tr : Nat → Nat) (r3 rs rz : Nat) (b : Nat → Nat) (b0 s0 r5 r6 : Nat) (x : Int32) (hst : l.stackTraces = false) (hbad : x < 0) (oq : Nat) (fq : Nat → Int64) : CTL l D (tysX cI cZ cF cL) yL_order (wH yL_order cL_order 4 (some .int) [(0, 9, 12, 13)]) (rmX 7 122) [.ref rx, .int x, .ref oq] (oX cL oq fq ++ ((xX rx tt a tr r3 rs rz b b0 s0 r5 r6))) 1 6 (some (.int (nI 1))) (fun _ : Unit => (oX cL oq fq ++ ((xX rx tt a tr r3 rs rz b b0 s0 r5 r6)))) := by
  refine cl_in (cc := cL_order) (maxL := 4) (ret := (some .int)) (own := RL) (lv := [(0, .ref rx), (1, .int x), (2, .ref oq)]) (by decide +kernel) rfl rfl (Nat.le_of_ble_eq_true rfl) rfl ?_
  intro p e s m args below meth c A ls hx hb hr hml hts hown hlocks hK hA hP hD hS hl hKX htab
  refine lv_aload_n hx hb dL_order_0 rfl (lv_at hl 2 rfl) ?_
  refine lv_iconst (v := (nI 0)) hx hb dL_order_1 (by decide) ?_
  refine lv_aload_n hx hb dL_order_2 rfl (lv_at hl 0 rfl) ?_
  refine lv_iload_n hx hb dL_order_3 rfl (lv_at hl 1 rfl) ?_
  refine gx_V (ci := 8) (q0 := 0) (cq := (RX8, TX8, 11)) (x1_X8_order l D cI cZ cF cL rx tt a tr r3 rs rz b b0 s0 r5 r6 x hst hbad) (gHV u_484 u_485 u_486 u_2 u_487) rfl hdV_X8_order ⟨Nat.le_of_ble_eq_true rfl, Nat.le_of_ble_eq_true rfl⟩ ⟨rfl, rfl⟩ hx hb hml hown hts hK hKX rfl hA hP hD hS hl.1 ⟨Nat.le_of_ble_eq_true rfl, Nat.le_of_ble_eq_true rfl⟩ rfl rfl rfl (wr := oX cL oq fq) (pm_cnt (fun _ => by simp only [List.countP_append, List.countP_nil, fT] <;> omega)) (fun _ => by simp only [List.map_append, List.map_nil, fX_m, bX_m, sX_m, pX_m, iaX_m, r5X_m, r6X_m, fT_m, hX_m, tX_m, xX_m, sgX_m, zaX_m, fsB_a]) (rest := [.int (nI 0), .ref oq]) rfl (Nat.le_of_ble_eq_true rfl) dL_order_4 (ws2 := (fun _ : Unit => (oX cL oq fq ++ ((xX rx tt a tr r3 rs rz b b0 s0 r5 r6))))) (fun _ => (pm_cnt (fun _ => by simp only [List.countP_append, List.countP_nil, fT] <;> omega))) (fun uz Hp locs q9 ce9 hP hD hS hce hcv hcl => ?_)
  refine cl_catch (E := cIAE) [] [] (0, 9, 12, 13) htab hts hown hKX (by decide) (fun z hz => nomatch hz) (by decide) (by decide) (kH u_147) hce hcv hcl ?_
  refine lv_astore_n (lv' := [(3, .ref q9), (0, .ref rx), (1, .int x), (2, .ref oq)]) hx hb dL_order_12 rfl hl (by decide) rfl (fun ls hl => ?_)
  refine lv_iconst (v := (nI 1)) hx hb dL_order_13 (by decide) ?_
  exact cl_i uz hx hb hr hlocks hP hS rfl dL_order_14
set_option maxHeartbeats 4000000 in
set_option maxRecDepth 100000 in
theorem x1_L_addHouse (l : Launch) (D : va_G) (cI cZ cF cL : ClassId) (rx : Nat) (tt a tr : Nat → Nat) (r3 rs rz : Nat) (b : Nat → Nat) (b0 s0 r5 r6 : Nat) (x : Int32) (hst : l.stackTraces = false) (hbad : x < nI 1 ∨ nI 4 < x) (oq : Nat) (fq : Nat → Int64) : CTL l D (tysX cI cZ cF cL) yL_addHouse (wH yL_addHouse cL_addHouse 4 (some .int) [(0, 9, 12, 13), (0, 9, 15, 15)]) (rmX 8 143) [.ref rx, .int x, .ref oq] (oX cL oq fq ++ ((xX rx tt a tr r3 rs rz b b0 s0 r5 r6))) 1 6 (some (.int (nI 1))) (fun _ : Unit => (oX cL oq fq ++ ((xX rx tt a tr r3 rs rz b b0 s0 r5 r6)))) := by
  refine cl_in (cc := cL_addHouse) (maxL := 4) (ret := (some .int)) (own := RL) (lv := [(0, .ref rx), (1, .int x), (2, .ref oq)]) (by decide +kernel) rfl rfl (Nat.le_of_ble_eq_true rfl) rfl ?_
  intro p e s m args below meth c A ls hx hb hr hml hts hown hlocks hK hA hP hD hS hl hKX htab
  refine lv_aload_n hx hb dL_addHouse_0 rfl (lv_at hl 2 rfl) ?_
  refine lv_iconst (v := (nI 0)) hx hb dL_addHouse_1 (by decide) ?_
  refine lv_aload_n hx hb dL_addHouse_2 rfl (lv_at hl 0 rfl) ?_
  refine lv_iload_n hx hb dL_addHouse_3 rfl (lv_at hl 1 rfl) ?_
  refine gx_V (ci := 8) (q0 := 0) (cq := (RX8, TX8, 11)) (x1_X8_addHouse l D cI cZ cF cL rx tt a tr r3 rs rz b b0 s0 r5 r6 x hst hbad) (gHV u_500 u_501 u_502 u_2 u_503) rfl hdV_X8_addHouse ⟨Nat.le_of_ble_eq_true rfl, Nat.le_of_ble_eq_true rfl⟩ ⟨rfl, rfl⟩ hx hb hml hown hts hK hKX rfl hA hP hD hS hl.1 ⟨Nat.le_of_ble_eq_true rfl, Nat.le_of_ble_eq_true rfl⟩ rfl rfl rfl (wr := oX cL oq fq) (pm_cnt (fun _ => by simp only [List.countP_append, List.countP_nil, fT] <;> omega)) (fun _ => by simp only [List.map_append, List.map_nil, fX_m, bX_m, sX_m, pX_m, iaX_m, r5X_m, r6X_m, fT_m, hX_m, tX_m, xX_m, sgX_m, zaX_m, fsB_a]) (rest := [.int (nI 0), .ref oq]) rfl (Nat.le_of_ble_eq_true rfl) dL_addHouse_4 (ws2 := (fun _ : Unit => (oX cL oq fq ++ ((xX rx tt a tr r3 rs rz b b0 s0 r5 r6))))) (fun _ => (pm_cnt (fun _ => by simp only [List.countP_append, List.countP_nil, fT] <;> omega))) (fun uz Hp locs q9 ce9 hP hD hS hce hcv hcl => ?_)
  refine cl_catch (E := cIAE) [] [(0, 9, 15, 15)] (0, 9, 12, 13) htab hts hown hKX (by decide) (fun z hz => nomatch hz) (by decide) (by decide) (kH u_147) hce hcv hcl ?_
  refine lv_astore_n (lv' := [(3, .ref q9), (0, .ref rx), (1, .int x), (2, .ref oq)]) hx hb dL_addHouse_12 rfl hl (by decide) rfl (fun ls hl => ?_)
  refine lv_iconst (v := (nI 1)) hx hb dL_addHouse_13 (by decide) ?_
  exact cl_i uz hx hb hr hlocks hP hS rfl dL_addHouse_14
set_option maxHeartbeats 4000000 in
set_option maxRecDepth 100000 in
theorem x2_L_addHouse (l : Launch) (D : va_G) (cI cZ cF cL : ClassId) (rx : Nat) (tt a tr : Nat → Nat) (r3 rs rz : Nat) (b : Nat → Nat) (b0 s0 r5 r6 : Nat) (T : Nat → Nat → Nat) (z : Nat) (hst : l.stackTraces = false) (h1z : 1 ≤ z) (hz : z ≤ 4) (hH6 : T 0 0 = 6) (oq : Nat) (fq : Nat → Int64) : CTL l D (tysX cI cZ cF cL) yL_addHouse (wH yL_addHouse cL_addHouse 4 (some .int) [(0, 9, 12, 13), (0, 9, 15, 15)]) (rmX 7 121) [.ref rx, .int (nI z), .ref oq] (oX cL oq fq ++ ((xX rx tt a tr r3 rs rz b b0 s0 r5 r6 ++ fX cI a (T 0 0) (T 0 1) (T 0 2) (T 0 3) (T 0 4) (T 0 5) (T 1) (T 2) (T 3) (T 4) (T 5) (T 6) (T 7) (T 8)))) 1 6 (some (.int (nI 2))) (fun _ : Unit => (oX cL oq fq ++ ((xX rx tt a tr r3 rs rz b b0 s0 r5 r6 ++ fX cI a (T 0 0) (T 0 1) (T 0 2) (T 0 3) (T 0 4) (T 0 5) (T 1) (T 2) (T 3) (T 4) (T 5) (T 6) (T 7) (T 8))))) := by
  refine cl_in (cc := cL_addHouse) (maxL := 4) (ret := (some .int)) (own := RL) (lv := [(0, .ref rx), (1, .int (nI z)), (2, .ref oq)]) (by decide +kernel) rfl rfl (Nat.le_of_ble_eq_true rfl) rfl ?_
  intro p e s m args below meth c A ls hx hb hr hml hts hown hlocks hK hA hP hD hS hl hKX htab
  refine lv_aload_n hx hb dL_addHouse_0 rfl (lv_at hl 2 rfl) ?_
  refine lv_iconst (v := (nI 0)) hx hb dL_addHouse_1 (by decide) ?_
  refine lv_aload_n hx hb dL_addHouse_2 rfl (lv_at hl 0 rfl) ?_
  refine lv_iload_n hx hb dL_addHouse_3 rfl (lv_at hl 1 rfl) ?_
  refine gx_V (ci := 8) (q0 := 0) (cq := (RX8, TX8, 11)) (x2_X8_addHouse l D cI cZ cF cL rx tt a tr r3 rs rz b b0 s0 r5 r6 T z hst h1z hz hH6) (gHV u_500 u_501 u_502 u_2 u_503) rfl hdV_X8_addHouse ⟨Nat.le_of_ble_eq_true rfl, Nat.le_of_ble_eq_true rfl⟩ ⟨rfl, rfl⟩ hx hb hml hown hts hK hKX rfl hA hP hD hS hl.1 ⟨Nat.le_of_ble_eq_true rfl, Nat.le_of_ble_eq_true rfl⟩ rfl rfl rfl (wr := oX cL oq fq) (pm_cnt (fun _ => by simp only [List.countP_append, List.countP_nil, fT] <;> omega)) (fun _ => by simp only [List.map_append, List.map_nil, fX_m, bX_m, sX_m, pX_m, iaX_m, r5X_m, r6X_m, fT_m, hX_m, tX_m, xX_m, sgX_m, zaX_m, fsB_a]) (rest := [.int (nI 0), .ref oq]) rfl (Nat.le_of_ble_eq_true rfl) dL_addHouse_4 (ws2 := (fun _ : Unit => (oX cL oq fq ++ ((xX rx tt a tr r3 rs rz b b0 s0 r5 r6 ++ fX cI a (T 0 0) (T 0 1) (T 0 2) (T 0 3) (T 0 4) (T 0 5) (T 1) (T 2) (T 3) (T 4) (T 5) (T 6) (T 7) (T 8)))))) (fun _ => (pm_cnt (fun _ => by simp only [List.countP_append, List.countP_nil, fT] <;> omega))) (fun uz Hp locs q9 ce9 hP hD hS hce hcv hcl => ?_)
  refine cl_catch (E := cISE) [(0, 9, 12, 13)] [] (0, 9, 15, 15) htab hts hown hKX (by decide) (fun z hz => by rcases List.mem_singleton.mp hz with rfl; exact ⟨by decide, cIAE, kH u_147, by decide⟩) (by decide) (by decide) (kH u_148) hce hcv hcl ?_
  refine lv_astore_n (lv' := [(3, .ref q9), (0, .ref rx), (1, .int (nI z)), (2, .ref oq)]) hx hb dL_addHouse_15 rfl hl (by decide) rfl (fun ls hl => ?_)
  refine lv_iconst (v := (nI 2)) hx hb dL_addHouse_16 (by decide) ?_
  exact cl_i uz hx hb hr hlocks hP hS rfl dL_addHouse_17
set_option maxHeartbeats 4000000 in
set_option maxRecDepth 100000 in
theorem x1_L_addVegetable (l : Launch) (D : va_G) (cI cZ cF cL : ClassId) (rx : Nat) (tt a tr : Nat → Nat) (r3 rs rz : Nat) (b : Nat → Nat) (b0 s0 r5 r6 : Nat) (x : Int32) (hst : l.stackTraces = false) (hbad : x < nI 0 ∨ nI 40 < x) (oq : Nat) (fq : Nat → Int64) : CTL l D (tysX cI cZ cF cL) yL_addVegetable (wH yL_addVegetable cL_addVegetable 4 (some .int) [(0, 9, 12, 13), (0, 9, 15, 15)]) (rmX 8 143) [.ref rx, .int x, .ref oq] (oX cL oq fq ++ ((xX rx tt a tr r3 rs rz b b0 s0 r5 r6))) 1 6 (some (.int (nI 1))) (fun _ : Unit => (oX cL oq fq ++ ((xX rx tt a tr r3 rs rz b b0 s0 r5 r6)))) := by
  refine cl_in (cc := cL_addVegetable) (maxL := 4) (ret := (some .int)) (own := RL) (lv := [(0, .ref rx), (1, .int x), (2, .ref oq)]) (by decide +kernel) rfl rfl (Nat.le_of_ble_eq_true rfl) rfl ?_
  intro p e s m args below meth c A ls hx hb hr hml hts hown hlocks hK hA hP hD hS hl hKX htab
  refine lv_aload_n hx hb dL_addVegetable_0 rfl (lv_at hl 2 rfl) ?_
  refine lv_iconst (v := (nI 0)) hx hb dL_addVegetable_1 (by decide) ?_
  refine lv_aload_n hx hb dL_addVegetable_2 rfl (lv_at hl 0 rfl) ?_
  refine lv_iload_n hx hb dL_addVegetable_3 rfl (lv_at hl 1 rfl) ?_
  refine gx_V (ci := 8) (q0 := 0) (cq := (RX8, TX8, 11)) (x1_X8_addVegetable l D cI cZ cF cL rx tt a tr r3 rs rz b b0 s0 r5 r6 x hst hbad) (gHV u_522 u_523 u_524 u_2 u_525) rfl hdV_X8_addVegetable ⟨Nat.le_of_ble_eq_true rfl, Nat.le_of_ble_eq_true rfl⟩ ⟨rfl, rfl⟩ hx hb hml hown hts hK hKX rfl hA hP hD hS hl.1 ⟨Nat.le_of_ble_eq_true rfl, Nat.le_of_ble_eq_true rfl⟩ rfl rfl rfl (wr := oX cL oq fq) (pm_cnt (fun _ => by simp only [List.countP_append, List.countP_nil, fT] <;> omega)) (fun _ => by simp only [List.map_append, List.map_nil, fX_m, bX_m, sX_m, pX_m, iaX_m, r5X_m, r6X_m, fT_m, hX_m, tX_m, xX_m, sgX_m, zaX_m, fsB_a]) (rest := [.int (nI 0), .ref oq]) rfl (Nat.le_of_ble_eq_true rfl) dL_addVegetable_4 (ws2 := (fun _ : Unit => (oX cL oq fq ++ ((xX rx tt a tr r3 rs rz b b0 s0 r5 r6))))) (fun _ => (pm_cnt (fun _ => by simp only [List.countP_append, List.countP_nil, fT] <;> omega))) (fun uz Hp locs q9 ce9 hP hD hS hce hcv hcl => ?_)
  refine cl_catch (E := cIAE) [] [(0, 9, 15, 15)] (0, 9, 12, 13) htab hts hown hKX (by decide) (fun z hz => nomatch hz) (by decide) (by decide) (kH u_147) hce hcv hcl ?_
  refine lv_astore_n (lv' := [(3, .ref q9), (0, .ref rx), (1, .int x), (2, .ref oq)]) hx hb dL_addVegetable_12 rfl hl (by decide) rfl (fun ls hl => ?_)
  refine lv_iconst (v := (nI 1)) hx hb dL_addVegetable_13 (by decide) ?_
  exact cl_i uz hx hb hr hlocks hP hS rfl dL_addVegetable_14
set_option maxHeartbeats 4000000 in
set_option maxRecDepth 100000 in
theorem x2_L_addVegetable (l : Launch) (D : va_G) (cI cZ cF cL : ClassId) (rx : Nat) (tt a tr : Nat → Nat) (r3 rs rz : Nat) (b : Nat → Nat) (b0 s0 r5 r6 : Nat) (T : Nat → Nat → Nat) (z : Nat) (hst : l.stackTraces = false) (hz : z ≤ 40) (hV5 : T 0 1 = 5) (oq : Nat) (fq : Nat → Int64) : CTL l D (tysX cI cZ cF cL) yL_addVegetable (wH yL_addVegetable cL_addVegetable 4 (some .int) [(0, 9, 12, 13), (0, 9, 15, 15)]) (rmX 7 121) [.ref rx, .int (nI z), .ref oq] (oX cL oq fq ++ ((xX rx tt a tr r3 rs rz b b0 s0 r5 r6 ++ fX cI a (T 0 0) (T 0 1) (T 0 2) (T 0 3) (T 0 4) (T 0 5) (T 1) (T 2) (T 3) (T 4) (T 5) (T 6) (T 7) (T 8)))) 1 6 (some (.int (nI 2))) (fun _ : Unit => (oX cL oq fq ++ ((xX rx tt a tr r3 rs rz b b0 s0 r5 r6 ++ fX cI a (T 0 0) (T 0 1) (T 0 2) (T 0 3) (T 0 4) (T 0 5) (T 1) (T 2) (T 3) (T 4) (T 5) (T 6) (T 7) (T 8))))) := by
  refine cl_in (cc := cL_addVegetable) (maxL := 4) (ret := (some .int)) (own := RL) (lv := [(0, .ref rx), (1, .int (nI z)), (2, .ref oq)]) (by decide +kernel) rfl rfl (Nat.le_of_ble_eq_true rfl) rfl ?_
  intro p e s m args below meth c A ls hx hb hr hml hts hown hlocks hK hA hP hD hS hl hKX htab
  refine lv_aload_n hx hb dL_addVegetable_0 rfl (lv_at hl 2 rfl) ?_
  refine lv_iconst (v := (nI 0)) hx hb dL_addVegetable_1 (by decide) ?_
  refine lv_aload_n hx hb dL_addVegetable_2 rfl (lv_at hl 0 rfl) ?_
  refine lv_iload_n hx hb dL_addVegetable_3 rfl (lv_at hl 1 rfl) ?_
  refine gx_V (ci := 8) (q0 := 0) (cq := (RX8, TX8, 11)) (x2_X8_addVegetable l D cI cZ cF cL rx tt a tr r3 rs rz b b0 s0 r5 r6 T z hst hz hV5) (gHV u_522 u_523 u_524 u_2 u_525) rfl hdV_X8_addVegetable ⟨Nat.le_of_ble_eq_true rfl, Nat.le_of_ble_eq_true rfl⟩ ⟨rfl, rfl⟩ hx hb hml hown hts hK hKX rfl hA hP hD hS hl.1 ⟨Nat.le_of_ble_eq_true rfl, Nat.le_of_ble_eq_true rfl⟩ rfl rfl rfl (wr := oX cL oq fq) (pm_cnt (fun _ => by simp only [List.countP_append, List.countP_nil, fT] <;> omega)) (fun _ => by simp only [List.map_append, List.map_nil, fX_m, bX_m, sX_m, pX_m, iaX_m, r5X_m, r6X_m, fT_m, hX_m, tX_m, xX_m, sgX_m, zaX_m, fsB_a]) (rest := [.int (nI 0), .ref oq]) rfl (Nat.le_of_ble_eq_true rfl) dL_addVegetable_4 (ws2 := (fun _ : Unit => (oX cL oq fq ++ ((xX rx tt a tr r3 rs rz b b0 s0 r5 r6 ++ fX cI a (T 0 0) (T 0 1) (T 0 2) (T 0 3) (T 0 4) (T 0 5) (T 1) (T 2) (T 3) (T 4) (T 5) (T 6) (T 7) (T 8)))))) (fun _ => (pm_cnt (fun _ => by simp only [List.countP_append, List.countP_nil, fT] <;> omega))) (fun uz Hp locs q9 ce9 hP hD hS hce hcv hcl => ?_)
  refine cl_catch (E := cISE) [(0, 9, 12, 13)] [] (0, 9, 15, 15) htab hts hown hKX (by decide) (fun z hz => by rcases List.mem_singleton.mp hz with rfl; exact ⟨by decide, cIAE, kH u_147, by decide⟩) (by decide) (by decide) (kH u_148) hce hcv hcl ?_
  refine lv_astore_n (lv' := [(3, .ref q9), (0, .ref rx), (1, .int (nI z)), (2, .ref oq)]) hx hb dL_addVegetable_15 rfl hl (by decide) rfl (fun ls hl => ?_)
  refine lv_iconst (v := (nI 2)) hx hb dL_addVegetable_16 (by decide) ?_
  exact cl_i uz hx hb hr hlocks hP hS rfl dL_addVegetable_17
set_option maxHeartbeats 4000000 in
set_option maxRecDepth 100000 in
theorem x1_L_setHarvest (l : Launch) (D : va_G) (cI cZ cF cL : ClassId) (rx : Nat) (tt a tr : Nat → Nat) (r3 rs rz : Nat) (b : Nat → Nat) (b0 s0 r5 r6 : Nat) (T : Nat → Nat → Nat) (x y : Int32) (hst : l.stackTraces = false) (hT : FI T) (hbad : ¬ (0 ≤ x ∧ x < nI (T 0 1))) (oq : Nat) (fq : Nat → Int64) : CTL l D (tysX cI cZ cF cL) yL_setHarvest (wH yL_setHarvest cL_setHarvest 5 (some .int) [(0, 10, 13, 28), (0, 10, 17, 13)]) (rmX 8 144) [.ref rx, .int x, .int y, .ref oq] (oX cL oq fq ++ ((xX rx tt a tr r3 rs rz b b0 s0 r5 r6 ++ fX cI a (T 0 0) (T 0 1) (T 0 2) (T 0 3) (T 0 4) (T 0 5) (T 1) (T 2) (T 3) (T 4) (T 5) (T 6) (T 7) (T 8)))) 1 6 (some (.int (nI 1))) (fun _ : Unit => (oX cL oq fq ++ ((xX rx tt a tr r3 rs rz b b0 s0 r5 r6 ++ fX cI a (T 0 0) (T 0 1) (T 0 2) (T 0 3) (T 0 4) (T 0 5) (T 1) (T 2) (T 3) (T 4) (T 5) (T 6) (T 7) (T 8))))) := by
  refine cl_in (cc := cL_setHarvest) (maxL := 5) (ret := (some .int)) (own := RL) (lv := [(0, .ref rx), (1, .int x), (2, .int y), (3, .ref oq)]) (by decide +kernel) rfl rfl (Nat.le_of_ble_eq_true rfl) rfl ?_
  intro p e s m args below meth c A ls hx hb hr hml hts hown hlocks hK hA hP hD hS hl hKX htab
  refine lv_aload_n hx hb dL_setHarvest_0 rfl (lv_at hl 3 rfl) ?_
  refine lv_iconst (v := (nI 0)) hx hb dL_setHarvest_1 (by decide) ?_
  refine lv_aload_n hx hb dL_setHarvest_2 rfl (lv_at hl 0 rfl) ?_
  refine lv_iload_n hx hb dL_setHarvest_3 rfl (lv_at hl 1 rfl) ?_
  refine lv_iload_n hx hb dL_setHarvest_4 rfl (lv_at hl 2 rfl) ?_
  refine gx_V (ci := 8) (q0 := 0) (cq := (RX8, TX8, 11)) (x1_X8_setHarvest l D cI cZ cF cL rx tt a tr r3 rs rz b b0 s0 r5 r6 T x y hst hT hbad) (gHV u_534 u_535 u_536 u_2 u_537) rfl hdV_X8_setHarvest ⟨Nat.le_of_ble_eq_true rfl, Nat.le_of_ble_eq_true rfl⟩ ⟨rfl, rfl⟩ hx hb hml hown hts hK hKX rfl hA hP hD hS hl.1 ⟨Nat.le_of_ble_eq_true rfl, Nat.le_of_ble_eq_true rfl⟩ rfl rfl rfl (wr := oX cL oq fq) (pm_cnt (fun _ => by simp only [List.countP_append, List.countP_nil, fT] <;> omega)) (fun _ => by simp only [List.map_append, List.map_nil, fX_m, bX_m, sX_m, pX_m, iaX_m, r5X_m, r6X_m, fT_m, hX_m, tX_m, xX_m, sgX_m, zaX_m, fsB_a]) (rest := [.int (nI 0), .ref oq]) rfl (Nat.le_of_ble_eq_true rfl) dL_setHarvest_5 (ws2 := (fun _ : Unit => (oX cL oq fq ++ ((xX rx tt a tr r3 rs rz b b0 s0 r5 r6 ++ fX cI a (T 0 0) (T 0 1) (T 0 2) (T 0 3) (T 0 4) (T 0 5) (T 1) (T 2) (T 3) (T 4) (T 5) (T 6) (T 7) (T 8)))))) (fun _ => (pm_cnt (fun _ => by simp only [List.countP_append, List.countP_nil, fT] <;> omega))) (fun uz Hp locs q9 ce9 hP hD hS hce hcv hcl => ?_)
  refine cl_catch (E := cIOB) [] [(0, 10, 17, 13)] (0, 10, 13, 28) htab hts hown hKX (by decide) (fun z hz => nomatch hz) (by decide) (by decide) (kH u_368) hce hcv hcl ?_
  refine lv_astore (lv' := [(4, .ref q9), (0, .ref rx), (1, .int x), (2, .int y), (3, .ref oq)]) hx hb dL_setHarvest_13 hl (by decide) rfl (fun ls hl => ?_)
  refine lv_iconst (v := (nI 1)) hx hb dL_setHarvest_15 (by decide) ?_
  exact cl_i uz hx hb hr hlocks hP hS rfl dL_setHarvest_16
set_option maxHeartbeats 4000000 in
set_option maxRecDepth 100000 in
theorem x2_L_setHarvest (l : Launch) (D : va_G) (cI cZ cF cL : ClassId) (rx : Nat) (tt a tr : Nat → Nat) (r3 rs rz : Nat) (b : Nat → Nat) (b0 s0 r5 r6 : Nat) (T : Nat → Nat → Nat) (v : Nat) (x : Int32) (hst : l.stackTraces = false) (hT : FI T) (hv : v < T 0 1) (hbad : x < nI 0 ∨ nI 40 < x) (oq : Nat) (fq : Nat → Int64) : CTL l D (tysX cI cZ cF cL) yL_setHarvest (wH yL_setHarvest cL_setHarvest 5 (some .int) [(0, 10, 13, 28), (0, 10, 17, 13)]) (rmX 8 145) [.ref rx, .int (nI v), .int x, .ref oq] (oX cL oq fq ++ ((xX rx tt a tr r3 rs rz b b0 s0 r5 r6 ++ fX cI a (T 0 0) (T 0 1) (T 0 2) (T 0 3) (T 0 4) (T 0 5) (T 1) (T 2) (T 3) (T 4) (T 5) (T 6) (T 7) (T 8)))) 1 6 (some (.int (nI 2))) (fun _ : Unit => (oX cL oq fq ++ ((xX rx tt a tr r3 rs rz b b0 s0 r5 r6 ++ fX cI a (T 0 0) (T 0 1) (T 0 2) (T 0 3) (T 0 4) (T 0 5) (T 1) (T 2) (T 3) (T 4) (T 5) (T 6) (T 7) (T 8))))) := by
  refine cl_in (cc := cL_setHarvest) (maxL := 5) (ret := (some .int)) (own := RL) (lv := [(0, .ref rx), (1, .int (nI v)), (2, .int x), (3, .ref oq)]) (by decide +kernel) rfl rfl (Nat.le_of_ble_eq_true rfl) rfl ?_
  intro p e s m args below meth c A ls hx hb hr hml hts hown hlocks hK hA hP hD hS hl hKX htab
  refine lv_aload_n hx hb dL_setHarvest_0 rfl (lv_at hl 3 rfl) ?_
  refine lv_iconst (v := (nI 0)) hx hb dL_setHarvest_1 (by decide) ?_
  refine lv_aload_n hx hb dL_setHarvest_2 rfl (lv_at hl 0 rfl) ?_
  refine lv_iload_n hx hb dL_setHarvest_3 rfl (lv_at hl 1 rfl) ?_
  refine lv_iload_n hx hb dL_setHarvest_4 rfl (lv_at hl 2 rfl) ?_
  refine gx_V (ci := 8) (q0 := 0) (cq := (RX8, TX8, 11)) (x2_X8_setHarvest l D cI cZ cF cL rx tt a tr r3 rs rz b b0 s0 r5 r6 T v x hst hT hv hbad) (gHV u_534 u_535 u_536 u_2 u_537) rfl hdV_X8_setHarvest ⟨Nat.le_of_ble_eq_true rfl, Nat.le_of_ble_eq_true rfl⟩ ⟨rfl, rfl⟩ hx hb hml hown hts hK hKX rfl hA hP hD hS hl.1 ⟨Nat.le_of_ble_eq_true rfl, Nat.le_of_ble_eq_true rfl⟩ rfl rfl rfl (wr := oX cL oq fq) (pm_cnt (fun _ => by simp only [List.countP_append, List.countP_nil, fT] <;> omega)) (fun _ => by simp only [List.map_append, List.map_nil, fX_m, bX_m, sX_m, pX_m, iaX_m, r5X_m, r6X_m, fT_m, hX_m, tX_m, xX_m, sgX_m, zaX_m, fsB_a]) (rest := [.int (nI 0), .ref oq]) rfl (Nat.le_of_ble_eq_true rfl) dL_setHarvest_5 (ws2 := (fun _ : Unit => (oX cL oq fq ++ ((xX rx tt a tr r3 rs rz b b0 s0 r5 r6 ++ fX cI a (T 0 0) (T 0 1) (T 0 2) (T 0 3) (T 0 4) (T 0 5) (T 1) (T 2) (T 3) (T 4) (T 5) (T 6) (T 7) (T 8)))))) (fun _ => (pm_cnt (fun _ => by simp only [List.countP_append, List.countP_nil, fT] <;> omega))) (fun uz Hp locs q9 ce9 hP hD hS hce hcv hcl => ?_)
  refine cl_catch (E := cIAE) [(0, 10, 13, 28)] [] (0, 10, 17, 13) htab hts hown hKX (by decide) (fun z hz => by rcases List.mem_singleton.mp hz with rfl; exact ⟨by decide, cIOB, kH u_368, by decide⟩) (by decide) (by decide) (kH u_147) hce hcv hcl ?_
  refine lv_astore (lv' := [(4, .ref q9), (0, .ref rx), (1, .int (nI v)), (2, .int x), (3, .ref oq)]) hx hb dL_setHarvest_17 hl (by decide) rfl (fun ls hl => ?_)
  refine lv_iconst (v := (nI 2)) hx hb dL_setHarvest_19 (by decide) ?_
  exact cl_i uz hx hb hr hlocks hP hS rfl dL_setHarvest_20
set_option maxHeartbeats 4000000 in
set_option maxRecDepth 100000 in
theorem x1_L_setLiking (l : Launch) (D : va_G) (cI cZ cF cL : ClassId) (rx : Nat) (tt a tr : Nat → Nat) (r3 rs rz : Nat) (b : Nat → Nat) (b0 s0 r5 r6 : Nat) (T : Nat → Nat → Nat) (x y z : Int32) (hst : l.stackTraces = false) (hT : FI T) (hbad : ¬ (0 ≤ x ∧ x < nI (T 0 0))) (oq : Nat) (fq : Nat → Int64) : CTL l D (tysX cI cZ cF cL) yL_setLiking (wH yL_setLiking cL_setLiking 6 (some .int) [(0, 12, 15, 28), (0, 12, 19, 13)]) (rmX 8 145) [.ref rx, .int x, .int y, .int z, .ref oq] (oX cL oq fq ++ ((xX rx tt a tr r3 rs rz b b0 s0 r5 r6 ++ fX cI a (T 0 0) (T 0 1) (T 0 2) (T 0 3) (T 0 4) (T 0 5) (T 1) (T 2) (T 3) (T 4) (T 5) (T 6) (T 7) (T 8)))) 1 6 (some (.int (nI 1))) (fun _ : Unit => (oX cL oq fq ++ ((xX rx tt a tr r3 rs rz b b0 s0 r5 r6 ++ fX cI a (T 0 0) (T 0 1) (T 0 2) (T 0 3) (T 0 4) (T 0 5) (T 1) (T 2) (T 3) (T 4) (T 5) (T 6) (T 7) (T 8))))) := by
  refine cl_in (cc := cL_setLiking) (maxL := 6) (ret := (some .int)) (own := RL) (lv := [(0, .ref rx), (1, .int x), (2, .int y), (3, .int z), (4, .ref oq)]) (by decide +kernel) rfl rfl (Nat.le_of_ble_eq_true rfl) rfl ?_
  intro p e s m args below meth c A ls hx hb hr hml hts hown hlocks hK hA hP hD hS hl hKX htab
  refine lv_aload hx hb dL_setLiking_0 (lv_at hl 4 rfl) ?_
  refine lv_iconst (v := (nI 0)) hx hb dL_setLiking_2 (by decide) ?_
  refine lv_aload_n hx hb dL_setLiking_3 rfl (lv_at hl 0 rfl) ?_
  refine lv_iload_n hx hb dL_setLiking_4 rfl (lv_at hl 1 rfl) ?_
  refine lv_iload_n hx hb dL_setLiking_5 rfl (lv_at hl 2 rfl) ?_
  refine lv_iload_n hx hb dL_setLiking_6 rfl (lv_at hl 3 rfl) ?_
  refine gx_V (ci := 8) (q0 := 0) (cq := (RX8, TX8, 11)) (x1_X8_setLiking l D cI cZ cF cL rx tt a tr r3 rs rz b b0 s0 r5 r6 T x y z hst hT hbad) (gHV u_549 u_550 u_551 u_2 u_552) rfl hdV_X8_setLiking ⟨Nat.le_of_ble_eq_true rfl, Nat.le_of_ble_eq_true rfl⟩ ⟨rfl, rfl⟩ hx hb hml hown hts hK hKX rfl hA hP hD hS hl.1 ⟨Nat.le_of_ble_eq_true rfl, Nat.le_of_ble_eq_true rfl⟩ rfl rfl rfl (wr := oX cL oq fq) (pm_cnt (fun _ => by simp only [List.countP_append, List.countP_nil, fT] <;> omega)) (fun _ => by simp only [List.map_append, List.map_nil, fX_m, bX_m, sX_m, pX_m, iaX_m, r5X_m, r6X_m, fT_m, hX_m, tX_m, xX_m, sgX_m, zaX_m, fsB_a]) (rest := [.int (nI 0), .ref oq]) rfl (Nat.le_of_ble_eq_true rfl) dL_setLiking_7 (ws2 := (fun _ : Unit => (oX cL oq fq ++ ((xX rx tt a tr r3 rs rz b b0 s0 r5 r6 ++ fX cI a (T 0 0) (T 0 1) (T 0 2) (T 0 3) (T 0 4) (T 0 5) (T 1) (T 2) (T 3) (T 4) (T 5) (T 6) (T 7) (T 8)))))) (fun _ => (pm_cnt (fun _ => by simp only [List.countP_append, List.countP_nil, fT] <;> omega))) (fun uz Hp locs q9 ce9 hP hD hS hce hcv hcl => ?_)
  refine cl_catch (E := cIOB) [] [(0, 12, 19, 13)] (0, 12, 15, 28) htab hts hown hKX (by decide) (fun z hz => nomatch hz) (by decide) (by decide) (kH u_368) hce hcv hcl ?_
  refine lv_astore (lv' := [(5, .ref q9), (0, .ref rx), (1, .int x), (2, .int y), (3, .int z), (4, .ref oq)]) hx hb dL_setLiking_15 hl (by decide) rfl (fun ls hl => ?_)
  refine lv_iconst (v := (nI 1)) hx hb dL_setLiking_17 (by decide) ?_
  exact cl_i uz hx hb hr hlocks hP hS rfl dL_setLiking_18
set_option maxHeartbeats 4000000 in
set_option maxRecDepth 100000 in
theorem x2_L_setLiking (l : Launch) (D : va_G) (cI cZ cF cL : ClassId) (rx : Nat) (tt a tr : Nat → Nat) (r3 rs rz : Nat) (b : Nat → Nat) (b0 s0 r5 r6 : Nat) (T : Nat → Nat → Nat) (h : Nat) (x z : Int32) (hst : l.stackTraces = false) (hT : FI T) (hh : h < T 0 0) (hbad : ¬ (0 ≤ x ∧ x < nI (T 0 1))) (oq : Nat) (fq : Nat → Int64) : CTL l D (tysX cI cZ cF cL) yL_setLiking (wH yL_setLiking cL_setLiking 6 (some .int) [(0, 12, 15, 28), (0, 12, 19, 13)]) (rmX 8 145) [.ref rx, .int (nI h), .int x, .int z, .ref oq] (oX cL oq fq ++ ((xX rx tt a tr r3 rs rz b b0 s0 r5 r6 ++ fX cI a (T 0 0) (T 0 1) (T 0 2) (T 0 3) (T 0 4) (T 0 5) (T 1) (T 2) (T 3) (T 4) (T 5) (T 6) (T 7) (T 8)))) 1 6 (some (.int (nI 1))) (fun _ : Unit => (oX cL oq fq ++ ((xX rx tt a tr r3 rs rz b b0 s0 r5 r6 ++ fX cI a (T 0 0) (T 0 1) (T 0 2) (T 0 3) (T 0 4) (T 0 5) (T 1) (T 2) (T 3) (T 4) (T 5) (T 6) (T 7) (T 8))))) := by
  refine cl_in (cc := cL_setLiking) (maxL := 6) (ret := (some .int)) (own := RL) (lv := [(0, .ref rx), (1, .int (nI h)), (2, .int x), (3, .int z), (4, .ref oq)]) (by decide +kernel) rfl rfl (Nat.le_of_ble_eq_true rfl) rfl ?_
  intro p e s m args below meth c A ls hx hb hr hml hts hown hlocks hK hA hP hD hS hl hKX htab
  refine lv_aload hx hb dL_setLiking_0 (lv_at hl 4 rfl) ?_
  refine lv_iconst (v := (nI 0)) hx hb dL_setLiking_2 (by decide) ?_
  refine lv_aload_n hx hb dL_setLiking_3 rfl (lv_at hl 0 rfl) ?_
  refine lv_iload_n hx hb dL_setLiking_4 rfl (lv_at hl 1 rfl) ?_
  refine lv_iload_n hx hb dL_setLiking_5 rfl (lv_at hl 2 rfl) ?_
  refine lv_iload_n hx hb dL_setLiking_6 rfl (lv_at hl 3 rfl) ?_
  refine gx_V (ci := 8) (q0 := 0) (cq := (RX8, TX8, 11)) (x2_X8_setLiking l D cI cZ cF cL rx tt a tr r3 rs rz b b0 s0 r5 r6 T h x z hst hT hh hbad) (gHV u_549 u_550 u_551 u_2 u_552) rfl hdV_X8_setLiking ⟨Nat.le_of_ble_eq_true rfl, Nat.le_of_ble_eq_true rfl⟩ ⟨rfl, rfl⟩ hx hb hml hown hts hK hKX rfl hA hP hD hS hl.1 ⟨Nat.le_of_ble_eq_true rfl, Nat.le_of_ble_eq_true rfl⟩ rfl rfl rfl (wr := oX cL oq fq) (pm_cnt (fun _ => by simp only [List.countP_append, List.countP_nil, fT] <;> omega)) (fun _ => by simp only [List.map_append, List.map_nil, fX_m, bX_m, sX_m, pX_m, iaX_m, r5X_m, r6X_m, fT_m, hX_m, tX_m, xX_m, sgX_m, zaX_m, fsB_a]) (rest := [.int (nI 0), .ref oq]) rfl (Nat.le_of_ble_eq_true rfl) dL_setLiking_7 (ws2 := (fun _ : Unit => (oX cL oq fq ++ ((xX rx tt a tr r3 rs rz b b0 s0 r5 r6 ++ fX cI a (T 0 0) (T 0 1) (T 0 2) (T 0 3) (T 0 4) (T 0 5) (T 1) (T 2) (T 3) (T 4) (T 5) (T 6) (T 7) (T 8)))))) (fun _ => (pm_cnt (fun _ => by simp only [List.countP_append, List.countP_nil, fT] <;> omega))) (fun uz Hp locs q9 ce9 hP hD hS hce hcv hcl => ?_)
  refine cl_catch (E := cIOB) [] [(0, 12, 19, 13)] (0, 12, 15, 28) htab hts hown hKX (by decide) (fun z hz => nomatch hz) (by decide) (by decide) (kH u_368) hce hcv hcl ?_
  refine lv_astore (lv' := [(5, .ref q9), (0, .ref rx), (1, .int (nI h)), (2, .int x), (3, .int z), (4, .ref oq)]) hx hb dL_setLiking_15 hl (by decide) rfl (fun ls hl => ?_)
  refine lv_iconst (v := (nI 1)) hx hb dL_setLiking_17 (by decide) ?_
  exact cl_i uz hx hb hr hlocks hP hS rfl dL_setLiking_18
set_option maxHeartbeats 4000000 in
set_option maxRecDepth 100000 in
theorem x3_L_setLiking (l : Launch) (D : va_G) (cI cZ cF cL : ClassId) (rx : Nat) (tt a tr : Nat → Nat) (r3 rs rz : Nat) (b : Nat → Nat) (b0 s0 r5 r6 : Nat) (T : Nat → Nat → Nat) (h v : Nat) (x : Int32) (hst : l.stackTraces = false) (hT : FI T) (hh : h < T 0 0) (hv : v < T 0 1) (hbad : x < nI 0 ∨ nI 9 < x) (oq : Nat) (fq : Nat → Int64) : CTL l D (tysX cI cZ cF cL) yL_setLiking (wH yL_setLiking cL_setLiking 6 (some .int) [(0, 12, 15, 28), (0, 12, 19, 13)]) (rmX 8 146) [.ref rx, .int (nI h), .int (nI v), .int x, .ref oq] (oX cL oq fq ++ ((xX rx tt a tr r3 rs rz b b0 s0 r5 r6 ++ fX cI a (T 0 0) (T 0 1) (T 0 2) (T 0 3) (T 0 4) (T 0 5) (T 1) (T 2) (T 3) (T 4) (T 5) (T 6) (T 7) (T 8)))) 1 6 (some (.int (nI 2))) (fun _ : Unit => (oX cL oq fq ++ ((xX rx tt a tr r3 rs rz b b0 s0 r5 r6 ++ fX cI a (T 0 0) (T 0 1) (T 0 2) (T 0 3) (T 0 4) (T 0 5) (T 1) (T 2) (T 3) (T 4) (T 5) (T 6) (T 7) (T 8))))) := by
  refine cl_in (cc := cL_setLiking) (maxL := 6) (ret := (some .int)) (own := RL) (lv := [(0, .ref rx), (1, .int (nI h)), (2, .int (nI v)), (3, .int x), (4, .ref oq)]) (by decide +kernel) rfl rfl (Nat.le_of_ble_eq_true rfl) rfl ?_
  intro p e s m args below meth c A ls hx hb hr hml hts hown hlocks hK hA hP hD hS hl hKX htab
  refine lv_aload hx hb dL_setLiking_0 (lv_at hl 4 rfl) ?_
  refine lv_iconst (v := (nI 0)) hx hb dL_setLiking_2 (by decide) ?_
  refine lv_aload_n hx hb dL_setLiking_3 rfl (lv_at hl 0 rfl) ?_
  refine lv_iload_n hx hb dL_setLiking_4 rfl (lv_at hl 1 rfl) ?_
  refine lv_iload_n hx hb dL_setLiking_5 rfl (lv_at hl 2 rfl) ?_
  refine lv_iload_n hx hb dL_setLiking_6 rfl (lv_at hl 3 rfl) ?_
  refine gx_V (ci := 8) (q0 := 0) (cq := (RX8, TX8, 11)) (x3_X8_setLiking l D cI cZ cF cL rx tt a tr r3 rs rz b b0 s0 r5 r6 T h v x hst hT hh hv hbad) (gHV u_549 u_550 u_551 u_2 u_552) rfl hdV_X8_setLiking ⟨Nat.le_of_ble_eq_true rfl, Nat.le_of_ble_eq_true rfl⟩ ⟨rfl, rfl⟩ hx hb hml hown hts hK hKX rfl hA hP hD hS hl.1 ⟨Nat.le_of_ble_eq_true rfl, Nat.le_of_ble_eq_true rfl⟩ rfl rfl rfl (wr := oX cL oq fq) (pm_cnt (fun _ => by simp only [List.countP_append, List.countP_nil, fT] <;> omega)) (fun _ => by simp only [List.map_append, List.map_nil, fX_m, bX_m, sX_m, pX_m, iaX_m, r5X_m, r6X_m, fT_m, hX_m, tX_m, xX_m, sgX_m, zaX_m, fsB_a]) (rest := [.int (nI 0), .ref oq]) rfl (Nat.le_of_ble_eq_true rfl) dL_setLiking_7 (ws2 := (fun _ : Unit => (oX cL oq fq ++ ((xX rx tt a tr r3 rs rz b b0 s0 r5 r6 ++ fX cI a (T 0 0) (T 0 1) (T 0 2) (T 0 3) (T 0 4) (T 0 5) (T 1) (T 2) (T 3) (T 4) (T 5) (T 6) (T 7) (T 8)))))) (fun _ => (pm_cnt (fun _ => by simp only [List.countP_append, List.countP_nil, fT] <;> omega))) (fun uz Hp locs q9 ce9 hP hD hS hce hcv hcl => ?_)
  refine cl_catch (E := cIAE) [(0, 12, 15, 28)] [] (0, 12, 19, 13) htab hts hown hKX (by decide) (fun z hz => by rcases List.mem_singleton.mp hz with rfl; exact ⟨by decide, cIOB, kH u_368, by decide⟩) (by decide) (by decide) (kH u_147) hce hcv hcl ?_
  refine lv_astore (lv' := [(5, .ref q9), (0, .ref rx), (1, .int (nI h)), (2, .int (nI v)), (3, .int x), (4, .ref oq)]) hx hb dL_setLiking_19 hl (by decide) rfl (fun ls hl => ?_)
  refine lv_iconst (v := (nI 2)) hx hb dL_setLiking_21 (by decide) ?_
  exact cl_i uz hx hb hr hlocks hP hS rfl dL_setLiking_22
set_option maxHeartbeats 4000000 in
set_option maxRecDepth 100000 in
theorem x1_L_give (l : Launch) (D : va_G) (cI cZ cF cL : ClassId) (rx : Nat) (tt a tr : Nat → Nat) (r3 rs rz : Nat) (b : Nat → Nat) (b0 s0 r5 r6 : Nat) (T : Nat → Nat → Nat) (x y z : Int32) (hst : l.stackTraces = false) (hT : FI T) (hbad : ¬ (0 ≤ x ∧ x < nI (T 0 0))) (oq : Nat) (fq : Nat → Int64) : CTL l D (tysX cI cZ cF cL) yL_give (wH yL_give cL_give 6 (some .int) [(0, 12, 15, 28), (0, 12, 19, 13), (0, 12, 23, 15)]) (rmX 8 144) [.ref rx, .int x, .int y, .int z, .ref oq] (oX cL oq fq ++ ((xX rx tt a tr r3 rs rz b b0 s0 r5 r6 ++ fX cI a (T 0 0) (T 0 1) (T 0 2) (T 0 3) (T 0 4) (T 0 5) (T 1) (T 2) (T 3) (T 4) (T 5) (T 6) (T 7) (T 8)))) 1 6 (some (.int (nI 1))) (fun _ : Unit => (oX cL oq fq ++ ((xX rx tt a tr r3 rs rz b b0 s0 r5 r6 ++ fX cI a (T 0 0) (T 0 1) (T 0 2) (T 0 3) (T 0 4) (T 0 5) (T 1) (T 2) (T 3) (T 4) (T 5) (T 6) (T 7) (T 8))))) := by
  refine cl_in (cc := cL_give) (maxL := 6) (ret := (some .int)) (own := RL) (lv := [(0, .ref rx), (1, .int x), (2, .int y), (3, .int z), (4, .ref oq)]) (by decide +kernel) rfl rfl (Nat.le_of_ble_eq_true rfl) rfl ?_
  intro p e s m args below meth c A ls hx hb hr hml hts hown hlocks hK hA hP hD hS hl hKX htab
  refine lv_aload hx hb dL_give_0 (lv_at hl 4 rfl) ?_
  refine lv_iconst (v := (nI 0)) hx hb dL_give_2 (by decide) ?_
  refine lv_aload_n hx hb dL_give_3 rfl (lv_at hl 0 rfl) ?_
  refine lv_iload_n hx hb dL_give_4 rfl (lv_at hl 1 rfl) ?_
  refine lv_iload_n hx hb dL_give_5 rfl (lv_at hl 2 rfl) ?_
  refine lv_iload_n hx hb dL_give_6 rfl (lv_at hl 3 rfl) ?_
  refine gx_V (ci := 8) (q0 := 0) (cq := (RX8, TX8, 11)) (x1_X8_give l D cI cZ cF cL rx tt a tr r3 rs rz b b0 s0 r5 r6 T x y z hst hT hbad) (gHV u_691 u_692 u_693 u_2 u_694) rfl hdV_X8_give ⟨Nat.le_of_ble_eq_true rfl, Nat.le_of_ble_eq_true rfl⟩ ⟨rfl, rfl⟩ hx hb hml hown hts hK hKX rfl hA hP hD hS hl.1 ⟨Nat.le_of_ble_eq_true rfl, Nat.le_of_ble_eq_true rfl⟩ rfl rfl rfl (wr := oX cL oq fq) (pm_cnt (fun _ => by simp only [List.countP_append, List.countP_nil, fT] <;> omega)) (fun _ => by simp only [List.map_append, List.map_nil, fX_m, bX_m, sX_m, pX_m, iaX_m, r5X_m, r6X_m, fT_m, hX_m, tX_m, xX_m, sgX_m, zaX_m, fsB_a]) (rest := [.int (nI 0), .ref oq]) rfl (Nat.le_of_ble_eq_true rfl) dL_give_7 (ws2 := (fun _ : Unit => (oX cL oq fq ++ ((xX rx tt a tr r3 rs rz b b0 s0 r5 r6 ++ fX cI a (T 0 0) (T 0 1) (T 0 2) (T 0 3) (T 0 4) (T 0 5) (T 1) (T 2) (T 3) (T 4) (T 5) (T 6) (T 7) (T 8)))))) (fun _ => (pm_cnt (fun _ => by simp only [List.countP_append, List.countP_nil, fT] <;> omega))) (fun uz Hp locs q9 ce9 hP hD hS hce hcv hcl => ?_)
  refine cl_catch (E := cIOB) [] [(0, 12, 19, 13), (0, 12, 23, 15)] (0, 12, 15, 28) htab hts hown hKX (by decide) (fun z hz => nomatch hz) (by decide) (by decide) (kH u_368) hce hcv hcl ?_
  refine lv_astore (lv' := [(5, .ref q9), (0, .ref rx), (1, .int x), (2, .int y), (3, .int z), (4, .ref oq)]) hx hb dL_give_15 hl (by decide) rfl (fun ls hl => ?_)
  refine lv_iconst (v := (nI 1)) hx hb dL_give_17 (by decide) ?_
  exact cl_i uz hx hb hr hlocks hP hS rfl dL_give_18
set_option maxHeartbeats 4000000 in
set_option maxRecDepth 100000 in
theorem x2_L_give (l : Launch) (D : va_G) (cI cZ cF cL : ClassId) (rx : Nat) (tt a tr : Nat → Nat) (r3 rs rz : Nat) (b : Nat → Nat) (b0 s0 r5 r6 : Nat) (T : Nat → Nat → Nat) (h : Nat) (x z : Int32) (hst : l.stackTraces = false) (hT : FI T) (hh : h < T 0 0) (hbad : ¬ (0 ≤ x ∧ x < nI (T 0 1))) (oq : Nat) (fq : Nat → Int64) : CTL l D (tysX cI cZ cF cL) yL_give (wH yL_give cL_give 6 (some .int) [(0, 12, 15, 28), (0, 12, 19, 13), (0, 12, 23, 15)]) (rmX 8 144) [.ref rx, .int (nI h), .int x, .int z, .ref oq] (oX cL oq fq ++ ((xX rx tt a tr r3 rs rz b b0 s0 r5 r6 ++ fX cI a (T 0 0) (T 0 1) (T 0 2) (T 0 3) (T 0 4) (T 0 5) (T 1) (T 2) (T 3) (T 4) (T 5) (T 6) (T 7) (T 8)))) 1 6 (some (.int (nI 1))) (fun _ : Unit => (oX cL oq fq ++ ((xX rx tt a tr r3 rs rz b b0 s0 r5 r6 ++ fX cI a (T 0 0) (T 0 1) (T 0 2) (T 0 3) (T 0 4) (T 0 5) (T 1) (T 2) (T 3) (T 4) (T 5) (T 6) (T 7) (T 8))))) := by
  refine cl_in (cc := cL_give) (maxL := 6) (ret := (some .int)) (own := RL) (lv := [(0, .ref rx), (1, .int (nI h)), (2, .int x), (3, .int z), (4, .ref oq)]) (by decide +kernel) rfl rfl (Nat.le_of_ble_eq_true rfl) rfl ?_
  intro p e s m args below meth c A ls hx hb hr hml hts hown hlocks hK hA hP hD hS hl hKX htab
  refine lv_aload hx hb dL_give_0 (lv_at hl 4 rfl) ?_
  refine lv_iconst (v := (nI 0)) hx hb dL_give_2 (by decide) ?_
  refine lv_aload_n hx hb dL_give_3 rfl (lv_at hl 0 rfl) ?_
  refine lv_iload_n hx hb dL_give_4 rfl (lv_at hl 1 rfl) ?_
  refine lv_iload_n hx hb dL_give_5 rfl (lv_at hl 2 rfl) ?_
  refine lv_iload_n hx hb dL_give_6 rfl (lv_at hl 3 rfl) ?_
  refine gx_V (ci := 8) (q0 := 0) (cq := (RX8, TX8, 11)) (x2_X8_give l D cI cZ cF cL rx tt a tr r3 rs rz b b0 s0 r5 r6 T h x z hst hT hh hbad) (gHV u_691 u_692 u_693 u_2 u_694) rfl hdV_X8_give ⟨Nat.le_of_ble_eq_true rfl, Nat.le_of_ble_eq_true rfl⟩ ⟨rfl, rfl⟩ hx hb hml hown hts hK hKX rfl hA hP hD hS hl.1 ⟨Nat.le_of_ble_eq_true rfl, Nat.le_of_ble_eq_true rfl⟩ rfl rfl rfl (wr := oX cL oq fq) (pm_cnt (fun _ => by simp only [List.countP_append, List.countP_nil, fT] <;> omega)) (fun _ => by simp only [List.map_append, List.map_nil, fX_m, bX_m, sX_m, pX_m, iaX_m, r5X_m, r6X_m, fT_m, hX_m, tX_m, xX_m, sgX_m, zaX_m, fsB_a]) (rest := [.int (nI 0), .ref oq]) rfl (Nat.le_of_ble_eq_true rfl) dL_give_7 (ws2 := (fun _ : Unit => (oX cL oq fq ++ ((xX rx tt a tr r3 rs rz b b0 s0 r5 r6 ++ fX cI a (T 0 0) (T 0 1) (T 0 2) (T 0 3) (T 0 4) (T 0 5) (T 1) (T 2) (T 3) (T 4) (T 5) (T 6) (T 7) (T 8)))))) (fun _ => (pm_cnt (fun _ => by simp only [List.countP_append, List.countP_nil, fT] <;> omega))) (fun uz Hp locs q9 ce9 hP hD hS hce hcv hcl => ?_)
  refine cl_catch (E := cIOB) [] [(0, 12, 19, 13), (0, 12, 23, 15)] (0, 12, 15, 28) htab hts hown hKX (by decide) (fun z hz => nomatch hz) (by decide) (by decide) (kH u_368) hce hcv hcl ?_
  refine lv_astore (lv' := [(5, .ref q9), (0, .ref rx), (1, .int (nI h)), (2, .int x), (3, .int z), (4, .ref oq)]) hx hb dL_give_15 hl (by decide) rfl (fun ls hl => ?_)
  refine lv_iconst (v := (nI 1)) hx hb dL_give_17 (by decide) ?_
  exact cl_i uz hx hb hr hlocks hP hS rfl dL_give_18
set_option maxHeartbeats 4000000 in
set_option maxRecDepth 100000 in
theorem x3_L_give (l : Launch) (D : va_G) (cI cZ cF cL : ClassId) (rx : Nat) (tt a tr : Nat → Nat) (r3 rs rz : Nat) (b : Nat → Nat) (b0 s0 r5 r6 : Nat) (T : Nat → Nat → Nat) (h v : Nat) (x : Int32) (hst : l.stackTraces = false) (hT : FI T) (hh : h < T 0 0) (hv : v < T 0 1) (hbad : x < nI 1 ∨ nI 40 < x) (oq : Nat) (fq : Nat → Int64) : CTL l D (tysX cI cZ cF cL) yL_give (wH yL_give cL_give 6 (some .int) [(0, 12, 15, 28), (0, 12, 19, 13), (0, 12, 23, 15)]) (rmX 8 145) [.ref rx, .int (nI h), .int (nI v), .int x, .ref oq] (oX cL oq fq ++ ((xX rx tt a tr r3 rs rz b b0 s0 r5 r6 ++ fX cI a (T 0 0) (T 0 1) (T 0 2) (T 0 3) (T 0 4) (T 0 5) (T 1) (T 2) (T 3) (T 4) (T 5) (T 6) (T 7) (T 8)))) 1 6 (some (.int (nI 2))) (fun _ : Unit => (oX cL oq fq ++ ((xX rx tt a tr r3 rs rz b b0 s0 r5 r6 ++ fX cI a (T 0 0) (T 0 1) (T 0 2) (T 0 3) (T 0 4) (T 0 5) (T 1) (T 2) (T 3) (T 4) (T 5) (T 6) (T 7) (T 8))))) := by
  refine cl_in (cc := cL_give) (maxL := 6) (ret := (some .int)) (own := RL) (lv := [(0, .ref rx), (1, .int (nI h)), (2, .int (nI v)), (3, .int x), (4, .ref oq)]) (by decide +kernel) rfl rfl (Nat.le_of_ble_eq_true rfl) rfl ?_
  intro p e s m args below meth c A ls hx hb hr hml hts hown hlocks hK hA hP hD hS hl hKX htab
  refine lv_aload hx hb dL_give_0 (lv_at hl 4 rfl) ?_
  refine lv_iconst (v := (nI 0)) hx hb dL_give_2 (by decide) ?_
  refine lv_aload_n hx hb dL_give_3 rfl (lv_at hl 0 rfl) ?_
  refine lv_iload_n hx hb dL_give_4 rfl (lv_at hl 1 rfl) ?_
  refine lv_iload_n hx hb dL_give_5 rfl (lv_at hl 2 rfl) ?_
  refine lv_iload_n hx hb dL_give_6 rfl (lv_at hl 3 rfl) ?_
  refine gx_V (ci := 8) (q0 := 0) (cq := (RX8, TX8, 11)) (x3_X8_give l D cI cZ cF cL rx tt a tr r3 rs rz b b0 s0 r5 r6 T h v x hst hT hh hv hbad) (gHV u_691 u_692 u_693 u_2 u_694) rfl hdV_X8_give ⟨Nat.le_of_ble_eq_true rfl, Nat.le_of_ble_eq_true rfl⟩ ⟨rfl, rfl⟩ hx hb hml hown hts hK hKX rfl hA hP hD hS hl.1 ⟨Nat.le_of_ble_eq_true rfl, Nat.le_of_ble_eq_true rfl⟩ rfl rfl rfl (wr := oX cL oq fq) (pm_cnt (fun _ => by simp only [List.countP_append, List.countP_nil, fT] <;> omega)) (fun _ => by simp only [List.map_append, List.map_nil, fX_m, bX_m, sX_m, pX_m, iaX_m, r5X_m, r6X_m, fT_m, hX_m, tX_m, xX_m, sgX_m, zaX_m, fsB_a]) (rest := [.int (nI 0), .ref oq]) rfl (Nat.le_of_ble_eq_true rfl) dL_give_7 (ws2 := (fun _ : Unit => (oX cL oq fq ++ ((xX rx tt a tr r3 rs rz b b0 s0 r5 r6 ++ fX cI a (T 0 0) (T 0 1) (T 0 2) (T 0 3) (T 0 4) (T 0 5) (T 1) (T 2) (T 3) (T 4) (T 5) (T 6) (T 7) (T 8)))))) (fun _ => (pm_cnt (fun _ => by simp only [List.countP_append, List.countP_nil, fT] <;> omega))) (fun uz Hp locs q9 ce9 hP hD hS hce hcv hcl => ?_)
  refine cl_catch (E := cIAE) [(0, 12, 15, 28)] [(0, 12, 23, 15)] (0, 12, 19, 13) htab hts hown hKX (by decide) (fun z hz => by rcases List.mem_singleton.mp hz with rfl; exact ⟨by decide, cIOB, kH u_368, by decide⟩) (by decide) (by decide) (kH u_147) hce hcv hcl ?_
  refine lv_astore (lv' := [(5, .ref q9), (0, .ref rx), (1, .int (nI h)), (2, .int (nI v)), (3, .int x), (4, .ref oq)]) hx hb dL_give_19 hl (by decide) rfl (fun ls hl => ?_)
  refine lv_iconst (v := (nI 2)) hx hb dL_give_21 (by decide) ?_
  exact cl_i uz hx hb hr hlocks hP hS rfl dL_give_22
set_option maxHeartbeats 4000000 in
set_option maxRecDepth 100000 in
theorem x4_L_give (l : Launch) (D : va_G) (cI cZ cF cL : ClassId) (rx : Nat) (tt a tr : Nat → Nat) (r3 rs rz : Nat) (b : Nat → Nat) (b0 s0 r5 r6 : Nat) (T : Nat → Nat → Nat) (h v n : Nat) (hst : l.stackTraces = false) (hT : FI T) (hh : h < T 0 0) (hv : v < T 0 1) (h1n : 1 ≤ n) (hn40 : n ≤ 40) (hle : T 8 (h * 5 + v) < n) (oq : Nat) (fq : Nat → Int64) : CTL l D (tysX cI cZ cF cL) yL_give (wH yL_give cL_give 6 (some .int) [(0, 12, 15, 28), (0, 12, 19, 13), (0, 12, 23, 15)]) (rmX 7 123) [.ref rx, .int (nI h), .int (nI v), .int (nI n), .ref oq] (oX cL oq fq ++ ((xX rx tt a tr r3 rs rz b b0 s0 r5 r6 ++ fX cI a (T 0 0) (T 0 1) (T 0 2) (T 0 3) (T 0 4) (T 0 5) (T 1) (T 2) (T 3) (T 4) (T 5) (T 6) (T 7) (T 8)))) 1 6 (some (.int (nI 3))) (fun _ : Unit => (oX cL oq fq ++ ((xX rx tt a tr r3 rs rz b b0 s0 r5 r6 ++ fX cI a (T 0 0) (T 0 1) (T 0 2) (T 0 3) (T 0 4) (T 0 5) (T 1) (T 2) (T 3) (T 4) (T 5) (T 6) (T 7) (T 8))))) := by
  refine cl_in (cc := cL_give) (maxL := 6) (ret := (some .int)) (own := RL) (lv := [(0, .ref rx), (1, .int (nI h)), (2, .int (nI v)), (3, .int (nI n)), (4, .ref oq)]) (by decide +kernel) rfl rfl (Nat.le_of_ble_eq_true rfl) rfl ?_
  intro p e s m args below meth c A ls hx hb hr hml hts hown hlocks hK hA hP hD hS hl hKX htab
  refine lv_aload hx hb dL_give_0 (lv_at hl 4 rfl) ?_
  refine lv_iconst (v := (nI 0)) hx hb dL_give_2 (by decide) ?_
  refine lv_aload_n hx hb dL_give_3 rfl (lv_at hl 0 rfl) ?_
  refine lv_iload_n hx hb dL_give_4 rfl (lv_at hl 1 rfl) ?_
  refine lv_iload_n hx hb dL_give_5 rfl (lv_at hl 2 rfl) ?_
  refine lv_iload_n hx hb dL_give_6 rfl (lv_at hl 3 rfl) ?_
  refine gx_V (ci := 8) (q0 := 0) (cq := (RX8, TX8, 11)) (x4_X8_give l D cI cZ cF cL rx tt a tr r3 rs rz b b0 s0 r5 r6 T h v n hst hT hh hv h1n hn40 hle) (gHV u_691 u_692 u_693 u_2 u_694) rfl hdV_X8_give ⟨Nat.le_of_ble_eq_true rfl, Nat.le_of_ble_eq_true rfl⟩ ⟨rfl, rfl⟩ hx hb hml hown hts hK hKX rfl hA hP hD hS hl.1 ⟨Nat.le_of_ble_eq_true rfl, Nat.le_of_ble_eq_true rfl⟩ rfl rfl rfl (wr := oX cL oq fq) (pm_cnt (fun _ => by simp only [List.countP_append, List.countP_nil, fT] <;> omega)) (fun _ => by simp only [List.map_append, List.map_nil, fX_m, bX_m, sX_m, pX_m, iaX_m, r5X_m, r6X_m, fT_m, hX_m, tX_m, xX_m, sgX_m, zaX_m, fsB_a]) (rest := [.int (nI 0), .ref oq]) rfl (Nat.le_of_ble_eq_true rfl) dL_give_7 (ws2 := (fun _ : Unit => (oX cL oq fq ++ ((xX rx tt a tr r3 rs rz b b0 s0 r5 r6 ++ fX cI a (T 0 0) (T 0 1) (T 0 2) (T 0 3) (T 0 4) (T 0 5) (T 1) (T 2) (T 3) (T 4) (T 5) (T 6) (T 7) (T 8)))))) (fun _ => (pm_cnt (fun _ => by simp only [List.countP_append, List.countP_nil, fT] <;> omega))) (fun uz Hp locs q9 ce9 hP hD hS hce hcv hcl => ?_)
  refine cl_catch (E := cISE) [(0, 12, 15, 28), (0, 12, 19, 13)] [] (0, 12, 23, 15) htab hts hown hKX (by decide) (fun z hz => (List.mem_cons.mp hz).elim (fun q => by subst q; exact ⟨by decide, cIOB, kH u_368, by decide⟩) (fun hz => by rcases List.mem_singleton.mp hz with rfl; exact ⟨by decide, cIAE, kH u_147, by decide⟩)) (by decide) (by decide) (kH u_148) hce hcv hcl ?_
  refine lv_astore (lv' := [(5, .ref q9), (0, .ref rx), (1, .int (nI h)), (2, .int (nI v)), (3, .int (nI n)), (4, .ref oq)]) hx hb dL_give_23 hl (by decide) rfl (fun ls hl => ?_)
  refine lv_iconst (v := (nI 3)) hx hb dL_give_25 (by decide) ?_
  exact cl_i uz hx hb hr hlocks hP hS rfl dL_give_26
set_option maxHeartbeats 4000000 in
set_option maxRecDepth 100000 in
theorem x1_L_returnCrates (l : Launch) (D : va_G) (cI cZ cF cL : ClassId) (rx : Nat) (tt a tr : Nat → Nat) (r3 rs rz : Nat) (b : Nat → Nat) (b0 s0 r5 r6 : Nat) (T : Nat → Nat → Nat) (x y : Int32) (hst : l.stackTraces = false) (hT : FI T) (hbad : ¬ (0 ≤ x ∧ x < nI (T 0 0))) (oq : Nat) (fq : Nat → Int64) : CTL l D (tysX cI cZ cF cL) yL_returnCrates (wH yL_returnCrates cL_returnCrates 5 (some .int) [(0, 10, 13, 28), (0, 10, 17, 13), (0, 10, 21, 15)]) (rmX 8 143) [.ref rx, .int x, .int y, .ref oq] (oX cL oq fq ++ ((xX rx tt a tr r3 rs rz b b0 s0 r5 r6 ++ fX cI a (T 0 0) (T 0 1) (T 0 2) (T 0 3) (T 0 4) (T 0 5) (T 1) (T 2) (T 3) (T 4) (T 5) (T 6) (T 7) (T 8)))) 1 6 (some (.int (nI 1))) (fun _ : Unit => (oX cL oq fq ++ ((xX rx tt a tr r3 rs rz b b0 s0 r5 r6 ++ fX cI a (T 0 0) (T 0 1) (T 0 2) (T 0 3) (T 0 4) (T 0 5) (T 1) (T 2) (T 3) (T 4) (T 5) (T 6) (T 7) (T 8))))) := by
  refine cl_in (cc := cL_returnCrates) (maxL := 5) (ret := (some .int)) (own := RL) (lv := [(0, .ref rx), (1, .int x), (2, .int y), (3, .ref oq)]) (by decide +kernel) rfl rfl (Nat.le_of_ble_eq_true rfl) rfl ?_
  intro p e s m args below meth c A ls hx hb hr hml hts hown hlocks hK hA hP hD hS hl hKX htab
  refine lv_aload_n hx hb dL_returnCrates_0 rfl (lv_at hl 3 rfl) ?_
  refine lv_iconst (v := (nI 0)) hx hb dL_returnCrates_1 (by decide) ?_
  refine lv_aload_n hx hb dL_returnCrates_2 rfl (lv_at hl 0 rfl) ?_
  refine lv_iload_n hx hb dL_returnCrates_3 rfl (lv_at hl 1 rfl) ?_
  refine lv_iload_n hx hb dL_returnCrates_4 rfl (lv_at hl 2 rfl) ?_
  refine gx_V (ci := 8) (q0 := 0) (cq := (RX8, TX8, 11)) (x1_X8_returnCrates l D cI cZ cF cL rx tt a tr r3 rs rz b b0 s0 r5 r6 T x y hst hT hbad) (gHV u_680 u_681 u_682 u_2 u_683) rfl hdV_X8_returnCrates ⟨Nat.le_of_ble_eq_true rfl, Nat.le_of_ble_eq_true rfl⟩ ⟨rfl, rfl⟩ hx hb hml hown hts hK hKX rfl hA hP hD hS hl.1 ⟨Nat.le_of_ble_eq_true rfl, Nat.le_of_ble_eq_true rfl⟩ rfl rfl rfl (wr := oX cL oq fq) (pm_cnt (fun _ => by simp only [List.countP_append, List.countP_nil, fT] <;> omega)) (fun _ => by simp only [List.map_append, List.map_nil, fX_m, bX_m, sX_m, pX_m, iaX_m, r5X_m, r6X_m, fT_m, hX_m, tX_m, xX_m, sgX_m, zaX_m, fsB_a]) (rest := [.int (nI 0), .ref oq]) rfl (Nat.le_of_ble_eq_true rfl) dL_returnCrates_5 (ws2 := (fun _ : Unit => (oX cL oq fq ++ ((xX rx tt a tr r3 rs rz b b0 s0 r5 r6 ++ fX cI a (T 0 0) (T 0 1) (T 0 2) (T 0 3) (T 0 4) (T 0 5) (T 1) (T 2) (T 3) (T 4) (T 5) (T 6) (T 7) (T 8)))))) (fun _ => (pm_cnt (fun _ => by simp only [List.countP_append, List.countP_nil, fT] <;> omega))) (fun uz Hp locs q9 ce9 hP hD hS hce hcv hcl => ?_)
  refine cl_catch (E := cIOB) [] [(0, 10, 17, 13), (0, 10, 21, 15)] (0, 10, 13, 28) htab hts hown hKX (by decide) (fun z hz => nomatch hz) (by decide) (by decide) (kH u_368) hce hcv hcl ?_
  refine lv_astore (lv' := [(4, .ref q9), (0, .ref rx), (1, .int x), (2, .int y), (3, .ref oq)]) hx hb dL_returnCrates_13 hl (by decide) rfl (fun ls hl => ?_)
  refine lv_iconst (v := (nI 1)) hx hb dL_returnCrates_15 (by decide) ?_
  exact cl_i uz hx hb hr hlocks hP hS rfl dL_returnCrates_16
set_option maxHeartbeats 4000000 in
set_option maxRecDepth 100000 in
theorem x2_L_returnCrates (l : Launch) (D : va_G) (cI cZ cF cL : ClassId) (rx : Nat) (tt a tr : Nat → Nat) (r3 rs rz : Nat) (b : Nat → Nat) (b0 s0 r5 r6 : Nat) (T : Nat → Nat → Nat) (h : Nat) (x : Int32) (hst : l.stackTraces = false) (hT : FI T) (hh : h < T 0 0) (hbad : x < nI 1 ∨ nI 9 < x) (oq : Nat) (fq : Nat → Int64) : CTL l D (tysX cI cZ cF cL) yL_returnCrates (wH yL_returnCrates cL_returnCrates 5 (some .int) [(0, 10, 13, 28), (0, 10, 17, 13), (0, 10, 21, 15)]) (rmX 8 144) [.ref rx, .int (nI h), .int x, .ref oq] (oX cL oq fq ++ ((xX rx tt a tr r3 rs rz b b0 s0 r5 r6 ++ fX cI a (T 0 0) (T 0 1) (T 0 2) (T 0 3) (T 0 4) (T 0 5) (T 1) (T 2) (T 3) (T 4) (T 5) (T 6) (T 7) (T 8)))) 1 6 (some (.int (nI 2))) (fun _ : Unit => (oX cL oq fq ++ ((xX rx tt a tr r3 rs rz b b0 s0 r5 r6 ++ fX cI a (T 0 0) (T 0 1) (T 0 2) (T 0 3) (T 0 4) (T 0 5) (T 1) (T 2) (T 3) (T 4) (T 5) (T 6) (T 7) (T 8))))) := by
  refine cl_in (cc := cL_returnCrates) (maxL := 5) (ret := (some .int)) (own := RL) (lv := [(0, .ref rx), (1, .int (nI h)), (2, .int x), (3, .ref oq)]) (by decide +kernel) rfl rfl (Nat.le_of_ble_eq_true rfl) rfl ?_
  intro p e s m args below meth c A ls hx hb hr hml hts hown hlocks hK hA hP hD hS hl hKX htab
  refine lv_aload_n hx hb dL_returnCrates_0 rfl (lv_at hl 3 rfl) ?_
  refine lv_iconst (v := (nI 0)) hx hb dL_returnCrates_1 (by decide) ?_
  refine lv_aload_n hx hb dL_returnCrates_2 rfl (lv_at hl 0 rfl) ?_
  refine lv_iload_n hx hb dL_returnCrates_3 rfl (lv_at hl 1 rfl) ?_
  refine lv_iload_n hx hb dL_returnCrates_4 rfl (lv_at hl 2 rfl) ?_
  refine gx_V (ci := 8) (q0 := 0) (cq := (RX8, TX8, 11)) (x2_X8_returnCrates l D cI cZ cF cL rx tt a tr r3 rs rz b b0 s0 r5 r6 T h x hst hT hh hbad) (gHV u_680 u_681 u_682 u_2 u_683) rfl hdV_X8_returnCrates ⟨Nat.le_of_ble_eq_true rfl, Nat.le_of_ble_eq_true rfl⟩ ⟨rfl, rfl⟩ hx hb hml hown hts hK hKX rfl hA hP hD hS hl.1 ⟨Nat.le_of_ble_eq_true rfl, Nat.le_of_ble_eq_true rfl⟩ rfl rfl rfl (wr := oX cL oq fq) (pm_cnt (fun _ => by simp only [List.countP_append, List.countP_nil, fT] <;> omega)) (fun _ => by simp only [List.map_append, List.map_nil, fX_m, bX_m, sX_m, pX_m, iaX_m, r5X_m, r6X_m, fT_m, hX_m, tX_m, xX_m, sgX_m, zaX_m, fsB_a]) (rest := [.int (nI 0), .ref oq]) rfl (Nat.le_of_ble_eq_true rfl) dL_returnCrates_5 (ws2 := (fun _ : Unit => (oX cL oq fq ++ ((xX rx tt a tr r3 rs rz b b0 s0 r5 r6 ++ fX cI a (T 0 0) (T 0 1) (T 0 2) (T 0 3) (T 0 4) (T 0 5) (T 1) (T 2) (T 3) (T 4) (T 5) (T 6) (T 7) (T 8)))))) (fun _ => (pm_cnt (fun _ => by simp only [List.countP_append, List.countP_nil, fT] <;> omega))) (fun uz Hp locs q9 ce9 hP hD hS hce hcv hcl => ?_)
  refine cl_catch (E := cIAE) [(0, 10, 13, 28)] [(0, 10, 21, 15)] (0, 10, 17, 13) htab hts hown hKX (by decide) (fun z hz => by rcases List.mem_singleton.mp hz with rfl; exact ⟨by decide, cIOB, kH u_368, by decide⟩) (by decide) (by decide) (kH u_147) hce hcv hcl ?_
  refine lv_astore (lv' := [(4, .ref q9), (0, .ref rx), (1, .int (nI h)), (2, .int x), (3, .ref oq)]) hx hb dL_returnCrates_17 hl (by decide) rfl (fun ls hl => ?_)
  refine lv_iconst (v := (nI 2)) hx hb dL_returnCrates_19 (by decide) ?_
  exact cl_i uz hx hb hr hlocks hP hS rfl dL_returnCrates_20
set_option maxHeartbeats 4000000 in
set_option maxRecDepth 100000 in
theorem x3_L_returnCrates (l : Launch) (D : va_G) (cI cZ cF cL : ClassId) (rx : Nat) (tt a tr : Nat → Nat) (r3 rs rz : Nat) (b : Nat → Nat) (b0 s0 r5 r6 : Nat) (T : Nat → Nat → Nat) (h n : Nat) (hst : l.stackTraces = false) (hT : FI T) (hh : h < T 0 0) (h1n : 1 ≤ n) (hn9 : n ≤ 9) (hle : T 2 h < n) (oq : Nat) (fq : Nat → Int64) : CTL l D (tysX cI cZ cF cL) yL_returnCrates (wH yL_returnCrates cL_returnCrates 5 (some .int) [(0, 10, 13, 28), (0, 10, 17, 13), (0, 10, 21, 15)]) (rmX 7 122) [.ref rx, .int (nI h), .int (nI n), .ref oq] (oX cL oq fq ++ ((xX rx tt a tr r3 rs rz b b0 s0 r5 r6 ++ fX cI a (T 0 0) (T 0 1) (T 0 2) (T 0 3) (T 0 4) (T 0 5) (T 1) (T 2) (T 3) (T 4) (T 5) (T 6) (T 7) (T 8)))) 1 6 (some (.int (nI 3))) (fun _ : Unit => (oX cL oq fq ++ ((xX rx tt a tr r3 rs rz b b0 s0 r5 r6 ++ fX cI a (T 0 0) (T 0 1) (T 0 2) (T 0 3) (T 0 4) (T 0 5) (T 1) (T 2) (T 3) (T 4) (T 5) (T 6) (T 7) (T 8))))) := by
  refine cl_in (cc := cL_returnCrates) (maxL := 5) (ret := (some .int)) (own := RL) (lv := [(0, .ref rx), (1, .int (nI h)), (2, .int (nI n)), (3, .ref oq)]) (by decide +kernel) rfl rfl (Nat.le_of_ble_eq_true rfl) rfl ?_
  intro p e s m args below meth c A ls hx hb hr hml hts hown hlocks hK hA hP hD hS hl hKX htab
  refine lv_aload_n hx hb dL_returnCrates_0 rfl (lv_at hl 3 rfl) ?_
  refine lv_iconst (v := (nI 0)) hx hb dL_returnCrates_1 (by decide) ?_
  refine lv_aload_n hx hb dL_returnCrates_2 rfl (lv_at hl 0 rfl) ?_
  refine lv_iload_n hx hb dL_returnCrates_3 rfl (lv_at hl 1 rfl) ?_
  refine lv_iload_n hx hb dL_returnCrates_4 rfl (lv_at hl 2 rfl) ?_
  refine gx_V (ci := 8) (q0 := 0) (cq := (RX8, TX8, 11)) (x3_X8_returnCrates l D cI cZ cF cL rx tt a tr r3 rs rz b b0 s0 r5 r6 T h n hst hT hh h1n hn9 hle) (gHV u_680 u_681 u_682 u_2 u_683) rfl hdV_X8_returnCrates ⟨Nat.le_of_ble_eq_true rfl, Nat.le_of_ble_eq_true rfl⟩ ⟨rfl, rfl⟩ hx hb hml hown hts hK hKX rfl hA hP hD hS hl.1 ⟨Nat.le_of_ble_eq_true rfl, Nat.le_of_ble_eq_true rfl⟩ rfl rfl rfl (wr := oX cL oq fq) (pm_cnt (fun _ => by simp only [List.countP_append, List.countP_nil, fT] <;> omega)) (fun _ => by simp only [List.map_append, List.map_nil, fX_m, bX_m, sX_m, pX_m, iaX_m, r5X_m, r6X_m, fT_m, hX_m, tX_m, xX_m, sgX_m, zaX_m, fsB_a]) (rest := [.int (nI 0), .ref oq]) rfl (Nat.le_of_ble_eq_true rfl) dL_returnCrates_5 (ws2 := (fun _ : Unit => (oX cL oq fq ++ ((xX rx tt a tr r3 rs rz b b0 s0 r5 r6 ++ fX cI a (T 0 0) (T 0 1) (T 0 2) (T 0 3) (T 0 4) (T 0 5) (T 1) (T 2) (T 3) (T 4) (T 5) (T 6) (T 7) (T 8)))))) (fun _ => (pm_cnt (fun _ => by simp only [List.countP_append, List.countP_nil, fT] <;> omega))) (fun uz Hp locs q9 ce9 hP hD hS hce hcv hcl => ?_)
  refine cl_catch (E := cISE) [(0, 10, 13, 28), (0, 10, 17, 13)] [] (0, 10, 21, 15) htab hts hown hKX (by decide) (fun z hz => (List.mem_cons.mp hz).elim (fun q => by subst q; exact ⟨by decide, cIOB, kH u_368, by decide⟩) (fun hz => by rcases List.mem_singleton.mp hz with rfl; exact ⟨by decide, cIAE, kH u_147, by decide⟩)) (by decide) (by decide) (kH u_148) hce hcv hcl ?_
  refine lv_astore (lv' := [(4, .ref q9), (0, .ref rx), (1, .int (nI h)), (2, .int (nI n)), (3, .ref oq)]) hx hb dL_returnCrates_21 hl (by decide) rfl (fun ls hl => ?_)
  refine lv_iconst (v := (nI 3)) hx hb dL_returnCrates_23 (by decide) ?_
  exact cl_i uz hx hb hr hlocks hP hS rfl dL_returnCrates_24
set_option maxHeartbeats 4000000 in
set_option maxRecDepth 100000 in
theorem x1_L_undo (l : Launch) (D : va_G) (cI cZ cF cL : ClassId) (rx : Nat) (tt a tr : Nat → Nat) (r3 rs rz : Nat) (b : Nat → Nat) (b0 s0 r5 r6 : Nat) (ra : Nat) (pa : Nat → Nat → Nat) (nx : Nat) (hst : l.stackTraces = false) (oq : Nat) (fq : Nat → Int64) : CTL l D (tysX cI cZ cF cL) yL_undo (wH yL_undo cL_undo 3 (some .int) [(0, 8, 11, 15)]) (rmX 7 120) [.ref rx, .ref oq] (oX cL oq fq ++ ((xX rx tt a tr r3 rs rz b b0 s0 r5 r6 ++ hX cF r3 ra pa 0 nx))) 1 6 (some (.int (nI 1))) (fun _ : Unit => (oX cL oq fq ++ ((xX rx tt a tr r3 rs rz b b0 s0 r5 r6 ++ hX cF r3 ra pa 0 nx)))) := by
  refine cl_in (cc := cL_undo) (maxL := 3) (ret := (some .int)) (own := RL) (lv := [(0, .ref rx), (1, .ref oq)]) (by decide +kernel) rfl rfl (Nat.le_of_ble_eq_true rfl) rfl ?_
  intro p e s m args below meth c A ls hx hb hr hml hts hown hlocks hK hA hP hD hS hl hKX htab
  refine lv_aload_n hx hb dL_undo_0 rfl (lv_at hl 1 rfl) ?_
  refine lv_iconst (v := (nI 0)) hx hb dL_undo_1 (by decide) ?_
  refine lv_aload_n hx hb dL_undo_2 rfl (lv_at hl 0 rfl) ?_
  refine gx_V (ci := 8) (q0 := 0) (cq := (RX8, TX8, 11)) (x1_X8_undo l D cI cZ cF cL rx tt a tr r3 rs rz b b0 s0 r5 r6 ra pa nx hst) (gHV u_710 u_711 u_712 u_2 u_713) rfl hdV_X8_undo ⟨Nat.le_of_ble_eq_true rfl, Nat.le_of_ble_eq_true rfl⟩ ⟨rfl, rfl⟩ hx hb hml hown hts hK hKX rfl hA hP hD hS hl.1 ⟨Nat.le_of_ble_eq_true rfl, Nat.le_of_ble_eq_true rfl⟩ rfl rfl rfl (wr := oX cL oq fq) (pm_cnt (fun _ => by simp only [List.countP_append, List.countP_nil, fT] <;> omega)) (fun _ => by simp only [List.map_append, List.map_nil, fX_m, bX_m, sX_m, pX_m, iaX_m, r5X_m, r6X_m, fT_m, hX_m, tX_m, xX_m, sgX_m, zaX_m, fsB_a]) (rest := [.int (nI 0), .ref oq]) rfl (Nat.le_of_ble_eq_true rfl) dL_undo_3 (ws2 := (fun _ : Unit => (oX cL oq fq ++ ((xX rx tt a tr r3 rs rz b b0 s0 r5 r6 ++ hX cF r3 ra pa 0 nx))))) (fun _ => (pm_cnt (fun _ => by simp only [List.countP_append, List.countP_nil, fT] <;> omega))) (fun uz Hp locs q9 ce9 hP hD hS hce hcv hcl => ?_)
  refine cl_catch (E := cISE) [] [] (0, 8, 11, 15) htab hts hown hKX (by decide) (fun z hz => nomatch hz) (by decide) (by decide) (kH u_148) hce hcv hcl ?_
  refine lv_astore_n (lv' := [(2, .ref q9), (0, .ref rx), (1, .ref oq)]) hx hb dL_undo_11 rfl hl (by decide) rfl (fun ls hl => ?_)
  refine lv_iconst (v := (nI 1)) hx hb dL_undo_12 (by decide) ?_
  exact cl_i uz hx hb hr hlocks hP hS rfl dL_undo_13
set_option maxHeartbeats 4000000 in
set_option maxRecDepth 100000 in
theorem x1_L_runScript (l : Launch) (D : va_G) (cI cZ cF cL : ClassId) (rx : Nat) (tt a tr : Nat → Nat) (r3 rs rz : Nat) (b : Nat → Nat) (b0 s0 r5 r6 : Nat) (x : Int32) (sc : Int64) (hst : l.stackTraces = false) (hbad : x < nI 1 ∨ nI 4 < x) (oq : Nat) (fq : Nat → Int64) : CTL l D (tysX cI cZ cF cL) yL_runScript (wH yL_runScript cL_runScript 6 (some .int) [(0, 11, 14, 13)]) (rmX 8 145) [.ref rx, .int x, .long sc, .ref oq] (oX cL oq fq ++ ((xX rx tt a tr r3 rs rz b b0 s0 r5 r6))) 1 6 (some (.int (nI 1))) (fun _ : Unit => (oX cL oq fq ++ ((xX rx tt a tr r3 rs rz b b0 s0 r5 r6)))) := by
  refine cl_in (cc := cL_runScript) (maxL := 6) (ret := (some .int)) (own := RL) (lv := [(0, .ref rx), (1, .int x), (2, .long sc), (4, .ref oq)]) (by decide +kernel) rfl rfl (Nat.le_of_ble_eq_true rfl) rfl ?_
  intro p e s m args below meth c A ls hx hb hr hml hts hown hlocks hK hA hP hD hS hl hKX htab
  refine lv_aload hx hb dL_runScript_0 (lv_at hl 3 rfl) ?_
  refine lv_iconst (v := (nI 0)) hx hb dL_runScript_2 (by decide) ?_
  refine lv_aload_n hx hb dL_runScript_3 rfl (lv_at hl 0 rfl) ?_
  refine lv_iload_n hx hb dL_runScript_4 rfl (lv_at hl 1 rfl) ?_
  refine lv_lload_n hx hb dL_runScript_5 rfl (lv_at hl 2 rfl) ?_
  refine gx_V (ci := 8) (q0 := 0) (cq := (RX8, TX8, 11)) (x1_X8_runScript l D cI cZ cF cL rx tt a tr r3 rs rz b b0 s0 r5 r6 x sc hst hbad) (gHV u_804 u_805 u_806 u_2 u_807) rfl hdV_X8_runScript ⟨Nat.le_of_ble_eq_true rfl, Nat.le_of_ble_eq_true rfl⟩ ⟨rfl, rfl⟩ hx hb hml hown hts hK hKX rfl hA hP hD hS hl.1 ⟨Nat.le_of_ble_eq_true rfl, Nat.le_of_ble_eq_true rfl⟩ rfl rfl rfl (wr := oX cL oq fq) (pm_cnt (fun _ => by simp only [List.countP_append, List.countP_nil, fT] <;> omega)) (fun _ => by simp only [List.map_append, List.map_nil, fX_m, bX_m, sX_m, pX_m, iaX_m, r5X_m, r6X_m, fT_m, hX_m, tX_m, xX_m, sgX_m, zaX_m, fsB_a]) (rest := [.int (nI 0), .ref oq]) rfl (Nat.le_of_ble_eq_true rfl) dL_runScript_6 (ws2 := (fun _ : Unit => (oX cL oq fq ++ ((xX rx tt a tr r3 rs rz b b0 s0 r5 r6))))) (fun _ => (pm_cnt (fun _ => by simp only [List.countP_append, List.countP_nil, fT] <;> omega))) (fun uz Hp locs q9 ce9 hP hD hS hce hcv hcl => ?_)
  refine cl_catch (E := cIAE) [] [] (0, 11, 14, 13) htab hts hown hKX (by decide) (fun z hz => nomatch hz) (by decide) (by decide) (kH u_147) hce hcv hcl ?_
  refine lv_astore (lv' := [(5, .ref q9), (0, .ref rx), (1, .int x), (2, .long sc), (4, .ref oq)]) hx hb dL_runScript_14 hl (by decide) rfl (fun ls hl => ?_)
  refine lv_iconst (v := (nI 1)) hx hb dL_runScript_16 (by decide) ?_
  exact cl_i uz hx hb hr hlocks hP hS rfl dL_runScript_17
set_option maxHeartbeats 4000000 in
set_option maxRecDepth 100000 in
theorem x2_L_runScript (l : Launch) (D : va_G) (cI cZ cF cL : ClassId) (rx : Nat) (tt a tr : Nat → Nat) (r3 rs rz : Nat) (b : Nat → Nat) (b0 s0 r5 r6 : Nat) (n : Nat) (sc : Int64) (hst : l.stackTraces = false) (h1n : 1 ≤ n) (hn4 : n ≤ 4) (hbad : sc < 0) (oq : Nat) (fq : Nat → Int64) : CTL l D (tysX cI cZ cF cL) yL_runScript (wH yL_runScript cL_runScript 6 (some .int) [(0, 11, 14, 13)]) (rmX 7 123) [.ref rx, .int (nI n), .long sc, .ref oq] (oX cL oq fq ++ ((xX rx tt a tr r3 rs rz b b0 s0 r5 r6))) 1 6 (some (.int (nI 1))) (fun _ : Unit => (oX cL oq fq ++ ((xX rx tt a tr r3 rs rz b b0 s0 r5 r6)))) := by
  refine cl_in (cc := cL_runScript) (maxL := 6) (ret := (some .int)) (own := RL) (lv := [(0, .ref rx), (1, .int (nI n)), (2, .long sc), (4, .ref oq)]) (by decide +kernel) rfl rfl (Nat.le_of_ble_eq_true rfl) rfl ?_
  intro p e s m args below meth c A ls hx hb hr hml hts hown hlocks hK hA hP hD hS hl hKX htab
  refine lv_aload hx hb dL_runScript_0 (lv_at hl 3 rfl) ?_
  refine lv_iconst (v := (nI 0)) hx hb dL_runScript_2 (by decide) ?_
  refine lv_aload_n hx hb dL_runScript_3 rfl (lv_at hl 0 rfl) ?_
  refine lv_iload_n hx hb dL_runScript_4 rfl (lv_at hl 1 rfl) ?_
  refine lv_lload_n hx hb dL_runScript_5 rfl (lv_at hl 2 rfl) ?_
  refine gx_V (ci := 8) (q0 := 0) (cq := (RX8, TX8, 11)) (x2_X8_runScript l D cI cZ cF cL rx tt a tr r3 rs rz b b0 s0 r5 r6 n sc hst h1n hn4 hbad) (gHV u_804 u_805 u_806 u_2 u_807) rfl hdV_X8_runScript ⟨Nat.le_of_ble_eq_true rfl, Nat.le_of_ble_eq_true rfl⟩ ⟨rfl, rfl⟩ hx hb hml hown hts hK hKX rfl hA hP hD hS hl.1 ⟨Nat.le_of_ble_eq_true rfl, Nat.le_of_ble_eq_true rfl⟩ rfl rfl rfl (wr := oX cL oq fq) (pm_cnt (fun _ => by simp only [List.countP_append, List.countP_nil, fT] <;> omega)) (fun _ => by simp only [List.map_append, List.map_nil, fX_m, bX_m, sX_m, pX_m, iaX_m, r5X_m, r6X_m, fT_m, hX_m, tX_m, xX_m, sgX_m, zaX_m, fsB_a]) (rest := [.int (nI 0), .ref oq]) rfl (Nat.le_of_ble_eq_true rfl) dL_runScript_6 (ws2 := (fun _ : Unit => (oX cL oq fq ++ ((xX rx tt a tr r3 rs rz b b0 s0 r5 r6))))) (fun _ => (pm_cnt (fun _ => by simp only [List.countP_append, List.countP_nil, fT] <;> omega))) (fun uz Hp locs q9 ce9 hP hD hS hce hcv hcl => ?_)
  refine cl_catch (E := cIAE) [] [] (0, 11, 14, 13) htab hts hown hKX (by decide) (fun z hz => nomatch hz) (by decide) (by decide) (kH u_147) hce hcv hcl ?_
  refine lv_astore (lv' := [(5, .ref q9), (0, .ref rx), (1, .int (nI n)), (2, .long sc), (4, .ref oq)]) hx hb dL_runScript_14 hl (by decide) rfl (fun ls hl => ?_)
  refine lv_iconst (v := (nI 1)) hx hb dL_runScript_16 (by decide) ?_
  exact cl_i uz hx hb hr hlocks hP hS rfl dL_runScript_17
set_option maxHeartbeats 4000000 in
set_option maxRecDepth 100000 in
theorem x3_L_runScript (l : Launch) (D : va_G) (cI cZ cF cL : ClassId) (rx : Nat) (tt a tr : Nat → Nat) (r3 rs rz : Nat) (b : Nat → Nat) (b0 s0 r5 r6 : Nat) (n S : Nat) (hst : l.stackTraces = false) (h1n : 1 ≤ n) (hn4 : n ≤ 4) (hS0 : S < 2 ^ 63) (hz : 0 < S / 10000 ^ n) (oq : Nat) (fq : Nat → Int64) : CTL l D (tysX cI cZ cF cL) yL_runScript (wH yL_runScript cL_runScript 6 (some .int) [(0, 11, 14, 13)]) (rmX 7 123) [.ref rx, .int (nI n), .long (lN S), .ref oq] (oX cL oq fq ++ ((xX rx tt a tr r3 rs rz b b0 s0 r5 r6))) 1 6 (some (.int (nI 1))) (fun _ : Unit => (oX cL oq fq ++ ((xX rx tt a tr r3 rs rz b b0 s0 r5 r6)))) := by
  refine cl_in (cc := cL_runScript) (maxL := 6) (ret := (some .int)) (own := RL) (lv := [(0, .ref rx), (1, .int (nI n)), (2, .long (lN S)), (4, .ref oq)]) (by decide +kernel) rfl rfl (Nat.le_of_ble_eq_true rfl) rfl ?_
  intro p e s m args below meth c A ls hx hb hr hml hts hown hlocks hK hA hP hD hS hl hKX htab
  refine lv_aload hx hb dL_runScript_0 (lv_at hl 3 rfl) ?_
  refine lv_iconst (v := (nI 0)) hx hb dL_runScript_2 (by decide) ?_
  refine lv_aload_n hx hb dL_runScript_3 rfl (lv_at hl 0 rfl) ?_
  refine lv_iload_n hx hb dL_runScript_4 rfl (lv_at hl 1 rfl) ?_
  refine lv_lload_n hx hb dL_runScript_5 rfl (lv_at hl 2 rfl) ?_
  refine gx_V (ci := 8) (q0 := 0) (cq := (RX8, TX8, 11)) (x3_X8_runScript l D cI cZ cF cL rx tt a tr r3 rs rz b b0 s0 r5 r6 n S hst h1n hn4 hS0 hz) (gHV u_804 u_805 u_806 u_2 u_807) rfl hdV_X8_runScript ⟨Nat.le_of_ble_eq_true rfl, Nat.le_of_ble_eq_true rfl⟩ ⟨rfl, rfl⟩ hx hb hml hown hts hK hKX rfl hA hP hD hS hl.1 ⟨Nat.le_of_ble_eq_true rfl, Nat.le_of_ble_eq_true rfl⟩ rfl rfl rfl (wr := oX cL oq fq) (pm_cnt (fun _ => by simp only [List.countP_append, List.countP_nil, fT] <;> omega)) (fun _ => by simp only [List.map_append, List.map_nil, fX_m, bX_m, sX_m, pX_m, iaX_m, r5X_m, r6X_m, fT_m, hX_m, tX_m, xX_m, sgX_m, zaX_m, fsB_a]) (rest := [.int (nI 0), .ref oq]) rfl (Nat.le_of_ble_eq_true rfl) dL_runScript_6 (ws2 := (fun _ : Unit => (oX cL oq fq ++ ((xX rx tt a tr r3 rs rz b b0 s0 r5 r6))))) (fun _ => (pm_cnt (fun _ => by simp only [List.countP_append, List.countP_nil, fT] <;> omega))) (fun uz Hp locs q9 ce9 hP hD hS hce hcv hcl => ?_)
  refine cl_catch (E := cIAE) [] [] (0, 11, 14, 13) htab hts hown hKX (by decide) (fun z hz => nomatch hz) (by decide) (by decide) (kH u_147) hce hcv hcl ?_
  refine lv_astore (lv' := [(5, .ref q9), (0, .ref rx), (1, .int (nI n)), (2, .long (lN S)), (4, .ref oq)]) hx hb dL_runScript_14 hl (by decide) rfl (fun ls hl => ?_)
  refine lv_iconst (v := (nI 1)) hx hb dL_runScript_16 (by decide) ?_
  exact cl_i uz hx hb hr hlocks hP hS rfl dL_runScript_17
set_option maxHeartbeats 4000000 in
set_option maxRecDepth 100000 in
theorem x1_L_simulate (l : Launch) (D : va_G) (cI cZ cF cL : ClassId) (rx : Nat) (tt a tr : Nat → Nat) (r3 rs rz : Nat) (b : Nat → Nat) (b0 s0 r5 r6 : Nat) (x : Int32) (sd : Int64) (hst : l.stackTraces = false) (hbad : x < nI 1 ∨ nI 30 < x) (oq : Nat) (fq : Nat → Int64) : CTL l D (tysX cI cZ cF cL) yL_simulate (wH yL_simulate cL_simulate 6 (some .int) [(0, 11, 14, 13)]) (rmX 8 145) [.ref rx, .long sd, .int x, .ref oq] (oX cL oq fq ++ ((xX rx tt a tr r3 rs rz b b0 s0 r5 r6))) 1 6 (some (.int (nI 1))) (fun _ : Unit => (oX cL oq fq ++ ((xX rx tt a tr r3 rs rz b b0 s0 r5 r6)))) := by
  refine cl_in (cc := cL_simulate) (maxL := 6) (ret := (some .int)) (own := RL) (lv := [(0, .ref rx), (1, .long sd), (3, .int x), (4, .ref oq)]) (by decide +kernel) rfl rfl (Nat.le_of_ble_eq_true rfl) rfl ?_
  intro p e s m args below meth c A ls hx hb hr hml hts hown hlocks hK hA hP hD hS hl hKX htab
  refine lv_aload hx hb dL_simulate_0 (lv_at hl 3 rfl) ?_
  refine lv_iconst (v := (nI 0)) hx hb dL_simulate_2 (by decide) ?_
  refine lv_aload_n hx hb dL_simulate_3 rfl (lv_at hl 0 rfl) ?_
  refine lv_lload_n hx hb dL_simulate_4 rfl (lv_at hl 1 rfl) ?_
  refine lv_iload_n hx hb dL_simulate_5 rfl (lv_at hl 2 rfl) ?_
  refine gx_V (ci := 8) (q0 := 0) (cq := (RX8, TX8, 11)) (x1_X8_simulate l D cI cZ cF cL rx tt a tr r3 rs rz b b0 s0 r5 r6 x sd hst hbad) (gHV u_873 u_874 u_875 u_2 u_876) rfl hdV_X8_simulate ⟨Nat.le_of_ble_eq_true rfl, Nat.le_of_ble_eq_true rfl⟩ ⟨rfl, rfl⟩ hx hb hml hown hts hK hKX rfl hA hP hD hS hl.1 ⟨Nat.le_of_ble_eq_true rfl, Nat.le_of_ble_eq_true rfl⟩ rfl rfl rfl (wr := oX cL oq fq) (pm_cnt (fun _ => by simp only [List.countP_append, List.countP_nil, fT] <;> omega)) (fun _ => by simp only [List.map_append, List.map_nil, fX_m, bX_m, sX_m, pX_m, iaX_m, r5X_m, r6X_m, fT_m, hX_m, tX_m, xX_m, sgX_m, zaX_m, fsB_a]) (rest := [.int (nI 0), .ref oq]) rfl (Nat.le_of_ble_eq_true rfl) dL_simulate_6 (ws2 := (fun _ : Unit => (oX cL oq fq ++ ((xX rx tt a tr r3 rs rz b b0 s0 r5 r6))))) (fun _ => (pm_cnt (fun _ => by simp only [List.countP_append, List.countP_nil, fT] <;> omega))) (fun uz Hp locs q9 ce9 hP hD hS hce hcv hcl => ?_)
  refine cl_catch (E := cIAE) [] [] (0, 11, 14, 13) htab hts hown hKX (by decide) (fun z hz => nomatch hz) (by decide) (by decide) (kH u_147) hce hcv hcl ?_
  refine lv_astore (lv' := [(5, .ref q9), (0, .ref rx), (1, .long sd), (3, .int x), (4, .ref oq)]) hx hb dL_simulate_14 hl (by decide) rfl (fun ls hl => ?_)
  refine lv_iconst (v := (nI 1)) hx hb dL_simulate_16 (by decide) ?_
  exact cl_i uz hx hb hr hlocks hP hS rfl dL_simulate_17
set_option maxHeartbeats 4000000 in
set_option maxRecDepth 100000 in
theorem x1_L_save (l : Launch) (D : va_G) (cI cZ cF cL : ClassId) (rx : Nat) (tt a tr : Nat → Nat) (r3 rs rz : Nat) (b : Nat → Nat) (b0 s0 r5 r6 : Nat) (x : Int32) (hst : l.stackTraces = false) (hbad : ¬ (0 ≤ x ∧ x < nI 2)) (oq : Nat) (fq : Nat → Int64) : CTL l D (tysX cI cZ cF cL) yL_save (wH yL_save cL_save 4 (some .int) [(0, 9, 12, 28)]) (rmX 8 141) [.ref rx, .int x, .ref oq] (oX cL oq fq ++ ((xX rx tt a tr r3 rs rz b b0 s0 r5 r6))) 1 6 (some (.int (nI 1))) (fun _ : Unit => (oX cL oq fq ++ ((xX rx tt a tr r3 rs rz b b0 s0 r5 r6)))) := by
  refine cl_in (cc := cL_save) (maxL := 4) (ret := (some .int)) (own := RL) (lv := [(0, .ref rx), (1, .int x), (2, .ref oq)]) (by decide +kernel) rfl rfl (Nat.le_of_ble_eq_true rfl) rfl ?_
  intro p e s m args below meth c A ls hx hb hr hml hts hown hlocks hK hA hP hD hS hl hKX htab
  refine lv_aload_n hx hb dL_save_0 rfl (lv_at hl 2 rfl) ?_
  refine lv_iconst (v := (nI 0)) hx hb dL_save_1 (by decide) ?_
  refine lv_aload_n hx hb dL_save_2 rfl (lv_at hl 0 rfl) ?_
  refine lv_iload_n hx hb dL_save_3 rfl (lv_at hl 1 rfl) ?_
  refine gx_V (ci := 8) (q0 := 0) (cq := (RX8, TX8, 11)) (x1_X8_save l D cI cZ cF cL rx tt a tr r3 rs rz b b0 s0 r5 r6 x hst hbad) (gHV u_924 u_925 u_926 u_2 u_927) rfl hdV_X8_save ⟨Nat.le_of_ble_eq_true rfl, Nat.le_of_ble_eq_true rfl⟩ ⟨rfl, rfl⟩ hx hb hml hown hts hK hKX rfl hA hP hD hS hl.1 ⟨Nat.le_of_ble_eq_true rfl, Nat.le_of_ble_eq_true rfl⟩ rfl rfl rfl (wr := oX cL oq fq) (pm_cnt (fun _ => by simp only [List.countP_append, List.countP_nil, fT] <;> omega)) (fun _ => by simp only [List.map_append, List.map_nil, fX_m, bX_m, sX_m, pX_m, iaX_m, r5X_m, r6X_m, fT_m, hX_m, tX_m, xX_m, sgX_m, zaX_m, fsB_a]) (rest := [.int (nI 0), .ref oq]) rfl (Nat.le_of_ble_eq_true rfl) dL_save_4 (ws2 := (fun _ : Unit => (oX cL oq fq ++ ((xX rx tt a tr r3 rs rz b b0 s0 r5 r6))))) (fun _ => (pm_cnt (fun _ => by simp only [List.countP_append, List.countP_nil, fT] <;> omega))) (fun uz Hp locs q9 ce9 hP hD hS hce hcv hcl => ?_)
  refine cl_catch (E := cIOB) [] [] (0, 9, 12, 28) htab hts hown hKX (by decide) (fun z hz => nomatch hz) (by decide) (by decide) (kH u_368) hce hcv hcl ?_
  refine lv_astore_n (lv' := [(3, .ref q9), (0, .ref rx), (1, .int x), (2, .ref oq)]) hx hb dL_save_12 rfl hl (by decide) rfl (fun ls hl => ?_)
  refine lv_iconst (v := (nI 1)) hx hb dL_save_13 (by decide) ?_
  exact cl_i uz hx hb hr hlocks hP hS rfl dL_save_14
set_option maxHeartbeats 4000000 in
set_option maxRecDepth 100000 in
theorem x1_L_restore (l : Launch) (D : va_G) (cI cZ cF cL : ClassId) (rx : Nat) (tt a tr : Nat → Nat) (r3 rs rz : Nat) (b : Nat → Nat) (b0 s0 r5 r6 : Nat) (x : Int32) (hst : l.stackTraces = false) (hbad : ¬ (0 ≤ x ∧ x < nI 2)) (oq : Nat) (fq : Nat → Int64) : CTL l D (tysX cI cZ cF cL) yL_restore (wH yL_restore cL_restore 4 (some .int) [(0, 9, 12, 28), (0, 9, 15, 15)]) (rmX 8 141) [.ref rx, .int x, .ref oq] (oX cL oq fq ++ ((xX rx tt a tr r3 rs rz b b0 s0 r5 r6))) 1 6 (some (.int (nI 1))) (fun _ : Unit => (oX cL oq fq ++ ((xX rx tt a tr r3 rs rz b b0 s0 r5 r6)))) := by
  refine cl_in (cc := cL_restore) (maxL := 4) (ret := (some .int)) (own := RL) (lv := [(0, .ref rx), (1, .int x), (2, .ref oq)]) (by decide +kernel) rfl rfl (Nat.le_of_ble_eq_true rfl) rfl ?_
  intro p e s m args below meth c A ls hx hb hr hml hts hown hlocks hK hA hP hD hS hl hKX htab
  refine lv_aload_n hx hb dL_restore_0 rfl (lv_at hl 2 rfl) ?_
  refine lv_iconst (v := (nI 0)) hx hb dL_restore_1 (by decide) ?_
  refine lv_aload_n hx hb dL_restore_2 rfl (lv_at hl 0 rfl) ?_
  refine lv_iload_n hx hb dL_restore_3 rfl (lv_at hl 1 rfl) ?_
  refine gx_V (ci := 8) (q0 := 0) (cq := (RX8, TX8, 11)) (x1_X8_restore l D cI cZ cF cL rx tt a tr r3 rs rz b b0 s0 r5 r6 x hst hbad) (gHV u_938 u_939 u_940 u_2 u_941) rfl hdV_X8_restore ⟨Nat.le_of_ble_eq_true rfl, Nat.le_of_ble_eq_true rfl⟩ ⟨rfl, rfl⟩ hx hb hml hown hts hK hKX rfl hA hP hD hS hl.1 ⟨Nat.le_of_ble_eq_true rfl, Nat.le_of_ble_eq_true rfl⟩ rfl rfl rfl (wr := oX cL oq fq) (pm_cnt (fun _ => by simp only [List.countP_append, List.countP_nil, fT] <;> omega)) (fun _ => by simp only [List.map_append, List.map_nil, fX_m, bX_m, sX_m, pX_m, iaX_m, r5X_m, r6X_m, fT_m, hX_m, tX_m, xX_m, sgX_m, zaX_m, fsB_a]) (rest := [.int (nI 0), .ref oq]) rfl (Nat.le_of_ble_eq_true rfl) dL_restore_4 (ws2 := (fun _ : Unit => (oX cL oq fq ++ ((xX rx tt a tr r3 rs rz b b0 s0 r5 r6))))) (fun _ => (pm_cnt (fun _ => by simp only [List.countP_append, List.countP_nil, fT] <;> omega))) (fun uz Hp locs q9 ce9 hP hD hS hce hcv hcl => ?_)
  refine cl_catch (E := cIOB) [] [(0, 9, 15, 15)] (0, 9, 12, 28) htab hts hown hKX (by decide) (fun z hz => nomatch hz) (by decide) (by decide) (kH u_368) hce hcv hcl ?_
  refine lv_astore_n (lv' := [(3, .ref q9), (0, .ref rx), (1, .int x), (2, .ref oq)]) hx hb dL_restore_12 rfl hl (by decide) rfl (fun ls hl => ?_)
  refine lv_iconst (v := (nI 1)) hx hb dL_restore_13 (by decide) ?_
  exact cl_i uz hx hb hr hlocks hP hS rfl dL_restore_14
set_option maxHeartbeats 4000000 in
set_option maxRecDepth 100000 in
theorem x2_L_restore (l : Launch) (D : va_G) (cI cZ cF cL : ClassId) (rx : Nat) (tt a tr : Nat → Nat) (r3 rs rz : Nat) (b : Nat → Nat) (b0 s0 r5 r6 : Nat) (zf : Nat → Nat) (sl : Nat) (hst : l.stackTraces = false) (hs : sl < 2) (hz : zf sl = 0) (oq : Nat) (fq : Nat → Int64) : CTL l D (tysX cI cZ cF cL) yL_restore (wH yL_restore cL_restore 4 (some .int) [(0, 9, 12, 28), (0, 9, 15, 15)]) (rmX 7 121) [.ref rx, .int (nI sl), .ref oq] (oX cL oq fq ++ ((xX rx tt a tr r3 rs rz b b0 s0 r5 r6 ++ zaX cZ rz 2 zf))) 1 6 (some (.int (nI 2))) (fun _ : Unit => (oX cL oq fq ++ ((xX rx tt a tr r3 rs rz b b0 s0 r5 r6 ++ zaX cZ rz 2 zf)))) := by
  refine cl_in (cc := cL_restore) (maxL := 4) (ret := (some .int)) (own := RL) (lv := [(0, .ref rx), (1, .int (nI sl)), (2, .ref oq)]) (by decide +kernel) rfl rfl (Nat.le_of_ble_eq_true rfl) rfl ?_
  intro p e s m args below meth c A ls hx hb hr hml hts hown hlocks hK hA hP hD hS hl hKX htab
  refine lv_aload_n hx hb dL_restore_0 rfl (lv_at hl 2 rfl) ?_
  refine lv_iconst (v := (nI 0)) hx hb dL_restore_1 (by decide) ?_
  refine lv_aload_n hx hb dL_restore_2 rfl (lv_at hl 0 rfl) ?_
  refine lv_iload_n hx hb dL_restore_3 rfl (lv_at hl 1 rfl) ?_
  refine gx_V (ci := 8) (q0 := 0) (cq := (RX8, TX8, 11)) (x2_X8_restore l D cI cZ cF cL rx tt a tr r3 rs rz b b0 s0 r5 r6 zf sl hst hs hz) (gHV u_938 u_939 u_940 u_2 u_941) rfl hdV_X8_restore ⟨Nat.le_of_ble_eq_true rfl, Nat.le_of_ble_eq_true rfl⟩ ⟨rfl, rfl⟩ hx hb hml hown hts hK hKX rfl hA hP hD hS hl.1 ⟨Nat.le_of_ble_eq_true rfl, Nat.le_of_ble_eq_true rfl⟩ rfl rfl rfl (wr := oX cL oq fq) (pm_cnt (fun _ => by simp only [List.countP_append, List.countP_nil, fT] <;> omega)) (fun _ => by simp only [List.map_append, List.map_nil, fX_m, bX_m, sX_m, pX_m, iaX_m, r5X_m, r6X_m, fT_m, hX_m, tX_m, xX_m, sgX_m, zaX_m, fsB_a]) (rest := [.int (nI 0), .ref oq]) rfl (Nat.le_of_ble_eq_true rfl) dL_restore_4 (ws2 := (fun _ : Unit => (oX cL oq fq ++ ((xX rx tt a tr r3 rs rz b b0 s0 r5 r6 ++ zaX cZ rz 2 zf))))) (fun _ => (pm_cnt (fun _ => by simp only [List.countP_append, List.countP_nil, fT] <;> omega))) (fun uz Hp locs q9 ce9 hP hD hS hce hcv hcl => ?_)
  refine cl_catch (E := cISE) [(0, 9, 12, 28)] [] (0, 9, 15, 15) htab hts hown hKX (by decide) (fun z hz => by rcases List.mem_singleton.mp hz with rfl; exact ⟨by decide, cIOB, kH u_368, by decide⟩) (by decide) (by decide) (kH u_148) hce hcv hcl ?_
  refine lv_astore_n (lv' := [(3, .ref q9), (0, .ref rx), (1, .int (nI sl)), (2, .ref oq)]) hx hb dL_restore_15 rfl hl (by decide) rfl (fun ls hl => ?_)
  refine lv_iconst (v := (nI 2)) hx hb dL_restore_16 (by decide) ?_
  exact cl_i uz hx hb hr hlocks hP hS rfl dL_restore_17
