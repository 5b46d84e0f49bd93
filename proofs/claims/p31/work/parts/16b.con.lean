/-- an object's cells: its own, and those that it made -/
def adr (o : Nat) (u : Nat → Nat) : Nat → Nat := fun k => match k with
  | 0 => o
  | k + 1 => u (k + 1)
def ad8 (o q1 q2 q3 q4 q5 q6 q7 q8 : Nat) : Nat → Nat := fun k => match k with
  | 0 => o
  | 1 => q1
  | 2 => q2
  | 3 => q3
  | 4 => q4
  | 5 => q5
  | 6 => q6
  | 7 => q7
  | _ => q8
/-- a new farm -/
def T0 : Nat → Nat → Nat := mkT 0 0 0 0 0 0 (fun _ => 0) (fun _ => 0) (fun _ => 0) (fun _ => 0) (fun _ => 0) (fun _ => 0) (fun _ => 5) (fun _ => 0)
theorem pfF_n {p : Program} {l : Launch} {e : Env} {R : Room} {s : State} {m : MethodId} {args : Array Value} {below : List Frame} {meth : Method} {c : Code} {H : Heap} {locs : List Loc} {cells slots pc : Nat} {Q : State → Prop} {D : va_G} {tys : List (ClassId × FieldType)} {A : Nat → Prop} {H0 : Heap} {cc : ByteArray} {Ts : List Cond} {own : String} {ls : Array Slot} {ws : va_W} {index : Nat} {a q0 : Nat} {ref C : String} {T : u_T} {N ci : Nat} {fs : List Value} {rest : List Value} {ws2 : va_W} (hx : p.tables.exec = Jvm.exec) (hb : c.code = cc) (hts : ∀ w ∈ Ts, w.before args s = true) (hin : ∀ w ∈ u_ws C T N, w ∈ Ts) (ty0 : Nat → FieldType) (hty : ∀ k, k < N → parseFieldDescriptor (T k).2.2.1 = some (ty0 k)) (hnm : ∀ a, a < N → ∀ b, b < N → a ≠ b → (T a).2.1 ≠ (T b).2.1) (hown : s.vm.findClass own = some m.cls) (hK : KK D tys s) (hP : va_P D vwCl ws H) (hD : va_D A ws) (hS0 : va_S A H0 H locs) (he : ws[q0]? = some (a, .inr (ci, fs))) (hc : vwCl[ci]? = some (C, T, N)) (k : Nat) (hk : k < N) (hlink : Cond.fieldLink own index ref (T k).2.1 (T k).2.2.1 ∈ Ts) (href : ref = (T k).1) (hfin : (T k).2.2.2 = true) (hin2 : meth.name = "<init>") (hdecl : (T k).1 = own) {ty : FieldType} {v : Value} (hd : parseFieldDescriptor (T k).2.2.1 = some ty) (hn : narrow ty v = v) (hfit : fits ty v = true) (hl : k < fs.length) (hdg : decode cc pc = .ok (.putfield index, 3)) (h2 : ws.set q0 (a, .inr (ci, fs.set k v)) = ws2)
    (kk : ∀ (H1 : Heap) (locs1 : List Loc), va_P D vwCl ws2 H1 → va_D A ws2 → va_S A H0 H1 locs1 → W p l e R s m args below meth c H1 locs1 cells slots Q (F0 m (pc + 3) ls rest)) : W p l e R s m args below meth c H locs cells slots Q (F0 m pc ls (v :: .ref a :: rest)) := by
  subst h2
  subst href
  exact va_putF hx hb hts hin ty0 hty hnm hown hK.1 hP hD hS0 q0 he hc k hk (hts _ hlink) (fun _ h => h) hfin hin2 hdecl hd hn hfit hl hdg kk
set_option maxRecDepth 20000 in
theorem u_101 : Cond.methodLink RX0 3 objectInit ∈ wsL_law := List.mem_of_getElem? (i := 96) (by decide +kernel)
set_option maxRecDepth 20000 in
theorem u_12 : Cond.instanceMethod objectInit ∈ wsL_law := List.mem_of_getElem? (i := 7) (by decide +kernel)
set_option maxRecDepth 20000 in
theorem u_13 : Cond.code objectInit ⟨#[0xb1]⟩ 1 none ∈ wsL_law := List.mem_of_getElem? (i := 8) (by decide +kernel)
set_option maxHeartbeats 4000000 in
set_option maxRecDepth 100000 in
theorem n_X0_init (l : Launch) (D : va_G) (cI cZ cF cL : ClassId) (o : Nat) : CTN l D (tysX cI cZ cF cL) yX0_init (wA yX0_init cX0_init 1 none) (rmN 2 0 0 60) [.ref o] ([(o, .inr (0, [.int (nI 0), .int (nI 0)]))] : va_W) (fun u : Unit => bX o (nI 0) (nI 0)) := by
  refine cn_in (cc := cX0_init) (maxL := 1) (own := RX0) (lv := [(0, .ref o)]) (by decide +kernel) rfl rfl rfl (Nat.le_of_ble_eq_true rfl) rfl ?_
  intro p e s m args below meth c A ls hx hb hr hml hts hown hlocks hK hA hP hD hS hl hin hO
  refine lv_aload_n hx hb dX0_init_0 rfl (lv_at hl 0 rfl) ?_
  refine W.objInit hx hb hown (hts _ (kU u_101)) (hts _ (kU u_12)) (hts _ (kU u_13)) rfl (by rw [hml]; exact hl.1) rfl dX0_init_1 (Nat.le_of_ble_eq_true rfl) (Nat.le_of_ble_eq_true rfl) ?_
  refine W.eq (g2 := F0 m 4 ls []) rfl ?_
  exact cn_v () hx hb hr hlocks hP hD hS (Nat.le_of_ble_eq_true rfl) (Nat.le_of_ble_eq_true rfl) dX0_init_4
set_option maxRecDepth 20000 in
theorem u_104 : Cond.methodLink RX7 3 objectInit ∈ wsL_law := List.mem_of_getElem? (i := 99) (by decide +kernel)
set_option maxHeartbeats 4000000 in
set_option maxRecDepth 100000 in
theorem n_X7_init (l : Launch) (D : va_G) (cI cZ cF cL : ClassId) (o : Nat) : CTN l D (tysX cI cZ cF cL) yX7_init (wA yX7_init cX7_init 1 none) (rmN 2 0 0 60) [.ref o] ([(o, .inr (7, [.int (nI 0), .int (nI 0), .int (nI 0), .int (nI 0), .int (nI 0)]))] : va_W) (fun u : Unit => sX o 0 0 0 0 0) := by
  refine cn_in (cc := cX7_init) (maxL := 1) (own := RX7) (lv := [(0, .ref o)]) (by decide +kernel) rfl rfl rfl (Nat.le_of_ble_eq_true rfl) rfl ?_
  intro p e s m args below meth c A ls hx hb hr hml hts hown hlocks hK hA hP hD hS hl hin hO
  refine lv_aload_n hx hb dX7_init_0 rfl (lv_at hl 0 rfl) ?_
  refine W.objInit hx hb hown (hts _ (kU u_104)) (hts _ (kU u_12)) (hts _ (kU u_13)) rfl (by rw [hml]; exact hl.1) rfl dX7_init_1 (Nat.le_of_ble_eq_true rfl) (Nat.le_of_ble_eq_true rfl) ?_
  refine W.eq (g2 := F0 m 4 ls []) rfl ?_
  exact cn_v () hx hb hr hlocks hP hD hS (Nat.le_of_ble_eq_true rfl) (Nat.le_of_ble_eq_true rfl) dX7_init_4
set_option maxRecDepth 20000 in
theorem u_59 : Cond.methodLink RX1 3 objectInit ∈ wsL_law := List.mem_of_getElem? (i := 54) (by decide +kernel)
set_option maxRecDepth 20000 in
theorem u_54 : Cond.arrayClass .int ∈ wsL_law := List.mem_of_getElem? (i := 49) (by decide +kernel)
set_option maxRecDepth 20000 in
theorem u_68 : Cond.methodLink RX1 36 yX1_clear ∈ wsL_law := List.mem_of_getElem? (i := 63) (by decide +kernel)
set_option maxHeartbeats 4000000 in
set_option maxRecDepth 100000 in
theorem n_X1_init (l : Launch) (D : va_G) (cI cZ cF cL : ClassId) (o : Nat) : CTN l D (tysX cI cZ cF cL) yX1_init (wA yX1_init cX1_init 1 none) (rmN 2 8 94 60) [.ref o] ([(o, .inr (1, [.int (nI 0), .int (nI 0), .int (nI 0), .int (nI 0), .int (nI 0), .int (nI 0), .null, .null, .null, .null, .null, .null, .null, .null]))] : va_W) (fun u : Nat → Nat => fT cI (adr o u) T0) := by
  refine cn_in (cc := cX1_init) (maxL := 1) (own := RX1) (lv := [(0, .ref o)]) (by decide +kernel) rfl rfl rfl (Nat.le_of_ble_eq_true rfl) rfl ?_
  intro p e s m args below meth c A ls hx hb hr hml hts hown hlocks hK hA hP hD hS hl hin hO
  refine lv_aload_n hx hb dX1_init_0 rfl (lv_at hl 0 rfl) ?_
  refine W.objInit hx hb hown (hts _ (kU u_59)) (hts _ (kU u_12)) (hts _ (kU u_13)) rfl (by rw [hml]; exact hl.1) rfl dX1_init_1 (Nat.le_of_ble_eq_true rfl) (Nat.le_of_ble_eq_true rfl) ?_
  refine W.eq (g2 := F0 m 4 ls []) rfl ?_
  refine lv_aload_n hx hb dX1_init_4 rfl (lv_at hl 0 rfl) ?_
  refine lv_bipush (v := (nI 6)) hx hb dX1_init_5 (by decide) ?_
  refine gn_arr (k := 0) (N := 6) hx hb (hts _ (kU u_54)) hK hP hD hS hA rfl (by decide) (Nat.le_of_ble_eq_true rfl) (Nat.le_of_ble_eq_true rfl) dX1_init_7 (fun q7 Hp hP hD hS => ?_)
  refine pfF_n (C := RX1) (T := TX1) (N := 14) (ci := 1) (q0 := 0) (ty := (.array .int)) (v := .ref q7) (ws2 := (([(o, .inr (1, [.int (nI 0), .int (nI 0), .int (nI 0), .int (nI 0), .int (nI 0), .int (nI 0), .ref q7, .null, .null, .null, .null, .null, .null, .null]))] : va_W) ++ iaX cI q7 6 (fun _ => 0))) hx hb hts (iU inlX1) tyX1 tyX1_ok nmX1 hown hK hP hD hS rfl rfl 6 (by decide) (kU u_60) rfl rfl hin rfl (tyX1_ok 6 (by decide)) rfl rfl (Nat.le_of_ble_eq_true rfl) dX1_init_9 rfl (fun Hp locs hP hD hS => ?_)
  refine lv_aload_n hx hb dX1_init_12 rfl (lv_at hl 0 rfl) ?_
  refine lv_bipush (v := (nI 6)) hx hb dX1_init_13 (by decide) ?_
  refine gn_arr (k := 0) (N := 6) hx hb (hts _ (kU u_54)) hK hP hD hS hA rfl (by decide) (Nat.le_of_ble_eq_true rfl) (Nat.le_of_ble_eq_true rfl) dX1_init_15 (fun q15 Hp hP hD hS => ?_)
  refine pfF_n (C := RX1) (T := TX1) (N := 14) (ci := 1) (q0 := 0) (ty := (.array .int)) (v := .ref q15) (ws2 := (([(o, .inr (1, [.int (nI 0), .int (nI 0), .int (nI 0), .int (nI 0), .int (nI 0), .int (nI 0), .ref q7, .ref q15, .null, .null, .null, .null, .null, .null]))] : va_W) ++ iaX cI q7 6 (fun _ => 0) ++ iaX cI q15 6 (fun _ => 0))) hx hb hts (iU inlX1) tyX1 tyX1_ok nmX1 hown hK hP hD hS rfl rfl 7 (by decide) (kU u_61) rfl rfl hin rfl (tyX1_ok 7 (by decide)) rfl rfl (Nat.le_of_ble_eq_true rfl) dX1_init_17 rfl (fun Hp locs hP hD hS => ?_)
  refine lv_aload_n hx hb dX1_init_20 rfl (lv_at hl 0 rfl) ?_
  refine lv_bipush (v := (nI 6)) hx hb dX1_init_21 (by decide) ?_
  refine gn_arr (k := 0) (N := 6) hx hb (hts _ (kU u_54)) hK hP hD hS hA rfl (by decide) (Nat.le_of_ble_eq_true rfl) (Nat.le_of_ble_eq_true rfl) dX1_init_23 (fun q23 Hp hP hD hS => ?_)
  refine pfF_n (C := RX1) (T := TX1) (N := 14) (ci := 1) (q0 := 0) (ty := (.array .int)) (v := .ref q23) (ws2 := (([(o, .inr (1, [.int (nI 0), .int (nI 0), .int (nI 0), .int (nI 0), .int (nI 0), .int (nI 0), .ref q7, .ref q15, .ref q23, .null, .null, .null, .null, .null]))] : va_W) ++ iaX cI q7 6 (fun _ => 0) ++ iaX cI q15 6 (fun _ => 0) ++ iaX cI q23 6 (fun _ => 0))) hx hb hts (iU inlX1) tyX1 tyX1_ok nmX1 hown hK hP hD hS rfl rfl 8 (by decide) (kU u_62) rfl rfl hin rfl (tyX1_ok 8 (by decide)) rfl rfl (Nat.le_of_ble_eq_true rfl) dX1_init_25 rfl (fun Hp locs hP hD hS => ?_)
  refine lv_aload_n hx hb dX1_init_28 rfl (lv_at hl 0 rfl) ?_
  refine lv_bipush (v := (nI 6)) hx hb dX1_init_29 (by decide) ?_
  refine gn_arr (k := 0) (N := 6) hx hb (hts _ (kU u_54)) hK hP hD hS hA rfl (by decide) (Nat.le_of_ble_eq_true rfl) (Nat.le_of_ble_eq_true rfl) dX1_init_31 (fun q31 Hp hP hD hS => ?_)
  refine pfF_n (C := RX1) (T := TX1) (N := 14) (ci := 1) (q0 := 0) (ty := (.array .int)) (v := .ref q31) (ws2 := (([(o, .inr (1, [.int (nI 0), .int (nI 0), .int (nI 0), .int (nI 0), .int (nI 0), .int (nI 0), .ref q7, .ref q15, .ref q23, .ref q31, .null, .null, .null, .null]))] : va_W) ++ iaX cI q7 6 (fun _ => 0) ++ iaX cI q15 6 (fun _ => 0) ++ iaX cI q23 6 (fun _ => 0) ++ iaX cI q31 6 (fun _ => 0))) hx hb hts (iU inlX1) tyX1 tyX1_ok nmX1 hown hK hP hD hS rfl rfl 9 (by decide) (kU u_63) rfl rfl hin rfl (tyX1_ok 9 (by decide)) rfl rfl (Nat.le_of_ble_eq_true rfl) dX1_init_33 rfl (fun Hp locs hP hD hS => ?_)
  refine lv_aload_n hx hb dX1_init_36 rfl (lv_at hl 0 rfl) ?_
  refine lv_iconst (v := (nI 5)) hx hb dX1_init_37 (by decide) ?_
  refine gn_arr (k := 0) (N := 5) hx hb (hts _ (kU u_54)) hK hP hD hS hA rfl (by decide) (Nat.le_of_ble_eq_true rfl) (Nat.le_of_ble_eq_true rfl) dX1_init_38 (fun q38 Hp hP hD hS => ?_)
  refine pfF_n (C := RX1) (T := TX1) (N := 14) (ci := 1) (q0 := 0) (ty := (.array .int)) (v := .ref q38) (ws2 := (([(o, .inr (1, [.int (nI 0), .int (nI 0), .int (nI 0), .int (nI 0), .int (nI 0), .int (nI 0), .ref q7, .ref q15, .ref q23, .ref q31, .ref q38, .null, .null, .null]))] : va_W) ++ iaX cI q7 6 (fun _ => 0) ++ iaX cI q15 6 (fun _ => 0) ++ iaX cI q23 6 (fun _ => 0) ++ iaX cI q31 6 (fun _ => 0) ++ iaX cI q38 5 (fun _ => 0))) hx hb hts (iU inlX1) tyX1 tyX1_ok nmX1 hown hK hP hD hS rfl rfl 10 (by decide) (kU u_64) rfl rfl hin rfl (tyX1_ok 10 (by decide)) rfl rfl (Nat.le_of_ble_eq_true rfl) dX1_init_40 rfl (fun Hp locs hP hD hS => ?_)
  refine lv_aload_n hx hb dX1_init_43 rfl (lv_at hl 0 rfl) ?_
  refine lv_iconst (v := (nI 5)) hx hb dX1_init_44 (by decide) ?_
  refine gn_arr (k := 0) (N := 5) hx hb (hts _ (kU u_54)) hK hP hD hS hA rfl (by decide) (Nat.le_of_ble_eq_true rfl) (Nat.le_of_ble_eq_true rfl) dX1_init_45 (fun q45 Hp hP hD hS => ?_)
  refine pfF_n (C := RX1) (T := TX1) (N := 14) (ci := 1) (q0 := 0) (ty := (.array .int)) (v := .ref q45) (ws2 := (([(o, .inr (1, [.int (nI 0), .int (nI 0), .int (nI 0), .int (nI 0), .int (nI 0), .int (nI 0), .ref q7, .ref q15, .ref q23, .ref q31, .ref q38, .ref q45, .null, .null]))] : va_W) ++ iaX cI q7 6 (fun _ => 0) ++ iaX cI q15 6 (fun _ => 0) ++ iaX cI q23 6 (fun _ => 0) ++ iaX cI q31 6 (fun _ => 0) ++ iaX cI q38 5 (fun _ => 0) ++ iaX cI q45 5 (fun _ => 0))) hx hb hts (iU inlX1) tyX1 tyX1_ok nmX1 hown hK hP hD hS rfl rfl 11 (by decide) (kU u_65) rfl rfl hin rfl (tyX1_ok 11 (by decide)) rfl rfl (Nat.le_of_ble_eq_true rfl) dX1_init_47 rfl (fun Hp locs hP hD hS => ?_)
  refine lv_aload_n hx hb dX1_init_50 rfl (lv_at hl 0 rfl) ?_
  refine lv_bipush (v := (nI 30)) hx hb dX1_init_51 (by decide) ?_
  refine gn_arr (k := 0) (N := 30) hx hb (hts _ (kU u_54)) hK hP hD hS hA rfl (by decide) (Nat.le_of_ble_eq_true rfl) (Nat.le_of_ble_eq_true rfl) dX1_init_53 (fun q53 Hp hP hD hS => ?_)
  refine pfF_n (C := RX1) (T := TX1) (N := 14) (ci := 1) (q0 := 0) (ty := (.array .int)) (v := .ref q53) (ws2 := (([(o, .inr (1, [.int (nI 0), .int (nI 0), .int (nI 0), .int (nI 0), .int (nI 0), .int (nI 0), .ref q7, .ref q15, .ref q23, .ref q31, .ref q38, .ref q45, .ref q53, .null]))] : va_W) ++ iaX cI q7 6 (fun _ => 0) ++ iaX cI q15 6 (fun _ => 0) ++ iaX cI q23 6 (fun _ => 0) ++ iaX cI q31 6 (fun _ => 0) ++ iaX cI q38 5 (fun _ => 0) ++ iaX cI q45 5 (fun _ => 0) ++ iaX cI q53 30 (fun _ => 0))) hx hb hts (iU inlX1) tyX1 tyX1_ok nmX1 hown hK hP hD hS rfl rfl 12 (by decide) (kU u_66) rfl rfl hin rfl (tyX1_ok 12 (by decide)) rfl rfl (Nat.le_of_ble_eq_true rfl) dX1_init_55 rfl (fun Hp locs hP hD hS => ?_)
  refine lv_aload_n hx hb dX1_init_58 rfl (lv_at hl 0 rfl) ?_
  refine lv_bipush (v := (nI 30)) hx hb dX1_init_59 (by decide) ?_
  refine gn_arr (k := 0) (N := 30) hx hb (hts _ (kU u_54)) hK hP hD hS hA rfl (by decide) (Nat.le_of_ble_eq_true rfl) (Nat.le_of_ble_eq_true rfl) dX1_init_61 (fun q61 Hp hP hD hS => ?_)
  refine pfF_n (C := RX1) (T := TX1) (N := 14) (ci := 1) (q0 := 0) (ty := (.array .int)) (v := .ref q61) (ws2 := (([(o, .inr (1, [.int (nI 0), .int (nI 0), .int (nI 0), .int (nI 0), .int (nI 0), .int (nI 0), .ref q7, .ref q15, .ref q23, .ref q31, .ref q38, .ref q45, .ref q53, .ref q61]))] : va_W) ++ iaX cI q7 6 (fun _ => 0) ++ iaX cI q15 6 (fun _ => 0) ++ iaX cI q23 6 (fun _ => 0) ++ iaX cI q31 6 (fun _ => 0) ++ iaX cI q38 5 (fun _ => 0) ++ iaX cI q45 5 (fun _ => 0) ++ iaX cI q53 30 (fun _ => 0) ++ iaX cI q61 30 (fun _ => 0))) hx hb hts (iU inlX1) tyX1 tyX1_ok nmX1 hown hK hP hD hS rfl rfl 13 (by decide) (kU u_67) rfl rfl hin rfl (tyX1_ok 13 (by decide)) rfl rfl (Nat.le_of_ble_eq_true rfl) dX1_init_63 rfl (fun Hp locs hP hD hS => ?_)
  refine lv_aload_n hx hb dX1_init_66 rfl (lv_at hl 0 rfl) ?_
  have hP : va_P D vwCl (fX cI (ad8 o q7 q15 q23 q31 q38 q45 q53 q61) 0 0 0 0 0 0 (fun _ => 0) (fun _ => 0) (fun _ => 0) (fun _ => 0) (fun _ => 0) (fun _ => 0) (fun _ => 0) (fun _ => 0)) _ := hP
  have hD : va_D A (fX cI (ad8 o q7 q15 q23 q31 q38 q45 q53 q61) 0 0 0 0 0 0 (fun _ => 0) (fun _ => 0) (fun _ => 0) (fun _ => 0) (fun _ => 0) (fun _ => 0) (fun _ => 0) (fun _ => 0)) := hD
  refine gp_V (ci := 1) (q0 := 0) (cq := (RX1, TX1, 14)) (c_X1_clear l D cI cZ cF cL (ad8 o q7 q15 q23 q31 q38 q45 q53 q61) 0 0 0 0 0 0 (fun _ => 0) (fun _ => 0) (fun _ => 0) (fun _ => 0) (fun _ => 0) (fun _ => 0) (fun _ => 0) (fun _ => 0)) (gUV u_68 u_69 u_70 u_20 u_71) rfl hdV_X1_clear ⟨(Nat.le_of_ble_eq_true rfl), (Nat.le_of_ble_eq_true rfl)⟩ ⟨rfl, rfl⟩ hx hb hml hown hts hK hA hP hD hS hl.1 ⟨(Nat.le_of_ble_eq_true rfl), (Nat.le_of_ble_eq_true rfl)⟩ rfl rfl rfl (wr := []) (pm_cnt (fun _ => by simp only [List.countP_append, List.countP_nil] <;> omega)) (fun _ => rfl) (rest := []) rfl rfl (Nat.le_of_ble_eq_true rfl) dX1_init_67 (ws2 := (fun _ : Unit => fX cI (ad8 o q7 q15 q23 q31 q38 q45 q53 q61) 0 0 0 0 0 0 (fun _ => 0) (fun _ => 0) (fun _ => 0) (fun _ => 0) (fun _ => 0) (fun _ => 0) (fun _ => 5) (fun _ => 0))) (fun _ => (pm_cnt (fun _ => by simp only [List.countP_append, List.countP_nil] <;> omega))) (fun _ Hp locs hP hD hS => ?_)
  exact cn_v (ad8 o q7 q15 q23 q31 q38 q45 q53 q61) hx hb hr hlocks hP hD hS (Nat.le_of_ble_eq_true rfl) (Nat.le_of_ble_eq_true rfl) dX1_init_70
set_option maxRecDepth 20000 in
theorem u_53 : Cond.methodLink RX2 3 objectInit ∈ wsL_law := List.mem_of_getElem? (i := 48) (by decide +kernel)
set_option maxHeartbeats 4000000 in
set_option maxRecDepth 100000 in
theorem n_X2_init (l : Launch) (D : va_G) (cI cZ cF cL : ClassId) (o : Nat) : CTN l D (tysX cI cZ cF cL) yX2_init (wA yX2_init cX2_init 1 none) (rmN 2 1 120 60) [.ref o] ([(o, .inr (2, [.null, .int (nI 0), .int (nI 0)]))] : va_W) (fun u : Nat → Nat => tX cI (adr o u) (fun _ => 0) 0 0) := by
  refine cn_in (cc := cX2_init) (maxL := 1) (own := RX2) (lv := [(0, .ref o)]) (by decide +kernel) rfl rfl rfl (Nat.le_of_ble_eq_true rfl) rfl ?_
  intro p e s m args below meth c A ls hx hb hr hml hts hown hlocks hK hA hP hD hS hl hin hO
  refine lv_aload_n hx hb dX2_init_0 rfl (lv_at hl 0 rfl) ?_
  refine W.objInit hx hb hown (hts _ (kU u_53)) (hts _ (kU u_12)) (hts _ (kU u_13)) rfl (by rw [hml]; exact hl.1) rfl dX2_init_1 (Nat.le_of_ble_eq_true rfl) (Nat.le_of_ble_eq_true rfl) ?_
  refine W.eq (g2 := F0 m 4 ls []) rfl ?_
  refine lv_aload_n hx hb dX2_init_4 rfl (lv_at hl 0 rfl) ?_
  refine lv_bipush (v := (nI 120)) hx hb dX2_init_5 (by decide) ?_
  refine gn_arr (k := 0) (N := 120) hx hb (hts _ (kU u_54)) hK hP hD hS hA rfl (by decide) (Nat.le_of_ble_eq_true rfl) (Nat.le_of_ble_eq_true rfl) dX2_init_7 (fun q7 Hp hP hD hS => ?_)
  refine pfF_n (C := RX2) (T := TX2) (N := 3) (ci := 2) (q0 := 0) (ty := (.array .int)) (v := .ref q7) (ws2 := (([(o, .inr (2, [.ref q7, .int (nI 0), .int (nI 0)]))] : va_W) ++ iaX cI q7 120 (fun _ => 0))) hx hb hts (iU inlX2) tyX2 tyX2_ok nmX2 hown hK hP hD hS rfl rfl 0 (by decide) (kU u_55) rfl rfl hin rfl (tyX2_ok 0 (by decide)) rfl rfl (Nat.le_of_ble_eq_true rfl) dX2_init_9 rfl (fun Hp locs hP hD hS => ?_)
  exact cn_v (fun _ => q7) hx hb hr hlocks hP hD hS (Nat.le_of_ble_eq_true rfl) (Nat.le_of_ble_eq_true rfl) dX2_init_12
set_option maxRecDepth 20000 in
theorem u_92 : Cond.methodLink RX4 3 objectInit ∈ wsL_law := List.mem_of_getElem? (i := 87) (by decide +kernel)
set_option maxRecDepth 20000 in
theorem u_95 : Cond.classLink RX4 18 RX0 ∈ wsL_law := List.mem_of_getElem? (i := 90) (by decide +kernel)
set_option maxRecDepth 20000 in
theorem u_35 : Cond.instantiable RX0 2 ∈ wsL_law := List.mem_of_getElem? (i := 30) (by decide +kernel)
set_option maxRecDepth 20000 in
theorem u_100 : Cond.code yX0_init cX0_init 1 none ∈ wsL_law := List.mem_of_getElem? (i := 95) (by decide +kernel)
set_option maxRecDepth 20000 in
theorem u_99 : Cond.instanceMethod yX0_init ∈ wsL_law := List.mem_of_getElem? (i := 94) (by decide +kernel)
set_option maxRecDepth 20000 in
theorem u_97 : Cond.classLink RX4 25 RX7 ∈ wsL_law := List.mem_of_getElem? (i := 92) (by decide +kernel)
set_option maxRecDepth 20000 in
theorem u_39 : Cond.instantiable RX7 5 ∈ wsL_law := List.mem_of_getElem? (i := 34) (by decide +kernel)
set_option maxRecDepth 20000 in
theorem u_103 : Cond.code yX7_init cX7_init 1 none ∈ wsL_law := List.mem_of_getElem? (i := 98) (by decide +kernel)
set_option maxRecDepth 20000 in
theorem u_102 : Cond.instanceMethod yX7_init ∈ wsL_law := List.mem_of_getElem? (i := 97) (by decide +kernel)
theorem hdI_X0_init : yX0_init.cls ≠ "java/lang/invoke/MethodHandle" ∧ yX0_init.cls ≠ "java/lang/invoke/VarHandle" ∧ (parseMethodDescriptor yX0_init.desc).map (fun d => d.parameters.length) = some 0 := by decide +kernel
theorem hdI_X7_init : yX7_init.cls ≠ "java/lang/invoke/MethodHandle" ∧ yX7_init.cls ≠ "java/lang/invoke/VarHandle" ∧ (parseMethodDescriptor yX7_init.desc).map (fun d => d.parameters.length) = some 0 := by decide +kernel
set_option maxHeartbeats 4000000 in
set_option maxRecDepth 100000 in
theorem n_X4_init (l : Launch) (D : va_G) (cI cZ cF cL : ClassId) (o : Nat) : CTN l D (tysX cI cZ cF cL) yX4_init (wA yX4_init cX4_init 1 none) (rmN 3 4 19 80) [.ref o] ([(o, .inr (4, [.null, .null, .null, .null]))] : va_W) (fun u : Nat → Nat => pX cI (adr o u) (fun _ => 0) (fun _ => 0) (nI 0) (nI 0) 0 0 0 0 0) := by
  refine cn_in (cc := cX4_init) (maxL := 1) (own := RX4) (lv := [(0, .ref o)]) (by decide +kernel) rfl rfl rfl (Nat.le_of_ble_eq_true rfl) rfl ?_
  intro p e s m args below meth c A ls hx hb hr hml hts hown hlocks hK hA hP hD hS hl hin hO
  refine lv_aload_n hx hb dX4_init_0 rfl (lv_at hl 0 rfl) ?_
  refine W.objInit hx hb hown (hts _ (kU u_92)) (hts _ (kU u_12)) (hts _ (kU u_13)) rfl (by rw [hml]; exact hl.1) rfl dX4_init_1 (Nat.le_of_ble_eq_true rfl) (Nat.le_of_ble_eq_true rfl) ?_
  refine W.eq (g2 := F0 m 4 ls []) rfl ?_
  refine lv_aload_n hx hb dX4_init_4 rfl (lv_at hl 0 rfl) ?_
  refine lv_bipush (v := (nI 6)) hx hb dX4_init_5 (by decide) ?_
  refine gn_arr (k := 0) (N := 6) hx hb (hts _ (kU u_54)) hK hP hD hS hA rfl (by decide) (Nat.le_of_ble_eq_true rfl) (Nat.le_of_ble_eq_true rfl) dX4_init_7 (fun q7 Hp hP hD hS => ?_)
  refine pfF_n (C := RX4) (T := TX4) (N := 4) (ci := 4) (q0 := 0) (ty := (.array .int)) (v := .ref q7) (ws2 := (([(o, .inr (4, [.ref q7, .null, .null, .null]))] : va_W) ++ iaX cI q7 6 (fun _ => 0))) hx hb hts (iU inlX4) tyX4 tyX4_ok nmX4 hown hK hP hD hS rfl rfl 0 (by decide) (kU u_93) rfl rfl hin rfl (tyX4_ok 0 (by decide)) rfl rfl (Nat.le_of_ble_eq_true rfl) dX4_init_9 rfl (fun Hp locs hP hD hS => ?_)
  refine lv_aload_n hx hb dX4_init_12 rfl (lv_at hl 0 rfl) ?_
  refine lv_bipush (v := (nI 6)) hx hb dX4_init_13 (by decide) ?_
  refine gn_arr (k := 0) (N := 6) hx hb (hts _ (kU u_54)) hK hP hD hS hA rfl (by decide) (Nat.le_of_ble_eq_true rfl) (Nat.le_of_ble_eq_true rfl) dX4_init_15 (fun q15 Hp hP hD hS => ?_)
  refine pfF_n (C := RX4) (T := TX4) (N := 4) (ci := 4) (q0 := 0) (ty := (.array .int)) (v := .ref q15) (ws2 := (([(o, .inr (4, [.ref q7, .ref q15, .null, .null]))] : va_W) ++ iaX cI q7 6 (fun _ => 0) ++ iaX cI q15 6 (fun _ => 0))) hx hb hts (iU inlX4) tyX4 tyX4_ok nmX4 hown hK hP hD hS rfl rfl 1 (by decide) (kU u_94) rfl rfl hin rfl (tyX4_ok 1 (by decide)) rfl rfl (Nat.le_of_ble_eq_true rfl) dX4_init_17 rfl (fun Hp locs hP hD hS => ?_)
  refine lv_aload_n hx hb dX4_init_20 rfl (lv_at hl 0 rfl) ?_
  refine va_new (ci := 0) (fs := [.int (nI 0), .int (nI 0)]) (C := RX0) (T := TX0) (N := 2) hx hb hts (iU inlX0) tyX0 tyX0_ok hown (hts _ (kU u_95)) (hts _ (kU u_35)) (hts _ (kU u_36)) hK.1 hP hD hS hA rfl (fun j hj => match j, hj with | 0, _ => rfl | 1, _ => rfl | k + 2, h => absurd h (by omega)) (Nat.le_of_ble_eq_true rfl) (Nat.le_of_ble_eq_true rfl) dX4_init_21 (fun q21 Hp hP hD hS => ?_)
  refine lv_dup hx hb dX4_init_24 rfl ?_
  refine gn_IN (ni := 4) (n_X0_init l D cI cZ cF cL q21) (gU u_100) rfl rfl hdI_X0_init ⟨(Nat.le_of_ble_eq_true rfl), (Nat.le_of_ble_eq_true rfl)⟩ (hts _ (kU u_36)) rfl (hts _ (kU u_99)) hx hb hml hown hts hK hO hA hP hD hS hl.1 ⟨(Nat.le_of_ble_eq_true rfl), (Nat.le_of_ble_eq_true rfl)⟩ (wr := (([(o, .inr (4, [.ref q7, .ref q15, .null, .null]))] : va_W) ++ iaX cI q7 6 (fun _ => 0) ++ iaX cI q15 6 (fun _ => 0))) (pm_cnt (fun _ => by simp only [List.countP_append, List.countP_nil] <;> omega)) (rest := [.ref q21, .ref o]) rfl (Nat.le_of_ble_eq_true rfl) dX4_init_25 (ws2 := fun u25 : Unit => (([(o, .inr (4, [.ref q7, .ref q15, .null, .null]))] : va_W) ++ iaX cI q7 6 (fun _ => 0) ++ iaX cI q15 6 (fun _ => 0) ++ bX q21 (nI 0) (nI 0))) (fun _ => (pm_cnt (fun _ => by simp only [List.countP_append, List.countP_nil] <;> omega))) (fun u25 Hp locs hP hD hS => ?_)
  refine pfF_n (C := RX4) (T := TX4) (N := 4) (ci := 4) (q0 := 0) (ty := (.object "HarvestBoxes$Best")) (v := .ref q21) (ws2 := (([(o, .inr (4, [.ref q7, .ref q15, .ref q21, .null]))] : va_W) ++ iaX cI q7 6 (fun _ => 0) ++ iaX cI q15 6 (fun _ => 0) ++ bX q21 (nI 0) (nI 0))) hx hb hts (iU inlX4) tyX4 tyX4_ok nmX4 hown hK hP hD hS rfl rfl 2 (by decide) (kU u_96) rfl rfl hin rfl (tyX4_ok 2 (by decide)) rfl rfl (Nat.le_of_ble_eq_true rfl) dX4_init_28 rfl (fun Hp locs hP hD hS => ?_)
  refine lv_aload_n hx hb dX4_init_31 rfl (lv_at hl 0 rfl) ?_
  refine va_new (ci := 7) (fs := [.int (nI 0), .int (nI 0), .int (nI 0), .int (nI 0), .int (nI 0)]) (C := RX7) (T := TX7) (N := 5) hx hb hts (iU inlX7) tyX7 tyX7_ok hown (hts _ (kU u_97)) (hts _ (kU u_39)) (hts _ (kU u_40)) hK.1 hP hD hS hA rfl (fun j hj => match j, hj with | 0, _ => rfl | 1, _ => rfl | 2, _ => rfl | 3, _ => rfl | 4, _ => rfl | k + 5, h => absurd h (by omega)) (Nat.le_of_ble_eq_true rfl) (Nat.le_of_ble_eq_true rfl) dX4_init_32 (fun q32 Hp hP hD hS => ?_)
  refine lv_dup hx hb dX4_init_35 rfl ?_
  refine gn_IN (ni := 5) (n_X7_init l D cI cZ cF cL q32) (gU u_103) rfl rfl hdI_X7_init ⟨(Nat.le_of_ble_eq_true rfl), (Nat.le_of_ble_eq_true rfl)⟩ (hts _ (kU u_40)) rfl (hts _ (kU u_102)) hx hb hml hown hts hK hO hA hP hD hS hl.1 ⟨(Nat.le_of_ble_eq_true rfl), (Nat.le_of_ble_eq_true rfl)⟩ (wr := (([(o, .inr (4, [.ref q7, .ref q15, .ref q21, .null]))] : va_W) ++ iaX cI q7 6 (fun _ => 0) ++ iaX cI q15 6 (fun _ => 0) ++ bX q21 (nI 0) (nI 0))) (pm_cnt (fun _ => by simp only [List.countP_append, List.countP_nil] <;> omega)) (rest := [.ref q32, .ref o]) rfl (Nat.le_of_ble_eq_true rfl) dX4_init_36 (ws2 := fun u36 : Unit => (([(o, .inr (4, [.ref q7, .ref q15, .ref q21, .null]))] : va_W) ++ iaX cI q7 6 (fun _ => 0) ++ iaX cI q15 6 (fun _ => 0) ++ bX q21 (nI 0) (nI 0) ++ sX q32 0 0 0 0 0)) (fun _ => (pm_cnt (fun _ => by simp only [List.countP_append, List.countP_nil] <;> omega))) (fun u36 Hp locs hP hD hS => ?_)
  refine pfF_n (C := RX4) (T := TX4) (N := 4) (ci := 4) (q0 := 0) (ty := (.object "HarvestBoxes$Swap")) (v := .ref q32) (ws2 := (([(o, .inr (4, [.ref q7, .ref q15, .ref q21, .ref q32]))] : va_W) ++ iaX cI q7 6 (fun _ => 0) ++ iaX cI q15 6 (fun _ => 0) ++ bX q21 (nI 0) (nI 0) ++ sX q32 0 0 0 0 0)) hx hb hts (iU inlX4) tyX4 tyX4_ok nmX4 hown hK hP hD hS rfl rfl 3 (by decide) (kU u_98) rfl rfl hin rfl (tyX4_ok 3 (by decide)) rfl rfl (Nat.le_of_ble_eq_true rfl) dX4_init_39 rfl (fun Hp locs hP hD hS => ?_)
  exact cn_v (ad8 o q7 q15 q21 q32 o o o o) hx hb hr hlocks hP hD hS (Nat.le_of_ble_eq_true rfl) (Nat.le_of_ble_eq_true rfl) dX4_init_42
set_option maxRecDepth 20000 in
theorem u_108 : Cond.methodLink RX5 3 objectInit ∈ wsL_law := List.mem_of_getElem? (i := 103) (by decide +kernel)
set_option maxRecDepth 20000 in
theorem u_109 : Cond.classLink RX5 9 RX1 ∈ wsL_law := List.mem_of_getElem? (i := 104) (by decide +kernel)
set_option maxRecDepth 20000 in
theorem u_19 : Cond.instantiable RX1 14 ∈ wsL_law := List.mem_of_getElem? (i := 14) (by decide +kernel)
set_option maxRecDepth 20000 in
theorem u_113 : Cond.methodLink RX5 11 yX1_init ∈ wsL_law := List.mem_of_getElem? (i := 108) (by decide +kernel)
set_option maxRecDepth 20000 in
theorem u_58 : Cond.code yX1_init cX1_init 1 none ∈ wsL_law := List.mem_of_getElem? (i := 53) (by decide +kernel)
set_option maxRecDepth 20000 in
theorem u_57 : Cond.instanceMethod yX1_init ∈ wsL_law := List.mem_of_getElem? (i := 52) (by decide +kernel)
set_option maxRecDepth 20000 in
theorem u_111 : Cond.classLink RX5 18 RX4 ∈ wsL_law := List.mem_of_getElem? (i := 106) (by decide +kernel)
set_option maxRecDepth 20000 in
theorem u_31 : Cond.instantiable RX4 4 ∈ wsL_law := List.mem_of_getElem? (i := 26) (by decide +kernel)
set_option maxRecDepth 20000 in
theorem u_114 : Cond.methodLink RX5 20 yX4_init ∈ wsL_law := List.mem_of_getElem? (i := 109) (by decide +kernel)
set_option maxRecDepth 20000 in
theorem u_91 : Cond.code yX4_init cX4_init 1 none ∈ wsL_law := List.mem_of_getElem? (i := 86) (by decide +kernel)
set_option maxRecDepth 20000 in
theorem u_90 : Cond.instanceMethod yX4_init ∈ wsL_law := List.mem_of_getElem? (i := 85) (by decide +kernel)
theorem hdI_X1_init : yX1_init.cls ≠ "java/lang/invoke/MethodHandle" ∧ yX1_init.cls ≠ "java/lang/invoke/VarHandle" ∧ (parseMethodDescriptor yX1_init.desc).map (fun d => d.parameters.length) = some 0 := by decide +kernel
theorem hdI_X4_init : yX4_init.cls ≠ "java/lang/invoke/MethodHandle" ∧ yX4_init.cls ≠ "java/lang/invoke/VarHandle" ∧ (parseMethodDescriptor yX4_init.desc).map (fun d => d.parameters.length) = some 0 := by decide +kernel
set_option maxHeartbeats 4000000 in
set_option maxRecDepth 100000 in
theorem n_X5_init (l : Launch) (D : va_G) (cI cZ cF cL : ClassId) (o : Nat) : CTN l D (tysX cI cZ cF cL) yX5_init (wA yX5_init cX5_init 1 none) (rmN 4 14 131 100) [.ref o] ([(o, .inr (5, [.null, .null]))] : va_W) (fun u : (Nat → Nat) × (Nat → Nat) => (r5X o u.1 u.2 ++ fT cI u.1 T0 ++ pX cI u.2 (fun _ => 0) (fun _ => 0) (nI 0) (nI 0) 0 0 0 0 0)) := by
  refine cn_in (cc := cX5_init) (maxL := 1) (own := RX5) (lv := [(0, .ref o)]) (by decide +kernel) rfl rfl rfl (Nat.le_of_ble_eq_true rfl) rfl ?_
  intro p e s m args below meth c A ls hx hb hr hml hts hown hlocks hK hA hP hD hS hl hin hO
  refine lv_aload_n hx hb dX5_init_0 rfl (lv_at hl 0 rfl) ?_
  refine W.objInit hx hb hown (hts _ (kU u_108)) (hts _ (kU u_12)) (hts _ (kU u_13)) rfl (by rw [hml]; exact hl.1) rfl dX5_init_1 (Nat.le_of_ble_eq_true rfl) (Nat.le_of_ble_eq_true rfl) ?_
  refine W.eq (g2 := F0 m 4 ls []) rfl ?_
  refine lv_aload_n hx hb dX5_init_4 rfl (lv_at hl 0 rfl) ?_
  refine va_new (ci := 1) (fs := [.int (nI 0), .int (nI 0), .int (nI 0), .int (nI 0), .int (nI 0), .int (nI 0), .null, .null, .null, .null, .null, .null, .null, .null]) (C := RX1) (T := TX1) (N := 14) hx hb hts (iU inlX1) tyX1 tyX1_ok hown (hts _ (kU u_109)) (hts _ (kU u_19)) (hts _ (kU u_20)) hK.1 hP hD hS hA rfl (fun j hj => match j, hj with | 0, _ => rfl | 1, _ => rfl | 2, _ => rfl | 3, _ => rfl | 4, _ => rfl | 5, _ => rfl | 6, _ => rfl | 7, _ => rfl | 8, _ => rfl | 9, _ => rfl | 10, _ => rfl | 11, _ => rfl | 12, _ => rfl | 13, _ => rfl | k + 14, h => absurd h (by omega)) (Nat.le_of_ble_eq_true rfl) (Nat.le_of_ble_eq_true rfl) dX5_init_5 (fun q5 Hp hP hD hS => ?_)
  refine lv_dup hx hb dX5_init_8 rfl ?_
  refine gn_I (n_X1_init l D cI cZ cF cL q5) (gU u_58) rfl rfl hdI_X1_init ⟨(Nat.le_of_ble_eq_true rfl), (Nat.le_of_ble_eq_true rfl)⟩ (hts _ (kU u_20)) (hts _ (kU u_113)) (hts _ (kU u_57)) hx hb hml hown hts hK hO hA hP hD hS hl.1 ⟨(Nat.le_of_ble_eq_true rfl), (Nat.le_of_ble_eq_true rfl)⟩ (wr := ([(o, .inr (5, [.null, .null]))] : va_W)) (pm_cnt (fun _ => by simp only [List.countP_append, List.countP_nil] <;> omega)) (rest := [.ref q5, .ref o]) rfl (Nat.le_of_ble_eq_true rfl) dX5_init_9 (ws2 := fun u9 : Nat → Nat => (([(o, .inr (5, [.null, .null]))] : va_W) ++ fT cI (adr q5 u9) T0)) (fun _ => (pm_cnt (fun _ => by simp only [List.countP_append, List.countP_nil] <;> omega))) (fun u9 Hp locs hP hD hS => ?_)
  refine pfF_n (C := RX5) (T := TX5) (N := 2) (ci := 5) (q0 := 0) (ty := (.object "HarvestBoxes$Farm")) (v := .ref q5) (ws2 := (([(o, .inr (5, [.ref q5, .null]))] : va_W) ++ fT cI (adr q5 u9) T0)) hx hb hts (iU inlX5) tyX5 tyX5_ok nmX5 hown hK hP hD hS rfl rfl 0 (by decide) (kU u_110) rfl rfl hin rfl (tyX5_ok 0 (by decide)) rfl rfl (Nat.le_of_ble_eq_true rfl) dX5_init_12 rfl (fun Hp locs hP hD hS => ?_)
  refine lv_aload_n hx hb dX5_init_15 rfl (lv_at hl 0 rfl) ?_
  refine va_new (ci := 4) (fs := [.null, .null, .null, .null]) (C := RX4) (T := TX4) (N := 4) hx hb hts (iU inlX4) tyX4 tyX4_ok hown (hts _ (kU u_111)) (hts _ (kU u_31)) (hts _ (kU u_32)) hK.1 hP hD hS hA rfl (fun j hj => match j, hj with | 0, _ => rfl | 1, _ => rfl | 2, _ => rfl | 3, _ => rfl | k + 4, h => absurd h (by omega)) (Nat.le_of_ble_eq_true rfl) (Nat.le_of_ble_eq_true rfl) dX5_init_16 (fun q16 Hp hP hD hS => ?_)
  refine lv_dup hx hb dX5_init_19 rfl ?_
  refine gn_I (n_X4_init l D cI cZ cF cL q16) (gU u_91) rfl rfl hdI_X4_init ⟨(Nat.le_of_ble_eq_true rfl), (Nat.le_of_ble_eq_true rfl)⟩ (hts _ (kU u_32)) (hts _ (kU u_114)) (hts _ (kU u_90)) hx hb hml hown hts hK hO hA hP hD hS hl.1 ⟨(Nat.le_of_ble_eq_true rfl), (Nat.le_of_ble_eq_true rfl)⟩ (wr := (([(o, .inr (5, [.ref q5, .null]))] : va_W) ++ fT cI (adr q5 u9) T0)) (pm_cnt (fun _ => by simp only [List.countP_append, List.countP_nil] <;> omega)) (rest := [.ref q16, .ref o]) rfl (Nat.le_of_ble_eq_true rfl) dX5_init_20 (ws2 := fun u20 : Nat → Nat => (([(o, .inr (5, [.ref q5, .null]))] : va_W) ++ fT cI (adr q5 u9) T0 ++ pX cI (adr q16 u20) (fun _ => 0) (fun _ => 0) (nI 0) (nI 0) 0 0 0 0 0)) (fun _ => (pm_cnt (fun _ => by simp only [List.countP_append, List.countP_nil] <;> omega))) (fun u20 Hp locs hP hD hS => ?_)
  refine pfF_n (C := RX5) (T := TX5) (N := 2) (ci := 5) (q0 := 0) (ty := (.object "HarvestBoxes$Packer")) (v := .ref q16) (ws2 := (([(o, .inr (5, [.ref q5, .ref q16]))] : va_W) ++ fT cI (adr q5 u9) T0 ++ pX cI (adr q16 u20) (fun _ => 0) (fun _ => 0) (nI 0) (nI 0) 0 0 0 0 0)) hx hb hts (iU inlX5) tyX5 tyX5_ok nmX5 hown hK hP hD hS rfl rfl 1 (by decide) (kU u_112) rfl rfl hin rfl (tyX5_ok 1 (by decide)) rfl rfl (Nat.le_of_ble_eq_true rfl) dX5_init_23 rfl (fun Hp locs hP hD hS => ?_)
  exact cn_v (adr q5 u9, adr q16 u20) hx hb hr hlocks hP hD hS (Nat.le_of_ble_eq_true rfl) (Nat.le_of_ble_eq_true rfl) dX5_init_26
set_option maxRecDepth 20000 in
theorem u_118 : Cond.methodLink RX6 3 objectInit ∈ wsL_law := List.mem_of_getElem? (i := 113) (by decide +kernel)
set_option maxRecDepth 20000 in
theorem u_119 : Cond.classLink RX6 9 RX1 ∈ wsL_law := List.mem_of_getElem? (i := 114) (by decide +kernel)
set_option maxRecDepth 20000 in
theorem u_123 : Cond.methodLink RX6 11 yX1_init ∈ wsL_law := List.mem_of_getElem? (i := 118) (by decide +kernel)
set_option maxRecDepth 20000 in
theorem u_121 : Cond.classLink RX6 18 RX4 ∈ wsL_law := List.mem_of_getElem? (i := 116) (by decide +kernel)
set_option maxRecDepth 20000 in
theorem u_124 : Cond.methodLink RX6 20 yX4_init ∈ wsL_law := List.mem_of_getElem? (i := 119) (by decide +kernel)
set_option maxHeartbeats 4000000 in
set_option maxRecDepth 100000 in
theorem n_X6_init (l : Launch) (D : va_G) (cI cZ cF cL : ClassId) (o : Nat) : CTN l D (tysX cI cZ cF cL) yX6_init (wA yX6_init cX6_init 1 none) (rmN 4 14 131 100) [.ref o] ([(o, .inr (6, [.null, .null, .long 0]))] : va_W) (fun u : (Nat → Nat) × (Nat → Nat) => (r6X o u.1 u.2 0 ++ fT cI u.1 T0 ++ pX cI u.2 (fun _ => 0) (fun _ => 0) (nI 0) (nI 0) 0 0 0 0 0)) := by
  refine cn_in (cc := cX6_init) (maxL := 1) (own := RX6) (lv := [(0, .ref o)]) (by decide +kernel) rfl rfl rfl (Nat.le_of_ble_eq_true rfl) rfl ?_
  intro p e s m args below meth c A ls hx hb hr hml hts hown hlocks hK hA hP hD hS hl hin hO
  refine lv_aload_n hx hb dX6_init_0 rfl (lv_at hl 0 rfl) ?_
  refine W.objInit hx hb hown (hts _ (kU u_118)) (hts _ (kU u_12)) (hts _ (kU u_13)) rfl (by rw [hml]; exact hl.1) rfl dX6_init_1 (Nat.le_of_ble_eq_true rfl) (Nat.le_of_ble_eq_true rfl) ?_
  refine W.eq (g2 := F0 m 4 ls []) rfl ?_
  refine lv_aload_n hx hb dX6_init_4 rfl (lv_at hl 0 rfl) ?_
  refine va_new (ci := 1) (fs := [.int (nI 0), .int (nI 0), .int (nI 0), .int (nI 0), .int (nI 0), .int (nI 0), .null, .null, .null, .null, .null, .null, .null, .null]) (C := RX1) (T := TX1) (N := 14) hx hb hts (iU inlX1) tyX1 tyX1_ok hown (hts _ (kU u_119)) (hts _ (kU u_19)) (hts _ (kU u_20)) hK.1 hP hD hS hA rfl (fun j hj => match j, hj with | 0, _ => rfl | 1, _ => rfl | 2, _ => rfl | 3, _ => rfl | 4, _ => rfl | 5, _ => rfl | 6, _ => rfl | 7, _ => rfl | 8, _ => rfl | 9, _ => rfl | 10, _ => rfl | 11, _ => rfl | 12, _ => rfl | 13, _ => rfl | k + 14, h => absurd h (by omega)) (Nat.le_of_ble_eq_true rfl) (Nat.le_of_ble_eq_true rfl) dX6_init_5 (fun q5 Hp hP hD hS => ?_)
  refine lv_dup hx hb dX6_init_8 rfl ?_
  refine gn_I (n_X1_init l D cI cZ cF cL q5) (gU u_58) rfl rfl hdI_X1_init ⟨(Nat.le_of_ble_eq_true rfl), (Nat.le_of_ble_eq_true rfl)⟩ (hts _ (kU u_20)) (hts _ (kU u_123)) (hts _ (kU u_57)) hx hb hml hown hts hK hO hA hP hD hS hl.1 ⟨(Nat.le_of_ble_eq_true rfl), (Nat.le_of_ble_eq_true rfl)⟩ (wr := ([(o, .inr (6, [.null, .null, .long 0]))] : va_W)) (pm_cnt (fun _ => by simp only [List.countP_append, List.countP_nil] <;> omega)) (rest := [.ref q5, .ref o]) rfl (Nat.le_of_ble_eq_true rfl) dX6_init_9 (ws2 := fun u9 : Nat → Nat => (([(o, .inr (6, [.null, .null, .long 0]))] : va_W) ++ fT cI (adr q5 u9) T0)) (fun _ => (pm_cnt (fun _ => by simp only [List.countP_append, List.countP_nil] <;> omega))) (fun u9 Hp locs hP hD hS => ?_)
  refine pfF_n (C := RX6) (T := TX6) (N := 3) (ci := 6) (q0 := 0) (ty := (.object "HarvestBoxes$Farm")) (v := .ref q5) (ws2 := (([(o, .inr (6, [.ref q5, .null, .long 0]))] : va_W) ++ fT cI (adr q5 u9) T0)) hx hb hts (iU inlX6) tyX6 tyX6_ok nmX6 hown hK hP hD hS rfl rfl 0 (by decide) (kU u_120) rfl rfl hin rfl (tyX6_ok 0 (by decide)) rfl rfl (Nat.le_of_ble_eq_true rfl) dX6_init_12 rfl (fun Hp locs hP hD hS => ?_)
  refine lv_aload_n hx hb dX6_init_15 rfl (lv_at hl 0 rfl) ?_
  refine va_new (ci := 4) (fs := [.null, .null, .null, .null]) (C := RX4) (T := TX4) (N := 4) hx hb hts (iU inlX4) tyX4 tyX4_ok hown (hts _ (kU u_121)) (hts _ (kU u_31)) (hts _ (kU u_32)) hK.1 hP hD hS hA rfl (fun j hj => match j, hj with | 0, _ => rfl | 1, _ => rfl | 2, _ => rfl | 3, _ => rfl | k + 4, h => absurd h (by omega)) (Nat.le_of_ble_eq_true rfl) (Nat.le_of_ble_eq_true rfl) dX6_init_16 (fun q16 Hp hP hD hS => ?_)
  refine lv_dup hx hb dX6_init_19 rfl ?_
  refine gn_I (n_X4_init l D cI cZ cF cL q16) (gU u_91) rfl rfl hdI_X4_init ⟨(Nat.le_of_ble_eq_true rfl), (Nat.le_of_ble_eq_true rfl)⟩ (hts _ (kU u_32)) (hts _ (kU u_124)) (hts _ (kU u_90)) hx hb hml hown hts hK hO hA hP hD hS hl.1 ⟨(Nat.le_of_ble_eq_true rfl), (Nat.le_of_ble_eq_true rfl)⟩ (wr := (([(o, .inr (6, [.ref q5, .null, .long 0]))] : va_W) ++ fT cI (adr q5 u9) T0)) (pm_cnt (fun _ => by simp only [List.countP_append, List.countP_nil] <;> omega)) (rest := [.ref q16, .ref o]) rfl (Nat.le_of_ble_eq_true rfl) dX6_init_20 (ws2 := fun u20 : Nat → Nat => (([(o, .inr (6, [.ref q5, .null, .long 0]))] : va_W) ++ fT cI (adr q5 u9) T0 ++ pX cI (adr q16 u20) (fun _ => 0) (fun _ => 0) (nI 0) (nI 0) 0 0 0 0 0)) (fun _ => (pm_cnt (fun _ => by simp only [List.countP_append, List.countP_nil] <;> omega))) (fun u20 Hp locs hP hD hS => ?_)
  refine pfF_n (C := RX6) (T := TX6) (N := 3) (ci := 6) (q0 := 0) (ty := (.object "HarvestBoxes$Packer")) (v := .ref q16) (ws2 := (([(o, .inr (6, [.ref q5, .ref q16, .long 0]))] : va_W) ++ fT cI (adr q5 u9) T0 ++ pX cI (adr q16 u20) (fun _ => 0) (fun _ => 0) (nI 0) (nI 0) 0 0 0 0 0)) hx hb hts (iU inlX6) tyX6 tyX6_ok nmX6 hown hK hP hD hS rfl rfl 1 (by decide) (kU u_122) rfl rfl hin rfl (tyX6_ok 1 (by decide)) rfl rfl (Nat.le_of_ble_eq_true rfl) dX6_init_23 rfl (fun Hp locs hP hD hS => ?_)
  exact cn_v (adr q5 u9, adr q16 u20) hx hb hr hlocks hP hD hS (Nat.le_of_ble_eq_true rfl) (Nat.le_of_ble_eq_true rfl) dX6_init_26

