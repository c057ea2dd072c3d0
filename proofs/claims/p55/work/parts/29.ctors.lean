/-! CONSTRUCTORS: the object stands at o, the heap's last cell; what is made comes behind it -/
theorem zCh1.gw {a n h : Nat} {H H1 : Heap} (hz : H.size = h) (hz1 : H1.size = h + 1) (ho : ∀ q, q < h → H1[q]? = H[q]?) : zCh1 a n H H1 := ⟨by omega, fun q hq _ => ho q (by omega)⟩
theorem va_kc {g : ZG} {q : Nat} {e : va_E} {a n : Nat} {H H1 : Heap} (h : va_at g.1 zC (q, e) H) (hc : zCh1 a n H H1) (hd : q < a ∨ a + n ≤ q) : va_at g.1 zC (q, e) H1 := h.kept (hc.2 _ h.lt hd)
theorem ci_X3_init : zCI yX3_init cX3_init 1 none 0 := ⟨k103, k5, by decide +kernel⟩

theorem cn_X3_init : Cond.instanceMethod yX3_init ∈ GW := k102
set_option maxRecDepth 20000 in
set_option maxHeartbeats 4000000 in
/-- c_newEdge -/
theorem c_newEdge (l : Launch) (g : ZG) {B : Nat} {o : Nat} (hB : B ≤ o)  : Met l yX3_init (.code yX3_init cX3_init 1 none :: GW) { frames := 1, cells := 0, slots := 0, locals := 20 } (va_Pc [.ref o] (zPre g B (fun H => H.size = o + 1 ∧ va_at g.1 zC (o, .inr (2, [.int (nI 0), .int (nI 0)])) H))) (zX (fun w H => w = none ∧ H.size = o + 1 ∧ zPm g o 1 TE z00 H) o 1) 0 0 (zA B) := by
  refine zMet (by decide) (Nat.le_of_ble_eq_true rfl) ?_
  intro p e R s m args below meth c Q ls hR hargs hQ S hr hlk hP hZ hS hnm hl
  have hl : lv_has ls 1 [(0, .ref (o))] := hl
  obtain ⟨hz, hO⟩ := hP
  have hC : zCh1 o 1 s.heap s.heap := zCh1.rf
  refine lv_aload_n S.1 S.2.1 dX3_init_0 rfl (lv_at hl 0 rfl) ?_
  refine z_obj S k104 hl.1 dX3_init_1 (by rw [hR]; exact Nat.le_of_ble_eq_true rfl) (by rw [hR]; exact Nat.le_of_ble_eq_true rfl) ?_
  exact z_wv hQ S hr hlk hS hC ⟨rfl, hz, fun k hk => match k, hk with | 0, _ => hO | k + 1, h => absurd h (by omega)⟩ dX3_init_4
theorem ci_X5_init : zCI yX5_init cX5_init 1 none 0 := ⟨k165, k7, by decide +kernel⟩

theorem cn_X5_init : Cond.instanceMethod yX5_init ∈ GW := k164
set_option maxRecDepth 20000 in
set_option maxHeartbeats 4000000 in
/-- c_newJudge -/
theorem c_newJudge (l : Launch) (g : ZG) {B : Nat} {o : Nat} (hB : B ≤ o)  : Met l yX5_init (.code yX5_init cX5_init 1 none :: GW) { frames := 1, cells := 0, slots := 0, locals := 20 } (va_Pc [.ref o] (zPre g B (fun H => H.size = o + 1 ∧ va_at g.1 zC (o, .inr (4, [.int (nI 0)])) H))) (zX (fun w H => w = none ∧ H.size = o + 1 ∧ zPm g o 1 TJu z00 H) o 1) 0 0 (zA B) := by
  refine zMet (by decide) (Nat.le_of_ble_eq_true rfl) ?_
  intro p e R s m args below meth c Q ls hR hargs hQ S hr hlk hP hZ hS hnm hl
  have hl : lv_has ls 1 [(0, .ref (o))] := hl
  obtain ⟨hz, hO⟩ := hP
  have hC : zCh1 o 1 s.heap s.heap := zCh1.rf
  refine lv_aload_n S.1 S.2.1 dX5_init_0 rfl (lv_at hl 0 rfl) ?_
  refine z_obj S k166 hl.1 dX5_init_1 (by rw [hR]; exact Nat.le_of_ble_eq_true rfl) (by rw [hR]; exact Nat.le_of_ble_eq_true rfl) ?_
  exact z_wv hQ S hr hlk hS hC ⟨rfl, hz, fun k hk => match k, hk with | 0, _ => hO | k + 1, h => absurd h (by omega)⟩ dX5_init_4
theorem ci_X10_init : zCI yX10_init cX10_init 1 none 0 := ⟨k49, k3, by decide +kernel⟩

theorem cn_X10_init : Cond.instanceMethod yX10_init ∈ GW := k48
set_option maxRecDepth 20000 in
set_option maxHeartbeats 4000000 in
/-- c_newWicks -/
theorem c_newWicks (l : Launch) (g : ZG) {B : Nat} {o : Nat} (hB : B ≤ o)  : Met l yX10_init (.code yX10_init cX10_init 1 none :: GW) { frames := 1, cells := 4, slots := 32, locals := 20 } (va_Pc [.ref o] (zPre g B (fun H => H.size = o + 1 ∧ va_at g.1 zC (o, .inr (8, [.null, .null, .null, .null, .int (nI 0)])) H))) (zX (fun w H => w = none ∧ H.size = o + 5 ∧ zPm g o 5 TW z00 H) o 5) 4 32 (zA B) := by
  refine zMet (by decide) (Nat.le_of_ble_eq_true rfl) ?_
  intro p e R s m args below meth c Q ls hR hargs hQ S hr hlk hP hZ hS hnm hl
  have hl : lv_has ls 1 [(0, .ref (o))] := hl
  obtain ⟨hz, hO⟩ := hP
  have hC : zCh1 o 5 s.heap s.heap := zCh1.rf
  refine lv_aload_n S.1 S.2.1 dX10_init_0 rfl (lv_at hl 0 rfl) ?_
  refine z_obj S k50 hl.1 dX10_init_1 (by rw [hR]; exact Nat.le_of_ble_eq_true rfl) (by rw [hR]; exact Nat.le_of_ble_eq_true rfl) ?_
  refine lv_aload_n S.1 S.2.1 dX10_init_4 rfl (lv_at hl 0 rfl) ?_
  refine z_bi S (k := 8) dX10_init_5 (by decide) ?_
  refine z_nwi S hZ.1 hS (N := 8) (by decide) ⟨by rw [hR]; exact Nat.le_of_ble_eq_true rfl, by rw [hR]; exact Nat.le_of_ble_eq_true rfl⟩ dX10_init_7 hz (fun H1 hA1 hz1 ho1 hS => ?_)
  have hO := hO.kept (ho1 _ (by omega))
  have hC := hC.tr (zCh1.gw hz hz1 ho1)
  have hz := hz1
  refine z_pf S hZ.1 hO hS hB (C := RX10) (Tt := TX10) rfl 0 (by decide) (v := .ref (o + 1)) k51 rfl hnm rfl (ty := (.array .int)) (by decide +kernel) rfl rfl (Nat.le_of_ble_eq_true rfl) dX10_init_9 (fun H1 locs1 hO1 hCn hz1 hS => ?_)
  have hA1 := va_kc hA1 hCn (by omega)
  have hO := hO1
  have hC := hC.tr (hCn.mono (b := o) (k := 5) (by omega) (by omega))
  have hz := hz1.trans hz
  refine lv_aload_n S.1 S.2.1 dX10_init_12 rfl (lv_at hl 0 rfl) ?_
  refine z_bi S (k := 8) dX10_init_13 (by decide) ?_
  refine z_nwi S hZ.1 hS (N := 8) (by decide) ⟨by rw [hR]; exact Nat.le_of_ble_eq_true rfl, by rw [hR]; exact Nat.le_of_ble_eq_true rfl⟩ dX10_init_15 hz (fun H1 hA2 hz1 ho1 hS => ?_)
  have hO := hO.kept (ho1 _ (by omega))
  have hA1 := hA1.kept (ho1 _ (by omega))
  have hC := hC.tr (zCh1.gw hz hz1 ho1)
  have hz := hz1
  refine z_pf S hZ.1 hO hS hB (C := RX10) (Tt := TX10) rfl 1 (by decide) (v := .ref (o + 2)) k52 rfl hnm rfl (ty := (.array .int)) (by decide +kernel) rfl rfl (Nat.le_of_ble_eq_true rfl) dX10_init_17 (fun H1 locs1 hO1 hCn hz1 hS => ?_)
  have hA1 := va_kc hA1 hCn (by omega)
  have hA2 := va_kc hA2 hCn (by omega)
  have hO := hO1
  have hC := hC.tr (hCn.mono (b := o) (k := 5) (by omega) (by omega))
  have hz := hz1.trans hz
  refine lv_aload_n S.1 S.2.1 dX10_init_20 rfl (lv_at hl 0 rfl) ?_
  refine z_bi S (k := 8) dX10_init_21 (by decide) ?_
  refine z_nwi S hZ.1 hS (N := 8) (by decide) ⟨by rw [hR]; exact Nat.le_of_ble_eq_true rfl, by rw [hR]; exact Nat.le_of_ble_eq_true rfl⟩ dX10_init_23 hz (fun H1 hA3 hz1 ho1 hS => ?_)
  have hO := hO.kept (ho1 _ (by omega))
  have hA1 := hA1.kept (ho1 _ (by omega))
  have hA2 := hA2.kept (ho1 _ (by omega))
  have hC := hC.tr (zCh1.gw hz hz1 ho1)
  have hz := hz1
  refine z_pf S hZ.1 hO hS hB (C := RX10) (Tt := TX10) rfl 2 (by decide) (v := .ref (o + 3)) k53 rfl hnm rfl (ty := (.array .int)) (by decide +kernel) rfl rfl (Nat.le_of_ble_eq_true rfl) dX10_init_25 (fun H1 locs1 hO1 hCn hz1 hS => ?_)
  have hA1 := va_kc hA1 hCn (by omega)
  have hA2 := va_kc hA2 hCn (by omega)
  have hA3 := va_kc hA3 hCn (by omega)
  have hO := hO1
  have hC := hC.tr (hCn.mono (b := o) (k := 5) (by omega) (by omega))
  have hz := hz1.trans hz
  refine lv_aload_n S.1 S.2.1 dX10_init_28 rfl (lv_at hl 0 rfl) ?_
  refine z_bi S (k := 8) dX10_init_29 (by decide) ?_
  refine z_nwz S hZ.1 hS (N := 8) (by decide) ⟨by rw [hR]; exact Nat.le_of_ble_eq_true rfl, by rw [hR]; exact Nat.le_of_ble_eq_true rfl⟩ dX10_init_31 hz (fun H1 hA4 hz1 ho1 hS => ?_)
  have hO := hO.kept (ho1 _ (by omega))
  have hA1 := hA1.kept (ho1 _ (by omega))
  have hA2 := hA2.kept (ho1 _ (by omega))
  have hA3 := hA3.kept (ho1 _ (by omega))
  have hC := hC.tr (zCh1.gw hz hz1 ho1)
  have hz := hz1
  refine z_pf S hZ.1 hO hS hB (C := RX10) (Tt := TX10) rfl 3 (by decide) (v := .ref (o + 4)) k56 rfl hnm rfl (ty := (.array .boolean)) (by decide +kernel) rfl rfl (Nat.le_of_ble_eq_true rfl) dX10_init_33 (fun H1 locs1 hO1 hCn hz1 hS => ?_)
  have hA1 := va_kc hA1 hCn (by omega)
  have hA2 := va_kc hA2 hCn (by omega)
  have hA3 := va_kc hA3 hCn (by omega)
  have hA4 := va_kc hA4 hCn (by omega)
  have hO := hO1
  have hC := hC.tr (hCn.mono (b := o) (k := 5) (by omega) (by omega))
  have hz := hz1.trans hz
  exact z_wv hQ S hr hlk hS hC ⟨rfl, hz, fun k hk => match k, hk with | 0, _ => hO | 1, _ => hA1 | 2, _ => hA2 | 3, _ => hA3 | 4, _ => hA4 | k + 5, h => absurd h (by omega)⟩ dX10_init_36
theorem ci_X1_init : zCI yX1_init cX1_init 1 none 0 := ⟨k79, k4, by decide +kernel⟩

theorem cn_X1_init : Cond.instanceMethod yX1_init ∈ GW := k78
set_option maxRecDepth 20000 in
set_option maxHeartbeats 4000000 in
/-- c_newCloth -/
theorem c_newCloth (l : Launch) (g : ZG) {B : Nat} {o : Nat} (hB : B ≤ o)  : Met l yX1_init (.code yX1_init cX1_init 1 none :: GW) { frames := 1, cells := 3, slots := 120, locals := 20 } (va_Pc [.ref o] (zPre g B (fun H => H.size = o + 1 ∧ va_at g.1 zC (o, .inr (0, [.null, .null, .null, .int (nI 0)])) H))) (zX (fun w H => w = none ∧ H.size = o + 4 ∧ zPm g o 4 TC z00 H) o 4) 3 120 (zA B) := by
  refine zMet (by decide) (Nat.le_of_ble_eq_true rfl) ?_
  intro p e R s m args below meth c Q ls hR hargs hQ S hr hlk hP hZ hS hnm hl
  have hl : lv_has ls 1 [(0, .ref (o))] := hl
  obtain ⟨hz, hO⟩ := hP
  have hC : zCh1 o 4 s.heap s.heap := zCh1.rf
  refine lv_aload_n S.1 S.2.1 dX1_init_0 rfl (lv_at hl 0 rfl) ?_
  refine z_obj S k80 hl.1 dX1_init_1 (by rw [hR]; exact Nat.le_of_ble_eq_true rfl) (by rw [hR]; exact Nat.le_of_ble_eq_true rfl) ?_
  refine lv_aload_n S.1 S.2.1 dX1_init_4 rfl (lv_at hl 0 rfl) ?_
  refine z_bi S (k := 40) dX1_init_5 (by decide) ?_
  refine z_nwi S hZ.1 hS (N := 40) (by decide) ⟨by rw [hR]; exact Nat.le_of_ble_eq_true rfl, by rw [hR]; exact Nat.le_of_ble_eq_true rfl⟩ dX1_init_7 hz (fun H1 hA1 hz1 ho1 hS => ?_)
  have hO := hO.kept (ho1 _ (by omega))
  have hC := hC.tr (zCh1.gw hz hz1 ho1)
  have hz := hz1
  refine z_pf S hZ.1 hO hS hB (C := RX1) (Tt := TX1) rfl 0 (by decide) (v := .ref (o + 1)) k81 rfl hnm rfl (ty := (.array .int)) (by decide +kernel) rfl rfl (Nat.le_of_ble_eq_true rfl) dX1_init_9 (fun H1 locs1 hO1 hCn hz1 hS => ?_)
  have hA1 := va_kc hA1 hCn (by omega)
  have hO := hO1
  have hC := hC.tr (hCn.mono (b := o) (k := 4) (by omega) (by omega))
  have hz := hz1.trans hz
  refine lv_aload_n S.1 S.2.1 dX1_init_12 rfl (lv_at hl 0 rfl) ?_
  refine z_bi S (k := 40) dX1_init_13 (by decide) ?_
  refine z_nwi S hZ.1 hS (N := 40) (by decide) ⟨by rw [hR]; exact Nat.le_of_ble_eq_true rfl, by rw [hR]; exact Nat.le_of_ble_eq_true rfl⟩ dX1_init_15 hz (fun H1 hA2 hz1 ho1 hS => ?_)
  have hO := hO.kept (ho1 _ (by omega))
  have hA1 := hA1.kept (ho1 _ (by omega))
  have hC := hC.tr (zCh1.gw hz hz1 ho1)
  have hz := hz1
  refine z_pf S hZ.1 hO hS hB (C := RX1) (Tt := TX1) rfl 1 (by decide) (v := .ref (o + 2)) k83 rfl hnm rfl (ty := (.array .int)) (by decide +kernel) rfl rfl (Nat.le_of_ble_eq_true rfl) dX1_init_17 (fun H1 locs1 hO1 hCn hz1 hS => ?_)
  have hA1 := va_kc hA1 hCn (by omega)
  have hA2 := va_kc hA2 hCn (by omega)
  have hO := hO1
  have hC := hC.tr (hCn.mono (b := o) (k := 4) (by omega) (by omega))
  have hz := hz1.trans hz
  refine lv_aload_n S.1 S.2.1 dX1_init_20 rfl (lv_at hl 0 rfl) ?_
  refine z_bi S (k := 40) dX1_init_21 (by decide) ?_
  refine z_nwi S hZ.1 hS (N := 40) (by decide) ⟨by rw [hR]; exact Nat.le_of_ble_eq_true rfl, by rw [hR]; exact Nat.le_of_ble_eq_true rfl⟩ dX1_init_23 hz (fun H1 hA3 hz1 ho1 hS => ?_)
  have hO := hO.kept (ho1 _ (by omega))
  have hA1 := hA1.kept (ho1 _ (by omega))
  have hA2 := hA2.kept (ho1 _ (by omega))
  have hC := hC.tr (zCh1.gw hz hz1 ho1)
  have hz := hz1
  refine z_pf S hZ.1 hO hS hB (C := RX1) (Tt := TX1) rfl 2 (by decide) (v := .ref (o + 3)) k86 rfl hnm rfl (ty := (.array .int)) (by decide +kernel) rfl rfl (Nat.le_of_ble_eq_true rfl) dX1_init_25 (fun H1 locs1 hO1 hCn hz1 hS => ?_)
  have hA1 := va_kc hA1 hCn (by omega)
  have hA2 := va_kc hA2 hCn (by omega)
  have hA3 := va_kc hA3 hCn (by omega)
  have hO := hO1
  have hC := hC.tr (hCn.mono (b := o) (k := 4) (by omega) (by omega))
  have hz := hz1.trans hz
  exact z_wv hQ S hr hlk hS hC ⟨rfl, hz, fun k hk => match k, hk with | 0, _ => hO | 1, _ => hA1 | 2, _ => hA2 | 3, _ => hA3 | k + 4, h => absurd h (by omega)⟩ dX1_init_28
theorem ci_X7_init : zCI yX7_init cX7_init 1 none 0 := ⟨k234, k12, by decide +kernel⟩

theorem cn_X7_init : Cond.instanceMethod yX7_init ∈ GW := k233
set_option maxRecDepth 20000 in
set_option maxHeartbeats 4000000 in
/-- c_newLine -/
theorem c_newLine (l : Launch) (g : ZG) {B : Nat} {o : Nat} (hB : B ≤ o)  : Met l yX7_init (.code yX7_init cX7_init 1 none :: GW) { frames := 1, cells := 1, slots := 48, locals := 20 } (va_Pc [.ref o] (zPre g B (fun H => H.size = o + 1 ∧ va_at g.1 zC (o, .inr (5, [.null, .int (nI 0)])) H))) (zX (fun w H => w = none ∧ H.size = o + 2 ∧ zPm g o 2 TLi z00 H) o 2) 1 48 (zA B) := by
  refine zMet (by decide) (Nat.le_of_ble_eq_true rfl) ?_
  intro p e R s m args below meth c Q ls hR hargs hQ S hr hlk hP hZ hS hnm hl
  have hl : lv_has ls 1 [(0, .ref (o))] := hl
  obtain ⟨hz, hO⟩ := hP
  have hC : zCh1 o 2 s.heap s.heap := zCh1.rf
  refine lv_aload_n S.1 S.2.1 dX7_init_0 rfl (lv_at hl 0 rfl) ?_
  refine z_obj S k235 hl.1 dX7_init_1 (by rw [hR]; exact Nat.le_of_ble_eq_true rfl) (by rw [hR]; exact Nat.le_of_ble_eq_true rfl) ?_
  refine lv_aload_n S.1 S.2.1 dX7_init_4 rfl (lv_at hl 0 rfl) ?_
  refine z_bi S (k := 48) dX7_init_5 (by decide) ?_
  refine z_nwc S hZ.1 hS (N := 48) (by decide) ⟨by rw [hR]; exact Nat.le_of_ble_eq_true rfl, by rw [hR]; exact Nat.le_of_ble_eq_true rfl⟩ dX7_init_7 hz (fun H1 hA1 hz1 ho1 hS => ?_)
  have hO := hO.kept (ho1 _ (by omega))
  have hC := hC.tr (zCh1.gw hz hz1 ho1)
  have hz := hz1
  refine z_pf S hZ.1 hO hS hB (C := RX7) (Tt := TX7) rfl 0 (by decide) (v := .ref (o + 1)) k236 rfl hnm rfl (ty := (.array .char)) (by decide +kernel) rfl rfl (Nat.le_of_ble_eq_true rfl) dX7_init_9 (fun H1 locs1 hO1 hCn hz1 hS => ?_)
  have hA1 := va_kc hA1 hCn (by omega)
  have hO := hO1
  have hC := hC.tr (hCn.mono (b := o) (k := 2) (by omega) (by omega))
  have hz := hz1.trans hz
  exact z_wv hQ S hr hlk hS hC ⟨rfl, hz, fun k hk => match k, hk with | 0, _ => hO | 1, _ => hA1 | k + 2, h => absurd h (by omega)⟩ dX7_init_12
section YI
variable {p : Program} {l : Launch} {e : Env} {R : Room} {s : State} {m : MethodId} {args : Array Value} {below : List Frame} {meth : Method} {c : Code} {H : Heap} {locs : List Loc} {cells slots : Nat} {Q : State → Prop}
variable {cc bytes : ByteArray} {pc nL maxL index mc ms a n : Nat} {own : String} {ls : Array Slot} {rest st0 : List Value} {g : ZG} {B : Nat} {y : MethodName} {rm : Room} {PH : Heap → Prop} {b : Addr} {PW : Heap → Prop}
/-- a constructor that is linked plainly -/
theorem z_iM (S : CallFix p m c cc nL s args GW own) (hZ : zS g B s s.heap) (hS : va_S (zA B) s.heap H locs) (hM : Met l y (.code y bytes maxL none :: GW) rm (va_Pc [.ref b] (zPre g B PH)) (zX (fun v H => v = none ∧ PW H) a n) mc ms (zA B)) (hB : B ≤ a) (hI : zCI y bytes maxL none 0) (hV : Cond.instanceMethod y ∈ GW) (hy : y.name = "<init>") (hlink : Cond.methodLink own index y ∈ GW) (hrm : zRm rm R maxL mc ms) (hPH : PH H) (hsize : ls.size = nL) (hst0 : st0 = .ref b :: rest) (hcat : (rest.map fun v => v.category).sum ≤ 8) (hdg : decode cc pc = .ok (.invokespecial index, 3)) (hf : cells + mc ≤ R.cells ∧ slots + ms ≤ R.slots)
    (kk : ∀ (H1 : Heap) (locs1 : List Loc), PW H1 → zCh1 a n H H1 → va_S (zA B) s.heap H1 locs1 → W p l e R s m args below meth c H1 locs1 (cells + mc) (slots + ms) Q (F0 m (pc + 3) ls rest)) : W p l e R s m args below meth c H locs cells slots Q (F0 m pc ls st0) :=
  z_rw (va_runI S hM ⟨z_callB S hI hlink hrm, hy, S.2.2.2.2 _ hV⟩ ⟨zPre.blind, fun _ hU hW => ⟨rfl, zPre.at' (hZ.at' hS) hPH hU hW⟩⟩ rfl rfl (As := []) hsize hst0 (lv_room hcat) hdg hf) hS hB (fun v H1 locs1 hv hC hS1 => by
    obtain ⟨rfl, hw⟩ := hv
    exact kk H1 locs1 hw hC hS1)
end YI
def zL0 : zL := fun _ _ _ => 0
theorem ci_X8_init : zCI yX8_init cX8_init 1 none 0 := ⟨k43, k2, by decide +kernel⟩

theorem cn_X8_init : Cond.instanceMethod yX8_init ∈ GW := k42
set_option maxRecDepth 20000 in
set_option maxHeartbeats 4000000 in
/-- c_newLoom -/
theorem c_newLoom (l : Launch) (g : ZG) {B : Nat} {o : Nat} (hB : B ≤ o)  : Met l yX8_init (.code yX8_init cX8_init 1 none :: GW) { frames := 2, cells := 11, slots := 165, locals := 45 } (va_Pc [.ref o] (zPre g B (fun H => H.size = o + 1 ∧ va_at g.1 zC (o, .inr (6, [.null, .null, .null, .null, .int (nI 0), .int (nI 0)])) H))) (zX (fun w H => w = none ∧ H.size = o + 12 ∧ zLo g o zL0 H) o 12) 11 165 (zA B) := by
  refine zMet (by decide) (Nat.le_of_ble_eq_true rfl) ?_
  intro p e R s m args below meth c Q ls hR hargs hQ S hr hlk hP hZ hS hnm hl
  have hl : lv_has ls 1 [(0, .ref (o))] := hl
  obtain ⟨hz, hO⟩ := hP
  have hC : zCh1 o 12 s.heap s.heap := zCh1.rf
  refine lv_aload_n S.1 S.2.1 dX8_init_0 rfl (lv_at hl 0 rfl) ?_
  refine z_obj S k44 hl.1 dX8_init_1 (by rw [hR]; exact Nat.le_of_ble_eq_true rfl) (by rw [hR]; exact Nat.le_of_ble_eq_true rfl) ?_
  refine lv_aload_n S.1 S.2.1 dX8_init_4 rfl (lv_at hl 0 rfl) ?_
  refine z_new S hZ.1 hS (C := RX10) (T := TX10) (N := 5) (ci := 8) rfl k45 k46 k3 (fs := [.null, .null, .null, .null, .int (nI 0)]) tyX10 tyX10_ok (fun j hj => match j, hj with | 0, _ => rfl | 1, _ => rfl | 2, _ => rfl | 3, _ => rfl | 4, _ => rfl | k + 5, h => absurd h (by omega)) ⟨by rw [hR]; exact Nat.le_of_ble_eq_true rfl, by rw [hR]; exact Nat.le_of_ble_eq_true rfl⟩ dX8_init_5 hz (fun H1 hN hz1 ho1 hS => ?_)
  have hg : zCh1 0 0 _ H1 := zCh1.gw hz hz1 ho1
  have hO := va_kc hO hg (by omega)
  have hC := hC.tr (zCh1.gw hz hz1 ho1)
  have hz := hz1
  refine lv_dup S.1 S.2.1 dX8_init_8 rfl ?_
  refine z_iN (rest := [.ref (o + 1), .ref (o)]) S hZ hS (c_newWicks l g (o := o + 1) (by omega)) (by omega) ci_X10_init cn_X10_init rfl (List.mem_of_getElem? (i := 1) rfl) ⟨rfl, rfl, by rw [hR]; exact Nat.le_of_ble_eq_true rfl, by rw [hR]; exact Nat.le_of_ble_eq_true rfl⟩ ⟨hz, hN⟩ hl.1 rfl (Nat.le_of_ble_eq_true rfl) dX8_init_9 ⟨by rw [hR]; exact Nat.le_of_ble_eq_true rfl, by rw [hR]; exact Nat.le_of_ble_eq_true rfl⟩ (fun H1 locs1 hPn hCn hS => ?_)
  have hO := va_kc hO hCn (by omega)
  obtain ⟨hz, hW9⟩ := hPn
  have hC := hC.tr (hCn.mono (b := o) (k := 12) (by omega) (by omega))
  refine z_pf S hZ.1 hO hS hB (C := RX8) (Tt := TX8) rfl 0 (by decide) (v := .ref (o + 1)) k116 rfl hnm rfl (ty := (.object RX10)) (by decide +kernel) rfl rfl (Nat.le_of_ble_eq_true rfl) dX8_init_12 (fun H1 locs1 hO1 hCn hz1 hS => ?_)
  have hW9 := hW9.kept hCn (by omega)
  have hO := hO1
  have hC := hC.tr (hCn.mono (b := o) (k := 12) (by omega) (by omega))
  have hz := hz1.trans hz
  refine lv_aload_n S.1 S.2.1 dX8_init_15 rfl (lv_at hl 0 rfl) ?_
  refine z_new S hZ.1 hS (C := RX1) (T := TX1) (N := 4) (ci := 0) rfl k75 k76 k4 (fs := [.null, .null, .null, .int (nI 0)]) tyX1 tyX1_ok (fun j hj => match j, hj with | 0, _ => rfl | 1, _ => rfl | 2, _ => rfl | 3, _ => rfl | k + 4, h => absurd h (by omega)) ⟨by rw [hR]; exact Nat.le_of_ble_eq_true rfl, by rw [hR]; exact Nat.le_of_ble_eq_true rfl⟩ dX8_init_16 hz (fun H1 hN hz1 ho1 hS => ?_)
  have hg : zCh1 0 0 _ H1 := zCh1.gw hz hz1 ho1
  have hO := va_kc hO hg (by omega)
  have hW9 := hW9.kept hg (by omega)
  have hC := hC.tr (zCh1.gw hz hz1 ho1)
  have hz := hz1
  refine lv_dup S.1 S.2.1 dX8_init_19 rfl ?_
  refine z_iN (rest := [.ref (o + 6), .ref (o)]) S hZ hS (c_newCloth l g (o := o + 6) (by omega)) (by omega) ci_X1_init cn_X1_init rfl (List.mem_of_getElem? (i := 2) rfl) ⟨rfl, rfl, by rw [hR]; exact Nat.le_of_ble_eq_true rfl, by rw [hR]; exact Nat.le_of_ble_eq_true rfl⟩ ⟨hz, hN⟩ hl.1 rfl (Nat.le_of_ble_eq_true rfl) dX8_init_20 ⟨by rw [hR]; exact Nat.le_of_ble_eq_true rfl, by rw [hR]; exact Nat.le_of_ble_eq_true rfl⟩ (fun H1 locs1 hPn hCn hS => ?_)
  have hO := va_kc hO hCn (by omega)
  have hW9 := hW9.kept hCn (by omega)
  obtain ⟨hz, hK9⟩ := hPn
  have hC := hC.tr (hCn.mono (b := o) (k := 12) (by omega) (by omega))
  refine z_pf S hZ.1 hO hS hB (C := RX8) (Tt := TX8) rfl 1 (by decide) (v := .ref (o + 6)) k119 rfl hnm rfl (ty := (.object RX1)) (by decide +kernel) rfl rfl (Nat.le_of_ble_eq_true rfl) dX8_init_23 (fun H1 locs1 hO1 hCn hz1 hS => ?_)
  have hW9 := hW9.kept hCn (by omega)
  have hK9 := hK9.kept hCn (by omega)
  have hO := hO1
  have hC := hC.tr (hCn.mono (b := o) (k := 12) (by omega) (by omega))
  have hz := hz1.trans hz
  refine lv_aload_n S.1 S.2.1 dX8_init_26 rfl (lv_at hl 0 rfl) ?_
  refine z_new S hZ.1 hS (C := RX3) (T := TX3) (N := 2) (ci := 2) rfl k99 k100 k5 (fs := [.int (nI 0), .int (nI 0)]) tyX3 tyX3_ok (fun j hj => match j, hj with | 0, _ => rfl | 1, _ => rfl | k + 2, h => absurd h (by omega)) ⟨by rw [hR]; exact Nat.le_of_ble_eq_true rfl, by rw [hR]; exact Nat.le_of_ble_eq_true rfl⟩ dX8_init_27 hz (fun H1 hN hz1 ho1 hS => ?_)
  have hg : zCh1 0 0 _ H1 := zCh1.gw hz hz1 ho1
  have hO := va_kc hO hg (by omega)
  have hW9 := hW9.kept hg (by omega)
  have hK9 := hK9.kept hg (by omega)
  have hC := hC.tr (zCh1.gw hz hz1 ho1)
  have hz := hz1
  refine lv_dup S.1 S.2.1 dX8_init_30 rfl ?_
  refine z_iN (rest := [.ref (o + 10), .ref (o)]) S hZ hS (c_newEdge l g (o := o + 10) (by omega)) (by omega) ci_X3_init cn_X3_init rfl (List.mem_of_getElem? (i := 3) rfl) ⟨rfl, rfl, by rw [hR]; exact Nat.le_of_ble_eq_true rfl, by rw [hR]; exact Nat.le_of_ble_eq_true rfl⟩ ⟨hz, hN⟩ hl.1 rfl (Nat.le_of_ble_eq_true rfl) dX8_init_31 ⟨by rw [hR]; exact Nat.le_of_ble_eq_true rfl, by rw [hR]; exact Nat.le_of_ble_eq_true rfl⟩ (fun H1 locs1 hPn hCn hS => ?_)
  have hO := va_kc hO hCn (by omega)
  have hW9 := hW9.kept hCn (by omega)
  have hK9 := hK9.kept hCn (by omega)
  obtain ⟨hz, hE9⟩ := hPn
  have hC := hC.tr (hCn.mono (b := o) (k := 12) (by omega) (by omega))
  refine z_pf S hZ.1 hO hS hB (C := RX8) (Tt := TX8) rfl 2 (by decide) (v := .ref (o + 10)) k122 rfl hnm rfl (ty := (.object RX3)) (by decide +kernel) rfl rfl (Nat.le_of_ble_eq_true rfl) dX8_init_34 (fun H1 locs1 hO1 hCn hz1 hS => ?_)
  have hW9 := hW9.kept hCn (by omega)
  have hK9 := hK9.kept hCn (by omega)
  have hE9 := hE9.kept hCn (by omega)
  have hO := hO1
  have hC := hC.tr (hCn.mono (b := o) (k := 12) (by omega) (by omega))
  have hz := hz1.trans hz
  refine lv_aload_n S.1 S.2.1 dX8_init_37 rfl (lv_at hl 0 rfl) ?_
  refine z_new S hZ.1 hS (C := RX3) (T := TX3) (N := 2) (ci := 2) rfl k99 k100 k5 (fs := [.int (nI 0), .int (nI 0)]) tyX3 tyX3_ok (fun j hj => match j, hj with | 0, _ => rfl | 1, _ => rfl | k + 2, h => absurd h (by omega)) ⟨by rw [hR]; exact Nat.le_of_ble_eq_true rfl, by rw [hR]; exact Nat.le_of_ble_eq_true rfl⟩ dX8_init_38 hz (fun H1 hN hz1 ho1 hS => ?_)
  have hg : zCh1 0 0 _ H1 := zCh1.gw hz hz1 ho1
  have hO := va_kc hO hg (by omega)
  have hW9 := hW9.kept hg (by omega)
  have hK9 := hK9.kept hg (by omega)
  have hE9 := hE9.kept hg (by omega)
  have hC := hC.tr (zCh1.gw hz hz1 ho1)
  have hz := hz1
  refine lv_dup S.1 S.2.1 dX8_init_41 rfl ?_
  refine z_iN (rest := [.ref (o + 11), .ref (o)]) S hZ hS (c_newEdge l g (o := o + 11) (by omega)) (by omega) ci_X3_init cn_X3_init rfl (List.mem_of_getElem? (i := 3) rfl) ⟨rfl, rfl, by rw [hR]; exact Nat.le_of_ble_eq_true rfl, by rw [hR]; exact Nat.le_of_ble_eq_true rfl⟩ ⟨hz, hN⟩ hl.1 rfl (Nat.le_of_ble_eq_true rfl) dX8_init_42 ⟨by rw [hR]; exact Nat.le_of_ble_eq_true rfl, by rw [hR]; exact Nat.le_of_ble_eq_true rfl⟩ (fun H1 locs1 hPn hCn hS => ?_)
  have hO := va_kc hO hCn (by omega)
  have hW9 := hW9.kept hCn (by omega)
  have hK9 := hK9.kept hCn (by omega)
  have hE9 := hE9.kept hCn (by omega)
  obtain ⟨hz, hE8⟩ := hPn
  have hC := hC.tr (hCn.mono (b := o) (k := 12) (by omega) (by omega))
  refine z_pf S hZ.1 hO hS hB (C := RX8) (Tt := TX8) rfl 3 (by decide) (v := .ref (o + 11)) k123 rfl hnm rfl (ty := (.object RX3)) (by decide +kernel) rfl rfl (Nat.le_of_ble_eq_true rfl) dX8_init_45 (fun H1 locs1 hO1 hCn hz1 hS => ?_)
  have hW9 := hW9.kept hCn (by omega)
  have hK9 := hK9.kept hCn (by omega)
  have hE9 := hE9.kept hCn (by omega)
  have hE8 := hE8.kept hCn (by omega)
  have hO := hO1
  have hC := hC.tr (hCn.mono (b := o) (k := 12) (by omega) (by omega))
  have hz := hz1.trans hz
  exact z_wv hQ S hr hlk hS hC ⟨rfl, hz, (fun k hk => match k, hk with | 0, _ => hO | k + 1, h => absurd h (by omega)), hW9, hK9, hE9, hE8⟩ dX8_init_48
section YP
variable {p : Program} {l : Launch} {e : Env} {R : Room} {s : State} {m : MethodId} {args : Array Value} {below : List Frame} {meth : Method} {c : Code} {H : Heap} {locs : List Loc} {cells slots : Nat} {Q : State → Prop}
variable {cc : ByteArray} {pc nL index a : Nat} {own : String} {ls : Array Slot} {rest : List Value} {g : ZG} {B : Nat}
/-- a field that isn't final, the heap's size told -/
theorem z_pn (S : CallFix p m c cc nL s args GW own) (hK : zT g s) {ci : Nat} {fs : List Value} (hO : va_at g.1 zC (a, .inr (ci, fs)) H) (hS0 : va_S (zA B) s.heap H locs) (hB : B ≤ a) {C : String} {Tt : u_T} {N : Nat} (hc : zC[ci]? = some (C, Tt, N)) (j : Nat) (hj : j < N) {v : Value} (hlink : Cond.fieldLink own index (Tt j).1 (Tt j).2.1 (Tt j).2.2.1 ∈ GW) (hfin : (Tt j).2.2.2 = false) {ty : FieldType} (hd : parseFieldDescriptor (Tt j).2.2.1 = some ty) (hn : narrow ty v = v) (hfit : fits ty v = true) (hl : j < fs.length) (hdg : decode cc pc = .ok (.putfield index, 3))
    (kk : ∀ (H1 : Heap) (locs1 : List Loc), va_at g.1 zC (a, .inr (ci, fs.set j v)) H1 → zCh1 a 1 H H1 → H1.size = H.size → va_S (zA B) s.heap H1 locs1 → W p l e R s m args below meth c H1 locs1 cells slots Q (F0 m (pc + 3) ls rest)) : W p l e R s m args below meth c H locs cells slots Q (F0 m pc ls (v :: .ref a :: rest)) := by
  obtain ⟨hin, ⟨ty0, hty⟩, hnm⟩ := zC_ok _ (List.mem_of_getElem? hc)
  have hap := va_apart (own := own) S.2.2.2.2 hin ty0 hty hnm hK hc
  obtain ⟨r0, h1, cell, q1, q2, q3, q4⟩ := hO
  have hr : r0 = (C, Tt, N) := Option.some.inj (h1.symm.trans hc)
  subst hr
  obtain ⟨hS, hfc, kC, hkC, hkind⟩ := hK.1 ci _ hc
  obtain ⟨cf, kf, fi, fd, hi, hsl⟩ := hS j hj
  have hlay := S.2.2.2.2 _ (hin _ (u_in_lay hj))
  unfold u_lay at hlay
  rw [if_neg (by rw [hfin]; decide)] at hlay
  have hst := (u_facts hfc hkC (u_lays S.2.2.2.2 hin hj) hi).1
  have h6 := u_store hfc hkC hkind hlay hi hd hn hfit
  refine W.putK S.1 S.2.1 (f := fd) ⟨S.2.2.2.1, S.2.2.2.2 _ hlink, ⟨_, _, _, hi⟩, hst⟩ (by rw [q2]; exact h6) q1 q3 (by rw [hsl]; exact k2_hasslot (q4 j hj)) rfl rfl hdg fun H1 e1 e2 e3 => ?_
  rw [hsl] at e1 ⊢
  exact kk H1 _ ⟨_, hc, t_OB.to (V := updV (vp_V fs) j v) ⟨_, e1, q2, q3, t_set q4 hap hj v⟩ (fun i _ => vp_updV_set hl v i)⟩ ⟨Nat.le_of_eq e2.symm, fun q _ ho => e3 q (ho.elim Nat.ne_of_lt (fun h => Nat.ne_of_gt h))⟩ e2 (hS0.put e2 e3 (show B ≤ a from hB))
/-- an object goes into an array of its class -/
theorem z_aq (S : CallFix p m c cc nL s args GW own) (hK : zT g s) {cA N : Nat} {f : Nat → Option Nat} (hA : va_at g.1 zC (a, .inl (cA, N, .inr (.inr (.inr (.inr f))))) H) (hS0 : va_S (zA B) s.heap H locs) (hB : B ≤ a) (t0 : Nat) {ci v : Nat} {vs : List Value} {r : vw_C} (ht : (zTy g)[t0]? = some (cA, .object r.1)) (hO : va_at g.1 zC (v, .inr (ci, vs)) H) (hc : zC[ci]? = some r) {i : Nat} (hi : i < N) (hi9 : i < 2 ^ 31) (hdg : decode cc pc = .ok (.aastore, 1))
    (kk : ∀ (H1 : Heap) (locs1 : List Loc), va_at g.1 zC (a, .inl (cA, N, .inr (.inr (.inr (.inr (va_up f i (some v))))))) H1 → zCh1 a 1 H H1 → H1.size = H.size → va_S (zA B) s.heap H1 locs1 → W p l e R s m args below meth c H1 locs1 cells slots Q (F0 m (pc + 1) ls rest)) : W p l e R s m args below meth c H locs cells slots Q (F0 m pc ls (.ref v :: .int (nI i) :: .ref a :: rest)) := by
  obtain ⟨r9, hr9, cellV, g1, g2, g3, -⟩ := hO
  have hcls := (hK.1 ci r hc).2
  obtain ⟨kA, comp, k1, k2, k3, -⟩ := (hK.2 t0 _ ht).2
  have hcomp : comp = g.1.1 ci := Option.some.inj (k3.symm.trans hcls.1)
  subst hcomp
  obtain ⟨kC, hkC, -⟩ := hcls.2
  have hcl : (nI i).toNatClampNeg = i := nI_clamp hi9
  refine W.aast S.1 S.2.1 (show H[a]? = some (vp_cell cA (N, .inr (.inr (.inr (.inr f))))) from hA) (fun q h => by cases h) (fun h => by cases h) k1 k2 rfl hkC ⟨nI_pos hi9, by show _ < (arrV _ _ _).slots.size; rw [arrV_size, hcl]; exact hi⟩ g1 (fun q h => by rw [g3] at h; cases h) (by rw [g2]; exact hkC) (by rw [g2]; exact va_assign hcls) rfl rfl hdg fun H1 e z oq => ?_
  refine kk H1 _ ?_ ⟨Nat.le_of_eq z.symm, fun q _ ho => oq q (ho.elim Nat.ne_of_lt (fun h => Nat.ne_of_gt h))⟩ z (hS0.put z oq (show B ≤ a from hB))
  show H1[a]? = some (vp_cell _ _)
  rw [e, vp_cell_q, vp_cell_q, arrV_store]
  congr 2
  funext q
  rw [hcl]
  by_cases hq : q = i
  · subst hq
    simp [updV, va_up, va_rf]
  · simp [updV, va_up, hq]
/-- a new array of references -/
theorem z_nwq (S : CallFix p m c cc nL s args GW own) (hZ : zS g B s s.heap) (hS : va_S (zA B) s.heap H locs) {C : String} {cA9 : Nat} (t0 : Nat) (ht : (zTy g)[t0]? = some (cA9, .object C)) (hcl : Cond.classLink own index C ∈ GW) (hC : C ∈ zAO) {N : Nat} (hN : N < 1000) (hf : cells + 1 ≤ R.cells ∧ slots + N ≤ R.slots) (hdg : decode cc pc = .ok (.anewarray index, 3)) {h : Nat} (hh : H.size = h)
    (kk : ∀ H1 : Heap, va_at g.1 zC (h, .inl (cA9, N, .inr (.inr (.inr (.inr (fun _ => none)))))) H1 → H1.size = h + 1 → (∀ q, q < h → H1[q]? = H[q]?) → va_S (zA B) s.heap H1 locs → W p l e R s m args below meth c H1 locs (cells + 1) (slots + N) Q (F0 m (pc + 3) ls (.ref h :: rest))) : W p l e R s m args below meth c H locs cells slots Q (F0 m pc ls (.int (nI N) :: rest)) := by
  have hNc : (nI N).toNatClampNeg = N := nI_clamp (by omega)
  obtain ⟨_, _, _, _, _, hfa⟩ := (hZ.1.2 t0 _ ht).2
  refine W.anew S.1 S.2.1 S.2.2.2.1 (S.2.2.2.2 _ hcl) (va_AO.use (hZ.2.2.2.2.2.2.2 C hC)) (g := F0 m pc ls (.int (nI N) :: rest)) rfl hdg rfl (nI_pos (by omega)) (by rw [hNc]; omega) hf.1 (by rw [hNc]; exact hf.2) fun cA kA comp f1 f2 f3 f4 => ?_
  have hcA : cA = cA9 := Option.some.inj (f1.symm.trans hfa)
  subst hcA
  rw [hNc, hh]
  generalize hH1 : H.push ({ cls := cA, slots := Array.replicate N .null, vm := .none } : Cell) = H1
  have z1 : H1.size = h + 1 := by rw [← hH1, Array.size_push, hh]
  have e1 : H1[h]? = some (arrV cA N (fun _ => .null)) := by rw [← hH1, ← hh, Array.getElem?_push_size, ← arrV_new]
  have o1 : ∀ q : Nat, q < h → H1[q]? = H[q]? := fun q hq => by rw [← hH1, Array.getElem?_push, if_neg (Nat.ne_of_lt (by omega))]
  exact kk H1 e1 z1 o1 (zA.new hS (by rw [hh]; exact z1) (by rw [hh]; exact o1))
end YP
theorem ci_X2_init : zCI yX2_init cX2_init 1 none 0 := ⟨k176, k8, by decide +kernel⟩

theorem cn_X2_init : Cond.instanceMethod yX2_init ∈ GW := k175
set_option maxRecDepth 20000 in
set_option maxHeartbeats 4000000 in
/-- c_newCommand -/
theorem c_newCommand (l : Launch) (g : ZG) {B : Nat} {o : Nat} (hB : B ≤ o)  : Met l yX2_init (.code yX2_init cX2_init 1 none :: GW) { frames := 1, cells := 0, slots := 0, locals := 20 } (va_Pc [.ref o] (zPre g B (fun H => H.size = o + 1 ∧ va_at g.1 zC (o, .inr (1, [.null, .int (nI 0), .int (nI 0), .int (nI 0)])) H))) (zX (fun w H => w = none ∧ H.size = o + 1 ∧ zPm g o 1 TCo (fun _ => yNo) H) o 1) 0 0 (zA B) := by
  refine zMet (by decide) (Nat.le_of_ble_eq_true rfl) ?_
  intro p e R s m args below meth c Q ls hR hargs hQ S hr hlk hP hZ hS hnm hl
  have hl : lv_has ls 1 [(0, .ref (o))] := hl
  obtain ⟨hz, hO⟩ := hP
  have hC : zCh1 o 1 s.heap s.heap := zCh1.rf
  refine lv_aload_n S.1 S.2.1 dX2_init_0 rfl (lv_at hl 0 rfl) ?_
  refine z_obj S k177 hl.1 dX2_init_1 (by rw [hR]; exact Nat.le_of_ble_eq_true rfl) (by rw [hR]; exact Nat.le_of_ble_eq_true rfl) ?_
  refine lv_aload_n S.1 S.2.1 dX2_init_4 rfl (lv_at hl 0 rfl) ?_
  refine va_gets (A := zA B) S.1 S.2.1 (hZ.en.1 0 (by decide)).1 hS S.2.2.2.1 (S.2.2.2.2 _ k178) (fun _ h => h) dX2_init_5 ?_
  refine z_pn S hZ.1 hO hS hB (C := RX2) (Tt := TX2) rfl 0 (by decide) (v := .ref (g.2 1 0)) k180 rfl (ty := .object "CandleLoom$Kind") (by decide +kernel) rfl rfl (Nat.le_of_ble_eq_true rfl) dX2_init_8 (fun H1 locs1 hO1 hCn hz1 hS => ?_)
  have hC := hC.tr hCn
  have hz := hz1.trans hz
  have hO := hO1
  exact z_wv hQ S hr hlk hS hC ⟨rfl, hz, fun k hk => match k, hk with | 0, _ => hO | k + 1, h => absurd h (by omega)⟩ dX2_init_11
theorem va_qcg {g : ZG} {a cA N : Nat} {f f' : Nat → Option Nat} {H : Heap} (h : ∀ j, j < N → f j = f' j) (hA : va_at g.1 zC (a, .inl (cA, N, .inr (.inr (.inr (.inr f))))) H) : va_at g.1 zC (a, .inl (cA, N, .inr (.inr (.inr (.inr f'))))) H := by
  have e : vp_cell cA (N, .inr (.inr (.inr (.inr f')))) = vp_cell cA (N, .inr (.inr (.inr (.inr f)))) := by
    rw [vp_cell_q, vp_cell_q]
    exact arrV_cg (fun j hj => by rw [h j hj])
  show H[a]? = some (vp_cell cA (N, .inr (.inr (.inr (.inr f')))))
  rw [e]
  exact hA
theorem va_upI {b d : Nat} (i : Nat) : va_up (fun j => if j < i then some (b + d * j) else none) i (some (b + d * i)) = fun j => if j < i + 1 then some (b + d * j) else none := by
  funext j
  rw [va_up_eq]
  by_cases e : j = i
  · subst e; rw [if_pos rfl, if_pos (Nat.lt_succ_self j)]
  · rw [if_neg e]
    by_cases h : j < i
    · rw [if_pos h, if_pos (by omega)]
    · rw [if_neg h, if_neg (by omega)]
theorem ci_X4_init : zCI yX4_init cX4_init 2 none 0 := ⟨k145, k6, by decide +kernel⟩

theorem cn_X4_init : Cond.instanceMethod yX4_init ∈ GW := k144
set_option maxRecDepth 20000 in
set_option maxHeartbeats 4000000 in
/-- c_newHistory -/
theorem c_newHistory (l : Launch) (g : ZG) {B : Nat} {o : Nat} (hB : B ≤ o)  : Met l yX4_init (.code yX4_init cX4_init 2 none :: GW) { frames := 3, cells := 97, slots := 1376, locals := 70 } (va_Pc [.ref o] (zPre g B (fun H => H.size = o + 1 ∧ va_at g.1 zC (o, .inr (3, [.null, .int (nI 0), .int (nI 0)])) H))) (zX (fun w H => w = none ∧ H.size = o + 98 ∧ zHi g o z00 (fun _ => zL0) H) o 98) 97 1376 (zA B) := by
  refine zMet (by decide) (Nat.le_of_ble_eq_true rfl) ?_
  intro p e R s m args below meth c Q ls hR hargs hQ S hr hlk hP hZ hS hnm hl
  have hl : lv_has ls 2 [(0, .ref (o))] := hl
  obtain ⟨hz, hO⟩ := hP
  have hC : zCh1 o 98 s.heap s.heap := zCh1.rf
  refine lv_aload_n S.1 S.2.1 dX4_init_0 rfl (lv_at hl 0 rfl) ?_
  refine z_obj S k146 hl.1 dX4_init_1 (by rw [hR]; exact Nat.le_of_ble_eq_true rfl) (by rw [hR]; exact Nat.le_of_ble_eq_true rfl) ?_
  refine lv_aload_n S.1 S.2.1 dX4_init_4 rfl (lv_at hl 0 rfl) ?_
  refine z_bi S (k := 8) dX4_init_5 (by decide) ?_
  refine z_nwq S hZ hS 3 rfl k147 (by decide) (N := 8) (by decide) ⟨by rw [hR]; exact Nat.le_of_ble_eq_true rfl, by rw [hR]; exact Nat.le_of_ble_eq_true rfl⟩ dX4_init_7 hz (fun H1 hA hz1 ho1 hS => ?_)
  have hg : zCh1 0 0 _ H1 := zCh1.gw hz hz1 ho1
  have hO := va_kc hO hg (by omega)
  have hC := hC.tr (zCh1.gw hz hz1 ho1)
  have hz := hz1
  refine z_pf S hZ.1 hO hS hB (C := RX4) (Tt := TX4) rfl 0 (by decide) (v := .ref (o + 1)) k150 rfl hnm rfl (ty := (.array (.object RX8))) (by decide +kernel) rfl rfl (Nat.le_of_ble_eq_true rfl) dX4_init_10 (fun H1 locs1 hO1 hCn hz1 hS => ?_)
  have hA := va_kc hA hCn (by omega)
  have hO := hO1
  have hC := hC.tr (hCn.mono (b := o) (k := 98) (by omega) (by omega))
  have hz := hz1.trans hz
  refine z_ic S (k := 0) dX4_init_13 (by decide) ?_
  refine lv_istore_n (lv' := [(1, .int (nI (0))), (0, .ref (o))]) S.1 S.2.1 dX4_init_14 rfl hl (by decide) rfl (fun ls hl => ?_)
  have hP : zPm g o 1 THi z00 H1 := fun k hk => match k, hk with | 0, _ => hO | k + 1, h => absurd h (by omega)
  have hA : va_at g.1 zC (o + 1, .inl (g.2 0 3, 8, .inr (.inr (.inr (.inr (fun j => if j < 0 then some (o + 2 + 12 * j) else none)))))) H1 := va_qcg (fun j _ => by rw [if_neg (Nat.not_lt_zero j)]) hA
  have loop : ∀ (n i : Nat) (ls : Array Slot) (H : Heap) (locs : List Loc), (i ≤ 8) → (8 < i + n) → H.size = o + 2 + 12 * i → zPm g o 1 THi z00 H → va_at g.1 zC (o + 1, .inl (g.2 0 3, 8, .inr (.inr (.inr (.inr (fun j => if j < i then some (o + 2 + 12 * j) else none)))))) H → (∀ j, j < i → zLo g (o + 2 + 12 * j) zL0 H) → va_S (zA B) s.heap H locs → zCh1 o 98 s.heap H → lv_has ls 2 [(0, .ref o), (1, .int (nI i))] → W p l e R s m args below meth c H locs (1 + 12 * i) (8 + 171 * i) Q (F0 m 15 ls []) := by
    intro n
    induction n with
    | zero => intro i ls H locs h1 h2; exact absurd h2 (by omega)
    | succ n ih =>
      intro i ls H locs h1 h2 hz hP hA hK hS hC hl
      refine lv_iload_n S.1 S.2.1 dX4_init_15 rfl (lv_at hl 1 rfl) ?_
      refine z_bi S (k := 8) dX4_init_16 (by decide) ?_
      refine z_cge (tgt := 40) S (by omega) (by omega) dX4_init_18 (by decide) (fun h4 => ?_) (fun h4 => ?_)
      · obtain rfl : i = 8 := by omega
        exact z_wv hQ S hr hlk hS hC ⟨rfl, by omega, (fun k hk => match k, hk with | 0, _ => hP 0 (by decide) | 1, _ => va_qcg (f' := fun j => some (o + 1 + 1 + 12 * j)) (fun j hj => by rw [if_pos hj]) hA | k + 2, h => absurd h (by omega)), hK⟩ dX4_init_40
      · refine lv_aload_n S.1 S.2.1 dX4_init_21 rfl (lv_at hl 0 rfl) ?_
        refine z_get (v := .ref (o + 1)) S hZ.1 hP 0 (by decide) rfl rfl rfl 0 (by decide) rfl k150 dX4_init_22 ?_
        refine lv_iload_n S.1 S.2.1 dX4_init_25 rfl (lv_at hl 1 rfl) ?_
        refine z_new S hZ.1 hS (C := RX8) (T := TX8) (N := 6) (ci := 6) rfl k147 k40 k2 (fs := [.null, .null, .null, .null, .int (nI 0), .int (nI 0)]) tyX8 tyX8_ok (fun j hj => match j, hj with | 0, _ => rfl | 1, _ => rfl | 2, _ => rfl | 3, _ => rfl | 4, _ => rfl | 5, _ => rfl | k + 6, h => absurd h (by omega)) ⟨by rw [hR]; show _ ≤ 97; omega, by rw [hR]; show _ ≤ 1376; omega⟩ dX4_init_26 hz (fun H1 hN hz1 ho1 hS => ?_)
        have hg : zCh1 0 0 _ H1 := zCh1.gw hz hz1 ho1
        have hP := hP.kept hg (by omega)
        have hA := va_kc hA hg (by omega)
        have hK := fun j hj => (hK j hj).kept hg (by omega)
        have hC := hC.tr (zCh1.gw hz hz1 ho1)
        have hz := hz1
        refine lv_dup S.1 S.2.1 dX4_init_29 rfl ?_
        refine z_iN (rest := [.ref (o + 2 + 12 * i), .int (nI (i)), .ref (o + 1)]) S hZ hS (c_newLoom l g (o := o + 2 + 12 * i) (by omega)) (by omega) ci_X8_init cn_X8_init rfl (List.mem_of_getElem? (i := 4) rfl) ⟨rfl, rfl, by rw [hR]; exact Nat.le_of_ble_eq_true rfl, by rw [hR]; exact Nat.le_of_ble_eq_true rfl⟩ ⟨hz, hN⟩ hl.1 rfl (Nat.le_of_ble_eq_true rfl) dX4_init_30 ⟨by rw [hR]; show _ ≤ 97; omega, by rw [hR]; show _ ≤ 1376; omega⟩ (fun H1 locs1 hPn hCn hS => ?_)
        have hP := hP.kept hCn (by omega)
        have hA := va_kc hA hCn (by omega)
        have hK := fun j hj => (hK j hj).kept hCn (by omega)
        obtain ⟨hz, hLn⟩ := hPn
        have hC := hC.tr (hCn.mono (b := o) (k := 98) (by omega) (by omega))
        refine z_aq S hZ.1 hA hS (by omega) 3 (r := (RX8, TX8, 6)) rfl (hLn.1 0 (by decide)) rfl h4 (by omega) dX4_init_33 (fun H1 locs1 hA1 hCn hz1 hS => ?_)
        have hP := hP.kept hCn (by omega)
        have hK := fun j hj => (hK j hj).kept hCn (by omega)
        have hLn := hLn.kept hCn (by omega)
        have hC := hC.tr (hCn.mono (b := o) (k := 98) (by omega) (by omega))
        have hz := hz1.trans hz
        have hA := hA1
        have hA : va_at g.1 zC (o + 1, .inl (g.2 0 3, 8, .inr (.inr (.inr (.inr (fun j => if j < i + 1 then some (o + 2 + 12 * j) else none)))))) H1 := by rw [← va_upI (b := o + 2) (d := 12) i]; exact hA1
        have hK9 : ∀ j, j < i + 1 → zLo g (o + 2 + 12 * j) zL0 H1 := fun j hj => by
          by_cases e : j = i
          · subst e; exact hLn
          · exact hK j (by omega)
        refine z_inc S (lv' := [(1, .int (nI (i + 1))), (0, .ref (o))]) (k := 1) (b := 1) dX4_init_34 hl rfl (by decide) (by decide) rfl (fun ls hl => ?_)
        refine lv_goto (tgt := 15) S.1 S.2.1 dX4_init_37 (by decide) ?_
        have ec : 1 + 12 * i + 1 + 11 = 1 + 12 * (i + 1) := by omega
        have es : 8 + 171 * i + 6 + 165 = 8 + 171 * (i + 1) := by omega
        rw [ec, es]
        exact ih (i + 1) ls H1 locs1 (by omega) (by omega) (by omega) hP hA hK9 hS hC (lv_sub hl [1, 0] rfl)
  exact loop 9 0 ls _ _ (Nat.zero_le _) (by omega) (by omega) hP hA (fun j hj => absurd hj (Nat.not_lt_zero j)) hS hC (lv_sub hl [1, 0] rfl)
theorem ci_X9_init : zCI yX9_init cX9_init 2 none 0 := ⟨k205, k11, by decide +kernel⟩

theorem cn_X9_init : Cond.instanceMethod yX9_init ∈ GW := k204
set_option maxRecDepth 20000 in
set_option maxHeartbeats 4000000 in
/-- c_newScript -/
theorem c_newScript (l : Launch) (g : ZG) {B : Nat} {o : Nat} (hB : B ≤ o)  : Met l yX9_init (.code yX9_init cX9_init 2 none :: GW) { frames := 2, cells := 12, slots := 110, locals := 50 } (va_Pc [.ref o] (zPre g B (fun H => H.size = o + 1 ∧ va_at g.1 zC (o, .inr (7, [.null, .int (nI 0), .null, .int (nI 0), .int (nI 0)])) H))) (zX (fun w H => w = none ∧ H.size = o + 13 ∧ zSo g o z00 (fun _ => yNo) H) o 13) 12 110 (zA B) := by
  refine zMet (by decide) (Nat.le_of_ble_eq_true rfl) ?_
  intro p e R s m args below meth c Q ls hR hargs hQ S hr hlk hP hZ hS hnm hl
  have hl : lv_has ls 2 [(0, .ref (o))] := hl
  obtain ⟨hz, hO⟩ := hP
  have hC : zCh1 o 13 s.heap s.heap := zCh1.rf
  refine lv_aload_n S.1 S.2.1 dX9_init_0 rfl (lv_at hl 0 rfl) ?_
  refine z_obj S k206 hl.1 dX9_init_1 (by rw [hR]; exact Nat.le_of_ble_eq_true rfl) (by rw [hR]; exact Nat.le_of_ble_eq_true rfl) ?_
  refine lv_aload_n S.1 S.2.1 dX9_init_4 rfl (lv_at hl 0 rfl) ?_
  refine z_bi S (k := 60) dX9_init_5 (by decide) ?_
  refine z_nwc S hZ.1 hS (N := 60) (by decide) ⟨by rw [hR]; exact Nat.le_of_ble_eq_true rfl, by rw [hR]; exact Nat.le_of_ble_eq_true rfl⟩ dX9_init_7 hz (fun H1 hA1 hz1 ho1 hS => ?_)
  have hO := hO.kept (ho1 _ (by omega))
  have hC := hC.tr (zCh1.gw hz hz1 ho1)
  have hz := hz1
  refine z_pf S hZ.1 hO hS hB (C := RX9) (Tt := TX9) rfl 0 (by decide) (v := .ref (o + 1)) k210 rfl hnm rfl (ty := (.array .char)) (by decide +kernel) rfl rfl (Nat.le_of_ble_eq_true rfl) dX9_init_9 (fun H1 locs1 hO1 hCn hz1 hS => ?_)
  have hA1 := va_kc hA1 hCn (by omega)
  have hO := hO1
  have hC := hC.tr (hCn.mono (b := o) (k := 13) (by omega) (by omega))
  have hz := hz1.trans hz
  refine lv_aload_n S.1 S.2.1 dX9_init_12 rfl (lv_at hl 0 rfl) ?_
  refine z_bi S (k := 10) dX9_init_13 (by decide) ?_
  refine z_nwq S hZ hS 4 rfl k207 (by decide) (N := 10) (by decide) ⟨by rw [hR]; exact Nat.le_of_ble_eq_true rfl, by rw [hR]; exact Nat.le_of_ble_eq_true rfl⟩ dX9_init_15 hz (fun H1 hA hz1 ho1 hS => ?_)
  have hg : zCh1 0 0 _ H1 := zCh1.gw hz hz1 ho1
  have hO := va_kc hO hg (by omega)
  have hA1 := va_kc hA1 hg (by omega)
  have hC := hC.tr (zCh1.gw hz hz1 ho1)
  have hz := hz1
  refine z_pf S hZ.1 hO hS hB (C := RX9) (Tt := TX9) rfl 2 (by decide) (v := .ref (o + 2)) k212 rfl hnm rfl (ty := (.array (.object RX2))) (by decide +kernel) rfl rfl (Nat.le_of_ble_eq_true rfl) dX9_init_18 (fun H1 locs1 hO1 hCn hz1 hS => ?_)
  have hA1 := va_kc hA1 hCn (by omega)
  have hA := va_kc hA hCn (by omega)
  have hO := hO1
  have hC := hC.tr (hCn.mono (b := o) (k := 13) (by omega) (by omega))
  have hz := hz1.trans hz
  refine z_ic S (k := 0) dX9_init_21 (by decide) ?_
  refine lv_istore_n (lv' := [(1, .int (nI (0))), (0, .ref (o))]) S.1 S.2.1 dX9_init_22 rfl hl (by decide) rfl (fun ls hl => ?_)
  have hP : zPm g o 1 TSc z00 H1 := fun k hk => match k, hk with | 0, _ => hO | k + 1, h => absurd h (by omega)
  have hA : va_at g.1 zC (o + 2, .inl (g.2 0 4, 10, .inr (.inr (.inr (.inr (fun j => if j < 0 then some (o + 3 + 1 * j) else none)))))) H1 := va_qcg (fun j _ => by rw [if_neg (Nat.not_lt_zero j)]) hA
  have loop : ∀ (n i : Nat) (ls : Array Slot) (H : Heap) (locs : List Loc), (i ≤ 10) → (10 < i + n) → H.size = o + 3 + 1 * i → zPm g o 1 TSc z00 H → va_at g.1 zC (o + 1, .inl (g.2 0 2, 60, .inl (fun _ => nI 0))) H → va_at g.1 zC (o + 2, .inl (g.2 0 4, 10, .inr (.inr (.inr (.inr (fun j => if j < i then some (o + 3 + 1 * j) else none)))))) H → (∀ j, j < i → zPm g (o + 3 + 1 * j) 1 TCo (fun _ => yNo) H) → va_S (zA B) s.heap H locs → zCh1 o 13 s.heap H → lv_has ls 2 [(0, .ref o), (1, .int (nI i))] → W p l e R s m args below meth c H locs (2 + 1 * i) (70 + 4 * i) Q (F0 m 23 ls []) := by
    intro n
    induction n with
    | zero => intro i ls H locs h1 h2; exact absurd h2 (by omega)
    | succ n ih =>
      intro i ls H locs h1 h2 hz hP hA1 hA hK hS hC hl
      refine lv_iload_n S.1 S.2.1 dX9_init_23 rfl (lv_at hl 1 rfl) ?_
      refine z_bi S (k := 10) dX9_init_24 (by decide) ?_
      refine z_cge (tgt := 48) S (by omega) (by omega) dX9_init_26 (by decide) (fun h4 => ?_) (fun h4 => ?_)
      · obtain rfl : i = 10 := by omega
        exact z_wv hQ S hr hlk hS hC ⟨rfl, by omega, (fun k hk => match k, hk with | 0, _ => hP 0 (by decide) | 1, _ => hA1 | 2, _ => va_qcg (f' := fun j => some (o + 2 + 1 + j)) (fun j hj => by rw [if_pos hj, Nat.one_mul]) hA | k + 3, h => absurd h (by omega)), fun i hi => by have h9 := hK i hi; rw [Nat.one_mul] at h9; exact h9⟩ dX9_init_48
      · refine lv_aload_n S.1 S.2.1 dX9_init_29 rfl (lv_at hl 0 rfl) ?_
        refine z_get (v := .ref (o + 2)) S hZ.1 hP 0 (by decide) rfl rfl rfl 2 (by decide) rfl k212 dX9_init_30 ?_
        refine lv_iload_n S.1 S.2.1 dX9_init_33 rfl (lv_at hl 1 rfl) ?_
        refine z_new S hZ.1 hS (C := RX2) (T := TX2) (N := 4) (ci := 1) rfl k207 k173 k8 (fs := [.null, .int (nI 0), .int (nI 0), .int (nI 0)]) tyX2 tyX2_ok (fun j hj => match j, hj with | 0, _ => rfl | 1, _ => rfl | 2, _ => rfl | 3, _ => rfl | k + 4, h => absurd h (by omega)) ⟨by rw [hR]; show _ ≤ 12; omega, by rw [hR]; show _ ≤ 110; omega⟩ dX9_init_34 hz (fun H1 hN hz1 ho1 hS => ?_)
        have hg : zCh1 0 0 _ H1 := zCh1.gw hz hz1 ho1
        have hP := hP.kept hg (by omega)
        have hA1 := va_kc hA1 hg (by omega)
        have hA := va_kc hA hg (by omega)
        have hK := fun j hj => (hK j hj).kept hg (by omega)
        have hC := hC.tr (zCh1.gw hz hz1 ho1)
        have hz := hz1
        refine lv_dup S.1 S.2.1 dX9_init_37 rfl ?_
        refine z_iN (rest := [.ref (o + 3 + 1 * i), .int (nI (i)), .ref (o + 2)]) S hZ hS (c_newCommand l g (o := o + 3 + 1 * i) (by omega)) (by omega) ci_X2_init cn_X2_init rfl (List.mem_of_getElem? (i := 7) rfl) ⟨rfl, rfl, by rw [hR]; exact Nat.le_of_ble_eq_true rfl, by rw [hR]; exact Nat.le_of_ble_eq_true rfl⟩ ⟨hz, hN⟩ hl.1 rfl (Nat.le_of_ble_eq_true rfl) dX9_init_38 ⟨by rw [hR]; show _ ≤ 12; omega, by rw [hR]; show _ ≤ 110; omega⟩ (fun H1 locs1 hPn hCn hS => ?_)
        have hP := hP.kept hCn (by omega)
        have hA1 := va_kc hA1 hCn (by omega)
        have hA := va_kc hA hCn (by omega)
        have hK := fun j hj => (hK j hj).kept hCn (by omega)
        obtain ⟨hz, hLn⟩ := hPn
        have hC := hC.tr (hCn.mono (b := o) (k := 13) (by omega) (by omega))
        refine z_aq S hZ.1 hA hS (by omega) 4 (r := (RX2, TX2, 4)) rfl (hLn 0 (by decide)) rfl h4 (by omega) dX9_init_41 (fun H1 locs1 hA9 hCn hz1 hS => ?_)
        have hP := hP.kept hCn (by omega)
        have hA1 := va_kc hA1 hCn (by omega)
        have hK := fun j hj => (hK j hj).kept hCn (by omega)
        have hLn := hLn.kept hCn (by omega)
        have hC := hC.tr (hCn.mono (b := o) (k := 13) (by omega) (by omega))
        have hz := hz1.trans hz
        have hA : va_at g.1 zC (o + 2, .inl (g.2 0 4, 10, .inr (.inr (.inr (.inr (fun j => if j < i + 1 then some (o + 3 + 1 * j) else none)))))) H1 := by rw [← va_upI (b := o + 3) (d := 1) i]; exact hA9
        have hK9 : ∀ j, j < i + 1 → zPm g (o + 3 + 1 * j) 1 TCo (fun _ => yNo) H1 := fun j hj => by
          by_cases e : j = i
          · subst e; exact hLn
          · exact hK j (by omega)
        refine z_inc S (lv' := [(1, .int (nI (i + 1))), (0, .ref (o))]) (k := 1) (b := 1) dX9_init_42 hl rfl (by decide) (by decide) rfl (fun ls hl => ?_)
        refine lv_goto (tgt := 23) S.1 S.2.1 dX9_init_45 (by decide) ?_
        have ec : 2 + 1 * i + 1 + 0 = 2 + 1 * (i + 1) := by omega
        have es : 70 + 4 * i + 4 + 0 = 70 + 4 * (i + 1) := by omega
        rw [ec, es]
        exact ih (i + 1) ls H1 locs1 (by omega) (by omega) (by omega) hP hA1 hA hK9 hS hC (lv_sub hl [1, 0] rfl)
  exact loop 11 0 ls _ _ (Nat.zero_le _) (by omega) (by omega) hP hA1 hA (fun j hj => absurd hj (Nat.not_lt_zero j)) hS hC (lv_sub hl [1, 0] rfl)
