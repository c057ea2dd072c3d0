/-! CONSTRUCTORS: the object stands at o, the heap's last cell; what is made comes behind it -/
theorem zCh1.gw {a n h : Nat} {H H1 : Heap} (hz : H.size = h) (hz1 : H1.size = h + 1) (ho : ∀ q, q < h → H1[q]? = H[q]?) : zCh1 a n H H1 := ⟨by omega, fun q hq _ => ho q (by omega)⟩
theorem va_kc {g : ZG} {q : Nat} {e : va_E} {a n : Nat} {H H1 : Heap} (h : va_at g.1 zC (q, e) H) (hc : zCh1 a n H H1) (hd : q < a ∨ a + n ≤ q) : va_at g.1 zC (q, e) H1 := h.kept (hc.2 _ h.lt hd)
theorem ci_X3_init : zCI yX3_init cX3_init 1 none 0 := ⟨k103, k5, by decide +kernel⟩

theorem cn_X3_init : Cond.instanceMethod yX3_init ∈ GW := k102
set_option maxRecDepth 20000 in
set_option maxHeartbeats 4000000 in
/-- c_newEdge -/
theorem c_newEdge (l : Launch) (g : ZG) {B : Nat} {o : Nat} (hB : B ≤ o)  : Met l yX3_init (.code yX3_init cX3_init 1 none :: GW) { frames := 1, cells := 0, slots := 0, locals := 20 } (va_Pc [.ref o] (zPre g B (fun H => H.size = o + 1 ∧ va_at g.1 zC (o, .inr (2, [.int (nI 0), .int (nI 0)])) H))) (zX (fun w H => w = none ∧ H.size = o + 1 ∧ zPm g o 1 TE z00 H) o 1) 0 0 (zA B) := by
  refine zMet (by decide) (Nat.le_of_ble_eq_true rfl) ?_
  intro p e R s m args below meth c Q ls hR hargs hQ S hr hlk hP hZ hS hnm hl
  have hl : lv_has ls 1 [(0, .ref (o))] := hl
  obtain ⟨hz, hO⟩ := hP
  have hC : zCh1 o 1 s.heap s.heap := zCh1.rf
  refine lv_aload_n S.1 S.2.1 dX3_init_0 rfl (lv_at hl 0 rfl) ?_
  refine z_obj S k104 hl.1 dX3_init_1 (by rw [hR]; exact Nat.le_of_ble_eq_true rfl) (by rw [hR]; exact Nat.le_of_ble_eq_true rfl) ?_
  exact z_wv hQ S hr hlk hS hC ⟨rfl, hz, fun k hk => match k, hk with | 0, _ => hO | k + 1, h => absurd h (by omega)⟩ dX3_init_4
theorem ci_X5_init : zCI yX5_init cX5_init 1 none 0 := ⟨k165, k7, by decide +kernel⟩

theorem cn_X5_init : Cond.instanceMethod yX5_init ∈ GW := k164
set_option maxRecDepth 20000 in
set_option maxHeartbeats 4000000 in
/-- c_newJudge -/
theorem c_newJudge (l : Launch) (g : ZG) {B : Nat} {o : Nat} (hB : B ≤ o)  : Met l yX5_init (.code yX5_init cX5_init 1 none :: GW) { frames := 1, cells := 0, slots := 0, locals := 20 } (va_Pc [.ref o] (zPre g B (fun H => H.size = o + 1 ∧ va_at g.1 zC (o, .inr (4, [.int (nI 0)])) H))) (zX (fun w H => w = none ∧ H.size = o + 1 ∧ zPm g o 1 TJu z00 H) o 1) 0 0 (zA B) := by
  refine zMet (by decide) (Nat.le_of_ble_eq_true rfl) ?_
  intro p e R s m args below meth c Q ls hR hargs hQ S hr hlk hP hZ hS hnm hl
  have hl : lv_has ls 1 [(0, .ref (o))] := hl
  obtain ⟨hz, hO⟩ := hP
  have hC : zCh1 o 1 s.heap s.heap := zCh1.rf
  refine lv_aload_n S.1 S.2.1 dX5_init_0 rfl (lv_at hl 0 rfl) ?_
  refine z_obj S k166 hl.1 dX5_init_1 (by rw [hR]; exact Nat.le_of_ble_eq_true rfl) (by rw [hR]; exact Nat.le_of_ble_eq_true rfl) ?_
  exact z_wv hQ S hr hlk hS hC ⟨rfl, hz, fun k hk => match k, hk with | 0, _ => hO | k + 1, h => absurd h (by omega)⟩ dX5_init_4
theorem ci_X10_init : zCI yX10_init cX10_init 1 none 0 := ⟨k49, k3, by decide +kernel⟩

theorem cn_X10_init : Cond.instanceMethod yX10_init ∈ GW := k48
set_option maxRecDepth 20000 in
set_option maxHeartbeats 4000000 in
/-- c_newWicks -/
theorem c_newWicks (l : Launch) (g : ZG) {B : Nat} {o : Nat} (hB : B ≤ o)  : Met l yX10_init (.code yX10_init cX10_init 1 none :: GW) { frames := 1, cells := 4, slots := 32, locals := 20 } (va_Pc [.ref o] (zPre g B (fun H => H.size = o + 1 ∧ va_at g.1 zC (o, .inr (8, [.null, .null, .null, .null, .int (nI 0)])) H))) (zX (fun w H => w = none ∧ H.size = o + 5 ∧ zPm g o 5 TW z00 H) o 5) 4 32 (zA B) := by
  refine zMet (by decide) (Nat.le_of_ble_eq_true rfl) ?_
  intro p e R s m args below meth c Q ls hR hargs hQ S hr hlk hP hZ hS hnm hl
  have hl : lv_has ls 1 [(0, .ref (o))] := hl
  obtain ⟨hz, hO⟩ := hP
  have hC : zCh1 o 5 s.heap s.heap := zCh1.rf
  refine lv_aload_n S.1 S.2.1 dX10_init_0 rfl (lv_at hl 0 rfl) ?_
  refine z_obj S k50 hl.1 dX10_init_1 (by rw [hR]; exact Nat.le_of_ble_eq_true rfl) (by rw [hR]; exact Nat.le_of_ble_eq_true rfl) ?_
  refine lv_aload_n S.1 S.2.1 dX10_init_4 rfl (lv_at hl 0 rfl) ?_
  refine z_bi S (k := 8) dX10_init_5 (by decide) ?_
  refine z_nwi S hZ.1 hS (N := 8) (by decide) ⟨by rw [hR]; exact Nat.le_of_ble_eq_true rfl, by rw [hR]; exact Nat.le_of_ble_eq_true rfl⟩ dX10_init_7 hz (fun H1 hA1 hz1 ho1 hS => ?_)
  have hO := hO.kept (ho1 _ (by omega))
  have hC := hC.tr (zCh1.gw hz hz1 ho1)
  have hz := hz1
  refine z_pf S hZ.1 hO hS hB (C := RX10) (Tt := TX10) rfl 0 (by decide) (v := .ref (o + 1)) k51 rfl hnm rfl (ty := (.array .int)) (by decide +kernel) rfl rfl (Nat.le_of_ble_eq_true rfl) dX10_init_9 (fun H1 locs1 hO1 hCn hz1 hS => ?_)
  have hA1 := va_kc hA1 hCn (by omega)
  have hO := hO1
  have hC := hC.tr (hCn.mono (b := o) (k := 5) (by omega) (by omega))
  have hz := hz1.trans hz
  refine lv_aload_n S.1 S.2.1 dX10_init_12 rfl (lv_at hl 0 rfl) ?_
  refine z_bi S (k := 8) dX10_init_13 (by decide) ?_
  refine z_nwi S hZ.1 hS (N := 8) (by decide) ⟨by rw [hR]; exact Nat.le_of_ble_eq_true rfl, by rw [hR]; exact Nat.le_of_ble_eq_true rfl⟩ dX10_init_15 hz (fun H1 hA2 hz1 ho1 hS => ?_)
  have hO := hO.kept (ho1 _ (by omega))
  have hA1 := hA1.kept (ho1 _ (by omega))
  have hC := hC.tr (zCh1.gw hz hz1 ho1)
  have hz := hz1
  refine z_pf S hZ.1 hO hS hB (C := RX10) (Tt := TX10) rfl 1 (by decide) (v := .ref (o + 2)) k52 rfl hnm rfl (ty := (.array .int)) (by decide +kernel) rfl rfl (Nat.le_of_ble_eq_true rfl) dX10_init_17 (fun H1 locs1 hO1 hCn hz1 hS => ?_)
  have hA1 := va_kc hA1 hCn (by omega)
  have hA2 := va_kc hA2 hCn (by omega)
  have hO := hO1
  have hC := hC.tr (hCn.mono (b := o) (k := 5) (by omega) (by omega))
  have hz := hz1.trans hz
  refine lv_aload_n S.1 S.2.1 dX10_init_20 rfl (lv_at hl 0 rfl) ?_
  refine z_bi S (k := 8) dX10_init_21 (by decide) ?_
  refine z_nwi S hZ.1 hS (N := 8) (by decide) ⟨by rw [hR]; exact Nat.le_of_ble_eq_true rfl, by rw [hR]; exact Nat.le_of_ble_eq_true rfl⟩ dX10_init_23 hz (fun H1 hA3 hz1 ho1 hS => ?_)
  have hO := hO.kept (ho1 _ (by omega))
  have hA1 := hA1.kept (ho1 _ (by omega))
  have hA2 := hA2.kept (ho1 _ (by omega))
  have hC := hC.tr (zCh1.gw hz hz1 ho1)
  have hz := hz1
  refine z_pf S hZ.1 hO hS hB (C := RX10) (Tt := TX10) rfl 2 (by decide) (v := .ref (o + 3)) k53 rfl hnm rfl (ty := (.array .int)) (by decide +kernel) rfl rfl (Nat.le_of_ble_eq_true rfl) dX10_init_25 (fun H1 locs1 hO1 hCn hz1 hS => ?_)
  have hA1 := va_kc hA1 hCn (by omega)
  have hA2 := va_kc hA2 hCn (by omega)
  have hA3 := va_kc hA3 hCn (by omega)
  have hO := hO1
  have hC := hC.tr (hCn.mono (b := o) (k := 5) (by omega) (by omega))
  have hz := hz1.trans hz
  refine lv_aload_n S.1 S.2.1 dX10_init_28 rfl (lv_at hl 0 rfl) ?_
  refine z_bi S (k := 8) dX10_init_29 (by decide) ?_
  refine z_nwz S hZ.1 hS (N := 8) (by decide) ⟨by rw [hR]; exact Nat.le_of_ble_eq_true rfl, by rw [hR]; exact Nat.le_of_ble_eq_true rfl⟩ dX10_init_31 hz (fun H1 hA4 hz1 ho1 hS => ?_)
  have hO := hO.kept (ho1 _ (by omega))
  have hA1 := hA1.kept (ho1 _ (by omega))
  have hA2 := hA2.kept (ho1 _ (by omega))
  have hA3 := hA3.kept (ho1 _ (by omega))
  have hC := hC.tr (zCh1.gw hz hz1 ho1)
  have hz := hz1
  refine z_pf S hZ.1 hO hS hB (C := RX10) (Tt := TX10) rfl 3 (by decide) (v := .ref (o + 4)) k56 rfl hnm rfl (ty := (.array .boolean)) (by decide +kernel) rfl rfl (Nat.le_of_ble_eq_true rfl) dX10_init_33 (fun H1 locs1 hO1 hCn hz1 hS => ?_)
  have hA1 := va_kc hA1 hCn (by omega)
  have hA2 := va_kc hA2 hCn (by omega)
  have hA3 := va_kc hA3 hCn (by omega)
  have hA4 := va_kc hA4 hCn (by omega)
  have hO := hO1
  have hC := hC.tr (hCn.mono (b := o) (k := 5) (by omega) (by omega))
  have hz := hz1.trans hz
  exact z_wv hQ S hr hlk hS hC ⟨rfl, hz, fun k hk => match k, hk with | 0, _ => hO | 1, _ => hA1 | 2, _ => hA2 | 3, _ => hA3 | 4, _ => hA4 | k + 5, h => absurd h (by omega)⟩ dX10_init_36
theorem ci_X1_init : zCI yX1_init cX1_init 1 none 0 := ⟨k79, k4, by decide +kernel⟩

theorem cn_X1_init : Cond.instanceMethod yX1_init ∈ GW := k78
set_option maxRecDepth 20000 in
set_option maxHeartbeats 4000000 in
/-- c_newCloth -/
theorem c_newCloth (l : Launch) (g : ZG) {B : Nat} {o : Nat} (hB : B ≤ o)  : Met l yX1_init (.code yX1_init cX1_init 1 none :: GW) { frames := 1, cells := 3, slots := 120, locals := 20 } (va_Pc [.ref o] (zPre g B (fun H => H.size = o + 1 ∧ va_at g.1 zC (o, .inr (0, [.null, .null, .null, .int (nI 0)])) H))) (zX (fun w H => w = none ∧ H.size = o + 4 ∧ zPm g o 4 TC z00 H) o 4) 3 120 (zA B) := by
  refine zMet (by decide) (Nat.le_of_ble_eq_true rfl) ?_
  intro p e R s m args below meth c Q ls hR hargs hQ S hr hlk hP hZ hS hnm hl
  have hl : lv_has ls 1 [(0, .ref (o))] := hl
  obtain ⟨hz, hO⟩ := hP
  have hC : zCh1 o 4 s.heap s.heap := zCh1.rf
  refine lv_aload_n S.1 S.2.1 dX1_init_0 rfl (lv_at hl 0 rfl) ?_
  refine z_obj S k80 hl.1 dX1_init_1 (by rw [hR]; exact Nat.le_of_ble_eq_true rfl) (by rw [hR]; exact Nat.le_of_ble_eq_true rfl) ?_
  refine lv_aload_n S.1 S.2.1 dX1_init_4 rfl (lv_at hl 0 rfl) ?_
  refine z_bi S (k := 40) dX1_init_5 (by decide) ?_
  refine z_nwi S hZ.1 hS (N := 40) (by decide) ⟨by rw [hR]; exact Nat.le_of_ble_eq_true rfl, by rw [hR]; exact Nat.le_of_ble_eq_true rfl⟩ dX1_init_7 hz (fun H1 hA1 hz1 ho1 hS => ?_)
  have hO := hO.kept (ho1 _ (by omega))
  have hC := hC.tr (zCh1.gw hz hz1 ho1)
  have hz := hz1
  refine z_pf S hZ.1 hO hS hB (C := RX1) (Tt := TX1) rfl 0 (by decide) (v := .ref (o + 1)) k81 rfl hnm rfl (ty := (.array .int)) (by decide +kernel) rfl rfl (Nat.le_of_ble_eq_true rfl) dX1_init_9 (fun H1 locs1 hO1 hCn hz1 hS => ?_)
  have hA1 := va_kc hA1 hCn (by omega)
  have hO := hO1
  have hC := hC.tr (hCn.mono (b := o) (k := 4) (by omega) (by omega))
  have hz := hz1.trans hz
  refine lv_aload_n S.1 S.2.1 dX1_init_12 rfl (lv_at hl 0 rfl) ?_
  refine z_bi S (k := 40) dX1_init_13 (by decide) ?_
  refine z_nwi S hZ.1 hS (N := 40) (by decide) ⟨by rw [hR]; exact Nat.le_of_ble_eq_true rfl, by rw [hR]; exact Nat.le_of_ble_eq_true rfl⟩ dX1_init_15 hz (fun H1 hA2 hz1 ho1 hS => ?_)
  have hO := hO.kept (ho1 _ (by omega))
  have hA1 := hA1.kept (ho1 _ (by omega))
  have hC := hC.tr (zCh1.gw hz hz1 ho1)
  have hz := hz1
  refine z_pf S hZ.1 hO hS hB (C := RX1) (Tt := TX1) rfl 1 (by decide) (v := .ref (o + 2)) k83 rfl hnm rfl (ty := (.array .int)) (by decide +kernel) rfl rfl (Nat.le_of_ble_eq_true rfl) dX1_init_17 (fun H1 locs1 hO1 hCn hz1 hS => ?_)
  have hA1 := va_kc hA1 hCn (by omega)
  have hA2 := va_kc hA2 hCn (by omega)
  have hO := hO1
  have hC := hC.tr (hCn.mono (b := o) (k := 4) (by omega) (by omega))
  have hz := hz1.trans hz
  refine lv_aload_n S.1 S.2.1 dX1_init_20 rfl (lv_at hl 0 rfl) ?_
  refine z_bi S (k := 40) dX1_init_21 (by decide) ?_
  refine z_nwi S hZ.1 hS (N := 40) (by decide) ⟨by rw [hR]; exact Nat.le_of_ble_eq_true rfl, by rw [hR]; exact Nat.le_of_ble_eq_true rfl⟩ dX1_init_23 hz (fun H1 hA3 hz1 ho1 hS => ?_)
  have hO := hO.kept (ho1 _ (by omega))
  have hA1 := hA1.kept (ho1 _ (by omega))
  have hA2 := hA2.kept (ho1 _ (by omega))
  have hC := hC.tr (zCh1.gw hz hz1 ho1)
  have hz := hz1
  refine z_pf S hZ.1 hO hS hB (C := RX1) (Tt := TX1) rfl 2 (by decide) (v := .ref (o + 3)) k86 rfl hnm rfl (ty := (.array .int)) (by decide +kernel) rfl rfl (Nat.le_of_ble_eq_true rfl) dX1_init_25 (fun H1 locs1 hO1 hCn hz1 hS => ?_)
  have hA1 := va_kc hA1 hCn (by omega)
  have hA2 := va_kc hA2 hCn (by omega)
  have hA3 := va_kc hA3 hCn (by omega)
  have hO := hO1
  have hC := hC.tr (hCn.mono (b := o) (k := 4) (by omega) (by omega))
  have hz := hz1.trans hz
  exact z_wv hQ S hr hlk hS hC ⟨rfl, hz, fun k hk => match k, hk with | 0, _ => hO | 1, _ => hA1 | 2, _ => hA2 | 3, _ => hA3 | k + 4, h => absurd h (by omega)⟩ dX1_init_28
theorem ci_X7_init : zCI yX7_init cX7_init 1 none 0 := ⟨k234, k12, by decide +kernel⟩

theorem cn_X7_init : Cond.instanceMethod yX7_init ∈ GW := k233
set_option maxRecDepth 20000 in
set_option maxHeartbeats 4000000 in
/-- c_newLine -/
theorem c_newLine (l : Launch) (g : ZG) {B : Nat} {o : Nat} (hB : B ≤ o)  : Met l yX7_init (.code yX7_init cX7_init 1 none :: GW) { frames := 1, cells := 1, slots := 48, locals := 20 } (va_Pc [.ref o] (zPre g B (fun H => H.size = o + 1 ∧ va_at g.1 zC (o, .inr (5, [.null, .int (nI 0)])) H))) (zX (fun w H => w = none ∧ H.size = o + 2 ∧ zPm g o 2 TLi z00 H) o 2) 1 48 (zA B) := by
  refine zMet (by decide) (Nat.le_of_ble_eq_true rfl) ?_
  intro p e R s m args below meth c Q ls hR hargs hQ S hr hlk hP hZ hS hnm hl
  have hl : lv_has ls 1 [(0, .ref (o))] := hl
  obtain ⟨hz, hO⟩ := hP
  have hC : zCh1 o 2 s.heap s.heap := zCh1.rf
  refine lv_aload_n S.1 S.2.1 dX7_init_0 rfl (lv_at hl 0 rfl) ?_
  refine z_obj S k235 hl.1 dX7_init_1 (by rw [hR]; exact Nat.le_of_ble_eq_true rfl) (by rw [hR]; exact Nat.le_of_ble_eq_true rfl) ?_
  refine lv_aload_n S.1 S.2.1 dX7_init_4 rfl (lv_at hl 0 rfl) ?_
  refine z_bi S (k := 48) dX7_init_5 (by decide) ?_
  refine z_nwc S hZ.1 hS (N := 48) (by decide) ⟨by rw [hR]; exact Nat.le_of_ble_eq_true rfl, by rw [hR]; exact Nat.le_of_ble_eq_true rfl⟩ dX7_init_7 hz (fun H1 hA1 hz1 ho1 hS => ?_)
  have hO := hO.kept (ho1 _ (by omega))
  have hC := hC.tr (zCh1.gw hz hz1 ho1)
  have hz := hz1
  refine z_pf S hZ.1 hO hS hB (C := RX7) (Tt := TX7) rfl 0 (by decide) (v := .ref (o + 1)) k236 rfl hnm rfl (ty := (.array .char)) (by decide +kernel) rfl rfl (Nat.le_of_ble_eq_true rfl) dX7_init_9 (fun H1 locs1 hO1 hCn hz1 hS => ?_)
  have hA1 := va_kc hA1 hCn (by omega)
  have hO := hO1
  have hC := hC.tr (hCn.mono (b := o) (k := 2) (by omega) (by omega))
  have hz := hz1.trans hz
  exact z_wv hQ S hr hlk hS hC ⟨rfl, hz, fun k hk => match k, hk with | 0, _ => hO | 1, _ => hA1 | k + 2, h => absurd h (by omega)⟩ dX7_init_12
