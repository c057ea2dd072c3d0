def zS0 : zSt := fun _ _ _ _ => 0
theorem ci_X11_init : zCI yX11_init cX11_init 1 none 0 := ⟨k35, k1, by decide +kernel⟩

theorem cn_X11_init : Cond.instanceMethod yX11_init ∈ GW := k34
set_option maxRecDepth 20000 in
set_option maxHeartbeats 4000000 in
/-- c_newCandleLoom -/
theorem c_newCandleLoom (l : Launch) (g : ZG) {B : Nat} {o : Nat} (hB : B ≤ o)  : Met l yX11_init (.code yX11_init cX11_init 1 none :: GW) { frames := 4, cells := 151, slots := 2062, locals := 100 } (va_Pc [.ref o] (zPre g B (fun H => H.size = o + 1 ∧ va_at g.1 zC (o, .inr (9, [.null, .null, .null, .int (nI 0), .null, .null, .null, .null, .int (nI 0), .int (nI 0), .null, .int (nI 0), .int (nI 0), .int (nI 0)])) H))) (zX (fun w H => w = none ∧ H.size = o + 152 ∧ zSO g o zS0 H) o 152) 151 2062 (zA B) := by
  refine zMet (by decide) (Nat.le_of_ble_eq_true rfl) ?_
  intro p e R s m args below meth c Q ls hR hargs hQ S hr hlk hP hZ hS hnm hl
  have hl : lv_has ls 1 [(0, .ref (o))] := hl
  obtain ⟨hz, hO⟩ := hP
  have hC : zCh1 o 152 s.heap s.heap := zCh1.rf
  refine lv_aload_n S.1 S.2.1 dX11_init_0 rfl (lv_at hl 0 rfl) ?_
  refine z_obj S k36 hl.1 dX11_init_1 (by rw [hR]; exact Nat.le_of_ble_eq_true rfl) (by rw [hR]; exact Nat.le_of_ble_eq_true rfl) ?_
  refine lv_aload_n S.1 S.2.1 dX11_init_4 rfl (lv_at hl 0 rfl) ?_
  refine z_new S hZ.1 hS (C := RX8) (T := TX8) (N := 6) (ci := 6) rfl k39 k40 k2 (fs := [.null, .null, .null, .null, .int (nI 0), .int (nI 0)]) tyX8 tyX8_ok (fun j hj => match j, hj with | 0, _ => rfl | 1, _ => rfl | 2, _ => rfl | 3, _ => rfl | 4, _ => rfl | 5, _ => rfl | k + 6, h => absurd h (by omega)) ⟨by rw [hR]; show _ ≤ 151; omega, by rw [hR]; show _ ≤ 2062; omega⟩ dX11_init_5 hz (fun H1 hN hz1 ho1 hS => ?_)
  have hg : zCh1 0 0 _ H1 := zCh1.gw hz hz1 ho1
  replace hO := va_kc hO hg (by omega)
  replace hC := hC.tr (zCh1.gw hz hz1 ho1)
  replace hz := hz1
  clear hz1 ho1 hg
  refine lv_dup S.1 S.2.1 dX11_init_8 rfl ?_
  refine z_iN (rest := [.ref (o + 1), .ref (o)]) S hZ hS (c_newLoom l g (o := o + 1) (by omega)) (by omega) ci_X8_init cn_X8_init rfl (List.mem_of_getElem? (i := 0) rfl) ⟨rfl, rfl, by rw [hR]; exact Nat.le_of_ble_eq_true rfl, by rw [hR]; exact Nat.le_of_ble_eq_true rfl⟩ ⟨hz, hN⟩ hl.1 rfl (Nat.le_of_ble_eq_true rfl) dX11_init_9 ⟨by rw [hR]; show _ ≤ 151; omega, by rw [hR]; show _ ≤ 2062; omega⟩ (fun H1 locs1 hPn hCn hS => ?_)
  replace hO := va_kc hO hCn (by omega)
  obtain ⟨hz, hL9⟩ := hPn
  replace hC := hC.tr (hCn.mono (b := o) (k := 152) (by omega) (by omega))
  clear hCn hN
  replace hz : H1.size = o + 13 := hz.trans (by omega)
  refine W.widen (k := 12) (n := 171) (by omega) (by omega) ?_
  refine z_pf S hZ.1 hO hS hB (C := RX11) (Tt := TX11) rfl 0 (by decide) (v := .ref (o + 1)) k245 rfl hnm rfl (ty := (.object RX8)) (by decide +kernel) rfl rfl (Nat.le_of_ble_eq_true rfl) dX11_init_12 (fun H1 locs1 hO1 hCn hz1 hS => ?_)
  replace hL9 := hL9.kept hCn (by omega)
  replace hO := hO1
  replace hC := hC.tr (hCn.mono (b := o) (k := 152) (by omega) (by omega))
  replace hz := hz1.trans hz
  clear hz1 hCn hO1
  replace hO : va_at g.1 zC (o, .inr (9, [.ref (o + 1), .null, .null, .int (nI 0), .null, .null, .null, .null, .int (nI 0), .int (nI 0), .null, .int (nI 0), .int (nI 0), .int (nI 0)])) H1 := hO
  refine lv_aload_n S.1 S.2.1 dX11_init_15 rfl (lv_at hl 0 rfl) ?_
  refine z_new S hZ.1 hS (C := RX8) (T := TX8) (N := 6) (ci := 6) rfl k39 k40 k2 (fs := [.null, .null, .null, .null, .int (nI 0), .int (nI 0)]) tyX8 tyX8_ok (fun j hj => match j, hj with | 0, _ => rfl | 1, _ => rfl | 2, _ => rfl | 3, _ => rfl | 4, _ => rfl | 5, _ => rfl | k + 6, h => absurd h (by omega)) ⟨by rw [hR]; show _ ≤ 151; omega, by rw [hR]; show _ ≤ 2062; omega⟩ dX11_init_16 hz (fun H1 hN hz1 ho1 hS => ?_)
  have hg : zCh1 0 0 _ H1 := zCh1.gw hz hz1 ho1
  replace hO := va_kc hO hg (by omega)
  replace hL9 := hL9.kept hg (by omega)
  replace hC := hC.tr (zCh1.gw hz hz1 ho1)
  replace hz := hz1
  clear hz1 ho1 hg
  refine lv_dup S.1 S.2.1 dX11_init_19 rfl ?_
  refine z_iN (rest := [.ref (o + 13), .ref (o)]) S hZ hS (c_newLoom l g (o := o + 13) (by omega)) (by omega) ci_X8_init cn_X8_init rfl (List.mem_of_getElem? (i := 0) rfl) ⟨rfl, rfl, by rw [hR]; exact Nat.le_of_ble_eq_true rfl, by rw [hR]; exact Nat.le_of_ble_eq_true rfl⟩ ⟨hz, hN⟩ hl.1 rfl (Nat.le_of_ble_eq_true rfl) dX11_init_20 ⟨by rw [hR]; show _ ≤ 151; omega, by rw [hR]; show _ ≤ 2062; omega⟩ (fun H1 locs1 hPn hCn hS => ?_)
  replace hO := va_kc hO hCn (by omega)
  replace hL9 := hL9.kept hCn (by omega)
  obtain ⟨hz, hF9⟩ := hPn
  replace hC := hC.tr (hCn.mono (b := o) (k := 152) (by omega) (by omega))
  clear hCn hN
  replace hz : H1.size = o + 25 := hz.trans (by omega)
  refine W.widen (k := 24) (n := 342) (by omega) (by omega) ?_
  refine z_pf S hZ.1 hO hS hB (C := RX11) (Tt := TX11) rfl 1 (by decide) (v := .ref (o + 13)) k246 rfl hnm rfl (ty := (.object RX8)) (by decide +kernel) rfl rfl (Nat.le_of_ble_eq_true rfl) dX11_init_23 (fun H1 locs1 hO1 hCn hz1 hS => ?_)
  replace hL9 := hL9.kept hCn (by omega)
  replace hF9 := hF9.kept hCn (by omega)
  replace hO := hO1
  replace hC := hC.tr (hCn.mono (b := o) (k := 152) (by omega) (by omega))
  replace hz := hz1.trans hz
  clear hz1 hCn hO1
  replace hO : va_at g.1 zC (o, .inr (9, [.ref (o + 1), .ref (o + 13), .null, .int (nI 0), .null, .null, .null, .null, .int (nI 0), .int (nI 0), .null, .int (nI 0), .int (nI 0), .int (nI 0)])) H1 := hO
  refine lv_aload_n S.1 S.2.1 dX11_init_26 rfl (lv_at hl 0 rfl) ?_
  refine z_new S hZ.1 hS (C := RX8) (T := TX8) (N := 6) (ci := 6) rfl k39 k40 k2 (fs := [.null, .null, .null, .null, .int (nI 0), .int (nI 0)]) tyX8 tyX8_ok (fun j hj => match j, hj with | 0, _ => rfl | 1, _ => rfl | 2, _ => rfl | 3, _ => rfl | 4, _ => rfl | 5, _ => rfl | k + 6, h => absurd h (by omega)) ⟨by rw [hR]; show _ ≤ 151; omega, by rw [hR]; show _ ≤ 2062; omega⟩ dX11_init_27 hz (fun H1 hN hz1 ho1 hS => ?_)
  have hg : zCh1 0 0 _ H1 := zCh1.gw hz hz1 ho1
  replace hO := va_kc hO hg (by omega)
  replace hL9 := hL9.kept hg (by omega)
  replace hF9 := hF9.kept hg (by omega)
  replace hC := hC.tr (zCh1.gw hz hz1 ho1)
  replace hz := hz1
  clear hz1 ho1 hg
  refine lv_dup S.1 S.2.1 dX11_init_30 rfl ?_
  refine z_iN (rest := [.ref (o + 25), .ref (o)]) S hZ hS (c_newLoom l g (o := o + 25) (by omega)) (by omega) ci_X8_init cn_X8_init rfl (List.mem_of_getElem? (i := 0) rfl) ⟨rfl, rfl, by rw [hR]; exact Nat.le_of_ble_eq_true rfl, by rw [hR]; exact Nat.le_of_ble_eq_true rfl⟩ ⟨hz, hN⟩ hl.1 rfl (Nat.le_of_ble_eq_true rfl) dX11_init_31 ⟨by rw [hR]; show _ ≤ 151; omega, by rw [hR]; show _ ≤ 2062; omega⟩ (fun H1 locs1 hPn hCn hS => ?_)
  replace hO := va_kc hO hCn (by omega)
  replace hL9 := hL9.kept hCn (by omega)
  replace hF9 := hF9.kept hCn (by omega)
  obtain ⟨hz, hN9⟩ := hPn
  replace hC := hC.tr (hCn.mono (b := o) (k := 152) (by omega) (by omega))
  clear hCn hN
  replace hz : H1.size = o + 37 := hz.trans (by omega)
  refine W.widen (k := 36) (n := 513) (by omega) (by omega) ?_
  refine z_pf S hZ.1 hO hS hB (C := RX11) (Tt := TX11) rfl 2 (by decide) (v := .ref (o + 25)) k247 rfl hnm rfl (ty := (.object RX8)) (by decide +kernel) rfl rfl (Nat.le_of_ble_eq_true rfl) dX11_init_34 (fun H1 locs1 hO1 hCn hz1 hS => ?_)
  replace hL9 := hL9.kept hCn (by omega)
  replace hF9 := hF9.kept hCn (by omega)
  replace hN9 := hN9.kept hCn (by omega)
  replace hO := hO1
  replace hC := hC.tr (hCn.mono (b := o) (k := 152) (by omega) (by omega))
  replace hz := hz1.trans hz
  clear hz1 hCn hO1
  replace hO : va_at g.1 zC (o, .inr (9, [.ref (o + 1), .ref (o + 13), .ref (o + 25), .int (nI 0), .null, .null, .null, .null, .int (nI 0), .int (nI 0), .null, .int (nI 0), .int (nI 0), .int (nI 0)])) H1 := hO
  refine lv_aload_n S.1 S.2.1 dX11_init_37 rfl (lv_at hl 0 rfl) ?_
  refine z_new S hZ.1 hS (C := RX4) (T := TX4) (N := 3) (ci := 3) rfl k141 k142 k6 (fs := [.null, .int (nI 0), .int (nI 0)]) tyX4 tyX4_ok (fun j hj => match j, hj with | 0, _ => rfl | 1, _ => rfl | 2, _ => rfl | k + 3, h => absurd h (by omega)) ⟨by rw [hR]; show _ ≤ 151; omega, by rw [hR]; show _ ≤ 2062; omega⟩ dX11_init_38 hz (fun H1 hN hz1 ho1 hS => ?_)
  have hg : zCh1 0 0 _ H1 := zCh1.gw hz hz1 ho1
  replace hO := va_kc hO hg (by omega)
  replace hL9 := hL9.kept hg (by omega)
  replace hF9 := hF9.kept hg (by omega)
  replace hN9 := hN9.kept hg (by omega)
  replace hC := hC.tr (zCh1.gw hz hz1 ho1)
  replace hz := hz1
  clear hz1 ho1 hg
  refine lv_dup S.1 S.2.1 dX11_init_41 rfl ?_
  refine z_iM (rest := [.ref (o + 37), .ref (o)]) S hZ hS (c_newHistory l g (o := o + 37) (by omega)) (by omega) ci_X4_init cn_X4_init rfl k143 ⟨rfl, rfl, by rw [hR]; exact Nat.le_of_ble_eq_true rfl, by rw [hR]; exact Nat.le_of_ble_eq_true rfl⟩ ⟨hz, hN⟩ hl.1 rfl (Nat.le_of_ble_eq_true rfl) dX11_init_42 ⟨by rw [hR]; exact Nat.le_of_ble_eq_true rfl, by rw [hR]; exact Nat.le_of_ble_eq_true rfl⟩ (fun H1 locs1 hPn hCn hS => ?_)
  replace hO := va_kc hO hCn (by omega)
  replace hL9 := hL9.kept hCn (by omega)
  replace hF9 := hF9.kept hCn (by omega)
  replace hN9 := hN9.kept hCn (by omega)
  obtain ⟨hz, hH9⟩ := hPn
  replace hC := hC.tr (hCn.mono (b := o) (k := 152) (by omega) (by omega))
  clear hCn hN
  replace hz : H1.size = o + 135 := hz.trans (by omega)
  refine W.widen (k := 134) (n := 1892) (by omega) (by omega) ?_
  refine z_pf S hZ.1 hO hS hB (C := RX11) (Tt := TX11) rfl 4 (by decide) (v := .ref (o + 37)) k249 rfl hnm rfl (ty := (.object RX4)) (by decide +kernel) rfl rfl (Nat.le_of_ble_eq_true rfl) dX11_init_45 (fun H1 locs1 hO1 hCn hz1 hS => ?_)
  replace hL9 := hL9.kept hCn (by omega)
  replace hF9 := hF9.kept hCn (by omega)
  replace hN9 := hN9.kept hCn (by omega)
  replace hH9 := hH9.kept hCn (by omega)
  replace hO := hO1
  replace hC := hC.tr (hCn.mono (b := o) (k := 152) (by omega) (by omega))
  replace hz := hz1.trans hz
  clear hz1 hCn hO1
  replace hO : va_at g.1 zC (o, .inr (9, [.ref (o + 1), .ref (o + 13), .ref (o + 25), .int (nI 0), .ref (o + 37), .null, .null, .null, .int (nI 0), .int (nI 0), .null, .int (nI 0), .int (nI 0), .int (nI 0)])) H1 := hO
  refine lv_aload_n S.1 S.2.1 dX11_init_48 rfl (lv_at hl 0 rfl) ?_
  refine z_new S hZ.1 hS (C := RX5) (T := TX5) (N := 1) (ci := 4) rfl k161 k162 k7 (fs := [.int (nI 0)]) tyX5 tyX5_ok (fun j hj => match j, hj with | 0, _ => rfl | k + 1, h => absurd h (by omega)) ⟨by rw [hR]; show _ ≤ 151; omega, by rw [hR]; show _ ≤ 2062; omega⟩ dX11_init_49 hz (fun H1 hN hz1 ho1 hS => ?_)
  have hg : zCh1 0 0 _ H1 := zCh1.gw hz hz1 ho1
  replace hO := va_kc hO hg (by omega)
  replace hL9 := hL9.kept hg (by omega)
  replace hF9 := hF9.kept hg (by omega)
  replace hN9 := hN9.kept hg (by omega)
  replace hH9 := hH9.kept hg (by omega)
  replace hC := hC.tr (zCh1.gw hz hz1 ho1)
  replace hz := hz1
  clear hz1 ho1 hg
  refine lv_dup S.1 S.2.1 dX11_init_52 rfl ?_
  refine z_iN (rest := [.ref (o + 135), .ref (o)]) S hZ hS (c_newJudge l g (o := o + 135) (by omega)) (by omega) ci_X5_init cn_X5_init rfl (List.mem_of_getElem? (i := 5) rfl) ⟨rfl, rfl, by rw [hR]; exact Nat.le_of_ble_eq_true rfl, by rw [hR]; exact Nat.le_of_ble_eq_true rfl⟩ ⟨hz, hN⟩ hl.1 rfl (Nat.le_of_ble_eq_true rfl) dX11_init_53 ⟨by rw [hR]; show _ ≤ 151; omega, by rw [hR]; show _ ≤ 2062; omega⟩ (fun H1 locs1 hPn hCn hS => ?_)
  replace hO := va_kc hO hCn (by omega)
  replace hL9 := hL9.kept hCn (by omega)
  replace hF9 := hF9.kept hCn (by omega)
  replace hN9 := hN9.kept hCn (by omega)
  replace hH9 := hH9.kept hCn (by omega)
  obtain ⟨hz, hJ9⟩ := hPn
  replace hC := hC.tr (hCn.mono (b := o) (k := 152) (by omega) (by omega))
  clear hCn hN
  replace hz : H1.size = o + 136 := hz.trans (by omega)
  refine W.widen (k := 135) (n := 1893) (by omega) (by omega) ?_
  refine z_pf S hZ.1 hO hS hB (C := RX11) (Tt := TX11) rfl 5 (by decide) (v := .ref (o + 135)) k250 rfl hnm rfl (ty := (.object RX5)) (by decide +kernel) rfl rfl (Nat.le_of_ble_eq_true rfl) dX11_init_56 (fun H1 locs1 hO1 hCn hz1 hS => ?_)
  replace hL9 := hL9.kept hCn (by omega)
  replace hF9 := hF9.kept hCn (by omega)
  replace hN9 := hN9.kept hCn (by omega)
  replace hH9 := hH9.kept hCn (by omega)
  replace hJ9 := hJ9.kept hCn (by omega)
  replace hO := hO1
  replace hC := hC.tr (hCn.mono (b := o) (k := 152) (by omega) (by omega))
  replace hz := hz1.trans hz
  clear hz1 hCn hO1
  replace hO : va_at g.1 zC (o, .inr (9, [.ref (o + 1), .ref (o + 13), .ref (o + 25), .int (nI 0), .ref (o + 37), .ref (o + 135), .null, .null, .int (nI 0), .int (nI 0), .null, .int (nI 0), .int (nI 0), .int (nI 0)])) H1 := hO
  refine lv_aload_n S.1 S.2.1 dX11_init_59 rfl (lv_at hl 0 rfl) ?_
  refine z_new S hZ.1 hS (C := RX2) (T := TX2) (N := 4) (ci := 1) rfl k172 k173 k8 (fs := [.null, .int (nI 0), .int (nI 0), .int (nI 0)]) tyX2 tyX2_ok (fun j hj => match j, hj with | 0, _ => rfl | 1, _ => rfl | 2, _ => rfl | 3, _ => rfl | k + 4, h => absurd h (by omega)) ⟨by rw [hR]; show _ ≤ 151; omega, by rw [hR]; show _ ≤ 2062; omega⟩ dX11_init_60 hz (fun H1 hN hz1 ho1 hS => ?_)
  have hg : zCh1 0 0 _ H1 := zCh1.gw hz hz1 ho1
  replace hO := va_kc hO hg (by omega)
  replace hL9 := hL9.kept hg (by omega)
  replace hF9 := hF9.kept hg (by omega)
  replace hN9 := hN9.kept hg (by omega)
  replace hH9 := hH9.kept hg (by omega)
  replace hJ9 := hJ9.kept hg (by omega)
  replace hC := hC.tr (zCh1.gw hz hz1 ho1)
  replace hz := hz1
  clear hz1 ho1 hg
  refine lv_dup S.1 S.2.1 dX11_init_63 rfl ?_
  refine z_iN (rest := [.ref (o + 136), .ref (o)]) S hZ hS (c_newCommand l g (o := o + 136) (by omega)) (by omega) ci_X2_init cn_X2_init rfl (List.mem_of_getElem? (i := 6) rfl) ⟨rfl, rfl, by rw [hR]; exact Nat.le_of_ble_eq_true rfl, by rw [hR]; exact Nat.le_of_ble_eq_true rfl⟩ ⟨hz, hN⟩ hl.1 rfl (Nat.le_of_ble_eq_true rfl) dX11_init_64 ⟨by rw [hR]; show _ ≤ 151; omega, by rw [hR]; show _ ≤ 2062; omega⟩ (fun H1 locs1 hPn hCn hS => ?_)
  replace hO := va_kc hO hCn (by omega)
  replace hL9 := hL9.kept hCn (by omega)
  replace hF9 := hF9.kept hCn (by omega)
  replace hN9 := hN9.kept hCn (by omega)
  replace hH9 := hH9.kept hCn (by omega)
  replace hJ9 := hJ9.kept hCn (by omega)
  obtain ⟨hz, hQ9⟩ := hPn
  replace hC := hC.tr (hCn.mono (b := o) (k := 152) (by omega) (by omega))
  clear hCn hN
  replace hz : H1.size = o + 137 := hz.trans (by omega)
  refine W.widen (k := 136) (n := 1897) (by omega) (by omega) ?_
  refine z_pf S hZ.1 hO hS hB (C := RX11) (Tt := TX11) rfl 6 (by decide) (v := .ref (o + 136)) k251 rfl hnm rfl (ty := (.object RX2)) (by decide +kernel) rfl rfl (Nat.le_of_ble_eq_true rfl) dX11_init_67 (fun H1 locs1 hO1 hCn hz1 hS => ?_)
  replace hL9 := hL9.kept hCn (by omega)
  replace hF9 := hF9.kept hCn (by omega)
  replace hN9 := hN9.kept hCn (by omega)
  replace hH9 := hH9.kept hCn (by omega)
  replace hJ9 := hJ9.kept hCn (by omega)
  replace hQ9 := hQ9.kept hCn (by omega)
  replace hO := hO1
  replace hC := hC.tr (hCn.mono (b := o) (k := 152) (by omega) (by omega))
  replace hz := hz1.trans hz
  clear hz1 hCn hO1
  replace hO : va_at g.1 zC (o, .inr (9, [.ref (o + 1), .ref (o + 13), .ref (o + 25), .int (nI 0), .ref (o + 37), .ref (o + 135), .ref (o + 136), .null, .int (nI 0), .int (nI 0), .null, .int (nI 0), .int (nI 0), .int (nI 0)])) H1 := hO
  refine lv_aload_n S.1 S.2.1 dX11_init_70 rfl (lv_at hl 0 rfl) ?_
  refine z_new S hZ.1 hS (C := RX9) (T := TX9) (N := 5) (ci := 7) rfl k201 k202 k11 (fs := [.null, .int (nI 0), .null, .int (nI 0), .int (nI 0)]) tyX9 tyX9_ok (fun j hj => match j, hj with | 0, _ => rfl | 1, _ => rfl | 2, _ => rfl | 3, _ => rfl | 4, _ => rfl | k + 5, h => absurd h (by omega)) ⟨by rw [hR]; show _ ≤ 151; omega, by rw [hR]; show _ ≤ 2062; omega⟩ dX11_init_71 hz (fun H1 hN hz1 ho1 hS => ?_)
  have hg : zCh1 0 0 _ H1 := zCh1.gw hz hz1 ho1
  replace hO := va_kc hO hg (by omega)
  replace hL9 := hL9.kept hg (by omega)
  replace hF9 := hF9.kept hg (by omega)
  replace hN9 := hN9.kept hg (by omega)
  replace hH9 := hH9.kept hg (by omega)
  replace hJ9 := hJ9.kept hg (by omega)
  replace hQ9 := hQ9.kept hg (by omega)
  replace hC := hC.tr (zCh1.gw hz hz1 ho1)
  replace hz := hz1
  clear hz1 ho1 hg
  refine lv_dup S.1 S.2.1 dX11_init_74 rfl ?_
  refine z_iM (rest := [.ref (o + 137), .ref (o)]) S hZ hS (c_newScript l g (o := o + 137) (by omega)) (by omega) ci_X9_init cn_X9_init rfl k203 ⟨rfl, rfl, by rw [hR]; exact Nat.le_of_ble_eq_true rfl, by rw [hR]; exact Nat.le_of_ble_eq_true rfl⟩ ⟨hz, hN⟩ hl.1 rfl (Nat.le_of_ble_eq_true rfl) dX11_init_75 ⟨by rw [hR]; exact Nat.le_of_ble_eq_true rfl, by rw [hR]; exact Nat.le_of_ble_eq_true rfl⟩ (fun H1 locs1 hPn hCn hS => ?_)
  replace hO := va_kc hO hCn (by omega)
  replace hL9 := hL9.kept hCn (by omega)
  replace hF9 := hF9.kept hCn (by omega)
  replace hN9 := hN9.kept hCn (by omega)
  replace hH9 := hH9.kept hCn (by omega)
  replace hJ9 := hJ9.kept hCn (by omega)
  replace hQ9 := hQ9.kept hCn (by omega)
  obtain ⟨hz, hS9⟩ := hPn
  replace hC := hC.tr (hCn.mono (b := o) (k := 152) (by omega) (by omega))
  clear hCn hN
  replace hz : H1.size = o + 150 := hz.trans (by omega)
  refine W.widen (k := 149) (n := 2012) (by omega) (by omega) ?_
  refine z_pf S hZ.1 hO hS hB (C := RX11) (Tt := TX11) rfl 7 (by decide) (v := .ref (o + 137)) k252 rfl hnm rfl (ty := (.object RX9)) (by decide +kernel) rfl rfl (Nat.le_of_ble_eq_true rfl) dX11_init_78 (fun H1 locs1 hO1 hCn hz1 hS => ?_)
  replace hL9 := hL9.kept hCn (by omega)
  replace hF9 := hF9.kept hCn (by omega)
  replace hN9 := hN9.kept hCn (by omega)
  replace hH9 := hH9.kept hCn (by omega)
  replace hJ9 := hJ9.kept hCn (by omega)
  replace hQ9 := hQ9.kept hCn (by omega)
  replace hS9 := hS9.kept hCn (by omega)
  replace hO := hO1
  replace hC := hC.tr (hCn.mono (b := o) (k := 152) (by omega) (by omega))
  replace hz := hz1.trans hz
  clear hz1 hCn hO1
  replace hO : va_at g.1 zC (o, .inr (9, [.ref (o + 1), .ref (o + 13), .ref (o + 25), .int (nI 0), .ref (o + 37), .ref (o + 135), .ref (o + 136), .ref (o + 137), .int (nI 0), .int (nI 0), .null, .int (nI 0), .int (nI 0), .int (nI 0)])) H1 := hO
  refine lv_aload_n S.1 S.2.1 dX11_init_81 rfl (lv_at hl 0 rfl) ?_
  refine z_new S hZ.1 hS (C := RX7) (T := TX7) (N := 2) (ci := 5) rfl k230 k231 k12 (fs := [.null, .int (nI 0)]) tyX7 tyX7_ok (fun j hj => match j, hj with | 0, _ => rfl | 1, _ => rfl | k + 2, h => absurd h (by omega)) ⟨by rw [hR]; show _ ≤ 151; omega, by rw [hR]; show _ ≤ 2062; omega⟩ dX11_init_82 hz (fun H1 hN hz1 ho1 hS => ?_)
  have hg : zCh1 0 0 _ H1 := zCh1.gw hz hz1 ho1
  replace hO := va_kc hO hg (by omega)
  replace hL9 := hL9.kept hg (by omega)
  replace hF9 := hF9.kept hg (by omega)
  replace hN9 := hN9.kept hg (by omega)
  replace hH9 := hH9.kept hg (by omega)
  replace hJ9 := hJ9.kept hg (by omega)
  replace hQ9 := hQ9.kept hg (by omega)
  replace hS9 := hS9.kept hg (by omega)
  replace hC := hC.tr (zCh1.gw hz hz1 ho1)
  replace hz := hz1
  clear hz1 ho1 hg
  refine lv_dup S.1 S.2.1 dX11_init_85 rfl ?_
  refine z_iN (rest := [.ref (o + 150), .ref (o)]) S hZ hS (c_newLine l g (o := o + 150) (by omega)) (by omega) ci_X7_init cn_X7_init rfl (List.mem_of_getElem? (i := 8) rfl) ⟨rfl, rfl, by rw [hR]; exact Nat.le_of_ble_eq_true rfl, by rw [hR]; exact Nat.le_of_ble_eq_true rfl⟩ ⟨hz, hN⟩ hl.1 rfl (Nat.le_of_ble_eq_true rfl) dX11_init_86 ⟨by rw [hR]; show _ ≤ 151; omega, by rw [hR]; show _ ≤ 2062; omega⟩ (fun H1 locs1 hPn hCn hS => ?_)
  replace hO := va_kc hO hCn (by omega)
  replace hL9 := hL9.kept hCn (by omega)
  replace hF9 := hF9.kept hCn (by omega)
  replace hN9 := hN9.kept hCn (by omega)
  replace hH9 := hH9.kept hCn (by omega)
  replace hJ9 := hJ9.kept hCn (by omega)
  replace hQ9 := hQ9.kept hCn (by omega)
  replace hS9 := hS9.kept hCn (by omega)
  obtain ⟨hz, hI9⟩ := hPn
  replace hC := hC.tr (hCn.mono (b := o) (k := 152) (by omega) (by omega))
  clear hCn hN
  replace hz : H1.size = o + 152 := hz.trans (by omega)
  refine W.widen (k := 151) (n := 2062) (by omega) (by omega) ?_
  refine z_pf S hZ.1 hO hS hB (C := RX11) (Tt := TX11) rfl 10 (by decide) (v := .ref (o + 150)) k255 rfl hnm rfl (ty := (.object RX7)) (by decide +kernel) rfl rfl (Nat.le_of_ble_eq_true rfl) dX11_init_89 (fun H1 locs1 hO1 hCn hz1 hS => ?_)
  replace hL9 := hL9.kept hCn (by omega)
  replace hF9 := hF9.kept hCn (by omega)
  replace hN9 := hN9.kept hCn (by omega)
  replace hH9 := hH9.kept hCn (by omega)
  replace hJ9 := hJ9.kept hCn (by omega)
  replace hQ9 := hQ9.kept hCn (by omega)
  replace hS9 := hS9.kept hCn (by omega)
  replace hI9 := hI9.kept hCn (by omega)
  replace hO := hO1
  replace hC := hC.tr (hCn.mono (b := o) (k := 152) (by omega) (by omega))
  replace hz := hz1.trans hz
  clear hz1 hCn hO1
  replace hO : va_at g.1 zC (o, .inr (9, [.ref (o + 1), .ref (o + 13), .ref (o + 25), .int (nI 0), .ref (o + 37), .ref (o + 135), .ref (o + 136), .ref (o + 137), .int (nI 0), .int (nI 0), .ref (o + 150), .int (nI 0), .int (nI 0), .int (nI 0)])) H1 := hO
  exact z_wv hQ S hr hlk hS hC ⟨rfl, hz, (fun k hk => match k, hk with | 0, _ => hO | k + 1, h => absurd h (by omega)), hL9, hF9, hN9, hH9, hJ9, hQ9, hS9, hI9⟩ dX11_init_92
