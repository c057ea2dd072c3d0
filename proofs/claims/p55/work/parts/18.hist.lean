/-! COMMANDS, THE HISTORY, THE LINE -/
def dHi : ZD := fun _ a f => .inr (3, [.ref (a + 1), .int (nI (f 1)), .int (nI (f 2))])
def dHk : ZD := fun g a _ => .inl (g.2 0 3, 8, .inr (.inr (.inr (.inr (fun j => some (a + 1 + 12 * j))))))
def THi : Nat → ZD := fun k => match k with
  | 0 => dHi
  | _ => dHk
def dLi : ZD := fun _ a f => .inr (5, [.ref (a + 1), .int (nI (f 1))])
def TLi : Nat → ZD := fun k => match k with
  | 0 => dLi
  | _ => dC 48
def zCb (k a b c : Nat) : Nat → Nat := fun j => match j with
  | 0 => k
  | 1 => a
  | 2 => b
  | _ => c
theorem ci_X2_become : zCI yX2_become cX2_become 5 (some (.object "CandleLoom$Command")) 4 := ⟨k333, k8, by decide +kernel⟩
theorem cv_X2_become : Cond.instanceMethod yX2_become ∈ GW ∧ Cond.selects (yX2_become).cls yX2_become yX2_become ∈ GW := ⟨k331, k332⟩
set_option maxRecDepth 20000 in
set_option maxHeartbeats 4000000 in
/-- Command.become(kind, a, b, c) -/
theorem c_X2_become (l : Launch) (g : ZG) {B : Nat} {oc : Nat} (hB : B ≤ oc) (fc : Nat → Nat → Nat) (k a b c9 : Nat) : Met l yX2_become (.code yX2_become cX2_become 5 (some (.object "CandleLoom$Command")) :: GW) { frames := 0, cells := 0, slots := 0, locals := 0 } (va_Pc [.ref oc, .ref (g.2 1 k), .int (nI a), .int (nI b), .int (nI c9)] (zPre g B (fun H => zPm g oc 1 TCo fc H))) (zX (fun w H => w = some (.ref oc) ∧ zPm g oc 1 TCo (va_up fc 0 (zCb k a b c9)) H) oc 1) 0 0 (zA B) := by
  refine zMet (by decide) (Nat.le_of_ble_eq_true rfl) ?_
  intro p e R s m args below meth c Q ls hR hargs hQ S hr hlk hP hZ hS hnm hl
  have hl : lv_has ls 5 [(0, .ref (oc)), (1, .ref (g.2 1 k)), (2, .int (nI (a))), (3, .int (nI (b))), (4, .int (nI (c9)))] := hl
  have hC : zCh1 oc 1 s.heap s.heap := zCh1.rf
  refine lv_aload_n S.1 S.2.1 dX2_become_0 rfl (lv_at hl 0 rfl) ?_
  refine lv_aload_n S.1 S.2.1 dX2_become_1 rfl (lv_at hl 1 rfl) ?_
  refine z_put (v := .ref (g.2 1 k)) (ty := .object "CandleLoom$Kind") S hZ.1 hP hS hB 0 (by decide) rfl rfl rfl 0 (by decide) (va_up (fc 0) 0 k) rfl k180 rfl (by decide +kernel) rfl rfl (Nat.le_of_ble_eq_true rfl) dX2_become_2 (fun H1 locs1 hPn hCn hSn => ?_)
  have hS := hSn
  have hP := hPn
  have hC := hC.tr (hCn.mono (b := oc) (k := 1) (by omega) (by omega))
  refine lv_aload_n S.1 S.2.1 dX2_become_5 rfl (lv_at hl 0 rfl) ?_
  refine lv_iload_n S.1 S.2.1 dX2_become_6 rfl (lv_at hl 2 rfl) ?_
  refine z_put (v := .int (nI (a))) (ty := .int) S hZ.1 hP hS hB 0 (by decide) rfl rfl rfl 1 (by decide) (va_up ((va_up fc 0 (va_up (fc 0) 0 k)) 0) 1 a) rfl k184 rfl (by decide +kernel) rfl rfl (Nat.le_of_ble_eq_true rfl) dX2_become_7 (fun H1 locs1 hPn hCn hSn => ?_)
  have hS := hSn
  have hP := hPn
  have hC := hC.tr (hCn.mono (b := oc) (k := 1) (by omega) (by omega))
  refine lv_aload_n S.1 S.2.1 dX2_become_10 rfl (lv_at hl 0 rfl) ?_
  refine lv_iload_n S.1 S.2.1 dX2_become_11 rfl (lv_at hl 3 rfl) ?_
  refine z_put (v := .int (nI (b))) (ty := .int) S hZ.1 hP hS hB 0 (by decide) rfl rfl rfl 2 (by decide) (va_up ((va_up (va_up fc 0 (va_up (fc 0) 0 k)) 0 (va_up ((va_up fc 0 (va_up (fc 0) 0 k)) 0) 1 a)) 0) 2 b) rfl k187 rfl (by decide +kernel) rfl rfl (Nat.le_of_ble_eq_true rfl) dX2_become_12 (fun H1 locs1 hPn hCn hSn => ?_)
  have hS := hSn
  have hP := hPn
  have hC := hC.tr (hCn.mono (b := oc) (k := 1) (by omega) (by omega))
  refine lv_aload_n S.1 S.2.1 dX2_become_15 rfl (lv_at hl 0 rfl) ?_
  refine lv_iload S.1 S.2.1 dX2_become_16 (lv_at hl 4 rfl) ?_
  refine z_put (v := .int (nI (c9))) (ty := .int) S hZ.1 hP hS hB 0 (by decide) rfl rfl rfl 3 (by decide) (va_up ((va_up (va_up (va_up fc 0 (va_up (fc 0) 0 k)) 0 (va_up ((va_up fc 0 (va_up (fc 0) 0 k)) 0) 1 a)) 0 (va_up ((va_up (va_up fc 0 (va_up (fc 0) 0 k)) 0 (va_up ((va_up fc 0 (va_up (fc 0) 0 k)) 0) 1 a)) 0) 2 b)) 0) 3 c9) rfl k189 rfl (by decide +kernel) rfl rfl (Nat.le_of_ble_eq_true rfl) dX2_become_18 (fun H1 locs1 hPn hCn hSn => ?_)
  have hS := hSn
  have hP := hPn
  have hC := hC.tr (hCn.mono (b := oc) (k := 1) (by omega) (by omega))
  refine lv_aload_n S.1 S.2.1 dX2_become_21 rfl (lv_at hl 0 rfl) ?_
  have hP : zPm g oc 1 TCo (va_up fc 0 (zCb k a b c9)) H1 := hP.cg (fun q hq x hv => by match q, hq with | 0, _ => exact hv | q + 1, hq => exact absurd hq (by omega))
  exact z_wa hQ S hr hlk (Or.inl ⟨_, rfl⟩) (Or.inr ⟨_, rfl⟩) hS hC ⟨rfl, hP⟩ dX2_become_22
theorem ci_X2_put : zCI yX2_put cX2_put 3 none 2 := ⟨k789, k8, by decide +kernel⟩
theorem cv_X2_put : Cond.instanceMethod yX2_put ∈ GW ∧ Cond.selects (yX2_put).cls yX2_put yX2_put ∈ GW := ⟨k787, k788⟩
set_option maxRecDepth 20000 in
set_option maxHeartbeats 4000000 in
/-- Command.put(i, x) -/
theorem c_X2_put (l : Launch) (g : ZG) {B : Nat} {oc : Nat} (hB : B ≤ oc) (fc : Nat → Nat → Nat) (i x : Nat) (hi : i < 3) : Met l yX2_put (.code yX2_put cX2_put 3 none :: GW) { frames := 0, cells := 0, slots := 0, locals := 0 } (va_Pc [.ref oc, .int (nI i), .int (nI x)] (zPre g B (fun H => zPm g oc 1 TCo fc H))) (zX (fun w H => w = none ∧ zPm g oc 1 TCo (va_up fc 0 (va_up (fc 0) (i + 1) x)) H) oc 1) 0 0 (zA B) := by
  refine zMet (by decide) (Nat.le_of_ble_eq_true rfl) ?_
  intro p e R s m args below meth c Q ls hR hargs hQ S hr hlk hP hZ hS hnm hl
  have hl : lv_has ls 3 [(0, .ref (oc)), (1, .int (nI (i))), (2, .int (nI (x)))] := hl
  have hC : zCh1 oc 1 s.heap s.heap := zCh1.rf
  refine lv_iload_n S.1 S.2.1 dX2_put_0 rfl (lv_at hl 1 rfl) ?_
  refine z_ine (tgt := 12) S (by omega) dX2_put_1 (by decide) (fun h1 => ?_) (fun h1 => ?_)
  · refine lv_iload_n S.1 S.2.1 dX2_put_12 rfl (lv_at hl 1 rfl) ?_
    refine z_ic S (k := 1) dX2_put_13 (by decide) ?_
    refine z_cne (tgt := 25) S (by omega) (by omega) dX2_put_14 (by decide) (fun h2 => ?_) (fun h2 => ?_)
    · refine lv_aload_n S.1 S.2.1 dX2_put_25 rfl (lv_at hl 0 rfl) ?_
      refine lv_iload_n S.1 S.2.1 dX2_put_26 rfl (lv_at hl 2 rfl) ?_
      refine z_put (v := .int (nI (x))) (ty := .int) S hZ.1 hP hS hB 0 (by decide) rfl rfl rfl 3 (by decide) (va_up (fc 0) 3 x) rfl k189 rfl (by decide +kernel) rfl rfl (Nat.le_of_ble_eq_true rfl) dX2_put_27 (fun H1 locs1 hPn hCn hSn => ?_)
      have hS := hSn
      have hP := hPn
      have hC := hC.tr (hCn.mono (b := oc) (k := 1) (by omega) (by omega))
      have e9 : i = 2 := by omega
      subst e9
      exact z_wv hQ S hr hlk hS hC ⟨rfl, hP⟩ dX2_put_30
    · refine lv_aload_n S.1 S.2.1 dX2_put_17 rfl (lv_at hl 0 rfl) ?_
      refine lv_iload_n S.1 S.2.1 dX2_put_18 rfl (lv_at hl 2 rfl) ?_
      refine z_put (v := .int (nI (x))) (ty := .int) S hZ.1 hP hS hB 0 (by decide) rfl rfl rfl 2 (by decide) (va_up (fc 0) 2 x) rfl k187 rfl (by decide +kernel) rfl rfl (Nat.le_of_ble_eq_true rfl) dX2_put_19 (fun H1 locs1 hPn hCn hSn => ?_)
      have hS := hSn
      have hP := hPn
      have hC := hC.tr (hCn.mono (b := oc) (k := 1) (by omega) (by omega))
      refine lv_goto (tgt := 30) S.1 S.2.1 dX2_put_22 (by decide) ?_
      have e9 : i = 1 := by omega
      subst e9
      exact z_wv hQ S hr hlk hS hC ⟨rfl, hP⟩ dX2_put_30
  · refine lv_aload_n S.1 S.2.1 dX2_put_4 rfl (lv_at hl 0 rfl) ?_
    refine lv_iload_n S.1 S.2.1 dX2_put_5 rfl (lv_at hl 2 rfl) ?_
    refine z_put (v := .int (nI (x))) (ty := .int) S hZ.1 hP hS hB 0 (by decide) rfl rfl rfl 1 (by decide) (va_up (fc 0) 1 x) rfl k184 rfl (by decide +kernel) rfl rfl (Nat.le_of_ble_eq_true rfl) dX2_put_6 (fun H1 locs1 hPn hCn hSn => ?_)
    have hS := hSn
    have hP := hPn
    have hC := hC.tr (hCn.mono (b := oc) (k := 1) (by omega) (by omega))
    refine lv_goto (tgt := 30) S.1 S.2.1 dX2_put_9 (by decide) ?_
    have e9 : i = 0 := by omega
    subst e9
    exact z_wv hQ S hr hlk hS hC ⟨rfl, hP⟩ dX2_put_30
def zSg (a b : Bool) : Nat := if a = true then (if b = true then 88 else 120) else (if b = true then 111 else 46)
theorem ci_X7_cellSign : zCI yX7_cellSign cX7_cellSign 2 (some .char) 2 := ⟨k1076, k12, by decide +kernel⟩
theorem cv_X7_cellSign : Cond.static yX7_cellSign ∈ GW := k1075
set_option maxRecDepth 20000 in
set_option maxHeartbeats 4000000 in
/-- Line.cellSign(a, b) -/
theorem c_X7_cellSign (l : Launch) (g : ZG) {B : Nat} (a b : Bool) {PH : Heap → Prop} : Met l yX7_cellSign (.code yX7_cellSign cX7_cellSign 2 (some .char) :: GW) { frames := 0, cells := 0, slots := 0, locals := 0 } (va_Pc [.int (nI a.toNat), .int (nI b.toNat)] (zPre g B (fun H => PH H))) (zR (some (.int (nI (zSg a b))))) 0 0 (fun _ => False) := by
  refine zMet (by decide) (Nat.le_of_ble_eq_true rfl) ?_
  intro p e R s m args below meth c Q ls hR hargs hQ S hr hlk hP hZ hS hnm hl
  have hl : lv_has ls 2 [(0, .int (nI (a).toNat)), (1, .int (nI (b).toNat))] := hl
  refine lv_iload_n S.1 S.2.1 dX7_cellSign_0 rfl (lv_at hl 0 rfl) ?_
  refine z_beq (tgt := 16) S dX7_cellSign_1 (by decide) (fun h1 => ?_) (fun h1 => ?_)
  · refine lv_iload_n S.1 S.2.1 dX7_cellSign_16 rfl (lv_at hl 1 rfl) ?_
    refine z_beq (tgt := 25) S dX7_cellSign_17 (by decide) (fun h2 => ?_) (fun h2 => ?_)
    · refine z_bi S (k := 46) dX7_cellSign_25 (by decide) ?_
      exact z_ri hQ S hr hlk rfl (by rw [zSg, h1, h2]; rfl) dX7_cellSign_27
    · refine z_bi S (k := 111) dX7_cellSign_20 (by decide) ?_
      refine lv_goto (tgt := 27) S.1 S.2.1 dX7_cellSign_22 (by decide) ?_
      exact z_ri hQ S hr hlk rfl (by rw [zSg, h1, h2]; rfl) dX7_cellSign_27
  · refine lv_iload_n S.1 S.2.1 dX7_cellSign_4 rfl (lv_at hl 1 rfl) ?_
    refine z_beq (tgt := 13) S dX7_cellSign_5 (by decide) (fun h2 => ?_) (fun h2 => ?_)
    · refine z_bi S (k := 120) dX7_cellSign_13 (by decide) ?_
      exact z_ri hQ S hr hlk rfl (by rw [zSg, h1, h2]; rfl) dX7_cellSign_15
    · refine z_bi S (k := 88) dX7_cellSign_8 (by decide) ?_
      refine lv_goto (tgt := 15) S.1 S.2.1 dX7_cellSign_10 (by decide) ?_
      exact z_ri hQ S hr hlk rfl (by rw [zSg, h1, h2]; rfl) dX7_cellSign_15
def zLa (f : Nat → Nat → Nat) (x : Nat) : Nat → Nat → Nat := va_up (va_up f 1 (va_up (f 1) (f 0 1) x)) 0 (va_up (f 0) 1 (f 0 1 + 1))
theorem ci_X7_add : zCI yX7_add cX7_add 2 none 1 := ⟨k1068, k12, by decide +kernel⟩
theorem cv_X7_add : Cond.instanceMethod yX7_add ∈ GW ∧ Cond.selects (yX7_add).cls yX7_add yX7_add ∈ GW := ⟨k1067, kp26⟩
set_option maxRecDepth 20000 in
set_option maxHeartbeats 4000000 in
/-- Line.add(x), room left -/
theorem c_X7_add (l : Launch) (g : ZG) {B : Nat} {ol : Nat} (hB : B ≤ ol) (f : Nat → Nat → Nat) (hl9 : f 0 1 < 48) (x : Nat) (hx9 : x < 65536) : Met l yX7_add (.code yX7_add cX7_add 2 none :: GW) { frames := 0, cells := 0, slots := 0, locals := 0 } (va_Pc [.ref ol, .int (nI x)] (zPre g B (fun H => zPm g ol 2 TLi f H))) (zX (fun w H => w = none ∧ zPm g ol 2 TLi (zLa f x) H) ol 2) 0 0 (zA B) := by
  refine zMet (by decide) (Nat.le_of_ble_eq_true rfl) ?_
  intro p e R s m args below meth c Q ls hR hargs hQ S hr hlk hP hZ hS hnm hl
  have hl : lv_has ls 2 [(0, .ref (ol)), (1, .int (nI (x)))] := hl
  have hC : zCh1 ol 2 s.heap s.heap := zCh1.rf
  refine lv_aload_n S.1 S.2.1 dX7_add_0 rfl (lv_at hl 0 rfl) ?_
  refine z_get (v := .int (nI (f 0 1))) S hZ.1 hP 0 (by decide) rfl rfl rfl 1 (by decide) rfl k238 dX7_add_1 ?_
  refine z_bi S (k := 48) dX7_add_4 (by decide) ?_
  refine z_cge (tgt := 29) S (by omega) (by omega) dX7_add_6 (by decide) (fun h1 => ?_) (fun h1 => ?_)
  · exact absurd h1 (by omega)
  · refine lv_aload_n S.1 S.2.1 dX7_add_9 rfl (lv_at hl 0 rfl) ?_
    refine z_get (v := .ref (ol + 1)) S hZ.1 hP 0 (by decide) rfl rfl rfl 0 (by decide) rfl k236 dX7_add_10 ?_
    refine lv_aload_n S.1 S.2.1 dX7_add_13 rfl (lv_at hl 0 rfl) ?_
    refine z_get (v := .int (nI (f 0 1))) S hZ.1 hP 0 (by decide) rfl rfl rfl 1 (by decide) rfl k238 dX7_add_14 ?_
    refine lv_iload_n S.1 S.2.1 dX7_add_17 rfl (lv_at hl 1 rfl) ?_
    refine z_cast S hZ.1 hP hS hB 1 (by decide) rfl rfl (i := (f 0 1)) (x := x) hx9 rfl hl9 (by decide) dX7_add_18 (fun H1 locs1 hPn hCn hSn => ?_)
    have hS := hSn
    have hP := hPn
    have hC := hC.tr (hCn.mono (b := ol) (k := 2) (by omega) (by omega))
    refine lv_aload_n S.1 S.2.1 dX7_add_19 rfl (lv_at hl 0 rfl) ?_
    refine lv_dup S.1 S.2.1 dX7_add_20 rfl ?_
    refine z_get (v := .int (nI (f 0 1))) S hZ.1 hP 0 (by decide) rfl rfl rfl 1 (by decide) rfl k238 dX7_add_21 ?_
    refine z_ic S (k := 1) dX7_add_24 (by decide) ?_
    refine z_add S dX7_add_25 ?_
    refine z_put (v := .int (nI ((f 0 1) + 1))) (ty := .int) S hZ.1 hP hS hB 0 (by decide) rfl rfl rfl 1 (by decide) (va_up ((va_up f 1 (va_up (f 1) (f 0 1) x)) 0) 1 ((f 0 1) + 1)) rfl k238 rfl (by decide +kernel) rfl rfl (Nat.le_of_ble_eq_true rfl) dX7_add_26 (fun H1 locs1 hPn hCn hSn => ?_)
    have hS := hSn
    have hP := hPn
    have hC := hC.tr (hCn.mono (b := ol) (k := 2) (by omega) (by omega))
    exact z_wv hQ S hr hlk hS hC ⟨rfl, hP⟩ dX7_add_29
theorem ci_X7_addDigit : zCI yX7_addDigit cX7_addDigit 2 none 1 := ⟨k1064, k12, by decide +kernel⟩
theorem cv_X7_addDigit : Cond.instanceMethod yX7_addDigit ∈ GW ∧ Cond.selects (yX7_addDigit).cls yX7_addDigit yX7_addDigit ∈ GW := ⟨k1063, kp25⟩
set_option maxRecDepth 20000 in
set_option maxHeartbeats 4000000 in
/-- Line.addDigit(x) -/
theorem c_X7_addDigit (l : Launch) (g : ZG) {B : Nat} {ol : Nat} (hB : B ≤ ol) (f : Nat → Nat → Nat) (hl9 : f 0 1 < 48) (x : Nat) (hx9 : x < 65000) : Met l yX7_addDigit (.code yX7_addDigit cX7_addDigit 2 none :: GW) { frames := 1, cells := 0, slots := 0, locals := 21 } (va_Pc [.ref ol, .int (nI x)] (zPre g B (fun H => zPm g ol 2 TLi f H))) (zX (fun w H => w = none ∧ zPm g ol 2 TLi (zLa f (48 + x)) H) ol 2) 0 0 (zA B) := by
  refine zMet (by decide) (Nat.le_of_ble_eq_true rfl) ?_
  intro p e R s m args below meth c Q ls hR hargs hQ S hr hlk hP hZ hS hnm hl
  have hl : lv_has ls 2 [(0, .ref (ol)), (1, .int (nI (x)))] := hl
  have hC : zCh1 ol 2 s.heap s.heap := zCh1.rf
  refine lv_aload_n S.1 S.2.1 dX7_addDigit_0 rfl (lv_at hl 0 rfl) ?_
  refine z_bi S (k := 48) dX7_addDigit_1 (by decide) ?_
  refine lv_iload_n S.1 S.2.1 dX7_addDigit_3 rfl (lv_at hl 1 rfl) ?_
  refine z_add S dX7_addDigit_4 ?_
  refine lv_i2c (v := nI (48 + x)) S.1 S.2.1 dX7_addDigit_5 (by rw [pk_char, pk_tn (by omega), Nat.mod_eq_of_lt (by omega)]) ?_
  refine z_w1 (v0 := none) (rest := []) (As := [.int (nI (48 + x))]) S hZ hS (c_X7_add l g hB f hl9 (48 + x) (by omega)) (by omega) ci_X7_add cv_X7_add k1065 ⟨rfl, rfl, by rw [hR]; exact Nat.le_of_ble_eq_true rfl, by rw [hR]; exact Nat.le_of_ble_eq_true rfl⟩ hP (hP.recv hZ.1 0 (by decide) rfl rfl rfl) hl.1 rfl (Nat.le_of_ble_eq_true rfl) dX7_addDigit_6 ⟨by rw [hR]; exact Nat.le_of_ble_eq_true rfl, by rw [hR]; exact Nat.le_of_ble_eq_true rfl⟩ rfl (fun H1 locs1 hPn hCn hSn => ?_)
  have hS := hSn
  have hP := hPn
  have hC := hC.tr (hCn.mono (b := ol) (k := 2) (by omega) (by omega))
  exact z_wv hQ S hr hlk hS hC ⟨rfl, hP⟩ dX7_addDigit_9
/-- the line of the row r of the cloth q, its first n columns -/
def zRl (f q : Nat → Nat → Nat) (r n : Nat) : Nat → Nat → Nat := fun k => match k with
  | 0 => va_up (f 0) 1 (2 + n)
  | 1 => fun j => if j = 0 then 48 + q 2 r else if j = 1 then 58 else if j < 2 + n then zSg (zBt (q 1 r) (j - 2)) (zBt (q 3 r) (j - 2)) else f 1 j
  | k => f k
theorem va_up_eq {α : Type} (f : Nat → α) (k : Nat) (v : α) (j : Nat) : va_up f k v j = if j = k then v else f j := rfl
theorem zRl_0 (f q : Nat → Nat → Nat) (r : Nat) : zLa (zLa (va_up f 0 (va_up (f 0) 1 0)) (48 + q 2 r)) 58 = zRl f q r 0 := by
  funext k j
  match k with
  | 0 => simp only [zLa, zRl, va_up_eq, if_pos, if_neg, Nat.reduceEqDiff, Nat.reduceAdd, if_true, if_false, Nat.add_zero, Nat.zero_ne_one, Nat.one_ne_zero, reduceIte]; by_cases hj : j = 1 <;> simp [hj]
  | 1 => simp only [zLa, zRl, va_up_eq, Nat.reduceEqDiff, Nat.reduceAdd, Nat.add_zero, Nat.zero_ne_one, Nat.one_ne_zero, reduceIte]; by_cases hj : j = 1 <;> by_cases hk : j = 0 <;> simp [hj, hk]; omega
  | k + 2 => simp [zLa, zRl, va_up_eq]
theorem zRl_s (f q : Nat → Nat → Nat) (r n : Nat) : zLa (zRl f q r n) (zSg (zBt (q 1 r) n) (zBt (q 3 r) n)) = zRl f q r (n + 1) := by
  have e : zRl f q r n 0 1 = 2 + n := by simp [zRl, va_up_eq]
  funext k j
  unfold zLa
  rw [e]
  match k with
  | 0 => simp only [va_up_eq, zRl, Nat.zero_ne_one, reduceIte]; by_cases hj : j = 1 <;> simp [hj]; omega
  | 1 =>
    simp only [va_up_eq, zRl, Nat.one_ne_zero, reduceIte]
    by_cases hj : j = 2 + n
    · subst hj; simp [show ¬ 2 + n = 0 by omega, show ¬ 2 + n = 1 by omega]
    · by_cases hl : j < 2 + n
      · have h3 : j < 2 + (n + 1) := by omega
        simp [hj, hl, h3]
      · have h3 : ¬ j < 2 + (n + 1) := by omega
        simp [hj, hl, h3]
  | k + 2 => simp [va_up_eq, zRl]
theorem ci_X7_showRow : zCI yX7_showRow cX7_showRow 4 none 2 := ⟨k1060, k12, by decide +kernel⟩
theorem cv_X7_showRow : Cond.instanceMethod yX7_showRow ∈ GW ∧ Cond.selects (yX7_showRow).cls yX7_showRow yX7_showRow ∈ GW := ⟨k1058, k1059⟩
set_option maxRecDepth 20000 in
set_option maxHeartbeats 4000000 in
/-- Line.showRow(cloth, r) -/
theorem c_X7_showRow (l : Launch) (g : ZG) {B : Nat} {ol ow : Nat} (hB : B ≤ ol) (hd : ow + 4 ≤ ol ∨ ol + 2 ≤ ow) (f q : Nat → Nat → Nat) (hw : zKo q) (r : Nat) (hr9 : r < q 0 3) : Met l yX7_showRow (.code yX7_showRow cX7_showRow 4 none :: GW) { frames := 2, cells := 0, slots := 0, locals := 42 } (va_Pc [.ref ol, .ref ow, .int (nI r)] (zPre g B (fun H => zPm g ol 2 TLi f H ∧ zPm g ow 4 TC q H))) (zX (fun w H => w = none ∧ zPm g ol 2 TLi (zRl f q r 16) H) ol 2) 0 0 (zA B) := by
  refine zMet (by decide) (Nat.le_of_ble_eq_true rfl) ?_
  intro p e R s m args below meth c Q ls hR hargs hQ S hr hlk hP hZ hS hnm hl
  have hl : lv_has ls 4 [(0, .ref (ol)), (1, .ref (ow)), (2, .int (nI (r)))] := hl
  obtain ⟨hP, hQ0⟩ := hP
  have hC : zCh1 ol 2 s.heap s.heap := zCh1.rf
  have hk40 := hw.1
  have hc7 := (hw.2 r).2.1
  refine lv_aload_n S.1 S.2.1 dX7_showRow_0 rfl (lv_at hl 0 rfl) ?_
  refine z_ic S (k := 0) dX7_showRow_1 (by decide) ?_
  refine z_put (v := .int (nI (0))) (ty := .int) S hZ.1 hP hS hB 0 (by decide) rfl rfl rfl 1 (by decide) (va_up (f 0) 1 0) rfl k238 rfl (by decide +kernel) rfl rfl (Nat.le_of_ble_eq_true rfl) dX7_showRow_2 (fun H1 locs1 hPn hCn hSn => ?_)
  have hS := hSn
  have hQ0 := hQ0.kept hCn (by omega)
  have hP := hPn
  have hC := hC.tr (hCn.mono (b := ol) (k := 2) (by omega) (by omega))
  refine lv_aload_n S.1 S.2.1 dX7_showRow_5 rfl (lv_at hl 0 rfl) ?_
  refine lv_aload_n S.1 S.2.1 dX7_showRow_6 rfl (lv_at hl 1 rfl) ?_
  refine z_get (v := .ref (ow + 2)) S hZ.1 hQ0 0 (by decide) rfl rfl rfl 1 (by decide) rfl k84 dX7_showRow_7 ?_
  refine lv_iload_n S.1 S.2.1 dX7_showRow_10 rfl (lv_at hl 2 rfl) ?_
  refine z_iald S hZ.1 hQ0 2 (by decide) rfl rfl (i := r) (by omega) (by decide) dX7_showRow_11 ?_
  refine z_w1 (v0 := none) (rest := []) (As := [.int (nI (q 2 r))]) S hZ hS (c_X7_addDigit l g hB _ (by show (0 : Nat) < 48; omega) (q 2 r) (by omega)) (by omega) ci_X7_addDigit cv_X7_addDigit k1061 ⟨rfl, rfl, by rw [hR]; exact Nat.le_of_ble_eq_true rfl, by rw [hR]; exact Nat.le_of_ble_eq_true rfl⟩ hP (hP.recv hZ.1 0 (by decide) rfl rfl rfl) hl.1 rfl (Nat.le_of_ble_eq_true rfl) dX7_showRow_12 ⟨by rw [hR]; exact Nat.le_of_ble_eq_true rfl, by rw [hR]; exact Nat.le_of_ble_eq_true rfl⟩ rfl (fun H1 locs1 hPn hCn hSn => ?_)
  have hS := hSn
  have hQ0 := hQ0.kept hCn (by omega)
  have hP := hPn
  have hC := hC.tr (hCn.mono (b := ol) (k := 2) (by omega) (by omega))
  refine lv_aload_n S.1 S.2.1 dX7_showRow_15 rfl (lv_at hl 0 rfl) ?_
  refine z_bi S (k := 58) dX7_showRow_16 (by decide) ?_
  refine z_w1 (v0 := none) (rest := []) (As := [.int (nI (58))]) S hZ hS (c_X7_add l g hB _ (by show (1 : Nat) < 48; omega) 58 (by omega)) (by omega) ci_X7_add cv_X7_add k1065 ⟨rfl, rfl, by rw [hR]; exact Nat.le_of_ble_eq_true rfl, by rw [hR]; exact Nat.le_of_ble_eq_true rfl⟩ hP (hP.recv hZ.1 0 (by decide) rfl rfl rfl) hl.1 rfl (Nat.le_of_ble_eq_true rfl) dX7_showRow_18 ⟨by rw [hR]; exact Nat.le_of_ble_eq_true rfl, by rw [hR]; exact Nat.le_of_ble_eq_true rfl⟩ rfl (fun H1 locs1 hPn hCn hSn => ?_)
  have hS := hSn
  have hQ0 := hQ0.kept hCn (by omega)
  have hP := hPn
  have hC := hC.tr (hCn.mono (b := ol) (k := 2) (by omega) (by omega))
  have hP : zPm g ol 2 TLi (zRl f q r 0) H1 := hP.eq (zRl_0 f q r)
  refine z_ic S (k := 0) dX7_showRow_21 (by decide) ?_
  refine lv_istore_n (lv' := [(3, .int (nI (0))), (0, .ref (ol)), (1, .ref (ow)), (2, .int (nI (r)))]) S.1 S.2.1 dX7_showRow_22 rfl hl (by decide) rfl (fun ls hl => ?_)
  have loop : ∀ (n i : Nat) (ls : Array Slot) (H : Heap) (locs : List Loc), (i ≤ 16) → (16 < i + n) → zPm g ol 2 TLi (zRl f q r i) H → zPm g ow 4 TC q H → va_S (zA B) s.heap H locs → zCh1 ol 2 s.heap H → lv_has ls 4 [(0, .ref ol), (1, .ref ow), (2, .int (nI r)), (3, .int (nI i))] → W p l e R s m args below meth c H locs 0 0 Q (F0 m 23 ls []) := by
    intro n
    induction n with
    | zero => intro i ls H locs h1 h2; exact absurd h2 (by omega)
    | succ n ih =>
      intro i ls H locs h1 h2 hP hQ0 hS hC hl
      refine lv_iload_n S.1 S.2.1 dX7_showRow_23 rfl (lv_at hl 3 rfl) ?_
      refine z_bi S (k := 16) dX7_showRow_24 (by decide) ?_
      refine z_cge (tgt := 54) S (by omega) (by omega) dX7_showRow_26 (by decide) (fun h4 => ?_) (fun h4 => ?_)
      · obtain rfl : i = 16 := by omega
        exact z_wv hQ S hr hlk hS hC ⟨rfl, hP⟩ dX7_showRow_54
      · refine lv_aload_n S.1 S.2.1 dX7_showRow_29 rfl (lv_at hl 0 rfl) ?_
        refine lv_aload_n S.1 S.2.1 dX7_showRow_30 rfl (lv_at hl 1 rfl) ?_
        refine lv_iload_n S.1 S.2.1 dX7_showRow_31 rfl (lv_at hl 2 rfl) ?_
        refine lv_iload_n S.1 S.2.1 dX7_showRow_32 rfl (lv_at hl 3 rfl) ?_
        refine z_cV (v := some (.int (nI (zBt (q 1 r) i).toNat))) (rest := [.ref (ol)]) (As := [.int (nI (r)), .int (nI (i))]) S hZ hS (c_X1_raisedAt l g q hw r i hr9 h4) ci_X1_raisedAt cv_X1_raisedAt k1069 ⟨rfl, rfl, by rw [hR]; decide, by rw [hR]; decide⟩ hQ0 (hQ0.recv hZ.1 0 (by decide) rfl rfl rfl) hl.1 rfl (Nat.le_of_ble_eq_true rfl) dX7_showRow_33 ⟨by rw [hR]; decide, by rw [hR]; decide⟩ rfl ?_
        refine lv_aload_n S.1 S.2.1 dX7_showRow_36 rfl (lv_at hl 1 rfl) ?_
        refine lv_iload_n S.1 S.2.1 dX7_showRow_37 rfl (lv_at hl 2 rfl) ?_
        refine lv_iload_n S.1 S.2.1 dX7_showRow_38 rfl (lv_at hl 3 rfl) ?_
        refine z_cV (v := some (.int (nI (zBt (q 3 r) i).toNat))) (rest := [.int (nI (zBt (q 1 r) i).toNat), .ref (ol)]) (As := [.int (nI (r)), .int (nI (i))]) S hZ hS (c_X1_knottedAt l g q hw r i hr9 h4) ci_X1_knottedAt cv_X1_knottedAt k1073 ⟨rfl, rfl, by rw [hR]; decide, by rw [hR]; decide⟩ hQ0 (hQ0.recv hZ.1 0 (by decide) rfl rfl rfl) hl.1 rfl (Nat.le_of_ble_eq_true rfl) dX7_showRow_39 ⟨by rw [hR]; decide, by rw [hR]; decide⟩ rfl ?_
        refine z_cS (v := some (.int (nI (zSg (zBt (q 1 r) i) (zBt (q 3 r) i))))) (rest := [.ref (ol)]) (As := [.int (nI (zBt (q 1 r) i).toNat), .int (nI (zBt (q 3 r) i).toNat)]) S hZ hS (c_X7_cellSign l g (zBt (q 1 r) i) (zBt (q 3 r) i) (PH := fun _ => True)) ci_X7_cellSign cv_X7_cellSign k1074 ⟨rfl, rfl, by rw [hR]; decide, by rw [hR]; decide⟩ trivial hl.1 rfl (Nat.le_of_ble_eq_true rfl) dX7_showRow_42 ⟨by rw [hR]; decide, by rw [hR]; decide⟩ rfl ?_
        have hsg : zSg (zBt (q 1 r) i) (zBt (q 3 r) i) < 65536 := by unfold zSg; (repeat' split) <;> omega
        have hln : zRl f q r i 0 1 = 2 + i := by simp [zRl, va_up]
        refine z_w1 (v0 := none) (rest := []) (As := [.int (nI (zSg (zBt (q 1 r) i) (zBt (q 3 r) i)))]) S hZ hS (c_X7_add l g hB _ (by rw [hln]; omega) _ hsg) (by omega) ci_X7_add cv_X7_add k1065 ⟨rfl, rfl, by rw [hR]; exact Nat.le_of_ble_eq_true rfl, by rw [hR]; exact Nat.le_of_ble_eq_true rfl⟩ hP (hP.recv hZ.1 0 (by decide) rfl rfl rfl) hl.1 rfl (Nat.le_of_ble_eq_true rfl) dX7_showRow_45 ⟨by rw [hR]; exact Nat.le_of_ble_eq_true rfl, by rw [hR]; exact Nat.le_of_ble_eq_true rfl⟩ rfl (fun H1 locs1 hPn hCn hSn => ?_)
        have hS := hSn
        have hQ0 := hQ0.kept hCn (by omega)
        have hP := hPn
        have hC := hC.tr (hCn.mono (b := ol) (k := 2) (by omega) (by omega))
        refine z_inc S (lv' := [(3, .int (nI (i + 1))), (0, .ref (ol)), (1, .ref (ow)), (2, .int (nI (r)))]) (k := 3) (b := 1) dX7_showRow_48 hl rfl (by decide) (by decide) rfl (fun ls hl => ?_)
        refine lv_goto (tgt := 23) S.1 S.2.1 dX7_showRow_51 (by decide) ?_
        exact ih (i + 1) ls H1 locs1 (by omega) (by omega) (hP.eq (zRl_s f q r i)) hQ0 hS hC (lv_sub hl [1, 2, 3, 0] rfl)
  exact loop 17 0 ls _ _ (Nat.zero_le _) (by omega) hP hQ0 hS hC (lv_sub hl [1, 2, 3, 0] rfl)
/-- the history: its cell, and the eight looms that it keeps -/
def zHi (g : ZG) (oh : Nat) (f : Nat → Nat → Nat) (kp : Nat → zL) (H : Heap) : Prop := zPm g oh 2 THi f H ∧ ∀ i, i < 8 → zLo g (oh + 2 + 12 * i) (kp i) H
/-- a state is kept -/
def zHk (f : Nat → Nat → Nat) : Nat → Nat → Nat := if f 0 2 < 8 then va_up f 0 (va_up (f 0) 2 (f 0 2 + 1)) else va_up f 0 (va_up (f 0) 1 ((f 0 1 + 1) % 8))
theorem zHi.kept {g : ZG} {oh a n : Nat} {f : Nat → Nat → Nat} {kp : Nat → zL} {H H1 : Heap} (h : zHi g oh f kp H) (hc : zCh1 a n H H1) (hd : oh + 98 ≤ a ∨ a + n ≤ oh) : zHi g oh f kp H1 := ⟨h.1.kept hc (by omega), fun i hi => (h.2 i hi).kept hc (by omega)⟩
theorem ci_X4_forget : zCI yX4_forget cX4_forget 1 none 0 := ⟨k873, k6, by decide +kernel⟩
theorem cv_X4_forget : Cond.instanceMethod yX4_forget ∈ GW ∧ Cond.selects (yX4_forget).cls yX4_forget yX4_forget ∈ GW := ⟨k871, k872⟩
set_option maxRecDepth 20000 in
set_option maxHeartbeats 4000000 in
/-- History.forget() -/
theorem c_X4_forget (l : Launch) (g : ZG) {B : Nat} {oh : Nat} (hB : B ≤ oh) (f : Nat → Nat → Nat) : Met l yX4_forget (.code yX4_forget cX4_forget 1 none :: GW) { frames := 0, cells := 0, slots := 0, locals := 0 } (va_Pc [.ref oh] (zPre g B (fun H => zPm g oh 2 THi f H))) (zX (fun w H => w = none ∧ zPm g oh 2 THi (va_up f 0 (va_up (f 0) 2 0)) H) oh 2) 0 0 (zA B) := by
  refine zMet (by decide) (Nat.le_of_ble_eq_true rfl) ?_
  intro p e R s m args below meth c Q ls hR hargs hQ S hr hlk hP hZ hS hnm hl
  have hl : lv_has ls 1 [(0, .ref (oh))] := hl
  have hC : zCh1 oh 2 s.heap s.heap := zCh1.rf
  refine lv_aload_n S.1 S.2.1 dX4_forget_0 rfl (lv_at hl 0 rfl) ?_
  refine z_ic S (k := 0) dX4_forget_1 (by decide) ?_
  refine z_put (v := .int (nI (0))) (ty := .int) S hZ.1 hP hS hB 0 (by decide) rfl rfl rfl 2 (by decide) (va_up (f 0) 2 0) rfl k152 rfl (by decide +kernel) rfl rfl (Nat.le_of_ble_eq_true rfl) dX4_forget_2 (fun H1 locs1 hPn hCn hSn => ?_)
  have hS := hSn
  have hP := hPn
  have hC := hC.tr (hCn.mono (b := oh) (k := 2) (by omega) (by omega))
  exact z_wv hQ S hr hlk hS hC ⟨rfl, hP⟩ dX4_forget_5
theorem ci_X4_keep : zCI yX4_keep cX4_keep 2 none 1 := ⟨k542, k6, by decide +kernel⟩
theorem cv_X4_keep : Cond.instanceMethod yX4_keep ∈ GW ∧ Cond.selects (yX4_keep).cls yX4_keep yX4_keep ∈ GW := ⟨k540, k541⟩
set_option maxRecDepth 20000 in
set_option maxHeartbeats 4000000 in
/-- History.keep(loom) -/
theorem c_X4_keep (l : Launch) (g : ZG) {B : Nat} {oh o : Nat} (hB : B ≤ oh) (hd : o + 12 ≤ oh ∨ oh + 98 ≤ o) (f : Nat → Nat → Nat) (h1 : f 0 1 < 8) (h2 : f 0 2 ≤ 8) (kp : Nat → zL) (v : zL) (hv : zOk v) : Met l yX4_keep (.code yX4_keep cX4_keep 2 none :: GW) { frames := 3, cells := 0, slots := 0, locals := 102 } (va_Pc [.ref oh, .ref o] (zPre g B (fun H => zHi g oh f kp H ∧ zLo g o v H))) (zX (fun w H => w = none ∧ zHi g oh (zHk f) (va_up kp ((f 0 1 + f 0 2) % 8) v) H) oh 98) 0 0 (zA B) := by
  refine zMet (by decide) (Nat.le_of_ble_eq_true rfl) ?_
  intro p e R s m args below meth c Q ls hR hargs hQ S hr hlk hP hZ hS hnm hl
  have hl : lv_has ls 2 [(0, .ref (oh)), (1, .ref (o))] := hl
  obtain ⟨⟨hP, hK⟩, hL⟩ := hP
  have hC : zCh1 oh 98 s.heap s.heap := zCh1.rf
  generalize hix : (f 0 1 + f 0 2) % 8 = ix
  have hi8 : ix < 8 := by omega
  refine lv_aload_n S.1 S.2.1 dX4_keep_0 rfl (lv_at hl 0 rfl) ?_
  refine z_get (v := .ref (oh + 1)) S hZ.1 hP 0 (by decide) rfl rfl rfl 0 (by decide) rfl k150 dX4_keep_1 ?_
  refine lv_aload_n S.1 S.2.1 dX4_keep_4 rfl (lv_at hl 0 rfl) ?_
  refine z_get (v := .int (nI (f 0 1))) S hZ.1 hP 0 (by decide) rfl rfl rfl 1 (by decide) rfl k151 dX4_keep_5 ?_
  refine lv_aload_n S.1 S.2.1 dX4_keep_8 rfl (lv_at hl 0 rfl) ?_
  refine z_get (v := .int (nI (f 0 2))) S hZ.1 hP 0 (by decide) rfl rfl rfl 2 (by decide) rfl k152 dX4_keep_9 ?_
  refine z_add S dX4_keep_12 ?_
  refine z_bi S (k := 8) dX4_keep_13 (by decide) ?_
  refine z_rem S (by omega) (by omega) (by omega) dX4_keep_15 ?_
  rw [hix]
  refine z_aald S hZ.1 hP 1 (by decide) rfl 3 rfl rfl (i := ix) (v := oh + 2 + 12 * ix) hi8 (by decide) rfl dX4_keep_16 ?_
  refine lv_aload_n S.1 S.2.1 dX4_keep_17 rfl (lv_at hl 1 rfl) ?_
  refine z_w1 (v0 := none) (rest := []) (As := [.ref o]) S hZ hS (c_X8_copyFrom l g (o := oh + 2 + 12 * ix) (by omega) (by omega) (kp ix) v hv) (by omega) ci_X8_copyFrom cv_X8_copyFrom k543 ⟨rfl, rfl, by rw [hR]; exact Nat.le_of_ble_eq_true rfl, by rw [hR]; exact Nat.le_of_ble_eq_true rfl⟩ ⟨hK ix hi8, hL⟩ ((hK ix hi8).1.recv hZ.1 0 (by decide) rfl rfl rfl) hl.1 rfl (Nat.le_of_ble_eq_true rfl) dX4_keep_18 ⟨by rw [hR]; exact Nat.le_of_ble_eq_true rfl, by rw [hR]; exact Nat.le_of_ble_eq_true rfl⟩ rfl (fun H1 locs1 hPn hCn hSn => ?_)
  have hK : ∀ i, i < 8 → zLo g (oh + 2 + 12 * i) (va_up kp ix v i) H1 := fun i hi => by
    by_cases e : i = ix
    · subst e; rw [show va_up kp i v i = v from if_pos rfl]; exact hPn
    · rw [show va_up kp ix v i = kp i from if_neg e]; exact (hK i hi).kept hCn (by omega)
  have hP := hP.kept hCn (by omega)
  have hC := hC.tr (hCn.mono (b := oh) (k := 98) (by omega) (by omega))
  have hS := hSn
  refine lv_aload_n S.1 S.2.1 dX4_keep_21 rfl (lv_at hl 0 rfl) ?_
  refine z_get (v := .int (nI (f 0 2))) S hZ.1 hP 0 (by decide) rfl rfl rfl 2 (by decide) rfl k152 dX4_keep_22 ?_
  refine z_bi S (k := 8) dX4_keep_25 (by decide) ?_
  refine z_cge (tgt := 43) S (by omega) (by omega) dX4_keep_27 (by decide) (fun h9 => ?_) (fun h9 => ?_)
  · refine lv_aload_n S.1 S.2.1 dX4_keep_43 rfl (lv_at hl 0 rfl) ?_
    refine lv_aload_n S.1 S.2.1 dX4_keep_44 rfl (lv_at hl 0 rfl) ?_
    refine z_get (v := .int (nI (f 0 1))) S hZ.1 hP 0 (by decide) rfl rfl rfl 1 (by decide) rfl k151 dX4_keep_45 ?_
    refine z_ic S (k := 1) dX4_keep_48 (by decide) ?_
    refine z_add S dX4_keep_49 ?_
    refine z_bi S (k := 8) dX4_keep_50 (by decide) ?_
    refine z_rem S (by omega) (by omega) (by omega) dX4_keep_52 ?_
    refine z_put (v := .int (nI (((f 0 1) + 1) % 8))) (ty := .int) S hZ.1 hP hS hB 0 (by decide) rfl rfl rfl 1 (by decide) (va_up (f 0) 1 (((f 0 1) + 1) % 8)) rfl k151 rfl (by decide +kernel) rfl rfl (Nat.le_of_ble_eq_true rfl) dX4_keep_53 (fun H1 locs1 hPn hCn hSn => ?_)
    have hK : ∀ i, i < 8 → zLo g (oh + 2 + 12 * i) (va_up kp ix v i) H1 := fun i hi => (hK i hi).kept hCn (by omega)
    have hS := hSn
    have hP := hPn
    have hC := hC.tr (hCn.mono (b := oh) (k := 98) (by omega) (by omega))
    exact z_wv hQ S hr hlk hS hC ⟨rfl, by unfold zHk; rw [if_neg (by omega)]; exact hP, by rw [hix]; exact hK⟩ dX4_keep_56
  · refine lv_aload_n S.1 S.2.1 dX4_keep_30 rfl (lv_at hl 0 rfl) ?_
    refine lv_dup S.1 S.2.1 dX4_keep_31 rfl ?_
    refine z_get (v := .int (nI (f 0 2))) S hZ.1 hP 0 (by decide) rfl rfl rfl 2 (by decide) rfl k152 dX4_keep_32 ?_
    refine z_ic S (k := 1) dX4_keep_35 (by decide) ?_
    refine z_add S dX4_keep_36 ?_
    refine z_put (v := .int (nI ((f 0 2) + 1))) (ty := .int) S hZ.1 hP hS hB 0 (by decide) rfl rfl rfl 2 (by decide) (va_up (f 0) 2 ((f 0 2) + 1)) rfl k152 rfl (by decide +kernel) rfl rfl (Nat.le_of_ble_eq_true rfl) dX4_keep_37 (fun H1 locs1 hPn hCn hSn => ?_)
    have hK : ∀ i, i < 8 → zLo g (oh + 2 + 12 * i) (va_up kp ix v i) H1 := fun i hi => (hK i hi).kept hCn (by omega)
    have hS := hSn
    have hP := hPn
    have hC := hC.tr (hCn.mono (b := oh) (k := 98) (by omega) (by omega))
    refine lv_goto (tgt := 56) S.1 S.2.1 dX4_keep_40 (by decide) ?_
    exact z_wv hQ S hr hlk hS hC ⟨rfl, by unfold zHk; rw [if_pos (by omega)]; exact hP, by rw [hix]; exact hK⟩ dX4_keep_56
theorem ci_X4_takeBack : zCI yX4_takeBack cX4_takeBack 2 none 1 := ⟨k862, k6, by decide +kernel⟩
theorem cv_X4_takeBack : Cond.instanceMethod yX4_takeBack ∈ GW ∧ Cond.selects (yX4_takeBack).cls yX4_takeBack yX4_takeBack ∈ GW := ⟨k860, k861⟩
set_option maxRecDepth 20000 in
set_option maxHeartbeats 4000000 in
/-- History.takeBack(loom) -/
theorem c_X4_takeBack (l : Launch) (g : ZG) {B : Nat} {oh o a n : Nat} (hB : B ≤ a) (ha : a ≤ o ∧ o + 12 ≤ a + n ∧ a ≤ oh ∧ oh + 98 ≤ a + n) (hd : o + 12 ≤ oh ∨ oh + 98 ≤ o) (f : Nat → Nat → Nat) (h1 : f 0 1 < 8) (h2 : f 0 2 ≤ 8) (h3 : 1 ≤ f 0 2) (kp : Nat → zL) (v : zL) (hv : zOk (kp ((f 0 1 + (f 0 2 - 1)) % 8))) (PX : Heap → Prop) (hx1 : ∀ H H1 : Heap, zCh1 oh 2 H H1 → PX H → PX H1) (hx2 : ∀ H H1 : Heap, zCh1 o 12 H H1 → PX H → PX H1) : Met l yX4_takeBack (.code yX4_takeBack cX4_takeBack 2 none :: GW) { frames := 3, cells := 0, slots := 0, locals := 102 } (va_Pc [.ref oh, .ref o] (zPre g B (fun H => zHi g oh f kp H ∧ zLo g o v H ∧ PX H))) (zX (fun w H => w = none ∧ zHi g oh (va_up f 0 (va_up (f 0) 2 (f 0 2 - 1))) kp H ∧ zLo g o (kp ((f 0 1 + (f 0 2 - 1)) % 8)) H ∧ PX H) a n) 0 0 (zA B) := by
  refine zMet (by decide) (Nat.le_of_ble_eq_true rfl) ?_
  intro p e R s m args below meth c Q ls hR hargs hQ S hr hlk hP hZ hS hnm hl
  have hl : lv_has ls 2 [(0, .ref (oh)), (1, .ref (o))] := hl
  obtain ⟨⟨hP, hK⟩, hL, hX⟩ := hP
  have hC : zCh1 a n s.heap s.heap := zCh1.rf
  generalize hix : (f 0 1 + (f 0 2 - 1)) % 8 = ix at *
  have hi8 : ix < 8 := by omega
  refine lv_aload_n S.1 S.2.1 dX4_takeBack_0 rfl (lv_at hl 0 rfl) ?_
  refine lv_dup S.1 S.2.1 dX4_takeBack_1 rfl ?_
  refine z_get (v := .int (nI (f 0 2))) S hZ.1 hP 0 (by decide) rfl rfl rfl 2 (by decide) rfl k152 dX4_takeBack_2 ?_
  refine z_ic S (k := 1) dX4_takeBack_5 (by decide) ?_
  refine z_sub S h3 dX4_takeBack_6 ?_
  refine z_put (v := .int (nI ((f 0 2) - 1))) (ty := .int) S hZ.1 hP hS (by omega) 0 (by decide) rfl rfl rfl 2 (by decide) (va_up (f 0) 2 ((f 0 2) - 1)) rfl k152 rfl (by decide +kernel) rfl rfl (Nat.le_of_ble_eq_true rfl) dX4_takeBack_7 (fun H1 locs1 hPn hCn hSn => ?_)
  have hK : ∀ i, i < 8 → zLo g (oh + 2 + 12 * i) (kp i) H1 := fun i hi => (hK i hi).kept hCn (by omega)
  have hL := hL.kept hCn (by omega)
  have hX := hx1 _ _ (hCn.mono (by omega) (by omega)) hX
  have hS := hSn
  have hP := hPn
  have hC := hC.tr (hCn.mono (b := a) (k := n) (by omega) (by omega))
  refine lv_aload_n S.1 S.2.1 dX4_takeBack_10 rfl (lv_at hl 1 rfl) ?_
  refine lv_aload_n S.1 S.2.1 dX4_takeBack_11 rfl (lv_at hl 0 rfl) ?_
  refine z_get (v := .ref (oh + 1)) S hZ.1 hP 0 (by decide) rfl rfl rfl 0 (by decide) rfl k150 dX4_takeBack_12 ?_
  refine lv_aload_n S.1 S.2.1 dX4_takeBack_15 rfl (lv_at hl 0 rfl) ?_
  refine z_get (v := .int (nI (f 0 1))) S hZ.1 hP 0 (by decide) rfl rfl rfl 1 (by decide) rfl k151 dX4_takeBack_16 ?_
  refine lv_aload_n S.1 S.2.1 dX4_takeBack_19 rfl (lv_at hl 0 rfl) ?_
  refine z_get (v := .int (nI (f 0 2 - 1))) S hZ.1 hP 0 (by decide) rfl rfl rfl 2 (by decide) rfl k152 dX4_takeBack_20 ?_
  refine z_add S dX4_takeBack_23 ?_
  refine z_bi S (k := 8) dX4_takeBack_24 (by decide) ?_
  refine z_rem S (by omega) (by omega) (by omega) dX4_takeBack_26 ?_
  rw [hix]
  refine z_aald S hZ.1 hP 1 (by decide) rfl 3 rfl rfl (i := ix) (v := oh + 2 + 12 * ix) hi8 (by decide) rfl dX4_takeBack_27 ?_
  refine z_w1 (v0 := none) (rest := []) (As := [.ref (oh + 2 + 12 * ix)]) S hZ hS (c_X8_copyFrom l g (o := o) (o2 := oh + 2 + 12 * ix) (by omega) (by omega) v (kp ix) hv) (by omega) ci_X8_copyFrom cv_X8_copyFrom k543 ⟨rfl, rfl, by rw [hR]; exact Nat.le_of_ble_eq_true rfl, by rw [hR]; exact Nat.le_of_ble_eq_true rfl⟩ ⟨hL, hK ix hi8⟩ (hL.1.recv hZ.1 0 (by decide) rfl rfl rfl) hl.1 rfl (Nat.le_of_ble_eq_true rfl) dX4_takeBack_28 ⟨by rw [hR]; exact Nat.le_of_ble_eq_true rfl, by rw [hR]; exact Nat.le_of_ble_eq_true rfl⟩ rfl (fun H1 locs1 hPn hCn hSn => ?_)
  have hC := hC.tr (hCn.mono (b := a) (k := n) (by omega) (by omega))
  exact z_wv hQ S hr hlk hSn hC ⟨rfl, ⟨hP.kept hCn (by omega), fun i hi => (hK i hi).kept hCn (by omega)⟩, hPn, hx2 _ _ hCn hX⟩ dX4_takeBack_31
