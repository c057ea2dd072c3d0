/-! THE LOOM: its edges, its parts -/
section ZC2
variable {p : Program} {l : Launch} {e : Env} {R : Room} {s : State} {m : MethodId} {args : Array Value} {below : List Frame} {meth : Method} {c : Code} {H : Heap} {locs : List Loc} {cells slots : Nat} {Q : State → Prop}
variable {cc bytes : ByteArray} {pc nL maxL index mc ms a n : Nat} {own : String} {ls : Array Slot} {rest st0 st1 : List Value} {g : ZG} {B : Nat} {y : MethodName} {ret : Option FieldType} {rm : Room} {PH : Heap → Prop} {v0 : Option Value} {b : Addr} {As : List Value} {PW : Heap → Prop}
/-- a virtual call that writes and whose answer is known -/
theorem z_w1 (S : CallFix p m c cc nL s args GW own) (hZ : zS g B s s.heap) (hS : va_S (zA B) s.heap H locs) (hM : Met l y (.code y bytes maxL ret :: GW) rm (va_Pc (.ref b :: As) (zPre g B PH)) (zX (fun v H => v = v0 ∧ PW H) a n) mc ms (zA B)) (hB : B ≤ a) (hI : zCI y bytes maxL ret As.length) (hV : Cond.instanceMethod y ∈ GW ∧ Cond.selects y.cls y y ∈ GW) (hlink : Cond.methodLink own index y ∈ GW) (hrm : zRm rm R maxL mc ms) (hPH : PH H) (hrv : ∃ cell : Cell, H[b]? = some cell ∧ cell.vm.isStatics = false ∧ s.vm.findClass y.cls = some cell.cls) (hsize : ls.size = nL) (hst0 : st0 = As.reverse ++ .ref b :: rest) (hcat : (rest.map fun v => v.category).sum ≤ 8) (hdg : decode cc pc = .ok (.invokevirtual index, 3)) (hf : cells + mc ≤ R.cells ∧ slots + ms ≤ R.slots) (hst1 : v0.toList ++ rest = st1)
    (kk : ∀ (H1 : Heap) (locs1 : List Loc), PW H1 → zCh1 a n H H1 → va_S (zA B) s.heap H1 locs1 → W p l e R s m args below meth c H1 locs1 (cells + mc) (slots + ms) Q (F0 m (pc + 3) ls st1)) : W p l e R s m args below meth c H locs cells slots Q (F0 m pc ls st0) :=
  z_wV S hZ hS hM hB hI hV hlink hrm hPH hrv hsize hst0 hcat hdg hf (fun v H1 locs1 hv hC hS1 => by
    obtain ⟨rfl, hw⟩ := hv
    rw [hst1]
    exact kk H1 locs1 hw hC hS1)
end ZC2
def zEo (f : Nat → Nat → Nat) : Prop := f 0 0 ≤ 4 ∧ f 0 1 ≤ 4
/-- an edge feels a row -/
def zFe (f : Nat → Nat → Nat) (b : Bool) : Nat → Nat → Nat := va_up f 0 (if b = true ∧ f 0 0 = 4 then va_up (va_up (f 0) 0 0) 1 (min (f 0 1 + 1) 4) else va_up (f 0) 0 (if b = true then f 0 0 + 1 else 0))
theorem zFe_ok {f : Nat → Nat → Nat} (h : zEo f) (b : Bool) : zEo (zFe f b) := by
  obtain ⟨h1, h2⟩ := h
  unfold zEo zFe
  by_cases hb : b = true ∧ f 0 0 = 4
  · rw [if_pos hb]
    exact ⟨by show (0 : Nat) ≤ 4; omega, by show min (f 0 1 + 1) 4 ≤ 4; omega⟩
  · rw [if_neg hb]
    refine ⟨?_, h2⟩
    show (if b = true then f 0 0 + 1 else 0) ≤ 4
    split
    · rename_i hb2
      have : ¬ f 0 0 = 4 := fun z => hb ⟨hb2, z⟩
      omega
    · omega
theorem ci_X3_repair : zCI yX3_repair cX3_repair 1 (some .int) 0 := ⟨k626, k5, by decide +kernel⟩
theorem cv_X3_repair : Cond.instanceMethod yX3_repair ∈ GW ∧ Cond.selects (yX3_repair).cls yX3_repair yX3_repair ∈ GW := ⟨k624, k625⟩
set_option maxRecDepth 20000 in
set_option maxHeartbeats 4000000 in
/-- Edge.repair() -/
theorem c_X3_repair (l : Launch) (g : ZG) {B : Nat} {o : Nat} (hB : B ≤ o) (f : Nat → Nat → Nat) (h1 : 1 ≤ f 0 1) : Met l yX3_repair (.code yX3_repair cX3_repair 1 (some .int) :: GW) { frames := 0, cells := 0, slots := 0, locals := 0 } (va_Pc [.ref o] (zPre g B (fun H => zPm g o 1 TE f H))) (zX (fun v H => v = some (.int (nI (f 0 1 - 1))) ∧ zPm g o 1 TE (va_up f 0 (va_up (va_up (f 0) 1 (f 0 1 - 1)) 0 0)) H) o 1) 0 0 (zA B) := by
  refine zMet (by decide) (Nat.le_of_ble_eq_true rfl) ?_
  intro p e R s m args below meth c Q ls hR hargs hQ S hr hlk hP hZ hS hnm hl
  have hl : lv_has ls 1 [(0, .ref (o))] := hl
  have hC : zCh1 o 1 s.heap s.heap := zCh1.rf
  refine lv_aload_n S.1 S.2.1 dX3_repair_0 rfl (lv_at hl 0 rfl) ?_
  refine lv_dup S.1 S.2.1 dX3_repair_1 rfl ?_
  refine z_get (v := .int (nI (f 0 1))) S hZ.1 hP 0 (by decide) rfl rfl rfl 1 (by decide) rfl k107 dX3_repair_2 ?_
  refine z_ic S (k := 1) dX3_repair_5 (by decide) ?_
  refine z_sub S (by omega) dX3_repair_6 ?_
  refine z_put (v := .int (nI ((f 0 1) - 1))) (ty := .int) S hZ.1 hP hS hB 0 (by decide) rfl rfl rfl 1 (by decide) (va_up (f 0) 1 ((f 0 1) - 1)) rfl k107 rfl (by decide +kernel) rfl rfl (Nat.le_of_ble_eq_true rfl) dX3_repair_7 (fun H1 locs1 hPn hCn hSn => ?_)
  have hS := hSn
  have hP := hPn
  have hC := hC.tr (hCn.mono (b := o) (k := 1) (by omega) (by omega))
  refine lv_aload_n S.1 S.2.1 dX3_repair_10 rfl (lv_at hl 0 rfl) ?_
  refine z_ic S (k := 0) dX3_repair_11 (by decide) ?_
  refine z_put (v := .int (nI (0))) (ty := .int) S hZ.1 hP hS hB 0 (by decide) rfl rfl rfl 0 (by decide) (va_up ((va_up f 0 (va_up (f 0) 1 ((f 0 1) - 1))) 0) 0 0) rfl k105 rfl (by decide +kernel) rfl rfl (Nat.le_of_ble_eq_true rfl) dX3_repair_12 (fun H1 locs1 hPn hCn hSn => ?_)
  have hS := hSn
  have hP := hPn
  have hC := hC.tr (hCn.mono (b := o) (k := 1) (by omega) (by omega))
  have hP : zPm g o 1 TE (va_up f 0 (va_up (va_up (f 0) 1 (f 0 1 - 1)) 0 0)) H1 := hP.eq (by funext a b; by_cases ha : a = 0 <;> simp [va_up, ha])
  refine lv_aload_n S.1 S.2.1 dX3_repair_15 rfl (lv_at hl 0 rfl) ?_
  refine z_get (v := .int (nI (f 0 1 - 1))) S hZ.1 hP 0 (by decide) rfl rfl rfl 1 (by decide) rfl k107 dX3_repair_16 ?_
  exact z_wi hQ S hr hlk (zn_int _) hS hC ⟨rfl, hP⟩ dX3_repair_19
theorem ci_X3_copyFrom : zCI yX3_copyFrom cX3_copyFrom 2 none 1 := ⟨k314, k5, by decide +kernel⟩
theorem cv_X3_copyFrom : Cond.instanceMethod yX3_copyFrom ∈ GW ∧ Cond.selects (yX3_copyFrom).cls yX3_copyFrom yX3_copyFrom ∈ GW := ⟨k312, k313⟩
set_option maxRecDepth 20000 in
set_option maxHeartbeats 4000000 in
/-- Edge.copyFrom(other) -/
theorem c_X3_copyFrom (l : Launch) (g : ZG) {B : Nat} {o o2 : Nat} (hB : B ≤ o) (hd : o2 + 1 ≤ o ∨ o + 1 ≤ o2) (f f2 : Nat → Nat → Nat) : Met l yX3_copyFrom (.code yX3_copyFrom cX3_copyFrom 2 none :: GW) { frames := 0, cells := 0, slots := 0, locals := 0 } (va_Pc [.ref o, .ref o2] (zPre g B (fun H => zPm g o 1 TE f H ∧ zPm g o2 1 TE f2 H))) (zX (fun v H => v = none ∧ zPm g o 1 TE f2 H) o 1) 0 0 (zA B) := by
  refine zMet (by decide) (Nat.le_of_ble_eq_true rfl) ?_
  intro p e R s m args below meth c Q ls hR hargs hQ S hr hlk hP hZ hS hnm hl
  have hl : lv_has ls 2 [(0, .ref (o)), (1, .ref (o2))] := hl
  obtain ⟨hP, hP2⟩ := hP
  have hC : zCh1 o 1 s.heap s.heap := zCh1.rf
  refine lv_aload_n S.1 S.2.1 dX3_copyFrom_0 rfl (lv_at hl 0 rfl) ?_
  refine lv_aload_n S.1 S.2.1 dX3_copyFrom_1 rfl (lv_at hl 1 rfl) ?_
  refine z_get (v := .int (nI (f2 0 0))) S hZ.1 hP2 0 (by decide) rfl rfl rfl 0 (by decide) rfl k105 dX3_copyFrom_2 ?_
  refine z_put (v := .int (nI (f2 0 0))) (ty := .int) S hZ.1 hP hS hB 0 (by decide) rfl rfl rfl 0 (by decide) (va_up (f 0) 0 (f2 0 0)) rfl k105 rfl (by decide +kernel) rfl rfl (Nat.le_of_ble_eq_true rfl) dX3_copyFrom_5 (fun H1 locs1 hPn hCn hSn => ?_)
  have hS := hSn
  have hP2 := hP2.kept hCn (by omega)
  have hP := hPn
  have hC := hC.tr (hCn.mono (b := o) (k := 1) (by omega) (by omega))
  refine lv_aload_n S.1 S.2.1 dX3_copyFrom_8 rfl (lv_at hl 0 rfl) ?_
  refine lv_aload_n S.1 S.2.1 dX3_copyFrom_9 rfl (lv_at hl 1 rfl) ?_
  refine z_get (v := .int (nI (f2 0 1))) S hZ.1 hP2 0 (by decide) rfl rfl rfl 1 (by decide) rfl k107 dX3_copyFrom_10 ?_
  refine z_put (v := .int (nI (f2 0 1))) (ty := .int) S hZ.1 hP hS hB 0 (by decide) rfl rfl rfl 1 (by decide) (va_up ((va_up f 0 (va_up (f 0) 0 (f2 0 0))) 0) 1 (f2 0 1)) rfl k107 rfl (by decide +kernel) rfl rfl (Nat.le_of_ble_eq_true rfl) dX3_copyFrom_13 (fun H1 locs1 hPn hCn hSn => ?_)
  have hS := hSn
  have hP2 := hP2.kept hCn (by omega)
  have hP := hPn
  have hC := hC.tr (hCn.mono (b := o) (k := 1) (by omega) (by omega))
  have hP : zPm g o 1 TE f2 H1 := hP.cg (fun k hk a hv => by match k, hk with | 0, _ => exact hv | k + 1, hk => exact absurd hk (by omega))
  exact z_wv hQ S hr hlk hS hC ⟨rfl, hP⟩ dX3_copyFrom_16
theorem ci_X3_feel : zCI yX3_feel cX3_feel 2 none 1 := ⟨k595, k5, by decide +kernel⟩
theorem cv_X3_feel : Cond.instanceMethod yX3_feel ∈ GW ∧ Cond.selects (yX3_feel).cls yX3_feel yX3_feel ∈ GW := ⟨k593, k594⟩
set_option maxRecDepth 20000 in
set_option maxHeartbeats 4000000 in
/-- Edge.feel(b) -/
theorem c_X3_feel (l : Launch) (g : ZG) {B : Nat} {o : Nat} (hB : B ≤ o) (f : Nat → Nat → Nat) (hw : zEo f) (b : Bool) : Met l yX3_feel (.code yX3_feel cX3_feel 2 none :: GW) { frames := 1, cells := 0, slots := 0, locals := 40 } (va_Pc [.ref o, .int (nI b.toNat)] (zPre g B (fun H => zPm g o 1 TE f H))) (zX (fun v H => v = none ∧ zPm g o 1 TE (zFe f b) H) o 1) 0 0 (zA B) := by
  refine zMet (by decide) (Nat.le_of_ble_eq_true rfl) ?_
  intro p e R s m args below meth c Q ls hR hargs hQ S hr hlk hP hZ hS hnm hl
  have hl : lv_has ls 2 [(0, .ref (o)), (1, .int (nI (b).toNat))] := hl
  have hC : zCh1 o 1 s.heap s.heap := zCh1.rf
  obtain ⟨hw0, hw1⟩ := hw
  refine lv_aload_n S.1 S.2.1 dX3_feel_0 rfl (lv_at hl 0 rfl) ?_
  refine lv_iload_n S.1 S.2.1 dX3_feel_1 rfl (lv_at hl 1 rfl) ?_
  refine z_beq (tgt := 14) S dX3_feel_2 (by decide) (fun h1 => ?_) (fun h1 => ?_)
  · refine z_ic S (k := 0) dX3_feel_14 (by decide) ?_
    refine z_put (v := .int (nI (0))) (ty := .int) S hZ.1 hP hS hB 0 (by decide) rfl rfl rfl 0 (by decide) (va_up (f 0) 0 0) rfl k105 rfl (by decide +kernel) rfl rfl (Nat.le_of_ble_eq_true rfl) dX3_feel_15 (fun H1 locs1 hPn hCn hSn => ?_)
    have hS := hSn
    have hP := hPn
    have hC := hC.tr (hCn.mono (b := o) (k := 1) (by omega) (by omega))
    refine lv_aload_n S.1 S.2.1 dX3_feel_18 rfl (lv_at hl 0 rfl) ?_
    refine z_get (v := .int (nI (0))) S hZ.1 hP 0 (by decide) rfl rfl rfl 0 (by decide) rfl k105 dX3_feel_19 ?_
    refine z_ic S (k := 5) dX3_feel_22 (by decide) ?_
    refine z_cne (tgt := 45) S (by omega) (by omega) dX3_feel_23 (by decide) (fun h2 => ?_) (fun h2 => ?_)
    · have hP : zPm g o 1 TE (zFe f b) H1 := hP.eq (by unfold zFe; rw [if_neg (fun z => by rw [h1] at z; exact absurd z.1 (by decide))]; rw [h1]; rfl)
      exact z_wv hQ S hr hlk hS hC ⟨rfl, hP⟩ dX3_feel_45
    · exact absurd h2 (by omega)
  · refine lv_aload_n S.1 S.2.1 dX3_feel_5 rfl (lv_at hl 0 rfl) ?_
    refine z_get (v := .int (nI (f 0 0))) S hZ.1 hP 0 (by decide) rfl rfl rfl 0 (by decide) rfl k105 dX3_feel_6 ?_
    refine z_ic S (k := 1) dX3_feel_9 (by decide) ?_
    refine z_add S dX3_feel_10 ?_
    refine lv_goto (tgt := 15) S.1 S.2.1 dX3_feel_11 (by decide) ?_
    refine z_put (v := .int (nI ((f 0 0) + 1))) (ty := .int) S hZ.1 hP hS hB 0 (by decide) rfl rfl rfl 0 (by decide) (va_up (f 0) 0 ((f 0 0) + 1)) rfl k105 rfl (by decide +kernel) rfl rfl (Nat.le_of_ble_eq_true rfl) dX3_feel_15 (fun H1 locs1 hPn hCn hSn => ?_)
    have hS := hSn
    have hP := hPn
    have hC := hC.tr (hCn.mono (b := o) (k := 1) (by omega) (by omega))
    refine lv_aload_n S.1 S.2.1 dX3_feel_18 rfl (lv_at hl 0 rfl) ?_
    refine z_get (v := .int (nI (f 0 0 + 1))) S hZ.1 hP 0 (by decide) rfl rfl rfl 0 (by decide) rfl k105 dX3_feel_19 ?_
    refine z_ic S (k := 5) dX3_feel_22 (by decide) ?_
    refine z_cne (tgt := 45) S (by omega) (by omega) dX3_feel_23 (by decide) (fun h2 => ?_) (fun h2 => ?_)
    · have hP : zPm g o 1 TE (zFe f b) H1 := hP.eq (by unfold zFe; rw [if_neg (fun z => by omega)]; rw [h1]; rfl)
      exact z_wv hQ S hr hlk hS hC ⟨rfl, hP⟩ dX3_feel_45
    · refine lv_aload_n S.1 S.2.1 dX3_feel_26 rfl (lv_at hl 0 rfl) ?_
      refine z_ic S (k := 0) dX3_feel_27 (by decide) ?_
      refine z_put (v := .int (nI (0))) (ty := .int) S hZ.1 hP hS hB 0 (by decide) rfl rfl rfl 0 (by decide) (va_up ((va_up f 0 (va_up (f 0) 0 ((f 0 0) + 1))) 0) 0 0) rfl k105 rfl (by decide +kernel) rfl rfl (Nat.le_of_ble_eq_true rfl) dX3_feel_28 (fun H1 locs1 hPn hCn hSn => ?_)
      have hS := hSn
      have hP := hPn
      have hC := hC.tr (hCn.mono (b := o) (k := 1) (by omega) (by omega))
      refine lv_aload_n S.1 S.2.1 dX3_feel_31 rfl (lv_at hl 0 rfl) ?_
      refine lv_aload_n S.1 S.2.1 dX3_feel_32 rfl (lv_at hl 0 rfl) ?_
      refine z_get (v := .int (nI (f 0 1))) S hZ.1 hP 0 (by decide) rfl rfl rfl 1 (by decide) rfl k107 dX3_feel_33 ?_
      refine z_ic S (k := 1) dX3_feel_36 (by decide) ?_
      refine z_add S dX3_feel_37 ?_
      refine z_ic S (k := 4) dX3_feel_38 (by decide) ?_
      refine z_min S (by omega) (by omega) hl.1 k596 ⟨k597, k21, k598⟩ (by rw [hR]; decide) (by rw [hR]; exact Nat.le_of_ble_eq_true rfl) (by rw [hR]; decide) (by rw [hR]; decide) dX3_feel_39 ?_
      refine z_put (v := .int (nI (min ((f 0 1) + 1) 4))) (ty := .int) S hZ.1 hP hS hB 0 (by decide) rfl rfl rfl 1 (by decide) (va_up ((va_up (va_up f 0 (va_up (f 0) 0 ((f 0 0) + 1))) 0 (va_up ((va_up f 0 (va_up (f 0) 0 ((f 0 0) + 1))) 0) 0 0)) 0) 1 (min ((f 0 1) + 1) 4)) rfl k107 rfl (by decide +kernel) rfl rfl (Nat.le_of_ble_eq_true rfl) dX3_feel_42 (fun H1 locs1 hPn hCn hSn => ?_)
      have hS := hSn
      have hP := hPn
      have hC := hC.tr (hCn.mono (b := o) (k := 1) (by omega) (by omega))
      have hP : zPm g o 1 TE (zFe f b) H1 := hP.eq (by unfold zFe; rw [if_pos ⟨h1, by omega⟩]; funext a c; by_cases ha : a = 0; by_cases hc : c = 0 <;> by_cases hd : c = 1 <;> simp [va_up, ha, hc, hd]; simp [va_up, ha])
      exact z_wv hQ S hr hlk hS hC ⟨rfl, hP⟩ dX3_feel_45
theorem ci_X1_lastKnottedRow : zCI yX1_lastKnottedRow cX1_lastKnottedRow 2 (some .int) 0 := ⟨k390, k4, by decide +kernel⟩
theorem cv_X1_lastKnottedRow : Cond.instanceMethod yX1_lastKnottedRow ∈ GW ∧ Cond.selects (yX1_lastKnottedRow).cls yX1_lastKnottedRow yX1_lastKnottedRow ∈ GW := ⟨k388, k389⟩
set_option maxRecDepth 20000 in
set_option maxHeartbeats 4000000 in
/-- Cloth.lastKnottedRow() -/
theorem c_X1_lastKnottedRow (l : Launch) (g : ZG) {B : Nat} {o : Nat} (f : Nat → Nat → Nat) (hw : zKo f) (b : Nat) (hb : b ≤ f 0 3) (hno : ∀ k, b ≤ k → k < f 0 3 → f 3 k = 0) (hyes : 0 < b → ¬ f 3 (b - 1) = 0) : Met l yX1_lastKnottedRow (.code yX1_lastKnottedRow cX1_lastKnottedRow 2 (some .int) :: GW) { frames := 0, cells := 0, slots := 0, locals := 0 } (va_Pc [.ref o] (zPre g B (fun H => zPm g o 4 TC f H))) (zR (some (.int (nI b - 1)))) 0 0 (fun _ => False) := by
  refine zMet (by decide) (Nat.le_of_ble_eq_true rfl) ?_
  intro p e R s m args below meth c Q ls hR hargs hQ S hr hlk hP hZ hS hnm hl
  have hl : lv_has ls 2 [(0, .ref (o))] := hl
  refine lv_aload_n S.1 S.2.1 dX1_lastKnottedRow_0 rfl (lv_at hl 0 rfl) ?_
  refine z_get (v := .int (nI (f 0 3))) S hZ.1 hP 0 (by decide) rfl rfl rfl 3 (by decide) rfl k87 dX1_lastKnottedRow_1 ?_
  refine z_ic S (k := 1) dX1_lastKnottedRow_4 (by decide) ?_
  refine lv_isub S.1 S.2.1 dX1_lastKnottedRow_5 ?_
  refine lv_istore_n (lv' := [(1, .int ((nI (f 0 3)) - (nI (1)))), (0, .ref (o))]) S.1 S.2.1 dX1_lastKnottedRow_6 rfl hl (by decide) rfl (fun ls hl => ?_)
  have loop : ∀ (i : Nat) (ls : Array Slot), b ≤ i → i ≤ f 0 3 → lv_has ls 2 [(0, .ref o), (1, .int (nI i - 1))] → W p l e R s m args below meth c s.heap [] 0 0 Q (F0 m 7 ls []) := by
    intro i
    induction i with
    | zero =>
      intro ls h1 h2 hl
      refine lv_iload_n S.1 S.2.1 dX1_lastKnottedRow_7 rfl (lv_at hl 1 rfl) ?_
      refine lv_if_lt (tgt := 26) S.1 S.2.1 dX1_lastKnottedRow_8 (by decide) (fun _ => ?_) (fun h => absurd (by decide) h)
      refine lv_iload_n S.1 S.2.1 dX1_lastKnottedRow_26 rfl (lv_at hl 1 rfl) ?_
      exact z_ri hQ S hr hlk (zn_int _) (by rw [show b = 0 by omega]) dX1_lastKnottedRow_27
    | succ i ih =>
      intro ls h1 h2 hl
      rw [nI_pred] at hl
      refine lv_iload_n S.1 S.2.1 dX1_lastKnottedRow_7 rfl (lv_at hl 1 rfl) ?_
      refine z_ilt (tgt := 26) S (by have := hw.1; omega) dX1_lastKnottedRow_8 (by decide) ?_
      refine lv_aload_n S.1 S.2.1 dX1_lastKnottedRow_11 rfl (lv_at hl 0 rfl) ?_
      refine z_get (v := .ref (o + 3)) S hZ.1 hP 0 (by decide) rfl rfl rfl 2 (by decide) rfl k86 dX1_lastKnottedRow_12 ?_
      refine lv_iload_n S.1 S.2.1 dX1_lastKnottedRow_15 rfl (lv_at hl 1 rfl) ?_
      refine z_iald S hZ.1 hP 3 (by decide) rfl rfl (i := i) (by have := hw.1; omega) (by decide) dX1_lastKnottedRow_16 ?_
      refine z_ine (tgt := 26) S (hw.k i) dX1_lastKnottedRow_17 (by decide) (fun h3 => ?_) (fun h3 => ?_)
      · refine lv_iload_n S.1 S.2.1 dX1_lastKnottedRow_26 rfl (lv_at hl 1 rfl) ?_
        exact z_ri hQ S hr hlk (zn_int _) (by have e : b = i + 1 := (by rcases Nat.lt_or_ge i b with z | z; omega; exact absurd (hno i z (by omega)) h3); rw [e, nI_pred]) dX1_lastKnottedRow_27
      · refine lv_iinc (v := nI i - 1) (lv' := [(1, .int (nI i - 1)), (0, .ref o)]) S.1 S.2.1 dX1_lastKnottedRow_20 hl (k := 1) rfl (by rw [Int32.sub_eq_add_neg]; rfl) (by decide) rfl (fun ls hl => ?_)
        refine lv_goto (tgt := 7) S.1 S.2.1 dX1_lastKnottedRow_23 (by decide) ?_
        exact ih ls (by rcases (show b ≤ i ∨ b = i + 1 by omega) with z | z; exact z; subst z; exact absurd h3 (hyes (by omega))) (by omega) (lv_sub hl [1, 0] rfl)
  exact loop (f 0 3) ls hb (Nat.le_refl _) (lv_sub hl [1, 0] rfl)
