/-! READING CALLS of CandleLoom -/
theorem zn_b1 {q : Nat} (h : q ≤ 1) : narrow .boolean (.int (nI q)) = .int (nI q) := by
  rcases (show q = 0 ∨ q = 1 by omega) with e | e <;> subst e <;> rfl
theorem ci_X11_wickCount : zCI yX11_wickCount cX11_wickCount 1 (some .int) 0 := ⟨k966, k1, by decide +kernel⟩
theorem cv_X11_wickCount : Cond.instanceMethod yX11_wickCount ∈ GW ∧ Cond.selects (yX11_wickCount).cls yX11_wickCount yX11_wickCount ∈ GW := ⟨k964, k965⟩
set_option maxRecDepth 20000 in
set_option maxHeartbeats 4000000 in
/-- wickCount -/
theorem c_wickCount (l : Launch) (g : ZG) {B : Nat} {o : Nat} (z : zSt) (hv : zOk (z 0))  : Met l yX11_wickCount (.code yX11_wickCount cX11_wickCount 1 (some .int) :: GW) { frames := 0, cells := 0, slots := 0, locals := 0 } (va_Pc [.ref o] (zPre g B (fun H => zSO g o z H))) (zR (some (.int (nI (z 0 1 0 4))))) 0 0 (fun _ => False) := by
  refine zMet (by decide) (Nat.le_of_ble_eq_true rfl) ?_
  intro p e R s m args below meth c Q ls hR hargs hQ S hr hlk hP hZ hS hnm hl
  have hl : lv_has ls 1 [(0, .ref (o))] := hl
  obtain ⟨hRo, hL, hF, hN, hHi, hJ, hQ0, hSc, hLn⟩ := hP
  obtain ⟨hP0, hP1, hP2, hP3, hP4⟩ := id hL
  have hw8 := hv.1.1
  have hk40 := hv.2.1.1
  refine lv_aload_n S.1 S.2.1 dX11_wickCount_0 rfl (lv_at hl 0 rfl) ?_
  refine z_get (v := .ref (o + 1)) S hZ.1 hRo 0 (by decide) rfl rfl rfl 0 (by decide) rfl k245 dX11_wickCount_1 ?_
  refine z_get (v := .ref (o + 1 + 1)) S hZ.1 hP0 0 (by decide) rfl rfl rfl 0 (by decide) rfl k118 dX11_wickCount_4 ?_
  refine z_get (v := .int (nI ((z 0 1) 0 4))) S hZ.1 hP1 0 (by decide) rfl rfl rfl 4 (by decide) rfl k61 dX11_wickCount_7 ?_
  exact z_ri hQ S hr hlk (zn_int _) rfl dX11_wickCount_10
theorem ci_X11_litCount : zCI yX11_litCount cX11_litCount 1 (some .int) 0 := ⟨k1028, k1, by decide +kernel⟩
theorem cv_X11_litCount : Cond.instanceMethod yX11_litCount ∈ GW ∧ Cond.selects (yX11_litCount).cls yX11_litCount yX11_litCount ∈ GW := ⟨k1026, k1027⟩
set_option maxRecDepth 20000 in
set_option maxHeartbeats 4000000 in
/-- litCount -/
theorem c_litCount (l : Launch) (g : ZG) {B : Nat} {o : Nat} (z : zSt) (hv : zOk (z 0))  : Met l yX11_litCount (.code yX11_litCount cX11_litCount 1 (some .int) :: GW) { frames := 1, cells := 0, slots := 0, locals := 22 } (va_Pc [.ref o] (zPre g B (fun H => zSO g o z H))) (zR (some (.int (nI (zSum (z 0 1 4) (z 0 1 0 4)))))) 0 0 (fun _ => False) := by
  refine zMet (by decide) (Nat.le_of_ble_eq_true rfl) ?_
  intro p e R s m args below meth c Q ls hR hargs hQ S hr hlk hP hZ hS hnm hl
  have hl : lv_has ls 1 [(0, .ref (o))] := hl
  obtain ⟨hRo, hL, hF, hN, hHi, hJ, hQ0, hSc, hLn⟩ := hP
  obtain ⟨hP0, hP1, hP2, hP3, hP4⟩ := id hL
  have hw8 := hv.1.1
  have hk40 := hv.2.1.1
  refine lv_aload_n S.1 S.2.1 dX11_litCount_0 rfl (lv_at hl 0 rfl) ?_
  refine z_get (v := .ref (o + 1)) S hZ.1 hRo 0 (by decide) rfl rfl rfl 0 (by decide) rfl k245 dX11_litCount_1 ?_
  refine z_get (v := .ref (o + 1 + 1)) S hZ.1 hP0 0 (by decide) rfl rfl rfl 0 (by decide) rfl k118 dX11_litCount_4 ?_
  refine z_cV (v := some (.int (nI (zSum (z 0 1 4) (z 0 1 0 4))))) (rest := []) (As := []) S hZ hS (c_X10_countLit l g (z 0 1) hv.1) ci_X10_countLit cv_X10_countLit k1029 ⟨rfl, rfl, by rw [hR]; decide, by rw [hR]; decide⟩ hP1 (hP1.recv hZ.1 0 (by decide) rfl rfl rfl) hl.1 rfl (Nat.le_of_ble_eq_true rfl) dX11_litCount_7 ⟨by rw [hR]; decide, by rw [hR]; decide⟩ rfl ?_
  exact z_ri hQ S hr hlk (zn_int _) rfl dX11_litCount_10
theorem ci_X11_isLit : zCI yX11_isLit cX11_isLit 2 (some .boolean) 1 := ⟨k976, k1, by decide +kernel⟩
theorem cv_X11_isLit : Cond.instanceMethod yX11_isLit ∈ GW ∧ Cond.selects (yX11_isLit).cls yX11_isLit yX11_isLit ∈ GW := ⟨k974, k975⟩
set_option maxRecDepth 20000 in
set_option maxHeartbeats 4000000 in
/-- isLit -/
theorem c_isLit (l : Launch) (g : ZG) {B : Nat} {o : Nat} (z : zSt) (hv : zOk (z 0)) (i : Nat) (hi : i < z 0 1 0 4) : Met l yX11_isLit (.code yX11_isLit cX11_isLit 2 (some .boolean) :: GW) { frames := 1, cells := 0, slots := 0, locals := 21 } (va_Pc [.ref o, .int (nI (i))] (zPre g B (fun H => zSO g o z H))) (zR (some (.int (nI (z 0 1 4 i))))) 0 0 (fun _ => False) := by
  refine zMet (by decide) (Nat.le_of_ble_eq_true rfl) ?_
  intro p e R s m args below meth c Q ls hR hargs hQ S hr hlk hP hZ hS hnm hl
  have hl : lv_has ls 2 [(0, .ref (o)), (1, .int (nI (i)))] := hl
  obtain ⟨hRo, hL, hF, hN, hHi, hJ, hQ0, hSc, hLn⟩ := hP
  obtain ⟨hP0, hP1, hP2, hP3, hP4⟩ := id hL
  have hw8 := hv.1.1
  have hk40 := hv.2.1.1
  refine lv_aload_n S.1 S.2.1 dX11_isLit_0 rfl (lv_at hl 0 rfl) ?_
  refine z_get (v := .ref (o + 1)) S hZ.1 hRo 0 (by decide) rfl rfl rfl 0 (by decide) rfl k245 dX11_isLit_1 ?_
  refine z_get (v := .ref (o + 1 + 1)) S hZ.1 hP0 0 (by decide) rfl rfl rfl 0 (by decide) rfl k118 dX11_isLit_4 ?_
  refine lv_iload_n S.1 S.2.1 dX11_isLit_7 rfl (lv_at hl 1 rfl) ?_
  refine z_cV (v := some (.int (nI (decide (i < z 0 1 0 4)).toNat))) (rest := []) (As := [.int (nI (i))]) S hZ hS (c_X10_has l g (z 0 1) hv.1 i (by omega)) ci_X10_has cv_X10_has k972 ⟨rfl, rfl, by rw [hR]; decide, by rw [hR]; decide⟩ hP1 (hP1.recv hZ.1 0 (by decide) rfl rfl rfl) hl.1 rfl (Nat.le_of_ble_eq_true rfl) dX11_isLit_8 ⟨by rw [hR]; decide, by rw [hR]; decide⟩ rfl ?_
  refine z_cS (v := none) (rest := []) (As := [.int (nI (decide (i < z 0 1 0 4)).toNat)]) S hZ hS (c_requireIndex_t l g (decide (i < z 0 1 0 4)) (decide_eq_true hi) (PH := fun _ => True)) ci_X11_requireIndex cv_X11_requireIndex k500 ⟨rfl, rfl, by rw [hR]; decide, by rw [hR]; decide⟩ trivial hl.1 rfl (Nat.le_of_ble_eq_true rfl) dX11_isLit_11 ⟨by rw [hR]; decide, by rw [hR]; decide⟩ rfl ?_
  refine lv_aload_n S.1 S.2.1 dX11_isLit_14 rfl (lv_at hl 0 rfl) ?_
  refine z_get (v := .ref (o + 1)) S hZ.1 hRo 0 (by decide) rfl rfl rfl 0 (by decide) rfl k245 dX11_isLit_15 ?_
  refine z_get (v := .ref (o + 1 + 1)) S hZ.1 hP0 0 (by decide) rfl rfl rfl 0 (by decide) rfl k118 dX11_isLit_18 ?_
  refine z_get (v := .ref (o + 1 + 1 + 4)) S hZ.1 hP1 0 (by decide) rfl rfl rfl 3 (by decide) rfl k58 dX11_isLit_21 ?_
  refine lv_iload_n S.1 S.2.1 dX11_isLit_24 rfl (lv_at hl 1 rfl) ?_
  refine z_zald S hZ.1 hP1 4 (by decide) rfl rfl (i := i) (by omega) (by decide) dX11_isLit_25 ?_
  exact z_ri hQ S hr hlk (zn_b1 (hv.1.2 i).2.2.2.1) rfl dX11_isLit_26
theorem ci_X11_wax : zCI yX11_wax cX11_wax 2 (some .int) 1 := ⟨k971, k1, by decide +kernel⟩
theorem cv_X11_wax : Cond.instanceMethod yX11_wax ∈ GW ∧ Cond.selects (yX11_wax).cls yX11_wax yX11_wax ∈ GW := ⟨k969, k970⟩
set_option maxRecDepth 20000 in
set_option maxHeartbeats 4000000 in
/-- wax -/
theorem c_wax (l : Launch) (g : ZG) {B : Nat} {o : Nat} (z : zSt) (hv : zOk (z 0)) (i : Nat) (hi : i < z 0 1 0 4) : Met l yX11_wax (.code yX11_wax cX11_wax 2 (some .int) :: GW) { frames := 1, cells := 0, slots := 0, locals := 21 } (va_Pc [.ref o, .int (nI (i))] (zPre g B (fun H => zSO g o z H))) (zR (some (.int (nI (z 0 1 3 i))))) 0 0 (fun _ => False) := by
  refine zMet (by decide) (Nat.le_of_ble_eq_true rfl) ?_
  intro p e R s m args below meth c Q ls hR hargs hQ S hr hlk hP hZ hS hnm hl
  have hl : lv_has ls 2 [(0, .ref (o)), (1, .int (nI (i)))] := hl
  obtain ⟨hRo, hL, hF, hN, hHi, hJ, hQ0, hSc, hLn⟩ := hP
  obtain ⟨hP0, hP1, hP2, hP3, hP4⟩ := id hL
  have hw8 := hv.1.1
  have hk40 := hv.2.1.1
  refine lv_aload_n S.1 S.2.1 dX11_wax_0 rfl (lv_at hl 0 rfl) ?_
  refine z_get (v := .ref (o + 1)) S hZ.1 hRo 0 (by decide) rfl rfl rfl 0 (by decide) rfl k245 dX11_wax_1 ?_
  refine z_get (v := .ref (o + 1 + 1)) S hZ.1 hP0 0 (by decide) rfl rfl rfl 0 (by decide) rfl k118 dX11_wax_4 ?_
  refine lv_iload_n S.1 S.2.1 dX11_wax_7 rfl (lv_at hl 1 rfl) ?_
  refine z_cV (v := some (.int (nI (decide (i < z 0 1 0 4)).toNat))) (rest := []) (As := [.int (nI (i))]) S hZ hS (c_X10_has l g (z 0 1) hv.1 i (by omega)) ci_X10_has cv_X10_has k972 ⟨rfl, rfl, by rw [hR]; decide, by rw [hR]; decide⟩ hP1 (hP1.recv hZ.1 0 (by decide) rfl rfl rfl) hl.1 rfl (Nat.le_of_ble_eq_true rfl) dX11_wax_8 ⟨by rw [hR]; decide, by rw [hR]; decide⟩ rfl ?_
  refine z_cS (v := none) (rest := []) (As := [.int (nI (decide (i < z 0 1 0 4)).toNat)]) S hZ hS (c_requireIndex_t l g (decide (i < z 0 1 0 4)) (decide_eq_true hi) (PH := fun _ => True)) ci_X11_requireIndex cv_X11_requireIndex k500 ⟨rfl, rfl, by rw [hR]; decide, by rw [hR]; decide⟩ trivial hl.1 rfl (Nat.le_of_ble_eq_true rfl) dX11_wax_11 ⟨by rw [hR]; decide, by rw [hR]; decide⟩ rfl ?_
  refine lv_aload_n S.1 S.2.1 dX11_wax_14 rfl (lv_at hl 0 rfl) ?_
  refine z_get (v := .ref (o + 1)) S hZ.1 hRo 0 (by decide) rfl rfl rfl 0 (by decide) rfl k245 dX11_wax_15 ?_
  refine z_get (v := .ref (o + 1 + 1)) S hZ.1 hP0 0 (by decide) rfl rfl rfl 0 (by decide) rfl k118 dX11_wax_18 ?_
  refine z_get (v := .ref (o + 1 + 1 + 3)) S hZ.1 hP1 0 (by decide) rfl rfl rfl 2 (by decide) rfl k55 dX11_wax_21 ?_
  refine lv_iload_n S.1 S.2.1 dX11_wax_24 rfl (lv_at hl 1 rfl) ?_
  refine z_iald S hZ.1 hP1 3 (by decide) rfl rfl (i := i) (by omega) (by decide) dX11_wax_25 ?_
  exact z_ri hQ S hr hlk (zn_int _) rfl dX11_wax_26
theorem ci_X11_wickByWax : zCI yX11_wickByWax cX11_wickByWax 2 (some .int) 1 := ⟨k1011, k1, by decide +kernel⟩
theorem cv_X11_wickByWax : Cond.instanceMethod yX11_wickByWax ∈ GW ∧ Cond.selects (yX11_wickByWax).cls yX11_wickByWax yX11_wickByWax ∈ GW := ⟨k1009, k1010⟩
set_option maxRecDepth 20000 in
set_option maxHeartbeats 4000000 in
/-- wickByWax -/
theorem c_wickByWax (l : Launch) (g : ZG) {B : Nat} {o : Nat} (z : zSt) (hv : zOk (z 0)) (i : Nat) (hi : i < z 0 1 0 4) : Met l yX11_wickByWax (.code yX11_wickByWax cX11_wickByWax 2 (some .int) :: GW) { frames := 3, cells := 0, slots := 0, locals := 67 } (va_Pc [.ref o, .int (nI (i))] (zPre g B (fun H => zSO g o z H))) (zR (some (.int (nI (zAt (z 0 1) i))))) 0 0 (fun _ => False) := by
  refine zMet (by decide) (Nat.le_of_ble_eq_true rfl) ?_
  intro p e R s m args below meth c Q ls hR hargs hQ S hr hlk hP hZ hS hnm hl
  have hl : lv_has ls 2 [(0, .ref (o)), (1, .int (nI (i)))] := hl
  obtain ⟨hRo, hL, hF, hN, hHi, hJ, hQ0, hSc, hLn⟩ := hP
  obtain ⟨hP0, hP1, hP2, hP3, hP4⟩ := id hL
  have hw8 := hv.1.1
  have hk40 := hv.2.1.1
  refine lv_aload_n S.1 S.2.1 dX11_wickByWax_0 rfl (lv_at hl 0 rfl) ?_
  refine z_get (v := .ref (o + 1)) S hZ.1 hRo 0 (by decide) rfl rfl rfl 0 (by decide) rfl k245 dX11_wickByWax_1 ?_
  refine z_get (v := .ref (o + 1 + 1)) S hZ.1 hP0 0 (by decide) rfl rfl rfl 0 (by decide) rfl k118 dX11_wickByWax_4 ?_
  refine lv_iload_n S.1 S.2.1 dX11_wickByWax_7 rfl (lv_at hl 1 rfl) ?_
  refine z_cV (v := some (.int (nI (decide (i < z 0 1 0 4)).toNat))) (rest := []) (As := [.int (nI (i))]) S hZ hS (c_X10_has l g (z 0 1) hv.1 i (by omega)) ci_X10_has cv_X10_has k972 ⟨rfl, rfl, by rw [hR]; decide, by rw [hR]; decide⟩ hP1 (hP1.recv hZ.1 0 (by decide) rfl rfl rfl) hl.1 rfl (Nat.le_of_ble_eq_true rfl) dX11_wickByWax_8 ⟨by rw [hR]; decide, by rw [hR]; decide⟩ rfl ?_
  refine z_cS (v := none) (rest := []) (As := [.int (nI (decide (i < z 0 1 0 4)).toNat)]) S hZ hS (c_requireElement_t l g (decide (i < z 0 1 0 4)) (decide_eq_true hi) (PH := fun _ => True)) ci_X11_requireElement cv_X11_requireElement k806 ⟨rfl, rfl, by rw [hR]; decide, by rw [hR]; decide⟩ trivial hl.1 rfl (Nat.le_of_ble_eq_true rfl) dX11_wickByWax_11 ⟨by rw [hR]; decide, by rw [hR]; decide⟩ rfl ?_
  refine lv_aload_n S.1 S.2.1 dX11_wickByWax_14 rfl (lv_at hl 0 rfl) ?_
  refine z_get (v := .ref (o + 1)) S hZ.1 hRo 0 (by decide) rfl rfl rfl 0 (by decide) rfl k245 dX11_wickByWax_15 ?_
  refine z_get (v := .ref (o + 1 + 1)) S hZ.1 hP0 0 (by decide) rfl rfl rfl 0 (by decide) rfl k118 dX11_wickByWax_18 ?_
  refine lv_iload_n S.1 S.2.1 dX11_wickByWax_21 rfl (lv_at hl 1 rfl) ?_
  refine z_cV (v := some (.int (nI (zAt (z 0 1) i)))) (rest := []) (As := [.int (nI (i))]) S hZ hS (c_X10_atRank l g (z 0 1) hv.1 i (by omega)) ci_X10_atRank cv_X10_atRank k1012 ⟨rfl, rfl, by rw [hR]; decide, by rw [hR]; decide⟩ hP1 (hP1.recv hZ.1 0 (by decide) rfl rfl rfl) hl.1 rfl (Nat.le_of_ble_eq_true rfl) dX11_wickByWax_22 ⟨by rw [hR]; decide, by rw [hR]; decide⟩ rfl ?_
  exact z_ri hQ S hr hlk (zn_int _) rfl dX11_wickByWax_25
theorem ci_X11_nextMask : zCI yX11_nextMask cX11_nextMask 1 (some .int) 0 := ⟨k984, k1, by decide +kernel⟩
theorem cv_X11_nextMask : Cond.instanceMethod yX11_nextMask ∈ GW ∧ Cond.selects (yX11_nextMask).cls yX11_nextMask yX11_nextMask ∈ GW := ⟨k982, k983⟩
set_option maxRecDepth 20000 in
set_option maxHeartbeats 4000000 in
/-- nextMask -/
theorem c_nextMask (l : Launch) (g : ZG) {B : Nat} {o : Nat} (z : zSt) (hv : zOk (z 0)) (hq : zPt (z 0 1) (z 0 1 0 4) < 65536) : Met l yX11_nextMask (.code yX11_nextMask cX11_nextMask 1 (some .int) :: GW) { frames := 1, cells := 0, slots := 0, locals := 23 } (va_Pc [.ref o] (zPre g B (fun H => zSO g o z H))) (zR (some (.int (nI (zUb (z 0 3 0 1) (z 0 4 0 1) (zPt (z 0 1) (z 0 1 0 4))))))) 0 0 (fun _ => False) := by
  refine zMet (by decide) (Nat.le_of_ble_eq_true rfl) ?_
  intro p e R s m args below meth c Q ls hR hargs hQ S hr hlk hP hZ hS hnm hl
  have hl : lv_has ls 1 [(0, .ref (o))] := hl
  obtain ⟨hRo, hL, hF, hN, hHi, hJ, hQ0, hSc, hLn⟩ := hP
  obtain ⟨hP0, hP1, hP2, hP3, hP4⟩ := id hL
  have hw8 := hv.1.1
  have hk40 := hv.2.1.1
  refine lv_aload_n S.1 S.2.1 dX11_nextMask_0 rfl (lv_at hl 0 rfl) ?_
  refine z_get (v := .ref (o + 1)) S hZ.1 hRo 0 (by decide) rfl rfl rfl 0 (by decide) rfl k245 dX11_nextMask_1 ?_
  refine lv_aload_n S.1 S.2.1 dX11_nextMask_4 rfl (lv_at hl 0 rfl) ?_
  refine z_get (v := .ref (o + 1)) S hZ.1 hRo 0 (by decide) rfl rfl rfl 0 (by decide) rfl k245 dX11_nextMask_5 ?_
  refine z_get (v := .ref (o + 1 + 1)) S hZ.1 hP0 0 (by decide) rfl rfl rfl 0 (by decide) rfl k118 dX11_nextMask_8 ?_
  refine z_cV (v := some (.int (nI (zPt (z 0 1) (z 0 1 0 4))))) (rest := [.ref (o + 1)]) (As := []) S hZ hS (c_X10_pattern l g (z 0 1) hv.1) ci_X10_pattern cv_X10_pattern k985 ⟨rfl, rfl, by rw [hR]; decide, by rw [hR]; decide⟩ hP1 (hP1.recv hZ.1 0 (by decide) rfl rfl rfl) hl.1 rfl (Nat.le_of_ble_eq_true rfl) dX11_nextMask_11 ⟨by rw [hR]; decide, by rw [hR]; decide⟩ rfl ?_
  refine z_cV (v := some (.int (nI (zUb (z 0 3 0 1) (z 0 4 0 1) (zPt (z 0 1) (z 0 1 0 4)))))) (rest := []) (As := [.int (nI (zPt (z 0 1) (z 0 1 0 4)))]) S hZ hS (c_X8_unburnt l g (z 0) hv (zPt (z 0 1) (z 0 1 0 4)) hq) ci_X8_unburnt cv_X8_unburnt k986 ⟨rfl, rfl, by rw [hR]; decide, by rw [hR]; decide⟩ hL (hL.1.recv hZ.1 0 (by decide) rfl rfl rfl) hl.1 rfl (Nat.le_of_ble_eq_true rfl) dX11_nextMask_14 ⟨by rw [hR]; decide, by rw [hR]; decide⟩ rfl ?_
  exact z_ri hQ S hr hlk (zn_int _) rfl dX11_nextMask_17
theorem ci_X11_rowsUntilDarkByWax : zCI yX11_rowsUntilDarkByWax cX11_rowsUntilDarkByWax 1 (some .int) 0 := ⟨k1041, k1, by decide +kernel⟩
theorem cv_X11_rowsUntilDarkByWax : Cond.instanceMethod yX11_rowsUntilDarkByWax ∈ GW ∧ Cond.selects (yX11_rowsUntilDarkByWax).cls yX11_rowsUntilDarkByWax yX11_rowsUntilDarkByWax ∈ GW := ⟨k1039, k1040⟩
set_option maxRecDepth 20000 in
set_option maxHeartbeats 4000000 in
/-- rowsUntilDarkByWax -/
theorem c_rowsUntilDarkByWax (l : Launch) (g : ZG) {B : Nat} {o : Nat} (z : zSt) (hv : zOk (z 0))  : Met l yX11_rowsUntilDarkByWax (.code yX11_rowsUntilDarkByWax cX11_rowsUntilDarkByWax 1 (some .int) :: GW) { frames := 2, cells := 0, slots := 0, locals := 43 } (va_Pc [.ref o] (zPre g B (fun H => zSO g o z H))) (zR (some (.int (nI (zMx (z 0 1) (z 0 1 0 4)))))) 0 0 (fun _ => False) := by
  refine zMet (by decide) (Nat.le_of_ble_eq_true rfl) ?_
  intro p e R s m args below meth c Q ls hR hargs hQ S hr hlk hP hZ hS hnm hl
  have hl : lv_has ls 1 [(0, .ref (o))] := hl
  obtain ⟨hRo, hL, hF, hN, hHi, hJ, hQ0, hSc, hLn⟩ := hP
  obtain ⟨hP0, hP1, hP2, hP3, hP4⟩ := id hL
  have hw8 := hv.1.1
  have hk40 := hv.2.1.1
  refine lv_aload_n S.1 S.2.1 dX11_rowsUntilDarkByWax_0 rfl (lv_at hl 0 rfl) ?_
  refine z_get (v := .ref (o + 1)) S hZ.1 hRo 0 (by decide) rfl rfl rfl 0 (by decide) rfl k245 dX11_rowsUntilDarkByWax_1 ?_
  refine z_get (v := .ref (o + 1 + 1)) S hZ.1 hP0 0 (by decide) rfl rfl rfl 0 (by decide) rfl k118 dX11_rowsUntilDarkByWax_4 ?_
  refine z_cV (v := some (.int (nI (zMx (z 0 1) (z 0 1 0 4))))) (rest := []) (As := []) S hZ hS (c_X10_mostLitWax l g (z 0 1) hv.1) ci_X10_mostLitWax cv_X10_mostLitWax k1042 ⟨rfl, rfl, by rw [hR]; decide, by rw [hR]; decide⟩ hP1 (hP1.recv hZ.1 0 (by decide) rfl rfl rfl) hl.1 rfl (Nat.le_of_ble_eq_true rfl) dX11_rowsUntilDarkByWax_7 ⟨by rw [hR]; decide, by rw [hR]; decide⟩ rfl ?_
  exact z_ri hQ S hr hlk (zn_int _) rfl dX11_rowsUntilDarkByWax_10
theorem ci_X11_rowCount : zCI yX11_rowCount cX11_rowCount 1 (some .int) 0 := ⟨k980, k1, by decide +kernel⟩
theorem cv_X11_rowCount : Cond.instanceMethod yX11_rowCount ∈ GW ∧ Cond.selects (yX11_rowCount).cls yX11_rowCount yX11_rowCount ∈ GW := ⟨k978, k979⟩
set_option maxRecDepth 20000 in
set_option maxHeartbeats 4000000 in
/-- rowCount -/
theorem c_rowCount (l : Launch) (g : ZG) {B : Nat} {o : Nat} (z : zSt) (hv : zOk (z 0))  : Met l yX11_rowCount (.code yX11_rowCount cX11_rowCount 1 (some .int) :: GW) { frames := 0, cells := 0, slots := 0, locals := 0 } (va_Pc [.ref o] (zPre g B (fun H => zSO g o z H))) (zR (some (.int (nI (z 0 2 0 3))))) 0 0 (fun _ => False) := by
  refine zMet (by decide) (Nat.le_of_ble_eq_true rfl) ?_
  intro p e R s m args below meth c Q ls hR hargs hQ S hr hlk hP hZ hS hnm hl
  have hl : lv_has ls 1 [(0, .ref (o))] := hl
  obtain ⟨hRo, hL, hF, hN, hHi, hJ, hQ0, hSc, hLn⟩ := hP
  obtain ⟨hP0, hP1, hP2, hP3, hP4⟩ := id hL
  have hw8 := hv.1.1
  have hk40 := hv.2.1.1
  refine lv_aload_n S.1 S.2.1 dX11_rowCount_0 rfl (lv_at hl 0 rfl) ?_
  refine z_get (v := .ref (o + 1)) S hZ.1 hRo 0 (by decide) rfl rfl rfl 0 (by decide) rfl k245 dX11_rowCount_1 ?_
  refine z_get (v := .ref (o + 1 + 6)) S hZ.1 hP0 0 (by decide) rfl rfl rfl 1 (by decide) rfl k121 dX11_rowCount_4 ?_
  refine z_get (v := .int (nI ((z 0 2) 0 3))) S hZ.1 hP2 0 (by decide) rfl rfl rfl 3 (by decide) rfl k89 dX11_rowCount_7 ?_
  exact z_ri hQ S hr hlk (zn_int _) rfl dX11_rowCount_10
theorem ci_X11_rowMask : zCI yX11_rowMask cX11_rowMask 2 (some .int) 1 := ⟨k990, k1, by decide +kernel⟩
theorem cv_X11_rowMask : Cond.instanceMethod yX11_rowMask ∈ GW ∧ Cond.selects (yX11_rowMask).cls yX11_rowMask yX11_rowMask ∈ GW := ⟨k988, k989⟩
set_option maxRecDepth 20000 in
set_option maxHeartbeats 4000000 in
/-- rowMask -/
theorem c_rowMask (l : Launch) (g : ZG) {B : Nat} {o : Nat} (z : zSt) (hv : zOk (z 0)) (i : Nat) (hi : i < z 0 2 0 3) : Met l yX11_rowMask (.code yX11_rowMask cX11_rowMask 2 (some .int) :: GW) { frames := 1, cells := 0, slots := 0, locals := 21 } (va_Pc [.ref o, .int (nI (i))] (zPre g B (fun H => zSO g o z H))) (zR (some (.int (nI (z 0 2 1 i))))) 0 0 (fun _ => False) := by
  refine zMet (by decide) (Nat.le_of_ble_eq_true rfl) ?_
  intro p e R s m args below meth c Q ls hR hargs hQ S hr hlk hP hZ hS hnm hl
  have hl : lv_has ls 2 [(0, .ref (o)), (1, .int (nI (i)))] := hl
  obtain ⟨hRo, hL, hF, hN, hHi, hJ, hQ0, hSc, hLn⟩ := hP
  obtain ⟨hP0, hP1, hP2, hP3, hP4⟩ := id hL
  have hw8 := hv.1.1
  have hk40 := hv.2.1.1
  refine lv_aload_n S.1 S.2.1 dX11_rowMask_0 rfl (lv_at hl 0 rfl) ?_
  refine z_get (v := .ref (o + 1)) S hZ.1 hRo 0 (by decide) rfl rfl rfl 0 (by decide) rfl k245 dX11_rowMask_1 ?_
  refine z_get (v := .ref (o + 1 + 6)) S hZ.1 hP0 0 (by decide) rfl rfl rfl 1 (by decide) rfl k121 dX11_rowMask_4 ?_
  refine lv_iload_n S.1 S.2.1 dX11_rowMask_7 rfl (lv_at hl 1 rfl) ?_
  refine z_cV (v := some (.int (nI (decide (i < z 0 2 0 3)).toNat))) (rest := []) (As := [.int (nI (i))]) S hZ hS (c_X1_has l g (z 0 2) hv.2.1 i (by omega)) ci_X1_has cv_X1_has k991 ⟨rfl, rfl, by rw [hR]; decide, by rw [hR]; decide⟩ hP2 (hP2.recv hZ.1 0 (by decide) rfl rfl rfl) hl.1 rfl (Nat.le_of_ble_eq_true rfl) dX11_rowMask_8 ⟨by rw [hR]; decide, by rw [hR]; decide⟩ rfl ?_
  refine z_cS (v := none) (rest := []) (As := [.int (nI (decide (i < z 0 2 0 3)).toNat)]) S hZ hS (c_requireIndex_t l g (decide (i < z 0 2 0 3)) (decide_eq_true hi) (PH := fun _ => True)) ci_X11_requireIndex cv_X11_requireIndex k500 ⟨rfl, rfl, by rw [hR]; decide, by rw [hR]; decide⟩ trivial hl.1 rfl (Nat.le_of_ble_eq_true rfl) dX11_rowMask_11 ⟨by rw [hR]; decide, by rw [hR]; decide⟩ rfl ?_
  refine lv_aload_n S.1 S.2.1 dX11_rowMask_14 rfl (lv_at hl 0 rfl) ?_
  refine z_get (v := .ref (o + 1)) S hZ.1 hRo 0 (by decide) rfl rfl rfl 0 (by decide) rfl k245 dX11_rowMask_15 ?_
  refine z_get (v := .ref (o + 1 + 6)) S hZ.1 hP0 0 (by decide) rfl rfl rfl 1 (by decide) rfl k121 dX11_rowMask_18 ?_
  refine z_get (v := .ref (o + 1 + 6 + 1)) S hZ.1 hP2 0 (by decide) rfl rfl rfl 0 (by decide) rfl k82 dX11_rowMask_21 ?_
  refine lv_iload_n S.1 S.2.1 dX11_rowMask_24 rfl (lv_at hl 1 rfl) ?_
  refine z_iald S hZ.1 hP2 1 (by decide) rfl rfl (i := i) (by omega) (by decide) dX11_rowMask_25 ?_
  exact z_ri hQ S hr hlk (zn_int _) rfl dX11_rowMask_26
theorem ci_X11_rowColour : zCI yX11_rowColour cX11_rowColour 2 (some .int) 1 := ⟨k995, k1, by decide +kernel⟩
theorem cv_X11_rowColour : Cond.instanceMethod yX11_rowColour ∈ GW ∧ Cond.selects (yX11_rowColour).cls yX11_rowColour yX11_rowColour ∈ GW := ⟨k993, k994⟩
set_option maxRecDepth 20000 in
set_option maxHeartbeats 4000000 in
/-- rowColour -/
theorem c_rowColour (l : Launch) (g : ZG) {B : Nat} {o : Nat} (z : zSt) (hv : zOk (z 0)) (i : Nat) (hi : i < z 0 2 0 3) : Met l yX11_rowColour (.code yX11_rowColour cX11_rowColour 2 (some .int) :: GW) { frames := 1, cells := 0, slots := 0, locals := 21 } (va_Pc [.ref o, .int (nI (i))] (zPre g B (fun H => zSO g o z H))) (zR (some (.int (nI (z 0 2 2 i))))) 0 0 (fun _ => False) := by
  refine zMet (by decide) (Nat.le_of_ble_eq_true rfl) ?_
  intro p e R s m args below meth c Q ls hR hargs hQ S hr hlk hP hZ hS hnm hl
  have hl : lv_has ls 2 [(0, .ref (o)), (1, .int (nI (i)))] := hl
  obtain ⟨hRo, hL, hF, hN, hHi, hJ, hQ0, hSc, hLn⟩ := hP
  obtain ⟨hP0, hP1, hP2, hP3, hP4⟩ := id hL
  have hw8 := hv.1.1
  have hk40 := hv.2.1.1
  refine lv_aload_n S.1 S.2.1 dX11_rowColour_0 rfl (lv_at hl 0 rfl) ?_
  refine z_get (v := .ref (o + 1)) S hZ.1 hRo 0 (by decide) rfl rfl rfl 0 (by decide) rfl k245 dX11_rowColour_1 ?_
  refine z_get (v := .ref (o + 1 + 6)) S hZ.1 hP0 0 (by decide) rfl rfl rfl 1 (by decide) rfl k121 dX11_rowColour_4 ?_
  refine lv_iload_n S.1 S.2.1 dX11_rowColour_7 rfl (lv_at hl 1 rfl) ?_
  refine z_cV (v := some (.int (nI (decide (i < z 0 2 0 3)).toNat))) (rest := []) (As := [.int (nI (i))]) S hZ hS (c_X1_has l g (z 0 2) hv.2.1 i (by omega)) ci_X1_has cv_X1_has k991 ⟨rfl, rfl, by rw [hR]; decide, by rw [hR]; decide⟩ hP2 (hP2.recv hZ.1 0 (by decide) rfl rfl rfl) hl.1 rfl (Nat.le_of_ble_eq_true rfl) dX11_rowColour_8 ⟨by rw [hR]; decide, by rw [hR]; decide⟩ rfl ?_
  refine z_cS (v := none) (rest := []) (As := [.int (nI (decide (i < z 0 2 0 3)).toNat)]) S hZ hS (c_requireIndex_t l g (decide (i < z 0 2 0 3)) (decide_eq_true hi) (PH := fun _ => True)) ci_X11_requireIndex cv_X11_requireIndex k500 ⟨rfl, rfl, by rw [hR]; decide, by rw [hR]; decide⟩ trivial hl.1 rfl (Nat.le_of_ble_eq_true rfl) dX11_rowColour_11 ⟨by rw [hR]; decide, by rw [hR]; decide⟩ rfl ?_
  refine lv_aload_n S.1 S.2.1 dX11_rowColour_14 rfl (lv_at hl 0 rfl) ?_
  refine z_get (v := .ref (o + 1)) S hZ.1 hRo 0 (by decide) rfl rfl rfl 0 (by decide) rfl k245 dX11_rowColour_15 ?_
  refine z_get (v := .ref (o + 1 + 6)) S hZ.1 hP0 0 (by decide) rfl rfl rfl 1 (by decide) rfl k121 dX11_rowColour_18 ?_
  refine z_get (v := .ref (o + 1 + 6 + 2)) S hZ.1 hP2 0 (by decide) rfl rfl rfl 1 (by decide) rfl k85 dX11_rowColour_21 ?_
  refine lv_iload_n S.1 S.2.1 dX11_rowColour_24 rfl (lv_at hl 1 rfl) ?_
  refine z_iald S hZ.1 hP2 2 (by decide) rfl rfl (i := i) (by omega) (by decide) dX11_rowColour_25 ?_
  exact z_ri hQ S hr hlk (zn_int _) rfl dX11_rowColour_26
theorem ci_X11_isRaised : zCI yX11_isRaised cX11_isRaised 3 (some .boolean) 2 := ⟨k1084, k1, by decide +kernel⟩
theorem cv_X11_isRaised : Cond.instanceMethod yX11_isRaised ∈ GW ∧ Cond.selects (yX11_isRaised).cls yX11_isRaised yX11_isRaised ∈ GW := ⟨k1082, k1083⟩
set_option maxRecDepth 20000 in
set_option maxHeartbeats 4000000 in
/-- isRaised -/
theorem c_isRaised (l : Launch) (g : ZG) {B : Nat} {o : Nat} (z : zSt) (hv : zOk (z 0)) (i j : Nat) (hi : i < z 0 2 0 3) (hj : j < 16) : Met l yX11_isRaised (.code yX11_isRaised cX11_isRaised 3 (some .boolean) :: GW) { frames := 2, cells := 0, slots := 0, locals := 43 } (va_Pc [.ref o, .int (nI (i)), .int (nI (j))] (zPre g B (fun H => zSO g o z H))) (zR (some (.int (nI (zBt (z 0 2 1 i) j).toNat)))) 0 0 (fun _ => False) := by
  refine zMet (by decide) (Nat.le_of_ble_eq_true rfl) ?_
  intro p e R s m args below meth c Q ls hR hargs hQ S hr hlk hP hZ hS hnm hl
  have hl : lv_has ls 3 [(0, .ref (o)), (1, .int (nI (i))), (2, .int (nI (j)))] := hl
  obtain ⟨hRo, hL, hF, hN, hHi, hJ, hQ0, hSc, hLn⟩ := hP
  obtain ⟨hP0, hP1, hP2, hP3, hP4⟩ := id hL
  have hw8 := hv.1.1
  have hk40 := hv.2.1.1
  refine lv_aload_n S.1 S.2.1 dX11_isRaised_0 rfl (lv_at hl 0 rfl) ?_
  refine z_get (v := .ref (o + 1)) S hZ.1 hRo 0 (by decide) rfl rfl rfl 0 (by decide) rfl k245 dX11_isRaised_1 ?_
  refine z_get (v := .ref (o + 1 + 6)) S hZ.1 hP0 0 (by decide) rfl rfl rfl 1 (by decide) rfl k121 dX11_isRaised_4 ?_
  refine lv_iload_n S.1 S.2.1 dX11_isRaised_7 rfl (lv_at hl 1 rfl) ?_
  refine lv_iload_n S.1 S.2.1 dX11_isRaised_8 rfl (lv_at hl 2 rfl) ?_
  refine z_cV (v := some (.int (nI (decide (i < z 0 2 0 3 ∧ j < 16)).toNat))) (rest := []) (As := [.int (nI (i)), .int (nI (j))]) S hZ hS (c_X1_hasCell l g (z 0 2) hv.2.1 i j (by omega) (by omega)) ci_X1_hasCell cv_X1_hasCell k1000 ⟨rfl, rfl, by rw [hR]; decide, by rw [hR]; decide⟩ hP2 (hP2.recv hZ.1 0 (by decide) rfl rfl rfl) hl.1 rfl (Nat.le_of_ble_eq_true rfl) dX11_isRaised_9 ⟨by rw [hR]; decide, by rw [hR]; decide⟩ rfl ?_
  refine z_cS (v := none) (rest := []) (As := [.int (nI (decide (i < z 0 2 0 3 ∧ j < 16)).toNat)]) S hZ hS (c_requireIndex_t l g (decide (i < z 0 2 0 3 ∧ j < 16)) (decide_eq_true ⟨hi, hj⟩) (PH := fun _ => True)) ci_X11_requireIndex cv_X11_requireIndex k500 ⟨rfl, rfl, by rw [hR]; decide, by rw [hR]; decide⟩ trivial hl.1 rfl (Nat.le_of_ble_eq_true rfl) dX11_isRaised_12 ⟨by rw [hR]; decide, by rw [hR]; decide⟩ rfl ?_
  refine lv_aload_n S.1 S.2.1 dX11_isRaised_15 rfl (lv_at hl 0 rfl) ?_
  refine z_get (v := .ref (o + 1)) S hZ.1 hRo 0 (by decide) rfl rfl rfl 0 (by decide) rfl k245 dX11_isRaised_16 ?_
  refine z_get (v := .ref (o + 1 + 6)) S hZ.1 hP0 0 (by decide) rfl rfl rfl 1 (by decide) rfl k121 dX11_isRaised_19 ?_
  refine lv_iload_n S.1 S.2.1 dX11_isRaised_22 rfl (lv_at hl 1 rfl) ?_
  refine lv_iload_n S.1 S.2.1 dX11_isRaised_23 rfl (lv_at hl 2 rfl) ?_
  refine z_cV (v := some (.int (nI (zBt (z 0 2 1 i) j).toNat))) (rest := []) (As := [.int (nI (i)), .int (nI (j))]) S hZ hS (c_X1_raisedAt l g (z 0 2) hv.2.1 i j hi hj) ci_X1_raisedAt cv_X1_raisedAt k1085 ⟨rfl, rfl, by rw [hR]; decide, by rw [hR]; decide⟩ hP2 (hP2.recv hZ.1 0 (by decide) rfl rfl rfl) hl.1 rfl (Nat.le_of_ble_eq_true rfl) dX11_isRaised_24 ⟨by rw [hR]; decide, by rw [hR]; decide⟩ rfl ?_
  exact z_ri hQ S hr hlk (zn_bool _) rfl dX11_isRaised_27
theorem ci_X11_isKnotted : zCI yX11_isKnotted cX11_isKnotted 3 (some .boolean) 2 := ⟨k999, k1, by decide +kernel⟩
theorem cv_X11_isKnotted : Cond.instanceMethod yX11_isKnotted ∈ GW ∧ Cond.selects (yX11_isKnotted).cls yX11_isKnotted yX11_isKnotted ∈ GW := ⟨k997, k998⟩
set_option maxRecDepth 20000 in
set_option maxHeartbeats 4000000 in
/-- isKnotted -/
theorem c_isKnotted (l : Launch) (g : ZG) {B : Nat} {o : Nat} (z : zSt) (hv : zOk (z 0)) (i j : Nat) (hi : i < z 0 2 0 3) (hj : j < 16) : Met l yX11_isKnotted (.code yX11_isKnotted cX11_isKnotted 3 (some .boolean) :: GW) { frames := 2, cells := 0, slots := 0, locals := 43 } (va_Pc [.ref o, .int (nI (i)), .int (nI (j))] (zPre g B (fun H => zSO g o z H))) (zR (some (.int (nI (zBt (z 0 2 3 i) j).toNat)))) 0 0 (fun _ => False) := by
  refine zMet (by decide) (Nat.le_of_ble_eq_true rfl) ?_
  intro p e R s m args below meth c Q ls hR hargs hQ S hr hlk hP hZ hS hnm hl
  have hl : lv_has ls 3 [(0, .ref (o)), (1, .int (nI (i))), (2, .int (nI (j)))] := hl
  obtain ⟨hRo, hL, hF, hN, hHi, hJ, hQ0, hSc, hLn⟩ := hP
  obtain ⟨hP0, hP1, hP2, hP3, hP4⟩ := id hL
  have hw8 := hv.1.1
  have hk40 := hv.2.1.1
  refine lv_aload_n S.1 S.2.1 dX11_isKnotted_0 rfl (lv_at hl 0 rfl) ?_
  refine z_get (v := .ref (o + 1)) S hZ.1 hRo 0 (by decide) rfl rfl rfl 0 (by decide) rfl k245 dX11_isKnotted_1 ?_
  refine z_get (v := .ref (o + 1 + 6)) S hZ.1 hP0 0 (by decide) rfl rfl rfl 1 (by decide) rfl k121 dX11_isKnotted_4 ?_
  refine lv_iload_n S.1 S.2.1 dX11_isKnotted_7 rfl (lv_at hl 1 rfl) ?_
  refine lv_iload_n S.1 S.2.1 dX11_isKnotted_8 rfl (lv_at hl 2 rfl) ?_
  refine z_cV (v := some (.int (nI (decide (i < z 0 2 0 3 ∧ j < 16)).toNat))) (rest := []) (As := [.int (nI (i)), .int (nI (j))]) S hZ hS (c_X1_hasCell l g (z 0 2) hv.2.1 i j (by omega) (by omega)) ci_X1_hasCell cv_X1_hasCell k1000 ⟨rfl, rfl, by rw [hR]; decide, by rw [hR]; decide⟩ hP2 (hP2.recv hZ.1 0 (by decide) rfl rfl rfl) hl.1 rfl (Nat.le_of_ble_eq_true rfl) dX11_isKnotted_9 ⟨by rw [hR]; decide, by rw [hR]; decide⟩ rfl ?_
  refine z_cS (v := none) (rest := []) (As := [.int (nI (decide (i < z 0 2 0 3 ∧ j < 16)).toNat)]) S hZ hS (c_requireIndex_t l g (decide (i < z 0 2 0 3 ∧ j < 16)) (decide_eq_true ⟨hi, hj⟩) (PH := fun _ => True)) ci_X11_requireIndex cv_X11_requireIndex k500 ⟨rfl, rfl, by rw [hR]; decide, by rw [hR]; decide⟩ trivial hl.1 rfl (Nat.le_of_ble_eq_true rfl) dX11_isKnotted_12 ⟨by rw [hR]; decide, by rw [hR]; decide⟩ rfl ?_
  refine lv_aload_n S.1 S.2.1 dX11_isKnotted_15 rfl (lv_at hl 0 rfl) ?_
  refine z_get (v := .ref (o + 1)) S hZ.1 hRo 0 (by decide) rfl rfl rfl 0 (by decide) rfl k245 dX11_isKnotted_16 ?_
  refine z_get (v := .ref (o + 1 + 6)) S hZ.1 hP0 0 (by decide) rfl rfl rfl 1 (by decide) rfl k121 dX11_isKnotted_19 ?_
  refine lv_iload_n S.1 S.2.1 dX11_isKnotted_22 rfl (lv_at hl 1 rfl) ?_
  refine lv_iload_n S.1 S.2.1 dX11_isKnotted_23 rfl (lv_at hl 2 rfl) ?_
  refine z_cV (v := some (.int (nI (zBt (z 0 2 3 i) j).toNat))) (rest := []) (As := [.int (nI (i)), .int (nI (j))]) S hZ hS (c_X1_knottedAt l g (z 0 2) hv.2.1 i j hi hj) ci_X1_knottedAt cv_X1_knottedAt k1001 ⟨rfl, rfl, by rw [hR]; decide, by rw [hR]; decide⟩ hP2 (hP2.recv hZ.1 0 (by decide) rfl rfl rfl) hl.1 rfl (Nat.le_of_ble_eq_true rfl) dX11_isKnotted_24 ⟨by rw [hR]; decide, by rw [hR]; decide⟩ rfl ?_
  exact z_ri hQ S hr hlk (zn_bool _) rfl dX11_isKnotted_27
theorem ci_X11_knotCount : zCI yX11_knotCount cX11_knotCount 1 (some .int) 0 := ⟨k1092, k1, by decide +kernel⟩
theorem cv_X11_knotCount : Cond.instanceMethod yX11_knotCount ∈ GW ∧ Cond.selects (yX11_knotCount).cls yX11_knotCount yX11_knotCount ∈ GW := ⟨k1090, k1091⟩
set_option maxRecDepth 20000 in
set_option maxHeartbeats 4000000 in
/-- knotCount -/
theorem c_knotCount (l : Launch) (g : ZG) {B : Nat} {o : Nat} (z : zSt) (hv : zOk (z 0))  : Met l yX11_knotCount (.code yX11_knotCount cX11_knotCount 1 (some .int) :: GW) { frames := 2, cells := 0, slots := 0, locals := 42 } (va_Pc [.ref o] (zPre g B (fun H => zSO g o z H))) (zR (some (.int (nI (zKc (z 0 2)))))) 0 0 (fun _ => False) := by
  refine zMet (by decide) (Nat.le_of_ble_eq_true rfl) ?_
  intro p e R s m args below meth c Q ls hR hargs hQ S hr hlk hP hZ hS hnm hl
  have hl : lv_has ls 1 [(0, .ref (o))] := hl
  obtain ⟨hRo, hL, hF, hN, hHi, hJ, hQ0, hSc, hLn⟩ := hP
  obtain ⟨hP0, hP1, hP2, hP3, hP4⟩ := id hL
  have hw8 := hv.1.1
  have hk40 := hv.2.1.1
  refine lv_aload_n S.1 S.2.1 dX11_knotCount_0 rfl (lv_at hl 0 rfl) ?_
  refine z_get (v := .ref (o + 1)) S hZ.1 hRo 0 (by decide) rfl rfl rfl 0 (by decide) rfl k245 dX11_knotCount_1 ?_
  refine z_get (v := .ref (o + 1 + 6)) S hZ.1 hP0 0 (by decide) rfl rfl rfl 1 (by decide) rfl k121 dX11_knotCount_4 ?_
  refine z_cV (v := some (.int (nI (zKc (z 0 2))))) (rest := []) (As := []) S hZ hS (c_X1_countKnots l g (z 0 2) hv.2.1) ci_X1_countKnots cv_X1_countKnots k1093 ⟨rfl, rfl, by rw [hR]; decide, by rw [hR]; decide⟩ hP2 (hP2.recv hZ.1 0 (by decide) rfl rfl rfl) hl.1 rfl (Nat.le_of_ble_eq_true rfl) dX11_knotCount_7 ⟨by rw [hR]; decide, by rw [hR]; decide⟩ rfl ?_
  exact z_ri hQ S hr hlk (zn_int _) rfl dX11_knotCount_10
theorem ci_X11_distinctRows : zCI yX11_distinctRows cX11_distinctRows 1 (some .int) 0 := ⟨k1097, k1, by decide +kernel⟩
theorem cv_X11_distinctRows : Cond.instanceMethod yX11_distinctRows ∈ GW ∧ Cond.selects (yX11_distinctRows).cls yX11_distinctRows yX11_distinctRows ∈ GW := ⟨k1095, k1096⟩
set_option maxRecDepth 20000 in
set_option maxHeartbeats 4000000 in
/-- distinctRows -/
theorem c_distinctRows (l : Launch) (g : ZG) {B : Nat} {o : Nat} (z : zSt) (hv : zOk (z 0))  : Met l yX11_distinctRows (.code yX11_distinctRows cX11_distinctRows 1 (some .int) :: GW) { frames := 3, cells := 0, slots := 0, locals := 66 } (va_Pc [.ref o] (zPre g B (fun H => zSO g o z H))) (zR (some (.int (nI (zCd (z 0 2)))))) 0 0 (fun _ => False) := by
  refine zMet (by decide) (Nat.le_of_ble_eq_true rfl) ?_
  intro p e R s m args below meth c Q ls hR hargs hQ S hr hlk hP hZ hS hnm hl
  have hl : lv_has ls 1 [(0, .ref (o))] := hl
  obtain ⟨hRo, hL, hF, hN, hHi, hJ, hQ0, hSc, hLn⟩ := hP
  obtain ⟨hP0, hP1, hP2, hP3, hP4⟩ := id hL
  have hw8 := hv.1.1
  have hk40 := hv.2.1.1
  refine lv_aload_n S.1 S.2.1 dX11_distinctRows_0 rfl (lv_at hl 0 rfl) ?_
  refine z_get (v := .ref (o + 1)) S hZ.1 hRo 0 (by decide) rfl rfl rfl 0 (by decide) rfl k245 dX11_distinctRows_1 ?_
  refine z_get (v := .ref (o + 1 + 6)) S hZ.1 hP0 0 (by decide) rfl rfl rfl 1 (by decide) rfl k121 dX11_distinctRows_4 ?_
  refine z_cV (v := some (.int (nI (zCd (z 0 2))))) (rest := []) (As := []) S hZ hS (c_X1_countDifferent l g (z 0 2) hv.2.1) ci_X1_countDifferent cv_X1_countDifferent k1098 ⟨rfl, rfl, by rw [hR]; decide, by rw [hR]; decide⟩ hP2 (hP2.recv hZ.1 0 (by decide) rfl rfl rfl) hl.1 rfl (Nat.le_of_ble_eq_true rfl) dX11_distinctRows_7 ⟨by rw [hR]; decide, by rw [hR]; decide⟩ rfl ?_
  exact z_ri hQ S hr hlk (zn_int _) rfl dX11_distinctRows_10
theorem ci_X11_isSymmetric : zCI yX11_isSymmetric cX11_isSymmetric 1 (some .boolean) 0 := ⟨k1113, k1, by decide +kernel⟩
theorem cv_X11_isSymmetric : Cond.instanceMethod yX11_isSymmetric ∈ GW ∧ Cond.selects (yX11_isSymmetric).cls yX11_isSymmetric yX11_isSymmetric ∈ GW := ⟨k1111, k1112⟩
set_option maxRecDepth 20000 in
set_option maxHeartbeats 4000000 in
/-- isSymmetric -/
theorem c_isSymmetric (l : Launch) (g : ZG) {B : Nat} {o : Nat} (z : zSt) (hv : zOk (z 0))  : Met l yX11_isSymmetric (.code yX11_isSymmetric cX11_isSymmetric 1 (some .boolean) :: GW) { frames := 2, cells := 0, slots := 0, locals := 43 } (va_Pc [.ref o] (zPre g B (fun H => zSO g o z H))) (zR (some (.int (nI (zSy (z 0 2)).toNat)))) 0 0 (fun _ => False) := by
  refine zMet (by decide) (Nat.le_of_ble_eq_true rfl) ?_
  intro p e R s m args below meth c Q ls hR hargs hQ S hr hlk hP hZ hS hnm hl
  have hl : lv_has ls 1 [(0, .ref (o))] := hl
  obtain ⟨hRo, hL, hF, hN, hHi, hJ, hQ0, hSc, hLn⟩ := hP
  obtain ⟨hP0, hP1, hP2, hP3, hP4⟩ := id hL
  have hw8 := hv.1.1
  have hk40 := hv.2.1.1
  refine lv_aload_n S.1 S.2.1 dX11_isSymmetric_0 rfl (lv_at hl 0 rfl) ?_
  refine z_get (v := .ref (o + 1)) S hZ.1 hRo 0 (by decide) rfl rfl rfl 0 (by decide) rfl k245 dX11_isSymmetric_1 ?_
  refine z_get (v := .ref (o + 1 + 6)) S hZ.1 hP0 0 (by decide) rfl rfl rfl 1 (by decide) rfl k121 dX11_isSymmetric_4 ?_
  refine z_cV (v := some (.int (nI (zSy (z 0 2)).toNat))) (rest := []) (As := []) S hZ hS (c_X1_sameReversed l g (z 0 2) hv.2.1) ci_X1_sameReversed cv_X1_sameReversed k1114 ⟨rfl, rfl, by rw [hR]; decide, by rw [hR]; decide⟩ hP2 (hP2.recv hZ.1 0 (by decide) rfl rfl rfl) hl.1 rfl (Nat.le_of_ble_eq_true rfl) dX11_isSymmetric_7 ⟨by rw [hR]; decide, by rw [hR]; decide⟩ rfl ?_
  exact z_ri hQ S hr hlk (zn_bool _) rfl dX11_isSymmetric_10
theorem ci_X11_longestFloat : zCI yX11_longestFloat cX11_longestFloat 2 (some .int) 1 := ⟨k1204, k1, by decide +kernel⟩
theorem cv_X11_longestFloat : Cond.instanceMethod yX11_longestFloat ∈ GW ∧ Cond.selects (yX11_longestFloat).cls yX11_longestFloat yX11_longestFloat ∈ GW := ⟨k1202, k1203⟩
set_option maxRecDepth 20000 in
set_option maxHeartbeats 4000000 in
/-- longestFloat -/
theorem c_longestFloat (l : Launch) (g : ZG) {B : Nat} {o : Nat} (z : zSt) (hv : zOk (z 0)) (i : Nat) (hi : i < 16) : Met l yX11_longestFloat (.code yX11_longestFloat cX11_longestFloat 2 (some .int) :: GW) { frames := 2, cells := 0, slots := 0, locals := 64 } (va_Pc [.ref o, .int (nI (i))] (zPre g B (fun H => zSO g o z H))) (zR (some (.int (nI ((zLr (z 0 2) i (z 0 2 0 3)).1))))) 0 0 (fun _ => False) := by
  refine zMet (by decide) (Nat.le_of_ble_eq_true rfl) ?_
  intro p e R s m args below meth c Q ls hR hargs hQ S hr hlk hP hZ hS hnm hl
  have hl : lv_has ls 2 [(0, .ref (o)), (1, .int (nI (i)))] := hl
  obtain ⟨hRo, hL, hF, hN, hHi, hJ, hQ0, hSc, hLn⟩ := hP
  obtain ⟨hP0, hP1, hP2, hP3, hP4⟩ := id hL
  have hw8 := hv.1.1
  have hk40 := hv.2.1.1
  refine lv_iload_n S.1 S.2.1 dX11_longestFloat_0 rfl (lv_at hl 1 rfl) ?_
  refine z_cS (v := some (.int (nI (decide (i < 16)).toNat))) (rest := []) (As := [.int (nI (i))]) S hZ hS (c_X1_isColumn l g i (by omega) (PH := fun _ => True)) ci_X1_isColumn cv_X1_isColumn k1205 ⟨rfl, rfl, by rw [hR]; decide, by rw [hR]; decide⟩ trivial hl.1 rfl (Nat.le_of_ble_eq_true rfl) dX11_longestFloat_1 ⟨by rw [hR]; decide, by rw [hR]; decide⟩ rfl ?_
  refine z_cS (v := none) (rest := []) (As := [.int (nI (decide (i < 16)).toNat)]) S hZ hS (c_requireIndex_t l g (decide (i < 16)) (decide_eq_true hi) (PH := fun _ => True)) ci_X11_requireIndex cv_X11_requireIndex k500 ⟨rfl, rfl, by rw [hR]; decide, by rw [hR]; decide⟩ trivial hl.1 rfl (Nat.le_of_ble_eq_true rfl) dX11_longestFloat_4 ⟨by rw [hR]; decide, by rw [hR]; decide⟩ rfl ?_
  refine lv_aload_n S.1 S.2.1 dX11_longestFloat_7 rfl (lv_at hl 0 rfl) ?_
  refine z_get (v := .ref (o + 1)) S hZ.1 hRo 0 (by decide) rfl rfl rfl 0 (by decide) rfl k245 dX11_longestFloat_8 ?_
  refine z_get (v := .ref (o + 1 + 6)) S hZ.1 hP0 0 (by decide) rfl rfl rfl 1 (by decide) rfl k121 dX11_longestFloat_11 ?_
  refine lv_iload_n S.1 S.2.1 dX11_longestFloat_14 rfl (lv_at hl 1 rfl) ?_
  refine z_cV (v := some (.int (nI ((zLr (z 0 2) i (z 0 2 0 3)).1)))) (rest := []) (As := [.int (nI (i))]) S hZ hS (c_X1_longestRaisedRun l g (z 0 2) hv.2.1 i hi) ci_X1_longestRaisedRun cv_X1_longestRaisedRun k1206 ⟨rfl, rfl, by rw [hR]; decide, by rw [hR]; decide⟩ hP2 (hP2.recv hZ.1 0 (by decide) rfl rfl rfl) hl.1 rfl (Nat.le_of_ble_eq_true rfl) dX11_longestFloat_15 ⟨by rw [hR]; decide, by rw [hR]; decide⟩ rfl ?_
  exact z_ri hQ S hr hlk (zn_int _) rfl dX11_longestFloat_18
theorem ci_X11_wovenTotal : zCI yX11_wovenTotal cX11_wovenTotal 1 (some .int) 0 := ⟨k943, k1, by decide +kernel⟩
theorem cv_X11_wovenTotal : Cond.instanceMethod yX11_wovenTotal ∈ GW ∧ Cond.selects (yX11_wovenTotal).cls yX11_wovenTotal yX11_wovenTotal ∈ GW := ⟨k941, k942⟩
set_option maxRecDepth 20000 in
set_option maxHeartbeats 4000000 in
/-- wovenTotal -/
theorem c_wovenTotal (l : Launch) (g : ZG) {B : Nat} {o : Nat} (z : zSt) (hv : zOk (z 0))  : Met l yX11_wovenTotal (.code yX11_wovenTotal cX11_wovenTotal 1 (some .int) :: GW) { frames := 0, cells := 0, slots := 0, locals := 0 } (va_Pc [.ref o] (zPre g B (fun H => zSO g o z H))) (zR (some (.int (nI (z 0 0 0 4))))) 0 0 (fun _ => False) := by
  refine zMet (by decide) (Nat.le_of_ble_eq_true rfl) ?_
  intro p e R s m args below meth c Q ls hR hargs hQ S hr hlk hP hZ hS hnm hl
  have hl : lv_has ls 1 [(0, .ref (o))] := hl
  obtain ⟨hRo, hL, hF, hN, hHi, hJ, hQ0, hSc, hLn⟩ := hP
  obtain ⟨hP0, hP1, hP2, hP3, hP4⟩ := id hL
  have hw8 := hv.1.1
  have hk40 := hv.2.1.1
  refine lv_aload_n S.1 S.2.1 dX11_wovenTotal_0 rfl (lv_at hl 0 rfl) ?_
  refine z_get (v := .ref (o + 1)) S hZ.1 hRo 0 (by decide) rfl rfl rfl 0 (by decide) rfl k245 dX11_wovenTotal_1 ?_
  refine z_get (v := .int (nI ((z 0 0) 0 4))) S hZ.1 hP0 0 (by decide) rfl rfl rfl 4 (by decide) rfl k125 dX11_wovenTotal_4 ?_
  exact z_ri hQ S hr hlk (zn_int _) rfl dX11_wovenTotal_7
theorem ci_X11_waxUsed : zCI yX11_waxUsed cX11_waxUsed 1 (some .int) 0 := ⟨k948, k1, by decide +kernel⟩
theorem cv_X11_waxUsed : Cond.instanceMethod yX11_waxUsed ∈ GW ∧ Cond.selects (yX11_waxUsed).cls yX11_waxUsed yX11_waxUsed ∈ GW := ⟨k946, k947⟩
set_option maxRecDepth 20000 in
set_option maxHeartbeats 4000000 in
/-- waxUsed -/
theorem c_waxUsed (l : Launch) (g : ZG) {B : Nat} {o : Nat} (z : zSt) (hv : zOk (z 0))  : Met l yX11_waxUsed (.code yX11_waxUsed cX11_waxUsed 1 (some .int) :: GW) { frames := 0, cells := 0, slots := 0, locals := 0 } (va_Pc [.ref o] (zPre g B (fun H => zSO g o z H))) (zR (some (.int (nI (z 0 0 0 5))))) 0 0 (fun _ => False) := by
  refine zMet (by decide) (Nat.le_of_ble_eq_true rfl) ?_
  intro p e R s m args below meth c Q ls hR hargs hQ S hr hlk hP hZ hS hnm hl
  have hl : lv_has ls 1 [(0, .ref (o))] := hl
  obtain ⟨hRo, hL, hF, hN, hHi, hJ, hQ0, hSc, hLn⟩ := hP
  obtain ⟨hP0, hP1, hP2, hP3, hP4⟩ := id hL
  have hw8 := hv.1.1
  have hk40 := hv.2.1.1
  refine lv_aload_n S.1 S.2.1 dX11_waxUsed_0 rfl (lv_at hl 0 rfl) ?_
  refine z_get (v := .ref (o + 1)) S hZ.1 hRo 0 (by decide) rfl rfl rfl 0 (by decide) rfl k245 dX11_waxUsed_1 ?_
  refine z_get (v := .int (nI ((z 0 0) 0 5))) S hZ.1 hP0 0 (by decide) rfl rfl rfl 5 (by decide) rfl k127 dX11_waxUsed_4 ?_
  exact z_ri hQ S hr hlk (zn_int _) rfl dX11_waxUsed_7
theorem ci_X11_undoCount : zCI yX11_undoCount cX11_undoCount 1 (some .int) 0 := ⟨k291, k1, by decide +kernel⟩
theorem cv_X11_undoCount : Cond.instanceMethod yX11_undoCount ∈ GW ∧ Cond.selects (yX11_undoCount).cls yX11_undoCount yX11_undoCount ∈ GW := ⟨k289, k290⟩
set_option maxRecDepth 20000 in
set_option maxHeartbeats 4000000 in
/-- undoCount -/
theorem c_undoCount (l : Launch) (g : ZG) {B : Nat} {o : Nat} (z : zSt) (hv : zOk (z 0))  : Met l yX11_undoCount (.code yX11_undoCount cX11_undoCount 1 (some .int) :: GW) { frames := 0, cells := 0, slots := 0, locals := 0 } (va_Pc [.ref o] (zPre g B (fun H => zSO g o z H))) (zR (some (.int (nI (z 12 0 0 2))))) 0 0 (fun _ => False) := by
  refine zMet (by decide) (Nat.le_of_ble_eq_true rfl) ?_
  intro p e R s m args below meth c Q ls hR hargs hQ S hr hlk hP hZ hS hnm hl
  have hl : lv_has ls 1 [(0, .ref (o))] := hl
  obtain ⟨hRo, hL, hF, hN, hHi, hJ, hQ0, hSc, hLn⟩ := hP
  obtain ⟨hP0, hP1, hP2, hP3, hP4⟩ := id hL
  have hw8 := hv.1.1
  have hk40 := hv.2.1.1
  refine lv_aload_n S.1 S.2.1 dX11_undoCount_0 rfl (lv_at hl 0 rfl) ?_
  refine z_get (v := .ref (o + 37)) S hZ.1 hRo 0 (by decide) rfl rfl rfl 4 (by decide) rfl k249 dX11_undoCount_1 ?_
  refine z_get (v := .int (nI ((z 12 0) 0 2))) S hZ.1 hHi.1 0 (by decide) rfl rfl rfl 2 (by decide) rfl k153 dX11_undoCount_4 ?_
  exact z_ri hQ S hr hlk (zn_int _) rfl dX11_undoCount_7
theorem ci_X11_burn : zCI yX11_burn cX11_burn 2 (some .int) 1 := ⟨k953, k1, by decide +kernel⟩
theorem cv_X11_burn : Cond.instanceMethod yX11_burn ∈ GW ∧ Cond.selects (yX11_burn).cls yX11_burn yX11_burn ∈ GW := ⟨k951, k952⟩
set_option maxRecDepth 20000 in
set_option maxHeartbeats 4000000 in
/-- burn -/
theorem c_burn_l (l : Launch) (g : ZG) {B : Nat} {o : Nat} (z : zSt) (hv : zOk (z 0))  : Met l yX11_burn (.code yX11_burn cX11_burn 2 (some .int) :: GW) { frames := 1, cells := 0, slots := 0, locals := 21 } (va_Pc [.ref o, .int (nI (108))] (zPre g B (fun H => zSO g o z H))) (zR (some (.int (nI (z 0 3 0 1))))) 0 0 (fun _ => False) := by
  refine zMet (by decide) (Nat.le_of_ble_eq_true rfl) ?_
  intro p e R s m args below meth c Q ls hR hargs hQ S hr hlk hP hZ hS hnm hl
  have hl : lv_has ls 2 [(0, .ref (o)), (1, .int (nI (108)))] := hl
  obtain ⟨hRo, hL, hF, hN, hHi, hJ, hQ0, hSc, hLn⟩ := hP
  obtain ⟨hP0, hP1, hP2, hP3, hP4⟩ := id hL
  have hw8 := hv.1.1
  have hk40 := hv.2.1.1
  refine lv_iload_n S.1 S.2.1 dX11_burn_0 rfl (lv_at hl 1 rfl) ?_
  refine z_cS (v := some (.int (nI (decide ((108 : Nat) = 108 ∨ (108 : Nat) = 114)).toNat))) (rest := []) (As := [.int (nI (108))]) S hZ hS (c_X8_isSide l g 108 (by decide) (PH := fun _ => True)) ci_X8_isSide cv_X8_isSide k954 ⟨rfl, rfl, by rw [hR]; decide, by rw [hR]; decide⟩ trivial hl.1 rfl (Nat.le_of_ble_eq_true rfl) dX11_burn_1 ⟨by rw [hR]; decide, by rw [hR]; decide⟩ rfl ?_
  refine z_cS (v := none) (rest := []) (As := [.int (nI (decide ((108 : Nat) = 108 ∨ (108 : Nat) = 114)).toNat)]) S hZ hS (c_requireRange_t l g (decide ((108 : Nat) = 108 ∨ (108 : Nat) = 114)) (by decide) (PH := fun _ => True)) ci_X11_requireRange cv_X11_requireRange k425 ⟨rfl, rfl, by rw [hR]; decide, by rw [hR]; decide⟩ trivial hl.1 rfl (Nat.le_of_ble_eq_true rfl) dX11_burn_4 ⟨by rw [hR]; decide, by rw [hR]; decide⟩ rfl ?_
  refine lv_aload_n S.1 S.2.1 dX11_burn_7 rfl (lv_at hl 0 rfl) ?_
  refine z_get (v := .ref (o + 1)) S hZ.1 hRo 0 (by decide) rfl rfl rfl 0 (by decide) rfl k245 dX11_burn_8 ?_
  refine lv_iload_n S.1 S.2.1 dX11_burn_11 rfl (lv_at hl 1 rfl) ?_
  refine z_cV (v := some (.ref (if (108 : Nat) = 108 then o + 1 + 10 else o + 1 + 11))) (rest := []) (As := [.int (nI (108))]) S hZ hS (c_X8_edgeAt l g (z 0) 108 (by decide)) ci_X8_edgeAt cv_X8_edgeAt k955 ⟨rfl, rfl, by rw [hR]; decide, by rw [hR]; decide⟩ hL (hL.1.recv hZ.1 0 (by decide) rfl rfl rfl) hl.1 rfl (Nat.le_of_ble_eq_true rfl) dX11_burn_12 ⟨by rw [hR]; decide, by rw [hR]; decide⟩ rfl ?_
  rw [if_pos rfl]
  refine z_get (v := .int (nI ((z 0 3) 0 1))) S hZ.1 hP3 0 (by decide) rfl rfl rfl 1 (by decide) rfl k110 dX11_burn_15 ?_
  exact z_ri hQ S hr hlk (zn_int _) rfl dX11_burn_18
set_option maxRecDepth 20000 in
set_option maxHeartbeats 4000000 in
/-- burn -/
theorem c_burn_r (l : Launch) (g : ZG) {B : Nat} {o : Nat} (z : zSt) (hv : zOk (z 0))  : Met l yX11_burn (.code yX11_burn cX11_burn 2 (some .int) :: GW) { frames := 1, cells := 0, slots := 0, locals := 21 } (va_Pc [.ref o, .int (nI (114))] (zPre g B (fun H => zSO g o z H))) (zR (some (.int (nI (z 0 4 0 1))))) 0 0 (fun _ => False) := by
  refine zMet (by decide) (Nat.le_of_ble_eq_true rfl) ?_
  intro p e R s m args below meth c Q ls hR hargs hQ S hr hlk hP hZ hS hnm hl
  have hl : lv_has ls 2 [(0, .ref (o)), (1, .int (nI (114)))] := hl
  obtain ⟨hRo, hL, hF, hN, hHi, hJ, hQ0, hSc, hLn⟩ := hP
  obtain ⟨hP0, hP1, hP2, hP3, hP4⟩ := id hL
  have hw8 := hv.1.1
  have hk40 := hv.2.1.1
  refine lv_iload_n S.1 S.2.1 dX11_burn_0 rfl (lv_at hl 1 rfl) ?_
  refine z_cS (v := some (.int (nI (decide ((114 : Nat) = 108 ∨ (114 : Nat) = 114)).toNat))) (rest := []) (As := [.int (nI (114))]) S hZ hS (c_X8_isSide l g 114 (by decide) (PH := fun _ => True)) ci_X8_isSide cv_X8_isSide k954 ⟨rfl, rfl, by rw [hR]; decide, by rw [hR]; decide⟩ trivial hl.1 rfl (Nat.le_of_ble_eq_true rfl) dX11_burn_1 ⟨by rw [hR]; decide, by rw [hR]; decide⟩ rfl ?_
  refine z_cS (v := none) (rest := []) (As := [.int (nI (decide ((114 : Nat) = 108 ∨ (114 : Nat) = 114)).toNat)]) S hZ hS (c_requireRange_t l g (decide ((114 : Nat) = 108 ∨ (114 : Nat) = 114)) (by decide) (PH := fun _ => True)) ci_X11_requireRange cv_X11_requireRange k425 ⟨rfl, rfl, by rw [hR]; decide, by rw [hR]; decide⟩ trivial hl.1 rfl (Nat.le_of_ble_eq_true rfl) dX11_burn_4 ⟨by rw [hR]; decide, by rw [hR]; decide⟩ rfl ?_
  refine lv_aload_n S.1 S.2.1 dX11_burn_7 rfl (lv_at hl 0 rfl) ?_
  refine z_get (v := .ref (o + 1)) S hZ.1 hRo 0 (by decide) rfl rfl rfl 0 (by decide) rfl k245 dX11_burn_8 ?_
  refine lv_iload_n S.1 S.2.1 dX11_burn_11 rfl (lv_at hl 1 rfl) ?_
  refine z_cV (v := some (.ref (if (114 : Nat) = 108 then o + 1 + 10 else o + 1 + 11))) (rest := []) (As := [.int (nI (114))]) S hZ hS (c_X8_edgeAt l g (z 0) 114 (by decide)) ci_X8_edgeAt cv_X8_edgeAt k955 ⟨rfl, rfl, by rw [hR]; decide, by rw [hR]; decide⟩ hL (hL.1.recv hZ.1 0 (by decide) rfl rfl rfl) hl.1 rfl (Nat.le_of_ble_eq_true rfl) dX11_burn_12 ⟨by rw [hR]; decide, by rw [hR]; decide⟩ rfl ?_
  rw [if_neg (by decide)]
  refine z_get (v := .int (nI ((z 0 4) 0 1))) S hZ.1 hP4 0 (by decide) rfl rfl rfl 1 (by decide) rfl k110 dX11_burn_15 ?_
  exact z_ri hQ S hr hlk (zn_int _) rfl dX11_burn_18
theorem ci_X11_heat : zCI yX11_heat cX11_heat 2 (some .int) 1 := ⟨k961, k1, by decide +kernel⟩
theorem cv_X11_heat : Cond.instanceMethod yX11_heat ∈ GW ∧ Cond.selects (yX11_heat).cls yX11_heat yX11_heat ∈ GW := ⟨k959, k960⟩
set_option maxRecDepth 20000 in
set_option maxHeartbeats 4000000 in
/-- heat -/
theorem c_heat_l (l : Launch) (g : ZG) {B : Nat} {o : Nat} (z : zSt) (hv : zOk (z 0))  : Met l yX11_heat (.code yX11_heat cX11_heat 2 (some .int) :: GW) { frames := 1, cells := 0, slots := 0, locals := 21 } (va_Pc [.ref o, .int (nI (108))] (zPre g B (fun H => zSO g o z H))) (zR (some (.int (nI (z 0 3 0 0))))) 0 0 (fun _ => False) := by
  refine zMet (by decide) (Nat.le_of_ble_eq_true rfl) ?_
  intro p e R s m args below meth c Q ls hR hargs hQ S hr hlk hP hZ hS hnm hl
  have hl : lv_has ls 2 [(0, .ref (o)), (1, .int (nI (108)))] := hl
  obtain ⟨hRo, hL, hF, hN, hHi, hJ, hQ0, hSc, hLn⟩ := hP
  obtain ⟨hP0, hP1, hP2, hP3, hP4⟩ := id hL
  have hw8 := hv.1.1
  have hk40 := hv.2.1.1
  refine lv_iload_n S.1 S.2.1 dX11_heat_0 rfl (lv_at hl 1 rfl) ?_
  refine z_cS (v := some (.int (nI (decide ((108 : Nat) = 108 ∨ (108 : Nat) = 114)).toNat))) (rest := []) (As := [.int (nI (108))]) S hZ hS (c_X8_isSide l g 108 (by decide) (PH := fun _ => True)) ci_X8_isSide cv_X8_isSide k954 ⟨rfl, rfl, by rw [hR]; decide, by rw [hR]; decide⟩ trivial hl.1 rfl (Nat.le_of_ble_eq_true rfl) dX11_heat_1 ⟨by rw [hR]; decide, by rw [hR]; decide⟩ rfl ?_
  refine z_cS (v := none) (rest := []) (As := [.int (nI (decide ((108 : Nat) = 108 ∨ (108 : Nat) = 114)).toNat)]) S hZ hS (c_requireRange_t l g (decide ((108 : Nat) = 108 ∨ (108 : Nat) = 114)) (by decide) (PH := fun _ => True)) ci_X11_requireRange cv_X11_requireRange k425 ⟨rfl, rfl, by rw [hR]; decide, by rw [hR]; decide⟩ trivial hl.1 rfl (Nat.le_of_ble_eq_true rfl) dX11_heat_4 ⟨by rw [hR]; decide, by rw [hR]; decide⟩ rfl ?_
  refine lv_aload_n S.1 S.2.1 dX11_heat_7 rfl (lv_at hl 0 rfl) ?_
  refine z_get (v := .ref (o + 1)) S hZ.1 hRo 0 (by decide) rfl rfl rfl 0 (by decide) rfl k245 dX11_heat_8 ?_
  refine lv_iload_n S.1 S.2.1 dX11_heat_11 rfl (lv_at hl 1 rfl) ?_
  refine z_cV (v := some (.ref (if (108 : Nat) = 108 then o + 1 + 10 else o + 1 + 11))) (rest := []) (As := [.int (nI (108))]) S hZ hS (c_X8_edgeAt l g (z 0) 108 (by decide)) ci_X8_edgeAt cv_X8_edgeAt k955 ⟨rfl, rfl, by rw [hR]; decide, by rw [hR]; decide⟩ hL (hL.1.recv hZ.1 0 (by decide) rfl rfl rfl) hl.1 rfl (Nat.le_of_ble_eq_true rfl) dX11_heat_12 ⟨by rw [hR]; decide, by rw [hR]; decide⟩ rfl ?_
  rw [if_pos rfl]
  refine z_get (v := .int (nI ((z 0 3) 0 0))) S hZ.1 hP3 0 (by decide) rfl rfl rfl 0 (by decide) rfl k106 dX11_heat_15 ?_
  exact z_ri hQ S hr hlk (zn_int _) rfl dX11_heat_18
set_option maxRecDepth 20000 in
set_option maxHeartbeats 4000000 in
/-- heat -/
theorem c_heat_r (l : Launch) (g : ZG) {B : Nat} {o : Nat} (z : zSt) (hv : zOk (z 0))  : Met l yX11_heat (.code yX11_heat cX11_heat 2 (some .int) :: GW) { frames := 1, cells := 0, slots := 0, locals := 21 } (va_Pc [.ref o, .int (nI (114))] (zPre g B (fun H => zSO g o z H))) (zR (some (.int (nI (z 0 4 0 0))))) 0 0 (fun _ => False) := by
  refine zMet (by decide) (Nat.le_of_ble_eq_true rfl) ?_
  intro p e R s m args below meth c Q ls hR hargs hQ S hr hlk hP hZ hS hnm hl
  have hl : lv_has ls 2 [(0, .ref (o)), (1, .int (nI (114)))] := hl
  obtain ⟨hRo, hL, hF, hN, hHi, hJ, hQ0, hSc, hLn⟩ := hP
  obtain ⟨hP0, hP1, hP2, hP3, hP4⟩ := id hL
  have hw8 := hv.1.1
  have hk40 := hv.2.1.1
  refine lv_iload_n S.1 S.2.1 dX11_heat_0 rfl (lv_at hl 1 rfl) ?_
  refine z_cS (v := some (.int (nI (decide ((114 : Nat) = 108 ∨ (114 : Nat) = 114)).toNat))) (rest := []) (As := [.int (nI (114))]) S hZ hS (c_X8_isSide l g 114 (by decide) (PH := fun _ => True)) ci_X8_isSide cv_X8_isSide k954 ⟨rfl, rfl, by rw [hR]; decide, by rw [hR]; decide⟩ trivial hl.1 rfl (Nat.le_of_ble_eq_true rfl) dX11_heat_1 ⟨by rw [hR]; decide, by rw [hR]; decide⟩ rfl ?_
  refine z_cS (v := none) (rest := []) (As := [.int (nI (decide ((114 : Nat) = 108 ∨ (114 : Nat) = 114)).toNat)]) S hZ hS (c_requireRange_t l g (decide ((114 : Nat) = 108 ∨ (114 : Nat) = 114)) (by decide) (PH := fun _ => True)) ci_X11_requireRange cv_X11_requireRange k425 ⟨rfl, rfl, by rw [hR]; decide, by rw [hR]; decide⟩ trivial hl.1 rfl (Nat.le_of_ble_eq_true rfl) dX11_heat_4 ⟨by rw [hR]; decide, by rw [hR]; decide⟩ rfl ?_
  refine lv_aload_n S.1 S.2.1 dX11_heat_7 rfl (lv_at hl 0 rfl) ?_
  refine z_get (v := .ref (o + 1)) S hZ.1 hRo 0 (by decide) rfl rfl rfl 0 (by decide) rfl k245 dX11_heat_8 ?_
  refine lv_iload_n S.1 S.2.1 dX11_heat_11 rfl (lv_at hl 1 rfl) ?_
  refine z_cV (v := some (.ref (if (114 : Nat) = 108 then o + 1 + 10 else o + 1 + 11))) (rest := []) (As := [.int (nI (114))]) S hZ hS (c_X8_edgeAt l g (z 0) 114 (by decide)) ci_X8_edgeAt cv_X8_edgeAt k955 ⟨rfl, rfl, by rw [hR]; decide, by rw [hR]; decide⟩ hL (hL.1.recv hZ.1 0 (by decide) rfl rfl rfl) hl.1 rfl (Nat.le_of_ble_eq_true rfl) dX11_heat_12 ⟨by rw [hR]; decide, by rw [hR]; decide⟩ rfl ?_
  rw [if_neg (by decide)]
  refine z_get (v := .int (nI ((z 0 4) 0 0))) S hZ.1 hP4 0 (by decide) rfl rfl rfl 0 (by decide) rfl k106 dX11_heat_15 ?_
  exact z_ri hQ S hr hlk (zn_int _) rfl dX11_heat_18
theorem ci_X11_rowsUntilDark : zCI yX11_rowsUntilDark cX11_rowsUntilDark 2 (some .int) 0 := ⟨k1033, k1, by decide +kernel⟩
theorem cv_X11_rowsUntilDark : Cond.instanceMethod yX11_rowsUntilDark ∈ GW ∧ Cond.selects (yX11_rowsUntilDark).cls yX11_rowsUntilDark yX11_rowsUntilDark ∈ GW := ⟨k1031, k1032⟩
set_option maxRecDepth 20000 in
set_option maxHeartbeats 4000000 in
/-- rowsUntilDark -/
theorem c_rowsUntilDark (l : Launch) (g : ZG) {B : Nat} {o : Nat} (z : zSt) (hv : zOk (z 0)) (b : Nat) (hb : b ≤ 99) (hyes : ∀ k, k < b → zAf (z 0 1) k = true) (hno : b < 99 → zAf (z 0 1) b = false) : Met l yX11_rowsUntilDark (.code yX11_rowsUntilDark cX11_rowsUntilDark 2 (some .int) :: GW) { frames := 1, cells := 0, slots := 0, locals := 22 } (va_Pc [.ref o] (zPre g B (fun H => zSO g o z H))) (zR (some (.int (nI (b))))) 0 0 (fun _ => False) := by
  refine zMet (by decide) (Nat.le_of_ble_eq_true rfl) ?_
  intro p e R s m args below meth c Q ls hR hargs hQ S hr hlk hP hZ hS hnm hl
  have hl : lv_has ls 2 [(0, .ref (o))] := hl
  obtain ⟨hRo, hL, hF, hN, hHi, hJ, hQ0, hSc, hLn⟩ := hP
  obtain ⟨hP0, hP1, hP2, hP3, hP4⟩ := id hL
  have hw8 := hv.1.1
  have hk40 := hv.2.1.1
  refine z_ic S (k := 0) dX11_rowsUntilDark_0 (by decide) ?_
  refine lv_istore_n (lv' := [(1, .int (nI (0))), (0, .ref (o))]) S.1 S.2.1 dX11_rowsUntilDark_1 rfl hl (by decide) rfl (fun ls hl => ?_)
  have loop : ∀ (n i : Nat) (ls : Array Slot), (i ≤ b) → (b < i + n) → lv_has ls 2 [(0, .ref (o)), (1, .int (nI (i)))] → W p l e R s m args below meth c s.heap [] 0 0 Q (F0 m 2 ls []) := by
    intro n
    induction n with
    | zero => intro i ls h1 h2 hl; exact absurd h2 (by omega)
    | succ n ih =>
      intro i ls h1 h2 hl
      refine lv_iload_n S.1 S.2.1 dX11_rowsUntilDark_2 rfl (lv_at hl 1 rfl) ?_
      refine z_bi S (k := 99) dX11_rowsUntilDark_3 (by decide) ?_
      refine z_cge (tgt := 28) S (by omega) (by omega) dX11_rowsUntilDark_5 (by decide) (fun h4 => ?_) (fun h4 => ?_)
      · refine lv_iload_n S.1 S.2.1 dX11_rowsUntilDark_28 rfl (lv_at hl 1 rfl) ?_
        obtain rfl : i = b := by omega
        exact z_ri hQ S hr hlk (zn_int _) rfl dX11_rowsUntilDark_29
      · refine lv_aload_n S.1 S.2.1 dX11_rowsUntilDark_8 rfl (lv_at hl 0 rfl) ?_
        refine z_get (v := .ref (o + 1)) S hZ.1 hRo 0 (by decide) rfl rfl rfl 0 (by decide) rfl k245 dX11_rowsUntilDark_9 ?_
        refine z_get (v := .ref (o + 1 + 1)) S hZ.1 hP0 0 (by decide) rfl rfl rfl 0 (by decide) rfl k118 dX11_rowsUntilDark_12 ?_
        refine lv_iload_n S.1 S.2.1 dX11_rowsUntilDark_15 rfl (lv_at hl 1 rfl) ?_
        refine z_cV (v := some (.int (nI (zAf (z 0 1) i).toNat))) (rest := []) (As := [.int (nI (i))]) S hZ hS (c_X10_anyLitAfter l g (z 0 1) hv.1 i (by omega)) ci_X10_anyLitAfter cv_X10_anyLitAfter k1034 ⟨rfl, rfl, by rw [hR]; decide, by rw [hR]; decide⟩ hP1 (hP1.recv hZ.1 0 (by decide) rfl rfl rfl) hl.1 rfl (Nat.le_of_ble_eq_true rfl) dX11_rowsUntilDark_16 ⟨by rw [hR]; decide, by rw [hR]; decide⟩ rfl ?_
        refine z_beq (tgt := 28) S dX11_rowsUntilDark_19 (by decide) (fun h5 => ?_) (fun h5 => ?_)
        · have hib : i = b := by
            rcases Nat.lt_or_ge i b with q | q
            · rw [hyes i q] at h5; cases h5
            · omega
          subst hib
          refine lv_iload_n S.1 S.2.1 dX11_rowsUntilDark_28 rfl (lv_at hl 1 rfl) ?_
          exact z_ri hQ S hr hlk (zn_int _) rfl dX11_rowsUntilDark_29
        · have hib : i < b := by
            rcases Nat.lt_or_ge i b with q | q
            · exact q
            · obtain rfl : i = b := by omega
              rw [hno (by omega)] at h5; cases h5
          refine z_inc S (lv' := [(1, .int (nI (i + 1))), (0, .ref (o))]) (k := 1) (b := 1) dX11_rowsUntilDark_22 hl rfl (by decide) (by decide) rfl (fun ls hl => ?_)
          refine lv_goto (tgt := 2) S.1 S.2.1 dX11_rowsUntilDark_25 (by decide) ?_
          exact ih (i + 1) ls (by omega) (by omega) (lv_sub hl [1, 0] rfl)
  exact loop (b + 1) 0 ls (Nat.zero_le _) (by omega) (lv_sub hl [1, 0] rfl)
theorem ci_X11_period : zCI yX11_period cX11_period 2 (some .int) 0 := ⟨k1167, k1, by decide +kernel⟩
theorem cv_X11_period : Cond.instanceMethod yX11_period ∈ GW ∧ Cond.selects (yX11_period).cls yX11_period yX11_period ∈ GW := ⟨k1165, k1166⟩
set_option maxRecDepth 20000 in
set_option maxHeartbeats 4000000 in
/-- period -/
theorem c_period (l : Launch) (g : ZG) {B : Nat} {o : Nat} (z : zSt) (hv : zOk (z 0)) (b : Nat) (h1b : 1 ≤ b) (hb : b ≤ z 0 2 0 3) (hno : ∀ k, 1 ≤ k → k < b → zOv (z 0 2) k = false) (hyes : b < z 0 2 0 3 → zOv (z 0 2) b = true) : Met l yX11_period (.code yX11_period cX11_period 2 (some .int) :: GW) { frames := 2, cells := 0, slots := 0, locals := 44 } (va_Pc [.ref o] (zPre g B (fun H => zSO g o z H))) (zR (some (.int (nI (b))))) 0 0 (fun _ => False) := by
  refine zMet (by decide) (Nat.le_of_ble_eq_true rfl) ?_
  intro p e R s m args below meth c Q ls hR hargs hQ S hr hlk hP hZ hS hnm hl
  have hl : lv_has ls 2 [(0, .ref (o))] := hl
  obtain ⟨hRo, hL, hF, hN, hHi, hJ, hQ0, hSc, hLn⟩ := hP
  obtain ⟨hP0, hP1, hP2, hP3, hP4⟩ := id hL
  have hw8 := hv.1.1
  have hk40 := hv.2.1.1
  refine lv_aload_n S.1 S.2.1 dX11_period_0 rfl (lv_at hl 0 rfl) ?_
  refine z_get (v := .ref (o + 1)) S hZ.1 hRo 0 (by decide) rfl rfl rfl 0 (by decide) rfl k245 dX11_period_1 ?_
  refine z_get (v := .ref (o + 1 + 6)) S hZ.1 hP0 0 (by decide) rfl rfl rfl 1 (by decide) rfl k121 dX11_period_4 ?_
  refine z_get (v := .int (nI ((z 0 2) 0 3))) S hZ.1 hP2 0 (by decide) rfl rfl rfl 3 (by decide) rfl k89 dX11_period_7 ?_
  refine z_ile (tgt := 17) S (by omega) dX11_period_10 (by decide) (fun h7 => ?_) (fun h7 => ?_)
  · exact absurd h7 (by omega)
  · refine z_ic S (k := 1) dX11_period_13 (by decide) ?_
    refine lv_goto (tgt := 18) S.1 S.2.1 dX11_period_14 (by decide) ?_
    refine z_cS (v := none) (rest := []) (As := [.int (nI (1))]) S hZ hS (c_requireElement_t l g true rfl (PH := fun _ => True)) ci_X11_requireElement cv_X11_requireElement k806 ⟨rfl, rfl, by rw [hR]; decide, by rw [hR]; decide⟩ trivial hl.1 rfl (Nat.le_of_ble_eq_true rfl) dX11_period_18 ⟨by rw [hR]; decide, by rw [hR]; decide⟩ rfl ?_
    refine z_ic S (k := 1) dX11_period_21 (by decide) ?_
    refine lv_istore_n (lv' := [(1, .int (nI (1))), (0, .ref (o))]) S.1 S.2.1 dX11_period_22 rfl hl (by decide) rfl (fun ls hl => ?_)
    have loop : ∀ (n i : Nat) (ls : Array Slot), (1 ≤ i) → (i ≤ b) → (b < i + n) → lv_has ls 2 [(0, .ref (o)), (1, .int (nI (i)))] → W p l e R s m args below meth c s.heap [] 0 0 Q (F0 m 23 ls []) := by
      intro n
      induction n with
      | zero => intro i ls h0 h1 h2 hl; exact absurd h2 (by omega)
      | succ n ih =>
        intro i ls h0 h1 h2 hl
        refine lv_iload_n S.1 S.2.1 dX11_period_23 rfl (lv_at hl 1 rfl) ?_
        refine lv_aload_n S.1 S.2.1 dX11_period_24 rfl (lv_at hl 0 rfl) ?_
        refine z_get (v := .ref (o + 1)) S hZ.1 hRo 0 (by decide) rfl rfl rfl 0 (by decide) rfl k245 dX11_period_25 ?_
        refine z_get (v := .ref (o + 1 + 6)) S hZ.1 hP0 0 (by decide) rfl rfl rfl 1 (by decide) rfl k121 dX11_period_28 ?_
        refine z_get (v := .int (nI ((z 0 2) 0 3))) S hZ.1 hP2 0 (by decide) rfl rfl rfl 3 (by decide) rfl k89 dX11_period_31 ?_
        refine z_cge (tgt := 57) S (by omega) (by omega) dX11_period_34 (by decide) (fun h4 => ?_) (fun h4 => ?_)
        · refine lv_iload_n S.1 S.2.1 dX11_period_57 rfl (lv_at hl 1 rfl) ?_
          obtain rfl : i = b := by omega
          exact z_ri hQ S hr hlk (zn_int _) rfl dX11_period_58
        · refine lv_aload_n S.1 S.2.1 dX11_period_37 rfl (lv_at hl 0 rfl) ?_
          refine z_get (v := .ref (o + 1)) S hZ.1 hRo 0 (by decide) rfl rfl rfl 0 (by decide) rfl k245 dX11_period_38 ?_
          refine z_get (v := .ref (o + 1 + 6)) S hZ.1 hP0 0 (by decide) rfl rfl rfl 1 (by decide) rfl k121 dX11_period_41 ?_
          refine lv_iload_n S.1 S.2.1 dX11_period_44 rfl (lv_at hl 1 rfl) ?_
          refine z_cV (v := some (.int (nI (zOv (z 0 2) i).toNat))) (rest := []) (As := [.int (nI (i))]) S hZ hS (c_X1_overlapsItself l g (z 0 2) hv.2.1 i (by omega)) ci_X1_overlapsItself cv_X1_overlapsItself k1168 ⟨rfl, rfl, by rw [hR]; decide, by rw [hR]; decide⟩ hP2 (hP2.recv hZ.1 0 (by decide) rfl rfl rfl) hl.1 rfl (Nat.le_of_ble_eq_true rfl) dX11_period_45 ⟨by rw [hR]; decide, by rw [hR]; decide⟩ rfl ?_
          refine z_bne (tgt := 57) S dX11_period_48 (by decide) (fun h5 => ?_) (fun h5 => ?_)
          · have hib : i = b := by
              rcases Nat.lt_or_ge i b with q | q
              · rw [hno i h0 q] at h5; cases h5
              · omega
            subst hib
            refine lv_iload_n S.1 S.2.1 dX11_period_57 rfl (lv_at hl 1 rfl) ?_
            exact z_ri hQ S hr hlk (zn_int _) rfl dX11_period_58
          · have hib : i < b := by
              rcases Nat.lt_or_ge i b with q | q
              · exact q
              · obtain rfl : i = b := by omega
                rw [hyes h4] at h5; cases h5
            refine z_inc S (lv' := [(1, .int (nI (i + 1))), (0, .ref (o))]) (k := 1) (b := 1) dX11_period_51 hl rfl (by decide) (by decide) rfl (fun ls hl => ?_)
            refine lv_goto (tgt := 23) S.1 S.2.1 dX11_period_54 (by decide) ?_
            exact ih (i + 1) ls (by omega) (by omega) (by omega) (lv_sub hl [1, 0] rfl)
    exact loop (b + 1) 1 ls (Nat.le_refl 1) h1b (by omega) (lv_sub hl [1, 0] rfl)
theorem ci_X11_periodByBorders : zCI yX11_periodByBorders cX11_periodByBorders 1 (some .int) 0 := ⟨k1178, k1, by decide +kernel⟩
theorem cv_X11_periodByBorders : Cond.instanceMethod yX11_periodByBorders ∈ GW ∧ Cond.selects (yX11_periodByBorders).cls yX11_periodByBorders yX11_periodByBorders ∈ GW := ⟨k1176, k1177⟩
set_option maxRecDepth 20000 in
set_option maxHeartbeats 4000000 in
/-- periodByBorders -/
theorem c_periodByBorders (l : Launch) (g : ZG) {B : Nat} {o : Nat} (z : zSt) (hv : zOk (z 0)) (b : Nat) (hb : b < z 0 2 0 3) (hm : ∀ k, b < k → k < z 0 2 0 3 → zRs (z 0 2) 0 (z 0 2 0 3 - k) k = false) (he : b = 0 ∨ zRs (z 0 2) 0 (z 0 2 0 3 - b) b = true) : Met l yX11_periodByBorders (.code yX11_periodByBorders cX11_periodByBorders 1 (some .int) :: GW) { frames := 3, cells := 0, slots := 0, locals := 67 } (va_Pc [.ref o] (zPre g B (fun H => zSO g o z H))) (zR (some (.int (nI (z 0 2 0 3 - b))))) 0 0 (fun _ => False) := by
  refine zMet (by decide) (Nat.le_of_ble_eq_true rfl) ?_
  intro p e R s m args below meth c Q ls hR hargs hQ S hr hlk hP hZ hS hnm hl
  have hl : lv_has ls 1 [(0, .ref (o))] := hl
  obtain ⟨hRo, hL, hF, hN, hHi, hJ, hQ0, hSc, hLn⟩ := hP
  obtain ⟨hP0, hP1, hP2, hP3, hP4⟩ := id hL
  have hw8 := hv.1.1
  have hk40 := hv.2.1.1
  refine lv_aload_n S.1 S.2.1 dX11_periodByBorders_0 rfl (lv_at hl 0 rfl) ?_
  refine z_get (v := .ref (o + 1)) S hZ.1 hRo 0 (by decide) rfl rfl rfl 0 (by decide) rfl k245 dX11_periodByBorders_1 ?_
  refine z_get (v := .ref (o + 1 + 6)) S hZ.1 hP0 0 (by decide) rfl rfl rfl 1 (by decide) rfl k121 dX11_periodByBorders_4 ?_
  refine z_get (v := .int (nI ((z 0 2) 0 3))) S hZ.1 hP2 0 (by decide) rfl rfl rfl 3 (by decide) rfl k89 dX11_periodByBorders_7 ?_
  refine z_ile (tgt := 17) S (by omega) dX11_periodByBorders_10 (by decide) (fun h7 => ?_) (fun h7 => ?_)
  · exact absurd h7 (by omega)
  · refine z_ic S (k := 1) dX11_periodByBorders_13 (by decide) ?_
    refine lv_goto (tgt := 18) S.1 S.2.1 dX11_periodByBorders_14 (by decide) ?_
    refine z_cS (v := none) (rest := []) (As := [.int (nI (1))]) S hZ hS (c_requireElement_t l g true rfl (PH := fun _ => True)) ci_X11_requireElement cv_X11_requireElement k806 ⟨rfl, rfl, by rw [hR]; decide, by rw [hR]; decide⟩ trivial hl.1 rfl (Nat.le_of_ble_eq_true rfl) dX11_periodByBorders_18 ⟨by rw [hR]; decide, by rw [hR]; decide⟩ rfl ?_
    refine lv_aload_n S.1 S.2.1 dX11_periodByBorders_21 rfl (lv_at hl 0 rfl) ?_
    refine z_get (v := .ref (o + 1)) S hZ.1 hRo 0 (by decide) rfl rfl rfl 0 (by decide) rfl k245 dX11_periodByBorders_22 ?_
    refine z_get (v := .ref (o + 1 + 6)) S hZ.1 hP0 0 (by decide) rfl rfl rfl 1 (by decide) rfl k121 dX11_periodByBorders_25 ?_
    refine z_get (v := .int (nI ((z 0 2) 0 3))) S hZ.1 hP2 0 (by decide) rfl rfl rfl 3 (by decide) rfl k89 dX11_periodByBorders_28 ?_
    refine lv_aload_n S.1 S.2.1 dX11_periodByBorders_31 rfl (lv_at hl 0 rfl) ?_
    refine z_get (v := .ref (o + 1)) S hZ.1 hRo 0 (by decide) rfl rfl rfl 0 (by decide) rfl k245 dX11_periodByBorders_32 ?_
    refine z_get (v := .ref (o + 1 + 6)) S hZ.1 hP0 0 (by decide) rfl rfl rfl 1 (by decide) rfl k121 dX11_periodByBorders_35 ?_
    refine z_cV (v := some (.int (nI (b)))) (rest := [.int (nI ((z 0 2) 0 3))]) (As := []) S hZ hS (c_X1_longestBorder l g (z 0 2) hv.2.1 b hb hm he) ci_X1_longestBorder cv_X1_longestBorder k1179 ⟨rfl, rfl, by rw [hR]; decide, by rw [hR]; decide⟩ hP2 (hP2.recv hZ.1 0 (by decide) rfl rfl rfl) hl.1 rfl (Nat.le_of_ble_eq_true rfl) dX11_periodByBorders_38 ⟨by rw [hR]; decide, by rw [hR]; decide⟩ rfl ?_
    refine z_sub S (by omega) dX11_periodByBorders_41 ?_
    exact z_ri hQ S hr hlk (zn_int _) rfl dX11_periodByBorders_42
theorem ci_X11_occurrences : zCI yX11_occurrences cX11_occurrences 2 (some .int) 1 := ⟨k1193, k1, by decide +kernel⟩
theorem cv_X11_occurrences : Cond.instanceMethod yX11_occurrences ∈ GW ∧ Cond.selects (yX11_occurrences).cls yX11_occurrences yX11_occurrences ∈ GW := ⟨k1191, k1192⟩
set_option maxRecDepth 20000 in
set_option maxHeartbeats 4000000 in
/-- occurrences -/
theorem c_occurrences (l : Launch) (g : ZG) {B : Nat} {o : Nat} (z : zSt) (hv : zOk (z 0)) (i : Nat) (h1i : 1 ≤ i) (hi : i ≤ z 0 2 0 3) : Met l yX11_occurrences (.code yX11_occurrences cX11_occurrences 2 (some .int) :: GW) { frames := 3, cells := 0, slots := 0, locals := 70 } (va_Pc [.ref o, .int (nI (i))] (zPre g B (fun H => zSO g o z H))) (zR (some (.int (nI (zCl (z 0 2) i))))) 0 0 (fun _ => False) := by
  refine zMet (by decide) (Nat.le_of_ble_eq_true rfl) ?_
  intro p e R s m args below meth c Q ls hR hargs hQ S hr hlk hP hZ hS hnm hl
  have hl : lv_has ls 2 [(0, .ref (o)), (1, .int (nI (i)))] := hl
  obtain ⟨hRo, hL, hF, hN, hHi, hJ, hQ0, hSc, hLn⟩ := hP
  obtain ⟨hP0, hP1, hP2, hP3, hP4⟩ := id hL
  have hw8 := hv.1.1
  have hk40 := hv.2.1.1
  refine lv_iload_n S.1 S.2.1 dX11_occurrences_0 rfl (lv_at hl 1 rfl) ?_
  refine z_ic S (k := 1) dX11_occurrences_1 (by decide) ?_
  refine z_clt (tgt := 23) S (by omega) (by omega) dX11_occurrences_2 (by decide) (fun h7 => ?_) (fun h7 => ?_)
  · exact absurd h7 (by omega)
  · refine lv_iload_n S.1 S.2.1 dX11_occurrences_5 rfl (lv_at hl 1 rfl) ?_
    refine lv_aload_n S.1 S.2.1 dX11_occurrences_6 rfl (lv_at hl 0 rfl) ?_
    refine z_get (v := .ref (o + 1)) S hZ.1 hRo 0 (by decide) rfl rfl rfl 0 (by decide) rfl k245 dX11_occurrences_7 ?_
    refine z_get (v := .ref (o + 1 + 6)) S hZ.1 hP0 0 (by decide) rfl rfl rfl 1 (by decide) rfl k121 dX11_occurrences_10 ?_
    refine z_get (v := .int (nI ((z 0 2) 0 3))) S hZ.1 hP2 0 (by decide) rfl rfl rfl 3 (by decide) rfl k89 dX11_occurrences_13 ?_
    refine z_cgt (tgt := 23) S (by omega) (by omega) dX11_occurrences_16 (by decide) (fun h8 => ?_) (fun h8 => ?_)
    · exact absurd h8 (by omega)
    · refine z_ic S (k := 1) dX11_occurrences_19 (by decide) ?_
      refine lv_goto (tgt := 24) S.1 S.2.1 dX11_occurrences_20 (by decide) ?_
      refine z_cS (v := none) (rest := []) (As := [.int (nI (1))]) S hZ hS (c_requireRange_t l g true rfl (PH := fun _ => True)) ci_X11_requireRange cv_X11_requireRange k425 ⟨rfl, rfl, by rw [hR]; decide, by rw [hR]; decide⟩ trivial hl.1 rfl (Nat.le_of_ble_eq_true rfl) dX11_occurrences_24 ⟨by rw [hR]; decide, by rw [hR]; decide⟩ rfl ?_
      refine lv_aload_n S.1 S.2.1 dX11_occurrences_27 rfl (lv_at hl 0 rfl) ?_
      refine z_get (v := .ref (o + 1)) S hZ.1 hRo 0 (by decide) rfl rfl rfl 0 (by decide) rfl k245 dX11_occurrences_28 ?_
      refine z_get (v := .ref (o + 1 + 6)) S hZ.1 hP0 0 (by decide) rfl rfl rfl 1 (by decide) rfl k121 dX11_occurrences_31 ?_
      refine lv_iload_n S.1 S.2.1 dX11_occurrences_34 rfl (lv_at hl 1 rfl) ?_
      refine z_cV (v := some (.int (nI (zCl (z 0 2) i)))) (rest := []) (As := [.int (nI (i))]) S hZ hS (c_X1_countOfLast l g (z 0 2) hv.2.1 i hi) ci_X1_countOfLast cv_X1_countOfLast k1194 ⟨rfl, rfl, by rw [hR]; decide, by rw [hR]; decide⟩ hP2 (hP2.recv hZ.1 0 (by decide) rfl rfl rfl) hl.1 rfl (Nat.le_of_ble_eq_true rfl) dX11_occurrences_35 ⟨by rw [hR]; decide, by rw [hR]; decide⟩ rfl ?_
      exact z_ri hQ S hr hlk (zn_int _) rfl dX11_occurrences_38
theorem ci_X11_distance : zCI yX11_distance cX11_distance 3 (some .int) 2 := ⟨k1215, k1, by decide +kernel⟩
theorem cv_X11_distance : Cond.instanceMethod yX11_distance ∈ GW ∧ Cond.selects (yX11_distance).cls yX11_distance yX11_distance ∈ GW := ⟨k1213, k1214⟩
set_option maxRecDepth 20000 in
set_option maxHeartbeats 4000000 in
/-- distance -/
theorem c_distance (l : Launch) (g : ZG) {B : Nat} {o : Nat} (z : zSt) (hv : zOk (z 0)) (i j : Nat) (hi : i < z 0 2 0 3) (hj : j < z 0 2 0 3) : Met l yX11_distance (.code yX11_distance cX11_distance 3 (some .int) :: GW) { frames := 1, cells := 0, slots := 0, locals := 21 } (va_Pc [.ref o, .int (nI (i)), .int (nI (j))] (zPre g B (fun H => zSO g o z H))) (zR (some (.int (nI (zBc (z 0 2 1 i ^^^ z 0 2 1 j)))))) 0 0 (fun _ => False) := by
  refine zMet (by decide) (Nat.le_of_ble_eq_true rfl) ?_
  intro p e R s m args below meth c Q ls hR hargs hQ S hr hlk hP hZ hS hnm hl
  have hl : lv_has ls 3 [(0, .ref (o)), (1, .int (nI (i))), (2, .int (nI (j)))] := hl
  obtain ⟨hRo, hL, hF, hN, hHi, hJ, hQ0, hSc, hLn⟩ := hP
  obtain ⟨hP0, hP1, hP2, hP3, hP4⟩ := id hL
  have hw8 := hv.1.1
  have hk40 := hv.2.1.1
  have hxj := (hv.2.1.2 i).1
  have hyj := (hv.2.1.2 j).1
  have hxx : z 0 2 1 i ^^^ z 0 2 1 j < 2 ^ 31 := Nat.lt_of_lt_of_le (Nat.xor_lt_two_pow (n := 16) hxj hyj) (by decide)
  refine lv_aload_n S.1 S.2.1 dX11_distance_0 rfl (lv_at hl 0 rfl) ?_
  refine z_get (v := .ref (o + 1)) S hZ.1 hRo 0 (by decide) rfl rfl rfl 0 (by decide) rfl k245 dX11_distance_1 ?_
  refine z_get (v := .ref (o + 1 + 6)) S hZ.1 hP0 0 (by decide) rfl rfl rfl 1 (by decide) rfl k121 dX11_distance_4 ?_
  refine lv_iload_n S.1 S.2.1 dX11_distance_7 rfl (lv_at hl 1 rfl) ?_
  refine z_cV (v := some (.int (nI (decide (i < z 0 2 0 3)).toNat))) (rest := []) (As := [.int (nI (i))]) S hZ hS (c_X1_has l g (z 0 2) hv.2.1 i (by omega)) ci_X1_has cv_X1_has k991 ⟨rfl, rfl, by rw [hR]; decide, by rw [hR]; decide⟩ hP2 (hP2.recv hZ.1 0 (by decide) rfl rfl rfl) hl.1 rfl (Nat.le_of_ble_eq_true rfl) dX11_distance_8 ⟨by rw [hR]; decide, by rw [hR]; decide⟩ rfl ?_
  refine z_beq (tgt := 32) S dX11_distance_11 (by decide) (fun h7 => ?_) (fun h7 => ?_)
  · exact absurd hi (of_decide_eq_false h7)
  · refine lv_aload_n S.1 S.2.1 dX11_distance_14 rfl (lv_at hl 0 rfl) ?_
    refine z_get (v := .ref (o + 1)) S hZ.1 hRo 0 (by decide) rfl rfl rfl 0 (by decide) rfl k245 dX11_distance_15 ?_
    refine z_get (v := .ref (o + 1 + 6)) S hZ.1 hP0 0 (by decide) rfl rfl rfl 1 (by decide) rfl k121 dX11_distance_18 ?_
    refine lv_iload_n S.1 S.2.1 dX11_distance_21 rfl (lv_at hl 2 rfl) ?_
    refine z_cV (v := some (.int (nI (decide (j < z 0 2 0 3)).toNat))) (rest := []) (As := [.int (nI (j))]) S hZ hS (c_X1_has l g (z 0 2) hv.2.1 j (by omega)) ci_X1_has cv_X1_has k991 ⟨rfl, rfl, by rw [hR]; decide, by rw [hR]; decide⟩ hP2 (hP2.recv hZ.1 0 (by decide) rfl rfl rfl) hl.1 rfl (Nat.le_of_ble_eq_true rfl) dX11_distance_22 ⟨by rw [hR]; decide, by rw [hR]; decide⟩ rfl ?_
    refine z_beq (tgt := 32) S dX11_distance_25 (by decide) (fun h8 => ?_) (fun h8 => ?_)
    · exact absurd hj (of_decide_eq_false h8)
    · refine z_ic S (k := 1) dX11_distance_28 (by decide) ?_
      refine lv_goto (tgt := 33) S.1 S.2.1 dX11_distance_29 (by decide) ?_
      refine z_cS (v := none) (rest := []) (As := [.int (nI (1))]) S hZ hS (c_requireIndex_t l g true rfl (PH := fun _ => True)) ci_X11_requireIndex cv_X11_requireIndex k500 ⟨rfl, rfl, by rw [hR]; decide, by rw [hR]; decide⟩ trivial hl.1 rfl (Nat.le_of_ble_eq_true rfl) dX11_distance_33 ⟨by rw [hR]; decide, by rw [hR]; decide⟩ rfl ?_
      refine lv_aload_n S.1 S.2.1 dX11_distance_36 rfl (lv_at hl 0 rfl) ?_
      refine z_get (v := .ref (o + 1)) S hZ.1 hRo 0 (by decide) rfl rfl rfl 0 (by decide) rfl k245 dX11_distance_37 ?_
      refine z_get (v := .ref (o + 1 + 6)) S hZ.1 hP0 0 (by decide) rfl rfl rfl 1 (by decide) rfl k121 dX11_distance_40 ?_
      refine z_get (v := .ref (o + 1 + 6 + 1)) S hZ.1 hP2 0 (by decide) rfl rfl rfl 0 (by decide) rfl k82 dX11_distance_43 ?_
      refine lv_iload_n S.1 S.2.1 dX11_distance_46 rfl (lv_at hl 1 rfl) ?_
      refine z_iald S hZ.1 hP2 1 (by decide) rfl rfl (i := i) (by omega) (by decide) dX11_distance_47 ?_
      refine lv_aload_n S.1 S.2.1 dX11_distance_48 rfl (lv_at hl 0 rfl) ?_
      refine z_get (v := .ref (o + 1)) S hZ.1 hRo 0 (by decide) rfl rfl rfl 0 (by decide) rfl k245 dX11_distance_49 ?_
      refine z_get (v := .ref (o + 1 + 6)) S hZ.1 hP0 0 (by decide) rfl rfl rfl 1 (by decide) rfl k121 dX11_distance_52 ?_
      refine z_get (v := .ref (o + 1 + 6 + 1)) S hZ.1 hP2 0 (by decide) rfl rfl rfl 0 (by decide) rfl k82 dX11_distance_55 ?_
      refine lv_iload_n S.1 S.2.1 dX11_distance_58 rfl (lv_at hl 2 rfl) ?_
      refine z_iald S hZ.1 hP2 1 (by decide) rfl rfl (i := j) (by omega) (by decide) dX11_distance_59 ?_
      refine z_xor S dX11_distance_60 ?_
      refine z_cS (v := some (.int (nI (zBc (z 0 2 1 i ^^^ z 0 2 1 j))))) (rest := []) (As := [.int (nI (((z 0 2) 1 i) ^^^ ((z 0 2) 1 j)))]) S hZ hS (c_bitCount l g (z 0 2 1 i ^^^ z 0 2 1 j) hxx (PH := fun _ => True)) ci_J6_bitCount_0f7a4 cv_J6_bitCount_0f7a4 k1216 ⟨rfl, rfl, by rw [hR]; decide, by rw [hR]; decide⟩ trivial hl.1 rfl (Nat.le_of_ble_eq_true rfl) dX11_distance_61 ⟨by rw [hR]; decide, by rw [hR]; decide⟩ rfl ?_
      exact z_ri hQ S hr hlk (zn_int _) rfl dX11_distance_64
theorem ci_X11_denial : zCI yX11_denial cX11_denial 1 (some .int) 0 := ⟨k805, k1, by decide +kernel⟩
theorem cv_X11_denial : Cond.instanceMethod yX11_denial ∈ GW ∧ Cond.selects (yX11_denial).cls yX11_denial yX11_denial ∈ GW := ⟨k803, k804⟩
set_option maxRecDepth 20000 in
set_option maxHeartbeats 4000000 in
/-- denial -/
theorem c_denial (l : Launch) (g : ZG) {B : Nat} {o : Nat} (z : zSt) (hv : zOk (z 0)) (hd : z 11 0 0 11 = 7) : Met l yX11_denial (.code yX11_denial cX11_denial 1 (some .int) :: GW) { frames := 1, cells := 0, slots := 0, locals := 20 } (va_Pc [.ref o] (zPre g B (fun H => zSO g o z H))) (zR (some (.int (nI (z 11 0 0 11))))) 0 0 (fun _ => False) := by
  refine zMet (by decide) (Nat.le_of_ble_eq_true rfl) ?_
  intro p e R s m args below meth c Q ls hR hargs hQ S hr hlk hP hZ hS hnm hl
  have hl : lv_has ls 1 [(0, .ref (o))] := hl
  obtain ⟨hRo, hL, hF, hN, hHi, hJ, hQ0, hSc, hLn⟩ := hP
  obtain ⟨hP0, hP1, hP2, hP3, hP4⟩ := id hL
  have hw8 := hv.1.1
  have hk40 := hv.2.1.1
  refine lv_aload_n S.1 S.2.1 dX11_denial_0 rfl (lv_at hl 0 rfl) ?_
  refine z_get (v := .int (nI ((z 11 0) 0 11))) S hZ.1 hRo 0 (by decide) rfl rfl rfl 11 (by decide) rfl k256 dX11_denial_1 ?_
  refine z_ieq (tgt := 11) S (by omega) dX11_denial_4 (by decide) (fun h7 => ?_) (fun h7 => ?_)
  · exact absurd h7 (by omega)
  · refine z_ic S (k := 1) dX11_denial_7 (by decide) ?_
    refine lv_goto (tgt := 12) S.1 S.2.1 dX11_denial_8 (by decide) ?_
    refine z_cS (v := none) (rest := []) (As := [.int (nI (1))]) S hZ hS (c_requireElement_t l g true rfl (PH := fun _ => True)) ci_X11_requireElement cv_X11_requireElement k806 ⟨rfl, rfl, by rw [hR]; decide, by rw [hR]; decide⟩ trivial hl.1 rfl (Nat.le_of_ble_eq_true rfl) dX11_denial_12 ⟨by rw [hR]; decide, by rw [hR]; decide⟩ rfl ?_
    refine lv_aload_n S.1 S.2.1 dX11_denial_15 rfl (lv_at hl 0 rfl) ?_
    refine z_get (v := .int (nI ((z 11 0) 0 11))) S hZ.1 hRo 0 (by decide) rfl rfl rfl 11 (by decide) rfl k256 dX11_denial_16 ?_
    exact z_ri hQ S hr hlk (zn_int _) rfl dX11_denial_19
theorem ci_X11_denialCause : zCI yX11_denialCause cX11_denialCause 1 (some .int) 0 := ⟨k831, k1, by decide +kernel⟩
theorem cv_X11_denialCause : Cond.instanceMethod yX11_denialCause ∈ GW ∧ Cond.selects (yX11_denialCause).cls yX11_denialCause yX11_denialCause ∈ GW := ⟨k829, k830⟩
set_option maxRecDepth 20000 in
set_option maxHeartbeats 4000000 in
/-- denialCause -/
theorem c_denialCause (l : Launch) (g : ZG) {B : Nat} {o : Nat} (z : zSt) (hv : zOk (z 0)) (hd : z 11 0 0 11 = 7) : Met l yX11_denialCause (.code yX11_denialCause cX11_denialCause 1 (some .int) :: GW) { frames := 1, cells := 0, slots := 0, locals := 20 } (va_Pc [.ref o] (zPre g B (fun H => zSO g o z H))) (zR (some (.int (nI (z 11 0 0 13))))) 0 0 (fun _ => False) := by
  refine zMet (by decide) (Nat.le_of_ble_eq_true rfl) ?_
  intro p e R s m args below meth c Q ls hR hargs hQ S hr hlk hP hZ hS hnm hl
  have hl : lv_has ls 1 [(0, .ref (o))] := hl
  obtain ⟨hRo, hL, hF, hN, hHi, hJ, hQ0, hSc, hLn⟩ := hP
  obtain ⟨hP0, hP1, hP2, hP3, hP4⟩ := id hL
  have hw8 := hv.1.1
  have hk40 := hv.2.1.1
  refine lv_aload_n S.1 S.2.1 dX11_denialCause_0 rfl (lv_at hl 0 rfl) ?_
  refine z_get (v := .int (nI ((z 11 0) 0 11))) S hZ.1 hRo 0 (by decide) rfl rfl rfl 11 (by decide) rfl k256 dX11_denialCause_1 ?_
  refine z_bi S (k := 7) dX11_denialCause_4 (by decide) ?_
  refine z_cne (tgt := 13) S (by omega) (by omega) dX11_denialCause_6 (by decide) (fun h7 => ?_) (fun h7 => ?_)
  · exact absurd h7 (by omega)
  · refine z_ic S (k := 1) dX11_denialCause_9 (by decide) ?_
    refine lv_goto (tgt := 14) S.1 S.2.1 dX11_denialCause_10 (by decide) ?_
    refine z_cS (v := none) (rest := []) (As := [.int (nI (1))]) S hZ hS (c_requireElement_t l g true rfl (PH := fun _ => True)) ci_X11_requireElement cv_X11_requireElement k806 ⟨rfl, rfl, by rw [hR]; decide, by rw [hR]; decide⟩ trivial hl.1 rfl (Nat.le_of_ble_eq_true rfl) dX11_denialCause_14 ⟨by rw [hR]; decide, by rw [hR]; decide⟩ rfl ?_
    refine lv_aload_n S.1 S.2.1 dX11_denialCause_17 rfl (lv_at hl 0 rfl) ?_
    refine z_get (v := .int (nI ((z 11 0) 0 13))) S hZ.1 hRo 0 (by decide) rfl rfl rfl 13 (by decide) rfl k258 dX11_denialCause_18 ?_
    exact z_ri hQ S hr hlk (zn_int _) rfl dX11_denialCause_21
theorem ci_X11_lineCharacter : zCI yX11_lineCharacter cX11_lineCharacter 2 (some .char) 1 := ⟨k1080, k1, by decide +kernel⟩
theorem cv_X11_lineCharacter : Cond.instanceMethod yX11_lineCharacter ∈ GW ∧ Cond.selects (yX11_lineCharacter).cls yX11_lineCharacter yX11_lineCharacter ∈ GW := ⟨k1078, k1079⟩
set_option maxRecDepth 20000 in
set_option maxHeartbeats 4000000 in
/-- lineCharacter -/
theorem c_lineCharacter (l : Launch) (g : ZG) {B : Nat} {o : Nat} (z : zSt) (hv : zOk (z 0)) (i : Nat) (hi : i < z 16 0 0 1) (h48 : z 16 0 0 1 ≤ 48) (hc : z 16 0 1 i < 65536) : Met l yX11_lineCharacter (.code yX11_lineCharacter cX11_lineCharacter 2 (some .char) :: GW) { frames := 1, cells := 0, slots := 0, locals := 20 } (va_Pc [.ref o, .int (nI (i))] (zPre g B (fun H => zSO g o z H))) (zR (some (.int (nI (z 16 0 1 i))))) 0 0 (fun _ => False) := by
  refine zMet (by decide) (Nat.le_of_ble_eq_true rfl) ?_
  intro p e R s m args below meth c Q ls hR hargs hQ S hr hlk hP hZ hS hnm hl
  have hl : lv_has ls 2 [(0, .ref (o)), (1, .int (nI (i)))] := hl
  obtain ⟨hRo, hL, hF, hN, hHi, hJ, hQ0, hSc, hLn⟩ := hP
  obtain ⟨hP0, hP1, hP2, hP3, hP4⟩ := id hL
  have hw8 := hv.1.1
  have hk40 := hv.2.1.1
  refine lv_iload_n S.1 S.2.1 dX11_lineCharacter_0 rfl (lv_at hl 1 rfl) ?_
  refine z_ilt (tgt := 19) S (by omega) dX11_lineCharacter_1 (by decide) ?_
  refine lv_iload_n S.1 S.2.1 dX11_lineCharacter_4 rfl (lv_at hl 1 rfl) ?_
  refine lv_aload_n S.1 S.2.1 dX11_lineCharacter_5 rfl (lv_at hl 0 rfl) ?_
  refine z_get (v := .ref (o + 150)) S hZ.1 hRo 0 (by decide) rfl rfl rfl 10 (by decide) rfl k255 dX11_lineCharacter_6 ?_
  refine z_get (v := .int (nI ((z 16 0) 0 1))) S hZ.1 hLn 0 (by decide) rfl rfl rfl 1 (by decide) rfl k239 dX11_lineCharacter_9 ?_
  refine z_cge (tgt := 19) S (by omega) (by omega) dX11_lineCharacter_12 (by decide) (fun h7 => ?_) (fun h7 => ?_)
  · exact absurd h7 (by omega)
  · refine z_ic S (k := 1) dX11_lineCharacter_15 (by decide) ?_
    refine lv_goto (tgt := 20) S.1 S.2.1 dX11_lineCharacter_16 (by decide) ?_
    refine z_cS (v := none) (rest := []) (As := [.int (nI (1))]) S hZ hS (c_requireIndex_t l g true rfl (PH := fun _ => True)) ci_X11_requireIndex cv_X11_requireIndex k500 ⟨rfl, rfl, by rw [hR]; decide, by rw [hR]; decide⟩ trivial hl.1 rfl (Nat.le_of_ble_eq_true rfl) dX11_lineCharacter_20 ⟨by rw [hR]; decide, by rw [hR]; decide⟩ rfl ?_
    refine lv_aload_n S.1 S.2.1 dX11_lineCharacter_23 rfl (lv_at hl 0 rfl) ?_
    refine z_get (v := .ref (o + 150)) S hZ.1 hRo 0 (by decide) rfl rfl rfl 10 (by decide) rfl k255 dX11_lineCharacter_24 ?_
    refine z_get (v := .ref (o + 150 + 1)) S hZ.1 hLn 0 (by decide) rfl rfl rfl 0 (by decide) rfl k237 dX11_lineCharacter_27 ?_
    refine lv_iload_n S.1 S.2.1 dX11_lineCharacter_30 rfl (lv_at hl 1 rfl) ?_
    refine z_cald S hZ.1 hLn 1 (by decide) rfl rfl (i := i) (by omega) (by decide) dX11_lineCharacter_31 ?_
    exact z_ri hQ S hr hlk (zn_char hc) rfl dX11_lineCharacter_32
theorem ci_X11_knottedRowFrom : zCI yX11_knottedRowFrom cX11_knottedRowFrom 3 (some .int) 1 := ⟨k1231, k1, by decide +kernel⟩
theorem cv_X11_knottedRowFrom : Cond.instanceMethod yX11_knottedRowFrom ∈ GW ∧ Cond.selects (yX11_knottedRowFrom).cls yX11_knottedRowFrom yX11_knottedRowFrom ∈ GW := ⟨k1230, kp30⟩
set_option maxRecDepth 20000 in
set_option maxHeartbeats 4000000 in
/-- knottedRowFrom -/
theorem c_knottedRowFrom (l : Launch) (g : ZG) {B : Nat} {o : Nat} (z : zSt) (hv : zOk (z 0)) (a b : Nat) (hab : a ≤ b) (hb : b < z 0 2 0 3) (hno : ∀ k, a ≤ k → k < b → z 0 2 3 k = 0) (hyes : ¬ z 0 2 3 b = 0) : Met l yX11_knottedRowFrom (.code yX11_knottedRowFrom cX11_knottedRowFrom 3 (some .int) :: GW) { frames := 1, cells := 0, slots := 0, locals := 22 } (va_Pc [.ref o, .int (nI (a))] (zPre g B (fun H => zSO g o z H))) (zR (some (.int (nI (b))))) 0 0 (fun _ => False) := by
  refine zMet (by decide) (Nat.le_of_ble_eq_true rfl) ?_
  intro p e R s m args below meth c Q ls hR hargs hQ S hr hlk hP hZ hS hnm hl
  have hl : lv_has ls 3 [(0, .ref (o)), (1, .int (nI (a)))] := hl
  obtain ⟨hRo, hL, hF, hN, hHi, hJ, hQ0, hSc, hLn⟩ := hP
  obtain ⟨hP0, hP1, hP2, hP3, hP4⟩ := id hL
  have hw8 := hv.1.1
  have hk40 := hv.2.1.1
  refine lv_aload_n S.1 S.2.1 dX11_knottedRowFrom_0 rfl (lv_at hl 0 rfl) ?_
  refine z_get (v := .ref (o + 1)) S hZ.1 hRo 0 (by decide) rfl rfl rfl 0 (by decide) rfl k245 dX11_knottedRowFrom_1 ?_
  refine z_get (v := .ref (o + 1 + 6)) S hZ.1 hP0 0 (by decide) rfl rfl rfl 1 (by decide) rfl k121 dX11_knottedRowFrom_4 ?_
  refine lv_iload_n S.1 S.2.1 dX11_knottedRowFrom_7 rfl (lv_at hl 1 rfl) ?_
  refine z_cV (v := some (.int (nI (decide (a < z 0 2 0 3)).toNat))) (rest := []) (As := [.int (nI (a))]) S hZ hS (c_X1_has l g (z 0 2) hv.2.1 a (by omega)) ci_X1_has cv_X1_has k991 ⟨rfl, rfl, by rw [hR]; decide, by rw [hR]; decide⟩ hP2 (hP2.recv hZ.1 0 (by decide) rfl rfl rfl) hl.1 rfl (Nat.le_of_ble_eq_true rfl) dX11_knottedRowFrom_8 ⟨by rw [hR]; decide, by rw [hR]; decide⟩ rfl ?_
  refine z_cS (v := none) (rest := []) (As := [.int (nI (decide (a < z 0 2 0 3)).toNat)]) S hZ hS (c_requireIndex_t l g (decide (a < z 0 2 0 3)) (decide_eq_true (by omega)) (PH := fun _ => True)) ci_X11_requireIndex cv_X11_requireIndex k500 ⟨rfl, rfl, by rw [hR]; decide, by rw [hR]; decide⟩ trivial hl.1 rfl (Nat.le_of_ble_eq_true rfl) dX11_knottedRowFrom_11 ⟨by rw [hR]; decide, by rw [hR]; decide⟩ rfl ?_
  refine lv_aload_n S.1 S.2.1 dX11_knottedRowFrom_14 rfl (lv_at hl 0 rfl) ?_
  refine z_get (v := .ref (o + 1)) S hZ.1 hRo 0 (by decide) rfl rfl rfl 0 (by decide) rfl k245 dX11_knottedRowFrom_15 ?_
  refine z_get (v := .ref (o + 1 + 6)) S hZ.1 hP0 0 (by decide) rfl rfl rfl 1 (by decide) rfl k121 dX11_knottedRowFrom_18 ?_
  refine lv_iload_n S.1 S.2.1 dX11_knottedRowFrom_21 rfl (lv_at hl 1 rfl) ?_
  refine z_cV (v := some (.int (nI (b)))) (rest := []) (As := [.int (nI (a))]) S hZ hS (c_X1_firstKnottedRow l g (z 0 2) hv.2.1 a b hab hb hno hyes) ci_X1_firstKnottedRow cv_X1_firstKnottedRow k1232 ⟨rfl, rfl, by rw [hR]; decide, by rw [hR]; decide⟩ hP2 (hP2.recv hZ.1 0 (by decide) rfl rfl rfl) hl.1 rfl (Nat.le_of_ble_eq_true rfl) dX11_knottedRowFrom_22 ⟨by rw [hR]; decide, by rw [hR]; decide⟩ rfl ?_
  refine lv_istore_n (lv' := [(2, .int (nI (b))), (0, .ref (o)), (1, .int (nI (a)))]) S.1 S.2.1 dX11_knottedRowFrom_25 rfl hl (by decide) rfl (fun ls hl => ?_)
  refine lv_iload_n S.1 S.2.1 dX11_knottedRowFrom_26 rfl (lv_at hl 0 rfl) ?_
  refine z_ilt (tgt := 34) S (by omega) dX11_knottedRowFrom_27 (by decide) ?_
  refine z_ic S (k := 1) dX11_knottedRowFrom_30 (by decide) ?_
  refine lv_goto (tgt := 35) S.1 S.2.1 dX11_knottedRowFrom_31 (by decide) ?_
  refine z_cS (v := none) (rest := []) (As := [.int (nI (1))]) S hZ hS (c_requireElement_t l g true rfl (PH := fun _ => True)) ci_X11_requireElement cv_X11_requireElement k806 ⟨rfl, rfl, by rw [hR]; decide, by rw [hR]; decide⟩ trivial hl.1 rfl (Nat.le_of_ble_eq_true rfl) dX11_knottedRowFrom_35 ⟨by rw [hR]; decide, by rw [hR]; decide⟩ rfl ?_
  refine lv_iload_n S.1 S.2.1 dX11_knottedRowFrom_38 rfl (lv_at hl 0 rfl) ?_
  exact z_ri hQ S hr hlk (zn_int _) rfl dX11_knottedRowFrom_39
theorem ci_X11_nextKnotRow : zCI yX11_nextKnotRow cX11_nextKnotRow 2 (some .int) 1 := ⟨k1227, k1, by decide +kernel⟩
theorem cv_X11_nextKnotRow : Cond.instanceMethod yX11_nextKnotRow ∈ GW ∧ Cond.selects (yX11_nextKnotRow).cls yX11_nextKnotRow yX11_nextKnotRow ∈ GW := ⟨k1225, k1226⟩
set_option maxRecDepth 20000 in
set_option maxHeartbeats 4000000 in
/-- nextKnotRow -/
theorem c_nextKnotRow (l : Launch) (g : ZG) {B : Nat} {o : Nat} (z : zSt) (hv : zOk (z 0)) (a b : Nat) (hab : a ≤ b) (hb : b < z 0 2 0 3) (hno : ∀ k, a ≤ k → k < b → z 0 2 3 k = 0) (hyes : ¬ z 0 2 3 b = 0) : Met l yX11_nextKnotRow (.code yX11_nextKnotRow cX11_nextKnotRow 2 (some .int) :: GW) { frames := 2, cells := 0, slots := 0, locals := 44 } (va_Pc [.ref o, .int (nI (a))] (zPre g B (fun H => zSO g o z H))) (zR (some (.int (nI (b))))) 0 0 (fun _ => False) := by
  refine zMet (by decide) (Nat.le_of_ble_eq_true rfl) ?_
  intro p e R s m args below meth c Q ls hR hargs hQ S hr hlk hP hZ hS hnm hl
  have hl : lv_has ls 2 [(0, .ref (o)), (1, .int (nI (a)))] := hl
  obtain ⟨hRo, hL, hF, hN, hHi, hJ, hQ0, hSc, hLn⟩ := hP
  obtain ⟨hP0, hP1, hP2, hP3, hP4⟩ := id hL
  have hw8 := hv.1.1
  have hk40 := hv.2.1.1
  refine lv_aload_n S.1 S.2.1 dX11_nextKnotRow_0 rfl (lv_at hl 0 rfl) ?_
  refine lv_iload_n S.1 S.2.1 dX11_nextKnotRow_1 rfl (lv_at hl 1 rfl) ?_
  refine z_cV (v := some (.int (nI (b)))) (rest := []) (As := [.int (nI (a))]) S hZ hS (c_knottedRowFrom l g z hv a b hab hb hno hyes) ci_X11_knottedRowFrom cv_X11_knottedRowFrom k1228 ⟨rfl, rfl, by rw [hR]; decide, by rw [hR]; decide⟩ ⟨hRo, hL, hF, hN, hHi, hJ, hQ0, hSc, hLn⟩ (hRo.recv hZ.1 0 (by decide) rfl rfl rfl) hl.1 rfl (Nat.le_of_ble_eq_true rfl) dX11_nextKnotRow_2 ⟨by rw [hR]; decide, by rw [hR]; decide⟩ rfl ?_
  exact z_ri hQ S hr hlk (zn_int _) rfl dX11_nextKnotRow_5
theorem ci_X11_nextKnotColumn : zCI yX11_nextKnotColumn cX11_nextKnotColumn 2 (some .int) 1 := ⟨k1242, k1, by decide +kernel⟩
theorem cv_X11_nextKnotColumn : Cond.instanceMethod yX11_nextKnotColumn ∈ GW ∧ Cond.selects (yX11_nextKnotColumn).cls yX11_nextKnotColumn yX11_nextKnotColumn ∈ GW := ⟨k1240, k1241⟩
set_option maxRecDepth 20000 in
set_option maxHeartbeats 4000000 in
/-- nextKnotColumn -/
theorem c_nextKnotColumn (l : Launch) (g : ZG) {B : Nat} {o : Nat} (z : zSt) (hv : zOk (z 0)) (a b : Nat) (hab : a ≤ b) (hb : b < z 0 2 0 3) (hno : ∀ k, a ≤ k → k < b → z 0 2 3 k = 0) (hyes : ¬ z 0 2 3 b = 0) (c9 : Nat) (h15 : c9 ≤ 15) (hcn : ∀ k, k < c9 → zBt (z 0 2 3 b) k = false) (hcy : c9 < 15 → zBt (z 0 2 3 b) c9 = true) : Met l yX11_nextKnotColumn (.code yX11_nextKnotColumn cX11_nextKnotColumn 2 (some .int) :: GW) { frames := 2, cells := 0, slots := 0, locals := 44 } (va_Pc [.ref o, .int (nI (a))] (zPre g B (fun H => zSO g o z H))) (zR (some (.int (nI (c9))))) 0 0 (fun _ => False) := by
  refine zMet (by decide) (Nat.le_of_ble_eq_true rfl) ?_
  intro p e R s m args below meth c Q ls hR hargs hQ S hr hlk hP hZ hS hnm hl
  have hl : lv_has ls 2 [(0, .ref (o)), (1, .int (nI (a)))] := hl
  obtain ⟨hRo, hL, hF, hN, hHi, hJ, hQ0, hSc, hLn⟩ := hP
  obtain ⟨hP0, hP1, hP2, hP3, hP4⟩ := id hL
  have hw8 := hv.1.1
  have hk40 := hv.2.1.1
  refine lv_aload_n S.1 S.2.1 dX11_nextKnotColumn_0 rfl (lv_at hl 0 rfl) ?_
  refine z_get (v := .ref (o + 1)) S hZ.1 hRo 0 (by decide) rfl rfl rfl 0 (by decide) rfl k245 dX11_nextKnotColumn_1 ?_
  refine z_get (v := .ref (o + 1 + 6)) S hZ.1 hP0 0 (by decide) rfl rfl rfl 1 (by decide) rfl k121 dX11_nextKnotColumn_4 ?_
  refine lv_aload_n S.1 S.2.1 dX11_nextKnotColumn_7 rfl (lv_at hl 0 rfl) ?_
  refine lv_iload_n S.1 S.2.1 dX11_nextKnotColumn_8 rfl (lv_at hl 1 rfl) ?_
  refine z_cV (v := some (.int (nI (b)))) (rest := [.ref (o + 1 + 6)]) (As := [.int (nI (a))]) S hZ hS (c_knottedRowFrom l g z hv a b hab hb hno hyes) ci_X11_knottedRowFrom cv_X11_knottedRowFrom k1228 ⟨rfl, rfl, by rw [hR]; decide, by rw [hR]; decide⟩ ⟨hRo, hL, hF, hN, hHi, hJ, hQ0, hSc, hLn⟩ (hRo.recv hZ.1 0 (by decide) rfl rfl rfl) hl.1 rfl (Nat.le_of_ble_eq_true rfl) dX11_nextKnotColumn_9 ⟨by rw [hR]; decide, by rw [hR]; decide⟩ rfl ?_
  refine z_cV (v := some (.int (nI (c9)))) (rest := []) (As := [.int (nI (b))]) S hZ hS (c_X1_firstKnottedColumn l g (z 0 2) hv.2.1 b c9 hb h15 hcn hcy) ci_X1_firstKnottedColumn cv_X1_firstKnottedColumn k1243 ⟨rfl, rfl, by rw [hR]; decide, by rw [hR]; decide⟩ hP2 (hP2.recv hZ.1 0 (by decide) rfl rfl rfl) hl.1 rfl (Nat.le_of_ble_eq_true rfl) dX11_nextKnotColumn_12 ⟨by rw [hR]; decide, by rw [hR]; decide⟩ rfl ?_
  exact z_ri hQ S hr hlk (zn_int _) rfl dX11_nextKnotColumn_15
