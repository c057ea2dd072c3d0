/-! READING CALLS of CandleLoom -/
theorem zn_b1 {q : Nat} (h : q ≤ 1) : narrow .boolean (.int (nI q)) = .int (nI q) := by
  rcases (show q = 0 ∨ q = 1 by omega) with e | e <;> subst e <;> rfl
theorem ci_X11_wickCount : zCI yX11_wickCount cX11_wickCount 1 (some .int) 0 := ⟨k966, k1, by decide +kernel⟩
theorem cv_X11_wickCount : Cond.instanceMethod yX11_wickCount ∈ GW ∧ Cond.selects (yX11_wickCount).cls yX11_wickCount yX11_wickCount ∈ GW := ⟨k964, k965⟩
set_option maxRecDepth 20000 in
set_option maxHeartbeats 4000000 in
/-- wickCount -/
theorem c_wickCount (l : Launch) (g : ZG) {B : Nat} {o : Nat} (z : zSt) (hv : zOk (z 0))  : Met l yX11_wickCount (.code yX11_wickCount cX11_wickCount 1 (some .int) :: GW) { frames := 0, cells := 0, slots := 0, locals := 0 } (va_Pc [.ref o] (zPre g B (fun H => zSO g o z H))) (zR (some (.int (nI (z 0 1 0 4))))) 0 0 (fun _ => False) := by
  refine zMet (by decide) (Nat.le_of_ble_eq_true rfl) ?_
  intro p e R s m args below meth c Q ls hR hargs hQ S hr hlk hP hZ hS hnm hl
  have hl : lv_has ls 1 [(0, .ref (o))] := hl
  obtain ⟨hRo, hL, hF, hN, hHi, hJ, hQ0, hSc, hLn⟩ := hP
  obtain ⟨hP0, hP1, hP2, hP3, hP4⟩ := id hL
  have hw8 := hv.1.1
  have hk40 := hv.2.1.1
  refine lv_aload_n S.1 S.2.1 dX11_wickCount_0 rfl (lv_at hl 0 rfl) ?_
  refine z_get (v := .ref (o + 1)) S hZ.1 hRo 0 (by decide) rfl rfl rfl 0 (by decide) rfl k245 dX11_wickCount_1 ?_
  refine z_get (v := .ref (o + 1 + 1)) S hZ.1 hP0 0 (by decide) rfl rfl rfl 0 (by decide) rfl k118 dX11_wickCount_4 ?_
  refine z_get (v := .int (nI ((z 0 1) 0 4))) S hZ.1 hP1 0 (by decide) rfl rfl rfl 4 (by decide) rfl k61 dX11_wickCount_7 ?_
  exact z_ri hQ S hr hlk (zn_int _) rfl dX11_wickCount_10
theorem ci_X11_litCount : zCI yX11_litCount cX11_litCount 1 (some .int) 0 := ⟨k1028, k1, by decide +kernel⟩
theorem cv_X11_litCount : Cond.instanceMethod yX11_litCount ∈ GW ∧ Cond.selects (yX11_litCount).cls yX11_litCount yX11_litCount ∈ GW := ⟨k1026, k1027⟩
set_option maxRecDepth 20000 in
set_option maxHeartbeats 4000000 in
/-- litCount -/
theorem c_litCount (l : Launch) (g : ZG) {B : Nat} {o : Nat} (z : zSt) (hv : zOk (z 0))  : Met l yX11_litCount (.code yX11_litCount cX11_litCount 1 (some .int) :: GW) { frames := 1, cells := 0, slots := 0, locals := 22 } (va_Pc [.ref o] (zPre g B (fun H => zSO g o z H))) (zR (some (.int (nI (zSum (z 0 1 4) (z 0 1 0 4)))))) 0 0 (fun _ => False) := by
  refine zMet (by decide) (Nat.le_of_ble_eq_true rfl) ?_
  intro p e R s m args below meth c Q ls hR hargs hQ S hr hlk hP hZ hS hnm hl
  have hl : lv_has ls 1 [(0, .ref (o))] := hl
  obtain ⟨hRo, hL, hF, hN, hHi, hJ, hQ0, hSc, hLn⟩ := hP
  obtain ⟨hP0, hP1, hP2, hP3, hP4⟩ := id hL
  have hw8 := hv.1.1
  have hk40 := hv.2.1.1
  refine lv_aload_n S.1 S.2.1 dX11_litCount_0 rfl (lv_at hl 0 rfl) ?_
  refine z_get (v := .ref (o + 1)) S hZ.1 hRo 0 (by decide) rfl rfl rfl 0 (by decide) rfl k245 dX11_litCount_1 ?_
  refine z_get (v := .ref (o + 1 + 1)) S hZ.1 hP0 0 (by decide) rfl rfl rfl 0 (by decide) rfl k118 dX11_litCount_4 ?_
  refine z_cV (v := some (.int (nI (zSum (z 0 1 4) (z 0 1 0 4))))) (rest := []) (As := []) S hZ hS (c_X10_countLit l g (z 0 1) hv.1) ci_X10_countLit cv_X10_countLit k1029 ⟨rfl, rfl, by rw [hR]; decide, by rw [hR]; decide⟩ hP1 (hP1.recv hZ.1 0 (by decide) rfl rfl rfl) hl.1 rfl (Nat.le_of_ble_eq_true rfl) dX11_litCount_7 ⟨by rw [hR]; decide, by rw [hR]; decide⟩ rfl ?_
  exact z_ri hQ S hr hlk (zn_int _) rfl dX11_litCount_10
theorem ci_X11_isLit : zCI yX11_isLit cX11_isLit 2 (some .boolean) 1 := ⟨k976, k1, by decide +kernel⟩
theorem cv_X11_isLit : Cond.instanceMethod yX11_isLit ∈ GW ∧ Cond.selects (yX11_isLit).cls yX11_isLit yX11_isLit ∈ GW := ⟨k974, k975⟩
set_option maxRecDepth 20000 in
set_option maxHeartbeats 4000000 in
/-- isLit -/
theorem c_isLit (l : Launch) (g : ZG) {B : Nat} {o : Nat} (z : zSt) (hv : zOk (z 0)) (i : Nat) (hi : i < z 0 1 0 4) : Met l yX11_isLit (.code yX11_isLit cX11_isLit 2 (some .boolean) :: GW) { frames := 1, cells := 0, slots := 0, locals := 21 } (va_Pc [.ref o, .int (nI (i))] (zPre g B (fun H => zSO g o z H))) (zR (some (.int (nI (z 0 1 4 i))))) 0 0 (fun _ => False) := by
  refine zMet (by decide) (Nat.le_of_ble_eq_true rfl) ?_
  intro p e R s m args below meth c Q ls hR hargs hQ S hr hlk hP hZ hS hnm hl
  have hl : lv_has ls 2 [(0, .ref (o)), (1, .int (nI (i)))] := hl
  obtain ⟨hRo, hL, hF, hN, hHi, hJ, hQ0, hSc, hLn⟩ := hP
  obtain ⟨hP0, hP1, hP2, hP3, hP4⟩ := id hL
  have hw8 := hv.1.1
  have hk40 := hv.2.1.1
  refine lv_aload_n S.1 S.2.1 dX11_isLit_0 rfl (lv_at hl 0 rfl) ?_
  refine z_get (v := .ref (o + 1)) S hZ.1 hRo 0 (by decide) rfl rfl rfl 0 (by decide) rfl k245 dX11_isLit_1 ?_
  refine z_get (v := .ref (o + 1 + 1)) S hZ.1 hP0 0 (by decide) rfl rfl rfl 0 (by decide) rfl k118 dX11_isLit_4 ?_
  refine lv_iload_n S.1 S.2.1 dX11_isLit_7 rfl (lv_at hl 1 rfl) ?_
  refine z_cV (v := some (.int (nI (decide (i < z 0 1 0 4)).toNat))) (rest := []) (As := [.int (nI (i))]) S hZ hS (c_X10_has l g (z 0 1) hv.1 i (by omega)) ci_X10_has cv_X10_has k972 ⟨rfl, rfl, by rw [hR]; decide, by rw [hR]; decide⟩ hP1 (hP1.recv hZ.1 0 (by decide) rfl rfl rfl) hl.1 rfl (Nat.le_of_ble_eq_true rfl) dX11_isLit_8 ⟨by rw [hR]; decide, by rw [hR]; decide⟩ rfl ?_
  refine z_cS (v := none) (rest := []) (As := [.int (nI (decide (i < z 0 1 0 4)).toNat)]) S hZ hS (c_requireIndex_t l g (decide (i < z 0 1 0 4)) (decide_eq_true hi) (PH := fun _ => True)) ci_X11_requireIndex cv_X11_requireIndex k500 ⟨rfl, rfl, by rw [hR]; decide, by rw [hR]; decide⟩ trivial hl.1 rfl (Nat.le_of_ble_eq_true rfl) dX11_isLit_11 ⟨by rw [hR]; decide, by rw [hR]; decide⟩ rfl ?_
  refine lv_aload_n S.1 S.2.1 dX11_isLit_14 rfl (lv_at hl 0 rfl) ?_
  refine z_get (v := .ref (o + 1)) S hZ.1 hRo 0 (by decide) rfl rfl rfl 0 (by decide) rfl k245 dX11_isLit_15 ?_
  refine z_get (v := .ref (o + 1 + 1)) S hZ.1 hP0 0 (by decide) rfl rfl rfl 0 (by decide) rfl k118 dX11_isLit_18 ?_
  refine z_get (v := .ref (o + 1 + 1 + 4)) S hZ.1 hP1 0 (by decide) rfl rfl rfl 3 (by decide) rfl k58 dX11_isLit_21 ?_
  refine lv_iload_n S.1 S.2.1 dX11_isLit_24 rfl (lv_at hl 1 rfl) ?_
  refine z_zald S hZ.1 hP1 4 (by decide) rfl rfl (i := i) (by omega) (by decide) dX11_isLit_25 ?_
  exact z_ri hQ S hr hlk (zn_b1 (hv.1.2 i).2.2.2.1) rfl dX11_isLit_26
theorem ci_X11_wax : zCI yX11_wax cX11_wax 2 (some .int) 1 := ⟨k971, k1, by decide +kernel⟩
theorem cv_X11_wax : Cond.instanceMethod yX11_wax ∈ GW ∧ Cond.selects (yX11_wax).cls yX11_wax yX11_wax ∈ GW := ⟨k969, k970⟩
set_option maxRecDepth 20000 in
set_option maxHeartbeats 4000000 in
/-- wax -/
theorem c_wax (l : Launch) (g : ZG) {B : Nat} {o : Nat} (z : zSt) (hv : zOk (z 0)) (i : Nat) (hi : i < z 0 1 0 4) : Met l yX11_wax (.code yX11_wax cX11_wax 2 (some .int) :: GW) { frames := 1, cells := 0, slots := 0, locals := 21 } (va_Pc [.ref o, .int (nI (i))] (zPre g B (fun H => zSO g o z H))) (zR (some (.int (nI (z 0 1 3 i))))) 0 0 (fun _ => False) := by
  refine zMet (by decide) (Nat.le_of_ble_eq_true rfl) ?_
  intro p e R s m args below meth c Q ls hR hargs hQ S hr hlk hP hZ hS hnm hl
  have hl : lv_has ls 2 [(0, .ref (o)), (1, .int (nI (i)))] := hl
  obtain ⟨hRo, hL, hF, hN, hHi, hJ, hQ0, hSc, hLn⟩ := hP
  obtain ⟨hP0, hP1, hP2, hP3, hP4⟩ := id hL
  have hw8 := hv.1.1
  have hk40 := hv.2.1.1
  refine lv_aload_n S.1 S.2.1 dX11_wax_0 rfl (lv_at hl 0 rfl) ?_
  refine z_get (v := .ref (o + 1)) S hZ.1 hRo 0 (by decide) rfl rfl rfl 0 (by decide) rfl k245 dX11_wax_1 ?_
  refine z_get (v := .ref (o + 1 + 1)) S hZ.1 hP0 0 (by decide) rfl rfl rfl 0 (by decide) rfl k118 dX11_wax_4 ?_
  refine lv_iload_n S.1 S.2.1 dX11_wax_7 rfl (lv_at hl 1 rfl) ?_
  refine z_cV (v := some (.int (nI (decide (i < z 0 1 0 4)).toNat))) (rest := []) (As := [.int (nI (i))]) S hZ hS (c_X10_has l g (z 0 1) hv.1 i (by omega)) ci_X10_has cv_X10_has k972 ⟨rfl, rfl, by rw [hR]; decide, by rw [hR]; decide⟩ hP1 (hP1.recv hZ.1 0 (by decide) rfl rfl rfl) hl.1 rfl (Nat.le_of_ble_eq_true rfl) dX11_wax_8 ⟨by rw [hR]; decide, by rw [hR]; decide⟩ rfl ?_
  refine z_cS (v := none) (rest := []) (As := [.int (nI (decide (i < z 0 1 0 4)).toNat)]) S hZ hS (c_requireIndex_t l g (decide (i < z 0 1 0 4)) (decide_eq_true hi) (PH := fun _ => True)) ci_X11_requireIndex cv_X11_requireIndex k500 ⟨rfl, rfl, by rw [hR]; decide, by rw [hR]; decide⟩ trivial hl.1 rfl (Nat.le_of_ble_eq_true rfl) dX11_wax_11 ⟨by rw [hR]; decide, by rw [hR]; decide⟩ rfl ?_
  refine lv_aload_n S.1 S.2.1 dX11_wax_14 rfl (lv_at hl 0 rfl) ?_
  refine z_get (v := .ref (o + 1)) S hZ.1 hRo 0 (by decide) rfl rfl rfl 0 (by decide) rfl k245 dX11_wax_15 ?_
  refine z_get (v := .ref (o + 1 + 1)) S hZ.1 hP0 0 (by decide) rfl rfl rfl 0 (by decide) rfl k118 dX11_wax_18 ?_
  refine z_get (v := .ref (o + 1 + 1 + 3)) S hZ.1 hP1 0 (by decide) rfl rfl rfl 2 (by decide) rfl k55 dX11_wax_21 ?_
  refine lv_iload_n S.1 S.2.1 dX11_wax_24 rfl (lv_at hl 1 rfl) ?_
  refine z_iald S hZ.1 hP1 3 (by decide) rfl rfl (i := i) (by omega) (by decide) dX11_wax_25 ?_
  exact z_ri hQ S hr hlk (zn_int _) rfl dX11_wax_26
theorem ci_X11_wickByWax : zCI yX11_wickByWax cX11_wickByWax 2 (some .int) 1 := ⟨k1011, k1, by decide +kernel⟩
theorem cv_X11_wickByWax : Cond.instanceMethod yX11_wickByWax ∈ GW ∧ Cond.selects (yX11_wickByWax).cls yX11_wickByWax yX11_wickByWax ∈ GW := ⟨k1009, k1010⟩
set_option maxRecDepth 20000 in
set_option maxHeartbeats 4000000 in
/-- wickByWax -/
theorem c_wickByWax (l : Launch) (g : ZG) {B : Nat} {o : Nat} (z : zSt) (hv : zOk (z 0)) (i : Nat) (hi : i < z 0 1 0 4) : Met l yX11_wickByWax (.code yX11_wickByWax cX11_wickByWax 2 (some .int) :: GW) { frames := 3, cells := 0, slots := 0, locals := 67 } (va_Pc [.ref o, .int (nI (i))] (zPre g B (fun H => zSO g o z H))) (zR (some (.int (nI (zAt (z 0 1) i))))) 0 0 (fun _ => False) := by
  refine zMet (by decide) (Nat.le_of_ble_eq_true rfl) ?_
  intro p e R s m args below meth c Q ls hR hargs hQ S hr hlk hP hZ hS hnm hl
  have hl : lv_has ls 2 [(0, .ref (o)), (1, .int (nI (i)))] := hl
  obtain ⟨hRo, hL, hF, hN, hHi, hJ, hQ0, hSc, hLn⟩ := hP
  obtain ⟨hP0, hP1, hP2, hP3, hP4⟩ := id hL
  have hw8 := hv.1.1
  have hk40 := hv.2.1.1
  refine lv_aload_n S.1 S.2.1 dX11_wickByWax_0 rfl (lv_at hl 0 rfl) ?_
  refine z_get (v := .ref (o + 1)) S hZ.1 hRo 0 (by decide) rfl rfl rfl 0 (by decide) rfl k245 dX11_wickByWax_1 ?_
  refine z_get (v := .ref (o + 1 + 1)) S hZ.1 hP0 0 (by decide) rfl rfl rfl 0 (by decide) rfl k118 dX11_wickByWax_4 ?_
  refine lv_iload_n S.1 S.2.1 dX11_wickByWax_7 rfl (lv_at hl 1 rfl) ?_
  refine z_cV (v := some (.int (nI (decide (i < z 0 1 0 4)).toNat))) (rest := []) (As := [.int (nI (i))]) S hZ hS (c_X10_has l g (z 0 1) hv.1 i (by omega)) ci_X10_has cv_X10_has k972 ⟨rfl, rfl, by rw [hR]; decide, by rw [hR]; decide⟩ hP1 (hP1.recv hZ.1 0 (by decide) rfl rfl rfl) hl.1 rfl (Nat.le_of_ble_eq_true rfl) dX11_wickByWax_8 ⟨by rw [hR]; decide, by rw [hR]; decide⟩ rfl ?_
  refine z_cS (v := none) (rest := []) (As := [.int (nI (decide (i < z 0 1 0 4)).toNat)]) S hZ hS (c_requireElement_t l g (decide (i < z 0 1 0 4)) (decide_eq_true hi) (PH := fun _ => True)) ci_X11_requireElement cv_X11_requireElement k806 ⟨rfl, rfl, by rw [hR]; decide, by rw [hR]; decide⟩ trivial hl.1 rfl (Nat.le_of_ble_eq_true rfl) dX11_wickByWax_11 ⟨by rw [hR]; decide, by rw [hR]; decide⟩ rfl ?_
  refine lv_aload_n S.1 S.2.1 dX11_wickByWax_14 rfl (lv_at hl 0 rfl) ?_
  refine z_get (v := .ref (o + 1)) S hZ.1 hRo 0 (by decide) rfl rfl rfl 0 (by decide) rfl k245 dX11_wickByWax_15 ?_
  refine z_get (v := .ref (o + 1 + 1)) S hZ.1 hP0 0 (by decide) rfl rfl rfl 0 (by decide) rfl k118 dX11_wickByWax_18 ?_
  refine lv_iload_n S.1 S.2.1 dX11_wickByWax_21 rfl (lv_at hl 1 rfl) ?_
  refine z_cV (v := some (.int (nI (zAt (z 0 1) i)))) (rest := []) (As := [.int (nI (i))]) S hZ hS (c_X10_atRank l g (z 0 1) hv.1 i (by omega)) ci_X10_atRank cv_X10_atRank k1012 ⟨rfl, rfl, by rw [hR]; decide, by rw [hR]; decide⟩ hP1 (hP1.recv hZ.1 0 (by decide) rfl rfl rfl) hl.1 rfl (Nat.le_of_ble_eq_true rfl) dX11_wickByWax_22 ⟨by rw [hR]; decide, by rw [hR]; decide⟩ rfl ?_
  exact z_ri hQ S hr hlk (zn_int _) rfl dX11_wickByWax_25
theorem ci_X11_nextMask : zCI yX11_nextMask cX11_nextMask 1 (some .int) 0 := ⟨k984, k1, by decide +kernel⟩
theorem cv_X11_nextMask : Cond.instanceMethod yX11_nextMask ∈ GW ∧ Cond.selects (yX11_nextMask).cls yX11_nextMask yX11_nextMask ∈ GW := ⟨k982, k983⟩
set_option maxRecDepth 20000 in
set_option maxHeartbeats 4000000 in
/-- nextMask -/
theorem c_nextMask (l : Launch) (g : ZG) {B : Nat} {o : Nat} (z : zSt) (hv : zOk (z 0)) (hq : zPt (z 0 1) (z 0 1 0 4) < 65536) : Met l yX11_nextMask (.code yX11_nextMask cX11_nextMask 1 (some .int) :: GW) { frames := 1, cells := 0, slots := 0, locals := 23 } (va_Pc [.ref o] (zPre g B (fun H => zSO g o z H))) (zR (some (.int (nI (zUb (z 0 3 0 1) (z 0 4 0 1) (zPt (z 0 1) (z 0 1 0 4))))))) 0 0 (fun _ => False) := by
  refine zMet (by decide) (Nat.le_of_ble_eq_true rfl) ?_
  intro p e R s m args below meth c Q ls hR hargs hQ S hr hlk hP hZ hS hnm hl
  have hl : lv_has ls 1 [(0, .ref (o))] := hl
  obtain ⟨hRo, hL, hF, hN, hHi, hJ, hQ0, hSc, hLn⟩ := hP
  obtain ⟨hP0, hP1, hP2, hP3, hP4⟩ := id hL
  have hw8 := hv.1.1
  have hk40 := hv.2.1.1
  refine lv_aload_n S.1 S.2.1 dX11_nextMask_0 rfl (lv_at hl 0 rfl) ?_
  refine z_get (v := .ref (o + 1)) S hZ.1 hRo 0 (by decide) rfl rfl rfl 0 (by decide) rfl k245 dX11_nextMask_1 ?_
  refine lv_aload_n S.1 S.2.1 dX11_nextMask_4 rfl (lv_at hl 0 rfl) ?_
  refine z_get (v := .ref (o + 1)) S hZ.1 hRo 0 (by decide) rfl rfl rfl 0 (by decide) rfl k245 dX11_nextMask_5 ?_
  refine z_get (v := .ref (o + 1 + 1)) S hZ.1 hP0 0 (by decide) rfl rfl rfl 0 (by decide) rfl k118 dX11_nextMask_8 ?_
  refine z_cV (v := some (.int (nI (zPt (z 0 1) (z 0 1 0 4))))) (rest := [.ref (o + 1)]) (As := []) S hZ hS (c_X10_pattern l g (z 0 1) hv.1) ci_X10_pattern cv_X10_pattern k985 ⟨rfl, rfl, by rw [hR]; decide, by rw [hR]; decide⟩ hP1 (hP1.recv hZ.1 0 (by decide) rfl rfl rfl) hl.1 rfl (Nat.le_of_ble_eq_true rfl) dX11_nextMask_11 ⟨by rw [hR]; decide, by rw [hR]; decide⟩ rfl ?_
  refine z_cV (v := some (.int (nI (zUb (z 0 3 0 1) (z 0 4 0 1) (zPt (z 0 1) (z 0 1 0 4)))))) (rest := []) (As := [.int (nI (zPt (z 0 1) (z 0 1 0 4)))]) S hZ hS (c_X8_unburnt l g (z 0) hv (zPt (z 0 1) (z 0 1 0 4)) hq) ci_X8_unburnt cv_X8_unburnt k986 ⟨rfl, rfl, by rw [hR]; decide, by rw [hR]; decide⟩ hL (hL.1.recv hZ.1 0 (by decide) rfl rfl rfl) hl.1 rfl (Nat.le_of_ble_eq_true rfl) dX11_nextMask_14 ⟨by rw [hR]; decide, by rw [hR]; decide⟩ rfl ?_
  exact z_ri hQ S hr hlk (zn_int _) rfl dX11_nextMask_17
theorem ci_X11_rowsUntilDarkByWax : zCI yX11_rowsUntilDarkByWax cX11_rowsUntilDarkByWax 1 (some .int) 0 := ⟨k1041, k1, by decide +kernel⟩
theorem cv_X11_rowsUntilDarkByWax : Cond.instanceMethod yX11_rowsUntilDarkByWax ∈ GW ∧ Cond.selects (yX11_rowsUntilDarkByWax).cls yX11_rowsUntilDarkByWax yX11_rowsUntilDarkByWax ∈ GW := ⟨k1039, k1040⟩
set_option maxRecDepth 20000 in
set_option maxHeartbeats 4000000 in
/-- rowsUntilDarkByWax -/
theorem c_rowsUntilDarkByWax (l : Launch) (g : ZG) {B : Nat} {o : Nat} (z : zSt) (hv : zOk (z 0))  : Met l yX11_rowsUntilDarkByWax (.code yX11_rowsUntilDarkByWax cX11_rowsUntilDarkByWax 1 (some .int) :: GW) { frames := 2, cells := 0, slots := 0, locals := 43 } (va_Pc [.ref o] (zPre g B (fun H => zSO g o z H))) (zR (some (.int (nI (zMx (z 0 1) (z 0 1 0 4)))))) 0 0 (fun _ => False) := by
  refine zMet (by decide) (Nat.le_of_ble_eq_true rfl) ?_
  intro p e R s m args below meth c Q ls hR hargs hQ S hr hlk hP hZ hS hnm hl
  have hl : lv_has ls 1 [(0, .ref (o))] := hl
  obtain ⟨hRo, hL, hF, hN, hHi, hJ, hQ0, hSc, hLn⟩ := hP
  obtain ⟨hP0, hP1, hP2, hP3, hP4⟩ := id hL
  have hw8 := hv.1.1
  have hk40 := hv.2.1.1
  refine lv_aload_n S.1 S.2.1 dX11_rowsUntilDarkByWax_0 rfl (lv_at hl 0 rfl) ?_
  refine z_get (v := .ref (o + 1)) S hZ.1 hRo 0 (by decide) rfl rfl rfl 0 (by decide) rfl k245 dX11_rowsUntilDarkByWax_1 ?_
  refine z_get (v := .ref (o + 1 + 1)) S hZ.1 hP0 0 (by decide) rfl rfl rfl 0 (by decide) rfl k118 dX11_rowsUntilDarkByWax_4 ?_
  refine z_cV (v := some (.int (nI (zMx (z 0 1) (z 0 1 0 4))))) (rest := []) (As := []) S hZ hS (c_X10_mostLitWax l g (z 0 1) hv.1) ci_X10_mostLitWax cv_X10_mostLitWax k1042 ⟨rfl, rfl, by rw [hR]; decide, by rw [hR]; decide⟩ hP1 (hP1.recv hZ.1 0 (by decide) rfl rfl rfl) hl.1 rfl (Nat.le_of_ble_eq_true rfl) dX11_rowsUntilDarkByWax_7 ⟨by rw [hR]; decide, by rw [hR]; decide⟩ rfl ?_
  exact z_ri hQ S hr hlk (zn_int _) rfl dX11_rowsUntilDarkByWax_10
theorem ci_X11_rowCount : zCI yX11_rowCount cX11_rowCount 1 (some .int) 0 := ⟨k980, k1, by decide +kernel⟩
theorem cv_X11_rowCount : Cond.instanceMethod yX11_rowCount ∈ GW ∧ Cond.selects (yX11_rowCount).cls yX11_rowCount yX11_rowCount ∈ GW := ⟨k978, k979⟩
set_option maxRecDepth 20000 in
set_option maxHeartbeats 4000000 in
/-- rowCount -/
theorem c_rowCount (l : Launch) (g : ZG) {B : Nat} {o : Nat} (z : zSt) (hv : zOk (z 0))  : Met l yX11_rowCount (.code yX11_rowCount cX11_rowCount 1 (some .int) :: GW) { frames := 0, cells := 0, slots := 0, locals := 0 } (va_Pc [.ref o] (zPre g B (fun H => zSO g o z H))) (zR (some (.int (nI (z 0 2 0 3))))) 0 0 (fun _ => False) := by
  refine zMet (by decide) (Nat.le_of_ble_eq_true rfl) ?_
  intro p e R s m args below meth c Q ls hR hargs hQ S hr hlk hP hZ hS hnm hl
  have hl : lv_has ls 1 [(0, .ref (o))] := hl
  obtain ⟨hRo, hL, hF, hN, hHi, hJ, hQ0, hSc, hLn⟩ := hP
  obtain ⟨hP0, hP1, hP2, hP3, hP4⟩ := id hL
  have hw8 := hv.1.1
  have hk40 := hv.2.1.1
  refine lv_aload_n S.1 S.2.1 dX11_rowCount_0 rfl (lv_at hl 0 rfl) ?_
  refine z_get (v := .ref (o + 1)) S hZ.1 hRo 0 (by decide) rfl rfl rfl 0 (by decide) rfl k245 dX11_rowCount_1 ?_
  refine z_get (v := .ref (o + 1 + 6)) S hZ.1 hP0 0 (by decide) rfl rfl rfl 1 (by decide) rfl k121 dX11_rowCount_4 ?_
  refine z_get (v := .int (nI ((z 0 2) 0 3))) S hZ.1 hP2 0 (by decide) rfl rfl rfl 3 (by decide) rfl k89 dX11_rowCount_7 ?_
  exact z_ri hQ S hr hlk (zn_int _) rfl dX11_rowCount_10
theorem ci_X11_rowMask : zCI yX11_rowMask cX11_rowMask 2 (some .int) 1 := ⟨k990, k1, by decide +kernel⟩
theorem cv_X11_rowMask : Cond.instanceMethod yX11_rowMask ∈ GW ∧ Cond.selects (yX11_rowMask).cls yX11_rowMask yX11_rowMask ∈ GW := ⟨k988, k989⟩
set_option maxRecDepth 20000 in
set_option maxHeartbeats 4000000 in
/-- rowMask -/
theorem c_rowMask (l : Launch) (g : ZG) {B : Nat} {o : Nat} (z : zSt) (hv : zOk (z 0)) (i : Nat) (hi : i < z 0 2 0 3) : Met l yX11_rowMask (.code yX11_rowMask cX11_rowMask 2 (some .int) :: GW) { frames := 1, cells := 0, slots := 0, locals := 21 } (va_Pc [.ref o, .int (nI (i))] (zPre g B (fun H => zSO g o z H))) (zR (some (.int (nI (z 0 2 1 i))))) 0 0 (fun _ => False) := by
  refine zMet (by decide) (Nat.le_of_ble_eq_true rfl) ?_
  intro p e R s m args below meth c Q ls hR hargs hQ S hr hlk hP hZ hS hnm hl
  have hl : lv_has ls 2 [(0, .ref (o)), (1, .int (nI (i)))] := hl
  obtain ⟨hRo, hL, hF, hN, hHi, hJ, hQ0, hSc, hLn⟩ := hP
  obtain ⟨hP0, hP1, hP2, hP3, hP4⟩ := id hL
  have hw8 := hv.1.1
  have hk40 := hv.2.1.1
  refine lv_aload_n S.1 S.2.1 dX11_rowMask_0 rfl (lv_at hl 0 rfl) ?_
  refine z_get (v := .ref (o + 1)) S hZ.1 hRo 0 (by decide) rfl rfl rfl 0 (by decide) rfl k245 dX11_rowMask_1 ?_
  refine z_get (v := .ref (o + 1 + 6)) S hZ.1 hP0 0 (by decide) rfl rfl rfl 1 (by decide) rfl k121 dX11_rowMask_4 ?_
  refine lv_iload_n S.1 S.2.1 dX11_rowMask_7 rfl (lv_at hl 1 rfl) ?_
  refine z_cV (v := some (.int (nI (decide (i < z 0 2 0 3)).toNat))) (rest := []) (As := [.int (nI (i))]) S hZ hS (c_X1_has l g (z 0 2) hv.2.1 i (by omega)) ci_X1_has cv_X1_has k991 ⟨rfl, rfl, by rw [hR]; decide, by rw [hR]; decide⟩ hP2 (hP2.recv hZ.1 0 (by decide) rfl rfl rfl) hl.1 rfl (Nat.le_of_ble_eq_true rfl) dX11_rowMask_8 ⟨by rw [hR]; decide, by rw [hR]; decide⟩ rfl ?_
  refine z_cS (v := none) (rest := []) (As := [.int (nI (decide (i < z 0 2 0 3)).toNat)]) S hZ hS (c_requireIndex_t l g (decide (i < z 0 2 0 3)) (decide_eq_true hi) (PH := fun _ => True)) ci_X11_requireIndex cv_X11_requireIndex k500 ⟨rfl, rfl, by rw [hR]; decide, by rw [hR]; decide⟩ trivial hl.1 rfl (Nat.le_of_ble_eq_true rfl) dX11_rowMask_11 ⟨by rw [hR]; decide, by rw [hR]; decide⟩ rfl ?_
  refine lv_aload_n S.1 S.2.1 dX11_rowMask_14 rfl (lv_at hl 0 rfl) ?_
  refine z_get (v := .ref (o + 1)) S hZ.1 hRo 0 (by decide) rfl rfl rfl 0 (by decide) rfl k245 dX11_rowMask_15 ?_
  refine z_get (v := .ref (o + 1 + 6)) S hZ.1 hP0 0 (by decide) rfl rfl rfl 1 (by decide) rfl k121 dX11_rowMask_18 ?_
  refine z_get (v := .ref (o + 1 + 6 + 1)) S hZ.1 hP2 0 (by decide) rfl rfl rfl 0 (by decide) rfl k82 dX11_rowMask_21 ?_
  refine lv_iload_n S.1 S.2.1 dX11_rowMask_24 rfl (lv_at hl 1 rfl) ?_
  refine z_iald S hZ.1 hP2 1 (by decide) rfl rfl (i := i) (by omega) (by decide) dX11_rowMask_25 ?_
  exact z_ri hQ S hr hlk (zn_int _) rfl dX11_rowMask_26
theorem ci_X11_rowColour : zCI yX11_rowColour cX11_rowColour 2 (some .int) 1 := ⟨k995, k1, by decide +kernel⟩
theorem cv_X11_rowColour : Cond.instanceMethod yX11_rowColour ∈ GW ∧ Cond.selects (yX11_rowColour).cls yX11_rowColour yX11_rowColour ∈ GW := ⟨k993, k994⟩
set_option maxRecDepth 20000 in
set_option maxHeartbeats 4000000 in
/-- rowColour -/
theorem c_rowColour (l : Launch) (g : ZG) {B : Nat} {o : Nat} (z : zSt) (hv : zOk (z 0)) (i : Nat) (hi : i < z 0 2 0 3) : Met l yX11_rowColour (.code yX11_rowColour cX11_rowColour 2 (some .int) :: GW) { frames := 1, cells := 0, slots := 0, locals := 21 } (va_Pc [.ref o, .int (nI (i))] (zPre g B (fun H => zSO g o z H))) (zR (some (.int (nI (z 0 2 2 i))))) 0 0 (fun _ => False) := by
  refine zMet (by decide) (Nat.le_of_ble_eq_true rfl) ?_
  intro p e R s m args below meth c Q ls hR hargs hQ S hr hlk hP hZ hS hnm hl
  have hl : lv_has ls 2 [(0, .ref (o)), (1, .int (nI (i)))] := hl
  obtain ⟨hRo, hL, hF, hN, hHi, hJ, hQ0, hSc, hLn⟩ := hP
  obtain ⟨hP0, hP1, hP2, hP3, hP4⟩ := id hL
  have hw8 := hv.1.1
  have hk40 := hv.2.1.1
  refine lv_aload_n S.1 S.2.1 dX11_rowColour_0 rfl (lv_at hl 0 rfl) ?_
  refine z_get (v := .ref (o + 1)) S hZ.1 hRo 0 (by decide) rfl rfl rfl 0 (by decide) rfl k245 dX11_rowColour_1 ?_
  refine z_get (v := .ref (o + 1 + 6)) S hZ.1 hP0 0 (by decide) rfl rfl rfl 1 (by decide) rfl k121 dX11_rowColour_4 ?_
  refine lv_iload_n S.1 S.2.1 dX11_rowColour_7 rfl (lv_at hl 1 rfl) ?_
  refine z_cV (v := some (.int (nI (decide (i < z 0 2 0 3)).toNat))) (rest := []) (As := [.int (nI (i))]) S hZ hS (c_X1_has l g (z 0 2) hv.2.1 i (by omega)) ci_X1_has cv_X1_has k991 ⟨rfl, rfl, by rw [hR]; decide, by rw [hR]; decide⟩ hP2 (hP2.recv hZ.1 0 (by decide) rfl rfl rfl) hl.1 rfl (Nat.le_of_ble_eq_true rfl) dX11_rowColour_8 ⟨by rw [hR]; decide, by rw [hR]; decide⟩ rfl ?_
  refine z_cS (v := none) (rest := []) (As := [.int (nI (decide (i < z 0 2 0 3)).toNat)]) S hZ hS (c_requireIndex_t l g (decide (i < z 0 2 0 3)) (decide_eq_true hi) (PH := fun _ => True)) ci_X11_requireIndex cv_X11_requireIndex k500 ⟨rfl, rfl, by rw [hR]; decide, by rw [hR]; decide⟩ trivial hl.1 rfl (Nat.le_of_ble_eq_true rfl) dX11_rowColour_11 ⟨by rw [hR]; decide, by rw [hR]; decide⟩ rfl ?_
  refine lv_aload_n S.1 S.2.1 dX11_rowColour_14 rfl (lv_at hl 0 rfl) ?_
  refine z_get (v := .ref (o + 1)) S hZ.1 hRo 0 (by decide) rfl rfl rfl 0 (by decide) rfl k245 dX11_rowColour_15 ?_
  refine z_get (v := .ref (o + 1 + 6)) S hZ.1 hP0 0 (by decide) rfl rfl rfl 1 (by decide) rfl k121 dX11_rowColour_18 ?_
  refine z_get (v := .ref (o + 1 + 6 + 2)) S hZ.1 hP2 0 (by decide) rfl rfl rfl 1 (by decide) rfl k85 dX11_rowColour_21 ?_
  refine lv_iload_n S.1 S.2.1 dX11_rowColour_24 rfl (lv_at hl 1 rfl) ?_
  refine z_iald S hZ.1 hP2 2 (by decide) rfl rfl (i := i) (by omega) (by decide) dX11_rowColour_25 ?_
  exact z_ri hQ S hr hlk (zn_int _) rfl dX11_rowColour_26
theorem ci_X11_isRaised : zCI yX11_isRaised cX11_isRaised 3 (some .boolean) 2 := ⟨k1084, k1, by decide +kernel⟩
theorem cv_X11_isRaised : Cond.instanceMethod yX11_isRaised ∈ GW ∧ Cond.selects (yX11_isRaised).cls yX11_isRaised yX11_isRaised ∈ GW := ⟨k1082, k1083⟩
set_option maxRecDepth 20000 in
set_option maxHeartbeats 4000000 in
/-- isRaised -/
theorem c_isRaised (l : Launch) (g : ZG) {B : Nat} {o : Nat} (z : zSt) (hv : zOk (z 0)) (i j : Nat) (hi : i < z 0 2 0 3) (hj : j < 16) : Met l yX11_isRaised (.code yX11_isRaised cX11_isRaised 3 (some .boolean) :: GW) { frames := 2, cells := 0, slots := 0, locals := 43 } (va_Pc [.ref o, .int (nI (i)), .int (nI (j))] (zPre g B (fun H => zSO g o z H))) (zR (some (.int (nI (zBt (z 0 2 1 i) j).toNat)))) 0 0 (fun _ => False) := by
  refine zMet (by decide) (Nat.le_of_ble_eq_true rfl) ?_
  intro p e R s m args below meth c Q ls hR hargs hQ S hr hlk hP hZ hS hnm hl
  have hl : lv_has ls 3 [(0, .ref (o)), (1, .int (nI (i))), (2, .int (nI (j)))] := hl
  obtain ⟨hRo, hL, hF, hN, hHi, hJ, hQ0, hSc, hLn⟩ := hP
  obtain ⟨hP0, hP1, hP2, hP3, hP4⟩ := id hL
  have hw8 := hv.1.1
  have hk40 := hv.2.1.1
  refine lv_aload_n S.1 S.2.1 dX11_isRaised_0 rfl (lv_at hl 0 rfl) ?_
  refine z_get (v := .ref (o + 1)) S hZ.1 hRo 0 (by decide) rfl rfl rfl 0 (by decide) rfl k245 dX11_isRaised_1 ?_
  refine z_get (v := .ref (o + 1 + 6)) S hZ.1 hP0 0 (by decide) rfl rfl rfl 1 (by decide) rfl k121 dX11_isRaised_4 ?_
  refine lv_iload_n S.1 S.2.1 dX11_isRaised_7 rfl (lv_at hl 1 rfl) ?_
  refine lv_iload_n S.1 S.2.1 dX11_isRaised_8 rfl (lv_at hl 2 rfl) ?_
  refine z_cV (v := some (.int (nI (decide (i < z 0 2 0 3 ∧ j < 16)).toNat))) (rest := []) (As := [.int (nI (i)), .int (nI (j))]) S hZ hS (c_X1_hasCell l g (z 0 2) hv.2.1 i j (by omega) (by omega)) ci_X1_hasCell cv_X1_hasCell k1000 ⟨rfl, rfl, by rw [hR]; decide, by rw [hR]; decide⟩ hP2 (hP2.recv hZ.1 0 (by decide) rfl rfl rfl) hl.1 rfl (Nat.le_of_ble_eq_true rfl) dX11_isRaised_9 ⟨by rw [hR]; decide, by rw [hR]; decide⟩ rfl ?_
  refine z_cS (v := none) (rest := []) (As := [.int (nI (decide (i < z 0 2 0 3 ∧ j < 16)).toNat)]) S hZ hS (c_requireIndex_t l g (decide (i < z 0 2 0 3 ∧ j < 16)) (decide_eq_true ⟨hi, hj⟩) (PH := fun _ => True)) ci_X11_requireIndex cv_X11_requireIndex k500 ⟨rfl, rfl, by rw [hR]; decide, by rw [hR]; decide⟩ trivial hl.1 rfl (Nat.le_of_ble_eq_true rfl) dX11_isRaised_12 ⟨by rw [hR]; decide, by rw [hR]; decide⟩ rfl ?_
  refine lv_aload_n S.1 S.2.1 dX11_isRaised_15 rfl (lv_at hl 0 rfl) ?_
  refine z_get (v := .ref (o + 1)) S hZ.1 hRo 0 (by decide) rfl rfl rfl 0 (by decide) rfl k245 dX11_isRaised_16 ?_
  refine z_get (v := .ref (o + 1 + 6)) S hZ.1 hP0 0 (by decide) rfl rfl rfl 1 (by decide) rfl k121 dX11_isRaised_19 ?_
  refine lv_iload_n S.1 S.2.1 dX11_isRaised_22 rfl (lv_at hl 1 rfl) ?_
  refine lv_iload_n S.1 S.2.1 dX11_isRaised_23 rfl (lv_at hl 2 rfl) ?_
  refine z_cV (v := some (.int (nI (zBt (z 0 2 1 i) j).toNat))) (rest := []) (As := [.int (nI (i)), .int (nI (j))]) S hZ hS (c_X1_raisedAt l g (z 0 2) hv.2.1 i j hi hj) ci_X1_raisedAt cv_X1_raisedAt k1085 ⟨rfl, rfl, by rw [hR]; decide, by rw [hR]; decide⟩ hP2 (hP2.recv hZ.1 0 (by decide) rfl rfl rfl) hl.1 rfl (Nat.le_of_ble_eq_true rfl) dX11_isRaised_24 ⟨by rw [hR]; decide, by rw [hR]; decide⟩ rfl ?_
  exact z_ri hQ S hr hlk (zn_bool _) rfl dX11_isRaised_27
theorem ci_X11_isKnotted : zCI yX11_isKnotted cX11_isKnotted 3 (some .boolean) 2 := ⟨k999, k1, by decide +kernel⟩
theorem cv_X11_isKnotted : Cond.instanceMethod yX11_isKnotted ∈ GW ∧ Cond.selects (yX11_isKnotted).cls yX11_isKnotted yX11_isKnotted ∈ GW := ⟨k997, k998⟩
set_option maxRecDepth 20000 in
set_option maxHeartbeats 4000000 in
/-- isKnotted -/
theorem c_isKnotted (l : Launch) (g : ZG) {B : Nat} {o : Nat} (z : zSt) (hv : zOk (z 0)) (i j : Nat) (hi : i < z 0 2 0 3) (hj : j < 16) : Met l yX11_isKnotted (.code yX11_isKnotted cX11_isKnotted 3 (some .boolean) :: GW) { frames := 2, cells := 0, slots := 0, locals := 43 } (va_Pc [.ref o, .int (nI (i)), .int (nI (j))] (zPre g B (fun H => zSO g o z H))) (zR (some (.int (nI (zBt (z 0 2 3 i) j).toNat)))) 0 0 (fun _ => False) := by
  refine zMet (by decide) (Nat.le_of_ble_eq_true rfl) ?_
  intro p e R s m args below meth c Q ls hR hargs hQ S hr hlk hP hZ hS hnm hl
  have hl : lv_has ls 3 [(0, .ref (o)), (1, .int (nI (i))), (2, .int (nI (j)))] := hl
  obtain ⟨hRo, hL, hF, hN, hHi, hJ, hQ0, hSc, hLn⟩ := hP
  obtain ⟨hP0, hP1, hP2, hP3, hP4⟩ := id hL
  have hw8 := hv.1.1
  have hk40 := hv.2.1.1
  refine lv_aload_n S.1 S.2.1 dX11_isKnotted_0 rfl (lv_at hl 0 rfl) ?_
  refine z_get (v := .ref (o + 1)) S hZ.1 hRo 0 (by decide) rfl rfl rfl 0 (by decide) rfl k245 dX11_isKnotted_1 ?_
  refine z_get (v := .ref (o + 1 + 6)) S hZ.1 hP0 0 (by decide) rfl rfl rfl 1 (by decide) rfl k121 dX11_isKnotted_4 ?_
  refine lv_iload_n S.1 S.2.1 dX11_isKnotted_7 rfl (lv_at hl 1 rfl) ?_
  refine lv_iload_n S.1 S.2.1 dX11_isKnotted_8 rfl (lv_at hl 2 rfl) ?_
  refine z_cV (v := some (.int (nI (decide (i < z 0 2 0 3 ∧ j < 16)).toNat))) (rest := []) (As := [.int (nI (i)), .int (nI (j))]) S hZ hS (c_X1_hasCell l g (z 0 2) hv.2.1 i j (by omega) (by omega)) ci_X1_hasCell cv_X1_hasCell k1000 ⟨rfl, rfl, by rw [hR]; decide, by rw [hR]; decide⟩ hP2 (hP2.recv hZ.1 0 (by decide) rfl rfl rfl) hl.1 rfl (Nat.le_of_ble_eq_true rfl) dX11_isKnotted_9 ⟨by rw [hR]; decide, by rw [hR]; decide⟩ rfl ?_
  refine z_cS (v := none) (rest := []) (As := [.int (nI (decide (i < z 0 2 0 3 ∧ j < 16)).toNat)]) S hZ hS (c_requireIndex_t l g (decide (i < z 0 2 0 3 ∧ j < 16)) (decide_eq_true ⟨hi, hj⟩) (PH := fun _ => True)) ci_X11_requireIndex cv_X11_requireIndex k500 ⟨rfl, rfl, by rw [hR]; decide, by rw [hR]; decide⟩ trivial hl.1 rfl (Nat.le_of_ble_eq_true rfl) dX11_isKnotted_12 ⟨by rw [hR]; decide, by rw [hR]; decide⟩ rfl ?_
  refine lv_aload_n S.1 S.2.1 dX11_isKnotted_15 rfl (lv_at hl 0 rfl) ?_
  refine z_get (v := .ref (o + 1)) S hZ.1 hRo 0 (by decide) rfl rfl rfl 0 (by decide) rfl k245 dX11_isKnotted_16 ?_
  refine z_get (v := .ref (o + 1 + 6)) S hZ.1 hP0 0 (by decide) rfl rfl rfl 1 (by decide) rfl k121 dX11_isKnotted_19 ?_
  refine lv_iload_n S.1 S.2.1 dX11_isKnotted_22 rfl (lv_at hl 1 rfl) ?_
  refine lv_iload_n S.1 S.2.1 dX11_isKnotted_23 rfl (lv_at hl 2 rfl) ?_
  refine z_cV (v := some (.int (nI (zBt (z 0 2 3 i) j).toNat))) (rest := []) (As := [.int (nI (i)), .int (nI (j))]) S hZ hS (c_X1_knottedAt l g (z 0 2) hv.2.1 i j hi hj) ci_X1_knottedAt cv_X1_knottedAt k1001 ⟨rfl, rfl, by rw [hR]; decide, by rw [hR]; decide⟩ hP2 (hP2.recv hZ.1 0 (by decide) rfl rfl rfl) hl.1 rfl (Nat.le_of_ble_eq_true rfl) dX11_isKnotted_24 ⟨by rw [hR]; decide, by rw [hR]; decide⟩ rfl ?_
  exact z_ri hQ S hr hlk (zn_bool _) rfl dX11_isKnotted_27
theorem ci_X11_knotCount : zCI yX11_knotCount cX11_knotCount 1 (some .int) 0 := ⟨k1092, k1, by decide +kernel⟩
theorem cv_X11_knotCount : Cond.instanceMethod yX11_knotCount ∈ GW ∧ Cond.selects (yX11_knotCount).cls yX11_knotCount yX11_knotCount ∈ GW := ⟨k1090, k1091⟩
set_option maxRecDepth 20000 in
set_option maxHeartbeats 4000000 in
/-- knotCount -/
theorem c_knotCount (l : Launch) (g : ZG) {B : Nat} {o : Nat} (z : zSt) (hv : zOk (z 0))  : Met l yX11_knotCount (.code yX11_knotCount cX11_knotCount 1 (some .int) :: GW) { frames := 2, cells := 0, slots := 0, locals := 42 } (va_Pc [.ref o] (zPre g B (fun H => zSO g o z H))) (zR (some (.int (nI (zKc (z 0 2)))))) 0 0 (fun _ => False) := by
  refine zMet (by decide) (Nat.le_of_ble_eq_true rfl) ?_
  intro p e R s m args below meth c Q ls hR hargs hQ S hr hlk hP hZ hS hnm hl
  have hl : lv_has ls 1 [(0, .ref (o))] := hl
  obtain ⟨hRo, hL, hF, hN, hHi, hJ, hQ0, hSc, hLn⟩ := hP
  obtain ⟨hP0, hP1, hP2, hP3, hP4⟩ := id hL
  have hw8 := hv.1.1
  have hk40 := hv.2.1.1
  refine lv_aload_n S.1 S.2.1 dX11_knotCount_0 rfl (lv_at hl 0 rfl) ?_
  refine z_get (v := .ref (o + 1)) S hZ.1 hRo 0 (by decide) rfl rfl rfl 0 (by decide) rfl k245 dX11_knotCount_1 ?_
  refine z_get (v := .ref (o + 1 + 6)) S hZ.1 hP0 0 (by decide) rfl rfl rfl 1 (by decide) rfl k121 dX11_knotCount_4 ?_
  refine z_cV (v := some (.int (nI (zKc (z 0 2))))) (rest := []) (As := []) S hZ hS (c_X1_countKnots l g (z 0 2) hv.2.1) ci_X1_countKnots cv_X1_countKnots k1093 ⟨rfl, rfl, by rw [hR]; decide, by rw [hR]; decide⟩ hP2 (hP2.recv hZ.1 0 (by decide) rfl rfl rfl) hl.1 rfl (Nat.le_of_ble_eq_true rfl) dX11_knotCount_7 ⟨by rw [hR]; decide, by rw [hR]; decide⟩ rfl ?_
  exact z_ri hQ S hr hlk (zn_int _) rfl dX11_knotCount_10
theorem ci_X11_distinctRows : zCI yX11_distinctRows cX11_distinctRows 1 (some .int) 0 := ⟨k1097, k1, by decide +kernel⟩
theorem cv_X11_distinctRows : Cond.instanceMethod yX11_distinctRows ∈ GW ∧ Cond.selects (yX11_distinctRows).cls yX11_distinctRows yX11_distinctRows ∈ GW := ⟨k1095, k1096⟩
set_option maxRecDepth 20000 in
set_option maxHeartbeats 4000000 in
/-- distinctRows -/
theorem c_distinctRows (l : Launch) (g : ZG) {B : Nat} {o : Nat} (z : zSt) (hv : zOk (z 0))  : Met l yX11_distinctRows (.code yX11_distinctRows cX11_distinctRows 1 (some .int) :: GW) { frames := 3, cells := 0, slots := 0, locals := 66 } (va_Pc [.ref o] (zPre g B (fun H => zSO g o z H))) (zR (some (.int (nI (zCd (z 0 2)))))) 0 0 (fun _ => False) := by
  refine zMet (by decide) (Nat.le_of_ble_eq_true rfl) ?_
  intro p e R s m args below meth c Q ls hR hargs hQ S hr hlk hP hZ hS hnm hl
  have hl : lv_has ls 1 [(0, .ref (o))] := hl
  obtain ⟨hRo, hL, hF, hN, hHi, hJ, hQ0, hSc, hLn⟩ := hP
  obtain ⟨hP0, hP1, hP2, hP3, hP4⟩ := id hL
  have hw8 := hv.1.1
  have hk40 := hv.2.1.1
  refine lv_aload_n S.1 S.2.1 dX11_distinctRows_0 rfl (lv_at hl 0 rfl) ?_
  refine z_get (v := .ref (o + 1)) S hZ.1 hRo 0 (by decide) rfl rfl rfl 0 (by decide) rfl k245 dX11_distinctRows_1 ?_
  refine z_get (v := .ref (o + 1 + 6)) S hZ.1 hP0 0 (by decide) rfl rfl rfl 1 (by decide) rfl k121 dX11_distinctRows_4 ?_
  refine z_cV (v := some (.int (nI (zCd (z 0 2))))) (rest := []) (As := []) S hZ hS (c_X1_countDifferent l g (z 0 2) hv.2.1) ci_X1_countDifferent cv_X1_countDifferent k1098 ⟨rfl, rfl, by rw [hR]; decide, by rw [hR]; decide⟩ hP2 (hP2.recv hZ.1 0 (by decide) rfl rfl rfl) hl.1 rfl (Nat.le_of_ble_eq_true rfl) dX11_distinctRows_7 ⟨by rw [hR]; decide, by rw [hR]; decide⟩ rfl ?_
  exact z_ri hQ S hr hlk (zn_int _) rfl dX11_distinctRows_10
theorem ci_X11_isSymmetric : zCI yX11_isSymmetric cX11_isSymmetric 1 (some .boolean) 0 := ⟨k1113, k1, by decide +kernel⟩
theorem cv_X11_isSymmetric : Cond.instanceMethod yX11_isSymmetric ∈ GW ∧ Cond.selects (yX11_isSymmetric).cls yX11_isSymmetric yX11_isSymmetric ∈ GW := ⟨k1111, k1112⟩
set_option maxRecDepth 20000 in
set_option maxHeartbeats 4000000 in
/-- isSymmetric -/
theorem c_isSymmetric (l : Launch) (g : ZG) {B : Nat} {o : Nat} (z : zSt) (hv : zOk (z 0))  : Met l yX11_isSymmetric (.code yX11_isSymmetric cX11_isSymmetric 1 (some .boolean) :: GW) { frames := 2, cells := 0, slots := 0, locals := 43 } (va_Pc [.ref o] (zPre g B (fun H => zSO g o z H))) (zR (some (.int (nI (zSy (z 0 2)).toNat)))) 0 0 (fun _ => False) := by
  refine zMet (by decide) (Nat.le_of_ble_eq_true rfl) ?_
  intro p e R s m args below meth c Q ls hR hargs hQ S hr hlk hP hZ hS hnm hl
  have hl : lv_has ls 1 [(0, .ref (o))] := hl
  obtain ⟨hRo, hL, hF, hN, hHi, hJ, hQ0, hSc, hLn⟩ := hP
  obtain ⟨hP0, hP1, hP2, hP3, hP4⟩ := id hL
  have hw8 := hv.1.1
  have hk40 := hv.2.1.1
  refine lv_aload_n S.1 S.2.1 dX11_isSymmetric_0 rfl (lv_at hl 0 rfl) ?_
  refine z_get (v := .ref (o + 1)) S hZ.1 hRo 0 (by decide) rfl rfl rfl 0 (by decide) rfl k245 dX11_isSymmetric_1 ?_
  refine z_get (v := .ref (o + 1 + 6)) S hZ.1 hP0 0 (by decide) rfl rfl rfl 1 (by decide) rfl k121 dX11_isSymmetric_4 ?_
  refine z_cV (v := some (.int (nI (zSy (z 0 2)).toNat))) (rest := []) (As := []) S hZ hS (c_X1_sameReversed l g (z 0 2) hv.2.1) ci_X1_sameReversed cv_X1_sameReversed k1114 ⟨rfl, rfl, by rw [hR]; decide, by rw [hR]; decide⟩ hP2 (hP2.recv hZ.1 0 (by decide) rfl rfl rfl) hl.1 rfl (Nat.le_of_ble_eq_true rfl) dX11_isSymmetric_7 ⟨by rw [hR]; decide, by rw [hR]; decide⟩ rfl ?_
  exact z_ri hQ S hr hlk (zn_bool _) rfl dX11_isSymmetric_10
theorem ci_X11_longestFloat : zCI yX11_longestFloat cX11_longestFloat 2 (some .int) 1 := ⟨k1204, k1, by decide +kernel⟩
theorem cv_X11_longestFloat : Cond.instanceMethod yX11_longestFloat ∈ GW ∧ Cond.selects (yX11_longestFloat).cls yX11_longestFloat yX11_longestFloat ∈ GW := ⟨k1202, k1203⟩
set_option maxRecDepth 20000 in
set_option maxHeartbeats 4000000 in
/-- longestFloat -/
theorem c_longestFloat (l : Launch) (g : ZG) {B : Nat} {o : Nat} (z : zSt) (hv : zOk (z 0)) (i : Nat) (hi : i < 16) : Met l yX11_longestFloat (.code yX11_longestFloat cX11_longestFloat 2 (some .int) :: GW) { frames := 2, cells := 0, slots := 0, locals := 64 } (va_Pc [.ref o, .int (nI (i))] (zPre g B (fun H => zSO g o z H))) (zR (some (.int (nI ((zLr (z 0 2) i (z 0 2 0 3)).1))))) 0 0 (fun _ => False) := by
  refine zMet (by decide) (Nat.le_of_ble_eq_true rfl) ?_
  intro p e R s m args below meth c Q ls hR hargs hQ S hr hlk hP hZ hS hnm hl
  have hl : lv_has ls 2 [(0, .ref (o)), (1, .int (nI (i)))] := hl
  obtain ⟨hRo, hL, hF, hN, hHi, hJ, hQ0, hSc, hLn⟩ := hP
  obtain ⟨hP0, hP1, hP2, hP3, hP4⟩ := id hL
  have hw8 := hv.1.1
  have hk40 := hv.2.1.1
  refine lv_iload_n S.1 S.2.1 dX11_longestFloat_0 rfl (lv_at hl 1 rfl) ?_
  refine z_cS (v := some (.int (nI (decide (i < 16)).toNat))) (rest := []) (As := [.int (nI (i))]) S hZ hS (c_X1_isColumn l g i (by omega) (PH := fun _ => True)) ci_X1_isColumn cv_X1_isColumn k1205 ⟨rfl, rfl, by rw [hR]; decide, by rw [hR]; decide⟩ trivial hl.1 rfl (Nat.le_of_ble_eq_true rfl) dX11_longestFloat_1 ⟨by rw [hR]; decide, by rw [hR]; decide⟩ rfl ?_
  refine z_cS (v := none) (rest := []) (As := [.int (nI (decide (i < 16)).toNat)]) S hZ hS (c_requireIndex_t l g (decide (i < 16)) (decide_eq_true hi) (PH := fun _ => True)) ci_X11_requireIndex cv_X11_requireIndex k500 ⟨rfl, rfl, by rw [hR]; decide, by rw [hR]; decide⟩ trivial hl.1 rfl (Nat.le_of_ble_eq_true rfl) dX11_longestFloat_4 ⟨by rw [hR]; decide, by rw [hR]; decide⟩ rfl ?_
  refine lv_aload_n S.1 S.2.1 dX11_longestFloat_7 rfl (lv_at hl 0 rfl) ?_
  refine z_get (v := .ref (o + 1)) S hZ.1 hRo 0 (by decide) rfl rfl rfl 0 (by decide) rfl k245 dX11_longestFloat_8 ?_
  refine z_get (v := .ref (o + 1 + 6)) S hZ.1 hP0 0 (by decide) rfl rfl rfl 1 (by decide) rfl k121 dX11_longestFloat_11 ?_
  refine lv_iload_n S.1 S.2.1 dX11_longestFloat_14 rfl (lv_at hl 1 rfl) ?_
  refine z_cV (v := some (.int (nI ((zLr (z 0 2) i (z 0 2 0 3)).1)))) (rest := []) (As := [.int (nI (i))]) S hZ hS (c_X1_longestRaisedRun l g (z 0 2) hv.2.1 i hi) ci_X1_longestRaisedRun cv_X1_longestRaisedRun k1206 ⟨rfl, rfl, by rw [hR]; decide, by rw [hR]; decide⟩ hP2 (hP2.recv hZ.1 0 (by decide) rfl rfl rfl) hl.1 rfl (Nat.le_of_ble_eq_true rfl) dX11_longestFloat_15 ⟨by rw [hR]; decide, by rw [hR]; decide⟩ rfl ?_
  exact z_ri hQ S hr hlk (zn_int _) rfl dX11_longestFloat_18
theorem ci_X11_wovenTotal : zCI yX11_wovenTotal cX11_wovenTotal 1 (some .int) 0 := ⟨k943, k1, by decide +kernel⟩
theorem cv_X11_wovenTotal : Cond.instanceMethod yX11_wovenTotal ∈ GW ∧ Cond.selects (yX11_wovenTotal).cls yX11_wovenTotal yX11_wovenTotal ∈ GW := ⟨k941, k942⟩
set_option maxRecDepth 20000 in
set_option maxHeartbeats 4000000 in
/-- wovenTotal -/
theorem c_wovenTotal (l : Launch) (g : ZG) {B : Nat} {o : Nat} (z : zSt) (hv : zOk (z 0))  : Met l yX11_wovenTotal (.code yX11_wovenTotal cX11_wovenTotal 1 (some .int) :: GW) { frames := 0, cells := 0, slots := 0, locals := 0 } (va_Pc [.ref o] (zPre g B (fun H => zSO g o z H))) (zR (some (.int (nI (z 0 0 0 4))))) 0 0 (fun _ => False) := by
  refine zMet (by decide) (Nat.le_of_ble_eq_true rfl) ?_
  intro p e R s m args below meth c Q ls hR hargs hQ S hr hlk hP hZ hS hnm hl
  have hl : lv_has ls 1 [(0, .ref (o))] := hl
  obtain ⟨hRo, hL, hF, hN, hHi, hJ, hQ0, hSc, hLn⟩ := hP
  obtain ⟨hP0, hP1, hP2, hP3, hP4⟩ := id hL
  have hw8 := hv.1.1
  have hk40 := hv.2.1.1
  refine lv_aload_n S.1 S.2.1 dX11_wovenTotal_0 rfl (lv_at hl 0 rfl) ?_
  refine z_get (v := .ref (o + 1)) S hZ.1 hRo 0 (by decide) rfl rfl rfl 0 (by decide) rfl k245 dX11_wovenTotal_1 ?_
  refine z_get (v := .int (nI ((z 0 0) 0 4))) S hZ.1 hP0 0 (by decide) rfl rfl rfl 4 (by decide) rfl k125 dX11_wovenTotal_4 ?_
  exact z_ri hQ S hr hlk (zn_int _) rfl dX11_wovenTotal_7
theorem ci_X11_waxUsed : zCI yX11_waxUsed cX11_waxUsed 1 (some .int) 0 := ⟨k948, k1, by decide +kernel⟩
theorem cv_X11_waxUsed : Cond.instanceMethod yX11_waxUsed ∈ GW ∧ Cond.selects (yX11_waxUsed).cls yX11_waxUsed yX11_waxUsed ∈ GW := ⟨k946, k947⟩
set_option maxRecDepth 20000 in
set_option maxHeartbeats 4000000 in
/-- waxUsed -/
theorem c_waxUsed (l : Launch) (g : ZG) {B : Nat} {o : Nat} (z : zSt) (hv : zOk (z 0))  : Met l yX11_waxUsed (.code yX11_waxUsed cX11_waxUsed 1 (some .int) :: GW) { frames := 0, cells := 0, slots := 0, locals := 0 } (va_Pc [.ref o] (zPre g B (fun H => zSO g o z H))) (zR (some (.int (nI (z 0 0 0 5))))) 0 0 (fun _ => False) := by
  refine zMet (by decide) (Nat.le_of_ble_eq_true rfl) ?_
  intro p e R s m args below meth c Q ls hR hargs hQ S hr hlk hP hZ hS hnm hl
  have hl : lv_has ls 1 [(0, .ref (o))] := hl
  obtain ⟨hRo, hL, hF, hN, hHi, hJ, hQ0, hSc, hLn⟩ := hP
  obtain ⟨hP0, hP1, hP2, hP3, hP4⟩ := id hL
  have hw8 := hv.1.1
  have hk40 := hv.2.1.1
  refine lv_aload_n S.1 S.2.1 dX11_waxUsed_0 rfl (lv_at hl 0 rfl) ?_
  refine z_get (v := .ref (o + 1)) S hZ.1 hRo 0 (by decide) rfl rfl rfl 0 (by decide) rfl k245 dX11_waxUsed_1 ?_
  refine z_get (v := .int (nI ((z 0 0) 0 5))) S hZ.1 hP0 0 (by decide) rfl rfl rfl 5 (by decide) rfl k127 dX11_waxUsed_4 ?_
  exact z_ri hQ S hr hlk (zn_int _) rfl dX11_waxUsed_7
theorem ci_X11_undoCount : zCI yX11_undoCount cX11_undoCount 1 (some .int) 0 := ⟨k291, k1, by decide +kernel⟩
theorem cv_X11_undoCount : Cond.instanceMethod yX11_undoCount ∈ GW ∧ Cond.selects (yX11_undoCount).cls yX11_undoCount yX11_undoCount ∈ GW := ⟨k289, k290⟩
set_option maxRecDepth 20000 in
set_option maxHeartbeats 4000000 in
/-- undoCount -/
theorem c_undoCount (l : Launch) (g : ZG) {B : Nat} {o : Nat} (z : zSt) (hv : zOk (z 0))  : Met l yX11_undoCount (.code yX11_undoCount cX11_undoCount 1 (some .int) :: GW) { frames := 0, cells := 0, slots := 0, locals := 0 } (va_Pc [.ref o] (zPre g B (fun H => zSO g o z H))) (zR (some (.int (nI (z 12 0 0 2))))) 0 0 (fun _ => False) := by
  refine zMet (by decide) (Nat.le_of_ble_eq_true rfl) ?_
  intro p e R s m args below meth c Q ls hR hargs hQ S hr hlk hP hZ hS hnm hl
  have hl : lv_has ls 1 [(0, .ref (o))] := hl
  obtain ⟨hRo, hL, hF, hN, hHi, hJ, hQ0, hSc, hLn⟩ := hP
  obtain ⟨hP0, hP1, hP2, hP3, hP4⟩ := id hL
  have hw8 := hv.1.1
  have hk40 := hv.2.1.1
  refine lv_aload_n S.1 S.2.1 dX11_undoCount_0 rfl (lv_at hl 0 rfl) ?_
  refine z_get (v := .ref (o + 37)) S hZ.1 hRo 0 (by decide) rfl rfl rfl 4 (by decide) rfl k249 dX11_undoCount_1 ?_
  refine z_get (v := .int (nI ((z 12 0) 0 2))) S hZ.1 hHi.1 0 (by decide) rfl rfl rfl 2 (by decide) rfl k153 dX11_undoCount_4 ?_
  exact z_ri hQ S hr hlk (zn_int _) rfl dX11_undoCount_7
