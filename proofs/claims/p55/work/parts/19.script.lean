/-! TEXTS: String.length(), charAt(i) of the texts that the system reads -/
theorem zS.str {g : ZG} {B : Nat} {s : State} {H : Heap} (h : zS g B s H) : zStr g (zA B) s H := h.2.1.2.2.2.2.2.2.1
theorem zS.cs {g : ZG} {B : Nat} {s : State} {H : Heap} (h : zS g B s H) : va_Z "java/lang/String" "COMPACT_STRINGS" "Z" (.int (nI 1)) (zA B) s H := h.2.1.2.2.2.2.2.2.2.2.2.2.2.2.2.2.1
theorem zS.fm {g : ZG} {B : Nat} {s : State} {H : Heap} (h : zS g B s H) : va_Zq "jdk/internal/util/Preconditions" "SIOOBE_FORMATTER" "Ljava/util/function/BiFunction;" (zA B) s H := h.2.1.2.2.2.2.2.2.2.2.2.2.2.2.2.2.2
theorem zS.kinds {g : ZG} {B : Nat} {s : State} {H : Heap} (h : zS g B s H) : va_Z "CandleLoom" "KINDS" "[LCandleLoom$Kind;" (.ref (g.2 4 0)) (zA B) s H := h.2.1.2.2.2.2.2.2.2.1
theorem zS.kindsT {g : ZG} {B : Nat} {s : State} {H : Heap} (h : zS g B s H) : va_T (.object "CandleLoom$Kind") (g.2 4 0) 10 (fun j => .ref (g.2 1 j)) (zA B) s H := h.2.1.2.2.2.2.2.2.2.2.1
theorem zS.word {g : ZG} {B : Nat} {s : State} {H : Heap} (h : zS g B s H) {i : Nat} (hi : i < 10) : va_OF "CandleLoom$Kind" "word" "Ljava/lang/String;" (.ref (g.2 2 i)) (g.2 1 i) (zA B) s H := h.2.1.2.2.2.2.1 i hi
theorem zS.form {g : ZG} {B : Nat} {s : State} {H : Heap} (h : zS g B s H) {i : Nat} (hi : i < 10) : va_OF "CandleLoom$Kind" "form" "Ljava/lang/String;" (.ref (g.2 2 (zFm i))) (g.2 1 i) (zA B) s H := h.2.1.2.2.2.2.2.1 i hi
theorem zS.cod {g : ZG} {B : Nat} {s : State} {H : Heap} (h : zS g B s H) {t : Nat} (ht : t < 49) : va_OF "java/lang/String" "coder" "B" (.int (nI 0)) (g.2 2 t) (zA B) s H := (h.str t ht).2.1
theorem zCh_all : ∀ t ∈ zTx, ∀ x ∈ t, x < 128 := by decide +kernel
theorem zLen_all : ∀ t ∈ zTx, t.length ≤ 60 := by decide +kernel
theorem zCh_lt (t j : Nat) : zCh t j < 128 := by
  unfold zCh
  rcases Nat.lt_or_ge t zTx.length with h | h
  · rw [List.getD_eq_getElem?_getD (l := zTx), List.getElem?_eq_getElem h, Option.getD_some]
    rcases Nat.lt_or_ge j (zTx[t]).length with h2 | h2
    · rw [List.getD_eq_getElem?_getD, List.getElem?_eq_getElem h2, Option.getD_some]
      exact zCh_all _ (List.getElem_mem h) _ (List.getElem_mem h2)
    · rw [List.getD_eq_getElem?_getD, List.getElem?_eq_none h2]; decide
  · rw [List.getD_eq_getElem?_getD (l := zTx), List.getElem?_eq_none h]; show ([] : List Nat).getD j 0 < 128; simp
theorem zLen_le (t : Nat) : zLen t ≤ 60 := by
  unfold zLen
  rcases Nat.lt_or_ge t zTx.length with h | h
  · rw [List.getD_eq_getElem?_getD (l := zTx), List.getElem?_eq_getElem h, Option.getD_some]
    exact zLen_all _ (List.getElem_mem h)
  · rw [List.getD_eq_getElem?_getD (l := zTx), List.getElem?_eq_none h]; decide
theorem zFm_lt : ∀ i, i < 10 → zFm i < 49 := by decide
theorem zStrR {g : ZG} {B : Nat} {s : State} {H : Heap} {locs : List Loc} (hZ : zS g B s s.heap) {t : Nat} (ht : t < 49) (hS : va_S (zA B) s.heap H locs) : ∃ cell : Cell, H[g.2 2 t]? = some cell ∧ cell.vm.isStatics = false ∧ s.vm.findClass "java/lang/String" = some cell.cls := by
  obtain ⟨cell, h1, h2, h3, -⟩ := (hZ.str t ht).1.kept hS.2.1
  exact ⟨cell, h1, h2, h3⟩
theorem ci_J0_coder_7d493 : zCI yJ0_coder_7d493 cJ0_coder_7d493 1 (some .byte) 0 := ⟨k725, k24, by decide +kernel⟩
theorem cv_J0_coder_7d493 : Cond.instanceMethod yJ0_coder_7d493 ∈ GW ∧ Cond.selects (yJ0_coder_7d493).cls yJ0_coder_7d493 yJ0_coder_7d493 ∈ GW := ⟨k723, k724⟩
set_option maxRecDepth 20000 in
set_option maxHeartbeats 4000000 in
/-- c_coder -/
theorem c_coder (l : Launch) (g : ZG) {B : Nat} (t : Nat) (ht : t < 49) {PH : Heap → Prop} : Met l yJ0_coder_7d493 (.code yJ0_coder_7d493 cJ0_coder_7d493 1 (some .byte) :: GW) { frames := 0, cells := 0, slots := 0, locals := 0 } (va_Pc [.ref (g.2 2 t)] (zPre g B (fun H => PH H))) (zR (some (.int (nI 0)))) 0 0 (fun _ => False) := by
  refine zMet (by decide) (Nat.le_of_ble_eq_true rfl) ?_
  intro p e R s m args below meth c Q ls hR hargs hQ S hr hlk hP hZ hS hnm hl
  have hl : lv_has ls 1 [(0, .ref (g.2 2 t))] := hl
  refine va_gets (A := zA B) S.1 S.2.1 hZ.cs hS S.2.2.2.1 (S.2.2.2.2 _ k726) (fun _ h => h) dJ0_coder_7d493_0 ?_
  refine z_ieq (tgt := 13) S (by omega) dJ0_coder_7d493_3 (by decide) (fun h1 => ?_) (fun h1 => ?_)
  · exact absurd h1 (by omega)
  · refine lv_aload_n S.1 S.2.1 dJ0_coder_7d493_6 rfl (lv_at hl 0 rfl) ?_
    refine vk_getf S.1 S.2.1 (hZ.cod ht) hS S.2.2.2.1 (S.2.2.2.2 _ k1278) (fun _ h => h) dJ0_coder_7d493_7 ?_
    refine lv_goto (tgt := 14) S.1 S.2.1 dJ0_coder_7d493_10 (by decide) ?_
    exact z_ri hQ S hr hlk rfl rfl dJ0_coder_7d493_14
theorem ci_J0_isLatin1_aae02 : zCI yJ0_isLatin1_aae02 cJ0_isLatin1_aae02 1 (some .boolean) 0 := ⟨k735, k24, by decide +kernel⟩
theorem cv_J0_isLatin1_aae02 : Cond.instanceMethod yJ0_isLatin1_aae02 ∈ GW ∧ Cond.selects (yJ0_isLatin1_aae02).cls yJ0_isLatin1_aae02 yJ0_isLatin1_aae02 ∈ GW := ⟨k733, k734⟩
set_option maxRecDepth 20000 in
set_option maxHeartbeats 4000000 in
/-- c_isLatin1 -/
theorem c_isLatin1 (l : Launch) (g : ZG) {B : Nat} (t : Nat) (ht : t < 49) {PH : Heap → Prop} : Met l yJ0_isLatin1_aae02 (.code yJ0_isLatin1_aae02 cJ0_isLatin1_aae02 1 (some .boolean) :: GW) { frames := 0, cells := 0, slots := 0, locals := 0 } (va_Pc [.ref (g.2 2 t)] (zPre g B (fun H => PH H))) (zR (some (.int (nI 1)))) 0 0 (fun _ => False) := by
  refine zMet (by decide) (Nat.le_of_ble_eq_true rfl) ?_
  intro p e R s m args below meth c Q ls hR hargs hQ S hr hlk hP hZ hS hnm hl
  have hl : lv_has ls 1 [(0, .ref (g.2 2 t))] := hl
  refine va_gets (A := zA B) S.1 S.2.1 hZ.cs hS S.2.2.2.1 (S.2.2.2.2 _ k726) (fun _ h => h) dJ0_isLatin1_aae02_0 ?_
  refine z_ieq (tgt := 17) S (by omega) dJ0_isLatin1_aae02_3 (by decide) (fun h1 => ?_) (fun h1 => ?_)
  · exact absurd h1 (by omega)
  · refine lv_aload_n S.1 S.2.1 dJ0_isLatin1_aae02_6 rfl (lv_at hl 0 rfl) ?_
    refine vk_getf S.1 S.2.1 (hZ.cod ht) hS S.2.2.2.1 (S.2.2.2.2 _ k1278) (fun _ h => h) dJ0_isLatin1_aae02_7 ?_
    refine z_ine (tgt := 17) S (by omega) dJ0_isLatin1_aae02_10 (by decide) (fun h2 => ?_) (fun h2 => ?_)
    · exact absurd rfl h2
    · refine z_ic S (k := 1) dJ0_isLatin1_aae02_13 (by decide) ?_
      refine lv_goto (tgt := 18) S.1 S.2.1 dJ0_isLatin1_aae02_14 (by decide) ?_
      exact z_ri hQ S hr hlk rfl rfl dJ0_isLatin1_aae02_18
theorem ci_J0_length_8abf5 : zCI yJ0_length_8abf5 cJ0_length_8abf5 1 (some .int) 0 := ⟨k721, k24, by decide +kernel⟩
theorem cv_J0_length_8abf5 : Cond.instanceMethod yJ0_length_8abf5 ∈ GW ∧ Cond.selects (yJ0_length_8abf5).cls yJ0_length_8abf5 yJ0_length_8abf5 ∈ GW := ⟨k719, k720⟩
set_option maxRecDepth 20000 in
set_option maxHeartbeats 4000000 in
/-- String.length() -/
theorem c_strlen (l : Launch) (g : ZG) {B : Nat} (t : Nat) (ht : t < 49) {PH : Heap → Prop} : Met l yJ0_length_8abf5 (.code yJ0_length_8abf5 cJ0_length_8abf5 1 (some .int) :: GW) { frames := 1, cells := 0, slots := 0, locals := 20 } (va_Pc [.ref (g.2 2 t)] (zPre g B (fun H => PH H))) (zR (some (.int (nI (zLen t))))) 0 0 (fun _ => False) := by
  refine zMet (by decide) (Nat.le_of_ble_eq_true rfl) ?_
  intro p e R s m args below meth c Q ls hR hargs hQ S hr hlk hP hZ hS hnm hl
  have hl : lv_has ls 1 [(0, .ref (g.2 2 t))] := hl
  have h60 := zLen_le t
  refine lv_aload_n S.1 S.2.1 dJ0_length_8abf5_0 rfl (lv_at hl 0 rfl) ?_
  refine vk_getf S.1 S.2.1 (hZ.str t ht).2.2.1 hS S.2.2.2.1 (S.2.2.2.2 _ k1279) (fun _ h => h) dJ0_length_8abf5_1 ?_
  refine va_tlen (v := nI (zLen t)) S.1 S.2.1 (hZ.str t ht).2.2.2 hS rfl dJ0_length_8abf5_4 ?_
  refine lv_aload_n S.1 S.2.1 dJ0_length_8abf5_5 rfl (lv_at hl 0 rfl) ?_
  refine z_cV (v := some (.int (nI (0)))) (rest := [.int (nI (zLen t))]) (As := []) S hZ hS (c_coder l g t ht (PH := fun _ => True)) ci_J0_coder_7d493 cv_J0_coder_7d493 k722 ⟨rfl, rfl, by rw [hR]; decide, by rw [hR]; decide⟩ trivial (zStrR hZ ht hS) hl.1 rfl (Nat.le_of_ble_eq_true rfl) dJ0_length_8abf5_6 ⟨by rw [hR]; decide, by rw [hR]; decide⟩ rfl ?_
  refine z_shr S (by omega) (by omega) dJ0_length_8abf5_9 ?_
  rw [show zLen t / 2 ^ 0 = zLen t from Nat.div_one _]
  exact z_ri hQ S hr hlk (zn_int _) rfl dJ0_length_8abf5_10
theorem ci_J3_checkIndex_8e157 : zCI yJ3_checkIndex_8e157 cJ3_checkIndex_8e157 3 (some .int) 3 := ⟨k746, k26, by decide +kernel⟩
theorem cv_J3_checkIndex_8e157 : Cond.static yJ3_checkIndex_8e157 ∈ GW := k745
set_option maxRecDepth 20000 in
set_option maxHeartbeats 4000000 in
/-- Preconditions.checkIndex(i, n, ..), i < n -/
theorem c_chk0 (l : Launch) (g : ZG) {B : Nat} (i n : Nat) (hi : i < n) (hn : n < 2 ^ 31) {PH : Heap → Prop} : Met l yJ3_checkIndex_8e157 (.code yJ3_checkIndex_8e157 cJ3_checkIndex_8e157 3 (some .int) :: GW) { frames := 0, cells := 0, slots := 0, locals := 0 } (va_Pc [.int (nI i), .int (nI n), .null] (zPre g B (fun H => PH H))) (zR (some (.int (nI i)))) 0 0 (fun _ => False) := by
  refine zMet (by decide) (Nat.le_of_ble_eq_true rfl) ?_
  intro p e R s m args below meth c Q ls hR hargs hQ S hr hlk hP hZ hS hnm hl
  have hl : lv_has ls 3 [(0, .int (nI (i))), (1, .int (nI (n))), (2, .null)] := hl
  refine lv_iload_n S.1 S.2.1 dJ3_checkIndex_8e157_0 rfl (lv_at hl 0 rfl) ?_
  refine z_ilt (tgt := 9) S (by omega) dJ3_checkIndex_8e157_1 (by decide) ?_
  refine lv_iload_n S.1 S.2.1 dJ3_checkIndex_8e157_4 rfl (lv_at hl 0 rfl) ?_
  refine lv_iload_n S.1 S.2.1 dJ3_checkIndex_8e157_5 rfl (lv_at hl 1 rfl) ?_
  refine z_clt (tgt := 16) S (by omega) (by omega) dJ3_checkIndex_8e157_6 (by decide) (fun h2 => ?_) (fun h2 => ?_)
  · refine lv_iload_n S.1 S.2.1 dJ3_checkIndex_8e157_16 rfl (lv_at hl 0 rfl) ?_
    exact z_ri hQ S hr hlk (zn_int _) rfl dJ3_checkIndex_8e157_17
  · exact absurd hi (by omega)
set_option maxRecDepth 20000 in
set_option maxHeartbeats 4000000 in
/-- Preconditions.checkIndex(i, n, ..), i < n -/
theorem c_chk1 (l : Launch) (g : ZG) {B : Nat} (i n : Nat) (hi : i < n) (hn : n < 2 ^ 31) (tf : Nat) {PH : Heap → Prop} : Met l yJ3_checkIndex_8e157 (.code yJ3_checkIndex_8e157 cJ3_checkIndex_8e157 3 (some .int) :: GW) { frames := 0, cells := 0, slots := 0, locals := 0 } (va_Pc [.int (nI i), .int (nI n), .ref (tf)] (zPre g B (fun H => PH H))) (zR (some (.int (nI i)))) 0 0 (fun _ => False) := by
  refine zMet (by decide) (Nat.le_of_ble_eq_true rfl) ?_
  intro p e R s m args below meth c Q ls hR hargs hQ S hr hlk hP hZ hS hnm hl
  have hl : lv_has ls 3 [(0, .int (nI (i))), (1, .int (nI (n))), (2, .ref (tf))] := hl
  refine lv_iload_n S.1 S.2.1 dJ3_checkIndex_8e157_0 rfl (lv_at hl 0 rfl) ?_
  refine z_ilt (tgt := 9) S (by omega) dJ3_checkIndex_8e157_1 (by decide) ?_
  refine lv_iload_n S.1 S.2.1 dJ3_checkIndex_8e157_4 rfl (lv_at hl 0 rfl) ?_
  refine lv_iload_n S.1 S.2.1 dJ3_checkIndex_8e157_5 rfl (lv_at hl 1 rfl) ?_
  refine z_clt (tgt := 16) S (by omega) (by omega) dJ3_checkIndex_8e157_6 (by decide) (fun h2 => ?_) (fun h2 => ?_)
  · refine lv_iload_n S.1 S.2.1 dJ3_checkIndex_8e157_16 rfl (lv_at hl 0 rfl) ?_
    exact z_ri hQ S hr hlk (zn_int _) rfl dJ3_checkIndex_8e157_17
  · exact absurd hi (by omega)
theorem ci_J0_checkIndex_df160 : zCI yJ0_checkIndex_df160 cJ0_checkIndex_df160 2 none 2 := ⟨k741, k24, by decide +kernel⟩
theorem cv_J0_checkIndex_df160 : Cond.static yJ0_checkIndex_df160 ∈ GW := k740
set_option maxRecDepth 20000 in
set_option maxHeartbeats 4000000 in
/-- String.checkIndex(i, n), i < n -/
theorem c_schk (l : Launch) (g : ZG) {B : Nat} (i n : Nat) (hi : i < n) (hn : n < 2 ^ 31) {PH : Heap → Prop} : Met l yJ0_checkIndex_df160 (.code yJ0_checkIndex_df160 cJ0_checkIndex_df160 2 none :: GW) { frames := 1, cells := 0, slots := 0, locals := 22 } (va_Pc [.int (nI i), .int (nI n)] (zPre g B (fun H => PH H))) (zR none) 0 0 (fun _ => False) := by
  refine zMet (by decide) (Nat.le_of_ble_eq_true rfl) ?_
  intro p e R s m args below meth c Q ls hR hargs hQ S hr hlk hP hZ hS hnm hl
  have hl : lv_has ls 2 [(0, .int (nI (i))), (1, .int (nI (n)))] := hl
  refine lv_iload_n S.1 S.2.1 dJ0_checkIndex_df160_0 rfl (lv_at hl 0 rfl) ?_
  refine lv_iload_n S.1 S.2.1 dJ0_checkIndex_df160_1 rfl (lv_at hl 1 rfl) ?_
  rcases hZ.fm with hF | ⟨tf, hF⟩
  · refine va_gets (A := zA B) S.1 S.2.1 hF hS S.2.2.2.1 (S.2.2.2.2 _ k742) (fun _ h => h) dJ0_checkIndex_df160_2 ?_
    refine z_cS (v := some (.int (nI (i)))) (rest := []) (As := [.int (nI (i)), .int (nI (n)), .null]) S hZ hS (c_chk0 l g i n hi hn (PH := fun _ => True)) ci_J3_checkIndex_8e157 cv_J3_checkIndex_8e157 k744 ⟨rfl, rfl, by rw [hR]; decide, by rw [hR]; decide⟩ trivial hl.1 rfl (Nat.le_of_ble_eq_true rfl) dJ0_checkIndex_df160_5 ⟨by rw [hR]; decide, by rw [hR]; decide⟩ rfl ?_
    refine lv_pop S.1 S.2.1 dJ0_checkIndex_df160_8 rfl ?_
    exact z_rv hQ S hr hlk dJ0_checkIndex_df160_9
  · refine va_gets (A := zA B) S.1 S.2.1 hF hS S.2.2.2.1 (S.2.2.2.2 _ k742) (fun _ h => h) dJ0_checkIndex_df160_2 ?_
    refine z_cS (v := some (.int (nI (i)))) (rest := []) (As := [.int (nI (i)), .int (nI (n)), .ref (tf)]) S hZ hS (c_chk1 l g i n hi hn tf (PH := fun _ => True)) ci_J3_checkIndex_8e157 cv_J3_checkIndex_8e157 k744 ⟨rfl, rfl, by rw [hR]; decide, by rw [hR]; decide⟩ trivial hl.1 rfl (Nat.le_of_ble_eq_true rfl) dJ0_checkIndex_df160_5 ⟨by rw [hR]; decide, by rw [hR]; decide⟩ rfl ?_
    refine lv_pop S.1 S.2.1 dJ0_checkIndex_df160_8 rfl ?_
    exact z_rv hQ S hr hlk dJ0_checkIndex_df160_9
theorem ci_J1_charAt_3b067 : zCI yJ1_charAt_3b067 cJ1_charAt_3b067 2 (some .char) 2 := ⟨k738, k25, by decide +kernel⟩
theorem cv_J1_charAt_3b067 : Cond.static yJ1_charAt_3b067 ∈ GW := k737
set_option maxRecDepth 20000 in
set_option maxHeartbeats 4000000 in
/-- StringLatin1.charAt -/
theorem c_latAt (l : Launch) (g : ZG) {B : Nat} (t : Nat) (ht : t < 49) (i : Nat) (hi : i < zLen t) {PH : Heap → Prop} : Met l yJ1_charAt_3b067 (.code yJ1_charAt_3b067 cJ1_charAt_3b067 2 (some .char) :: GW) { frames := 2, cells := 0, slots := 0, locals := 43 } (va_Pc [.ref (g.2 3 t), .int (nI i)] (zPre g B (fun H => PH H))) (zR (some (.int (nI (zCh t i))))) 0 0 (fun _ => False) := by
  refine zMet (by decide) (Nat.le_of_ble_eq_true rfl) ?_
  intro p e R s m args below meth c Q ls hR hargs hQ S hr hlk hP hZ hS hnm hl
  have hl : lv_has ls 2 [(0, .ref (g.2 3 t)), (1, .int (nI (i)))] := hl
  have h60 := zLen_le t
  have hc7 := zCh_lt t i
  refine lv_iload_n S.1 S.2.1 dJ1_charAt_3b067_0 rfl (lv_at hl 1 rfl) ?_
  refine lv_aload_n S.1 S.2.1 dJ1_charAt_3b067_1 rfl (lv_at hl 0 rfl) ?_
  refine va_tlen (v := nI (zLen t)) S.1 S.2.1 (hZ.str t ht).2.2.2 hS rfl dJ1_charAt_3b067_2 ?_
  refine z_cS (v := none) (rest := []) (As := [.int (nI (i)), .int (nI (zLen t))]) S hZ hS (c_schk l g i (zLen t) hi (by omega) (PH := fun _ => True)) ci_J0_checkIndex_df160 cv_J0_checkIndex_df160 k739 ⟨rfl, rfl, by rw [hR]; decide, by rw [hR]; decide⟩ trivial hl.1 rfl (Nat.le_of_ble_eq_true rfl) dJ1_charAt_3b067_3 ⟨by rw [hR]; decide, by rw [hR]; decide⟩ rfl ?_
  refine lv_aload_n S.1 S.2.1 dJ1_charAt_3b067_6 rfl (lv_at hl 0 rfl) ?_
  refine lv_iload_n S.1 S.2.1 dJ1_charAt_3b067_7 rfl (lv_at hl 1 rfl) ?_
  refine va_tb (A := zA B) (v := .int (nI (zCh t i))) S.1 S.2.1 (hZ.str t ht).2.2.2 hS (vp_in_nI hi (by omega)) (by rw [nI_clamp (by omega)]) dJ1_charAt_3b067_8 ?_
  refine z_si S (k := 255) dJ1_charAt_3b067_9 (by decide) ?_
  refine z_and S dJ1_charAt_3b067_12 ?_
  rw [show zCh t i &&& 255 = zCh t i by rw [show (255 : Nat) = 2 ^ 8 - 1 from rfl, Nat.and_two_pow_sub_one_eq_mod, Nat.mod_eq_of_lt (by omega)]]
  refine lv_i2c (v := nI (zCh t i)) S.1 S.2.1 dJ1_charAt_3b067_13 (by rw [pk_char, pk_tn (by omega), Nat.mod_eq_of_lt (by omega)]) ?_
  exact z_ri hQ S hr hlk (by show narrow .char (.int (nI (zCh t i))) = .int (nI (zCh t i)); rw [zn_char (by omega)]) rfl dJ1_charAt_3b067_14
theorem ci_J0_charAt_5068e : zCI yJ0_charAt_5068e cJ0_charAt_5068e 2 (some .char) 1 := ⟨k731, k24, by decide +kernel⟩
theorem cv_J0_charAt_5068e : Cond.instanceMethod yJ0_charAt_5068e ∈ GW ∧ Cond.selects (yJ0_charAt_5068e).cls yJ0_charAt_5068e yJ0_charAt_5068e ∈ GW := ⟨k729, k730⟩
set_option maxRecDepth 20000 in
set_option maxHeartbeats 4000000 in
/-- String.charAt(i) -/
theorem c_charAt (l : Launch) (g : ZG) {B : Nat} (t : Nat) (ht : t < 49) (i : Nat) (hi : i < zLen t) {PH : Heap → Prop} : Met l yJ0_charAt_5068e (.code yJ0_charAt_5068e cJ0_charAt_5068e 2 (some .char) :: GW) { frames := 3, cells := 0, slots := 0, locals := 64 } (va_Pc [.ref (g.2 2 t), .int (nI i)] (zPre g B (fun H => PH H))) (zR (some (.int (nI (zCh t i))))) 0 0 (fun _ => False) := by
  refine zMet (by decide) (Nat.le_of_ble_eq_true rfl) ?_
  intro p e R s m args below meth c Q ls hR hargs hQ S hr hlk hP hZ hS hnm hl
  have hl : lv_has ls 2 [(0, .ref (g.2 2 t)), (1, .int (nI (i)))] := hl
  have hc7 := zCh_lt t i
  refine lv_aload_n S.1 S.2.1 dJ0_charAt_5068e_0 rfl (lv_at hl 0 rfl) ?_
  refine z_cV (v := some (.int (nI (1)))) (rest := []) (As := []) S hZ hS (c_isLatin1 l g t ht (PH := fun _ => True)) ci_J0_isLatin1_aae02 cv_J0_isLatin1_aae02 k732 ⟨rfl, rfl, by rw [hR]; decide, by rw [hR]; decide⟩ trivial (zStrR hZ ht hS) hl.1 rfl (Nat.le_of_ble_eq_true rfl) dJ0_charAt_5068e_1 ⟨by rw [hR]; decide, by rw [hR]; decide⟩ rfl ?_
  refine z_ieq (tgt := 16) S (by omega) dJ0_charAt_5068e_4 (by decide) (fun h1 => ?_) (fun h1 => ?_)
  · exact absurd h1 (by omega)
  · refine lv_aload_n S.1 S.2.1 dJ0_charAt_5068e_7 rfl (lv_at hl 0 rfl) ?_
    refine vk_getf S.1 S.2.1 (hZ.str t ht).2.2.1 hS S.2.2.2.1 (S.2.2.2.2 _ k1279) (fun _ h => h) dJ0_charAt_5068e_8 ?_
    refine lv_iload_n S.1 S.2.1 dJ0_charAt_5068e_11 rfl (lv_at hl 1 rfl) ?_
    refine z_cS (v := some (.int (nI (zCh t i)))) (rest := []) (As := [.ref (g.2 3 t), .int (nI (i))]) S hZ hS (c_latAt l g t ht i hi (PH := fun _ => True)) ci_J1_charAt_3b067 cv_J1_charAt_3b067 k736 ⟨rfl, rfl, by rw [hR]; decide, by rw [hR]; decide⟩ trivial hl.1 rfl (Nat.le_of_ble_eq_true rfl) dJ0_charAt_5068e_12 ⟨by rw [hR]; decide, by rw [hR]; decide⟩ rfl ?_
    exact z_ri hQ S hr hlk (by show narrow .char (.int (nI (zCh t i))) = .int (nI (zCh t i)); rw [zn_char (by omega)]) rfl dJ0_charAt_5068e_15
/-! THE SCRIPT: what it reads, told over the texts -/
def dSc : ZD := fun _ a f => .inr (7, [.ref (a + 1), .int (nI (f 1)), .ref (a + 2), .int (nI (f 3)), .int (nI (f 4))])
def dCm : ZD := fun g a _ => .inl (g.2 0 4, 10, .inr (.inr (.inr (.inr (fun j => some (a + 1 + j))))))
def TSc : Nat → ZD := fun k => match k with
  | 0 => dSc
  | 1 => dC 60
  | _ => dCm
/-- the position p -/
def yQ (f : Nat → Nat → Nat) (p : Nat) : Nat → Nat → Nat := va_up f 0 (va_up (f 0) 4 p)
theorem yQ_q (f : Nat → Nat → Nat) (p q : Nat) : va_up (yQ f p) 0 (va_up (yQ f p 0) 4 q) = yQ f q := by
  funext k j
  simp only [yQ, va_up_eq]
  by_cases h : k = 0
  · subst h; by_cases h2 : j = 4 <;> simp [va_up_eq, h2]
  · simp [h]
/-- the buffer holds the text t -/
def yBf (f : Nat → Nat → Nat) (t : Nat) : Prop := f 0 1 = zLen t ∧ ∀ j, j < zLen t → f 1 j = zCh t j
/-- readSign -/
def yIs (t p x : Nat) : Bool := decide (p < zLen t) && decide (zCh t p = x)
def yDg (t p : Nat) : Bool := decide (p < zLen t) && (decide (48 ≤ zCh t p) && decide (zCh t p ≤ 57))
/-- countSame -/
def ySm (t p k : Nat) : Nat → Nat → Nat
  | 0, i => i
  | m + 1, i => if p + i < zLen t ∧ zCh k i = zCh t (p + i) then ySm t p k m (i + 1) else i
theorem ySm_s {t p k i : Nat} (h : i < zLen k) : ySm t p k (zLen k - i) i = if p + i < zLen t ∧ zCh k i = zCh t (p + i) then ySm t p k (zLen k - (i + 1)) (i + 1) else i := by
  rw [show zLen k - i = (zLen k - (i + 1)) + 1 by omega, ySm]
theorem ySm_le {t p k : Nat} : ∀ (m i : Nat), ySm t p k m i ≤ i + m
  | 0, i => Nat.le_refl i
  | m + 1, i => by have h := @ySm_le t p k m (i + 1); rw [ySm]; split <;> omega
/-- readWord: its kind (10 if none), and where it stops -/
def yRw (t p : Nat) : Nat → Nat → Nat → Nat × Nat
  | 0, _, lg => (10, p + lg)
  | m + 1, i, lg => if ySm t p i (zLen i) 0 = zLen i then (i, p + ySm t p i (zLen i) 0) else yRw t p m (i + 1) (max lg (ySm t p i (zLen i) 0))
theorem yRw_s {t p i lg : Nat} (h : i < 10) : yRw t p (10 - i) i lg = if ySm t p i (zLen i) 0 = zLen i then (i, p + ySm t p i (zLen i) 0) else yRw t p (10 - (i + 1)) (i + 1) (max lg (ySm t p i (zLen i) 0)) := by
  rw [show 10 - i = (10 - (i + 1)) + 1 by omega, yRw]
/-- readDigits: value, and where it stops -/
def yRd (t : Nat) : Nat → Nat → Nat → Nat × Nat
  | 0, v, p => (v, p)
  | m + 1, v, p => if yDg t p = true then yRd t m (v * 10 + (zCh t p - 48)) (p + 1) else (v, p)
theorem yRd_s {t n d v p : Nat} (h : d < n) : yRd t (n - d) v p = if yDg t p = true then yRd t (n - (d + 1)) (v * 10 + (zCh t p - 48)) (p + 1) else (v, p) := by
  rw [show n - d = (n - (d + 1)) + 1 by omega, yRd]
/-- what stands behind the word, by the form fm; none where it isn't so -/
def yRc (t fm : Nat) : Nat → Nat → Nat → Nat → (Nat → Nat) → Option (Nat × (Nat → Nat))
  | 0, _, _, p, r => some (p, r)
  | m + 1, i, sl, p, r =>
    if zCh fm i = 32 then (if yIs t p 32 = true then yRc t fm m (i + 1) sl (p + 1) r else none)
    else if sl < 3 then
      if zCh fm i = 115 then
        if yIs t p 108 = true then yRc t fm m (i + 1) (sl + 1) (p + 1) (va_up r (sl + 1) 108)
        else if yIs t p 114 = true then yRc t fm m (i + 1) (sl + 1) (p + 1) (va_up r (sl + 1) 114) else none
      else if 48 ≤ zCh fm i ∧ (yRd t (zCh fm i - 48) 0 p).2 ≠ p ∧ (yRd t (zCh fm i - 48) 0 p).1 < 100000 then yRc t fm m (i + 1) (sl + 1) (yRd t (zCh fm i - 48) 0 p).2 (va_up r (sl + 1) (yRd t (zCh fm i - 48) 0 p).1)
      else none
    else none
theorem yRc_s {t fm i sl p : Nat} {r : Nat → Nat} (h : i < zLen fm) : yRc t fm (zLen fm - i) i sl p r = yRc t fm (zLen fm - (i + 1) + 1) i sl p r := by
  rw [show zLen fm - i = (zLen fm - (i + 1)) + 1 by omega]
/-- a command from p on -/
def yCd (t p : Nat) : Option (Nat × (Nat → Nat)) := if (yRw t p 10 0 0).1 < 10 then yRc t (zFm (yRw t p 10 0 0).1) (zLen (zFm (yRw t p 10 0 0).1)) 0 0 (yRw t p 10 0 0).2 (zCb (yRw t p 10 0 0).1 0 0 0) else none
/-- the commands from p on, behind those of D -/
def yPa (t : Nat) : Nat → Nat → List (Nat → Nat) → Option (List (Nat → Nat))
  | 0, _, _ => none
  | m + 1, p, D => if D.length < 10 then (match yCd t p with
    | none => none
    | some (q, r) => if yIs t q 59 = true then yPa t m (q + 1) (D ++ [r]) else if q = zLen t then some (D ++ [r]) else none) else none
def yPaOk (k : Nat) : Bool := match yPa (17 + k) 11 0 [] with
  | none => false
  | some L => decide (1 ≤ L.length) && (decide (L.length ≤ 10) && L.all fun r => decide (r 0 < 10) && (decide (r 1 < 100000) && (decide (r 2 < 100000) && (decide (r 3 < 100000) && (decide (r 0 ≠ 9) || decide (r 1 < 65536)))))) 
theorem yPa_ok : ∀ k, k < 31 → yPaOk k = true := by decide +kernel
theorem ci_X9_readSign : zCI yX9_readSign cX9_readSign 2 (some .boolean) 1 := ⟨k773, k11, by decide +kernel⟩
theorem cv_X9_readSign : Cond.instanceMethod yX9_readSign ∈ GW ∧ Cond.selects (yX9_readSign).cls yX9_readSign yX9_readSign ∈ GW := ⟨k772, kp18⟩
set_option maxRecDepth 20000 in
set_option maxHeartbeats 4000000 in
/-- Script.readSign(x) -/
theorem c_X9_readSign (l : Launch) (g : ZG) {B : Nat} {os : Nat} (hB : B ≤ os) (f : Nat → Nat → Nat) (t p : Nat) (hb : yBf f t) (hp : p ≤ 60) (x : Nat) (hx : x < 65536) : Met l yX9_readSign (.code yX9_readSign cX9_readSign 2 (some .boolean) :: GW) { frames := 0, cells := 0, slots := 0, locals := 0 } (va_Pc [.ref os, .int (nI x)] (zPre g B (fun H => zPm g os 3 TSc (yQ f p) H))) (zX (fun w H => w = some (.int (nI (yIs t p x).toNat)) ∧ zPm g os 3 TSc (yQ f (p + (yIs t p x).toNat)) H) os 3) 0 0 (zA B) := by
  refine zMet (by decide) (Nat.le_of_ble_eq_true rfl) ?_
  intro pg e R s m args below meth c Q ls hR hargs hQ S hr hlk hP hZ hS hnm hl
  have hl : lv_has ls 2 [(0, .ref (os)), (1, .int (nI (x)))] := hl
  have h60 := zLen_le t
  obtain ⟨hb1, hb2⟩ := id hb
  have hC : zCh1 os 3 s.heap s.heap := zCh1.rf
  refine lv_aload_n S.1 S.2.1 dX9_readSign_0 rfl (lv_at hl 0 rfl) ?_
  refine z_get (v := .int (nI (p))) S hZ.1 hP 0 (by decide) rfl rfl rfl 4 (by decide) rfl k216 dX9_readSign_1 ?_
  refine lv_aload_n S.1 S.2.1 dX9_readSign_4 rfl (lv_at hl 0 rfl) ?_
  refine z_get (v := .int (nI (f 0 1))) S hZ.1 hP 0 (by decide) rfl rfl rfl 1 (by decide) rfl k211 dX9_readSign_5 ?_
  rw [hb1]
  refine z_cge (tgt := 36) S (by omega) (by omega) dX9_readSign_8 (by decide) (fun h1 => ?_) (fun h1 => ?_)
  · refine z_ic S (k := 0) dX9_readSign_36 (by decide) ?_
    have e9 : yIs t p x = false := by unfold yIs; rw [decide_eq_false (by omega), Bool.false_and]
    exact z_wi hQ S hr hlk (zn_int _) hS hC ⟨by rw [e9]; rfl, by rw [e9]; exact hP⟩ dX9_readSign_37
  · have hc7 := zCh_lt t p
    refine lv_aload_n S.1 S.2.1 dX9_readSign_11 rfl (lv_at hl 0 rfl) ?_
    refine z_get (v := .ref (os + 1)) S hZ.1 hP 0 (by decide) rfl rfl rfl 0 (by decide) rfl k210 dX9_readSign_12 ?_
    refine lv_aload_n S.1 S.2.1 dX9_readSign_15 rfl (lv_at hl 0 rfl) ?_
    refine z_get (v := .int (nI (p))) S hZ.1 hP 0 (by decide) rfl rfl rfl 4 (by decide) rfl k216 dX9_readSign_16 ?_
    refine z_cald S hZ.1 hP 1 (by decide) rfl rfl (i := p) (by omega) (by decide) dX9_readSign_19 ?_
    rw [show (yQ f p) 1 p = zCh t (p) from hb2 _ (by omega)]
    refine lv_iload_n S.1 S.2.1 dX9_readSign_20 rfl (lv_at hl 1 rfl) ?_
    refine z_cne (tgt := 36) S (by omega) (by omega) dX9_readSign_21 (by decide) (fun h2 => ?_) (fun h2 => ?_)
    · refine z_ic S (k := 0) dX9_readSign_36 (by decide) ?_
      have e9 : yIs t p x = false := by unfold yIs; rw [decide_eq_false h2, Bool.and_false]
      exact z_wi hQ S hr hlk (zn_int _) hS hC ⟨by rw [e9]; rfl, by rw [e9]; exact hP⟩ dX9_readSign_37
    · refine lv_aload_n S.1 S.2.1 dX9_readSign_24 rfl (lv_at hl 0 rfl) ?_
      refine lv_dup S.1 S.2.1 dX9_readSign_25 rfl ?_
      refine z_get (v := .int (nI (p))) S hZ.1 hP 0 (by decide) rfl rfl rfl 4 (by decide) rfl k216 dX9_readSign_26 ?_
      refine z_ic S (k := 1) dX9_readSign_29 (by decide) ?_
      refine z_add S dX9_readSign_30 ?_
      refine z_put (v := .int (nI (p + 1))) (ty := .int) S hZ.1 hP hS hB 0 (by decide) rfl rfl rfl 4 (by decide) (va_up ((yQ f p) 0) 4 (p + 1)) rfl k216 rfl (by decide +kernel) rfl rfl (Nat.le_of_ble_eq_true rfl) dX9_readSign_31 (fun H1 locs1 hPn hCn hSn => ?_)
      have hS := hSn
      have hP := hPn
      have hC := hC.tr (hCn.mono (b := os) (k := 3) (by omega) (by omega))
      have hP := hP.eq (yQ_q f p (p + 1))
      refine z_ic S (k := 1) dX9_readSign_34 (by decide) ?_
      have e9 : yIs t p x = true := by unfold yIs; rw [decide_eq_true h1, decide_eq_true h2]; rfl
      exact z_wi hQ S hr hlk rfl hS hC ⟨by rw [e9]; rfl, by rw [e9]; exact hP⟩ dX9_readSign_35
theorem ci_X9_digitIsNext : zCI yX9_digitIsNext cX9_digitIsNext 1 (some .boolean) 0 := ⟨k785, k11, by decide +kernel⟩
theorem cv_X9_digitIsNext : Cond.instanceMethod yX9_digitIsNext ∈ GW ∧ Cond.selects (yX9_digitIsNext).cls yX9_digitIsNext yX9_digitIsNext ∈ GW := ⟨k784, kp21⟩
set_option maxRecDepth 20000 in
set_option maxHeartbeats 4000000 in
/-- Script.digitIsNext() -/
theorem c_X9_digitIsNext (l : Launch) (g : ZG) {B : Nat} {os : Nat} (f : Nat → Nat → Nat) (t p : Nat) (hb : yBf f t) (hp : p ≤ 60) : Met l yX9_digitIsNext (.code yX9_digitIsNext cX9_digitIsNext 1 (some .boolean) :: GW) { frames := 0, cells := 0, slots := 0, locals := 0 } (va_Pc [.ref os] (zPre g B (fun H => zPm g os 3 TSc (yQ f p) H))) (zR (some (.int (nI (yDg t p).toNat)))) 0 0 (fun _ => False) := by
  refine zMet (by decide) (Nat.le_of_ble_eq_true rfl) ?_
  intro pg e R s m args below meth c Q ls hR hargs hQ S hr hlk hP hZ hS hnm hl
  have hl : lv_has ls 1 [(0, .ref (os))] := hl
  have h60 := zLen_le t
  obtain ⟨hb1, hb2⟩ := id hb
  have hc7 := zCh_lt t p
  refine lv_aload_n S.1 S.2.1 dX9_digitIsNext_0 rfl (lv_at hl 0 rfl) ?_
  refine z_get (v := .int (nI (p))) S hZ.1 hP 0 (by decide) rfl rfl rfl 4 (by decide) rfl k216 dX9_digitIsNext_1 ?_
  refine lv_aload_n S.1 S.2.1 dX9_digitIsNext_4 rfl (lv_at hl 0 rfl) ?_
  refine z_get (v := .int (nI (f 0 1))) S hZ.1 hP 0 (by decide) rfl rfl rfl 1 (by decide) rfl k211 dX9_digitIsNext_5 ?_
  rw [hb1]
  refine z_cge (tgt := 43) S (by omega) (by omega) dX9_digitIsNext_8 (by decide) (fun h1 => ?_) (fun h1 => ?_)
  · refine z_ic S (k := 0) dX9_digitIsNext_43 (by decide) ?_
    exact z_ri hQ S hr hlk rfl (by unfold yDg; rw [decide_eq_false (by omega), Bool.false_and]; rfl) dX9_digitIsNext_44
  · refine lv_aload_n S.1 S.2.1 dX9_digitIsNext_11 rfl (lv_at hl 0 rfl) ?_
    refine z_get (v := .ref (os + 1)) S hZ.1 hP 0 (by decide) rfl rfl rfl 0 (by decide) rfl k210 dX9_digitIsNext_12 ?_
    refine lv_aload_n S.1 S.2.1 dX9_digitIsNext_15 rfl (lv_at hl 0 rfl) ?_
    refine z_get (v := .int (nI (p))) S hZ.1 hP 0 (by decide) rfl rfl rfl 4 (by decide) rfl k216 dX9_digitIsNext_16 ?_
    refine z_cald S hZ.1 hP 1 (by decide) rfl rfl (i := p) (by omega) (by decide) dX9_digitIsNext_19 ?_
    rw [show (yQ f p) 1 p = zCh t (p) from hb2 _ (by omega)]
    refine z_bi S (k := 48) dX9_digitIsNext_20 (by decide) ?_
    refine z_clt (tgt := 43) S (by omega) (by omega) dX9_digitIsNext_22 (by decide) (fun h2 => ?_) (fun h2 => ?_)
    · refine z_ic S (k := 0) dX9_digitIsNext_43 (by decide) ?_
      exact z_ri hQ S hr hlk rfl (by unfold yDg; rw [decide_eq_true h1, decide_eq_false (by omega), Bool.false_and, Bool.and_false]; rfl) dX9_digitIsNext_44
    · refine lv_aload_n S.1 S.2.1 dX9_digitIsNext_25 rfl (lv_at hl 0 rfl) ?_
      refine z_get (v := .ref (os + 1)) S hZ.1 hP 0 (by decide) rfl rfl rfl 0 (by decide) rfl k210 dX9_digitIsNext_26 ?_
      refine lv_aload_n S.1 S.2.1 dX9_digitIsNext_29 rfl (lv_at hl 0 rfl) ?_
      refine z_get (v := .int (nI (p))) S hZ.1 hP 0 (by decide) rfl rfl rfl 4 (by decide) rfl k216 dX9_digitIsNext_30 ?_
      refine z_cald S hZ.1 hP 1 (by decide) rfl rfl (i := p) (by omega) (by decide) dX9_digitIsNext_33 ?_
      rw [show (yQ f p) 1 p = zCh t (p) from hb2 _ (by omega)]
      refine z_bi S (k := 57) dX9_digitIsNext_34 (by decide) ?_
      refine z_cgt (tgt := 43) S (by omega) (by omega) dX9_digitIsNext_36 (by decide) (fun h3 => ?_) (fun h3 => ?_)
      · refine z_ic S (k := 0) dX9_digitIsNext_43 (by decide) ?_
        exact z_ri hQ S hr hlk rfl (by unfold yDg; rw [decide_eq_true h1, decide_eq_true (by omega), decide_eq_false (by omega)]; rfl) dX9_digitIsNext_44
      · refine z_ic S (k := 1) dX9_digitIsNext_39 (by decide) ?_
        refine lv_goto (tgt := 44) S.1 S.2.1 dX9_digitIsNext_40 (by decide) ?_
        exact z_ri hQ S hr hlk rfl (by unfold yDg; rw [decide_eq_true h1, decide_eq_true (by omega), decide_eq_true (by omega)]; rfl) dX9_digitIsNext_44
theorem ci_X9_readDigits : zCI yX9_readDigits cX9_readDigits 4 (some .int) 1 := ⟨k781, k11, by decide +kernel⟩
theorem cv_X9_readDigits : Cond.instanceMethod yX9_readDigits ∈ GW ∧ Cond.selects (yX9_readDigits).cls yX9_readDigits yX9_readDigits ∈ GW := ⟨k780, kp20⟩
set_option maxRecDepth 20000 in
set_option maxHeartbeats 4000000 in
/-- Script.readDigits(n) -/
theorem c_X9_readDigits (l : Launch) (g : ZG) {B : Nat} {os : Nat} (hB : B ≤ os) (f : Nat → Nat → Nat) (t p : Nat) (hb : yBf f t) (hp : p ≤ 60) (n : Nat) (hn : n < 128) (hy : (yRd t n 0 p).2 ≠ p) : Met l yX9_readDigits (.code yX9_readDigits cX9_readDigits 4 (some .int) :: GW) { frames := 1, cells := 0, slots := 0, locals := 20 } (va_Pc [.ref os, .int (nI n)] (zPre g B (fun H => zPm g os 3 TSc (yQ f p) H))) (zX (fun w H => w = some (.int (nI (yRd t n 0 p).1)) ∧ zPm g os 3 TSc (yQ f (yRd t n 0 p).2) H) os 3) 0 0 (zA B) := by
  refine zMet (by decide) (Nat.le_of_ble_eq_true rfl) ?_
  intro pg e R s m args below meth c Q ls hR hargs hQ S hr hlk hP hZ hS hnm hl
  have hl : lv_has ls 4 [(0, .ref (os)), (1, .int (nI (n)))] := hl
  have h60 := zLen_le t
  obtain ⟨hb1, hb2⟩ := id hb
  have hC : zCh1 os 3 s.heap s.heap := zCh1.rf
  refine z_ic S (k := 0) dX9_readDigits_0 (by decide) ?_
  refine lv_istore_n (lv' := [(2, .int (nI (0))), (0, .ref (os)), (1, .int (nI (n)))]) S.1 S.2.1 dX9_readDigits_1 rfl hl (by decide) rfl (fun ls hl => ?_)
  refine z_ic S (k := 0) dX9_readDigits_2 (by decide) ?_
  refine lv_istore_n (lv' := [(3, .int (nI (0))), (2, .int (nI (0))), (0, .ref (os)), (1, .int (nI (n)))]) S.1 S.2.1 dX9_readDigits_3 rfl hl (by decide) rfl (fun ls hl => ?_)
  have loop : ∀ (k d v q : Nat) (ls : Array Slot) (H : Heap) (locs : List Loc), (d ≤ n) → (n < d + k) → q = p + d → q ≤ 60 → yRd t (n - d) v q = yRd t n 0 p → zPm g os 3 TSc (yQ f q) H → va_S (zA B) s.heap H locs → zCh1 os 3 s.heap H → lv_has ls 4 [(0, .ref os), (1, .int (nI n)), (2, .int (nI v)), (3, .int (nI d))] → W pg l e R s m args below meth c H locs 0 0 Q (F0 m 4 ls []) := by
    intro k
    induction k with
    | zero => intro d v q ls H locs h1 h2; exact absurd h2 (by omega)
    | succ k ih =>
      intro d v q ls H locs h1 h2 hq hq6 he hP hS hC hl
      refine lv_iload_n S.1 S.2.1 dX9_readDigits_4 rfl (lv_at hl 3 rfl) ?_
      refine lv_iload_n S.1 S.2.1 dX9_readDigits_5 rfl (lv_at hl 1 rfl) ?_
      refine z_cge (tgt := 50) S (by omega) (by omega) dX9_readDigits_6 (by decide) (fun h4 => ?_) (fun h4 => ?_)
      · have e8 : yRd t n 0 p = (v, q) := by rw [← he, show n - d = 0 by omega]; rfl
        rw [e8] at hy
        have hy : q ≠ p := hy
        refine lv_iload_n S.1 S.2.1 dX9_readDigits_50 rfl (lv_at hl 3 rfl) ?_
        refine z_ine (tgt := 58) S (by omega) dX9_readDigits_51 (by decide) (fun h9 => ?_) (fun h9 => ?_)
        · refine lv_iload_n S.1 S.2.1 dX9_readDigits_58 rfl (lv_at hl 2 rfl) ?_
          exact z_wi hQ S hr hlk (zn_int _) hS hC ⟨by rw [e8], by rw [e8]; exact hP⟩ dX9_readDigits_59
        · exact absurd h9 (by omega)
      · refine lv_aload_n S.1 S.2.1 dX9_readDigits_9 rfl (lv_at hl 0 rfl) ?_
        refine z_cV (v := some (.int (nI (yDg t q).toNat))) (rest := []) (As := []) S hZ hS (c_X9_digitIsNext l g f t q hb hq6) ci_X9_digitIsNext cv_X9_digitIsNext k782 ⟨rfl, rfl, by rw [hR]; decide, by rw [hR]; decide⟩ hP (hP.recv hZ.1 0 (by decide) rfl rfl rfl) hl.1 rfl (Nat.le_of_ble_eq_true rfl) dX9_readDigits_10 ⟨by rw [hR]; decide, by rw [hR]; decide⟩ rfl ?_
        refine z_beq (tgt := 50) S dX9_readDigits_13 (by decide) (fun h5 => ?_) (fun h5 => ?_)
        · have e8 : yRd t n 0 p = (v, q) := by rw [← he, yRd_s (by omega), h5]; rfl
          rw [e8] at hy
          have hy : q ≠ p := hy
          refine lv_iload_n S.1 S.2.1 dX9_readDigits_50 rfl (lv_at hl 3 rfl) ?_
          refine z_ine (tgt := 58) S (by omega) dX9_readDigits_51 (by decide) (fun h9 => ?_) (fun h9 => ?_)
          · refine lv_iload_n S.1 S.2.1 dX9_readDigits_58 rfl (lv_at hl 2 rfl) ?_
            exact z_wi hQ S hr hlk (zn_int _) hS hC ⟨by rw [e8], by rw [e8]; exact hP⟩ dX9_readDigits_59
          · exact absurd h9 (by omega)
        · have hq3 : q < zLen t ∧ 48 ≤ zCh t q := by unfold yDg at h5; simp only [Bool.and_eq_true, decide_eq_true_eq] at h5; exact ⟨h5.1, h5.2.1⟩
          have hc7 := zCh_lt t q
          refine lv_iload_n S.1 S.2.1 dX9_readDigits_16 rfl (lv_at hl 2 rfl) ?_
          refine z_bi S (k := 10) dX9_readDigits_17 (by decide) ?_
          refine z_mul S dX9_readDigits_19 ?_
          refine lv_aload_n S.1 S.2.1 dX9_readDigits_20 rfl (lv_at hl 0 rfl) ?_
          refine z_get (v := .ref (os + 1)) S hZ.1 hP 0 (by decide) rfl rfl rfl 0 (by decide) rfl k210 dX9_readDigits_21 ?_
          refine lv_aload_n S.1 S.2.1 dX9_readDigits_24 rfl (lv_at hl 0 rfl) ?_
          refine z_get (v := .int (nI (q))) S hZ.1 hP 0 (by decide) rfl rfl rfl 4 (by decide) rfl k216 dX9_readDigits_25 ?_
          refine z_cald S hZ.1 hP 1 (by decide) rfl rfl (i := q) (by omega) (by decide) dX9_readDigits_28 ?_
          rw [show (yQ f q) 1 q = zCh t (q) from hb2 _ (by omega)]
          refine z_bi S (k := 48) dX9_readDigits_29 (by decide) ?_
          refine z_sub S (by omega) dX9_readDigits_31 ?_
          refine z_add S dX9_readDigits_32 ?_
          refine lv_istore_n (lv' := [(2, .int (nI ((v * 10) + ((zCh t (q)) - 48)))), (0, .ref (os)), (1, .int (nI (n))), (3, .int (nI (d)))]) S.1 S.2.1 dX9_readDigits_33 rfl hl (by decide) rfl (fun ls hl => ?_)
          refine lv_aload_n S.1 S.2.1 dX9_readDigits_34 rfl (lv_at hl 1 rfl) ?_
          refine lv_dup S.1 S.2.1 dX9_readDigits_35 rfl ?_
          refine z_get (v := .int (nI (q))) S hZ.1 hP 0 (by decide) rfl rfl rfl 4 (by decide) rfl k216 dX9_readDigits_36 ?_
          refine z_ic S (k := 1) dX9_readDigits_39 (by decide) ?_
          refine z_add S dX9_readDigits_40 ?_
          refine z_put (v := .int (nI (q + 1))) (ty := .int) S hZ.1 hP hS hB 0 (by decide) rfl rfl rfl 4 (by decide) (va_up ((yQ f q) 0) 4 (q + 1)) rfl k216 rfl (by decide +kernel) rfl rfl (Nat.le_of_ble_eq_true rfl) dX9_readDigits_41 (fun H1 locs1 hPn hCn hSn => ?_)
          have hS := hSn
          have hP := hPn
          have hC := hC.tr (hCn.mono (b := os) (k := 3) (by omega) (by omega))
          have hP := hP.eq (yQ_q f q (q + 1))
          refine z_inc S (lv' := [(3, .int (nI (d + 1))), (2, .int (nI ((v * 10) + ((zCh t (q)) - 48)))), (0, .ref (os)), (1, .int (nI (n)))]) (k := 3) (b := 1) dX9_readDigits_44 hl rfl (by decide) (by decide) rfl (fun ls hl => ?_)
          refine lv_goto (tgt := 4) S.1 S.2.1 dX9_readDigits_47 (by decide) ?_
          exact ih (d + 1) ((v * 10) + ((zCh t (q)) - 48)) (q + 1) ls H1 locs1 (by omega) (by omega) (by omega) (by omega) (by rw [← he, yRd_s (d := d) (by omega), if_pos h5]) hP hS hC (lv_sub hl [2, 3, 1, 0] rfl)
  exact loop (n + 1) 0 0 p ls _ _ (Nat.zero_le _) (by omega) rfl hp rfl hP hS hC (lv_sub hl [2, 3, 1, 0] rfl)
theorem ySm_b {t p k : Nat} : ∀ (m i : Nat), p + ySm t p k m i ≤ max (p + i) (zLen t)
  | 0, i => Nat.le_max_left _ _
  | m + 1, i => by
    have h := @ySm_b t p k m (i + 1)
    rw [ySm]
    split
    · omega
    · exact Nat.le_max_left _ _
theorem yRw_b {t p : Nat} : ∀ (m i lg : Nat), p + lg ≤ max p (zLen t) → (yRw t p m i lg).2 ≤ max p (zLen t)
  | 0, i, lg, h => h
  | m + 1, i, lg, h => by
    have h1 := @ySm_b t p i (zLen i) 0
    rw [yRw]
    split
    · exact h1
    · exact yRw_b m _ _ (by omega)
theorem yRd_b {t : Nat} : ∀ (m v p : Nat), (yRd t m v p).2 ≤ max p (zLen t)
  | 0, v, p => Nat.le_max_left _ _
  | m + 1, v, p => by
    rw [yRd]
    split
    case isTrue h =>
      have h1 := @yRd_b t m (v * 10 + (zCh t p - 48)) (p + 1)
      have h2 : p < zLen t := by unfold yDg at h; simp only [Bool.and_eq_true, decide_eq_true_eq] at h; exact h.1
      omega
    · exact Nat.le_max_left _ _
theorem yIs_lt {t p x : Nat} (h : yIs t p x = true) : p < zLen t := by unfold yIs at h; simp only [Bool.and_eq_true, decide_eq_true_eq] at h; exact h.1
theorem yRc_b {t fm : Nat} : ∀ (m i sl p : Nat) (r : Nat → Nat) (q : Nat × (Nat → Nat)), yRc t fm m i sl p r = some q → q.1 ≤ max p (zLen t)
  | 0, i, sl, p, r, q, h => by rw [yRc] at h; cases h; exact Nat.le_max_left _ _
  | m + 1, i, sl, p, r, q, h => by
    have h3 := @yRd_b t (zCh fm i - 48) 0 p
    rw [yRc] at h
    split at h
    · split at h
      case isTrue h1 => have h2 := yRc_b m _ _ _ _ _ h; have := yIs_lt h1; omega
      · cases h
    · split at h
      · split at h
        · split at h
          case isTrue h1 => have h2 := yRc_b m _ _ _ _ _ h; have := yIs_lt h1; omega
          · split at h
            case isTrue h1 => have h2 := yRc_b m _ _ _ _ _ h; have := yIs_lt h1; omega
            · cases h
        · split at h
          · have h2 := yRc_b m _ _ _ _ _ h; omega
          · cases h
      · cases h
theorem ci_X9_countSame : zCI yX9_countSame cX9_countSame 3 (some .int) 1 := ⟨k717, k11, by decide +kernel⟩
theorem cv_X9_countSame : Cond.instanceMethod yX9_countSame ∈ GW ∧ Cond.selects (yX9_countSame).cls yX9_countSame yX9_countSame ∈ GW := ⟨k716, kp17⟩
set_option maxRecDepth 20000 in
set_option maxHeartbeats 4000000 in
/-- Script.countSame(word) -/
theorem c_X9_countSame (l : Launch) (g : ZG) {B : Nat} {os : Nat} (f : Nat → Nat → Nat) (t p : Nat) (hb : yBf f t) (hp : p ≤ 60) (k : Nat) (hk : k < 49) : Met l yX9_countSame (.code yX9_countSame cX9_countSame 3 (some .int) :: GW) { frames := 4, cells := 0, slots := 0, locals := 85 } (va_Pc [.ref os, .ref (g.2 2 k)] (zPre g B (fun H => zPm g os 3 TSc (yQ f p) H))) (zR (some (.int (nI (ySm t p k (zLen k) 0))))) 0 0 (fun _ => False) := by
  refine zMet (by decide) (Nat.le_of_ble_eq_true rfl) ?_
  intro pg e R s m args below meth c Q ls hR hargs hQ S hr hlk hP hZ hS hnm hl
  have hl : lv_has ls 3 [(0, .ref (os)), (1, .ref (g.2 2 k))] := hl
  have h60 := zLen_le t
  obtain ⟨hb1, hb2⟩ := id hb
  have h6k := zLen_le k
  refine z_ic S (k := 0) dX9_countSame_0 (by decide) ?_
  refine lv_istore_n (lv' := [(2, .int (nI (0))), (0, .ref (os)), (1, .ref (g.2 2 k))]) S.1 S.2.1 dX9_countSame_1 rfl hl (by decide) rfl (fun ls hl => ?_)
  have loop : ∀ (n i : Nat) (ls : Array Slot), (i ≤ zLen k) → (zLen k < i + n) → (ySm t p k (zLen k - i) i = ySm t p k (zLen k) 0) → lv_has ls 3 [(0, .ref (os)), (1, .ref (g.2 2 k)), (2, .int (nI (i)))] → W pg l e R s m args below meth c s.heap [] 0 0 Q (F0 m 2 ls []) := by
    intro n
    induction n with
    | zero => intro i ls h1 h2 he hl; exact absurd h2 (by omega)
    | succ n ih =>
      intro i ls h1 h2 he hl
      refine lv_iload_n S.1 S.2.1 dX9_countSame_2 rfl (lv_at hl 2 rfl) ?_
      refine lv_aload_n S.1 S.2.1 dX9_countSame_3 rfl (lv_at hl 1 rfl) ?_
      refine z_cV (v := some (.int (nI (zLen k)))) (rest := [.int (nI (i))]) (As := []) S hZ hS (c_strlen l g k hk (PH := fun _ => True)) ci_J0_length_8abf5 cv_J0_length_8abf5 k718 ⟨rfl, rfl, by rw [hR]; decide, by rw [hR]; decide⟩ trivial (zStrR hZ hk hS) hl.1 rfl (Nat.le_of_ble_eq_true rfl) dX9_countSame_4 ⟨by rw [hR]; decide, by rw [hR]; decide⟩ rfl ?_
      refine z_cge (tgt := 48) S (by omega) (by omega) dX9_countSame_7 (by decide) (fun h4 => ?_) (fun h4 => ?_)
      · refine lv_iload_n S.1 S.2.1 dX9_countSame_48 rfl (lv_at hl 2 rfl) ?_
        exact z_ri hQ S hr hlk (zn_int _) (by rw [← he, show zLen k - i = 0 by omega]; rfl) dX9_countSame_49
      · refine lv_aload_n S.1 S.2.1 dX9_countSame_10 rfl (lv_at hl 0 rfl) ?_
        refine z_get (v := .int (nI (p))) S hZ.1 hP 0 (by decide) rfl rfl rfl 4 (by decide) rfl k216 dX9_countSame_11 ?_
        refine lv_iload_n S.1 S.2.1 dX9_countSame_14 rfl (lv_at hl 2 rfl) ?_
        refine z_add S dX9_countSame_15 ?_
        refine lv_aload_n S.1 S.2.1 dX9_countSame_16 rfl (lv_at hl 0 rfl) ?_
        refine z_get (v := .int (nI (f 0 1))) S hZ.1 hP 0 (by decide) rfl rfl rfl 1 (by decide) rfl k211 dX9_countSame_17 ?_
        rw [hb1]
        refine z_cge (tgt := 48) S (by omega) (by omega) dX9_countSame_20 (by decide) (fun h5 => ?_) (fun h5 => ?_)
        · refine lv_iload_n S.1 S.2.1 dX9_countSame_48 rfl (lv_at hl 2 rfl) ?_
          exact z_ri hQ S hr hlk (zn_int _) (by rw [← he, ySm_s h4, if_neg (fun z => absurd z.1 (by omega))]) dX9_countSame_49
        · refine lv_aload_n S.1 S.2.1 dX9_countSame_23 rfl (lv_at hl 1 rfl) ?_
          refine lv_iload_n S.1 S.2.1 dX9_countSame_24 rfl (lv_at hl 2 rfl) ?_
          refine z_cV (v := some (.int (nI (zCh k i)))) (rest := []) (As := [.int (nI (i))]) S hZ hS (c_charAt l g k hk i h4 (PH := fun _ => True)) ci_J0_charAt_5068e cv_J0_charAt_5068e k728 ⟨rfl, rfl, by rw [hR]; decide, by rw [hR]; decide⟩ trivial (zStrR hZ hk hS) hl.1 rfl (Nat.le_of_ble_eq_true rfl) dX9_countSame_25 ⟨by rw [hR]; decide, by rw [hR]; decide⟩ rfl ?_
          have hc7 := zCh_lt k i
          have hc8 := zCh_lt t (p + i)
          refine lv_aload_n S.1 S.2.1 dX9_countSame_28 rfl (lv_at hl 0 rfl) ?_
          refine z_get (v := .ref (os + 1)) S hZ.1 hP 0 (by decide) rfl rfl rfl 0 (by decide) rfl k210 dX9_countSame_29 ?_
          refine lv_aload_n S.1 S.2.1 dX9_countSame_32 rfl (lv_at hl 0 rfl) ?_
          refine z_get (v := .int (nI (p))) S hZ.1 hP 0 (by decide) rfl rfl rfl 4 (by decide) rfl k216 dX9_countSame_33 ?_
          refine lv_iload_n S.1 S.2.1 dX9_countSame_36 rfl (lv_at hl 2 rfl) ?_
          refine z_add S dX9_countSame_37 ?_
          refine z_cald S hZ.1 hP 1 (by decide) rfl rfl (i := (p + i)) (by omega) (by decide) dX9_countSame_38 ?_
          rw [show (yQ f p) 1 (p + i) = zCh t (p + i) from hb2 _ (by omega)]
          refine z_cne (tgt := 48) S (by omega) (by omega) dX9_countSame_39 (by decide) (fun h6 => ?_) (fun h6 => ?_)
          · refine lv_iload_n S.1 S.2.1 dX9_countSame_48 rfl (lv_at hl 2 rfl) ?_
            exact z_ri hQ S hr hlk (zn_int _) (by rw [← he, ySm_s h4, if_neg (fun z => h6 z.2)]) dX9_countSame_49
          · refine z_inc S (lv' := [(2, .int (nI (i + 1))), (0, .ref (os)), (1, .ref (g.2 2 k))]) (k := 2) (b := 1) dX9_countSame_42 hl rfl (by decide) (by decide) rfl (fun ls hl => ?_)
            refine lv_goto (tgt := 2) S.1 S.2.1 dX9_countSame_45 (by decide) ?_
            exact ih (i + 1) ls (by omega) (by omega) (by rw [← he, ySm_s (i := i) h4, if_pos ⟨h5, h6⟩]) (lv_sub hl [1, 2, 0] rfl)
  exact loop (zLen k + 1) 0 ls (Nat.zero_le _) (by omega) rfl (lv_sub hl [1, 2, 0] rfl)
theorem ci_X9_readWord : zCI yX9_readWord cX9_readWord 4 (some (.object "CandleLoom$Kind")) 0 := ⟨k711, k11, by decide +kernel⟩
theorem cv_X9_readWord : Cond.instanceMethod yX9_readWord ∈ GW ∧ Cond.selects (yX9_readWord).cls yX9_readWord yX9_readWord ∈ GW := ⟨k710, kp16⟩
set_option maxRecDepth 20000 in
set_option maxHeartbeats 4000000 in
/-- Script.readWord() -/
theorem c_X9_readWord (l : Launch) (g : ZG) {B : Nat} {os : Nat} (hB : B ≤ os) (f : Nat → Nat → Nat) (t p : Nat) (hb : yBf f t) (hp : p ≤ 60) (wk wp : Nat) (hw : yRw t p 10 0 0 = (wk, wp)) (V : Value) (hV : V = if wk < 10 then .ref (g.2 1 wk) else .null) : Met l yX9_readWord (.code yX9_readWord cX9_readWord 4 (some (.object "CandleLoom$Kind")) :: GW) { frames := 5, cells := 0, slots := 0, locals := 107 } (va_Pc [.ref os] (zPre g B (fun H => zPm g os 3 TSc (yQ f p) H))) (zX (fun w H => w = some V ∧ zPm g os 3 TSc (yQ f wp) H) os 3) 0 0 (zA B) := by
  refine zMet (by decide) (Nat.le_of_ble_eq_true rfl) ?_
  intro pg e R s m args below meth c Q ls hR hargs hQ S hr hlk hP hZ hS hnm hl
  have hl : lv_has ls 4 [(0, .ref (os))] := hl
  have h60 := zLen_le t
  obtain ⟨hb1, hb2⟩ := id hb
  have hC : zCh1 os 3 s.heap s.heap := zCh1.rf
  refine z_ic S (k := 0) dX9_readWord_0 (by decide) ?_
  refine lv_istore_n (lv' := [(1, .int (nI (0))), (0, .ref (os))]) S.1 S.2.1 dX9_readWord_1 rfl hl (by decide) rfl (fun ls hl => ?_)
  refine z_ic S (k := 0) dX9_readWord_2 (by decide) ?_
  refine lv_istore_n (lv' := [(2, .int (nI (0))), (1, .int (nI (0))), (0, .ref (os))]) S.1 S.2.1 dX9_readWord_3 rfl hl (by decide) rfl (fun ls hl => ?_)
  have loop : ∀ (n i lg : Nat) (ls : Array Slot), (i ≤ 10) → (10 < i + n) → (lg ≤ 60) → (yRw t p (10 - i) i lg = yRw t p 10 0 0) → lv_has ls 4 [(0, .ref (os)), (1, .int (nI (lg))), (2, .int (nI (i)))] → W pg l e R s m args below meth c s.heap [] 0 0 Q (F0 m 4 ls []) := by
    intro n
    induction n with
    | zero => intro i lg ls h1 h2 hlg he hl; exact absurd h2 (by omega)
    | succ n ih =>
      intro i lg ls h1 h2 hlg he hl
      refine lv_iload_n S.1 S.2.1 dX9_readWord_4 rfl (lv_at hl 2 rfl) ?_
      refine va_getsN (A := zA B) S.1 S.2.1 hZ.kinds hS S.2.2.2.1 (va_Nw.use rfl hZ.2.2.2.1) (fun _ h => h) dX9_readWord_5 ?_
      refine va_tlen (v := nI 10) S.1 S.2.1 hZ.kindsT hS rfl dX9_readWord_8 ?_
      refine z_cge (tgt := 68) S (by omega) (by omega) dX9_readWord_9 (by decide) (fun h4 => ?_) (fun h4 => ?_)
      · have e8 : yRw t p 10 0 0 = (10, p + lg) := by rw [← he, show 10 - i = 0 by omega]; rfl
        rw [hw] at e8
        obtain ⟨rfl, rfl⟩ := Prod.mk.inj e8
        refine lv_aload_n S.1 S.2.1 dX9_readWord_68 rfl (lv_at hl 0 rfl) ?_
        refine lv_dup S.1 S.2.1 dX9_readWord_69 rfl ?_
        refine z_get (v := .int (nI (p))) S hZ.1 hP 0 (by decide) rfl rfl rfl 4 (by decide) rfl k216 dX9_readWord_70 ?_
        refine lv_iload_n S.1 S.2.1 dX9_readWord_73 rfl (lv_at hl 1 rfl) ?_
        refine z_add S dX9_readWord_74 ?_
        refine z_put (v := .int (nI (p + lg))) (ty := .int) S hZ.1 hP hS hB 0 (by decide) rfl rfl rfl 4 (by decide) (va_up ((yQ f p) 0) 4 (p + lg)) rfl k216 rfl (by decide +kernel) rfl rfl (Nat.le_of_ble_eq_true rfl) dX9_readWord_75 (fun H1 locs1 hPn hCn hSn => ?_)
        have hS := hSn
        have hP := hPn
        have hC := hC.tr (hCn.mono (b := os) (k := 3) (by omega) (by omega))
        have hP := hP.eq (yQ_q f p (p + lg))
        refine lv_null S.1 S.2.1 dX9_readWord_78 ?_
        exact z_wa hQ S hr hlk (Or.inl ⟨_, rfl⟩) (Or.inl rfl) hS hC ⟨by rw [hV, if_neg (by omega)], hP⟩ dX9_readWord_79
      · have hi49 : i < 49 := by omega
        refine lv_aload_n S.1 S.2.1 dX9_readWord_12 rfl (lv_at hl 0 rfl) ?_
        refine va_getsN (A := zA B) S.1 S.2.1 hZ.kinds hS S.2.2.2.1 (va_Nw.use rfl hZ.2.2.2.1) (fun _ h => h) dX9_readWord_13 ?_
        refine lv_iload_n S.1 S.2.1 dX9_readWord_16 rfl (lv_at hl 2 rfl) ?_
        refine vb_tq (A := zA B) (v := .ref (g.2 1 i)) S.1 S.2.1 hZ.kindsT hS (vp_in_nI (by omega) (by decide)) (by rw [nI_clamp (by omega)]) dX9_readWord_17 ?_
        refine vk_getf S.1 S.2.1 (hZ.word h4) hS S.2.2.2.1 (S.2.2.2.2 _ k1280) (fun _ h => h) dX9_readWord_18 ?_
        refine z_cV (v := some (.int (nI (ySm t p i (zLen i) 0)))) (rest := []) (As := [.ref (g.2 2 i)]) S hZ hS (c_X9_countSame l g f t p hb hp i hi49) ci_X9_countSame cv_X9_countSame k714 ⟨rfl, rfl, by rw [hR]; decide, by rw [hR]; decide⟩ hP (hP.recv hZ.1 0 (by decide) rfl rfl rfl) hl.1 rfl (Nat.le_of_ble_eq_true rfl) dX9_readWord_21 ⟨by rw [hR]; decide, by rw [hR]; decide⟩ rfl ?_
        have hs6 := @ySm_le t p i (zLen i) 0
        have hl6 := zLen_le i
        refine lv_istore_n (lv' := [(3, .int (nI (ySm t p i (zLen i) 0))), (0, .ref (os)), (1, .int (nI (lg))), (2, .int (nI (i)))]) S.1 S.2.1 dX9_readWord_24 rfl hl (by decide) rfl (fun ls hl => ?_)
        refine lv_iload_n S.1 S.2.1 dX9_readWord_25 rfl (lv_at hl 0 rfl) ?_
        refine va_getsN (A := zA B) S.1 S.2.1 hZ.kinds hS S.2.2.2.1 (va_Nw.use rfl hZ.2.2.2.1) (fun _ h => h) dX9_readWord_26 ?_
        refine lv_iload_n S.1 S.2.1 dX9_readWord_29 rfl (lv_at hl 3 rfl) ?_
        refine vb_tq (A := zA B) (v := .ref (g.2 1 i)) S.1 S.2.1 hZ.kindsT hS (vp_in_nI (by omega) (by decide)) (by rw [nI_clamp (by omega)]) dX9_readWord_30 ?_
        refine vk_getf S.1 S.2.1 (hZ.word h4) hS S.2.2.2.1 (S.2.2.2.2 _ k1280) (fun _ h => h) dX9_readWord_31 ?_
        refine z_cV (v := some (.int (nI (zLen i)))) (rest := [.int (nI (ySm t p i (zLen i) 0))]) (As := []) S hZ hS (c_strlen l g i hi49 (PH := fun _ => True)) ci_J0_length_8abf5 cv_J0_length_8abf5 k718 ⟨rfl, rfl, by rw [hR]; decide, by rw [hR]; decide⟩ trivial (zStrR hZ hi49 hS) hl.1 rfl (Nat.le_of_ble_eq_true rfl) dX9_readWord_34 ⟨by rw [hR]; decide, by rw [hR]; decide⟩ rfl ?_
        refine z_cne (tgt := 56) S (by omega) (by omega) dX9_readWord_37 (by decide) (fun h5 => ?_) (fun h5 => ?_)
        · refine lv_iload_n S.1 S.2.1 dX9_readWord_56 rfl (lv_at hl 2 rfl) ?_
          refine lv_iload_n S.1 S.2.1 dX9_readWord_57 rfl (lv_at hl 0 rfl) ?_
          refine z_max S (by omega) (by omega) hl.1 k766 ⟨k767, k21, k768⟩ (by rw [hR]; decide) (by rw [hR]; decide) (by rw [hR]; decide) (by rw [hR]; decide) dX9_readWord_58 ?_
          refine lv_istore_n (lv' := [(1, .int (nI (max lg (ySm t p i (zLen i) 0)))), (3, .int (nI (ySm t p i (zLen i) 0))), (0, .ref (os)), (2, .int (nI (i)))]) S.1 S.2.1 dX9_readWord_61 rfl hl (by decide) rfl (fun ls hl => ?_)
          refine z_inc S (lv' := [(2, .int (nI (i + 1))), (1, .int (nI (max lg (ySm t p i (zLen i) 0)))), (3, .int (nI (ySm t p i (zLen i) 0))), (0, .ref (os))]) (k := 3) (b := 1) dX9_readWord_62 hl rfl (by decide) (by decide) rfl (fun ls hl => ?_)
          refine lv_goto (tgt := 4) S.1 S.2.1 dX9_readWord_65 (by decide) ?_
          exact ih (i + 1) (max lg (ySm t p i (zLen i) 0)) ls (by omega) (by omega) (by omega) (by rw [← he, yRw_s (i := i) (by omega), if_neg h5]) (lv_sub hl [3, 1, 0] rfl)
        · have e8 : yRw t p 10 0 0 = (i, p + ySm t p i (zLen i) 0) := by rw [← he, yRw_s (by omega), if_pos h5]
          rw [hw] at e8
          obtain ⟨e7, rfl⟩ := Prod.mk.inj e8
          refine lv_aload_n S.1 S.2.1 dX9_readWord_40 rfl (lv_at hl 1 rfl) ?_
          refine lv_dup S.1 S.2.1 dX9_readWord_41 rfl ?_
          refine z_get (v := .int (nI (p))) S hZ.1 hP 0 (by decide) rfl rfl rfl 4 (by decide) rfl k216 dX9_readWord_42 ?_
          refine lv_iload_n S.1 S.2.1 dX9_readWord_45 rfl (lv_at hl 0 rfl) ?_
          refine z_add S dX9_readWord_46 ?_
          refine z_put (v := .int (nI (p + (ySm t p i (zLen i) 0)))) (ty := .int) S hZ.1 hP hS hB 0 (by decide) rfl rfl rfl 4 (by decide) (va_up ((yQ f p) 0) 4 (p + (ySm t p i (zLen i) 0))) rfl k216 rfl (by decide +kernel) rfl rfl (Nat.le_of_ble_eq_true rfl) dX9_readWord_47 (fun H1 locs1 hPn hCn hSn => ?_)
          have hS := hSn
          have hP := hPn
          have hC := hC.tr (hCn.mono (b := os) (k := 3) (by omega) (by omega))
          have hP := hP.eq (yQ_q f p _)
          refine va_getsN (A := zA B) S.1 S.2.1 hZ.kinds hS S.2.2.2.1 (va_Nw.use rfl hZ.2.2.2.1) (fun _ h => h) dX9_readWord_50 ?_
          refine lv_iload_n S.1 S.2.1 dX9_readWord_53 rfl (lv_at hl 3 rfl) ?_
          refine vb_tq (A := zA B) (v := .ref (g.2 1 i)) S.1 S.2.1 hZ.kindsT hS (vp_in_nI (by omega) (by decide)) (by rw [nI_clamp (by omega)]) dX9_readWord_54 ?_
          exact z_wa hQ S hr hlk (Or.inl ⟨_, rfl⟩) (Or.inr ⟨_, rfl⟩) hS hC ⟨by rw [hV, e7, if_pos (by omega)], hP⟩ dX9_readWord_55
  exact loop 11 0 0 ls (Nat.zero_le _) (by omega) (by omega) rfl (lv_sub hl [2, 1, 0] rfl)
theorem ci_X9_readSide : zCI yX9_readSide cX9_readSide 1 (some .int) 0 := ⟨k777, k11, by decide +kernel⟩
theorem cv_X9_readSide : Cond.instanceMethod yX9_readSide ∈ GW ∧ Cond.selects (yX9_readSide).cls yX9_readSide yX9_readSide ∈ GW := ⟨k776, kp19⟩
set_option maxRecDepth 20000 in
set_option maxHeartbeats 4000000 in
/-- Script.readSide(), l -/
theorem c_X9_readSide_l (l : Launch) (g : ZG) {B : Nat} {os : Nat} (hB : B ≤ os) (f : Nat → Nat → Nat) (t p : Nat) (hb : yBf f t) (hp : p ≤ 60) (hs : yIs t p 108 = true) : Met l yX9_readSide (.code yX9_readSide cX9_readSide 1 (some .int) :: GW) { frames := 1, cells := 0, slots := 0, locals := 21 } (va_Pc [.ref os] (zPre g B (fun H => zPm g os 3 TSc (yQ f p) H))) (zX (fun w H => w = some (.int (nI 108)) ∧ zPm g os 3 TSc (yQ f (p + 1)) H) os 3) 0 0 (zA B) := by
  refine zMet (by decide) (Nat.le_of_ble_eq_true rfl) ?_
  intro pg e R s m args below meth c Q ls hR hargs hQ S hr hlk hP hZ hS hnm hl
  have hl : lv_has ls 1 [(0, .ref (os))] := hl
  have h60 := zLen_le t
  obtain ⟨hb1, hb2⟩ := id hb
  have hC : zCh1 os 3 s.heap s.heap := zCh1.rf
  refine lv_aload_n S.1 S.2.1 dX9_readSide_0 rfl (lv_at hl 0 rfl) ?_
  refine z_bi S (k := 108) dX9_readSide_1 (by decide) ?_
  refine z_w1 (v0 := some (.int (nI (yIs t p 108).toNat))) (rest := []) (As := [.int (nI (108))]) S hZ hS (c_X9_readSign l g hB f t p hb hp 108 (by decide)) (by omega) ci_X9_readSign cv_X9_readSign k770 ⟨rfl, rfl, by rw [hR]; exact Nat.le_of_ble_eq_true rfl, by rw [hR]; exact Nat.le_of_ble_eq_true rfl⟩ hP (hP.recv hZ.1 0 (by decide) rfl rfl rfl) hl.1 rfl (Nat.le_of_ble_eq_true rfl) dX9_readSide_3 ⟨by rw [hR]; exact Nat.le_of_ble_eq_true rfl, by rw [hR]; exact Nat.le_of_ble_eq_true rfl⟩ rfl (fun H1 locs1 hPn hCn hSn => ?_)
  have hS := hSn
  have hP := hPn
  have hC := hC.tr (hCn.mono (b := os) (k := 3) (by omega) (by omega))
  rw [hs] at hP ⊢
  refine z_beq (tgt := 12) S dX9_readSide_6 (by decide) (fun h1 => ?_) (fun h1 => ?_)
  · exact absurd h1 (by decide)
  · refine z_bi S (k := 108) dX9_readSide_9 (by decide) ?_
    exact z_wi hQ S hr hlk (zn_int _) hS hC ⟨rfl, hP⟩ dX9_readSide_11
set_option maxRecDepth 20000 in
set_option maxHeartbeats 4000000 in
/-- Script.readSide(), r -/
theorem c_X9_readSide_r (l : Launch) (g : ZG) {B : Nat} {os : Nat} (hB : B ≤ os) (f : Nat → Nat → Nat) (t p : Nat) (hb : yBf f t) (hp : p ≤ 60) (hs : yIs t p 108 = false) (hs2 : yIs t p 114 = true) : Met l yX9_readSide (.code yX9_readSide cX9_readSide 1 (some .int) :: GW) { frames := 1, cells := 0, slots := 0, locals := 21 } (va_Pc [.ref os] (zPre g B (fun H => zPm g os 3 TSc (yQ f p) H))) (zX (fun w H => w = some (.int (nI 114)) ∧ zPm g os 3 TSc (yQ f (p + 1)) H) os 3) 0 0 (zA B) := by
  refine zMet (by decide) (Nat.le_of_ble_eq_true rfl) ?_
  intro pg e R s m args below meth c Q ls hR hargs hQ S hr hlk hP hZ hS hnm hl
  have hl : lv_has ls 1 [(0, .ref (os))] := hl
  have h60 := zLen_le t
  obtain ⟨hb1, hb2⟩ := id hb
  have hC : zCh1 os 3 s.heap s.heap := zCh1.rf
  refine lv_aload_n S.1 S.2.1 dX9_readSide_0 rfl (lv_at hl 0 rfl) ?_
  refine z_bi S (k := 108) dX9_readSide_1 (by decide) ?_
  refine z_w1 (v0 := some (.int (nI (yIs t p 108).toNat))) (rest := []) (As := [.int (nI (108))]) S hZ hS (c_X9_readSign l g hB f t p hb hp 108 (by decide)) (by omega) ci_X9_readSign cv_X9_readSign k770 ⟨rfl, rfl, by rw [hR]; exact Nat.le_of_ble_eq_true rfl, by rw [hR]; exact Nat.le_of_ble_eq_true rfl⟩ hP (hP.recv hZ.1 0 (by decide) rfl rfl rfl) hl.1 rfl (Nat.le_of_ble_eq_true rfl) dX9_readSide_3 ⟨by rw [hR]; exact Nat.le_of_ble_eq_true rfl, by rw [hR]; exact Nat.le_of_ble_eq_true rfl⟩ rfl (fun H1 locs1 hPn hCn hSn => ?_)
  have hS := hSn
  have hP := hPn
  have hC := hC.tr (hCn.mono (b := os) (k := 3) (by omega) (by omega))
  rw [hs] at hP ⊢
  refine z_beq (tgt := 12) S dX9_readSide_6 (by decide) (fun h1 => ?_) (fun h1 => ?_)
  · have hP := hP.eq (show yQ f (p + (false).toNat) = yQ f p from rfl)
    refine lv_aload_n S.1 S.2.1 dX9_readSide_12 rfl (lv_at hl 0 rfl) ?_
    refine z_bi S (k := 114) dX9_readSide_13 (by decide) ?_
    refine z_w1 (v0 := some (.int (nI (yIs t p 114).toNat))) (rest := []) (As := [.int (nI (114))]) S hZ hS (c_X9_readSign l g hB f t p hb hp 114 (by decide)) (by omega) ci_X9_readSign cv_X9_readSign k770 ⟨rfl, rfl, by rw [hR]; exact Nat.le_of_ble_eq_true rfl, by rw [hR]; exact Nat.le_of_ble_eq_true rfl⟩ hP (hP.recv hZ.1 0 (by decide) rfl rfl rfl) hl.1 rfl (Nat.le_of_ble_eq_true rfl) dX9_readSide_15 ⟨by rw [hR]; exact Nat.le_of_ble_eq_true rfl, by rw [hR]; exact Nat.le_of_ble_eq_true rfl⟩ rfl (fun H1 locs1 hPn hCn hSn => ?_)
    have hS := hSn
    have hP := hPn
    have hC := hC.tr (hCn.mono (b := os) (k := 3) (by omega) (by omega))
    rw [hs2] at hP ⊢
    refine z_beq (tgt := 26) S dX9_readSide_18 (by decide) (fun h2 => ?_) (fun h2 => ?_)
    · exact absurd h2 (by decide)
    · refine z_bi S (k := 114) dX9_readSide_21 (by decide) ?_
      refine lv_goto (tgt := 27) S.1 S.2.1 dX9_readSide_23 (by decide) ?_
      exact z_wi hQ S hr hlk (zn_int _) hS hC ⟨rfl, hP⟩ dX9_readSide_27
  · exact absurd h1 (by decide)
/-- the script: its cells and its ten commands -/
def zSo (g : ZG) (os : Nat) (f : Nat → Nat → Nat) (cm : Nat → Nat → Nat) (H : Heap) : Prop := zPm g os 3 TSc f H ∧ ∀ i, i < 10 → zPm g (os + 3 + i) 1 TCo (fun _ => cm i) H
theorem zSo.kept {g : ZG} {os a n : Nat} {f : Nat → Nat → Nat} {cm : Nat → Nat → Nat} {H H1 : Heap} (h : zSo g os f cm H) (hc : zCh1 a n H H1) (hd : os + 13 ≤ a ∨ a + n ≤ os) : zSo g os f cm H1 := ⟨h.1.kept hc (by omega), fun i hi => (h.2 i hi).kept hc (by omega)⟩
theorem zPm.one {g : ZG} {oc : Nat} {f : Nat → Nat → Nat} {r : Nat → Nat} {H : Heap} (h : zPm g oc 1 TCo f H) (e : f 0 = r) : zPm g oc 1 TCo (fun _ => r) H := h.cg (fun q hq x hv => by match q, hq with | 0, _ => rw [← e]; exact hv | q + 1, hq => exact absurd hq (by omega))
theorem zUpd {g : ZG} {os oc : Nat} {cm : Nat → Nat → Nat} {r : Nat → Nat} {H : Heap} (j : Nat) (hj : j < 10) (hoc : oc = os + 3 + j) (hCo : zPm g oc 1 TCo (fun _ => r) H) (hM : ∀ i, i < 10 → i ≠ j → zPm g (os + 3 + i) 1 TCo (fun _ => cm i) H) : ∀ i, i < 10 → zPm g (os + 3 + i) 1 TCo (fun _ => va_up cm j r i) H := fun i hi => by
  by_cases e : i = j
  · subst e; rw [show va_up cm i r i = r from if_pos rfl, ← hoc]; exact hCo
  · rw [show va_up cm j r i = cm i from if_neg e]; exact hM i hi e
theorem yCd_u {t p : Nat} {x : Nat × (Nat → Nat)} (h : yCd t p = some x) : ∃ k wp, yRw t p 10 0 0 = (k, wp) ∧ k < 10 ∧ yRc t (zFm k) (zLen (zFm k)) 0 0 wp (zCb k 0 0 0) = some x := by
  unfold yCd at h
  split at h
  case isTrue h1 => exact ⟨_, _, rfl, h1, h⟩
  · cases h
theorem yPa_u {t m p : Nat} {D L : List (Nat → Nat)} (h : yPa t (m + 1) p D = some L) : D.length < 10 ∧ ∃ q r, yCd t p = some (q, r) ∧ ((yIs t q 59 = true ∧ yPa t m (q + 1) (D ++ [r]) = some L) ∨ (yIs t q 59 = false ∧ q = zLen t ∧ D ++ [r] = L)) := by
  rw [yPa] at h
  split at h
  case isTrue h1 =>
    refine ⟨h1, ?_⟩
    cases e : yCd t p with
    | none => rw [e] at h; cases h
    | some x =>
      rw [e] at h
      obtain ⟨q, r⟩ := x
      have h : (if yIs t q 59 = true then yPa t m (q + 1) (D ++ [r]) else if q = zLen t then some (D ++ [r]) else none) = some L := h
      refine ⟨q, r, rfl, ?_⟩
      by_cases h2 : yIs t q 59 = true
      · rw [if_pos h2] at h; exact Or.inl ⟨h2, h⟩
      · rw [if_neg h2] at h
        by_cases h3 : q = zLen t
        · rw [if_pos h3] at h; exact Or.inr ⟨by simpa using h2, h3, Option.some.inj h⟩
        · rw [if_neg h3] at h; cases h
  · cases h
/-- one part of the form -/
theorem yRc_sp {t fm i sl p : Nat} {r : Nat → Nat} {x : Nat × (Nat → Nat)} (hi : i < zLen fm) (h : yRc t fm (zLen fm - i) i sl p r = some x) (hc : zCh fm i = 32) : yIs t p 32 = true ∧ yRc t fm (zLen fm - (i + 1)) (i + 1) sl (p + 1) r = some x := by
  rw [yRc_s hi, yRc, if_pos hc] at h
  split at h
  case isTrue h1 => exact ⟨h1, h⟩
  · cases h
theorem yRc_si {t fm i sl p : Nat} {r : Nat → Nat} {x : Nat × (Nat → Nat)} (hi : i < zLen fm) (h : yRc t fm (zLen fm - i) i sl p r = some x) (hc : zCh fm i = 115) : sl < 3 ∧ ((yIs t p 108 = true ∧ yRc t fm (zLen fm - (i + 1)) (i + 1) (sl + 1) (p + 1) (va_up r (sl + 1) 108) = some x) ∨ (yIs t p 108 = false ∧ yIs t p 114 = true ∧ yRc t fm (zLen fm - (i + 1)) (i + 1) (sl + 1) (p + 1) (va_up r (sl + 1) 114) = some x)) := by
  rw [yRc_s hi, yRc, if_neg (by omega)] at h
  split at h
  case isTrue h1 =>
    refine ⟨h1, ?_⟩
    split at h
    case isTrue h2 => exact Or.inl ⟨h2, h⟩
    case isFalse h2 =>
      split at h
      case isTrue h3 => exact Or.inr ⟨by simpa using h2, h3, h⟩
      · cases h
  · cases h
theorem yRc_di {t fm i sl p : Nat} {r : Nat → Nat} {x : Nat × (Nat → Nat)} (hi : i < zLen fm) (h : yRc t fm (zLen fm - i) i sl p r = some x) (hc : ¬ zCh fm i = 32) (hc2 : ¬ zCh fm i = 115) : sl < 3 ∧ 48 ≤ zCh fm i ∧ (yRd t (zCh fm i - 48) 0 p).2 ≠ p ∧ (yRd t (zCh fm i - 48) 0 p).1 < 100000 ∧ yRc t fm (zLen fm - (i + 1)) (i + 1) (sl + 1) (yRd t (zCh fm i - 48) 0 p).2 (va_up r (sl + 1) (yRd t (zCh fm i - 48) 0 p).1) = some x := by
  rw [yRc_s hi, yRc, if_neg hc] at h
  split at h
  case isTrue h1 =>
    refine ⟨h1, ?_⟩
    split at h
    case isTrue h2 => exact ⟨h2.1, h2.2.1, h2.2.2, h⟩
    · cases h
  · cases h
theorem ci_X9_readCommand : zCI yX9_readCommand cX9_readCommand 7 (some .boolean) 1 := ⟨k707, k11, by decide +kernel⟩
theorem cv_X9_readCommand : Cond.instanceMethod yX9_readCommand ∈ GW ∧ Cond.selects (yX9_readCommand).cls yX9_readCommand yX9_readCommand ∈ GW := ⟨k706, kp15⟩
set_option maxRecDepth 20000 in
set_option maxHeartbeats 4000000 in
/-- Script.readCommand(command), where it reads one -/
theorem c_X9_readCommand (l : Launch) (g : ZG) {B : Nat} {os oc j : Nat} (hB : B ≤ os) (f : Nat → Nat → Nat) (t p : Nat) (hb : yBf f t) (hp : p ≤ 60) (hj : j < 10) (hoc : oc = os + 3 + j) (cm : Nat → Nat → Nat) (q : Nat) (r : Nat → Nat) (hx : yCd t p = some (q, r)) : Met l yX9_readCommand (.code yX9_readCommand cX9_readCommand 7 (some .boolean) :: GW) { frames := 6, cells := 0, slots := 0, locals := 130 } (va_Pc [.ref os, .ref oc] (zPre g B (fun H => zSo g os (yQ f p) cm H))) (zX (fun w H => w = some (.int (nI 1)) ∧ zSo g os (yQ f q) (va_up cm j r) H) os 13) 0 0 (zA B) := by
  refine zMet (by decide) (Nat.le_of_ble_eq_true rfl) ?_
  intro pg e R s m args below meth c Q ls hR hargs hQ S hr hlk hP hZ hS hnm hl
  have hl : lv_has ls 7 [(0, .ref (os)), (1, .ref (oc))] := hl
  have h60 := zLen_le t
  obtain ⟨hb1, hb2⟩ := id hb
  have hC : zCh1 os 13 s.heap s.heap := zCh1.rf
  obtain ⟨hP, hM0⟩ := hP
  have hCo : zPm g oc 1 TCo (fun _ => cm j) s.heap := by rw [hoc]; exact hM0 j hj
  have hM : ∀ i, i < 10 → i ≠ j → zPm g (os + 3 + i) 1 TCo (fun _ => cm i) s.heap := fun i hi _ => hM0 i hi
  obtain ⟨k, wp, hw, hk, hrc⟩ := yCd_u hx
  have hwp : wp ≤ 60 := by have h := @yRw_b t p 10 0 0 (by omega); rw [hw] at h; omega
  refine lv_aload_n S.1 S.2.1 dX9_readCommand_0 rfl (lv_at hl 0 rfl) ?_
  refine z_w1 (v0 := some (.ref (g.2 1 k))) (rest := []) (As := []) S hZ hS (c_X9_readWord l g hB f t p hb hp k wp hw (.ref (g.2 1 k)) (by rw [if_pos hk])) (by omega) ci_X9_readWord cv_X9_readWord k708 ⟨rfl, rfl, by rw [hR]; exact Nat.le_of_ble_eq_true rfl, by rw [hR]; exact Nat.le_of_ble_eq_true rfl⟩ hP (hP.recv hZ.1 0 (by decide) rfl rfl rfl) hl.1 rfl (Nat.le_of_ble_eq_true rfl) dX9_readCommand_1 ⟨by rw [hR]; exact Nat.le_of_ble_eq_true rfl, by rw [hR]; exact Nat.le_of_ble_eq_true rfl⟩ rfl (fun H1 locs1 hPn hCn hSn => ?_)
  have hS := hSn
  have hM : ∀ i, i < 10 → i ≠ j → zPm g (os + 3 + i) 1 TCo (fun _ => cm i) H1 := fun i hi hij => (hM i hi hij).kept hCn (by omega)
  have hCo := hCo.kept hCn (by omega)
  have hP := hPn
  have hC := hC.tr (hCn.mono (b := os) (k := 13) (by omega) (by omega))
  refine lv_astore_n (lv' := [(2, .ref (g.2 1 k)), (0, .ref (os)), (1, .ref (oc))]) S.1 S.2.1 dX9_readCommand_4 rfl hl (by decide) rfl (fun ls hl => ?_)
  refine lv_aload_n S.1 S.2.1 dX9_readCommand_5 rfl (lv_at hl 0 rfl) ?_
  refine lv_ifnonnull (tgt := 11) S.1 S.2.1 dX9_readCommand_6 (by decide) ?_
  refine lv_aload_n S.1 S.2.1 dX9_readCommand_11 rfl (lv_at hl 2 rfl) ?_
  refine lv_aload_n S.1 S.2.1 dX9_readCommand_12 rfl (lv_at hl 0 rfl) ?_
  refine z_ic S (k := 0) dX9_readCommand_13 (by decide) ?_
  refine z_ic S (k := 0) dX9_readCommand_14 (by decide) ?_
  refine z_ic S (k := 0) dX9_readCommand_15 (by decide) ?_
  refine z_w1 (v0 := some (.ref (oc))) (rest := []) (As := [.ref (g.2 1 k), .int (nI (0)), .int (nI (0)), .int (nI (0))]) S hZ hS (c_X2_become l g (by omega) (fun _ => cm j) k 0 0 0) (by omega) ci_X2_become cv_X2_become k769 ⟨rfl, rfl, by rw [hR]; exact Nat.le_of_ble_eq_true rfl, by rw [hR]; exact Nat.le_of_ble_eq_true rfl⟩ hCo (hCo.recv hZ.1 0 (by decide) rfl rfl rfl) hl.1 rfl (Nat.le_of_ble_eq_true rfl) dX9_readCommand_16 ⟨by rw [hR]; exact Nat.le_of_ble_eq_true rfl, by rw [hR]; exact Nat.le_of_ble_eq_true rfl⟩ rfl (fun H1 locs1 hPn hCn hSn => ?_)
  have hS := hSn
  have hM : ∀ i, i < 10 → i ≠ j → zPm g (os + 3 + i) 1 TCo (fun _ => cm i) H1 := fun i hi hij => (hM i hi hij).kept hCn (by omega)
  have hP := hP.kept hCn (by omega)
  have hCo := hPn
  have hC := hC.tr (hCn.mono (b := os) (k := 13) (by omega) (by omega))
  have hCo := hCo.one (r := zCb k 0 0 0) rfl
  refine lv_pop S.1 S.2.1 dX9_readCommand_19 rfl ?_
  refine z_ic S (k := 0) dX9_readCommand_20 (by decide) ?_
  refine lv_istore_n (lv' := [(3, .int (nI (0))), (2, .ref (g.2 1 k)), (0, .ref (os)), (1, .ref (oc))]) S.1 S.2.1 dX9_readCommand_21 rfl hl (by decide) rfl (fun ls hl => ?_)
  refine z_ic S (k := 0) dX9_readCommand_22 (by decide) ?_
  refine lv_istore (lv' := [(4, .int (nI (0))), (3, .int (nI (0))), (2, .ref (g.2 1 k)), (0, .ref (os)), (1, .ref (oc))]) S.1 S.2.1 dX9_readCommand_23 hl (by decide) rfl (fun ls hl => ?_)
  have loop : ∀ (z i sl pp : Nat) (rr : Nat → Nat) (ls : Array Slot) (H : Heap) (locs : List Loc), (i ≤ zLen (zFm k)) → (zLen (zFm k) < i + z) → pp ≤ 60 → yRc t (zFm k) (zLen (zFm k) - i) i sl pp rr = some (q, r) → zPm g os 3 TSc (yQ f pp) H → zPm g oc 1 TCo (fun _ => rr) H → (∀ i, i < 10 → i ≠ j → zPm g (os + 3 + i) 1 TCo (fun _ => cm i) H) → va_S (zA B) s.heap H locs → zCh1 os 13 s.heap H → lv_has ls 7 [(0, .ref os), (1, .ref oc), (2, .ref (g.2 1 k)), (3, .int (nI sl)), (4, .int (nI i))] → W pg l e R s m args below meth c H locs 0 0 Q (F0 m 25 ls []) := by
    intro z
    induction z with
    | zero => intro i sl pp rr ls H locs h1 h2; exact absurd h2 (by omega)
    | succ z ih =>
      intro i sl pp rr ls H locs h1 h2 hpp he hP hCo hM hS hC hl
      have hfm := zFm_lt k hk
      have hf6 := zLen_le (zFm k)
      refine lv_iload S.1 S.2.1 dX9_readCommand_25 (lv_at hl 4 rfl) ?_
      refine lv_aload_n S.1 S.2.1 dX9_readCommand_27 rfl (lv_at hl 2 rfl) ?_
      refine vk_getf S.1 S.2.1 (hZ.form hk) hS S.2.2.2.1 (S.2.2.2.2 _ k1281) (fun _ h => h) dX9_readCommand_28 ?_
      refine z_cV (v := some (.int (nI (zLen (zFm k))))) (rest := [.int (nI (i))]) (As := []) S hZ hS (c_strlen l g (zFm k) hfm (PH := fun _ => True)) ci_J0_length_8abf5 cv_J0_length_8abf5 k718 ⟨rfl, rfl, by rw [hR]; decide, by rw [hR]; decide⟩ trivial (zStrR hZ hfm hS) hl.1 rfl (Nat.le_of_ble_eq_true rfl) dX9_readCommand_31 ⟨by rw [hR]; decide, by rw [hR]; decide⟩ rfl ?_
      refine z_cge (tgt := 114) S (by omega) (by omega) dX9_readCommand_34 (by decide) (fun h4 => ?_) (fun h4 => ?_)
      · rw [show zLen (zFm k) - i = 0 by omega, yRc] at he
        obtain ⟨rfl, rfl⟩ := Prod.mk.inj (Option.some.inj he)
        refine z_ic S (k := 1) dX9_readCommand_114 (by decide) ?_
        exact z_wi hQ S hr hlk rfl hS hC ⟨rfl, hP, zUpd j hj hoc hCo hM⟩ dX9_readCommand_115
      · refine lv_aload_n S.1 S.2.1 dX9_readCommand_37 rfl (lv_at hl 2 rfl) ?_
        refine vk_getf S.1 S.2.1 (hZ.form hk) hS S.2.2.2.1 (S.2.2.2.2 _ k1281) (fun _ h => h) dX9_readCommand_38 ?_
        refine lv_iload S.1 S.2.1 dX9_readCommand_41 (lv_at hl 4 rfl) ?_
        refine z_cV (v := some (.int (nI (zCh (zFm k) i)))) (rest := []) (As := [.int (nI (i))]) S hZ hS (c_charAt l g (zFm k) hfm i h4 (PH := fun _ => True)) ci_J0_charAt_5068e cv_J0_charAt_5068e k728 ⟨rfl, rfl, by rw [hR]; decide, by rw [hR]; decide⟩ trivial (zStrR hZ hfm hS) hl.1 rfl (Nat.le_of_ble_eq_true rfl) dX9_readCommand_43 ⟨by rw [hR]; decide, by rw [hR]; decide⟩ rfl ?_
        have hc7 := zCh_lt (zFm k) i
        refine lv_istore (lv' := [(5, .int (nI (zCh (zFm k) i))), (0, .ref (os)), (1, .ref (oc)), (2, .ref (g.2 1 k)), (3, .int (nI (sl))), (4, .int (nI (i)))]) S.1 S.2.1 dX9_readCommand_46 hl (by decide) rfl (fun ls hl => ?_)
        refine lv_iload S.1 S.2.1 dX9_readCommand_48 (lv_at hl 0 rfl) ?_
        refine z_bi S (k := 32) dX9_readCommand_50 (by decide) ?_
        refine z_cne (tgt := 66) S (by omega) (by omega) dX9_readCommand_52 (by decide) (fun h5 => ?_) (fun h5 => ?_)
        · refine lv_iload S.1 S.2.1 dX9_readCommand_66 (lv_at hl 0 rfl) ?_
          refine z_bi S (k := 115) dX9_readCommand_68 (by decide) ?_
          refine z_cne (tgt := 80) S (by omega) (by omega) dX9_readCommand_70 (by decide) (fun h6 => ?_) (fun h6 => ?_)
          · obtain ⟨hsl, h48, hy, hv9, he2⟩ := yRc_di h4 he h5 h6
            have hqb := @yRd_b t (zCh (zFm k) i - 48) 0 pp
            refine lv_aload_n S.1 S.2.1 dX9_readCommand_80 rfl (lv_at hl 1 rfl) ?_
            refine lv_iload S.1 S.2.1 dX9_readCommand_81 (lv_at hl 0 rfl) ?_
            refine z_bi S (k := 48) dX9_readCommand_83 (by decide) ?_
            refine z_sub S h48 dX9_readCommand_85 ?_
            refine z_w1 (v0 := some (.int (nI ((yRd t (zCh (zFm k) i - 48) 0 pp).1)))) (rest := []) (As := [.int (nI ((zCh (zFm k) i) - 48))]) S hZ hS (c_X9_readDigits l g hB f t pp hb hpp (zCh (zFm k) i - 48) (by omega) hy) (by omega) ci_X9_readDigits cv_X9_readDigits k778 ⟨rfl, rfl, by rw [hR]; exact Nat.le_of_ble_eq_true rfl, by rw [hR]; exact Nat.le_of_ble_eq_true rfl⟩ hP (hP.recv hZ.1 0 (by decide) rfl rfl rfl) hl.1 rfl (Nat.le_of_ble_eq_true rfl) dX9_readCommand_86 ⟨by rw [hR]; exact Nat.le_of_ble_eq_true rfl, by rw [hR]; exact Nat.le_of_ble_eq_true rfl⟩ rfl (fun H1 locs1 hPn hCn hSn => ?_)
            have hS := hSn
            have hM : ∀ i, i < 10 → i ≠ j → zPm g (os + 3 + i) 1 TCo (fun _ => cm i) H1 := fun i hi hij => (hM i hi hij).kept hCn (by omega)
            have hCo := hCo.kept hCn (by omega)
            have hP := hPn
            have hC := hC.tr (hCn.mono (b := os) (k := 13) (by omega) (by omega))
            refine lv_istore (lv' := [(6, .int (nI ((yRd t (zCh (zFm k) i - 48) 0 pp).1))), (5, .int (nI (zCh (zFm k) i))), (0, .ref (os)), (1, .ref (oc)), (2, .ref (g.2 1 k)), (3, .int (nI (sl))), (4, .int (nI (i)))]) S.1 S.2.1 dX9_readCommand_89 hl (by decide) rfl (fun ls hl => ?_)
            refine lv_iload S.1 S.2.1 dX9_readCommand_91 (lv_at hl 0 rfl) ?_
            refine z_ige (tgt := 98) S (by omega) dX9_readCommand_93 (by decide) ?_
            refine lv_aload_n S.1 S.2.1 dX9_readCommand_98 rfl (lv_at hl 3 rfl) ?_
            refine lv_iload_n S.1 S.2.1 dX9_readCommand_99 rfl (lv_at hl 5 rfl) ?_
            refine lv_iload S.1 S.2.1 dX9_readCommand_100 (lv_at hl 0 rfl) ?_
            refine z_w1 (v0 := none) (rest := []) (As := [.int (nI (sl)), .int (nI ((yRd t (zCh (zFm k) i - 48) 0 pp).1))]) S hZ hS (c_X2_put l g (by omega) (fun _ => rr) sl ((yRd t (zCh (zFm k) i - 48) 0 pp).1) hsl) (by omega) ci_X2_put cv_X2_put k786 ⟨rfl, rfl, by rw [hR]; exact Nat.le_of_ble_eq_true rfl, by rw [hR]; exact Nat.le_of_ble_eq_true rfl⟩ hCo (hCo.recv hZ.1 0 (by decide) rfl rfl rfl) hl.1 rfl (Nat.le_of_ble_eq_true rfl) dX9_readCommand_102 ⟨by rw [hR]; exact Nat.le_of_ble_eq_true rfl, by rw [hR]; exact Nat.le_of_ble_eq_true rfl⟩ rfl (fun H1 locs1 hPn hCn hSn => ?_)
            have hS := hSn
            have hM : ∀ i, i < 10 → i ≠ j → zPm g (os + 3 + i) 1 TCo (fun _ => cm i) H1 := fun i hi hij => (hM i hi hij).kept hCn (by omega)
            have hP := hP.kept hCn (by omega)
            have hCo := hPn
            have hC := hC.tr (hCn.mono (b := os) (k := 13) (by omega) (by omega))
            have hCo := hCo.one (r := va_up rr (sl + 1) ((yRd t (zCh (zFm k) i - 48) 0 pp).1)) rfl
            refine z_inc S (lv' := [(3, .int (nI (sl + 1))), (6, .int (nI ((yRd t (zCh (zFm k) i - 48) 0 pp).1))), (5, .int (nI (zCh (zFm k) i))), (0, .ref (os)), (1, .ref (oc)), (2, .ref (g.2 1 k)), (4, .int (nI (i)))]) (k := 5) (b := 1) dX9_readCommand_105 hl rfl (by decide) (by decide) rfl (fun ls hl => ?_)
            refine z_inc S (lv' := [(4, .int (nI (i + 1))), (3, .int (nI (sl + 1))), (6, .int (nI ((yRd t (zCh (zFm k) i - 48) 0 pp).1))), (5, .int (nI (zCh (zFm k) i))), (0, .ref (os)), (1, .ref (oc)), (2, .ref (g.2 1 k))]) (k := 6) (b := 1) dX9_readCommand_108 hl rfl (by decide) (by decide) rfl (fun ls hl => ?_)
            refine lv_goto (tgt := 25) S.1 S.2.1 dX9_readCommand_111 (by decide) ?_
            exact ih (i + 1) (sl + 1) ((yRd t (zCh (zFm k) i - 48) 0 pp).2) (va_up rr (sl + 1) ((yRd t (zCh (zFm k) i - 48) 0 pp).1)) ls H1 locs1 (by omega) (by omega) (by omega) he2 hP hCo hM hS hC (lv_sub hl [4, 5, 6, 1, 0] rfl)
          · obtain ⟨hsl, hs | hs⟩ := yRc_si h4 he h6
            · have hpl := yIs_lt hs.1
              refine lv_aload_n S.1 S.2.1 dX9_readCommand_73 rfl (lv_at hl 1 rfl) ?_
              refine z_w1 (v0 := some (.int (nI (108)))) (rest := []) (As := []) S hZ hS (c_X9_readSide_l l g hB f t pp hb hpp hs.1) (by omega) ci_X9_readSide cv_X9_readSide k774 ⟨rfl, rfl, by rw [hR]; exact Nat.le_of_ble_eq_true rfl, by rw [hR]; exact Nat.le_of_ble_eq_true rfl⟩ hP (hP.recv hZ.1 0 (by decide) rfl rfl rfl) hl.1 rfl (Nat.le_of_ble_eq_true rfl) dX9_readCommand_74 ⟨by rw [hR]; exact Nat.le_of_ble_eq_true rfl, by rw [hR]; exact Nat.le_of_ble_eq_true rfl⟩ rfl (fun H1 locs1 hPn hCn hSn => ?_)
              have hS := hSn
              have hM : ∀ i, i < 10 → i ≠ j → zPm g (os + 3 + i) 1 TCo (fun _ => cm i) H1 := fun i hi hij => (hM i hi hij).kept hCn (by omega)
              have hCo := hCo.kept hCn (by omega)
              have hP := hPn
              have hC := hC.tr (hCn.mono (b := os) (k := 13) (by omega) (by omega))
              refine lv_goto (tgt := 89) S.1 S.2.1 dX9_readCommand_77 (by decide) ?_
              refine lv_istore (lv' := [(6, .int (nI (108))), (5, .int (nI (zCh (zFm k) i))), (0, .ref (os)), (1, .ref (oc)), (2, .ref (g.2 1 k)), (3, .int (nI (sl))), (4, .int (nI (i)))]) S.1 S.2.1 dX9_readCommand_89 hl (by decide) rfl (fun ls hl => ?_)
              refine lv_iload S.1 S.2.1 dX9_readCommand_91 (lv_at hl 0 rfl) ?_
              refine z_ige (tgt := 98) S (by omega) dX9_readCommand_93 (by decide) ?_
              refine lv_aload_n S.1 S.2.1 dX9_readCommand_98 rfl (lv_at hl 3 rfl) ?_
              refine lv_iload_n S.1 S.2.1 dX9_readCommand_99 rfl (lv_at hl 5 rfl) ?_
              refine lv_iload S.1 S.2.1 dX9_readCommand_100 (lv_at hl 0 rfl) ?_
              refine z_w1 (v0 := none) (rest := []) (As := [.int (nI (sl)), .int (nI (108))]) S hZ hS (c_X2_put l g (by omega) (fun _ => rr) sl (108) hsl) (by omega) ci_X2_put cv_X2_put k786 ⟨rfl, rfl, by rw [hR]; exact Nat.le_of_ble_eq_true rfl, by rw [hR]; exact Nat.le_of_ble_eq_true rfl⟩ hCo (hCo.recv hZ.1 0 (by decide) rfl rfl rfl) hl.1 rfl (Nat.le_of_ble_eq_true rfl) dX9_readCommand_102 ⟨by rw [hR]; exact Nat.le_of_ble_eq_true rfl, by rw [hR]; exact Nat.le_of_ble_eq_true rfl⟩ rfl (fun H1 locs1 hPn hCn hSn => ?_)
              have hS := hSn
              have hM : ∀ i, i < 10 → i ≠ j → zPm g (os + 3 + i) 1 TCo (fun _ => cm i) H1 := fun i hi hij => (hM i hi hij).kept hCn (by omega)
              have hP := hP.kept hCn (by omega)
              have hCo := hPn
              have hC := hC.tr (hCn.mono (b := os) (k := 13) (by omega) (by omega))
              have hCo := hCo.one (r := va_up rr (sl + 1) (108)) rfl
              refine z_inc S (lv' := [(3, .int (nI (sl + 1))), (6, .int (nI (108))), (5, .int (nI (zCh (zFm k) i))), (0, .ref (os)), (1, .ref (oc)), (2, .ref (g.2 1 k)), (4, .int (nI (i)))]) (k := 5) (b := 1) dX9_readCommand_105 hl rfl (by decide) (by decide) rfl (fun ls hl => ?_)
              refine z_inc S (lv' := [(4, .int (nI (i + 1))), (3, .int (nI (sl + 1))), (6, .int (nI (108))), (5, .int (nI (zCh (zFm k) i))), (0, .ref (os)), (1, .ref (oc)), (2, .ref (g.2 1 k))]) (k := 6) (b := 1) dX9_readCommand_108 hl rfl (by decide) (by decide) rfl (fun ls hl => ?_)
              refine lv_goto (tgt := 25) S.1 S.2.1 dX9_readCommand_111 (by decide) ?_
              exact ih (i + 1) (sl + 1) (pp + 1) (va_up rr (sl + 1) (108)) ls H1 locs1 (by omega) (by omega) (by omega) hs.2 hP hCo hM hS hC (lv_sub hl [4, 5, 6, 1, 0] rfl)
            · have hpl := yIs_lt hs.2.1
              refine lv_aload_n S.1 S.2.1 dX9_readCommand_73 rfl (lv_at hl 1 rfl) ?_
              refine z_w1 (v0 := some (.int (nI (114)))) (rest := []) (As := []) S hZ hS (c_X9_readSide_r l g hB f t pp hb hpp hs.1 hs.2.1) (by omega) ci_X9_readSide cv_X9_readSide k774 ⟨rfl, rfl, by rw [hR]; exact Nat.le_of_ble_eq_true rfl, by rw [hR]; exact Nat.le_of_ble_eq_true rfl⟩ hP (hP.recv hZ.1 0 (by decide) rfl rfl rfl) hl.1 rfl (Nat.le_of_ble_eq_true rfl) dX9_readCommand_74 ⟨by rw [hR]; exact Nat.le_of_ble_eq_true rfl, by rw [hR]; exact Nat.le_of_ble_eq_true rfl⟩ rfl (fun H1 locs1 hPn hCn hSn => ?_)
              have hS := hSn
              have hM : ∀ i, i < 10 → i ≠ j → zPm g (os + 3 + i) 1 TCo (fun _ => cm i) H1 := fun i hi hij => (hM i hi hij).kept hCn (by omega)
              have hCo := hCo.kept hCn (by omega)
              have hP := hPn
              have hC := hC.tr (hCn.mono (b := os) (k := 13) (by omega) (by omega))
              refine lv_goto (tgt := 89) S.1 S.2.1 dX9_readCommand_77 (by decide) ?_
              refine lv_istore (lv' := [(6, .int (nI (114))), (5, .int (nI (zCh (zFm k) i))), (0, .ref (os)), (1, .ref (oc)), (2, .ref (g.2 1 k)), (3, .int (nI (sl))), (4, .int (nI (i)))]) S.1 S.2.1 dX9_readCommand_89 hl (by decide) rfl (fun ls hl => ?_)
              refine lv_iload S.1 S.2.1 dX9_readCommand_91 (lv_at hl 0 rfl) ?_
              refine z_ige (tgt := 98) S (by omega) dX9_readCommand_93 (by decide) ?_
              refine lv_aload_n S.1 S.2.1 dX9_readCommand_98 rfl (lv_at hl 3 rfl) ?_
              refine lv_iload_n S.1 S.2.1 dX9_readCommand_99 rfl (lv_at hl 5 rfl) ?_
              refine lv_iload S.1 S.2.1 dX9_readCommand_100 (lv_at hl 0 rfl) ?_
              refine z_w1 (v0 := none) (rest := []) (As := [.int (nI (sl)), .int (nI (114))]) S hZ hS (c_X2_put l g (by omega) (fun _ => rr) sl (114) hsl) (by omega) ci_X2_put cv_X2_put k786 ⟨rfl, rfl, by rw [hR]; exact Nat.le_of_ble_eq_true rfl, by rw [hR]; exact Nat.le_of_ble_eq_true rfl⟩ hCo (hCo.recv hZ.1 0 (by decide) rfl rfl rfl) hl.1 rfl (Nat.le_of_ble_eq_true rfl) dX9_readCommand_102 ⟨by rw [hR]; exact Nat.le_of_ble_eq_true rfl, by rw [hR]; exact Nat.le_of_ble_eq_true rfl⟩ rfl (fun H1 locs1 hPn hCn hSn => ?_)
              have hS := hSn
              have hM : ∀ i, i < 10 → i ≠ j → zPm g (os + 3 + i) 1 TCo (fun _ => cm i) H1 := fun i hi hij => (hM i hi hij).kept hCn (by omega)
              have hP := hP.kept hCn (by omega)
              have hCo := hPn
              have hC := hC.tr (hCn.mono (b := os) (k := 13) (by omega) (by omega))
              have hCo := hCo.one (r := va_up rr (sl + 1) (114)) rfl
              refine z_inc S (lv' := [(3, .int (nI (sl + 1))), (6, .int (nI (114))), (5, .int (nI (zCh (zFm k) i))), (0, .ref (os)), (1, .ref (oc)), (2, .ref (g.2 1 k)), (4, .int (nI (i)))]) (k := 5) (b := 1) dX9_readCommand_105 hl rfl (by decide) (by decide) rfl (fun ls hl => ?_)
              refine z_inc S (lv' := [(4, .int (nI (i + 1))), (3, .int (nI (sl + 1))), (6, .int (nI (114))), (5, .int (nI (zCh (zFm k) i))), (0, .ref (os)), (1, .ref (oc)), (2, .ref (g.2 1 k))]) (k := 6) (b := 1) dX9_readCommand_108 hl rfl (by decide) (by decide) rfl (fun ls hl => ?_)
              refine lv_goto (tgt := 25) S.1 S.2.1 dX9_readCommand_111 (by decide) ?_
              exact ih (i + 1) (sl + 1) (pp + 1) (va_up rr (sl + 1) (114)) ls H1 locs1 (by omega) (by omega) (by omega) hs.2.2 hP hCo hM hS hC (lv_sub hl [4, 5, 6, 1, 0] rfl)
        · obtain ⟨hs, he2⟩ := yRc_sp h4 he h5
          have hpl := yIs_lt hs
          refine lv_aload_n S.1 S.2.1 dX9_readCommand_55 rfl (lv_at hl 1 rfl) ?_
          refine z_bi S (k := 32) dX9_readCommand_56 (by decide) ?_
          refine z_w1 (v0 := some (.int (nI (yIs t pp 32).toNat))) (rest := []) (As := [.int (nI (32))]) S hZ hS (c_X9_readSign l g hB f t pp hb hpp 32 (by decide)) (by omega) ci_X9_readSign cv_X9_readSign k770 ⟨rfl, rfl, by rw [hR]; exact Nat.le_of_ble_eq_true rfl, by rw [hR]; exact Nat.le_of_ble_eq_true rfl⟩ hP (hP.recv hZ.1 0 (by decide) rfl rfl rfl) hl.1 rfl (Nat.le_of_ble_eq_true rfl) dX9_readCommand_58 ⟨by rw [hR]; exact Nat.le_of_ble_eq_true rfl, by rw [hR]; exact Nat.le_of_ble_eq_true rfl⟩ rfl (fun H1 locs1 hPn hCn hSn => ?_)
          have hS := hSn
          have hM : ∀ i, i < 10 → i ≠ j → zPm g (os + 3 + i) 1 TCo (fun _ => cm i) H1 := fun i hi hij => (hM i hi hij).kept hCn (by omega)
          have hCo := hCo.kept hCn (by omega)
          have hP := hPn
          have hC := hC.tr (hCn.mono (b := os) (k := 13) (by omega) (by omega))
          rw [hs] at hP ⊢
          refine z_bne (tgt := 108) S dX9_readCommand_61 (by decide) (fun h6 => ?_) (fun h6 => ?_)
          · refine z_inc S (lv' := [(4, .int (nI (i + 1))), (5, .int (nI (zCh (zFm k) i))), (0, .ref (os)), (1, .ref (oc)), (2, .ref (g.2 1 k)), (3, .int (nI (sl)))]) (k := 5) (b := 1) dX9_readCommand_108 hl rfl (by decide) (by decide) rfl (fun ls hl => ?_)
            refine lv_goto (tgt := 25) S.1 S.2.1 dX9_readCommand_111 (by decide) ?_
            exact ih (i + 1) (sl) (pp + 1) (rr) ls H1 locs1 (by omega) (by omega) (by omega) he2 hP hCo hM hS hC (lv_sub hl [2, 3, 4, 5, 0] rfl)
          · exact absurd h6 (by decide)
  exact loop (zLen (zFm k) + 1) 0 0 wp (zCb k 0 0 0) ls _ _ (Nat.zero_le _) (by omega) hwp hrc hP hCo hM hS hC (lv_sub hl [3, 4, 2, 1, 0] rfl)
/-- so many found -/
def yF (f : Nat → Nat → Nat) (k : Nat) : Nat → Nat → Nat := va_up f 0 (va_up (f 0) 3 k)
theorem yF_q (f : Nat → Nat → Nat) (p k : Nat) : va_up (yQ f p) 0 (va_up (yQ f p 0) 3 k) = yQ (yF f k) p := by
  funext a j
  simp only [yQ, yF, va_up_eq]
  by_cases h : a = 0
  · subst h; by_cases h2 : j = 4 <;> by_cases h3 : j = 3 <;> simp [va_up_eq, h2, h3]
  · simp [h]
theorem yF_f (f : Nat → Nat → Nat) (k k2 : Nat) : yF (yF f k) k2 = yF f k2 := by
  funext a j
  simp only [yF, va_up_eq]
  by_cases h : a = 0
  · subst h; by_cases h2 : j = 3 <;> simp [va_up_eq, h2]
  · simp [h]
theorem yBf.fnd {f : Nat → Nat → Nat} {t : Nat} (h : yBf f t) (k : Nat) : yBf (yF f k) t := h
def yNo : Nat → Nat := fun _ => 0
theorem ci_X9_parse : zCI yX9_parse cX9_parse 2 (some .boolean) 0 := ⟨k703, k11, by decide +kernel⟩
theorem cv_X9_parse : Cond.instanceMethod yX9_parse ∈ GW ∧ Cond.selects (yX9_parse).cls yX9_parse yX9_parse ∈ GW := ⟨k701, k702⟩
set_option maxRecDepth 20000 in
set_option maxHeartbeats 4000000 in
/-- Script.parse(), where the text matches -/
theorem c_X9_parse (l : Launch) (g : ZG) {B : Nat} {os : Nat} (hB : B ≤ os) (f : Nat → Nat → Nat) (t : Nat) (hb : yBf f t) (cm : Nat → Nat → Nat) (L : List (Nat → Nat)) (hL : yPa t 11 0 [] = some L) : Met l yX9_parse (.code yX9_parse cX9_parse 2 (some .boolean) :: GW) { frames := 7, cells := 0, slots := 0, locals := 156 } (va_Pc [.ref os] (zPre g B (fun H => zSo g os f cm H))) (zX (fun w H => w = some (.int (nI 1)) ∧ ∃ (pe : Nat) (cn : Nat → Nat → Nat), zSo g os (yQ (yF f L.length) pe) cn H ∧ ∀ i, i < L.length → cn i = L.getD i yNo) os 13) 0 0 (zA B) := by
  refine zMet (by decide) (Nat.le_of_ble_eq_true rfl) ?_
  intro pg e R s m args below meth c Q ls hR hargs hQ S hr hlk hP hZ hS hnm hl
  have hl : lv_has ls 2 [(0, .ref (os))] := hl
  have h60 := zLen_le t
  obtain ⟨hb1, hb2⟩ := id hb
  have hC : zCh1 os 13 s.heap s.heap := zCh1.rf
  obtain ⟨hP, hM⟩ := hP
  refine lv_aload_n S.1 S.2.1 dX9_parse_0 rfl (lv_at hl 0 rfl) ?_
  refine z_ic S (k := 0) dX9_parse_1 (by decide) ?_
  refine z_put (v := .int (nI (0))) (ty := .int) S hZ.1 hP hS hB 0 (by decide) rfl rfl rfl 4 (by decide) (va_up (f 0) 4 0) rfl k216 rfl (by decide +kernel) rfl rfl (Nat.le_of_ble_eq_true rfl) dX9_parse_2 (fun H1 locs1 hPn hCn hSn => ?_)
  have hM : ∀ i, i < 10 → zPm g (os + 3 + i) 1 TCo (fun _ => cm i) H1 := fun i hi => (hM i hi).kept hCn (by omega)
  have hS := hSn
  have hP := hPn
  have hC := hC.tr (hCn.mono (b := os) (k := 13) (by omega) (by omega))
  have hP : zPm g os 3 TSc (yQ f 0) H1 := hP
  refine lv_aload_n S.1 S.2.1 dX9_parse_5 rfl (lv_at hl 0 rfl) ?_
  refine z_ic S (k := 0) dX9_parse_6 (by decide) ?_
  refine z_put (v := .int (nI (0))) (ty := .int) S hZ.1 hP hS hB 0 (by decide) rfl rfl rfl 3 (by decide) (va_up ((yQ f 0) 0) 3 0) rfl k214 rfl (by decide +kernel) rfl rfl (Nat.le_of_ble_eq_true rfl) dX9_parse_7 (fun H1 locs1 hPn hCn hSn => ?_)
  have hM : ∀ i, i < 10 → zPm g (os + 3 + i) 1 TCo (fun _ => cm i) H1 := fun i hi => (hM i hi).kept hCn (by omega)
  have hS := hSn
  have hP := hPn
  have hC := hC.tr (hCn.mono (b := os) (k := 13) (by omega) (by omega))
  have hP : zPm g os 3 TSc (yQ (yF f 0) 0) H1 := hP.eq (yF_q f 0 0)
  refine z_ic S (k := 1) dX9_parse_10 (by decide) ?_
  refine lv_istore_n (lv' := [(1, .int (nI (1))), (0, .ref (os))]) S.1 S.2.1 dX9_parse_11 rfl hl (by decide) rfl (fun ls hl => ?_)
  have loop : ∀ (z pp : Nat) (D : List (Nat → Nat)) (cm : Nat → Nat → Nat) (ls : Array Slot) (H : Heap) (locs : List Loc), pp ≤ 60 → yPa t z pp D = some L → (∀ i, i < D.length → cm i = D.getD i yNo) → zPm g os 3 TSc (yQ (yF f D.length) pp) H → (∀ i, i < 10 → zPm g (os + 3 + i) 1 TCo (fun _ => cm i) H) → va_S (zA B) s.heap H locs → zCh1 os 13 s.heap H → lv_has ls 2 [(0, .ref os), (1, .int (nI 1))] → W pg l e R s m args below meth c H locs 0 0 Q (F0 m 12 ls []) := by
    intro z
    induction z with
    | zero => intro pp D cm ls H locs hpp hL; cases hL
    | succ z ih =>
      intro pp D cm ls H locs hpp hL hD hP hM hS hC hl
      obtain ⟨hDl, q, r, hcd, hor⟩ := yPa_u hL
      have hq6 : q ≤ 60 := by obtain ⟨k, wp, hw, hk, hrc⟩ := yCd_u hcd; have h1 := @yRw_b t pp 10 0 0 (by omega); rw [hw] at h1; have h2 := yRc_b _ _ _ _ _ _ hrc; simp only at h1 h2; omega
      refine lv_iload_n S.1 S.2.1 dX9_parse_12 rfl (lv_at hl 1 rfl) ?_
      refine z_ieq (tgt := 63) S (by omega) dX9_parse_13 (by decide) (fun h1 => ?_) (fun h1 => ?_)
      · exact absurd h1 (by omega)
      · refine lv_aload_n S.1 S.2.1 dX9_parse_16 rfl (lv_at hl 0 rfl) ?_
        refine z_get (v := .int (nI (D.length))) S hZ.1 hP 0 (by decide) rfl rfl rfl 3 (by decide) rfl k214 dX9_parse_17 ?_
        refine z_bi S (k := 10) dX9_parse_20 (by decide) ?_
        refine z_cge (tgt := 63) S (by omega) (by omega) dX9_parse_22 (by decide) (fun h2 => ?_) (fun h2 => ?_)
        · exact absurd h2 (by omega)
        · refine lv_aload_n S.1 S.2.1 dX9_parse_25 rfl (lv_at hl 0 rfl) ?_
          refine lv_aload_n S.1 S.2.1 dX9_parse_26 rfl (lv_at hl 0 rfl) ?_
          refine z_get (v := .ref (os + 2)) S hZ.1 hP 0 (by decide) rfl rfl rfl 2 (by decide) rfl k212 dX9_parse_27 ?_
          refine lv_aload_n S.1 S.2.1 dX9_parse_30 rfl (lv_at hl 0 rfl) ?_
          refine z_get (v := .int (nI (D.length))) S hZ.1 hP 0 (by decide) rfl rfl rfl 3 (by decide) rfl k214 dX9_parse_31 ?_
          refine z_aald S hZ.1 hP 2 (by decide) rfl 4 rfl rfl (i := D.length) (v := os + 2 + 1 + D.length) hDl (by decide) rfl dX9_parse_34 ?_
          rw [show os + 2 + 1 + D.length = os + 3 + D.length by omega]
          refine z_w1 (v0 := some (.int (nI 1))) (rest := []) (As := [.ref (os + 3 + D.length)]) S hZ hS (c_X9_readCommand l g (os := os) (oc := os + 3 + D.length) (j := D.length) hB (yF f D.length) t pp (hb.fnd _) hpp hDl rfl cm q r hcd) hB ci_X9_readCommand cv_X9_readCommand k704 ⟨rfl, rfl, by rw [hR]; exact Nat.le_of_ble_eq_true rfl, by rw [hR]; exact Nat.le_of_ble_eq_true rfl⟩ ⟨hP, hM⟩ (hP.recv hZ.1 0 (by decide) rfl rfl rfl) hl.1 rfl (Nat.le_of_ble_eq_true rfl) dX9_parse_35 ⟨by rw [hR]; exact Nat.le_of_ble_eq_true rfl, by rw [hR]; exact Nat.le_of_ble_eq_true rfl⟩ rfl (fun H1 locs1 hPn hCn hSn => ?_)
          have hC := hC.tr (hCn.mono (b := os) (k := 13) (by omega) (by omega))
          have hS := hSn
          obtain ⟨hP, hM⟩ := hPn
          refine z_ine (tgt := 43) S (by omega) dX9_parse_38 (by decide) (fun h3 => ?_) (fun h3 => ?_)
          · have eL : (D ++ [r]).length = D.length + 1 := by simp
            have hD2 : ∀ i, i < (D ++ [r]).length → va_up cm D.length r i = (D ++ [r]).getD i yNo := fun i hi => by
              by_cases e : i = D.length
              · subst e; rw [show va_up cm D.length r D.length = r from if_pos rfl]; simp [List.getD_eq_getElem?_getD]
              · have h : i < D.length := by omega
                rw [show va_up cm D.length r i = cm i from if_neg e, hD i h, List.getD_eq_getElem?_getD, List.getD_eq_getElem?_getD, List.getElem?_append_left h]
            refine lv_aload_n S.1 S.2.1 dX9_parse_43 rfl (lv_at hl 0 rfl) ?_
            refine lv_dup S.1 S.2.1 dX9_parse_44 rfl ?_
            refine z_get (v := .int (nI (D.length))) S hZ.1 hP 0 (by decide) rfl rfl rfl 3 (by decide) rfl k214 dX9_parse_45 ?_
            refine z_ic S (k := 1) dX9_parse_48 (by decide) ?_
            refine z_add S dX9_parse_49 ?_
            refine z_put (v := .int (nI (D.length + 1))) (ty := .int) S hZ.1 hP hS hB 0 (by decide) rfl rfl rfl 3 (by decide) (va_up ((yQ (yF f D.length) q) 0) 3 (D.length + 1)) rfl k214 rfl (by decide +kernel) rfl rfl (Nat.le_of_ble_eq_true rfl) dX9_parse_50 (fun H1 locs1 hPn hCn hSn => ?_)
            have hS := hSn
            have hM : ∀ i, i < 10 → zPm g (os + 3 + i) 1 TCo (fun _ => va_up cm D.length r i) H1 := fun i hi => (hM i hi).kept hCn (by omega)
            have hP := hPn
            have hC := hC.tr (hCn.mono (b := os) (k := 13) (by omega) (by omega))
            have hP : zPm g os 3 TSc (yQ (yF f (D ++ [r]).length) q) H1 := hP.eq (by rw [yF_q, yF_f, eL])
            refine lv_aload_n S.1 S.2.1 dX9_parse_53 rfl (lv_at hl 0 rfl) ?_
            refine z_bi S (k := 59) dX9_parse_54 (by decide) ?_
            have hb9 : yBf (yF f (D ++ [r]).length) t := hb.fnd _
            refine z_w1 (v0 := some (.int (nI (yIs t q 59).toNat))) (rest := []) (As := [.int (nI (59))]) S hZ hS (c_X9_readSign l g hB (yF f (D ++ [r]).length) t q hb9 hq6 59 (by decide)) (by omega) ci_X9_readSign cv_X9_readSign k770 ⟨rfl, rfl, by rw [hR]; exact Nat.le_of_ble_eq_true rfl, by rw [hR]; exact Nat.le_of_ble_eq_true rfl⟩ hP (hP.recv hZ.1 0 (by decide) rfl rfl rfl) hl.1 rfl (Nat.le_of_ble_eq_true rfl) dX9_parse_56 ⟨by rw [hR]; exact Nat.le_of_ble_eq_true rfl, by rw [hR]; exact Nat.le_of_ble_eq_true rfl⟩ rfl (fun H1 locs1 hPn hCn hSn => ?_)
            have hS := hSn
            have hM : ∀ i, i < 10 → zPm g (os + 3 + i) 1 TCo (fun _ => va_up cm D.length r i) H1 := fun i hi => (hM i hi).kept hCn (by omega)
            have hP := hPn
            have hC := hC.tr (hCn.mono (b := os) (k := 13) (by omega) (by omega))
            refine lv_istore_n (lv' := [(1, .int (nI (yIs t q 59).toNat)), (0, .ref (os))]) S.1 S.2.1 dX9_parse_59 rfl hl (by decide) rfl (fun ls hl => ?_)
            refine lv_goto (tgt := 12) S.1 S.2.1 dX9_parse_60 (by decide) ?_
            rcases hor with ⟨hs, hL2⟩ | ⟨hs, hq, hL2⟩
            · rw [hs] at hP hl
              have hlt := yIs_lt hs
              exact ih (q + 1) (D ++ [r]) _ ls H1 locs1 (by omega) hL2 hD2 hP hM hS hC (lv_sub hl [1, 0] rfl)
            · rw [hs] at hP hl
              have hP : zPm g os 3 TSc (yQ (yF f (D ++ [r]).length) q) H1 := hP
              refine lv_iload_n S.1 S.2.1 dX9_parse_12 rfl (lv_at hl 0 rfl) ?_
              refine z_beq (tgt := 63) S dX9_parse_13 (by decide) (fun h4 => ?_) (fun h4 => ?_)
              · refine lv_iload_n S.1 S.2.1 dX9_parse_63 rfl (lv_at hl 0 rfl) ?_
                refine z_bne (tgt := 82) S dX9_parse_64 (by decide) (fun h5 => ?_) (fun h5 => ?_)
                · exact absurd h5 (by decide)
                · refine lv_aload_n S.1 S.2.1 dX9_parse_67 rfl (lv_at hl 1 rfl) ?_
                  refine z_get (v := .int (nI (q))) S hZ.1 hP 0 (by decide) rfl rfl rfl 4 (by decide) rfl k216 dX9_parse_68 ?_
                  refine lv_aload_n S.1 S.2.1 dX9_parse_71 rfl (lv_at hl 1 rfl) ?_
                  refine z_get (v := .int (nI (f 0 1))) S hZ.1 hP 0 (by decide) rfl rfl rfl 1 (by decide) rfl k211 dX9_parse_72 ?_
                  rw [hb1]
                  refine z_cne (tgt := 82) S (by omega) (by omega) dX9_parse_75 (by decide) (fun h6 => ?_) (fun h6 => ?_)
                  · exact absurd hq h6
                  · refine z_ic S (k := 1) dX9_parse_78 (by decide) ?_
                    refine lv_goto (tgt := 83) S.1 S.2.1 dX9_parse_79 (by decide) ?_
                    exact z_wi hQ S hr hlk rfl hS hC ⟨rfl, q, va_up cm D.length r, by rw [← hL2]; exact ⟨hP, hM⟩, by rw [← hL2]; exact hD2⟩ dX9_parse_83
              · exact absurd h4 (by decide)
          · exact absurd h3 (by omega)
  exact loop 11 0 [] cm ls _ _ (by omega) hL (fun i hi => absurd hi (Nat.not_lt_zero i)) hP hM hS hC (lv_sub hl [1, 0] rfl)
set_option maxRecDepth 20000 in
set_option maxHeartbeats 4000000 in
/-- Script.readCommand(command), nothing to read -/
theorem c_X9_readCommand_e (l : Launch) (g : ZG) {B : Nat} {os oc : Nat} (hB : B ≤ os) (f : Nat → Nat → Nat) (hb : yBf f 49) : Met l yX9_readCommand (.code yX9_readCommand cX9_readCommand 7 (some .boolean) :: GW) { frames := 6, cells := 0, slots := 0, locals := 130 } (va_Pc [.ref os, .ref oc] (zPre g B (fun H => zPm g os 3 TSc (yQ f 0) H))) (zX (fun w H => w = some (.int (nI 0)) ∧ zPm g os 3 TSc (yQ f 0) H) os 3) 0 0 (zA B) := by
  refine zMet (by decide) (Nat.le_of_ble_eq_true rfl) ?_
  intro pg e R s m args below meth c Q ls hR hargs hQ S hr hlk hP hZ hS hnm hl
  have hl : lv_has ls 7 [(0, .ref (os)), (1, .ref (oc))] := hl
  have hC : zCh1 os 3 s.heap s.heap := zCh1.rf
  refine lv_aload_n S.1 S.2.1 dX9_readCommand_0 rfl (lv_at hl 0 rfl) ?_
  refine z_w1 (v0 := some (.null)) (rest := []) (As := []) S hZ hS (c_X9_readWord l g hB f 49 0 hb (by omega) 10 0 (by decide) .null (by rw [if_neg (by omega)])) (by omega) ci_X9_readWord cv_X9_readWord k708 ⟨rfl, rfl, by rw [hR]; exact Nat.le_of_ble_eq_true rfl, by rw [hR]; exact Nat.le_of_ble_eq_true rfl⟩ hP (hP.recv hZ.1 0 (by decide) rfl rfl rfl) hl.1 rfl (Nat.le_of_ble_eq_true rfl) dX9_readCommand_1 ⟨by rw [hR]; exact Nat.le_of_ble_eq_true rfl, by rw [hR]; exact Nat.le_of_ble_eq_true rfl⟩ rfl (fun H1 locs1 hPn hCn hSn => ?_)
  have hS := hSn
  have hP := hPn
  have hC := hC.tr (hCn.mono (b := os) (k := 3) (by omega) (by omega))
  refine lv_astore_nN (lv' := [(2, .null), (0, .ref (os)), (1, .ref (oc))]) S.1 S.2.1 dX9_readCommand_4 rfl hl (by decide) rfl (fun ls hl => ?_)
  refine lv_aload_nN S.1 S.2.1 dX9_readCommand_5 rfl (lv_at hl 0 rfl) ?_
  refine lv_ifnonnullN S.1 S.2.1 dX9_readCommand_6 ?_
  refine z_ic S (k := 0) dX9_readCommand_9 (by decide) ?_
  exact z_wi hQ S hr hlk rfl hS hC ⟨rfl, hP⟩ dX9_readCommand_10
set_option maxRecDepth 20000 in
set_option maxHeartbeats 4000000 in
/-- Script.parse(), the empty buffer -/
theorem c_X9_parse_e (l : Launch) (g : ZG) {B : Nat} {os : Nat} (hB : B ≤ os) (f : Nat → Nat → Nat) (hb : f 0 1 = 0) (cm : Nat → Nat → Nat) : Met l yX9_parse (.code yX9_parse cX9_parse 2 (some .boolean) :: GW) { frames := 7, cells := 0, slots := 0, locals := 156 } (va_Pc [.ref os] (zPre g B (fun H => zSo g os f cm H))) (zX (fun w H => w = some (.int (nI 0)) ∧ zSo g os (yQ (yF f 0) 0) cm H) os 13) 0 0 (zA B) := by
  refine zMet (by decide) (Nat.le_of_ble_eq_true rfl) ?_
  intro pg e R s m args below meth c Q ls hR hargs hQ S hr hlk hP hZ hS hnm hl
  have hl : lv_has ls 2 [(0, .ref (os))] := hl
  have hC : zCh1 os 13 s.heap s.heap := zCh1.rf
  obtain ⟨hP, hM⟩ := hP
  have hb9 : yBf (yF f 0) 49 := ⟨hb, fun j hj => absurd hj (Nat.not_lt_zero j)⟩
  refine lv_aload_n S.1 S.2.1 dX9_parse_0 rfl (lv_at hl 0 rfl) ?_
  refine z_ic S (k := 0) dX9_parse_1 (by decide) ?_
  refine z_put (v := .int (nI (0))) (ty := .int) S hZ.1 hP hS hB 0 (by decide) rfl rfl rfl 4 (by decide) (va_up (f 0) 4 0) rfl k216 rfl (by decide +kernel) rfl rfl (Nat.le_of_ble_eq_true rfl) dX9_parse_2 (fun H1 locs1 hPn hCn hSn => ?_)
  have hS := hSn
  have hM : ∀ i, i < 10 → zPm g (os + 3 + i) 1 TCo (fun _ => cm i) H1 := fun i hi => (hM i hi).kept hCn (by omega)
  have hP := hPn
  have hC := hC.tr (hCn.mono (b := os) (k := 13) (by omega) (by omega))
  have hP : zPm g os 3 TSc (yQ f 0) H1 := hP
  refine lv_aload_n S.1 S.2.1 dX9_parse_5 rfl (lv_at hl 0 rfl) ?_
  refine z_ic S (k := 0) dX9_parse_6 (by decide) ?_
  refine z_put (v := .int (nI (0))) (ty := .int) S hZ.1 hP hS hB 0 (by decide) rfl rfl rfl 3 (by decide) (va_up ((yQ f 0) 0) 3 0) rfl k214 rfl (by decide +kernel) rfl rfl (Nat.le_of_ble_eq_true rfl) dX9_parse_7 (fun H1 locs1 hPn hCn hSn => ?_)
  have hS := hSn
  have hM : ∀ i, i < 10 → zPm g (os + 3 + i) 1 TCo (fun _ => cm i) H1 := fun i hi => (hM i hi).kept hCn (by omega)
  have hP := hPn
  have hC := hC.tr (hCn.mono (b := os) (k := 13) (by omega) (by omega))
  have hP : zPm g os 3 TSc (yQ (yF f 0) 0) H1 := hP.eq (yF_q f 0 0)
  refine z_ic S (k := 1) dX9_parse_10 (by decide) ?_
  refine lv_istore_n (lv' := [(1, .int (nI (1))), (0, .ref (os))]) S.1 S.2.1 dX9_parse_11 rfl hl (by decide) rfl (fun ls hl => ?_)
  refine lv_iload_n S.1 S.2.1 dX9_parse_12 rfl (lv_at hl 0 rfl) ?_
  refine z_ieq (tgt := 63) S (by omega) dX9_parse_13 (by decide) (fun h1 => ?_) (fun h1 => ?_)
  · exact absurd h1 (by omega)
  · refine lv_aload_n S.1 S.2.1 dX9_parse_16 rfl (lv_at hl 1 rfl) ?_
    refine z_get (v := .int (nI (0))) S hZ.1 hP 0 (by decide) rfl rfl rfl 3 (by decide) rfl k214 dX9_parse_17 ?_
    refine z_bi S (k := 10) dX9_parse_20 (by decide) ?_
    refine z_cge (tgt := 63) S (by omega) (by omega) dX9_parse_22 (by decide) (fun h2 => ?_) (fun h2 => ?_)
    · exact absurd h2 (by omega)
    · refine lv_aload_n S.1 S.2.1 dX9_parse_25 rfl (lv_at hl 1 rfl) ?_
      refine lv_aload_n S.1 S.2.1 dX9_parse_26 rfl (lv_at hl 1 rfl) ?_
      refine z_get (v := .ref (os + 2)) S hZ.1 hP 0 (by decide) rfl rfl rfl 2 (by decide) rfl k212 dX9_parse_27 ?_
      refine lv_aload_n S.1 S.2.1 dX9_parse_30 rfl (lv_at hl 1 rfl) ?_
      refine z_get (v := .int (nI (0))) S hZ.1 hP 0 (by decide) rfl rfl rfl 3 (by decide) rfl k214 dX9_parse_31 ?_
      refine z_aald S hZ.1 hP 2 (by decide) rfl 4 rfl rfl (i := 0) (v := os + 2 + 1 + 0) (by decide) (by decide) rfl dX9_parse_34 ?_
      refine z_w1 (v0 := some (.int (nI (0)))) (rest := []) (As := [.ref (os + 2 + 1 + 0)]) S hZ hS (c_X9_readCommand_e l g (oc := os + 2 + 1 + 0) hB (yF f 0) hb9) (by omega) ci_X9_readCommand cv_X9_readCommand k704 ⟨rfl, rfl, by rw [hR]; exact Nat.le_of_ble_eq_true rfl, by rw [hR]; exact Nat.le_of_ble_eq_true rfl⟩ hP (hP.recv hZ.1 0 (by decide) rfl rfl rfl) hl.1 rfl (Nat.le_of_ble_eq_true rfl) dX9_parse_35 ⟨by rw [hR]; exact Nat.le_of_ble_eq_true rfl, by rw [hR]; exact Nat.le_of_ble_eq_true rfl⟩ rfl (fun H1 locs1 hPn hCn hSn => ?_)
      have hS := hSn
      have hM : ∀ i, i < 10 → zPm g (os + 3 + i) 1 TCo (fun _ => cm i) H1 := fun i hi => (hM i hi).kept hCn (by omega)
      have hP := hPn
      have hC := hC.tr (hCn.mono (b := os) (k := 13) (by omega) (by omega))
      refine z_ine (tgt := 43) S (by omega) dX9_parse_38 (by decide) (fun h3 => ?_) (fun h3 => ?_)
      · exact absurd rfl h3
      · refine z_ic S (k := 0) dX9_parse_41 (by decide) ?_
        exact z_wi hQ S hr hlk rfl hS hC ⟨rfl, hP, hM⟩ dX9_parse_42
theorem ci_X9_isFull : zCI yX9_isFull cX9_isFull 1 (some .boolean) 0 := ⟨k889, k11, by decide +kernel⟩
theorem cv_X9_isFull : Cond.instanceMethod yX9_isFull ∈ GW ∧ Cond.selects (yX9_isFull).cls yX9_isFull yX9_isFull ∈ GW := ⟨k887, k888⟩
set_option maxRecDepth 20000 in
set_option maxHeartbeats 4000000 in
/-- Script.isFull() -/
theorem c_X9_isFull (l : Launch) (g : ZG) {B : Nat} {os : Nat} (f : Nat → Nat → Nat) (hl9 : f 0 1 < 2 ^ 31) : Met l yX9_isFull (.code yX9_isFull cX9_isFull 1 (some .boolean) :: GW) { frames := 0, cells := 0, slots := 0, locals := 0 } (va_Pc [.ref os] (zPre g B (fun H => zPm g os 3 TSc f H))) (zR (some (.int (nI (decide (60 ≤ f 0 1)).toNat)))) 0 0 (fun _ => False) := by
  refine zMet (by decide) (Nat.le_of_ble_eq_true rfl) ?_
  intro p e R s m args below meth c Q ls hR hargs hQ S hr hlk hP hZ hS hnm hl
  have hl : lv_has ls 1 [(0, .ref (os))] := hl
  refine lv_aload_n S.1 S.2.1 dX9_isFull_0 rfl (lv_at hl 0 rfl) ?_
  refine z_get (v := .int (nI (f 0 1))) S hZ.1 hP 0 (by decide) rfl rfl rfl 1 (by decide) rfl k211 dX9_isFull_1 ?_
  refine z_bi S (k := 60) dX9_isFull_4 (by decide) ?_
  refine z_clt (tgt := 13) S hl9 (by omega) dX9_isFull_6 (by decide) (fun h1 => ?_) (fun h1 => ?_)
  · refine z_ic S (k := 0) dX9_isFull_13 (by decide) ?_
    exact z_ri hQ S hr hlk rfl (by rw [decide_eq_false (by omega)]; rfl) dX9_isFull_14
  · refine z_ic S (k := 1) dX9_isFull_9 (by decide) ?_
    refine lv_goto (tgt := 14) S.1 S.2.1 dX9_isFull_10 (by decide) ?_
    exact z_ri hQ S hr hlk rfl (by rw [decide_eq_true (by omega)]; rfl) dX9_isFull_14
def yAp (f : Nat → Nat → Nat) (x : Nat) : Nat → Nat → Nat := va_up (va_up f 1 (va_up (f 1) (f 0 1) x)) 0 (va_up (f 0) 1 (f 0 1 + 1))
theorem ci_X9_append : zCI yX9_append cX9_append 2 (some .int) 1 := ⟨k893, k11, by decide +kernel⟩
theorem cv_X9_append : Cond.instanceMethod yX9_append ∈ GW ∧ Cond.selects (yX9_append).cls yX9_append yX9_append ∈ GW := ⟨k891, k892⟩
set_option maxRecDepth 20000 in
set_option maxHeartbeats 4000000 in
/-- Script.append(x) -/
theorem c_X9_append (l : Launch) (g : ZG) {B : Nat} {os : Nat} (hB : B ≤ os) (f : Nat → Nat → Nat) (hl9 : f 0 1 < 60) (x : Nat) (hx9 : x < 65536) : Met l yX9_append (.code yX9_append cX9_append 2 (some .int) :: GW) { frames := 0, cells := 0, slots := 0, locals := 0 } (va_Pc [.ref os, .int (nI x)] (zPre g B (fun H => zPm g os 3 TSc f H))) (zX (fun w H => w = some (.int (nI (f 0 1 + 1))) ∧ zPm g os 3 TSc (yAp f x) H) os 3) 0 0 (zA B) := by
  refine zMet (by decide) (Nat.le_of_ble_eq_true rfl) ?_
  intro p e R s m args below meth c Q ls hR hargs hQ S hr hlk hP hZ hS hnm hl
  have hl : lv_has ls 2 [(0, .ref (os)), (1, .int (nI (x)))] := hl
  have hC : zCh1 os 3 s.heap s.heap := zCh1.rf
  refine lv_aload_n S.1 S.2.1 dX9_append_0 rfl (lv_at hl 0 rfl) ?_
  refine z_get (v := .ref (os + 1)) S hZ.1 hP 0 (by decide) rfl rfl rfl 0 (by decide) rfl k210 dX9_append_1 ?_
  refine lv_aload_n S.1 S.2.1 dX9_append_4 rfl (lv_at hl 0 rfl) ?_
  refine z_get (v := .int (nI (f 0 1))) S hZ.1 hP 0 (by decide) rfl rfl rfl 1 (by decide) rfl k211 dX9_append_5 ?_
  refine lv_iload_n S.1 S.2.1 dX9_append_8 rfl (lv_at hl 1 rfl) ?_
  refine z_cast S hZ.1 hP hS hB 1 (by decide) rfl rfl (i := (f 0 1)) (x := x) hx9 rfl hl9 (by decide) dX9_append_9 (fun H1 locs1 hPn hCn hSn => ?_)
  have hS := hSn
  have hP := hPn
  have hC := hC.tr (hCn.mono (b := os) (k := 3) (by omega) (by omega))
  refine lv_aload_n S.1 S.2.1 dX9_append_10 rfl (lv_at hl 0 rfl) ?_
  refine lv_dup S.1 S.2.1 dX9_append_11 rfl ?_
  refine z_get (v := .int (nI (f 0 1))) S hZ.1 hP 0 (by decide) rfl rfl rfl 1 (by decide) rfl k211 dX9_append_12 ?_
  refine z_ic S (k := 1) dX9_append_15 (by decide) ?_
  refine z_add S dX9_append_16 ?_
  refine z_put (v := .int (nI ((f 0 1) + 1))) (ty := .int) S hZ.1 hP hS hB 0 (by decide) rfl rfl rfl 1 (by decide) (va_up ((va_up f 1 (va_up (f 1) (f 0 1) x)) 0) 1 ((f 0 1) + 1)) rfl k211 rfl (by decide +kernel) rfl rfl (Nat.le_of_ble_eq_true rfl) dX9_append_17 (fun H1 locs1 hPn hCn hSn => ?_)
  have hS := hSn
  have hP := hPn
  have hC := hC.tr (hCn.mono (b := os) (k := 3) (by omega) (by omega))
  refine lv_aload_n S.1 S.2.1 dX9_append_20 rfl (lv_at hl 0 rfl) ?_
  refine z_get (v := .int (nI (f 0 1 + 1))) S hZ.1 hP 0 (by decide) rfl rfl rfl 1 (by decide) rfl k211 dX9_append_21 ?_
  exact z_wi hQ S hr hlk (zn_int _) hS hC ⟨rfl, hP⟩ dX9_append_24
theorem ci_X9_clear : zCI yX9_clear cX9_clear 1 none 0 := ⟨k793, k11, by decide +kernel⟩
theorem cv_X9_clear : Cond.instanceMethod yX9_clear ∈ GW ∧ Cond.selects (yX9_clear).cls yX9_clear yX9_clear ∈ GW := ⟨k791, k792⟩
set_option maxRecDepth 20000 in
set_option maxHeartbeats 4000000 in
/-- Script.clear() -/
theorem c_X9_clear (l : Launch) (g : ZG) {B : Nat} {os : Nat} (hB : B ≤ os) (f : Nat → Nat → Nat) : Met l yX9_clear (.code yX9_clear cX9_clear 1 none :: GW) { frames := 0, cells := 0, slots := 0, locals := 0 } (va_Pc [.ref os] (zPre g B (fun H => zPm g os 3 TSc f H))) (zX (fun w H => w = none ∧ zPm g os 3 TSc (va_up f 0 (va_up (f 0) 1 0)) H) os 3) 0 0 (zA B) := by
  refine zMet (by decide) (Nat.le_of_ble_eq_true rfl) ?_
  intro p e R s m args below meth c Q ls hR hargs hQ S hr hlk hP hZ hS hnm hl
  have hl : lv_has ls 1 [(0, .ref (os))] := hl
  have hC : zCh1 os 3 s.heap s.heap := zCh1.rf
  refine lv_aload_n S.1 S.2.1 dX9_clear_0 rfl (lv_at hl 0 rfl) ?_
  refine z_ic S (k := 0) dX9_clear_1 (by decide) ?_
  refine z_put (v := .int (nI (0))) (ty := .int) S hZ.1 hP hS hB 0 (by decide) rfl rfl rfl 1 (by decide) (va_up (f 0) 1 0) rfl k211 rfl (by decide +kernel) rfl rfl (Nat.le_of_ble_eq_true rfl) dX9_clear_2 (fun H1 locs1 hPn hCn hSn => ?_)
  have hS := hSn
  have hP := hPn
  have hC := hC.tr (hCn.mono (b := os) (k := 3) (by omega) (by omega))
  exact z_wv hQ S hr hlk hS hC ⟨rfl, hP⟩ dX9_clear_5
