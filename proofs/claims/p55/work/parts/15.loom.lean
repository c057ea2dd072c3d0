/-! THE LOOM'S PARTS: 0 its own cell, 1 wicks, 2 cloth, 3 left edge, 4 right edge -/
abbrev zL : Type := Nat → Nat → Nat → Nat
def zLo (g : ZG) (o : Nat) (v : zL) (H : Heap) : Prop := zPm g o 1 TLo (v 0) H ∧ zPm g (o + 1) 5 TW (v 1) H ∧ zPm g (o + 6) 4 TC (v 2) H ∧ zPm g (o + 10) 1 TE (v 3) H ∧ zPm g (o + 11) 1 TE (v 4) H
def zOk (v : zL) : Prop := zWo (v 1) ∧ zKo (v 2) ∧ zEo (v 3) ∧ zEo (v 4)
theorem zLo.kept {g : ZG} {o a n : Nat} {v : zL} {H H1 : Heap} (h : zLo g o v H) (hc : zCh1 a n H H1) (hd : o + 12 ≤ a ∨ a + n ≤ o) : zLo g o v H1 :=
  ⟨h.1.kept hc (by omega), h.2.1.kept hc (by omega), h.2.2.1.kept hc (by omega), h.2.2.2.1.kept hc (by omega), h.2.2.2.2.kept hc (by omega)⟩
theorem zLo.eq {g : ZG} {o : Nat} {v v' : zL} {H : Heap} (h : zLo g o v H) (e : v = v') : zLo g o v' H := e ▸ h
/-- the parts of a loom told by a list -/
def zMk (a b c d e : Nat → Nat → Nat) (v : zL) : zL := fun k => match k with
  | 0 => a
  | 1 => b
  | 2 => c
  | 3 => d
  | 4 => e
  | k => v k
/-- the pattern without the burnt columns -/
def zUb (a b q : Nat) : Nat := (q &&& ((1 * 2 ^ a - 1) ^^^ 4294967295)) &&& (1 * 2 ^ (16 - b) - 1)
theorem zUb_le (a b q : Nat) : zUb a b q ≤ q := Nat.le_trans Nat.and_le_left Nat.and_le_left
/-- a row is woven -/
def zWv (v : zL) : zL := zMk (va_up (va_up (v 0) 0 (va_up (v 0 0) 4 (v 0 0 4 + 1))) 0 (va_up (va_up (v 0 0) 4 (v 0 0 4 + 1)) 5 (v 0 0 5 + zSum (v 1 4) (v 1 0 4)))) (zBd (v 1) (v 1 0 4)) (zAp (v 2) (zUb (v 3 0 1) (v 4 0 1) (zPt (v 1) (v 1 0 4))) (zLd (v 1) (v 1 0 4)).1) (zFe (v 3) (zBt (zPt (v 1) (v 1 0 4)) 0)) (zFe (v 4) (zBt (zPt (v 1) (v 1 0 4)) 15)) v
theorem zBd_ok {f : Nat → Nat → Nat} (h : zWo f) (n : Nat) : zWo (zBd f n) := by
  refine ⟨h.1, fun i => ?_⟩
  obtain ⟨h1, h2, h3, h4, h5⟩ := h.2 i
  refine ⟨h1, h2, ?_, ?_, ?_⟩
  · show (if i < n ∧ f 4 i = 1 then f 3 i - 1 else f 3 i) ≤ 99
    split <;> omega
  · show (if i < n ∧ f 4 i = 1 then (if 1 < f 3 i then 1 else 0) else f 4 i) ≤ 1
    (repeat' split) <;> omega
  · show (if i < n ∧ f 4 i = 1 then (if 1 < f 3 i then 1 else 0) else f 4 i) = 1 → 0 < (if i < n ∧ f 4 i = 1 then f 3 i - 1 else f 3 i)
    by_cases hc : i < n ∧ f 4 i = 1
    · rw [if_pos hc, if_pos hc]
      split <;> omega
    · rw [if_neg hc, if_neg hc]
      exact h5
theorem zWv_ok {v : zL} (h : zOk v) (hc : v 2 0 3 < 40) : zOk (zWv v) := by
  obtain ⟨h1, h2, h3, h4⟩ := h
  refine ⟨zBd_ok h1 _, zAp_ok h2 ?_ (zLd_le h1 _).1 hc, zFe_ok h3 _, zFe_ok h4 _⟩
  exact Nat.lt_of_le_of_lt (zUb_le _ _ _) (zPt_lt h1 _)
/-- n rows are woven -/
def zWs (v : zL) : Nat → zL
  | 0 => v
  | n + 1 => zWv (zWs v n)
theorem zWv_c (v : zL) : zWv v 2 0 3 = v 2 0 3 + 1 := zAp_c (v 2) (zUb (v 3 0 1) (v 4 0 1) (zPt (v 1) (v 1 0 4))) (zLd (v 1) (v 1 0 4)).1
theorem zWs_c (v : zL) : ∀ n, zWs v n 2 0 3 = v 2 0 3 + n
  | 0 => rfl
  | n + 1 => (zWv_c (zWs v n)).trans (by rw [zWs_c v n]; omega)
theorem zWs_ok {v : zL} (h : zOk v) : ∀ n, v 2 0 3 + n ≤ 40 → zOk (zWs v n)
  | 0, _ => h
  | n + 1, hn => zWv_ok (zWs_ok h n (by omega)) (by rw [zWs_c]; omega)
/-- how many wicks are lit -/
def zLt (v : zL) : Nat := zSum (v 1 4) (v 1 0 4)
theorem zLt_le {v : zL} (h : zOk v) : zLt v ≤ 8 := by
  have h1 := zSum_le (q := v 1 4) (b := 1) (fun i => (h.1.2 i).2.2.2.1) (v 1 0 4)
  have h2 := h.1.1
  show zSum _ _ ≤ 8
  omega
/-- how many of r rows are woven -/
def zWn (v : zL) (r : Nat) : Nat := zFi (fun j => decide (zLt (zWs v j) = 0)) r
/-- what a command does, and what it answers -/
def zPf (v : zL) (k a b c : Nat) : zL × Nat := match k with
  | 0 => (zMk (v 0) (zPl (v 1) a b c) (v 2) (v 3) (v 4) v, v 1 0 4)
  | 1 => (zMk (v 0) (va_up (v 1) 4 (va_up (v 1 4) a 1)) (v 2) (v 3) (v 4) v, zSum (va_up (v 1 4) a 1) (v 1 0 4))
  | 2 => (zMk (v 0) (va_up (v 1) 4 (va_up (v 1 4) a 0)) (v 2) (v 3) (v 4) v, zSum (va_up (v 1 4) a 0) (v 1 0 4))
  | 3 => (zMk (v 0) (va_up (v 1) 3 (va_up (v 1 3) a (v 1 3 a + b))) (v 2) (v 3) (v 4) v, v 1 3 a + b)
  | 4 => (zWs v (zWn v a), zWn v a)
  | 5 => (zMk (v 0) (v 1) (va_up (v 2) 0 (va_up (v 2 0) 3 (v 2 0 3 - a))) (v 3) (v 4) v, v 2 0 3 - a)
  | 6 => (zMk (v 0) (v 1) (zCp (v 2) a (a * b)) (v 3) (v 4) v, v 2 0 3 + a * b)
  | 7 => (zMk (v 0) (v 1) (zFk (v 2) a b) (v 3) (v 4) v, zKc (zFk (v 2) a b))
  | 8 => (zMk (v 0) (v 1) (zFk (v 2) a b) (v 3) (v 4) v, zKc (zFk (v 2) a b))
  | _ => if a = 108 then (zMk (v 0) (v 1) (v 2) (va_up (v 3) 0 (va_up (va_up (v 3 0) 1 (v 3 0 1 - 1)) 0 0)) (v 4) v, v 3 0 1 - 1) else (zMk (v 0) (v 1) (v 2) (v 3) (va_up (v 4) 0 (va_up (va_up (v 4 0) 1 (v 4 0 1 - 1)) 0 0)) v, v 4 0 1 - 1)
/-- a command's cell: its kind (a constant of the enum), three numbers -/
def dCo : ZD := fun g _ f => .inr (1, [.ref (g.2 1 (f 0)), .int (nI (f 1)), .int (nI (f 2)), .int (nI (f 3))])
def TCo : Nat → ZD := fun _ => dCo
theorem gL {ws : List Cond} (h : ∀ w ∈ ws, w ∈ GW) : GoodIn GW ws := fun w hw => ⟨h w hw, good_of_word (List.mem_filter.mp (h w hw)).2⟩
theorem zS.en {g : ZG} {B : Nat} {s : State} {H : Heap} (h : zS g B s H) : va_En "CandleLoom$Kind" "LCandleLoom$Kind;" zKn [("java/lang/Enum", "ordinal", "I", [0, 1, 2, 3, 4, 5, 6, 7, 8, 9])] (g.2 1) (zA B) s H := h.2.1.2.2.2.1
theorem zS.swZ {g : ZG} {B : Nat} {s : State} {H : Heap} (h : zS g B s H) : va_Z "CandleLoom$1" "$SwitchMap$CandleLoom$Kind" "[I" (.ref (g.2 4 1)) (zA B) s H := by
  obtain ⟨-, ⟨-, -, -, -, -, -, -, -, -, b1, -⟩, -⟩ := h; exact b1
theorem zS.swT {g : ZG} {B : Nat} {s : State} {H : Heap} (h : zS g B s H) : va_T .int (g.2 4 1) 10 (fun j => .int (nI (zSw j))) (zA B) s H := by
  obtain ⟨-, ⟨-, -, -, -, -, -, -, -, -, -, b2, -⟩, -⟩ := h; exact b2
theorem zEnum_ord : ∀ k, k < 10 → ([0, 1, 2, 3, 4, 5, 6, 7, 8, 9] : List Int32).getD k 0 = nI k := by decide
theorem ci_Jx29ce0_ordinal_8abf5 : zCI yJx29ce0_ordinal_8abf5 cJx29ce0_ordinal_8abf5 1 (some .int) 0 := ⟨k349, k9, by decide +kernel⟩

set_option maxRecDepth 20000 in
set_option maxHeartbeats 4000000 in
/-- Enum.ordinal() of the kind k -/
theorem c_ordinal (l : Launch) (g : ZG) {B : Nat} (k : Nat) (hk : k < 10) {PH : Heap → Prop} : Met l yJx29ce0_ordinal_8abf5 (.code yJx29ce0_ordinal_8abf5 cJx29ce0_ordinal_8abf5 1 (some .int) :: GW) { frames := 0, cells := 0, slots := 0, locals := 0 } (va_Pc [.ref (g.2 1 k)] (zPre g B (fun H => PH H))) (zR (some (.int (nI k)))) 0 0 (fun _ => False) := by
  refine zMet (by decide) (Nat.le_of_ble_eq_true rfl) ?_
  intro p e R s m args below meth c Q ls hR hargs hQ S hr hlk hP hZ hS hnm hl
  have hl : lv_has ls 1 [(0, .ref (g.2 1 k))] := hl
  refine lv_aload_n S.1 S.2.1 dJx29ce0_ordinal_8abf5_0 rfl (lv_at hl 0 rfl) ?_
  refine va_getE S.1 S.2.1 hZ.en (i := k) hk hS S.2.2.2.1 (q := ("java/lang/Enum", "ordinal", "I", [0, 1, 2, 3, 4, 5, 6, 7, 8, 9])) List.mem_cons_self (S.2.2.2.2 _ k1277) (fun _ h => h) dJx29ce0_ordinal_8abf5_1 ?_
  rw [zEnum_ord k hk]
  exact z_ri hQ S hr hlk (zn_int _) rfl dJx29ce0_ordinal_8abf5_4
section ZC3
variable {p : Program} {l : Launch} {e : Env} {R : Room} {s : State} {m : MethodId} {args : Array Value} {below : List Frame} {meth : Method} {c : Code} {H : Heap} {locs : List Loc} {cells slots : Nat} {Q : State → Prop}
variable {cc : ByteArray} {pc nL index : Nat} {own : String} {ls : Array Slot} {rest : List Value} {g : ZG} {B : Nat}
/-- the ordinal of the kind k -/
theorem z_ord (S : CallFix p m c cc nL s args GW own) (hZ : zS g B s s.heap) (hS : va_S (zA B) s.heap H locs) (k : Nat) (hk : k < 10) (hlink : Cond.methodLink own index ⟨"CandleLoom$Kind", "ordinal", "()I"⟩ ∈ GW) (hR : 1 ≤ R.frames ∧ 20 ≤ R.locals) (hsize : ls.size = nL) (hcat : (rest.map fun v => v.category).sum ≤ 8) (hdg : decode cc pc = .ok (.invokevirtual index, 3)) (hf : cells + 0 ≤ R.cells ∧ slots + 0 ≤ R.slots)
    (kk : W p l e R s m args below meth c H locs cells slots Q (F0 m (pc + 3) ls (.int (nI k) :: rest))) : W p l e R s m args below meth c H locs cells slots Q (F0 m pc ls (.ref (g.2 1 k) :: rest)) := by
  refine z_ro (va_runU S (c_ordinal l g k hk (PH := fun _ => True)) (va_cwU (C := "CandleLoom$Kind") (owner := "java/lang/Enum") (x := ⟨"CandleLoom$Kind", "ordinal", "()I"⟩) (y := yJx29ce0_ordinal_8abf5) (ret := some .int) (rm := { frames := 0, cells := 0, slots := 0, locals := 0 }) 0 S.2.2.2.2 (goodIn_app (gL (List.forall_mem_cons.mpr ⟨hlink, List.forall_mem_cons.mpr ⟨k345, List.forall_mem_cons.mpr ⟨k347, List.forall_mem_cons.mpr ⟨k348, List.forall_mem_cons.mpr ⟨k9, fun _ h => absurd h List.not_mem_nil⟩⟩⟩⟩⟩)) (gIn k349)) rfl rfl rfl rfl (by decide +kernel) ⟨hR.1, hR.2⟩) ⟨zPre.blind, va_recvE hZ.en (i := k) hk hS, fun _ hU hW => ⟨rfl, zPre.at' (hZ.at' hS) trivial hU hW⟩⟩ rfl (As := []) rfl hsize rfl (lv_room hcat) hdg hf) rfl kk
end ZC3
theorem ci_X8_isSide : zCI yX8_isSide cX8_isSide 1 (some .boolean) 1 := ⟨k420, k2, by decide +kernel⟩
theorem cv_X8_isSide : Cond.static yX8_isSide ∈ GW := k419
set_option maxRecDepth 20000 in
set_option maxHeartbeats 4000000 in
/-- Loom.isSide(i) -/
theorem c_X8_isSide (l : Launch) (g : ZG) {B : Nat} (i : Nat) (hi : i < 65536) {PH : Heap → Prop} : Met l yX8_isSide (.code yX8_isSide cX8_isSide 1 (some .boolean) :: GW) { frames := 0, cells := 0, slots := 0, locals := 0 } (va_Pc [.int (nI i)] (zPre g B (fun H => PH H))) (zR (some (.int (nI (decide (i = 108 ∨ i = 114)).toNat)))) 0 0 (fun _ => False) := by
  refine zMet (by decide) (Nat.le_of_ble_eq_true rfl) ?_
  intro p e R s m args below meth c Q ls hR hargs hQ S hr hlk hP hZ hS hnm hl
  have hl : lv_has ls 1 [(0, .int (nI (i)))] := hl
  refine lv_iload_n S.1 S.2.1 dX8_isSide_0 rfl (lv_at hl 0 rfl) ?_
  refine z_bi S (k := 108) dX8_isSide_1 (by decide) ?_
  refine z_ceq (tgt := 12) S (by omega) (by omega) dX8_isSide_3 (by decide) (fun h1 => ?_) (fun h1 => ?_)
  · refine z_ic S (k := 1) dX8_isSide_12 (by decide) ?_
    refine lv_goto (tgt := 17) S.1 S.2.1 dX8_isSide_13 (by decide) ?_
    exact z_ri hQ S hr hlk rfl (by rw [decide_eq_true (Or.inl h1)]; rfl) dX8_isSide_17
  · refine lv_iload_n S.1 S.2.1 dX8_isSide_6 rfl (lv_at hl 0 rfl) ?_
    refine z_bi S (k := 114) dX8_isSide_7 (by decide) ?_
    refine z_cne (tgt := 16) S (by omega) (by omega) dX8_isSide_9 (by decide) (fun h2 => ?_) (fun h2 => ?_)
    · refine z_ic S (k := 0) dX8_isSide_16 (by decide) ?_
      exact z_ri hQ S hr hlk rfl (by rw [decide_eq_false (fun z => z.elim h1 h2)]; rfl) dX8_isSide_17
    · refine z_ic S (k := 1) dX8_isSide_12 (by decide) ?_
      refine lv_goto (tgt := 17) S.1 S.2.1 dX8_isSide_13 (by decide) ?_
      exact z_ri hQ S hr hlk rfl (by rw [decide_eq_true (Or.inr h2)]; rfl) dX8_isSide_17
theorem ci_X8_edgeAt : zCI yX8_edgeAt cX8_edgeAt 2 (some (.object "CandleLoom$Edge")) 1 := ⟨k424, k2, by decide +kernel⟩
theorem cv_X8_edgeAt : Cond.instanceMethod yX8_edgeAt ∈ GW ∧ Cond.selects (yX8_edgeAt).cls yX8_edgeAt yX8_edgeAt ∈ GW := ⟨k422, k423⟩
set_option maxRecDepth 20000 in
set_option maxHeartbeats 4000000 in
/-- Loom.edgeAt(i) -/
theorem c_X8_edgeAt (l : Launch) (g : ZG) {B : Nat} {o : Nat} (v : zL) (i : Nat) (hi : i < 65536) : Met l yX8_edgeAt (.code yX8_edgeAt cX8_edgeAt 2 (some (.object "CandleLoom$Edge")) :: GW) { frames := 0, cells := 0, slots := 0, locals := 0 } (va_Pc [.ref o, .int (nI i)] (zPre g B (fun H => zLo g o v H))) (zR (some (.ref (if i = 108 then o + 10 else o + 11)))) 0 0 (fun _ => False) := by
  refine zMet (by decide) (Nat.le_of_ble_eq_true rfl) ?_
  intro p e R s m args below meth c Q ls hR hargs hQ S hr hlk hP hZ hS hnm hl
  have hl : lv_has ls 2 [(0, .ref (o)), (1, .int (nI (i)))] := hl
  obtain ⟨hP0, hP1, hP2, hP3, hP4⟩ := hP
  refine lv_iload_n S.1 S.2.1 dX8_edgeAt_0 rfl (lv_at hl 1 rfl) ?_
  refine z_bi S (k := 108) dX8_edgeAt_1 (by decide) ?_
  refine z_cne (tgt := 13) S (by omega) (by omega) dX8_edgeAt_3 (by decide) (fun h1 => ?_) (fun h1 => ?_)
  · refine lv_aload_n S.1 S.2.1 dX8_edgeAt_13 rfl (lv_at hl 0 rfl) ?_
    refine z_get (v := .ref (o + 11)) S hZ.1 hP0 0 (by decide) rfl rfl rfl 3 (by decide) rfl k123 dX8_edgeAt_14 ?_
    exact z_ra hQ S hr hlk (Or.inl ⟨_, rfl⟩) (Or.inr ⟨_, rfl⟩) (by rw [if_neg h1]) dX8_edgeAt_17
  · refine lv_aload_n S.1 S.2.1 dX8_edgeAt_6 rfl (lv_at hl 0 rfl) ?_
    refine z_get (v := .ref (o + 10)) S hZ.1 hP0 0 (by decide) rfl rfl rfl 2 (by decide) rfl k122 dX8_edgeAt_7 ?_
    refine lv_goto (tgt := 17) S.1 S.2.1 dX8_edgeAt_10 (by decide) ?_
    exact z_ra hQ S hr hlk (Or.inl ⟨_, rfl⟩) (Or.inr ⟨_, rfl⟩) (by rw [if_pos h1]) dX8_edgeAt_17
theorem ci_X8_unburnt : zCI yX8_unburnt cX8_unburnt 4 (some .int) 1 := ⟨k579, k2, by decide +kernel⟩
theorem cv_X8_unburnt : Cond.instanceMethod yX8_unburnt ∈ GW ∧ Cond.selects (yX8_unburnt).cls yX8_unburnt yX8_unburnt ∈ GW := ⟨k577, k578⟩
set_option maxRecDepth 20000 in
set_option maxHeartbeats 4000000 in
/-- Loom.unburnt(q) -/
theorem c_X8_unburnt (l : Launch) (g : ZG) {B : Nat} {o : Nat} (v : zL) (hv : zOk v) (q : Nat) (hq : q < 65536) : Met l yX8_unburnt (.code yX8_unburnt cX8_unburnt 4 (some .int) :: GW) { frames := 0, cells := 0, slots := 0, locals := 0 } (va_Pc [.ref o, .int (nI q)] (zPre g B (fun H => zLo g o v H))) (zR (some (.int (nI (zUb (v 3 0 1) (v 4 0 1) q))))) 0 0 (fun _ => False) := by
  refine zMet (by decide) (Nat.le_of_ble_eq_true rfl) ?_
  intro p e R s m args below meth c Q ls hR hargs hQ S hr hlk hP hZ hS hnm hl
  have hl : lv_has ls 4 [(0, .ref (o)), (1, .int (nI (q)))] := hl
  obtain ⟨hP0, hP1, hP2, hP3, hP4⟩ := hP
  obtain ⟨hv1, hv2, hv3, hv4⟩ := hv
  have hl4 := hv3.2
  have hr4 := hv4.2
  have hp1 : 0 < 2 ^ v 3 0 1 := Nat.pow_pos (by omega)
  have hp2 : 0 < 2 ^ (16 - v 4 0 1) := Nat.pow_pos (by omega)
  have hp3 := Nat.pow_le_pow_right (n := 2) (by omega) (show v 3 0 1 ≤ 4 from hl4)
  have hp4 := Nat.pow_le_pow_right (n := 2) (by omega) (show 16 - v 4 0 1 ≤ 16 by omega)
  refine z_ic S (k := 1) dX8_unburnt_0 (by decide) ?_
  refine lv_aload_n S.1 S.2.1 dX8_unburnt_1 rfl (lv_at hl 0 rfl) ?_
  refine z_get (v := .ref (o + 10)) S hZ.1 hP0 0 (by decide) rfl rfl rfl 2 (by decide) rfl k122 dX8_unburnt_2 ?_
  refine z_get (v := .int (nI ((v 3) 0 1))) S hZ.1 hP3 0 (by decide) rfl rfl rfl 1 (by decide) rfl k108 dX8_unburnt_5 ?_
  refine z_shl S (by omega) (by omega) dX8_unburnt_8 ?_
  refine z_ic S (k := 1) dX8_unburnt_9 (by decide) ?_
  refine z_sub S (by omega) dX8_unburnt_10 ?_
  refine lv_istore_n (lv' := [(2, .int (nI ((1 * 2 ^ ((v 3) 0 1)) - 1))), (0, .ref (o)), (1, .int (nI (q)))]) S.1 S.2.1 dX8_unburnt_11 rfl hl (by decide) rfl (fun ls hl => ?_)
  refine z_ic S (k := 1) dX8_unburnt_12 (by decide) ?_
  refine z_bi S (k := 16) dX8_unburnt_13 (by decide) ?_
  refine lv_aload_n S.1 S.2.1 dX8_unburnt_15 rfl (lv_at hl 1 rfl) ?_
  refine z_get (v := .ref (o + 11)) S hZ.1 hP0 0 (by decide) rfl rfl rfl 3 (by decide) rfl k123 dX8_unburnt_16 ?_
  refine z_get (v := .int (nI ((v 4) 0 1))) S hZ.1 hP4 0 (by decide) rfl rfl rfl 1 (by decide) rfl k108 dX8_unburnt_19 ?_
  refine z_sub S (by omega) dX8_unburnt_22 ?_
  refine z_shl S (by omega) (by omega) dX8_unburnt_23 ?_
  refine z_ic S (k := 1) dX8_unburnt_24 (by decide) ?_
  refine z_sub S (by omega) dX8_unburnt_25 ?_
  refine lv_istore_n (lv' := [(3, .int (nI ((1 * 2 ^ (16 - ((v 4) 0 1))) - 1))), (2, .int (nI ((1 * 2 ^ ((v 3) 0 1)) - 1))), (0, .ref (o)), (1, .int (nI (q)))]) S.1 S.2.1 dX8_unburnt_26 rfl hl (by decide) rfl (fun ls hl => ?_)
  refine lv_iload_n S.1 S.2.1 dX8_unburnt_27 rfl (lv_at hl 3 rfl) ?_
  refine lv_iload_n S.1 S.2.1 dX8_unburnt_28 rfl (lv_at hl 1 rfl) ?_
  refine lv_iconst (v := -1) S.1 S.2.1 dX8_unburnt_29 (by decide) ?_
  rw [show (-1 : Int32) = nI 4294967295 from by decide]
  refine z_xor S dX8_unburnt_30 ?_
  refine z_and S dX8_unburnt_31 ?_
  refine lv_iload_n S.1 S.2.1 dX8_unburnt_32 rfl (lv_at hl 0 rfl) ?_
  refine z_and S dX8_unburnt_33 ?_
  exact z_ri hQ S hr hlk (zn_int _) rfl dX8_unburnt_34
theorem ci_X8_weaveRow : zCI yX8_weaveRow cX8_weaveRow 2 none 0 := ⟨k571, k2, by decide +kernel⟩
theorem cv_X8_weaveRow : Cond.instanceMethod yX8_weaveRow ∈ GW ∧ Cond.selects (yX8_weaveRow).cls yX8_weaveRow yX8_weaveRow ∈ GW := ⟨k570, kp14⟩
set_option maxRecDepth 20000 in
set_option maxHeartbeats 4000000 in
/-- Loom.weaveRow() -/
theorem c_X8_weaveRow (l : Launch) (g : ZG) {B : Nat} {o : Nat} (hB : B ≤ o) (v : zL) (hv : zOk v) (hc40 : v 2 0 3 < 40) : Met l yX8_weaveRow (.code yX8_weaveRow cX8_weaveRow 2 none :: GW) { frames := 2, cells := 0, slots := 0, locals := 61 } (va_Pc [.ref o] (zPre g B (fun H => zLo g o v H))) (zX (fun w H => w = none ∧ zLo g o (zWv v) H) o 12) 0 0 (zA B) := by
  refine zMet (by decide) (Nat.le_of_ble_eq_true rfl) ?_
  intro p e R s m args below meth c Q ls hR hargs hQ S hr hlk hP hZ hS hnm hl
  have hl : lv_has ls 2 [(0, .ref (o))] := hl
  have hC : zCh1 o 12 s.heap s.heap := zCh1.rf
  have hPL := hP
  obtain ⟨hP0, hP1, hP2, hP3, hP4⟩ := hP
  obtain ⟨hv1, hv2, hv3, hv4⟩ := id hv
  refine lv_aload_n S.1 S.2.1 dX8_weaveRow_0 rfl (lv_at hl 0 rfl) ?_
  refine z_get (v := .ref (o + 1)) S hZ.1 hP0 0 (by decide) rfl rfl rfl 0 (by decide) rfl k116 dX8_weaveRow_1 ?_
  refine z_cV (v := some (.int (nI (zPt (v 1) (v 1 0 4))))) (rest := []) (As := []) S hZ hS (c_X10_pattern l g (v 1) hv1) ci_X10_pattern cv_X10_pattern k572 ⟨rfl, rfl, by rw [hR]; decide, by rw [hR]; decide⟩ hP1 (hP1.recv hZ.1 0 (by decide) rfl rfl rfl) hl.1 rfl (Nat.le_of_ble_eq_true rfl) dX8_weaveRow_4 ⟨by rw [hR]; decide, by rw [hR]; decide⟩ rfl ?_
  have hpt := zPt_lt hv1 (v 1 0 4)
  refine lv_istore_n (lv' := [(1, .int (nI (zPt (v 1) (v 1 0 4)))), (0, .ref (o))]) S.1 S.2.1 dX8_weaveRow_7 rfl hl (by decide) rfl (fun ls hl => ?_)
  refine lv_aload_n S.1 S.2.1 dX8_weaveRow_8 rfl (lv_at hl 1 rfl) ?_
  refine z_get (v := .ref (o + 6)) S hZ.1 hP0 0 (by decide) rfl rfl rfl 1 (by decide) rfl k119 dX8_weaveRow_9 ?_
  refine lv_aload_n S.1 S.2.1 dX8_weaveRow_12 rfl (lv_at hl 1 rfl) ?_
  refine lv_iload_n S.1 S.2.1 dX8_weaveRow_13 rfl (lv_at hl 0 rfl) ?_
  refine z_cV (v := some (.int (nI (zUb (v 3 0 1) (v 4 0 1) (zPt (v 1) (v 1 0 4)))))) (rest := [.ref (o + 6)]) (As := [.int (nI (zPt (v 1) (v 1 0 4)))]) S hZ hS (c_X8_unburnt l g v hv (zPt (v 1) (v 1 0 4)) hpt) ci_X8_unburnt cv_X8_unburnt k576 ⟨rfl, rfl, by rw [hR]; decide, by rw [hR]; decide⟩ hPL (hP0.recv hZ.1 0 (by decide) rfl rfl rfl) hl.1 rfl (Nat.le_of_ble_eq_true rfl) dX8_weaveRow_14 ⟨by rw [hR]; decide, by rw [hR]; decide⟩ rfl ?_
  refine lv_aload_n S.1 S.2.1 dX8_weaveRow_17 rfl (lv_at hl 1 rfl) ?_
  refine z_get (v := .ref (o + 1)) S hZ.1 hP0 0 (by decide) rfl rfl rfl 0 (by decide) rfl k116 dX8_weaveRow_18 ?_
  refine z_cV (v := some (.int (nI ((zLd (v 1) (v 1 0 4)).1)))) (rest := [.int (nI (zUb (v 3 0 1) (v 4 0 1) (zPt (v 1) (v 1 0 4)))), .ref (o + 6)]) (As := []) S hZ hS (c_X10_leadingColour l g (v 1) hv1) ci_X10_leadingColour cv_X10_leadingColour k580 ⟨rfl, rfl, by rw [hR]; decide, by rw [hR]; decide⟩ hP1 (hP1.recv hZ.1 0 (by decide) rfl rfl rfl) hl.1 rfl (Nat.le_of_ble_eq_true rfl) dX8_weaveRow_21 ⟨by rw [hR]; decide, by rw [hR]; decide⟩ rfl ?_
  refine z_w1 (v0 := none) (rest := []) (As := [.int (nI (zUb (v 3 0 1) (v 4 0 1) (zPt (v 1) (v 1 0 4)))), .int (nI ((zLd (v 1) (v 1 0 4)).1))]) S hZ hS (c_X1_append l g (by omega) (v 2) hv2 _ _ hc40) (by omega) ci_X1_append cv_X1_append k584 ⟨rfl, rfl, by rw [hR]; exact Nat.le_of_ble_eq_true rfl, by rw [hR]; exact Nat.le_of_ble_eq_true rfl⟩ hP2 (hP2.recv hZ.1 0 (by decide) rfl rfl rfl) hl.1 rfl (Nat.le_of_ble_eq_true rfl) dX8_weaveRow_24 ⟨by rw [hR]; exact Nat.le_of_ble_eq_true rfl, by rw [hR]; exact Nat.le_of_ble_eq_true rfl⟩ rfl (fun H1 locs1 hPn hCn hSn => ?_)
  have hS := hSn
  have hP0 := hP0.kept hCn (by omega)
  have hP1 := hP1.kept hCn (by omega)
  have hP3 := hP3.kept hCn (by omega)
  have hP4 := hP4.kept hCn (by omega)
  have hP2 := hPn
  have hC := hC.tr (hCn.mono (b := o) (k := 12) (by omega) (by omega))
  refine lv_aload_n S.1 S.2.1 dX8_weaveRow_27 rfl (lv_at hl 1 rfl) ?_
  refine lv_dup S.1 S.2.1 dX8_weaveRow_28 rfl ?_
  refine z_get (v := .int (nI (v 0 0 4))) S hZ.1 hP0 0 (by decide) rfl rfl rfl 4 (by decide) rfl k124 dX8_weaveRow_29 ?_
  refine z_ic S (k := 1) dX8_weaveRow_32 (by decide) ?_
  refine z_add S dX8_weaveRow_33 ?_
  refine z_put (v := .int (nI ((v 0 0 4) + 1))) (ty := .int) S hZ.1 hP0 hS hB 0 (by decide) rfl rfl rfl 4 (by decide) (va_up ((v 0) 0) 4 ((v 0 0 4) + 1)) rfl k124 rfl (by decide +kernel) rfl rfl (Nat.le_of_ble_eq_true rfl) dX8_weaveRow_34 (fun H1 locs1 hPn hCn hSn => ?_)
  have hS := hSn
  have hP1 := hP1.kept hCn (by omega)
  have hP2 := hP2.kept hCn (by omega)
  have hP3 := hP3.kept hCn (by omega)
  have hP4 := hP4.kept hCn (by omega)
  have hP0 := hPn
  have hC := hC.tr (hCn.mono (b := o) (k := 12) (by omega) (by omega))
  refine lv_aload_n S.1 S.2.1 dX8_weaveRow_37 rfl (lv_at hl 1 rfl) ?_
  refine lv_dup S.1 S.2.1 dX8_weaveRow_38 rfl ?_
  refine z_get (v := .int (nI (v 0 0 5))) S hZ.1 hP0 0 (by decide) rfl rfl rfl 5 (by decide) rfl k126 dX8_weaveRow_39 ?_
  refine lv_aload_n S.1 S.2.1 dX8_weaveRow_42 rfl (lv_at hl 1 rfl) ?_
  refine z_get (v := .ref (o + 1)) S hZ.1 hP0 0 (by decide) rfl rfl rfl 0 (by decide) rfl k116 dX8_weaveRow_43 ?_
  refine z_w1 (v0 := some (.int (nI (zSum (v 1 4) (v 1 0 4))))) (rest := [.int (nI (v 0 0 5)), .ref (o)]) (As := []) S hZ hS (c_X10_burnDown l g (by omega) (v 1) hv1) (by omega) ci_X10_burnDown cv_X10_burnDown k588 ⟨rfl, rfl, by rw [hR]; exact Nat.le_of_ble_eq_true rfl, by rw [hR]; exact Nat.le_of_ble_eq_true rfl⟩ hP1 (hP1.recv hZ.1 0 (by decide) rfl rfl rfl) hl.1 rfl (Nat.le_of_ble_eq_true rfl) dX8_weaveRow_46 ⟨by rw [hR]; exact Nat.le_of_ble_eq_true rfl, by rw [hR]; exact Nat.le_of_ble_eq_true rfl⟩ rfl (fun H1 locs1 hPn hCn hSn => ?_)
  have hS := hSn
  have hP0 := hP0.kept hCn (by omega)
  have hP2 := hP2.kept hCn (by omega)
  have hP3 := hP3.kept hCn (by omega)
  have hP4 := hP4.kept hCn (by omega)
  have hP1 := hPn
  have hC := hC.tr (hCn.mono (b := o) (k := 12) (by omega) (by omega))
  refine z_add S dX8_weaveRow_49 ?_
  refine z_put (v := .int (nI ((v 0 0 5) + (zSum (v 1 4) (v 1 0 4))))) (ty := .int) S hZ.1 hP0 hS hB 0 (by decide) rfl rfl rfl 5 (by decide) (va_up ((va_up (v 0) 0 (va_up ((v 0) 0) 4 ((v 0 0 4) + 1))) 0) 5 ((v 0 0 5) + (zSum (v 1 4) (v 1 0 4)))) rfl k126 rfl (by decide +kernel) rfl rfl (Nat.le_of_ble_eq_true rfl) dX8_weaveRow_50 (fun H1 locs1 hPn hCn hSn => ?_)
  have hS := hSn
  have hP1 := hP1.kept hCn (by omega)
  have hP2 := hP2.kept hCn (by omega)
  have hP3 := hP3.kept hCn (by omega)
  have hP4 := hP4.kept hCn (by omega)
  have hP0 := hPn
  have hC := hC.tr (hCn.mono (b := o) (k := 12) (by omega) (by omega))
  refine lv_aload_n S.1 S.2.1 dX8_weaveRow_53 rfl (lv_at hl 1 rfl) ?_
  refine z_get (v := .ref (o + 10)) S hZ.1 hP0 0 (by decide) rfl rfl rfl 2 (by decide) rfl k122 dX8_weaveRow_54 ?_
  refine lv_iload_n S.1 S.2.1 dX8_weaveRow_57 rfl (lv_at hl 0 rfl) ?_
  refine z_ic S (k := 1) dX8_weaveRow_58 (by decide) ?_
  refine z_and S dX8_weaveRow_59 ?_
  rw [show zPt (v 1) (v 1 0 4) &&& 1 = (zBt (zPt (v 1) (v 1 0 4)) 0).toNat from by rw [← zBt_and, Nat.pow_zero, Nat.div_one]]
  have J : W p l e R s m args below meth c H1 locs1 0 0 Q (F0 m 68 ls [.int (nI (zBt (zPt (v 1) (v 1 0 4)) 0).toNat), .ref (o + 10)]) := by
    refine z_w1 (v0 := none) (rest := []) (As := [.int (nI (zBt (zPt (v 1) (v 1 0 4)) 0).toNat)]) S hZ hS (c_X3_feel l g (by omega) (v 3) hv3 (zBt (zPt (v 1) (v 1 0 4)) 0)) (by omega) ci_X3_feel cv_X3_feel k592 ⟨rfl, rfl, by rw [hR]; exact Nat.le_of_ble_eq_true rfl, by rw [hR]; exact Nat.le_of_ble_eq_true rfl⟩ hP3 (hP3.recv hZ.1 0 (by decide) rfl rfl rfl) hl.1 rfl (Nat.le_of_ble_eq_true rfl) dX8_weaveRow_68 ⟨by rw [hR]; exact Nat.le_of_ble_eq_true rfl, by rw [hR]; exact Nat.le_of_ble_eq_true rfl⟩ rfl (fun H1 locs1 hPn hCn hSn => ?_)
    have hS := hSn
    have hP0 := hP0.kept hCn (by omega)
    have hP1 := hP1.kept hCn (by omega)
    have hP2 := hP2.kept hCn (by omega)
    have hP4 := hP4.kept hCn (by omega)
    have hP3 := hPn
    have hC := hC.tr (hCn.mono (b := o) (k := 12) (by omega) (by omega))
    refine lv_aload_n S.1 S.2.1 dX8_weaveRow_71 rfl (lv_at hl 1 rfl) ?_
    refine z_get (v := .ref (o + 11)) S hZ.1 hP0 0 (by decide) rfl rfl rfl 3 (by decide) rfl k123 dX8_weaveRow_72 ?_
    refine lv_iload_n S.1 S.2.1 dX8_weaveRow_75 rfl (lv_at hl 0 rfl) ?_
    refine z_bi S (k := 15) dX8_weaveRow_76 (by decide) ?_
    refine z_shr S (by omega) (by omega) dX8_weaveRow_78 ?_
    refine z_ic S (k := 1) dX8_weaveRow_79 (by decide) ?_
    refine z_and S dX8_weaveRow_80 ?_
    rw [zBt_and]
    have J : W p l e R s m args below meth c H1 locs1 0 0 Q (F0 m 89 ls [.int (nI (zBt (zPt (v 1) (v 1 0 4)) 15).toNat), .ref (o + 11)]) := by
      refine z_w1 (v0 := none) (rest := []) (As := [.int (nI (zBt (zPt (v 1) (v 1 0 4)) 15).toNat)]) S hZ hS (c_X3_feel l g (by omega) (v 4) hv4 (zBt (zPt (v 1) (v 1 0 4)) 15)) (by omega) ci_X3_feel cv_X3_feel k592 ⟨rfl, rfl, by rw [hR]; exact Nat.le_of_ble_eq_true rfl, by rw [hR]; exact Nat.le_of_ble_eq_true rfl⟩ hP4 (hP4.recv hZ.1 0 (by decide) rfl rfl rfl) hl.1 rfl (Nat.le_of_ble_eq_true rfl) dX8_weaveRow_89 ⟨by rw [hR]; exact Nat.le_of_ble_eq_true rfl, by rw [hR]; exact Nat.le_of_ble_eq_true rfl⟩ rfl (fun H1 locs1 hPn hCn hSn => ?_)
      have hS := hSn
      have hP0 := hP0.kept hCn (by omega)
      have hP1 := hP1.kept hCn (by omega)
      have hP2 := hP2.kept hCn (by omega)
      have hP3 := hP3.kept hCn (by omega)
      have hP4 := hPn
      have hC := hC.tr (hCn.mono (b := o) (k := 12) (by omega) (by omega))
      exact z_wv hQ S hr hlk hS hC ⟨rfl, hP0, hP1, hP2, hP3, hP4⟩ dX8_weaveRow_92
    refine z_beq (tgt := 88) S dX8_weaveRow_81 (by decide) (fun h2 => ?_) (fun h2 => ?_)
    · refine z_ic S (k := 0) dX8_weaveRow_88 (by decide) ?_
      have hb : zBt (zPt (v 1) (v 1 0 4)) 15 = false := h2
      rw [hb] at J; exact J
    · refine z_ic S (k := 1) dX8_weaveRow_84 (by decide) ?_
      refine lv_goto (tgt := 89) S.1 S.2.1 dX8_weaveRow_85 (by decide) ?_
      have hb : zBt (zPt (v 1) (v 1 0 4)) 15 = true := h2
      rw [hb] at J; exact J
  refine z_beq (tgt := 67) S dX8_weaveRow_60 (by decide) (fun h1 => ?_) (fun h1 => ?_)
  · refine z_ic S (k := 0) dX8_weaveRow_67 (by decide) ?_
    have hb : zBt (zPt (v 1) (v 1 0 4)) 0 = false := h1
    rw [hb] at J; exact J
  · refine z_ic S (k := 1) dX8_weaveRow_63 (by decide) ?_
    refine lv_goto (tgt := 68) S.1 S.2.1 dX8_weaveRow_64 (by decide) ?_
    have hb : zBt (zPt (v 1) (v 1 0 4)) 0 = true := h1
    rw [hb] at J; exact J
theorem zWn_le (v : zL) (r : Nat) : zWn v r ≤ r := zFi_le _ r
theorem zWn_lit {v : zL} {r j : Nat} (h : j < zWn v r) : 0 < zLt (zWs v j) := by
  have h1 := zFi_no (p := fun j => decide (zLt (zWs v j) = 0)) h
  have h2 := of_decide_eq_false h1
  omega
theorem zWn_end {v : zL} {r : Nat} (h : zWn v r < r) : zLt (zWs v (zWn v r)) = 0 := of_decide_eq_true (zFi_lt (p := fun j => decide (zLt (zWs v j) = 0)) h).1
theorem ci_X8_weaveRows : zCI yX8_weaveRows cX8_weaveRows 3 (some .int) 1 := ⟨k566, k2, by decide +kernel⟩
theorem cv_X8_weaveRows : Cond.instanceMethod yX8_weaveRows ∈ GW ∧ Cond.selects (yX8_weaveRows).cls yX8_weaveRows yX8_weaveRows ∈ GW := ⟨k565, kp13⟩
set_option maxRecDepth 20000 in
set_option maxHeartbeats 4000000 in
/-- Loom.weaveRows(r) -/
theorem c_X8_weaveRows (l : Launch) (g : ZG) {B : Nat} {o : Nat} (hB : B ≤ o) (v : zL) (hv : zOk v) (r : Nat) (hr40 : v 2 0 3 + r ≤ 40) : Met l yX8_weaveRows (.code yX8_weaveRows cX8_weaveRows 3 (some .int) :: GW) { frames := 3, cells := 0, slots := 0, locals := 82 } (va_Pc [.ref o, .int (nI r)] (zPre g B (fun H => zLo g o v H))) (zX (fun w H => w = some (.int (nI (zWn v r))) ∧ zLo g o (zWs v (zWn v r)) H) o 12) 0 0 (zA B) := by
  refine zMet (by decide) (Nat.le_of_ble_eq_true rfl) ?_
  intro p e R s m args below meth c Q ls hR hargs hQ S hr hlk hP hZ hS hnm hl
  have hl : lv_has ls 3 [(0, .ref (o)), (1, .int (nI (r)))] := hl
  have hC : zCh1 o 12 s.heap s.heap := zCh1.rf
  have hle := zWn_le v r
  refine z_ic S (k := 0) dX8_weaveRows_0 (by decide) ?_
  refine lv_istore_n (lv' := [(2, .int (nI (0))), (0, .ref (o)), (1, .int (nI (r)))]) S.1 S.2.1 dX8_weaveRows_1 rfl hl (by decide) rfl (fun ls hl => ?_)
  have loop : ∀ (n i : Nat) (ls : Array Slot) (H : Heap) (locs : List Loc), (i ≤ zWn v r) → (zWn v r < i + n) → zLo g o (zWs v i) H → va_S (zA B) s.heap H locs → zCh1 o 12 s.heap H → lv_has ls 3 [(0, .ref o), (1, .int (nI r)), (2, .int (nI i))] → W p l e R s m args below meth c H locs 0 0 Q (F0 m 2 ls []) := by
    intro n
    induction n with
    | zero => intro i ls H locs h1 h2; exact absurd h2 (by omega)
    | succ n ih =>
      intro i ls H locs h1 h2 hPL hS hC hl
      have hvi := zWs_ok hv i (by omega)
      obtain ⟨hP0, hP1, hP2, hP3, hP4⟩ := id hPL
      refine lv_iload_n S.1 S.2.1 dX8_weaveRows_2 rfl (lv_at hl 2 rfl) ?_
      refine lv_iload_n S.1 S.2.1 dX8_weaveRows_3 rfl (lv_at hl 1 rfl) ?_
      refine z_cge (tgt := 27) S (by omega) (by omega) dX8_weaveRows_4 (by decide) (fun h4 => ?_) (fun h4 => ?_)
      · refine lv_iload_n S.1 S.2.1 dX8_weaveRows_27 rfl (lv_at hl 2 rfl) ?_
        have hi : zWn v r = i := (by omega)
        exact z_wi hQ S hr hlk (zn_int _) hS hC ⟨by rw [hi], by rw [hi]; exact hPL⟩ dX8_weaveRows_28
      · refine lv_aload_n S.1 S.2.1 dX8_weaveRows_7 rfl (lv_at hl 0 rfl) ?_
        refine z_get (v := .ref (o + 1)) S hZ.1 hP0 0 (by decide) rfl rfl rfl 0 (by decide) rfl k116 dX8_weaveRows_8 ?_
        refine z_cV (v := some (.int (nI (zLt (zWs v i))))) (rest := []) (As := []) S hZ hS (c_X10_countLit l g (zWs v i 1) hvi.1) ci_X10_countLit cv_X10_countLit k567 ⟨rfl, rfl, by rw [hR]; decide, by rw [hR]; decide⟩ hP1 (hP1.recv hZ.1 0 (by decide) rfl rfl rfl) hl.1 rfl (Nat.le_of_ble_eq_true rfl) dX8_weaveRows_11 ⟨by rw [hR]; decide, by rw [hR]; decide⟩ rfl ?_
        refine z_ile (tgt := 27) S (by have := zLt_le hvi; omega) dX8_weaveRows_14 (by decide) (fun h5 => ?_) (fun h5 => ?_)
        · refine lv_iload_n S.1 S.2.1 dX8_weaveRows_27 rfl (lv_at hl 2 rfl) ?_
          have hi : zWn v r = i := (by rcases Nat.lt_or_ge i (zWn v r) with z | z; have := zWn_lit z; omega; omega)
          exact z_wi hQ S hr hlk (zn_int _) hS hC ⟨by rw [hi], by rw [hi]; exact hPL⟩ dX8_weaveRows_28
        · refine lv_aload_n S.1 S.2.1 dX8_weaveRows_17 rfl (lv_at hl 0 rfl) ?_
          have hlt : i < zWn v r := by rcases Nat.lt_or_ge i (zWn v r) with z | z; exact z; have e : zWn v r = i := (by omega); have q := zWn_end (v := v) (r := r) (by omega); rw [e] at q; omega
          refine z_w1 (v0 := none) (rest := []) (As := []) S hZ hS (c_X8_weaveRow l g hB (zWs v i) hvi (by rw [zWs_c]; omega)) hB ci_X8_weaveRow cv_X8_weaveRow k568 ⟨rfl, rfl, by rw [hR]; exact Nat.le_of_ble_eq_true rfl, by rw [hR]; exact Nat.le_of_ble_eq_true rfl⟩ hPL (hP0.recv hZ.1 0 (by decide) rfl rfl rfl) hl.1 rfl (Nat.le_of_ble_eq_true rfl) dX8_weaveRows_18 ⟨by rw [hR]; exact Nat.le_of_ble_eq_true rfl, by rw [hR]; exact Nat.le_of_ble_eq_true rfl⟩ rfl (fun H1 locs1 hPn hCn hSn => ?_)
          refine z_inc S (lv' := [(2, .int (nI (i + 1))), (0, .ref (o)), (1, .int (nI (r)))]) (k := 2) (b := 1) dX8_weaveRows_21 hl rfl (by decide) (by decide) rfl (fun ls hl => ?_)
          refine lv_goto (tgt := 2) S.1 S.2.1 dX8_weaveRows_24 (by decide) ?_
          exact ih (i + 1) ls H1 locs1 (by omega) (by omega) hPn hSn (hC.tr hCn) (lv_sub hl [1, 2, 0] rfl)
  exact loop (zWn v r + 1) 0 ls _ _ (Nat.zero_le _) (by omega) hP hS hC (lv_sub hl [1, 2, 0] rfl)
theorem zMk_all (v w : zL) : zMk (v 0) (v 1) (v 2) (v 3) (v 4) v = v := by
  funext k
  match k with
  | 0 => rfl
  | 1 => rfl
  | 2 => rfl
  | 3 => rfl
  | 4 => rfl
  | k + 5 => rfl
theorem ci_X8_copyFrom : zCI yX8_copyFrom cX8_copyFrom 2 none 1 := ⟨k299, k2, by decide +kernel⟩
theorem cv_X8_copyFrom : Cond.instanceMethod yX8_copyFrom ∈ GW ∧ Cond.selects (yX8_copyFrom).cls yX8_copyFrom yX8_copyFrom ∈ GW := ⟨k297, k298⟩
set_option maxRecDepth 20000 in
set_option maxHeartbeats 4000000 in
/-- Loom.copyFrom(other) -/
theorem c_X8_copyFrom (l : Launch) (g : ZG) {B : Nat} {o o2 : Nat} (hB : B ≤ o) (hd : o2 + 12 ≤ o ∨ o + 12 ≤ o2) (v v2 : zL) (hv2 : zOk v2) : Met l yX8_copyFrom (.code yX8_copyFrom cX8_copyFrom 2 none :: GW) { frames := 2, cells := 0, slots := 0, locals := 81 } (va_Pc [.ref o, .ref o2] (zPre g B (fun H => zLo g o v H ∧ zLo g o2 v2 H))) (zX (fun w H => w = none ∧ zLo g o v2 H) o 12) 0 0 (zA B) := by
  refine zMet (by decide) (Nat.le_of_ble_eq_true rfl) ?_
  intro p e R s m args below meth c Q ls hR hargs hQ S hr hlk hP hZ hS hnm hl
  have hl : lv_has ls 2 [(0, .ref (o)), (1, .ref (o2))] := hl
  obtain ⟨⟨hP0, hP1, hP2, hP3, hP4⟩, hQ0, hQ1, hQ2, hQ3, hQ4⟩ := hP
  have hC : zCh1 o 12 s.heap s.heap := zCh1.rf
  refine lv_aload_n S.1 S.2.1 dX8_copyFrom_0 rfl (lv_at hl 0 rfl) ?_
  refine z_get (v := .ref (o + 1)) S hZ.1 hP0 0 (by decide) rfl rfl rfl 0 (by decide) rfl k116 dX8_copyFrom_1 ?_
  refine lv_aload_n S.1 S.2.1 dX8_copyFrom_4 rfl (lv_at hl 1 rfl) ?_
  refine z_get (v := .ref (o2 + 1)) S hZ.1 hQ0 0 (by decide) rfl rfl rfl 0 (by decide) rfl k116 dX8_copyFrom_5 ?_
  refine z_w1 (v0 := none) (rest := []) (As := [.ref (o2 + 1)]) S hZ hS (c_X10_copyFrom l g (by omega) (by omega) (v 1) (v2 1) (fun i => (hv2.1.2 i).2.2.2.1)) (by omega) ci_X10_copyFrom cv_X10_copyFrom k300 ⟨rfl, rfl, by rw [hR]; exact Nat.le_of_ble_eq_true rfl, by rw [hR]; exact Nat.le_of_ble_eq_true rfl⟩ ⟨hP1, hQ1⟩ (hP1.recv hZ.1 0 (by decide) rfl rfl rfl) hl.1 rfl (Nat.le_of_ble_eq_true rfl) dX8_copyFrom_8 ⟨by rw [hR]; exact Nat.le_of_ble_eq_true rfl, by rw [hR]; exact Nat.le_of_ble_eq_true rfl⟩ rfl (fun H1 locs1 hPn hCn hSn => ?_)
  have hS := hSn
  have hP0 := hP0.kept hCn (by omega)
  have hP2 := hP2.kept hCn (by omega)
  have hP3 := hP3.kept hCn (by omega)
  have hP4 := hP4.kept hCn (by omega)
  have hQ0 := hQ0.kept hCn (by omega)
  have hQ1 := hQ1.kept hCn (by omega)
  have hQ2 := hQ2.kept hCn (by omega)
  have hQ3 := hQ3.kept hCn (by omega)
  have hQ4 := hQ4.kept hCn (by omega)
  have hP1 := hPn
  have hC := hC.tr (hCn.mono (b := o) (k := 12) (by omega) (by omega))
  refine lv_aload_n S.1 S.2.1 dX8_copyFrom_11 rfl (lv_at hl 0 rfl) ?_
  refine z_get (v := .ref (o + 6)) S hZ.1 hP0 0 (by decide) rfl rfl rfl 1 (by decide) rfl k119 dX8_copyFrom_12 ?_
  refine lv_aload_n S.1 S.2.1 dX8_copyFrom_15 rfl (lv_at hl 1 rfl) ?_
  refine z_get (v := .ref (o2 + 6)) S hZ.1 hQ0 0 (by decide) rfl rfl rfl 1 (by decide) rfl k119 dX8_copyFrom_16 ?_
  refine z_w1 (v0 := none) (rest := []) (As := [.ref (o2 + 6)]) S hZ hS (c_X1_copyFrom l g (by omega) (by omega) (v 2) (v2 2)) (by omega) ci_X1_copyFrom cv_X1_copyFrom k304 ⟨rfl, rfl, by rw [hR]; exact Nat.le_of_ble_eq_true rfl, by rw [hR]; exact Nat.le_of_ble_eq_true rfl⟩ ⟨hP2, hQ2⟩ (hP2.recv hZ.1 0 (by decide) rfl rfl rfl) hl.1 rfl (Nat.le_of_ble_eq_true rfl) dX8_copyFrom_19 ⟨by rw [hR]; exact Nat.le_of_ble_eq_true rfl, by rw [hR]; exact Nat.le_of_ble_eq_true rfl⟩ rfl (fun H1 locs1 hPn hCn hSn => ?_)
  have hS := hSn
  have hP0 := hP0.kept hCn (by omega)
  have hP1 := hP1.kept hCn (by omega)
  have hP3 := hP3.kept hCn (by omega)
  have hP4 := hP4.kept hCn (by omega)
  have hQ0 := hQ0.kept hCn (by omega)
  have hQ1 := hQ1.kept hCn (by omega)
  have hQ2 := hQ2.kept hCn (by omega)
  have hQ3 := hQ3.kept hCn (by omega)
  have hQ4 := hQ4.kept hCn (by omega)
  have hP2 := hPn
  have hC := hC.tr (hCn.mono (b := o) (k := 12) (by omega) (by omega))
  refine lv_aload_n S.1 S.2.1 dX8_copyFrom_22 rfl (lv_at hl 0 rfl) ?_
  refine z_get (v := .ref (o + 10)) S hZ.1 hP0 0 (by decide) rfl rfl rfl 2 (by decide) rfl k122 dX8_copyFrom_23 ?_
  refine lv_aload_n S.1 S.2.1 dX8_copyFrom_26 rfl (lv_at hl 1 rfl) ?_
  refine z_get (v := .ref (o2 + 10)) S hZ.1 hQ0 0 (by decide) rfl rfl rfl 2 (by decide) rfl k122 dX8_copyFrom_27 ?_
  refine z_w1 (v0 := none) (rest := []) (As := [.ref (o2 + 10)]) S hZ hS (c_X3_copyFrom l g (by omega) (by omega) (v 3) (v2 3)) (by omega) ci_X3_copyFrom cv_X3_copyFrom k311 ⟨rfl, rfl, by rw [hR]; exact Nat.le_of_ble_eq_true rfl, by rw [hR]; exact Nat.le_of_ble_eq_true rfl⟩ ⟨hP3, hQ3⟩ (hP3.recv hZ.1 0 (by decide) rfl rfl rfl) hl.1 rfl (Nat.le_of_ble_eq_true rfl) dX8_copyFrom_30 ⟨by rw [hR]; exact Nat.le_of_ble_eq_true rfl, by rw [hR]; exact Nat.le_of_ble_eq_true rfl⟩ rfl (fun H1 locs1 hPn hCn hSn => ?_)
  have hS := hSn
  have hP0 := hP0.kept hCn (by omega)
  have hP1 := hP1.kept hCn (by omega)
  have hP2 := hP2.kept hCn (by omega)
  have hP4 := hP4.kept hCn (by omega)
  have hQ0 := hQ0.kept hCn (by omega)
  have hQ1 := hQ1.kept hCn (by omega)
  have hQ2 := hQ2.kept hCn (by omega)
  have hQ3 := hQ3.kept hCn (by omega)
  have hQ4 := hQ4.kept hCn (by omega)
  have hP3 := hPn
  have hC := hC.tr (hCn.mono (b := o) (k := 12) (by omega) (by omega))
  refine lv_aload_n S.1 S.2.1 dX8_copyFrom_33 rfl (lv_at hl 0 rfl) ?_
  refine z_get (v := .ref (o + 11)) S hZ.1 hP0 0 (by decide) rfl rfl rfl 3 (by decide) rfl k123 dX8_copyFrom_34 ?_
  refine lv_aload_n S.1 S.2.1 dX8_copyFrom_37 rfl (lv_at hl 1 rfl) ?_
  refine z_get (v := .ref (o2 + 11)) S hZ.1 hQ0 0 (by decide) rfl rfl rfl 3 (by decide) rfl k123 dX8_copyFrom_38 ?_
  refine z_w1 (v0 := none) (rest := []) (As := [.ref (o2 + 11)]) S hZ hS (c_X3_copyFrom l g (by omega) (by omega) (v 4) (v2 4)) (by omega) ci_X3_copyFrom cv_X3_copyFrom k311 ⟨rfl, rfl, by rw [hR]; exact Nat.le_of_ble_eq_true rfl, by rw [hR]; exact Nat.le_of_ble_eq_true rfl⟩ ⟨hP4, hQ4⟩ (hP4.recv hZ.1 0 (by decide) rfl rfl rfl) hl.1 rfl (Nat.le_of_ble_eq_true rfl) dX8_copyFrom_41 ⟨by rw [hR]; exact Nat.le_of_ble_eq_true rfl, by rw [hR]; exact Nat.le_of_ble_eq_true rfl⟩ rfl (fun H1 locs1 hPn hCn hSn => ?_)
  have hS := hSn
  have hP0 := hP0.kept hCn (by omega)
  have hP1 := hP1.kept hCn (by omega)
  have hP2 := hP2.kept hCn (by omega)
  have hP3 := hP3.kept hCn (by omega)
  have hQ0 := hQ0.kept hCn (by omega)
  have hQ1 := hQ1.kept hCn (by omega)
  have hQ2 := hQ2.kept hCn (by omega)
  have hQ3 := hQ3.kept hCn (by omega)
  have hQ4 := hQ4.kept hCn (by omega)
  have hP4 := hPn
  have hC := hC.tr (hCn.mono (b := o) (k := 12) (by omega) (by omega))
  refine lv_aload_n S.1 S.2.1 dX8_copyFrom_44 rfl (lv_at hl 0 rfl) ?_
  refine lv_aload_n S.1 S.2.1 dX8_copyFrom_45 rfl (lv_at hl 1 rfl) ?_
  refine z_get (v := .int (nI ((v2 0) 0 4))) S hZ.1 hQ0 0 (by decide) rfl rfl rfl 4 (by decide) rfl k124 dX8_copyFrom_46 ?_
  refine z_put (v := .int (nI ((v2 0) 0 4))) (ty := .int) S hZ.1 hP0 hS hB 0 (by decide) rfl rfl rfl 4 (by decide) (va_up ((v 0) 0) 4 ((v2 0) 0 4)) rfl k124 rfl (by decide +kernel) rfl rfl (Nat.le_of_ble_eq_true rfl) dX8_copyFrom_49 (fun H1 locs1 hPn hCn hSn => ?_)
  have hS := hSn
  have hP1 := hP1.kept hCn (by omega)
  have hP2 := hP2.kept hCn (by omega)
  have hP3 := hP3.kept hCn (by omega)
  have hP4 := hP4.kept hCn (by omega)
  have hQ0 := hQ0.kept hCn (by omega)
  have hQ1 := hQ1.kept hCn (by omega)
  have hQ2 := hQ2.kept hCn (by omega)
  have hQ3 := hQ3.kept hCn (by omega)
  have hQ4 := hQ4.kept hCn (by omega)
  have hP0 := hPn
  have hC := hC.tr (hCn.mono (b := o) (k := 12) (by omega) (by omega))
  refine lv_aload_n S.1 S.2.1 dX8_copyFrom_52 rfl (lv_at hl 0 rfl) ?_
  refine lv_aload_n S.1 S.2.1 dX8_copyFrom_53 rfl (lv_at hl 1 rfl) ?_
  refine z_get (v := .int (nI ((v2 0) 0 5))) S hZ.1 hQ0 0 (by decide) rfl rfl rfl 5 (by decide) rfl k126 dX8_copyFrom_54 ?_
  refine z_put (v := .int (nI ((v2 0) 0 5))) (ty := .int) S hZ.1 hP0 hS hB 0 (by decide) rfl rfl rfl 5 (by decide) (va_up ((va_up (v 0) 0 (va_up ((v 0) 0) 4 ((v2 0) 0 4))) 0) 5 ((v2 0) 0 5)) rfl k126 rfl (by decide +kernel) rfl rfl (Nat.le_of_ble_eq_true rfl) dX8_copyFrom_57 (fun H1 locs1 hPn hCn hSn => ?_)
  have hS := hSn
  have hP1 := hP1.kept hCn (by omega)
  have hP2 := hP2.kept hCn (by omega)
  have hP3 := hP3.kept hCn (by omega)
  have hP4 := hP4.kept hCn (by omega)
  have hQ0 := hQ0.kept hCn (by omega)
  have hQ1 := hQ1.kept hCn (by omega)
  have hQ2 := hQ2.kept hCn (by omega)
  have hQ3 := hQ3.kept hCn (by omega)
  have hQ4 := hQ4.kept hCn (by omega)
  have hP0 := hPn
  have hC := hC.tr (hCn.mono (b := o) (k := 12) (by omega) (by omega))
  have hP0 : zPm g o 1 TLo (v2 0) H1 := hP0.cg (fun k hk a hv => by match k, hk with | 0, _ => exact hv | k + 1, hk => exact absurd hk (by omega))
  exact z_wv hQ S hr hlk hS hC ⟨rfl, hP0, hP1, hP2, hP3, hP4⟩ dX8_copyFrom_60
