/-! EXECUTE: the commands of a text, one behind the other; none where one is not allowed -/
def yEx : List (Nat → Nat) → zL → Option zL
  | [], v => some v
  | r :: L, v => if (zVd v (r 0) (r 1) (r 2) (r 3)).1 = 0 then yEx L (zPf v (r 0) (r 1) (r 2) (r 3)).1 else none
def yRow (r : Nat → Nat) : Prop := r 0 < 10 ∧ r 1 < 100000 ∧ r 2 < 100000 ∧ r 3 < 100000 ∧ (r 0 = 9 → r 1 < 65536)
theorem yPa_rows (k : Nat) (hk : k < 31) : ∃ L, yPa (17 + k) 11 0 [] = some L ∧ L.length ≤ 10 ∧ ∀ r ∈ L, yRow r := by
  have h := yPa_ok k hk
  unfold yPaOk at h
  split at h
  · cases h
  case h_2 L e =>
    refine ⟨L, e, ?_, fun r hr => ?_⟩
    · simp only [Bool.and_eq_true, decide_eq_true_eq] at h; exact h.2.1
    · simp only [Bool.and_eq_true, decide_eq_true_eq, List.all_eq_true, Bool.or_eq_true] at h
      obtain ⟨h0, h1, h2, h3, h4⟩ := h.2.2 r hr
      exact ⟨h0, h1, h2, h3, fun e9 => h4.elim (fun z => absurd e9 z) id⟩
/-- the loom, the judge, the object's own numbers are others -/
def yMx (z : zSt) (v : zL) (fj fr : Nat → Nat → Nat) : zSt := fun b => if b = 0 then v else if b = 13 then fun _ => fj else if b = 11 then fun _ => fr else z b
theorem yMx_k (z : zSt) (v : zL) (fj fr : Nat → Nat → Nat) (i : Nat) (hi : i < 8) : yMx z v fj fr (3 + i) = z (3 + i) := by unfold yMx; rw [if_neg (by omega), if_neg (by omega), if_neg (by omega)]
theorem ci_X11_firstFailingCommand : zCI yX11_firstFailingCommand cX11_firstFailingCommand 4 (some .int) 0 := ⟨k797, k1, by decide +kernel⟩
theorem cv_X11_firstFailingCommand : Cond.instanceMethod yX11_firstFailingCommand ∈ GW ∧ Cond.selects (yX11_firstFailingCommand).cls yX11_firstFailingCommand yX11_firstFailingCommand ∈ GW := ⟨k796, kp22⟩
set_option maxRecDepth 20000 in
set_option maxHeartbeats 4000000 in
/-- firstFailingCommand() -/
theorem c_firstFailing (l : Launch) (g : ZG) {B : Nat} {o : Nat} (hB : B ≤ o) (z : zSt) (hv0 : zOk (z 0)) (L : List (Nat → Nat)) (hn : z 15 0 0 3 = L.length) (hn10 : L.length ≤ 10) (hrow : ∀ r ∈ L, yRow r) (hcm : ∀ i, i < L.length → z 15 1 i = L.getD i yNo) : Met l yX11_firstFailingCommand (.code yX11_firstFailingCommand cX11_firstFailingCommand 4 (some .int) :: GW) { frames := 5, cells := 0, slots := 0, locals := 127 } (va_Pc [.ref o] (zPre g B (fun H => zSO g o z H))) (zX (fun w H => ∃ (v : zL) (fj fr : Nat → Nat → Nat), zSO g o (yMx z v fj fr) H ∧ zOk v ∧ ((yEx L (z 0) = some v ∧ w = some (.int (-1)) ∧ fr = z 11 0) ∨ (yEx L (z 0) = none ∧ ∃ i, i < 10 ∧ w = some (.int (nI i)) ∧ 1 ≤ fr 0 13 ∧ fr 0 13 ≤ 10 ∧ ∀ j, j ≠ 13 → fr 0 j = z 11 0 0 j))) o 152) 0 0 (zA B) := by
  refine zMet (by decide) (Nat.le_of_ble_eq_true rfl) ?_
  intro p e R s m args below meth c Q ls hR hargs hQ S hr hlk hP hZ hS hnm hl
  have hl : lv_has ls 4 [(0, .ref (o))] := hl
  obtain ⟨hRo, hL, hF, hN, hHi, hJ, hQ0, hSc, hLn⟩ := hP
  have hC : zCh1 o 152 s.heap s.heap := zCh1.rf
  refine z_ic S (k := 0) dX11_firstFailingCommand_0 (by decide) ?_
  refine lv_istore_n (lv' := [(1, .int (nI (0))), (0, .ref (o))]) S.1 S.2.1 dX11_firstFailingCommand_1 rfl hl (by decide) rfl (fun ls hl => ?_)
  have loop : ∀ (n i : Nat) (v : zL) (fj : Nat → Nat → Nat) (ls : Array Slot) (H : Heap) (locs : List Loc), (i ≤ L.length) → (L.length < i + n) → zOk v → yEx (L.drop i) v = yEx L (z 0) → zPm g o 1 TRo (z 11 0) H → zLo g (o + 1) v H → zLo g (o + 13) (z 1) H → zLo g (o + 25) (z 2) H → zHi g (o + 37) (z 12 0) (fun i => z (3 + i)) H → zPm g (o + 135) 1 TJu fj H → zPm g (o + 136) 1 TCo (z 14 0) H → zSo g (o + 137) (z 15 0) (z 15 1) H → zPm g (o + 150) 2 TLi (z 16 0) H → va_S (zA B) s.heap H locs → zCh1 o 152 s.heap H → lv_has ls 4 [(0, .ref o), (1, .int (nI i))] → W p l e R s m args below meth c H locs 0 0 Q (F0 m 2 ls []) := by
    intro n
    induction n with
    | zero => intro i v fj ls H locs h1 h2; exact absurd h2 (by omega)
    | succ n ih =>
      intro i v fj ls H locs h1 h2 hv he hRo hL hF hN hHi hJ hQ0 hSc hLn hS hC hl
      refine lv_iload_n S.1 S.2.1 dX11_firstFailingCommand_2 rfl (lv_at hl 1 rfl) ?_
      refine lv_aload_n S.1 S.2.1 dX11_firstFailingCommand_3 rfl (lv_at hl 0 rfl) ?_
      refine z_get (v := .ref (o + 137)) S hZ.1 hRo 0 (by decide) rfl rfl rfl 7 (by decide) rfl k252 dX11_firstFailingCommand_4 ?_
      refine z_get (v := .int (nI ((z 15 0) 0 3))) S hZ.1 hSc.1 0 (by decide) rfl rfl rfl 3 (by decide) rfl k215 dX11_firstFailingCommand_7 ?_
      rw [hn]
      refine z_cge (tgt := 73) S (by omega) (by omega) dX11_firstFailingCommand_10 (by decide) (fun h4 => ?_) (fun h4 => ?_)
      · obtain rfl : i = L.length := by omega
        rw [List.drop_length] at he
        refine lv_iconst (v := -1) S.1 S.2.1 dX11_firstFailingCommand_73 (by decide) ?_
        exact z_wi hQ S hr hlk (zn_int _) hS hC ⟨v, fj, z 11 0, ⟨hRo, hL, hF, hN, hHi.cgk (yMx_k z v fj _), hJ, hQ0, hSc, hLn⟩, hv, Or.inl ⟨he.symm, rfl, rfl⟩⟩ dX11_firstFailingCommand_74
      · refine lv_aload_n S.1 S.2.1 dX11_firstFailingCommand_13 rfl (lv_at hl 0 rfl) ?_
        refine z_get (v := .ref (o + 137)) S hZ.1 hRo 0 (by decide) rfl rfl rfl 7 (by decide) rfl k252 dX11_firstFailingCommand_14 ?_
        refine z_get (v := .ref (o + 137 + 2)) S hZ.1 hSc.1 0 (by decide) rfl rfl rfl 2 (by decide) rfl k213 dX11_firstFailingCommand_17 ?_
        refine lv_iload_n S.1 S.2.1 dX11_firstFailingCommand_20 rfl (lv_at hl 1 rfl) ?_
        refine z_aald S hZ.1 hSc.1 2 (by decide) rfl 4 rfl rfl (i := i) (v := o + 137 + 2 + 1 + i) (by omega) (by decide) rfl dX11_firstFailingCommand_21 ?_
        rw [show o + 137 + 2 + 1 + i = o + 137 + 3 + i by omega]
        have hri : z 15 1 i = L[i] := by rw [hcm i h4, List.getD_eq_getElem?_getD, List.getElem?_eq_getElem h4]; rfl
        obtain ⟨hr0, hr1, hr2, hr3, hr9⟩ := hrow _ (List.getElem_mem h4)
        have hCo : zPm g (o + 137 + 3 + i) 1 TCo (fun _ => L[i]) H := by have := hSc.2 i (by omega); rw [hri] at this; exact this
        have hdr : L.drop i = L[i] :: L.drop (i + 1) := List.drop_eq_getElem_cons h4
        generalize L[i] = rr at hri hr0 hr1 hr2 hr3 hr9 hCo hdr
        rw [hdr, yEx] at he
        refine lv_astore_n (lv' := [(2, .ref (o + 137 + 3 + i)), (0, .ref (o)), (1, .int (nI (i)))]) S.1 S.2.1 dX11_firstFailingCommand_22 rfl hl (by decide) rfl (fun ls hl => ?_)
        refine lv_aload_n S.1 S.2.1 dX11_firstFailingCommand_23 rfl (lv_at hl 1 rfl) ?_
        refine z_get (v := .ref (o + 135)) S hZ.1 hRo 0 (by decide) rfl rfl rfl 5 (by decide) rfl k250 dX11_firstFailingCommand_24 ?_
        refine lv_aload_n S.1 S.2.1 dX11_firstFailingCommand_27 rfl (lv_at hl 0 rfl) ?_
        refine lv_aload_n S.1 S.2.1 dX11_firstFailingCommand_28 rfl (lv_at hl 1 rfl) ?_
        refine z_get (v := .ref (o + 1)) S hZ.1 hRo 0 (by decide) rfl rfl rfl 0 (by decide) rfl k245 dX11_firstFailingCommand_29 ?_
        have hv10 := zVd_le v (rr 0) (rr 1) (rr 2) (rr 3)
        refine z_w1 (v0 := some (.int (nI (zVd v (rr 0) (rr 1) (rr 2) (rr 3)).1))) (rest := []) (As := [.ref (o + 137 + 3 + i), .ref (o + 1)]) S hZ hS (c_verdictOn l g (o := o + 1) (oc := o + 137 + 3 + i) (oj := o + 135) (by omega) fj v hv (fun _ => rr) (by omega) (by omega) (by omega) (rr 0) rfl hr0 hr9) (by omega) ci_X5_verdictOn cv_X5_verdictOn k338 ⟨rfl, rfl, by rw [hR]; exact Nat.le_of_ble_eq_true rfl, by rw [hR]; exact Nat.le_of_ble_eq_true rfl⟩ ⟨hJ, hL, hCo⟩ (hJ.recv hZ.1 0 (by decide) rfl rfl rfl) hl.1 rfl (Nat.le_of_ble_eq_true rfl) dX11_firstFailingCommand_32 ⟨by rw [hR]; exact Nat.le_of_ble_eq_true rfl, by rw [hR]; exact Nat.le_of_ble_eq_true rfl⟩ rfl (fun H1 locs1 hPn hCn hSn => ?_)
        have hCo := hCo.kept hCn (by omega)
        have hS := hSn
        have hRo := hRo.kept hCn (by omega)
        have hL := hL.kept hCn (by omega)
        have hF := hF.kept hCn (by omega)
        have hN := hN.kept hCn (by omega)
        have hHi := hHi.kept hCn (by omega)
        have hJ := hPn
        have hQ0 := hQ0.kept hCn (by omega)
        have hSc := hSc.kept hCn (by omega)
        have hLn := hLn.kept hCn (by omega)
        have hC := hC.tr (hCn.mono (b := o) (k := 152) (by omega) (by omega))
        generalize zJd fj _ = fj1 at hJ
        generalize hd9 : (zVd v (rr 0) (rr 1) (rr 2) (rr 3)).1 = d9 at *
        refine lv_istore_n (lv' := [(3, .int (nI (d9))), (2, .ref (o + 137 + 3 + i)), (0, .ref (o)), (1, .int (nI (i)))]) S.1 S.2.1 dX11_firstFailingCommand_35 rfl hl (by decide) rfl (fun ls hl => ?_)
        refine lv_iload_n S.1 S.2.1 dX11_firstFailingCommand_36 rfl (lv_at hl 0 rfl) ?_
        refine z_ieq (tgt := 58) S (by omega) dX11_firstFailingCommand_37 (by decide) (fun h5 => ?_) (fun h5 => ?_)
        · rw [if_pos h5] at he
          refine lv_aload_n S.1 S.2.1 dX11_firstFailingCommand_58 rfl (lv_at hl 2 rfl) ?_
          refine z_get (v := .ref (o + 1)) S hZ.1 hRo 0 (by decide) rfl rfl rfl 0 (by decide) rfl k245 dX11_firstFailingCommand_59 ?_
          refine lv_aload_n S.1 S.2.1 dX11_firstFailingCommand_62 rfl (lv_at hl 1 rfl) ?_
          refine z_w1 (v0 := some (.int (nI (zPf v (rr 0) (rr 1) (rr 2) (rr 3)).2))) (rest := []) (As := [.ref (o + 137 + 3 + i)]) S hZ hS (c_perform l g (o := o + 1) (oc := o + 137 + 3 + i) (by omega) v hv (fun _ => rr) (rr 0) rfl hr0 (hd9.trans h5)) (by omega) ci_X8_perform cv_X8_perform k544 ⟨rfl, rfl, by rw [hR]; exact Nat.le_of_ble_eq_true rfl, by rw [hR]; exact Nat.le_of_ble_eq_true rfl⟩ ⟨hL, hCo⟩ (hL.1.recv hZ.1 0 (by decide) rfl rfl rfl) hl.1 rfl (Nat.le_of_ble_eq_true rfl) dX11_firstFailingCommand_63 ⟨by rw [hR]; exact Nat.le_of_ble_eq_true rfl, by rw [hR]; exact Nat.le_of_ble_eq_true rfl⟩ rfl (fun H1 locs1 hPn hCn hSn => ?_)
          have hS := hSn
          have hRo := hRo.kept hCn (by omega)
          have hL := hPn
          have hF := hF.kept hCn (by omega)
          have hN := hN.kept hCn (by omega)
          have hHi := hHi.kept hCn (by omega)
          have hJ := hJ.kept hCn (by omega)
          have hQ0 := hQ0.kept hCn (by omega)
          have hSc := hSc.kept hCn (by omega)
          have hLn := hLn.kept hCn (by omega)
          have hC := hC.tr (hCn.mono (b := o) (k := 152) (by omega) (by omega))
          refine lv_pop S.1 S.2.1 dX11_firstFailingCommand_66 rfl ?_
          refine z_inc S (lv' := [(1, .int (nI (i + 1))), (3, .int (nI (d9))), (2, .ref (o + 137 + 3 + i)), (0, .ref (o))]) (k := 3) (b := 1) dX11_firstFailingCommand_67 hl rfl (by decide) (by decide) rfl (fun ls hl => ?_)
          refine lv_goto (tgt := 2) S.1 S.2.1 dX11_firstFailingCommand_70 (by decide) ?_
          exact ih (i + 1) _ fj1 ls H1 locs1 (by omega) (by omega) (zPf_ok hv (hd9.trans h5)) he hRo hL hF hN hHi hJ hQ0 hSc hLn hS hC (lv_sub hl [3, 0] rfl)
        · rw [if_neg h5] at he
          refine lv_aload_n S.1 S.2.1 dX11_firstFailingCommand_40 rfl (lv_at hl 2 rfl) ?_
          refine lv_iload_n S.1 S.2.1 dX11_firstFailingCommand_41 rfl (lv_at hl 0 rfl) ?_
          refine z_bi S (k := 6) dX11_firstFailingCommand_42 (by decide) ?_
          refine z_cgt (tgt := 51) S (by omega) (by omega) dX11_firstFailingCommand_44 (by decide) (fun h6 => ?_) (fun h6 => ?_)
          · refine z_bi S (k := 8) dX11_firstFailingCommand_51 (by decide) ?_
            refine z_put (v := .int (nI (8))) (ty := .int) S hZ.1 hRo hS hB 0 (by decide) rfl rfl rfl 13 (by decide) (va_up ((z 11 0) 0) 13 8) rfl k258 rfl (by decide +kernel) rfl rfl (Nat.le_of_ble_eq_true rfl) dX11_firstFailingCommand_53 (fun H1 locs1 hPn hCn hSn => ?_)
            have hS := hSn
            have hL := hL.kept hCn (by omega)
            have hF := hF.kept hCn (by omega)
            have hN := hN.kept hCn (by omega)
            have hHi := hHi.kept hCn (by omega)
            have hJ := hJ.kept hCn (by omega)
            have hQ0 := hQ0.kept hCn (by omega)
            have hSc := hSc.kept hCn (by omega)
            have hLn := hLn.kept hCn (by omega)
            have hC := hC.tr (hCn.mono (b := o) (k := 152) (by omega) (by omega))
            refine lv_iload_n S.1 S.2.1 dX11_firstFailingCommand_56 rfl (lv_at hl 3 rfl) ?_
            exact z_wi hQ S hr hlk (zn_int _) hS hC ⟨v, fj1, _, ⟨hPn, hL, hF, hN, hHi.cgk (yMx_k z v fj1 _), hJ, hQ0, hSc, hLn⟩, hv, Or.inr ⟨he.symm, i, by omega, rfl, by show 1 ≤ (8 : Nat); omega, by show (8 : Nat) ≤ 10; omega, fun j hj => by show va_up (z 11 0 0) 13 (8) j = _; rw [va_up_eq, if_neg hj]⟩⟩ dX11_firstFailingCommand_57
          · refine lv_iload_n S.1 S.2.1 dX11_firstFailingCommand_47 rfl (lv_at hl 0 rfl) ?_
            refine lv_goto (tgt := 53) S.1 S.2.1 dX11_firstFailingCommand_48 (by decide) ?_
            refine z_put (v := .int (nI (d9))) (ty := .int) S hZ.1 hRo hS hB 0 (by decide) rfl rfl rfl 13 (by decide) (va_up ((z 11 0) 0) 13 d9) rfl k258 rfl (by decide +kernel) rfl rfl (Nat.le_of_ble_eq_true rfl) dX11_firstFailingCommand_53 (fun H1 locs1 hPn hCn hSn => ?_)
            have hS := hSn
            have hL := hL.kept hCn (by omega)
            have hF := hF.kept hCn (by omega)
            have hN := hN.kept hCn (by omega)
            have hHi := hHi.kept hCn (by omega)
            have hJ := hJ.kept hCn (by omega)
            have hQ0 := hQ0.kept hCn (by omega)
            have hSc := hSc.kept hCn (by omega)
            have hLn := hLn.kept hCn (by omega)
            have hC := hC.tr (hCn.mono (b := o) (k := 152) (by omega) (by omega))
            refine lv_iload_n S.1 S.2.1 dX11_firstFailingCommand_56 rfl (lv_at hl 3 rfl) ?_
            exact z_wi hQ S hr hlk (zn_int _) hS hC ⟨v, fj1, _, ⟨hPn, hL, hF, hN, hHi.cgk (yMx_k z v fj1 _), hJ, hQ0, hSc, hLn⟩, hv, Or.inr ⟨he.symm, i, by omega, rfl, by show 1 ≤ (d9 : Nat); omega, by show (d9 : Nat) ≤ 10; omega, fun j hj => by show va_up (z 11 0 0) 13 (d9) j = _; rw [va_up_eq, if_neg hj]⟩⟩ dX11_firstFailingCommand_57
  exact loop (L.length + 1) 0 (z 0) (z 13 0) ls _ _ (Nat.zero_le _) (by omega) hv0 rfl hRo hL hF hN hHi hJ hQ0 hSc hLn hS hC (lv_sub hl [1, 0] rfl)
/-- what execute leaves alone in any case, and the empty buffer -/
def yRs (z y : zSt) : Prop := y 2 = z 2 ∧ y 16 = z 16 ∧ y 11 0 0 3 = z 11 0 0 3 ∧ y 15 0 0 1 = 0
/-- a state put together -/
def yMs (z : zSt) (L F : zL) (fj fr fs : Nat → Nat → Nat) (cm : Nat → Nat → Nat) : zSt := fun b => if b = 0 then L else if b = 1 then F else if b = 13 then (fun _ => fj) else if b = 11 then (fun _ => fr) else if b = 15 then (fun k => match k with | 0 => fs | _ => cm) else z b
theorem yMs_k (z : zSt) (L F : zL) (fj fr fs : Nat → Nat → Nat) (cm : Nat → Nat → Nat) (i : Nat) (hi : i < 8) : yMs z L F fj fr fs cm (3 + i) = z (3 + i) := by unfold yMs; rw [if_neg (by omega), if_neg (by omega), if_neg (by omega), if_neg (by omega), if_neg (by omega)]
def yKp (y : zSt) (z : zSt) : zSt := fun b => if 11 ≤ b then (if b = 12 then fun _ => zHk (z 12 0) else y b) else if b < 3 then y b else if b = 3 + (z 12 0 0 1 + z 12 0 0 2) % 8 then z 0 else y b
theorem yKp_k (y z : zSt) (h : ∀ i, i < 8 → y (3 + i) = z (3 + i)) (i : Nat) (hi : i < 8) : yKp y z (3 + i) = va_up (fun i => z (3 + i)) ((z 12 0 0 1 + z 12 0 0 2) % 8) (z 0) i := by
  unfold yKp
  rw [if_neg (by omega), if_neg (by omega), va_up_eq]
  by_cases e : i = (z 12 0 0 1 + z 12 0 0 2) % 8
  · rw [if_pos (by omega), if_pos e]
  · rw [if_neg (by omega), if_neg e, h i hi]
theorem ci_X11_execute : zCI yX11_execute cX11_execute 3 (some .int) 0 := ⟨k699, k1, by decide +kernel⟩
theorem cv_X11_execute : Cond.instanceMethod yX11_execute ∈ GW ∧ Cond.selects (yX11_execute).cls yX11_execute yX11_execute ∈ GW := ⟨k697, k698⟩
set_option maxRecDepth 20000 in
set_option maxHeartbeats 4000000 in
/-- execute(), every command allowed -/
theorem c_execute_ok (l : Launch) (g : ZG) {B : Nat} {o : Nat} (hB : B ≤ o) (z : zSt) (hIv : zIv z) (t : Nat) (hb : yBf (z 15 0) t) (L : List (Nat → Nat)) (hL0 : yPa t 11 0 [] = some L) (hn10 : L.length ≤ 10) (hrow : ∀ r ∈ L, yRow r) (v2 : zL) (h0 : yEx L (z 0) = some v2) : Met l yX11_execute (.code yX11_execute cX11_execute 3 (some .int) :: GW) { frames := 8, cells := 0, slots := 0, locals := 177 } (va_Pc [.ref o] (zPre g B (fun H => zSO g o z H))) (zX (fun w H => w = some (.int (nI L.length)) ∧ ∃ y : zSt, zSO g o y H ∧ zOk v2 ∧ y 0 = v2 ∧ y 12 0 = zHk (z 12 0) ∧ (∀ i, i < 8 → y (3 + i) = va_up (fun i => z (3 + i)) ((z 12 0 0 1 + z 12 0 0 2) % 8) (z 0) i) ∧ yRs z y ∧ y 11 0 = z 11 0) o 152) 0 0 (zA B) := by
  refine zMet (by decide) (Nat.le_of_ble_eq_true rfl) ?_
  intro p e R s m args below meth c Q ls hR hargs hQ S hr hlk hP hZ hS hnm hl
  have hl : lv_has ls 3 [(0, .ref (o))] := hl
  obtain ⟨hRo, hL, hF, hN, hHi, hJ, hQ0, hSc, hLn⟩ := hP
  have hC : zCh1 o 152 s.heap s.heap := zCh1.rf
  refine lv_aload_n S.1 S.2.1 dX11_execute_0 rfl (lv_at hl 0 rfl) ?_
  refine z_get (v := .ref (o + 137)) S hZ.1 hRo 0 (by decide) rfl rfl rfl 7 (by decide) rfl k252 dX11_execute_1 ?_
  refine z_wV (rest := []) (As := []) S hZ hS (c_X9_parse l g (os := o + 137) (by omega) (z 15 0) t hb (z 15 1) L hL0) (by omega) ci_X9_parse cv_X9_parse k700 ⟨rfl, rfl, by rw [hR]; exact Nat.le_of_ble_eq_true rfl, by rw [hR]; exact Nat.le_of_ble_eq_true rfl⟩ hSc (hSc.1.recv hZ.1 0 (by decide) rfl rfl rfl) hl.1 rfl (Nat.le_of_ble_eq_true rfl) dX11_execute_4 ⟨by rw [hR]; exact Nat.le_of_ble_eq_true rfl, by rw [hR]; exact Nat.le_of_ble_eq_true rfl⟩ (fun v9 H1 locs1 hPn hCn hSn => ?_)
  obtain ⟨rfl, pe, cn, hPn, hcn⟩ := hPn
  have hS := hSn
  have hRo := hRo.kept hCn (by omega)
  have hL := hL.kept hCn (by omega)
  have hF := hF.kept hCn (by omega)
  have hN := hN.kept hCn (by omega)
  have hHi := hHi.kept hCn (by omega)
  have hJ := hJ.kept hCn (by omega)
  have hQ0 := hQ0.kept hCn (by omega)
  have hSc := hPn
  have hLn := hLn.kept hCn (by omega)
  have hC := hC.tr (hCn.mono (b := o) (k := 152) (by omega) (by omega))
  generalize hf9 : yQ (yF (z 15 0) L.length) pe = f9 at hSc
  have hf3 : f9 0 3 = L.length := by rw [← hf9]; rfl
  refine lv_istore_n (lv' := [(1, .int (nI (1))), (0, .ref (o))]) S.1 S.2.1 dX11_execute_7 rfl hl (by decide) rfl (fun ls hl => ?_)
  refine lv_aload_n S.1 S.2.1 dX11_execute_8 rfl (lv_at hl 1 rfl) ?_
  refine z_get (v := .ref (o + 137)) S hZ.1 hRo 0 (by decide) rfl rfl rfl 7 (by decide) rfl k252 dX11_execute_9 ?_
  have hSc1 := hSc.1
  have hSc2 := hSc.2
  refine z_w1 (v0 := none) (rest := []) (As := []) S hZ hS (c_X9_clear l g (os := o + 137) (by omega) f9) (by omega) ci_X9_clear cv_X9_clear k790 ⟨rfl, rfl, by rw [hR]; exact Nat.le_of_ble_eq_true rfl, by rw [hR]; exact Nat.le_of_ble_eq_true rfl⟩ hSc1 (hSc1.recv hZ.1 0 (by decide) rfl rfl rfl) hl.1 rfl (Nat.le_of_ble_eq_true rfl) dX11_execute_12 ⟨by rw [hR]; exact Nat.le_of_ble_eq_true rfl, by rw [hR]; exact Nat.le_of_ble_eq_true rfl⟩ rfl (fun H1 locs1 hPn hCn hSn => ?_)
  have hS := hSn
  have hRo := hRo.kept hCn (by omega)
  have hL := hL.kept hCn (by omega)
  have hF := hF.kept hCn (by omega)
  have hN := hN.kept hCn (by omega)
  have hHi := hHi.kept hCn (by omega)
  have hJ := hJ.kept hCn (by omega)
  have hQ0 := hQ0.kept hCn (by omega)
  have hSc := (show zSo g (o + 137) (va_up f9 0 (va_up (f9 0) 1 0)) cn H1 from ⟨hPn, fun i hi => (hSc2 i hi).kept hCn (by omega)⟩)
  have hLn := hLn.kept hCn (by omega)
  have hC := hC.tr (hCn.mono (b := o) (k := 152) (by omega) (by omega))
  refine lv_iload_n S.1 S.2.1 dX11_execute_15 rfl (lv_at hl 0 rfl) ?_
  refine z_ine (tgt := 35) S (by omega) dX11_execute_16 (by decide) (fun h7 => ?_) (fun h7 => ?_)
  · refine lv_iload_n S.1 S.2.1 dX11_execute_35 rfl (lv_at hl 0 rfl) ?_
    refine z_cS (v := none) (rest := []) (As := [.int (nI (1))]) S hZ hS (c_requireRange_t l g true rfl (PH := fun _ => True)) ci_X11_requireRange cv_X11_requireRange k425 ⟨rfl, rfl, by rw [hR]; decide, by rw [hR]; decide⟩ trivial hl.1 rfl (Nat.le_of_ble_eq_true rfl) dX11_execute_36 ⟨by rw [hR]; decide, by rw [hR]; decide⟩ rfl ?_
    refine lv_aload_n S.1 S.2.1 dX11_execute_39 rfl (lv_at hl 1 rfl) ?_
    refine z_get (v := .ref (o + 13)) S hZ.1 hRo 0 (by decide) rfl rfl rfl 1 (by decide) rfl k246 dX11_execute_40 ?_
    refine lv_aload_n S.1 S.2.1 dX11_execute_43 rfl (lv_at hl 1 rfl) ?_
    refine z_get (v := .ref (o + 1)) S hZ.1 hRo 0 (by decide) rfl rfl rfl 0 (by decide) rfl k245 dX11_execute_44 ?_
    refine z_w1 (v0 := none) (rest := []) (As := [.ref (o + 1)]) S hZ hS (c_X8_copyFrom l g (o := o + 13) (o2 := o + 1) (by omega) (by omega) (z 1) (z 0) hIv.1) (by omega) ci_X8_copyFrom cv_X8_copyFrom k296 ⟨rfl, rfl, by rw [hR]; exact Nat.le_of_ble_eq_true rfl, by rw [hR]; exact Nat.le_of_ble_eq_true rfl⟩ ⟨hF, hL⟩ (hF.1.recv hZ.1 0 (by decide) rfl rfl rfl) hl.1 rfl (Nat.le_of_ble_eq_true rfl) dX11_execute_47 ⟨by rw [hR]; exact Nat.le_of_ble_eq_true rfl, by rw [hR]; exact Nat.le_of_ble_eq_true rfl⟩ rfl (fun H1 locs1 hPn hCn hSn => ?_)
    have hS := hSn
    have hRo := hRo.kept hCn (by omega)
    have hL := hL.kept hCn (by omega)
    have hF := hPn
    have hN := hN.kept hCn (by omega)
    have hHi := hHi.kept hCn (by omega)
    have hJ := hJ.kept hCn (by omega)
    have hQ0 := hQ0.kept hCn (by omega)
    have hSc := hSc.kept hCn (by omega)
    have hLn := hLn.kept hCn (by omega)
    have hC := hC.tr (hCn.mono (b := o) (k := 152) (by omega) (by omega))
    refine lv_aload_n S.1 S.2.1 dX11_execute_50 rfl (lv_at hl 1 rfl) ?_
    have hP1 : zSO g o (yMs z (z 0) (z 0) (z 13 0) (z 11 0) (va_up f9 0 (va_up (f9 0) 1 0)) cn) H1 := ⟨hRo, hL, hF, hN, hHi.cgk (yMs_k z _ _ _ _ _ _), hJ, hQ0, hSc, hLn⟩
    refine z_wV (rest := []) (As := []) S hZ hS (c_firstFailing l g hB (yMs z (z 0) (z 0) (z 13 0) (z 11 0) (va_up f9 0 (va_up (f9 0) 1 0)) cn) hIv.1 L hf3 hn10 hrow hcn) (by omega) ci_X11_firstFailingCommand cv_X11_firstFailingCommand k794 ⟨rfl, rfl, by rw [hR]; exact Nat.le_of_ble_eq_true rfl, by rw [hR]; exact Nat.le_of_ble_eq_true rfl⟩ hP1 (hRo.recv hZ.1 0 (by decide) rfl rfl rfl) hl.1 rfl (Nat.le_of_ble_eq_true rfl) dX11_execute_51 ⟨by rw [hR]; exact Nat.le_of_ble_eq_true rfl, by rw [hR]; exact Nat.le_of_ble_eq_true rfl⟩ (fun v9 H1 locs1 hPn hCn hSn => ?_)
    obtain ⟨v, fj, fr, hP2, hv, hor⟩ := hPn
    have hC := hC.tr hCn
    have hS := hSn
    rcases hor with ⟨he, rfl, hfr⟩ | ⟨he, -⟩
    · have e2 : v2 = v := Option.some.inj (h0.symm.trans he)
      subst e2
      subst hfr
      obtain ⟨hRo, hL, hF, hN, hHi, hJ, hQ0, hSc, hLn⟩ := hP2
      have hRo : zPm g o 1 TRo (z 11 0) H1 := hRo
      have hF : zLo g (o + 13) (z 0) H1 := hF
      have hHi : zHi g (o + 37) (z 12 0) (fun i => z (3 + i)) H1 := hHi.cgk (fun i hi => by rw [yMx_k _ _ _ _ i hi, yMs_k z _ _ _ _ _ _ i hi])
      have hSc : zSo g (o + 137) (va_up f9 0 (va_up (f9 0) 1 0)) cn H1 := hSc
      refine lv_istore_n (lv' := [(2, .int (-1)), (1, .int (nI (1))), (0, .ref (o))]) S.1 S.2.1 dX11_execute_54 rfl hl (by decide) rfl (fun ls hl => ?_)
      refine lv_iload_n S.1 S.2.1 dX11_execute_55 rfl (lv_at hl 0 rfl) ?_
      refine lv_if_lt (tgt := 77) S.1 S.2.1 dX11_execute_56 (by decide) (fun _ => ?_) (fun h6 => absurd (by decide : (-1 : Int32) < 0) h6)
      refine lv_aload_n S.1 S.2.1 dX11_execute_77 rfl (lv_at hl 2 rfl) ?_
      refine z_get (v := .ref (o + 37)) S hZ.1 hRo 0 (by decide) rfl rfl rfl 4 (by decide) rfl k249 dX11_execute_78 ?_
      refine lv_aload_n S.1 S.2.1 dX11_execute_81 rfl (lv_at hl 2 rfl) ?_
      refine z_get (v := .ref (o + 13)) S hZ.1 hRo 0 (by decide) rfl rfl rfl 1 (by decide) rfl k246 dX11_execute_82 ?_
      refine z_w1 (v0 := none) (rest := []) (As := [.ref (o + 13)]) S hZ hS (c_X4_keep l g (oh := o + 37) (o := o + 13) (by omega) (by omega) (z 12 0) hIv.2.2.2.1 hIv.2.2.2.2 (fun i => z (3 + i)) (z 0) hIv.1) (by omega) ci_X4_keep cv_X4_keep k539 ⟨rfl, rfl, by rw [hR]; exact Nat.le_of_ble_eq_true rfl, by rw [hR]; exact Nat.le_of_ble_eq_true rfl⟩ ⟨hHi, hF⟩ (hHi.1.recv hZ.1 0 (by decide) rfl rfl rfl) hl.1 rfl (Nat.le_of_ble_eq_true rfl) dX11_execute_85 ⟨by rw [hR]; exact Nat.le_of_ble_eq_true rfl, by rw [hR]; exact Nat.le_of_ble_eq_true rfl⟩ rfl (fun H1 locs1 hPn hCn hSn => ?_)
      have hS := hSn
      have hRo := hRo.kept hCn (by omega)
      have hL := hL.kept hCn (by omega)
      have hF := hF.kept hCn (by omega)
      have hN := hN.kept hCn (by omega)
      have hHi := hPn
      have hJ := hJ.kept hCn (by omega)
      have hQ0 := hQ0.kept hCn (by omega)
      have hSc := hSc.kept hCn (by omega)
      have hLn := hLn.kept hCn (by omega)
      have hC := hC.tr (hCn.mono (b := o) (k := 152) (by omega) (by omega))
      refine lv_aload_n S.1 S.2.1 dX11_execute_88 rfl (lv_at hl 2 rfl) ?_
      refine z_get (v := .ref (o + 137)) S hZ.1 hRo 0 (by decide) rfl rfl rfl 7 (by decide) rfl k252 dX11_execute_89 ?_
      have hSc1 := hSc.1
      refine z_get (v := .int (nI (f9 0 3))) S hZ.1 hSc1 0 (by decide) rfl rfl rfl 3 (by decide) rfl k215 dX11_execute_92 ?_
      rw [hf3]
      exact z_wi hQ S hr hlk (zn_int _) hS hC ⟨rfl, yKp (yMs z v2 (z 0) fj (z 11 0) (va_up f9 0 (va_up (f9 0) 1 0)) cn) z, ⟨hRo, hL, hF, hN, hHi.cgk (yKp_k _ z (yMs_k z _ _ _ _ _ _)), hJ, hQ0, hSc, hLn⟩, hv, rfl, rfl, yKp_k _ z (yMs_k z _ _ _ _ _ _), ⟨rfl, rfl, rfl, rfl⟩, rfl⟩ dX11_execute_95
    · rw [show yEx L (z 0) = none from he] at h0; cases h0
  · exact absurd h7 (by omega)
set_option maxRecDepth 20000 in
set_option maxHeartbeats 4000000 in
/-- execute(), a command not allowed -/
theorem c_execute_no (l : Launch) (hl0 : l.stackTraces = false) (g : ZG) {B : Nat} {o : Nat} (hB : B ≤ o) (z : zSt) (hIv : zIv z) (t : Nat) (hb : yBf (z 15 0) t) (L : List (Nat → Nat)) (hL0 : yPa t 11 0 [] = some L) (hn10 : L.length ≤ 10) (hrow : ∀ r ∈ L, yRow r) (h0 : yEx L (z 0) = none) : vx_Met l yX11_execute (.code yX11_execute cX11_execute 3 (some .int) :: GW) { frames := 8, cells := 1, slots := 6, locals := 177 } (va_Pc [.ref o] (zPre g B (fun H => zSO g o z H))) (fun _ _ _ _ => False) (zXT (fun E H => E = "java/lang/UnsupportedOperationException" ∧ ∃ y : zSt, zSO g o y H ∧ y 0 = z 0 ∧ y 12 0 = z 12 0 ∧ (∀ i, i < 8 → y (3 + i) = z (3 + i)) ∧ yRs z y ∧ y 11 0 0 11 = 7 ∧ 1 ≤ y 11 0 0 13 ∧ y 11 0 0 13 ≤ 10) o 152) 1 6 (zA B) := by
  refine zMetX (by decide) (Nat.le_of_ble_eq_true rfl) ?_
  intro p e R s m args below meth c Q ls hR hargs hQ S hr hlk hex hP hZ hS hl
  have hl : lv_has ls 3 [(0, .ref (o))] := hl
  subst hQ
  obtain ⟨hRo, hL, hF, hN, hHi, hJ, hQ0, hSc, hLn⟩ := hP
  have hC : zCh1 o 152 s.heap s.heap := zCh1.rf
  refine lv_aload_n S.1 S.2.1 dX11_execute_0 rfl (lv_at hl 0 rfl) ?_
  refine z_get (v := .ref (o + 137)) S hZ.1 hRo 0 (by decide) rfl rfl rfl 7 (by decide) rfl k252 dX11_execute_1 ?_
  refine z_wV (rest := []) (As := []) S hZ hS (c_X9_parse l g (os := o + 137) (by omega) (z 15 0) t hb (z 15 1) L hL0) (by omega) ci_X9_parse cv_X9_parse k700 ⟨rfl, rfl, by rw [hR]; exact Nat.le_of_ble_eq_true rfl, by rw [hR]; exact Nat.le_of_ble_eq_true rfl⟩ hSc (hSc.1.recv hZ.1 0 (by decide) rfl rfl rfl) hl.1 rfl (Nat.le_of_ble_eq_true rfl) dX11_execute_4 ⟨by rw [hR]; exact Nat.le_of_ble_eq_true rfl, by rw [hR]; exact Nat.le_of_ble_eq_true rfl⟩ (fun v9 H1 locs1 hPn hCn hSn => ?_)
  obtain ⟨rfl, pe, cn, hPn, hcn⟩ := hPn
  have hS := hSn
  have hRo := hRo.kept hCn (by omega)
  have hL := hL.kept hCn (by omega)
  have hF := hF.kept hCn (by omega)
  have hN := hN.kept hCn (by omega)
  have hHi := hHi.kept hCn (by omega)
  have hJ := hJ.kept hCn (by omega)
  have hQ0 := hQ0.kept hCn (by omega)
  have hSc := hPn
  have hLn := hLn.kept hCn (by omega)
  have hC := hC.tr (hCn.mono (b := o) (k := 152) (by omega) (by omega))
  generalize hf9 : yQ (yF (z 15 0) L.length) pe = f9 at hSc
  have hf3 : f9 0 3 = L.length := by rw [← hf9]; rfl
  refine lv_istore_n (lv' := [(1, .int (nI (1))), (0, .ref (o))]) S.1 S.2.1 dX11_execute_7 rfl hl (by decide) rfl (fun ls hl => ?_)
  refine lv_aload_n S.1 S.2.1 dX11_execute_8 rfl (lv_at hl 1 rfl) ?_
  refine z_get (v := .ref (o + 137)) S hZ.1 hRo 0 (by decide) rfl rfl rfl 7 (by decide) rfl k252 dX11_execute_9 ?_
  have hSc1 := hSc.1
  have hSc2 := hSc.2
  refine z_w1 (v0 := none) (rest := []) (As := []) S hZ hS (c_X9_clear l g (os := o + 137) (by omega) f9) (by omega) ci_X9_clear cv_X9_clear k790 ⟨rfl, rfl, by rw [hR]; exact Nat.le_of_ble_eq_true rfl, by rw [hR]; exact Nat.le_of_ble_eq_true rfl⟩ hSc1 (hSc1.recv hZ.1 0 (by decide) rfl rfl rfl) hl.1 rfl (Nat.le_of_ble_eq_true rfl) dX11_execute_12 ⟨by rw [hR]; exact Nat.le_of_ble_eq_true rfl, by rw [hR]; exact Nat.le_of_ble_eq_true rfl⟩ rfl (fun H1 locs1 hPn hCn hSn => ?_)
  have hS := hSn
  have hRo := hRo.kept hCn (by omega)
  have hL := hL.kept hCn (by omega)
  have hF := hF.kept hCn (by omega)
  have hN := hN.kept hCn (by omega)
  have hHi := hHi.kept hCn (by omega)
  have hJ := hJ.kept hCn (by omega)
  have hQ0 := hQ0.kept hCn (by omega)
  have hSc := (show zSo g (o + 137) (va_up f9 0 (va_up (f9 0) 1 0)) cn H1 from ⟨hPn, fun i hi => (hSc2 i hi).kept hCn (by omega)⟩)
  have hLn := hLn.kept hCn (by omega)
  have hC := hC.tr (hCn.mono (b := o) (k := 152) (by omega) (by omega))
  refine lv_iload_n S.1 S.2.1 dX11_execute_15 rfl (lv_at hl 0 rfl) ?_
  refine z_ine (tgt := 35) S (by omega) dX11_execute_16 (by decide) (fun h7 => ?_) (fun h7 => ?_)
  · refine lv_iload_n S.1 S.2.1 dX11_execute_35 rfl (lv_at hl 0 rfl) ?_
    refine z_cS (v := none) (rest := []) (As := [.int (nI (1))]) S hZ hS (c_requireRange_t l g true rfl (PH := fun _ => True)) ci_X11_requireRange cv_X11_requireRange k425 ⟨rfl, rfl, by rw [hR]; decide, by rw [hR]; decide⟩ trivial hl.1 rfl (Nat.le_of_ble_eq_true rfl) dX11_execute_36 ⟨by rw [hR]; decide, by rw [hR]; decide⟩ rfl ?_
    refine lv_aload_n S.1 S.2.1 dX11_execute_39 rfl (lv_at hl 1 rfl) ?_
    refine z_get (v := .ref (o + 13)) S hZ.1 hRo 0 (by decide) rfl rfl rfl 1 (by decide) rfl k246 dX11_execute_40 ?_
    refine lv_aload_n S.1 S.2.1 dX11_execute_43 rfl (lv_at hl 1 rfl) ?_
    refine z_get (v := .ref (o + 1)) S hZ.1 hRo 0 (by decide) rfl rfl rfl 0 (by decide) rfl k245 dX11_execute_44 ?_
    refine z_w1 (v0 := none) (rest := []) (As := [.ref (o + 1)]) S hZ hS (c_X8_copyFrom l g (o := o + 13) (o2 := o + 1) (by omega) (by omega) (z 1) (z 0) hIv.1) (by omega) ci_X8_copyFrom cv_X8_copyFrom k296 ⟨rfl, rfl, by rw [hR]; exact Nat.le_of_ble_eq_true rfl, by rw [hR]; exact Nat.le_of_ble_eq_true rfl⟩ ⟨hF, hL⟩ (hF.1.recv hZ.1 0 (by decide) rfl rfl rfl) hl.1 rfl (Nat.le_of_ble_eq_true rfl) dX11_execute_47 ⟨by rw [hR]; exact Nat.le_of_ble_eq_true rfl, by rw [hR]; exact Nat.le_of_ble_eq_true rfl⟩ rfl (fun H1 locs1 hPn hCn hSn => ?_)
    have hS := hSn
    have hRo := hRo.kept hCn (by omega)
    have hL := hL.kept hCn (by omega)
    have hF := hPn
    have hN := hN.kept hCn (by omega)
    have hHi := hHi.kept hCn (by omega)
    have hJ := hJ.kept hCn (by omega)
    have hQ0 := hQ0.kept hCn (by omega)
    have hSc := hSc.kept hCn (by omega)
    have hLn := hLn.kept hCn (by omega)
    have hC := hC.tr (hCn.mono (b := o) (k := 152) (by omega) (by omega))
    refine lv_aload_n S.1 S.2.1 dX11_execute_50 rfl (lv_at hl 1 rfl) ?_
    have hP1 : zSO g o (yMs z (z 0) (z 0) (z 13 0) (z 11 0) (va_up f9 0 (va_up (f9 0) 1 0)) cn) H1 := ⟨hRo, hL, hF, hN, hHi.cgk (yMs_k z _ _ _ _ _ _), hJ, hQ0, hSc, hLn⟩
    refine z_wV (rest := []) (As := []) S hZ hS (c_firstFailing l g hB (yMs z (z 0) (z 0) (z 13 0) (z 11 0) (va_up f9 0 (va_up (f9 0) 1 0)) cn) hIv.1 L hf3 hn10 hrow hcn) (by omega) ci_X11_firstFailingCommand cv_X11_firstFailingCommand k794 ⟨rfl, rfl, by rw [hR]; exact Nat.le_of_ble_eq_true rfl, by rw [hR]; exact Nat.le_of_ble_eq_true rfl⟩ hP1 (hRo.recv hZ.1 0 (by decide) rfl rfl rfl) hl.1 rfl (Nat.le_of_ble_eq_true rfl) dX11_execute_51 ⟨by rw [hR]; exact Nat.le_of_ble_eq_true rfl, by rw [hR]; exact Nat.le_of_ble_eq_true rfl⟩ (fun v9 H1 locs1 hPn hCn hSn => ?_)
    obtain ⟨v, fj, fr, hP2, hv, hor⟩ := hPn
    have hC := hC.tr hCn
    have hS := hSn
    rcases hor with ⟨he, -⟩ | ⟨he, i, hi, rfl, h13, h13b, hfr⟩
    · rw [show yEx L (z 0) = some v from he] at h0; cases h0
    obtain ⟨hRo, hL, hF, hN, hHi, hJ, hQ0, hSc, hLn⟩ := hP2
    have hRo : zPm g o 1 TRo fr H1 := hRo
    have hL : zLo g (o + 1) v H1 := hL
    have hF : zLo g (o + 13) (z 0) H1 := hF
    have hHi : zHi g (o + 37) (z 12 0) (fun i => z (3 + i)) H1 := hHi.cgk (fun i hi => by rw [yMx_k _ _ _ _ i hi, yMs_k z _ _ _ _ _ _ i hi])
    have hSc : zSo g (o + 137) (va_up f9 0 (va_up (f9 0) 1 0)) cn H1 := hSc
    refine lv_istore_n (lv' := [(2, .int (nI (i))), (1, .int (nI (1))), (0, .ref (o))]) S.1 S.2.1 dX11_execute_54 rfl hl (by decide) rfl (fun ls hl => ?_)
    refine lv_iload_n S.1 S.2.1 dX11_execute_55 rfl (lv_at hl 0 rfl) ?_
    refine z_ilt (tgt := 77) S (by omega) dX11_execute_56 (by decide) ?_
    refine lv_aload_n S.1 S.2.1 dX11_execute_59 rfl (lv_at hl 2 rfl) ?_
    refine z_get (v := .ref (o + 1)) S hZ.1 hRo 0 (by decide) rfl rfl rfl 0 (by decide) rfl k245 dX11_execute_60 ?_
    refine lv_aload_n S.1 S.2.1 dX11_execute_63 rfl (lv_at hl 2 rfl) ?_
    refine z_get (v := .ref (o + 13)) S hZ.1 hRo 0 (by decide) rfl rfl rfl 1 (by decide) rfl k246 dX11_execute_64 ?_
    refine z_w1 (v0 := none) (rest := []) (As := [.ref (o + 13)]) S hZ hS (c_X8_copyFrom l g (o := o + 1) (o2 := o + 13) (by omega) (by omega) v (z 0) hIv.1) (by omega) ci_X8_copyFrom cv_X8_copyFrom k296 ⟨rfl, rfl, by rw [hR]; exact Nat.le_of_ble_eq_true rfl, by rw [hR]; exact Nat.le_of_ble_eq_true rfl⟩ ⟨hL, hF⟩ (hL.1.recv hZ.1 0 (by decide) rfl rfl rfl) hl.1 rfl (Nat.le_of_ble_eq_true rfl) dX11_execute_67 ⟨by rw [hR]; exact Nat.le_of_ble_eq_true rfl, by rw [hR]; exact Nat.le_of_ble_eq_true rfl⟩ rfl (fun H1 locs1 hPn hCn hSn => ?_)
    have hS := hSn
    have hRo := hRo.kept hCn (by omega)
    have hL := hPn
    have hF := hF.kept hCn (by omega)
    have hN := hN.kept hCn (by omega)
    have hHi := hHi.kept hCn (by omega)
    have hJ := hJ.kept hCn (by omega)
    have hQ0 := hQ0.kept hCn (by omega)
    have hSc := hSc.kept hCn (by omega)
    have hLn := hLn.kept hCn (by omega)
    have hC := hC.tr (hCn.mono (b := o) (k := 152) (by omega) (by omega))
    refine lv_aload_n S.1 S.2.1 dX11_execute_70 rfl (lv_at hl 2 rfl) ?_
    refine z_bi S (k := 7) dX11_execute_71 (by decide) ?_
    refine lv_iload_n S.1 S.2.1 dX11_execute_73 rfl (lv_at hl 0 rfl) ?_
    refine z_xV (rest := []) (As := [.int (nI (7)), .int (nI (i))]) S hZ hS (c_throwDenial l hl0 g hB fr 7 i) hB ci_X11_throwDenial cv_X11_throwDenial k519 ⟨rfl, rfl, by rw [hR]; exact Nat.le_of_ble_eq_true rfl, by rw [hR]; exact Nat.le_of_ble_eq_true rfl⟩ hRo (hRo.recv hZ.1 0 (by decide) rfl rfl rfl) hl.1 rfl (Nat.le_of_ble_eq_true rfl) dX11_execute_74 ⟨by rw [hR]; exact Nat.le_of_ble_eq_true rfl, by rw [hR]; exact Nat.le_of_ble_eq_true rfl⟩ (fun E ce q9 H1 locs1 hPx hCn hSn hce hcv hcl => ?_)
    obtain ⟨hE, hPn⟩ := hPx
    have hS := hSn
    have hRo := hPn
    have hL := hL.kept hCn (by omega)
    have hF := hF.kept hCn (by omega)
    have hN := hN.kept hCn (by omega)
    have hHi := hHi.kept hCn (by omega)
    have hJ := hJ.kept hCn (by omega)
    have hQ0 := hQ0.kept hCn (by omega)
    have hSc := hSc.kept hCn (by omega)
    have hLn := hLn.kept hCn (by omega)
    have hC := hC.tr (hCn.mono (b := o) (k := 152) (by omega) (by omega))
    exact z_xo hex hlk hce hcv hcl hS hC ⟨hE, yMs z (z 0) (z 0) fj (zDn fr 7 i) (va_up f9 0 (va_up (f9 0) 1 0)) cn, ⟨hRo, hL, hF, hN, hHi.cgk (yMs_k z _ _ _ _ _ _), hJ, hQ0, hSc, hLn⟩, rfl, rfl, yMs_k z _ _ _ _ _ _, ⟨rfl, rfl, hfr 3 (by decide), rfl⟩, rfl, h13, h13b⟩ (Nat.le_of_ble_eq_true rfl) (Nat.le_of_ble_eq_true rfl)
  · exact absurd h7 (by omega)
set_option maxRecDepth 20000 in
set_option maxHeartbeats 4000000 in
/-- execute(), the empty buffer -/
theorem c_execute_e (l : Launch) (hl0 : l.stackTraces = false) (g : ZG) {B : Nat} {o : Nat} (hB : B ≤ o) (z : zSt) (he : z 15 0 0 1 = 0) : vx_Met l yX11_execute (.code yX11_execute cX11_execute 3 (some .int) :: GW) { frames := 8, cells := 1, slots := 6, locals := 177 } (va_Pc [.ref o] (zPre g B (fun H => zSO g o z H))) (fun _ _ _ _ => False) (zXT (fun E H => E = "java/lang/IllegalArgumentException" ∧ ∃ y : zSt, zSO g o y H ∧ y 0 = z 0 ∧ y 12 0 = z 12 0 ∧ (∀ i, i < 8 → y (3 + i) = z (3 + i)) ∧ yRs z y) o 152) 1 6 (zA B) := by
  refine zMetX (by decide) (Nat.le_of_ble_eq_true rfl) ?_
  intro p e R s m args below meth c Q ls hR hargs hQ S hr hlk hex hP hZ hS hl
  have hl : lv_has ls 3 [(0, .ref (o))] := hl
  subst hQ
  obtain ⟨hRo, hL, hF, hN, hHi, hJ, hQ0, hSc, hLn⟩ := hP
  have hC : zCh1 o 152 s.heap s.heap := zCh1.rf
  refine lv_aload_n S.1 S.2.1 dX11_execute_0 rfl (lv_at hl 0 rfl) ?_
  refine z_get (v := .ref (o + 137)) S hZ.1 hRo 0 (by decide) rfl rfl rfl 7 (by decide) rfl k252 dX11_execute_1 ?_
  refine z_w1 (v0 := some (.int (nI (0)))) (rest := []) (As := []) S hZ hS (c_X9_parse_e l g (os := o + 137) (by omega) (z 15 0) he (z 15 1)) (by omega) ci_X9_parse cv_X9_parse k700 ⟨rfl, rfl, by rw [hR]; exact Nat.le_of_ble_eq_true rfl, by rw [hR]; exact Nat.le_of_ble_eq_true rfl⟩ hSc (hSc.1.recv hZ.1 0 (by decide) rfl rfl rfl) hl.1 rfl (Nat.le_of_ble_eq_true rfl) dX11_execute_4 ⟨by rw [hR]; exact Nat.le_of_ble_eq_true rfl, by rw [hR]; exact Nat.le_of_ble_eq_true rfl⟩ rfl (fun H1 locs1 hPn hCn hSn => ?_)
  have hS := hSn
  have hRo := hRo.kept hCn (by omega)
  have hL := hL.kept hCn (by omega)
  have hF := hF.kept hCn (by omega)
  have hN := hN.kept hCn (by omega)
  have hHi := hHi.kept hCn (by omega)
  have hJ := hJ.kept hCn (by omega)
  have hQ0 := hQ0.kept hCn (by omega)
  have hSc := hPn
  have hLn := hLn.kept hCn (by omega)
  have hC := hC.tr (hCn.mono (b := o) (k := 152) (by omega) (by omega))
  generalize hf9 : yQ (yF (z 15 0) 0) 0 = f9 at hSc
  refine lv_istore_n (lv' := [(1, .int (nI (0))), (0, .ref (o))]) S.1 S.2.1 dX11_execute_7 rfl hl (by decide) rfl (fun ls hl => ?_)
  refine lv_aload_n S.1 S.2.1 dX11_execute_8 rfl (lv_at hl 1 rfl) ?_
  refine z_get (v := .ref (o + 137)) S hZ.1 hRo 0 (by decide) rfl rfl rfl 7 (by decide) rfl k252 dX11_execute_9 ?_
  have hSc1 := hSc.1
  have hSc2 := hSc.2
  refine z_w1 (v0 := none) (rest := []) (As := []) S hZ hS (c_X9_clear l g (os := o + 137) (by omega) f9) (by omega) ci_X9_clear cv_X9_clear k790 ⟨rfl, rfl, by rw [hR]; exact Nat.le_of_ble_eq_true rfl, by rw [hR]; exact Nat.le_of_ble_eq_true rfl⟩ hSc1 (hSc1.recv hZ.1 0 (by decide) rfl rfl rfl) hl.1 rfl (Nat.le_of_ble_eq_true rfl) dX11_execute_12 ⟨by rw [hR]; exact Nat.le_of_ble_eq_true rfl, by rw [hR]; exact Nat.le_of_ble_eq_true rfl⟩ rfl (fun H1 locs1 hPn hCn hSn => ?_)
  have hS := hSn
  have hRo := hRo.kept hCn (by omega)
  have hL := hL.kept hCn (by omega)
  have hF := hF.kept hCn (by omega)
  have hN := hN.kept hCn (by omega)
  have hHi := hHi.kept hCn (by omega)
  have hJ := hJ.kept hCn (by omega)
  have hQ0 := hQ0.kept hCn (by omega)
  have hSc := (show zSo g (o + 137) (va_up f9 0 (va_up (f9 0) 1 0)) (z 15 1) H1 from ⟨hPn, fun i hi => (hSc2 i hi).kept hCn (by omega)⟩)
  have hLn := hLn.kept hCn (by omega)
  have hC := hC.tr (hCn.mono (b := o) (k := 152) (by omega) (by omega))
  refine lv_iload_n S.1 S.2.1 dX11_execute_15 rfl (lv_at hl 0 rfl) ?_
  refine z_ine (tgt := 35) S (by omega) dX11_execute_16 (by decide) (fun h7 => ?_) (fun h7 => ?_)
  · exact absurd rfl h7
  · refine lv_aload_n S.1 S.2.1 dX11_execute_19 rfl (lv_at hl 1 rfl) ?_
    refine z_ic S (k := 1) dX11_execute_20 (by decide) ?_
    refine z_put (v := .int (nI (1))) (ty := .boolean) S hZ.1 hRo hS hB 0 (by decide) rfl rfl rfl 8 (by decide) (va_up ((z 11 0) 0) 8 1) rfl k253 rfl (by decide +kernel) rfl rfl (Nat.le_of_ble_eq_true rfl) dX11_execute_21 (fun H1 locs1 hPn hCn hSn => ?_)
    have hS := hSn
    have hRo := hPn
    have hL := hL.kept hCn (by omega)
    have hF := hF.kept hCn (by omega)
    have hN := hN.kept hCn (by omega)
    have hHi := hHi.kept hCn (by omega)
    have hJ := hJ.kept hCn (by omega)
    have hQ0 := hQ0.kept hCn (by omega)
    have hSc := hSc.kept hCn (by omega)
    have hLn := hLn.kept hCn (by omega)
    have hC := hC.tr (hCn.mono (b := o) (k := 152) (by omega) (by omega))
    refine lv_aload_n S.1 S.2.1 dX11_execute_24 rfl (lv_at hl 1 rfl) ?_
    refine lv_aload_n S.1 S.2.1 dX11_execute_25 rfl (lv_at hl 1 rfl) ?_
    refine z_get (v := .ref (o + 137)) S hZ.1 hRo 0 (by decide) rfl rfl rfl 7 (by decide) rfl k252 dX11_execute_26 ?_
    have hSc1 := hSc.1
    refine z_get (v := .int (nI (f9 0 4))) S hZ.1 hSc1 0 (by decide) rfl rfl rfl 4 (by decide) rfl k217 dX11_execute_29 ?_
    refine z_put (v := .int (nI (f9 0 4))) (ty := .int) S hZ.1 hRo hS hB 0 (by decide) rfl rfl rfl 9 (by decide) (va_up ((va_up (z 11 0) 0 (va_up ((z 11 0) 0) 8 1)) 0) 9 (f9 0 4)) rfl k254 rfl (by decide +kernel) rfl rfl (Nat.le_of_ble_eq_true rfl) dX11_execute_32 (fun H1 locs1 hPn hCn hSn => ?_)
    have hS := hSn
    have hRo := hPn
    have hL := hL.kept hCn (by omega)
    have hF := hF.kept hCn (by omega)
    have hN := hN.kept hCn (by omega)
    have hHi := hHi.kept hCn (by omega)
    have hJ := hJ.kept hCn (by omega)
    have hQ0 := hQ0.kept hCn (by omega)
    have hSc := hSc.kept hCn (by omega)
    have hLn := hLn.kept hCn (by omega)
    have hC := hC.tr (hCn.mono (b := o) (k := 152) (by omega) (by omega))
    refine lv_iload_n S.1 S.2.1 dX11_execute_35 rfl (lv_at hl 0 rfl) ?_
    refine z_xS (rest := []) (As := [.int (nI (0))]) S hZ hS (c_requireRange_f l hl0 g (B := B) false rfl (PH := fun _ => True)) (Nat.le_refl B) ci_X11_requireRange cv_X11_requireRange k425 ⟨rfl, rfl, by rw [hR]; exact Nat.le_of_ble_eq_true rfl, by rw [hR]; exact Nat.le_of_ble_eq_true rfl⟩ trivial hl.1 rfl (Nat.le_of_ble_eq_true rfl) dX11_execute_36 ⟨by rw [hR]; exact Nat.le_of_ble_eq_true rfl, by rw [hR]; exact Nat.le_of_ble_eq_true rfl⟩ (fun E ce q9 H1 locs1 hPx hCn hSn hce hcv hcl => ?_)
    have hS := hSn
    have hRo := hRo.kept hCn (by omega)
    have hL := hL.kept hCn (by omega)
    have hF := hF.kept hCn (by omega)
    have hN := hN.kept hCn (by omega)
    have hHi := hHi.kept hCn (by omega)
    have hJ := hJ.kept hCn (by omega)
    have hQ0 := hQ0.kept hCn (by omega)
    have hSc := hSc.kept hCn (by omega)
    have hLn := hLn.kept hCn (by omega)
    have hC := hC.tr hCn.z0
    exact z_xo hex hlk hce hcv hcl hS hC ⟨hPx, yMs z (z 0) (z 1) (z 13 0) _ (va_up f9 0 (va_up (f9 0) 1 0)) (z 15 1), ⟨hRo, hL, hF, hN, hHi.cgk (yMs_k z _ _ _ _ _ _), hJ, hQ0, hSc, hLn⟩, rfl, rfl, yMs_k z _ _ _ _ _ _, ⟨rfl, rfl, rfl, rfl⟩⟩ (Nat.le_of_ble_eq_true rfl) (Nat.le_of_ble_eq_true rfl)
