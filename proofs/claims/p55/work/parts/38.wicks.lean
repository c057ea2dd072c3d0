/-! THE LAW: areWicks -/
theorem zXor_z {q : Nat → Nat} : ∀ {n : Nat}, (∀ i, i < n → q i = 0) → zXor q n = 0
  | 0, _ => rfl
  | n + 1, h => by rw [zXor, zXor_z (n := n) (fun i hi => h i (by omega)), h n (by omega)]; rfl
theorem zUb_0 {v : zL} (h : zSum (v 1 4) (v 1 0 4) = 0) : zUb (v 3 0 1) (v 4 0 1) (zPt (v 1) (v 1 0 4)) = 0 := by
  have e : zPt (v 1) (v 1 0 4) = 0 := zXor_z (fun i hi => by rw [if_neg]; have := zSum_0 h i hi; omega)
  have := zUb_le (v 3 0 1) (v 4 0 1) (zPt (v 1) (v 1 0 4))
  omega
theorem ci_L_areWicks : zCI yL_areWicks cL_areWicks 10 (some .boolean) 1 := ⟨k1004, k0, by decide +kernel⟩
theorem cv_L_areWicks : Cond.static yL_areWicks ∈ GW := k1003
set_option maxRecDepth 20000 in
set_option maxHeartbeats 4000000 in
/-- areWicks -/
theorem c_areWicks (l : Launch) (hl0 : l.stackTraces = false) (g : ZG) {B : Nat} {o : Nat} (hB : B ≤ o) (z : zSt) (hI : yIv z) : Met l yL_areWicks (.code yL_areWicks cL_areWicks 10 (some .boolean) :: GW) { frames := 12, cells := 2, slots := 12, locals := 240 } (va_Pc [.ref o] (zPre g B (fun H => zSO g o z H))) (zX (fun w H => w = some (.int (nI 1)) ∧ ∃ z9, zSO g o z9 H ∧ yNoc z z9) o 152) 2 12 (zA B) := by
  refine zMet (by decide) (Nat.le_of_ble_eq_true rfl) ?_
  intro p e R s m args below meth c Q ls hR hargs hQ S hr hlk hP hZ hS hnm hl
  have hl : lv_has ls 10 [(0, .ref (o))] := hl
  have hv := hI.ok
  have hw8 := hv.1.1
  have hC : zCh1 o 152 s.heap s.heap := zCh1.rf
  refine z_ic S (k := 0) dL_areWicks_0 (by decide) ?_
  refine lv_istore_n (lv' := [(1, .int (nI (0))), (0, .ref (o))]) S.1 S.2.1 dL_areWicks_1 rfl hl (by decide) rfl (fun ls hl => ?_)
  refine z_ic S (k := 0) dL_areWicks_2 (by decide) ?_
  refine lv_istore_n (lv' := [(2, .int (nI (0))), (1, .int (nI (0))), (0, .ref (o))]) S.1 S.2.1 dL_areWicks_3 rfl hl (by decide) rfl (fun ls hl => ?_)
  refine lv_aload_n S.1 S.2.1 dL_areWicks_4 rfl (lv_at hl 2 rfl) ?_
  refine z_cV (v := some (.int (nI (z 0 1 0 4)))) (rest := []) (As := []) S hZ hS (c_wickCount l g z hv) ci_X11_wickCount cv_X11_wickCount k963 ⟨rfl, rfl, by rw [hR]; decide, by rw [hR]; decide⟩ hP (hP.1.recv hZ.1 0 (by decide) rfl rfl rfl) hl.1 rfl (Nat.le_of_ble_eq_true rfl) dL_areWicks_5 ⟨by rw [hR]; decide, by rw [hR]; decide⟩ rfl ?_
  refine lv_istore_n (lv' := [(3, .int (nI (z 0 1 0 4))), (2, .int (nI (0))), (1, .int (nI (0))), (0, .ref (o))]) S.1 S.2.1 dL_areWicks_8 rfl hl (by decide) rfl (fun ls hl => ?_)
  refine lv_aload_n S.1 S.2.1 dL_areWicks_9 rfl (lv_at hl 3 rfl) ?_
  refine lv_iload_n S.1 S.2.1 dL_areWicks_10 rfl (lv_at hl 0 rfl) ?_
  refine z_w1SW (v0 := some (.int (-1000))) (rest := []) (As := [.ref (o), .int (nI (z 0 1 0 4))]) S hZ hS (c_L_wickByWax_no l hl0 g hB z hv (z 0 1 0 4) (Nat.le_refl _) (by omega)) hB ci_L_wickByWax cv_L_wickByWax k1005 ⟨rfl, rfl, by rw [hR]; exact Nat.le_of_ble_eq_true rfl, by rw [hR]; exact Nat.le_of_ble_eq_true rfl⟩ hP hl.1 rfl (Nat.le_of_ble_eq_true rfl) dL_areWicks_11 ⟨by rw [hR]; exact Nat.le_of_ble_eq_true rfl, by rw [hR]; exact Nat.le_of_ble_eq_true rfl⟩ rfl (fun H1 locs1 hPn hCn hSn => ?_)
  replace hS := hSn
  replace hC := hC.tr hCn
  replace hP := hPn
  clear hPn hCn hSn
  refine lv_sipush (v := -1000) S.1 S.2.1 dL_areWicks_14 (by decide) ?_
  refine z_kne (tgt := 35) S rfl dL_areWicks_17 (by decide) ?_
  refine lv_aload_n S.1 S.2.1 dL_areWicks_20 rfl (lv_at hl 3 rfl) ?_
  refine lv_iconst (v := -1) S.1 S.2.1 dL_areWicks_21 (by decide) ?_
  refine z_w1SW (v0 := some (.int (-1000))) (rest := []) (As := [.ref (o), .int (-1)]) S hZ hS (c_L_wickByWax_neg l hl0 g hB z hv) hB ci_L_wickByWax cv_L_wickByWax k1005 ⟨rfl, rfl, by rw [hR]; exact Nat.le_of_ble_eq_true rfl, by rw [hR]; exact Nat.le_of_ble_eq_true rfl⟩ hP hl.1 rfl (Nat.le_of_ble_eq_true rfl) dL_areWicks_22 ⟨by rw [hR]; exact Nat.le_of_ble_eq_true rfl, by rw [hR]; exact Nat.le_of_ble_eq_true rfl⟩ rfl (fun H1 locs1 hPn hCn hSn => ?_)
  replace hS := hSn
  replace hC := hC.tr hCn
  replace hP := hPn
  clear hPn hCn hSn
  refine lv_sipush (v := -1000) S.1 S.2.1 dL_areWicks_25 (by decide) ?_
  refine z_kne (tgt := 35) S rfl dL_areWicks_28 (by decide) ?_
  refine z_ic S (k := 1) dL_areWicks_31 (by decide) ?_
  refine lv_goto (tgt := 36) S.1 S.2.1 dL_areWicks_32 (by decide) ?_
  refine lv_istore (lv' := [(4, .int (nI (1))), (3, .int (nI (z 0 1 0 4))), (2, .int (nI (0))), (1, .int (nI (0))), (0, .ref (o))]) S.1 S.2.1 dL_areWicks_36 hl (by decide) rfl (fun ls hl => ?_)
  refine z_ic S (k := 0) dL_areWicks_38 (by decide) ?_
  refine lv_istore (lv' := [(5, .int (nI (0))), (4, .int (nI (1))), (3, .int (nI (z 0 1 0 4))), (2, .int (nI (0))), (1, .int (nI (0))), (0, .ref (o))]) S.1 S.2.1 dL_areWicks_39 hl (by decide) rfl (fun ls hl => ?_)
  have loop : ∀ (n : Nat) (i li mo : Nat) (ls : Array Slot), (i ≤ z 0 1 0 4) → (z 0 1 0 4 < i + n) → (li = zSum (z 0 1 4) i) → (mo = zMx (z 0 1) i) → lv_has ls 10 [(0, .ref (o)), (1, .int (nI (li))), (2, .int (nI (mo))), (3, .int (nI (z 0 1 0 4))), (4, .int (nI (1))), (5, .int (nI (i)))] → W p l e R s m args below meth c H1 locs1 ((0 + 1) + 1) ((0 + 6) + 6) Q (F0 m 41 ls []) := by
    intro n
    induction n with
    | zero => intro i li mo ls h1 h2 hli hmo hl; exact absurd h2 (by omega)
    | succ n ih =>
      intro i li mo ls h1 h2 hli hmo hl
      refine lv_iload S.1 S.2.1 dL_areWicks_41 (lv_at hl 4 rfl) ?_
      refine z_kie (tgt := 124) S (by decide) dL_areWicks_43 (by decide) ?_
      refine lv_iload S.1 S.2.1 dL_areWicks_46 (lv_at hl 5 rfl) ?_
      refine lv_iload_n S.1 S.2.1 dL_areWicks_48 rfl (lv_at hl 3 rfl) ?_
      refine z_cge (tgt := 124) S (by omega) (by omega) dL_areWicks_49 (by decide) (fun h4 => ?_) (fun h4 => ?_)
      · rw [show i = z 0 1 0 4 by omega] at hli hmo
        refine z_ic S (k := 1) dL_areWicks_124 (by decide) ?_
        refine lv_istore (lv' := [(5, .int (nI (1))), (0, .ref (o)), (1, .int (nI (li))), (2, .int (nI (mo))), (3, .int (nI (z 0 1 0 4))), (4, .int (nI (1)))]) S.1 S.2.1 dL_areWicks_125 hl (by decide) rfl (fun ls hl => ?_)
        have loop2 : ∀ (n : Nat) (r : Nat) (ls : Array Slot), (1 ≤ r ∧ r ≤ 9) → (9 < r + n) → lv_has ls 10 [(0, .ref (o)), (1, .int (nI (li))), (2, .int (nI (mo))), (3, .int (nI (z 0 1 0 4))), (4, .int (nI (1))), (5, .int (nI (r)))] → W p l e R s m args below meth c H1 locs1 ((0 + 1) + 1) ((0 + 6) + 6) Q (F0 m 127 ls []) := by
          intro n
          induction n with
          | zero => intro r ls g2 h2 hl; exact absurd h2 (by omega)
          | succ n ih =>
            intro r ls g2 h2 hl
            refine lv_iload S.1 S.2.1 dL_areWicks_127 (lv_at hl 4 rfl) ?_
            refine z_kie (tgt := 242) S (by decide) dL_areWicks_129 (by decide) ?_
            refine lv_iload S.1 S.2.1 dL_areWicks_132 (lv_at hl 5 rfl) ?_
            refine lv_iload_n S.1 S.2.1 dL_areWicks_134 rfl (lv_at hl 3 rfl) ?_
            refine z_cge (tgt := 242) S (by omega) (by omega) dL_areWicks_135 (by decide) (fun h7 => ?_) (fun h7 => ?_)
            · have hmx := zMx_le hv.1 (z 0 1 0 4)
              refine lv_iload S.1 S.2.1 dL_areWicks_242 (lv_at hl 4 rfl) ?_
              refine z_kie (tgt := 306) S (by decide) dL_areWicks_244 (by decide) ?_
              refine lv_aload_n S.1 S.2.1 dL_areWicks_247 rfl (lv_at hl 0 rfl) ?_
              refine z_cV (v := some (.int (nI (zSum (z 0 1 4) (z 0 1 0 4))))) (rest := []) (As := []) S hZ hS (c_litCount l g z hv) ci_X11_litCount cv_X11_litCount k1025 ⟨rfl, rfl, by rw [hR]; decide, by rw [hR]; decide⟩ hP (hP.1.recv hZ.1 0 (by decide) rfl rfl rfl) hl.1 rfl (Nat.le_of_ble_eq_true rfl) dL_areWicks_248 ⟨by rw [hR]; decide, by rw [hR]; decide⟩ rfl ?_
              refine lv_iload_n S.1 S.2.1 dL_areWicks_251 rfl (lv_at hl 1 rfl) ?_
              refine z_kne (tgt := 306) S (by rw [hli]) dL_areWicks_252 (by decide) ?_
              refine lv_aload_n S.1 S.2.1 dL_areWicks_255 rfl (lv_at hl 0 rfl) ?_
              refine z_cV (v := some (.int (nI (zMx (z 0 1) (z 0 1 0 4))))) (rest := []) (As := []) S hZ hS (c_rowsUntilDark l g z hv (zMx (z 0 1) (z 0 1 0 4)) hmx (fun k hk => zAf_t hk) (fun _ => zAf_f (Nat.le_refl _))) ci_X11_rowsUntilDark cv_X11_rowsUntilDark k1030 ⟨rfl, rfl, by rw [hR]; decide, by rw [hR]; decide⟩ hP (hP.1.recv hZ.1 0 (by decide) rfl rfl rfl) hl.1 rfl (Nat.le_of_ble_eq_true rfl) dL_areWicks_256 ⟨by rw [hR]; decide, by rw [hR]; decide⟩ rfl ?_
              refine lv_iload_n S.1 S.2.1 dL_areWicks_259 rfl (lv_at hl 2 rfl) ?_
              refine z_kne (tgt := 306) S (by rw [hmo]) dL_areWicks_260 (by decide) ?_
              refine lv_aload_n S.1 S.2.1 dL_areWicks_263 rfl (lv_at hl 0 rfl) ?_
              refine z_cV (v := some (.int (nI (zMx (z 0 1) (z 0 1 0 4))))) (rest := []) (As := []) S hZ hS (c_rowsUntilDarkByWax l g z hv) ci_X11_rowsUntilDarkByWax cv_X11_rowsUntilDarkByWax k1038 ⟨rfl, rfl, by rw [hR]; decide, by rw [hR]; decide⟩ hP (hP.1.recv hZ.1 0 (by decide) rfl rfl rfl) hl.1 rfl (Nat.le_of_ble_eq_true rfl) dL_areWicks_264 ⟨by rw [hR]; decide, by rw [hR]; decide⟩ rfl ?_
              refine lv_iload_n S.1 S.2.1 dL_areWicks_267 rfl (lv_at hl 2 rfl) ?_
              refine z_kne (tgt := 306) S (by rw [hmo]) dL_areWicks_268 (by decide) ?_
              have hli8 : li ≤ 8 := by rw [hli]; exact zLt_le hv
              have J_1 : ∀ (ls : Array Slot), lv_has ls 10 [(0, .ref (o))] → W p l e R s m args below meth c H1 locs1 ((0 + 1) + 1) ((0 + 6) + 6) Q (F0 m 282 ls []) := by
                intro ls hl
                have he1 := hv.2.2.1.2
                have he2 := hv.2.2.2.1
                refine lv_aload_n S.1 S.2.1 dL_areWicks_282 rfl (lv_at hl 0 rfl) ?_
                refine z_bi S (k := 108) dL_areWicks_283 (by decide) ?_
                refine z_cV (v := some (.int (nI (z 0 3 0 1)))) (rest := []) (As := [.int (nI (108))]) S hZ hS (c_burn_l l g z hv) ci_X11_burn cv_X11_burn k950 ⟨rfl, rfl, by rw [hR]; decide, by rw [hR]; decide⟩ hP (hP.1.recv hZ.1 0 (by decide) rfl rfl rfl) hl.1 rfl (Nat.le_of_ble_eq_true rfl) dL_areWicks_285 ⟨by rw [hR]; decide, by rw [hR]; decide⟩ rfl ?_
                refine z_ic S (k := 4) dL_areWicks_288 (by decide) ?_
                refine z_cgt (tgt := 306) S (by omega) (by omega) dL_areWicks_289 (by decide) (fun h8 => ?_) (fun h8 => ?_)
                · exact absurd h8 (by omega)
                · refine lv_aload_n S.1 S.2.1 dL_areWicks_292 rfl (lv_at hl 0 rfl) ?_
                  refine z_bi S (k := 114) dL_areWicks_293 (by decide) ?_
                  refine z_cV (v := some (.int (nI (z 0 4 0 0)))) (rest := []) (As := [.int (nI (114))]) S hZ hS (c_heat_r l g z hv) ci_X11_heat cv_X11_heat k958 ⟨rfl, rfl, by rw [hR]; decide, by rw [hR]; decide⟩ hP (hP.1.recv hZ.1 0 (by decide) rfl rfl rfl) hl.1 rfl (Nat.le_of_ble_eq_true rfl) dL_areWicks_295 ⟨by rw [hR]; decide, by rw [hR]; decide⟩ rfl ?_
                  refine z_ic S (k := 5) dL_areWicks_298 (by decide) ?_
                  refine z_cge (tgt := 306) S (by omega) (by omega) dL_areWicks_299 (by decide) (fun h9 => ?_) (fun h9 => ?_)
                  · exact absurd h9 (by omega)
                  · refine z_ic S (k := 1) dL_areWicks_302 (by decide) ?_
                    refine lv_goto (tgt := 307) S.1 S.2.1 dL_areWicks_303 (by decide) ?_
                    exact z_wiw hQ S (Nat.le_of_ble_eq_true rfl) (Nat.le_of_ble_eq_true rfl) hr hlk rfl hS hC ⟨rfl, z, hP, yNoc.rf hI⟩ dL_areWicks_307
              refine lv_iload_n S.1 S.2.1 dL_areWicks_271 rfl (lv_at hl 1 rfl) ?_
              refine z_igt (tgt := 282) S (by omega) dL_areWicks_272 (by decide) (fun h8 => ?_) (fun h8 => ?_)
              · exact J_1 ls (lv_sub hl [0] rfl)
              · refine lv_aload_n S.1 S.2.1 dL_areWicks_275 rfl (lv_at hl 0 rfl) ?_
                refine z_cV (v := some (.int (nI (zUb (z 0 3 0 1) (z 0 4 0 1) (zPt (z 0 1) (z 0 1 0 4)))))) (rest := []) (As := []) S hZ hS (c_nextMask l g z hv (zPt_ok hv)) ci_X11_nextMask cv_X11_nextMask k981 ⟨rfl, rfl, by rw [hR]; decide, by rw [hR]; decide⟩ hP (hP.1.recv hZ.1 0 (by decide) rfl rfl rfl) hl.1 rfl (Nat.le_of_ble_eq_true rfl) dL_areWicks_276 ⟨by rw [hR]; decide, by rw [hR]; decide⟩ rfl ?_
                refine z_kin (tgt := 306) S (by rw [zUb_0 (by rw [← hli]; exact h8)]; rfl) dL_areWicks_279 (by decide) ?_
                exact J_1 ls (lv_sub hl [0] rfl)
            · obtain ⟨ha9, -⟩ := zAt_ok hv.1 (r := r - 1) (by omega)
              obtain ⟨hb9, -⟩ := zAt_ok hv.1 (r := r) h7
              have hpr := zAt_pr hv.1 (r := r - 1) (by omega)
              rw [show r - 1 + 1 = r by omega] at hpr
              have la1 := (hv.1.2 (zAt (z 0 1) (r - 1))).2.2.2.1
              have lb1 := (hv.1.2 (zAt (z 0 1) r)).2.2.2.1
              have wa1 := (hv.1.2 (zAt (z 0 1) (r - 1))).2.2.1
              have wb1 := (hv.1.2 (zAt (z 0 1) r)).2.2.1
              refine lv_aload_n S.1 S.2.1 dL_areWicks_138 rfl (lv_at hl 0 rfl) ?_
              refine lv_iload S.1 S.2.1 dL_areWicks_139 (lv_at hl 5 rfl) ?_
              refine z_ic S (k := 1) dL_areWicks_141 (by decide) ?_
              refine z_sub S (by omega) dL_areWicks_142 ?_
              refine z_cSW (v := some (.int (nI (zAt (z 0 1) (r - 1))))) (rest := []) (As := [.ref (o), .int (nI (r - 1))]) S hZ hS (c_L_wickByWax l hl0 g z hv (r - 1) (by omega)) ci_L_wickByWax cv_L_wickByWax k1005 ⟨rfl, rfl, by rw [hR]; exact Nat.le_of_ble_eq_true rfl, by rw [hR]; exact Nat.le_of_ble_eq_true rfl⟩ hP hl.1 rfl (Nat.le_of_ble_eq_true rfl) dL_areWicks_143 ⟨by rw [hR]; exact Nat.le_of_ble_eq_true rfl, by rw [hR]; exact Nat.le_of_ble_eq_true rfl⟩ rfl ?_
              refine lv_istore (lv' := [(6, .int (nI (zAt (z 0 1) (r - 1)))), (0, .ref (o)), (1, .int (nI (li))), (2, .int (nI (mo))), (3, .int (nI (z 0 1 0 4))), (4, .int (nI (1))), (5, .int (nI (r)))]) S.1 S.2.1 dL_areWicks_146 hl (by decide) rfl (fun ls hl => ?_)
              refine lv_aload_n S.1 S.2.1 dL_areWicks_148 rfl (lv_at hl 1 rfl) ?_
              refine lv_iload S.1 S.2.1 dL_areWicks_149 (lv_at hl 6 rfl) ?_
              refine z_cSW (v := some (.int (nI (zAt (z 0 1) r)))) (rest := []) (As := [.ref (o), .int (nI (r))]) S hZ hS (c_L_wickByWax l hl0 g z hv r h7) ci_L_wickByWax cv_L_wickByWax k1005 ⟨rfl, rfl, by rw [hR]; exact Nat.le_of_ble_eq_true rfl, by rw [hR]; exact Nat.le_of_ble_eq_true rfl⟩ hP hl.1 rfl (Nat.le_of_ble_eq_true rfl) dL_areWicks_151 ⟨by rw [hR]; exact Nat.le_of_ble_eq_true rfl, by rw [hR]; exact Nat.le_of_ble_eq_true rfl⟩ rfl ?_
              refine lv_istore (lv' := [(7, .int (nI (zAt (z 0 1) r))), (6, .int (nI (zAt (z 0 1) (r - 1)))), (0, .ref (o)), (1, .int (nI (li))), (2, .int (nI (mo))), (3, .int (nI (z 0 1 0 4))), (4, .int (nI (1))), (5, .int (nI (r)))]) S.1 S.2.1 dL_areWicks_154 hl (by decide) rfl (fun ls hl => ?_)
              refine lv_aload_n S.1 S.2.1 dL_areWicks_156 rfl (lv_at hl 2 rfl) ?_
              refine lv_iload S.1 S.2.1 dL_areWicks_157 (lv_at hl 1 rfl) ?_
              refine z_cV (v := some (.int (nI (z 0 1 4 (zAt (z 0 1) (r - 1)))))) (rest := []) (As := [.int (nI (zAt (z 0 1) (r - 1)))]) S hZ hS (c_isLit l g z hv (zAt (z 0 1) (r - 1)) ha9) ci_X11_isLit cv_X11_isLit k973 ⟨rfl, rfl, by rw [hR]; decide, by rw [hR]; decide⟩ hP (hP.1.recv hZ.1 0 (by decide) rfl rfl rfl) hl.1 rfl (Nat.le_of_ble_eq_true rfl) dL_areWicks_159 ⟨by rw [hR]; decide, by rw [hR]; decide⟩ rfl ?_
              have J_2 : ∀ x9 : Nat, x9 = z 0 1 4 (zAt (z 0 1) (r - 1)) → W p l e R s m args below meth c H1 locs1 ((0 + 1) + 1) ((0 + 6) + 6) Q (F0 m 170 ls [.int (nI (x9))]) := by
                intro x9 hx9
                subst hx9
                refine lv_aload_n S.1 S.2.1 dL_areWicks_170 rfl (lv_at hl 2 rfl) ?_
                refine lv_iload S.1 S.2.1 dL_areWicks_171 (lv_at hl 0 rfl) ?_
                refine z_cV (v := some (.int (nI (z 0 1 4 (zAt (z 0 1) r))))) (rest := [.int (nI (z 0 1 4 (zAt (z 0 1) (r - 1))))]) (As := [.int (nI (zAt (z 0 1) r))]) S hZ hS (c_isLit l g z hv (zAt (z 0 1) r) hb9) ci_X11_isLit cv_X11_isLit k973 ⟨rfl, rfl, by rw [hR]; decide, by rw [hR]; decide⟩ hP (hP.1.recv hZ.1 0 (by decide) rfl rfl rfl) hl.1 rfl (Nat.le_of_ble_eq_true rfl) dL_areWicks_173 ⟨by rw [hR]; decide, by rw [hR]; decide⟩ rfl ?_
                have J_3 : ∀ x9 : Nat, x9 = z 0 1 4 (zAt (z 0 1) r) → W p l e R s m args below meth c H1 locs1 ((0 + 1) + 1) ((0 + 6) + 6) Q (F0 m 184 ls [.int (nI (x9)), .int (nI (z 0 1 4 (zAt (z 0 1) (r - 1))))]) := by
                  intro x9 hx9
                  subst hx9
                  have J_4 : ∀ (ls : Array Slot), lv_has ls 10 [(0, .ref (o)), (1, .int (nI (li))), (2, .int (nI (mo))), (3, .int (nI (z 0 1 0 4))), (5, .int (nI (r)))] → W p l e R s m args below meth c H1 locs1 ((0 + 1) + 1) ((0 + 6) + 6) Q (F0 m 229 ls []) := by
                    intro ls hl
                    refine z_ic S (k := 1) dL_areWicks_229 (by decide) ?_
                    refine lv_goto (tgt := 234) S.1 S.2.1 dL_areWicks_230 (by decide) ?_
                    refine lv_istore (lv' := [(4, .int (nI (1))), (0, .ref (o)), (1, .int (nI (li))), (2, .int (nI (mo))), (3, .int (nI (z 0 1 0 4))), (5, .int (nI (r)))]) S.1 S.2.1 dL_areWicks_234 hl (by decide) rfl (fun ls hl => ?_)
                    refine z_inc S (lv' := [(5, .int (nI (r + 1))), (4, .int (nI (1))), (0, .ref (o)), (1, .int (nI (li))), (2, .int (nI (mo))), (3, .int (nI (z 0 1 0 4)))]) (k := 5) (b := 1) dL_areWicks_236 hl rfl (by decide) (by decide) rfl (fun ls hl => ?_)
                    refine lv_goto (tgt := 127) S.1 S.2.1 dL_areWicks_239 (by decide) ?_
                    exact ih (r + 1) ls ⟨by omega, by omega⟩ (by omega) (lv_sub hl [2, 3, 4, 5, 1, 0] rfl)
                  refine z_sub S (by omega) dL_areWicks_184 ?_
                  refine lv_istore (lv' := [(8, .int (nI ((z 0 1 4 (zAt (z 0 1) (r - 1))) - (z 0 1 4 (zAt (z 0 1) r))))), (7, .int (nI (zAt (z 0 1) r))), (6, .int (nI (zAt (z 0 1) (r - 1)))), (0, .ref (o)), (1, .int (nI (li))), (2, .int (nI (mo))), (3, .int (nI (z 0 1 0 4))), (4, .int (nI (1))), (5, .int (nI (r)))]) S.1 S.2.1 dL_areWicks_185 hl (by decide) rfl (fun ls hl => ?_)
                  refine lv_aload_n S.1 S.2.1 dL_areWicks_187 rfl (lv_at hl 3 rfl) ?_
                  refine lv_iload S.1 S.2.1 dL_areWicks_188 (lv_at hl 2 rfl) ?_
                  refine z_cV (v := some (.int (nI (z 0 1 3 (zAt (z 0 1) (r - 1)))))) (rest := []) (As := [.int (nI (zAt (z 0 1) (r - 1)))]) S hZ hS (c_wax l g z hv (zAt (z 0 1) (r - 1)) ha9) ci_X11_wax cv_X11_wax k968 ⟨rfl, rfl, by rw [hR]; decide, by rw [hR]; decide⟩ hP (hP.1.recv hZ.1 0 (by decide) rfl rfl rfl) hl.1 rfl (Nat.le_of_ble_eq_true rfl) dL_areWicks_190 ⟨by rw [hR]; decide, by rw [hR]; decide⟩ rfl ?_
                  refine lv_aload_n S.1 S.2.1 dL_areWicks_193 rfl (lv_at hl 3 rfl) ?_
                  refine lv_iload S.1 S.2.1 dL_areWicks_194 (lv_at hl 1 rfl) ?_
                  refine z_cV (v := some (.int (nI (z 0 1 3 (zAt (z 0 1) r))))) (rest := [.int (nI (z 0 1 3 (zAt (z 0 1) (r - 1))))]) (As := [.int (nI (zAt (z 0 1) r))]) S hZ hS (c_wax l g z hv (zAt (z 0 1) r) hb9) ci_X11_wax cv_X11_wax k968 ⟨rfl, rfl, by rw [hR]; decide, by rw [hR]; decide⟩ hP (hP.1.recv hZ.1 0 (by decide) rfl rfl rfl) hl.1 rfl (Nat.le_of_ble_eq_true rfl) dL_areWicks_196 ⟨by rw [hR]; decide, by rw [hR]; decide⟩ rfl ?_
                  rcases hpr with hpr | ⟨hpr, hpw⟩
                  · refine lv_isub S.1 S.2.1 dL_areWicks_199 ?_
                    refine lv_istore (lv' := [(9, .int ((nI (z 0 1 3 (zAt (z 0 1) (r - 1)))) - (nI (z 0 1 3 (zAt (z 0 1) r))))), (8, .int (nI ((z 0 1 4 (zAt (z 0 1) (r - 1))) - (z 0 1 4 (zAt (z 0 1) r))))), (7, .int (nI (zAt (z 0 1) r))), (6, .int (nI (zAt (z 0 1) (r - 1)))), (0, .ref (o)), (1, .int (nI (li))), (2, .int (nI (mo))), (3, .int (nI (z 0 1 0 4))), (4, .int (nI (1))), (5, .int (nI (r)))]) S.1 S.2.1 dL_areWicks_200 hl (by decide) rfl (fun ls hl => ?_)
                    refine lv_iload S.1 S.2.1 dL_areWicks_202 (lv_at hl 1 rfl) ?_
                    refine z_igt (tgt := 229) S (by omega) dL_areWicks_204 (by decide) (fun h9 => ?_) (fun h9 => ?_)
                    · exact J_4 ls (lv_sub hl [4, 5, 6, 7, 9] rfl)
                    · exact absurd h9 (by omega)
                  · refine z_sub S (by omega) dL_areWicks_199 ?_
                    refine lv_istore (lv' := [(9, .int (nI ((z 0 1 3 (zAt (z 0 1) (r - 1))) - (z 0 1 3 (zAt (z 0 1) r))))), (8, .int (nI ((z 0 1 4 (zAt (z 0 1) (r - 1))) - (z 0 1 4 (zAt (z 0 1) r))))), (7, .int (nI (zAt (z 0 1) r))), (6, .int (nI (zAt (z 0 1) (r - 1)))), (0, .ref (o)), (1, .int (nI (li))), (2, .int (nI (mo))), (3, .int (nI (z 0 1 0 4))), (4, .int (nI (1))), (5, .int (nI (r)))]) S.1 S.2.1 dL_areWicks_200 hl (by decide) rfl (fun ls hl => ?_)
                    refine lv_iload S.1 S.2.1 dL_areWicks_202 (lv_at hl 1 rfl) ?_
                    refine z_igt (tgt := 229) S (by omega) dL_areWicks_204 (by decide) (fun h9 => ?_) (fun h9 => ?_)
                    · exact absurd h9 (by omega)
                    · refine lv_iload S.1 S.2.1 dL_areWicks_207 (lv_at hl 1 rfl) ?_
                      refine z_ine (tgt := 233) S (by omega) dL_areWicks_209 (by decide) (fun h10 => ?_) (fun h10 => ?_)
                      · exact absurd h10 (by omega)
                      · refine lv_iload S.1 S.2.1 dL_areWicks_212 (lv_at hl 0 rfl) ?_
                        refine z_igt (tgt := 229) S (by omega) dL_areWicks_214 (by decide) (fun h11 => ?_) (fun h11 => ?_)
                        · exact J_4 ls (lv_sub hl [4, 5, 6, 7, 9] rfl)
                        · refine lv_iload S.1 S.2.1 dL_areWicks_217 (lv_at hl 0 rfl) ?_
                          refine z_ine (tgt := 233) S (by omega) dL_areWicks_219 (by decide) (fun h12 => ?_) (fun h12 => ?_)
                          · exact absurd h12 (by omega)
                          · refine lv_iload S.1 S.2.1 dL_areWicks_222 (lv_at hl 3 rfl) ?_
                            refine lv_iload S.1 S.2.1 dL_areWicks_224 (lv_at hl 2 rfl) ?_
                            refine z_cge (tgt := 233) S (by omega) (by omega) dL_areWicks_226 (by decide) (fun h13 => ?_) (fun h13 => ?_)
                            · exact absurd h13 (by omega)
                            · exact J_4 ls (lv_sub hl [4, 5, 6, 7, 9] rfl)
                refine z_ieq (tgt := 183) S (by omega) dL_areWicks_176 (by decide) (fun h1 => ?_) (fun h1 => ?_)
                · refine z_ic S (k := 0) dL_areWicks_183 (by decide) ?_
                  exact J_3 _ h1.symm
                · refine z_ic S (k := 1) dL_areWicks_179 (by decide) ?_
                  refine lv_goto (tgt := 184) S.1 S.2.1 dL_areWicks_180 (by decide) ?_
                  exact J_3 _ (by omega)
              refine z_ieq (tgt := 169) S (by omega) dL_areWicks_162 (by decide) (fun h1 => ?_) (fun h1 => ?_)
              · refine z_ic S (k := 0) dL_areWicks_169 (by decide) ?_
                exact J_2 _ h1.symm
              · refine z_ic S (k := 1) dL_areWicks_165 (by decide) ?_
                refine lv_goto (tgt := 170) S.1 S.2.1 dL_areWicks_166 (by decide) ?_
                exact J_2 _ (by omega)
        exact loop2 9 1 ls ⟨by omega, by omega⟩ (by omega) (lv_sub hl [1, 2, 3, 4, 5, 0] rfl)
      · have hl1 := (hv.1.2 i).2.2.2.1
        have hl2 := (hv.1.2 i).2.2.2.2
        have hx9 := (hv.1.2 i).2.2.1
        have hmx := zMx_le hv.1 i
        refine lv_iload_n S.1 S.2.1 dL_areWicks_52 rfl (lv_at hl 1 rfl) ?_
        refine lv_aload_n S.1 S.2.1 dL_areWicks_53 rfl (lv_at hl 0 rfl) ?_
        refine lv_iload S.1 S.2.1 dL_areWicks_54 (lv_at hl 5 rfl) ?_
        refine z_cV (v := some (.int (nI (z 0 1 4 i)))) (rest := [.int (nI (li))]) (As := [.int (nI (i))]) S hZ hS (c_isLit l g z hv i h4) ci_X11_isLit cv_X11_isLit k973 ⟨rfl, rfl, by rw [hR]; decide, by rw [hR]; decide⟩ hP (hP.1.recv hZ.1 0 (by decide) rfl rfl rfl) hl.1 rfl (Nat.le_of_ble_eq_true rfl) dL_areWicks_56 ⟨by rw [hR]; decide, by rw [hR]; decide⟩ rfl ?_
        have J_5 : ∀ x9 : Nat, x9 = z 0 1 4 i → W p l e R s m args below meth c H1 locs1 ((0 + 1) + 1) ((0 + 6) + 6) Q (F0 m 67 ls [.int (nI (x9)), .int (nI (li))]) := by
          intro x9 hx9
          subst hx9
          refine z_add S dL_areWicks_67 ?_
          refine lv_istore_n (lv' := [(1, .int (nI (li + (z 0 1 4 i)))), (0, .ref (o)), (2, .int (nI (mo))), (3, .int (nI (z 0 1 0 4))), (4, .int (nI (1))), (5, .int (nI (i)))]) S.1 S.2.1 dL_areWicks_68 rfl hl (by decide) rfl (fun ls hl => ?_)
          refine lv_aload_n S.1 S.2.1 dL_areWicks_69 rfl (lv_at hl 1 rfl) ?_
          refine lv_iload S.1 S.2.1 dL_areWicks_70 (lv_at hl 5 rfl) ?_
          refine z_cV (v := some (.int (nI (z 0 1 4 i)))) (rest := []) (As := [.int (nI (i))]) S hZ hS (c_isLit l g z hv i h4) ci_X11_isLit cv_X11_isLit k973 ⟨rfl, rfl, by rw [hR]; decide, by rw [hR]; decide⟩ hP (hP.1.recv hZ.1 0 (by decide) rfl rfl rfl) hl.1 rfl (Nat.le_of_ble_eq_true rfl) dL_areWicks_72 ⟨by rw [hR]; decide, by rw [hR]; decide⟩ rfl ?_
          have J_6 : ∀ x9 : Nat, x9 = (if z 0 1 4 i = 1 then max mo (z 0 1 3 i) else mo) → W p l e R s m args below meth c H1 locs1 ((0 + 1) + 1) ((0 + 6) + 6) Q (F0 m 92 ls [.int (nI (x9))]) := by
            intro x9 hx9
            subst hx9
            refine lv_istore_n (lv' := [(2, .int (nI ((if z 0 1 4 i = 1 then max mo (z 0 1 3 i) else mo)))), (1, .int (nI (li + (z 0 1 4 i)))), (0, .ref (o)), (3, .int (nI (z 0 1 0 4))), (4, .int (nI (1))), (5, .int (nI (i)))]) S.1 S.2.1 dL_areWicks_92 rfl hl (by decide) rfl (fun ls hl => ?_)
            refine lv_aload_n S.1 S.2.1 dL_areWicks_93 rfl (lv_at hl 2 rfl) ?_
            refine lv_iload S.1 S.2.1 dL_areWicks_94 (lv_at hl 5 rfl) ?_
            refine z_cV (v := some (.int (nI (z 0 1 4 i)))) (rest := []) (As := [.int (nI (i))]) S hZ hS (c_isLit l g z hv i h4) ci_X11_isLit cv_X11_isLit k973 ⟨rfl, rfl, by rw [hR]; decide, by rw [hR]; decide⟩ hP (hP.1.recv hZ.1 0 (by decide) rfl rfl rfl) hl.1 rfl (Nat.le_of_ble_eq_true rfl) dL_areWicks_96 ⟨by rw [hR]; decide, by rw [hR]; decide⟩ rfl ?_
            have J_7 : ∀ (ls : Array Slot), lv_has ls 10 [(0, .ref (o)), (1, .int (nI (li + z 0 1 4 i))), (2, .int (nI ((if z 0 1 4 i = 1 then max mo (z 0 1 3 i) else mo)))), (3, .int (nI (z 0 1 0 4))), (5, .int (nI (i)))] → W p l e R s m args below meth c H1 locs1 ((0 + 1) + 1) ((0 + 6) + 6) Q (F0 m 111 ls []) := by
              intro ls hl
              refine z_ic S (k := 1) dL_areWicks_111 (by decide) ?_
              refine lv_goto (tgt := 116) S.1 S.2.1 dL_areWicks_112 (by decide) ?_
              refine lv_istore (lv' := [(4, .int (nI (1))), (0, .ref (o)), (1, .int (nI (li + z 0 1 4 i))), (2, .int (nI ((if z 0 1 4 i = 1 then max mo (z 0 1 3 i) else mo)))), (3, .int (nI (z 0 1 0 4))), (5, .int (nI (i)))]) S.1 S.2.1 dL_areWicks_116 hl (by decide) rfl (fun ls hl => ?_)
              refine z_inc S (lv' := [(5, .int (nI (i + 1))), (4, .int (nI (1))), (0, .ref (o)), (1, .int (nI (li + z 0 1 4 i))), (2, .int (nI ((if z 0 1 4 i = 1 then max mo (z 0 1 3 i) else mo)))), (3, .int (nI (z 0 1 0 4)))]) (k := 5) (b := 1) dL_areWicks_118 hl rfl (by decide) (by decide) rfl (fun ls hl => ?_)
              refine lv_goto (tgt := 41) S.1 S.2.1 dL_areWicks_121 (by decide) ?_
              exact ih (i + 1) _ _ ls (by omega) (by omega) (by rw [hli]; rfl) (by rw [hmo]; rfl) (lv_sub hl [2, 3, 4, 5, 1, 0] rfl)
            refine z_ieq (tgt := 111) S (by omega) dL_areWicks_99 (by decide) (fun h5 => ?_) (fun h5 => ?_)
            · exact J_7 ls (lv_sub hl [2, 1, 0, 3, 5] rfl)
            · refine lv_aload_n S.1 S.2.1 dL_areWicks_102 rfl (lv_at hl 2 rfl) ?_
              refine lv_iload S.1 S.2.1 dL_areWicks_103 (lv_at hl 5 rfl) ?_
              refine z_cV (v := some (.int (nI (z 0 1 3 i)))) (rest := []) (As := [.int (nI (i))]) S hZ hS (c_wax l g z hv i h4) ci_X11_wax cv_X11_wax k968 ⟨rfl, rfl, by rw [hR]; decide, by rw [hR]; decide⟩ hP (hP.1.recv hZ.1 0 (by decide) rfl rfl rfl) hl.1 rfl (Nat.le_of_ble_eq_true rfl) dL_areWicks_105 ⟨by rw [hR]; decide, by rw [hR]; decide⟩ rfl ?_
              refine z_ile (tgt := 115) S (by omega) dL_areWicks_108 (by decide) (fun h6 => ?_) (fun h6 => ?_)
              · exact absurd (hl2 (by omega)) (by omega)
              · exact J_7 ls (lv_sub hl [2, 1, 0, 3, 5] rfl)
          refine z_ieq (tgt := 91) S (by omega) dL_areWicks_75 (by decide) (fun h5 => ?_) (fun h5 => ?_)
          · refine lv_iload_n S.1 S.2.1 dL_areWicks_91 rfl (lv_at hl 2 rfl) ?_
            exact J_6 _ (by rw [if_neg (by omega)])
          · refine lv_iload_n S.1 S.2.1 dL_areWicks_78 rfl (lv_at hl 2 rfl) ?_
            refine lv_aload_n S.1 S.2.1 dL_areWicks_79 rfl (lv_at hl 1 rfl) ?_
            refine lv_iload S.1 S.2.1 dL_areWicks_80 (lv_at hl 5 rfl) ?_
            refine z_cV (v := some (.int (nI (z 0 1 3 i)))) (rest := [.int (nI (mo))]) (As := [.int (nI (i))]) S hZ hS (c_wax l g z hv i h4) ci_X11_wax cv_X11_wax k968 ⟨rfl, rfl, by rw [hR]; decide, by rw [hR]; decide⟩ hP (hP.1.recv hZ.1 0 (by decide) rfl rfl rfl) hl.1 rfl (Nat.le_of_ble_eq_true rfl) dL_areWicks_82 ⟨by rw [hR]; decide, by rw [hR]; decide⟩ rfl ?_
            refine z_max S (by omega) (by omega) hl.1 k1024 ⟨k767, k21, k768⟩ (by rw [hR]; exact Nat.le_of_ble_eq_true rfl) (by rw [hR]; exact Nat.le_of_ble_eq_true rfl) (by rw [hR]; exact Nat.le_of_ble_eq_true rfl) (by rw [hR]; exact Nat.le_of_ble_eq_true rfl) dL_areWicks_85 ?_
            refine lv_goto (tgt := 92) S.1 S.2.1 dL_areWicks_88 (by decide) ?_
            exact J_6 _ (by rw [if_pos (by omega)])
        refine z_ieq (tgt := 66) S (by omega) dL_areWicks_59 (by decide) (fun h1 => ?_) (fun h1 => ?_)
        · refine z_ic S (k := 0) dL_areWicks_66 (by decide) ?_
          exact J_5 _ h1.symm
        · refine z_ic S (k := 1) dL_areWicks_62 (by decide) ?_
          refine lv_goto (tgt := 67) S.1 S.2.1 dL_areWicks_63 (by decide) ?_
          exact J_5 _ (by omega)
  exact loop (z 0 1 0 4 + 1) 0 0 0 ls (Nat.zero_le _) (by omega) rfl rfl (lv_sub hl [5, 4, 3, 2, 1, 0] rfl)
