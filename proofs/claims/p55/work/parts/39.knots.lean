/-! THE LAW: areKnots -/
/-- a counter that goes down to -1 -/
def yM (k : Nat) : Int32 := nI k - nI 1
theorem yM_s (k : Nat) : yM (k + 1) = nI k := pk_sub (by omega)
theorem yM_d (k : Nat) : nI k + Int32.ofInt (-1) = yM k := by
  show nI k + (-1) = nI k - 1
  rw [Int32.sub_eq_add_neg]
/-- the first knot of the rows from k on, or that there is none -/
def yKs (f : Nat → Nat → Nat) (k n : Nat) (fr fc : Int32) : Prop := (fr = -1000 ∧ fc = -1000 ∧ ∀ j, k ≤ j → j < n → f 3 j = 0) ∨ (∃ b c, k ≤ b ∧ b < n ∧ (∀ j, k ≤ j → j < b → f 3 j = 0) ∧ f 3 b ≠ 0 ∧ c ≤ 15 ∧ (∀ j, j < c → zBt (f 3 b) j = false) ∧ zBt (f 3 b) c = true ∧ fr = nI b ∧ fc = nI c)
/-- while the columns of a row are looked at, from m on -/
def yKc (x k m : Nat) (fr fc fr2 fc2 : Int32) : Prop := (fr2 = fr ∧ fc2 = fc ∧ ∀ j, m ≤ j → j < 16 → zBt x j = false) ∨ (∃ c, m ≤ c ∧ c < 16 ∧ (∀ j, m ≤ j → j < c → zBt x j = false) ∧ zBt x c = true ∧ fr2 = nI k ∧ fc2 = nI c)
theorem zBt_nz {x c : Nat} (h : zBt x c = true) : x ≠ 0 := fun e => by rw [e, zBt, Nat.zero_testBit] at h; cases h
theorem zBt_z {x : Nat} (hx : x < 65536) (h : ∀ j, j < 16 → zBt x j = false) : x = 0 := by
  apply Nat.eq_of_testBit_eq
  intro j
  rw [Nat.zero_testBit]
  rcases Nat.lt_or_ge j 16 with q | q
  · exact h j q
  · exact Nat.testBit_lt_two_pow (Nat.lt_of_lt_of_le hx (Nat.pow_le_pow_right (n := 2) (by decide) q))
theorem yKs_step {f : Nat → Nat → Nat} {k n : Nat} {fr fc fr2 fc2 : Int32} (hk : k < n) (hx : f 3 k < 65536) (h : yKs f (k + 1) n fr fc) (h2 : yKc (f 3 k) k 0 fr fc fr2 fc2) : yKs f k n fr2 fc2 := by
  rcases h2 with ⟨rfl, rfl, h0⟩ | ⟨c, -, hc, hno, hyes, rfl, rfl⟩
  · have z0 : f 3 k = 0 := zBt_z hx (fun j hj => h0 j (Nat.zero_le _) hj)
    have ext : ∀ {b : Nat}, (∀ j, k + 1 ≤ j → j < b → f 3 j = 0) → ∀ j, k ≤ j → j < b → f 3 j = 0 := fun hb j h1 h2 => by
      rcases (show j = k ∨ k + 1 ≤ j by omega) with e | e
      · rw [e]; exact z0
      · exact hb j e h2
    rcases h with ⟨e1, e2, hno⟩ | ⟨b, c, h1, h2, h3, h4⟩
    · exact Or.inl ⟨e1, e2, ext hno⟩
    · exact Or.inr ⟨b, c, by omega, h2, ext h3, h4⟩
  · exact Or.inr ⟨k, c, Nat.le_refl _, hk, fun j h1 h2 => absurd h2 (by omega), zBt_nz hyes, by omega, fun j hj => hno j (Nat.zero_le _) hj, hyes, rfl, rfl⟩
theorem yKc_f {x k m : Nat} {fr fc fr2 fc2 : Int32} (h : yKc x k (m + 1) fr fc fr2 fc2) (hb : zBt x m = false) : yKc x k m fr fc fr2 fc2 := by
  have ext : ∀ {b : Nat}, (∀ j, m + 1 ≤ j → j < b → zBt x j = false) → ∀ j, m ≤ j → j < b → zBt x j = false := fun hh j h1 h2 => by
    rcases (show j = m ∨ m + 1 ≤ j by omega) with e | e
    · rw [e]; exact hb
    · exact hh j e h2
  rcases h with ⟨e1, e2, h⟩ | ⟨c, h1, h2, h3, h4⟩
  · exact Or.inl ⟨e1, e2, ext h⟩
  · exact Or.inr ⟨c, by omega, h2, ext h3, h4⟩
theorem yKc_t {x k m : Nat} {fr fc : Int32} (hm : m < 16) (hb : zBt x m = true) : yKc x k m fr fc (nI k) (nI m) := Or.inr ⟨m, Nat.le_refl _, hm, fun j h1 h2 => absurd h2 (by omega), hb, rfl, rfl⟩
theorem ci_L_areKnots : zCI yL_areKnots cL_areKnots 7 (some .boolean) 1 := ⟨k1220, k0, by decide +kernel⟩
theorem cv_L_areKnots : Cond.static yL_areKnots ∈ GW := k1219
set_option maxRecDepth 20000 in
set_option maxHeartbeats 4000000 in
/-- areKnots -/
theorem c_areKnots (l : Launch) (hl0 : l.stackTraces = false) (g : ZG) {B : Nat} {o : Nat} (hB : B ≤ o) (z : zSt) (hI : yIv z) : Met l yL_areKnots (.code yL_areKnots cL_areKnots 7 (some .boolean) :: GW) { frames := 12, cells := 82, slots := 492, locals := 240 } (va_Pc [.ref o] (zPre g B (fun H => zSO g o z H))) (zX (fun w H => w = some (.int (nI 1)) ∧ ∃ z9, zSO g o z9 H ∧ yNoc z z9) o 152) 82 492 (zA B) := by
  refine zMet (by decide) (Nat.le_of_ble_eq_true rfl) ?_
  intro p e R s m args below meth c Q ls hR hargs hQ S hr hlk hP hZ hS hnm hl
  have hl : lv_has ls 7 [(0, .ref (o))] := hl
  have hv := hI.ok
  have hk40 := hv.2.1.1
  have hC : zCh1 o 152 s.heap s.heap := zCh1.rf
  refine lv_sipush (v := -1000) S.1 S.2.1 dL_areKnots_0 (by decide) ?_
  refine lv_istore_n (lv' := [(1, .int (-1000)), (0, .ref (o))]) S.1 S.2.1 dL_areKnots_3 rfl hl (by decide) rfl (fun ls hl => ?_)
  refine lv_sipush (v := -1000) S.1 S.2.1 dL_areKnots_4 (by decide) ?_
  refine lv_istore_n (lv' := [(2, .int (-1000)), (1, .int (-1000)), (0, .ref (o))]) S.1 S.2.1 dL_areKnots_7 rfl hl (by decide) rfl (fun ls hl => ?_)
  refine lv_aload_n S.1 S.2.1 dL_areKnots_8 rfl (lv_at hl 2 rfl) ?_
  refine lv_aload_n S.1 S.2.1 dL_areKnots_9 rfl (lv_at hl 2 rfl) ?_
  refine z_cV (v := some (.int (nI (z 0 2 0 3)))) (rest := [.ref (o)]) (As := []) S hZ hS (c_rowCount l g z hv) ci_X11_rowCount cv_X11_rowCount k977 ⟨rfl, rfl, by rw [hR]; decide, by rw [hR]; decide⟩ hP (hP.1.recv hZ.1 0 (by decide) rfl rfl rfl) hl.1 rfl (Nat.le_of_ble_eq_true rfl) dL_areKnots_10 ⟨by rw [hR]; decide, by rw [hR]; decide⟩ rfl ?_
  refine z_w1SW (v0 := some (.int (-1000))) (rest := []) (As := [.ref (o), .int (nI (z 0 2 0 3))]) S hZ hS (c_L_nextKnotRow_out l hl0 g hB z hv (z 0 2 0 3) (Nat.le_refl _) (by omega)) hB ci_L_nextKnotRow cv_L_nextKnotRow k1221 ⟨rfl, rfl, by rw [hR]; exact Nat.le_of_ble_eq_true rfl, by rw [hR]; exact Nat.le_of_ble_eq_true rfl⟩ hP hl.1 rfl (Nat.le_of_ble_eq_true rfl) dL_areKnots_13 ⟨by rw [hR]; exact Nat.le_of_ble_eq_true rfl, by rw [hR]; exact Nat.le_of_ble_eq_true rfl⟩ rfl (fun H1 locs1 hPn hCn hSn => ?_)
  replace hS := hSn
  replace hC := hC.tr hCn
  replace hP := hPn
  clear hPn hCn hSn
  refine lv_sipush (v := -1000) S.1 S.2.1 dL_areKnots_16 (by decide) ?_
  refine z_kne (tgt := 37) S rfl dL_areKnots_19 (by decide) ?_
  refine lv_aload_n S.1 S.2.1 dL_areKnots_22 rfl (lv_at hl 2 rfl) ?_
  refine lv_iconst (v := -1) S.1 S.2.1 dL_areKnots_23 (by decide) ?_
  refine z_w1SW (v0 := some (.int (-1000))) (rest := []) (As := [.ref (o), .int (-1)]) S hZ hS (c_L_nextKnotColumn_neg l hl0 g hB z hv) hB ci_L_nextKnotColumn cv_L_nextKnotColumn k1236 ⟨rfl, rfl, by rw [hR]; exact Nat.le_of_ble_eq_true rfl, by rw [hR]; exact Nat.le_of_ble_eq_true rfl⟩ hP hl.1 rfl (Nat.le_of_ble_eq_true rfl) dL_areKnots_24 ⟨by rw [hR]; exact Nat.le_of_ble_eq_true rfl, by rw [hR]; exact Nat.le_of_ble_eq_true rfl⟩ rfl (fun H1 locs1 hPn hCn hSn => ?_)
  replace hS := hSn
  replace hC := hC.tr hCn
  replace hP := hPn
  clear hPn hCn hSn
  refine lv_sipush (v := -1000) S.1 S.2.1 dL_areKnots_27 (by decide) ?_
  refine z_kne (tgt := 37) S rfl dL_areKnots_30 (by decide) ?_
  refine z_ic S (k := 1) dL_areKnots_33 (by decide) ?_
  refine lv_goto (tgt := 38) S.1 S.2.1 dL_areKnots_34 (by decide) ?_
  refine lv_istore_n (lv' := [(3, .int (nI (1))), (2, .int (-1000)), (1, .int (-1000)), (0, .ref (o))]) S.1 S.2.1 dL_areKnots_38 rfl hl (by decide) rfl (fun ls hl => ?_)
  refine lv_aload_n S.1 S.2.1 dL_areKnots_39 rfl (lv_at hl 3 rfl) ?_
  refine z_cV (v := some (.int (nI (z 0 2 0 3)))) (rest := []) (As := []) S hZ hS (c_rowCount l g z hv) ci_X11_rowCount cv_X11_rowCount k977 ⟨rfl, rfl, by rw [hR]; decide, by rw [hR]; decide⟩ hP (hP.1.recv hZ.1 0 (by decide) rfl rfl rfl) hl.1 rfl (Nat.le_of_ble_eq_true rfl) dL_areKnots_40 ⟨by rw [hR]; decide, by rw [hR]; decide⟩ rfl ?_
  refine z_ic S (k := 1) dL_areKnots_43 (by decide) ?_
  refine lv_isub S.1 S.2.1 dL_areKnots_44 ?_
  show W p l e R s m args below meth c H1 locs1 ((0 + 1) + 1) ((0 + 6) + 6) Q (F0 m 45 ls [.int (yM (z 0 2 0 3))])
  refine lv_istore (lv' := [(4, .int (yM (z 0 2 0 3))), (3, .int (nI (1))), (2, .int (-1000)), (1, .int (-1000)), (0, .ref (o))]) S.1 S.2.1 dL_areKnots_45 hl (by decide) rfl (fun ls hl => ?_)
  have loop : ∀ (n : Nat) (k : Nat) (fr fc : Int32) (H : Heap) (locs : List Loc) (cl sl : Nat) (ls : Array Slot), (k ≤ z 0 2 0 3) → (k < n) → (yKs (z 0 2) k (z 0 2 0 3) fr fc) → (cl ≤ 2 + 2 * (z 0 2 0 3 - k)) → (sl ≤ 12 + 12 * (z 0 2 0 3 - k)) → (zSO g o z H) → (va_S (zA B) s.heap H locs) → (zCh1 o 152 s.heap H) → lv_has ls 7 [(0, .ref (o)), (1, .int (fr)), (2, .int (fc)), (3, .int (nI (1))), (4, .int (yM k))] → W p l e R s m args below meth c H locs cl sl Q (F0 m 47 ls []) := by
    intro n
    induction n with
    | zero => intro k fr fc H locs cl sl ls hkn h2 hks hcl hsl hP hS hC hl; exact absurd h2 (by omega)
    | succ n ih =>
      intro k fr fc H locs cl sl ls hkn h2 hks hcl hsl hP hS hC hl
      refine lv_iload_n S.1 S.2.1 dL_areKnots_47 rfl (lv_at hl 3 rfl) ?_
      refine z_kie (tgt := 137) S (by decide) dL_areKnots_48 (by decide) ?_
      refine lv_iload S.1 S.2.1 dL_areKnots_51 (lv_at hl 4 rfl) ?_
      cases k with
      | zero =>
        refine lv_if_lt (tgt := 137) S.1 S.2.1 dL_areKnots_53 (by decide) (fun _ => ?_) (fun h6 => absurd (by decide : yM 0 < 0) h6)
        refine lv_iload_n S.1 S.2.1 dL_areKnots_137 rfl (lv_at hl 3 rfl) ?_
        exact z_wiw hQ S (by omega) (by omega) hr hlk rfl hS hC ⟨rfl, z, hP, yNoc.rf hI⟩ dL_areKnots_138
      | succ k =>
        have hk1 : k < z 0 2 0 3 := by omega
        rw [yM_s] at hl ⊢
        refine z_ilt (tgt := 137) S (by omega) dL_areKnots_53 (by decide) ?_
        refine z_bi S (k := 15) dL_areKnots_56 (by decide) ?_
        refine lv_istore (lv' := [(5, .int (nI (15))), (0, .ref (o)), (1, .int (fr)), (2, .int (fc)), (3, .int (nI (1))), (4, .int (nI (k)))]) S.1 S.2.1 dL_areKnots_58 hl (by decide) rfl (fun ls hl => ?_)
        have cols : ∀ (m9 : Nat) (fr2 fc2 : Int32) (ls : Array Slot), (m9 ≤ 16) → (yKc (z 0 2 3 k) k m9 fr fc fr2 fc2) → lv_has ls 7 [(0, .ref (o)), (1, .int (fr2)), (2, .int (fc2)), (3, .int (nI (1))), (4, .int (nI (k))), (5, .int (yM m9))] → W p l e R s m args below meth c H locs cl sl Q (F0 m 60 ls []) := by
          intro m9
          induction m9 with
          | zero =>
            intro fr2 fc2 ls g1 hkc hl
            refine lv_iload S.1 S.2.1 dL_areKnots_60 (lv_at hl 5 rfl) ?_
            refine lv_if_lt (tgt := 105) S.1 S.2.1 dL_areKnots_62 (by decide) (fun _ => ?_) (fun h6 => absurd (by decide : yM 0 < 0) h6)
            have hks2 := yKs_step hk1 (hv.2.1.2 k).2.2 hks hkc
            refine lv_aload_n S.1 S.2.1 dL_areKnots_105 rfl (lv_at hl 0 rfl) ?_
            refine lv_iload S.1 S.2.1 dL_areKnots_106 (lv_at hl 4 rfl) ?_
            rcases hks2 with ⟨rfl, rfl, hno⟩ | ⟨b, c9, q1, q2, q3, q4, q5, q6, q7, rfl, rfl⟩
            · refine z_w1SW (v0 := some (.int (-1000))) (rest := []) (As := [.ref (o), .int (nI (k))]) S hZ hS (c_L_nextKnotRow_no l hl0 g hB z hv k hk1 hno) hB ci_L_nextKnotRow cv_L_nextKnotRow k1221 ⟨rfl, rfl, by rw [hR]; exact Nat.le_of_ble_eq_true rfl, by rw [hR]; exact Nat.le_of_ble_eq_true rfl⟩ hP hl.1 rfl (Nat.le_of_ble_eq_true rfl) dL_areKnots_108 ⟨by rw [hR]; show cl + 1 ≤ 82; omega, by rw [hR]; show sl + 6 ≤ 492; omega⟩ rfl (fun H1 locs1 hPn hCn hSn => ?_)
              replace hS := hSn
              replace hC := hC.tr hCn
              replace hP := hPn
              clear hPn hCn hSn
              refine lv_iload_n S.1 S.2.1 dL_areKnots_111 rfl (lv_at hl 1 rfl) ?_
              refine z_kne (tgt := 129) S rfl dL_areKnots_112 (by decide) ?_
              refine lv_aload_n S.1 S.2.1 dL_areKnots_115 rfl (lv_at hl 0 rfl) ?_
              refine lv_iload S.1 S.2.1 dL_areKnots_116 (lv_at hl 4 rfl) ?_
              refine z_w1SW (v0 := some (.int (-1000))) (rest := []) (As := [.ref (o), .int (nI (k))]) S hZ hS (c_L_nextKnotColumn_no l hl0 g hB z hv k hk1 hno) hB ci_L_nextKnotColumn cv_L_nextKnotColumn k1236 ⟨rfl, rfl, by rw [hR]; exact Nat.le_of_ble_eq_true rfl, by rw [hR]; exact Nat.le_of_ble_eq_true rfl⟩ hP hl.1 rfl (Nat.le_of_ble_eq_true rfl) dL_areKnots_118 ⟨by rw [hR]; show cl + 1 + 1 ≤ 82; omega, by rw [hR]; show sl + 6 + 6 ≤ 492; omega⟩ rfl (fun H1 locs1 hPn hCn hSn => ?_)
              replace hS := hSn
              replace hC := hC.tr hCn
              replace hP := hPn
              clear hPn hCn hSn
              refine lv_iload_n S.1 S.2.1 dL_areKnots_121 rfl (lv_at hl 2 rfl) ?_
              refine z_kne (tgt := 129) S rfl dL_areKnots_122 (by decide) ?_
              refine z_ic S (k := 1) dL_areKnots_125 (by decide) ?_
              refine lv_goto (tgt := 130) S.1 S.2.1 dL_areKnots_126 (by decide) ?_
              refine lv_istore_n (lv' := [(3, .int (nI (1))), (0, .ref (o)), (1, .int (-1000)), (2, .int (-1000)), (4, .int (nI (k))), (5, .int (yM 0))]) S.1 S.2.1 dL_areKnots_130 rfl hl (by decide) rfl (fun ls hl => ?_)
              refine lv_iinc (lv' := [(4, .int (yM k)), (3, .int (nI (1))), (0, .ref (o)), (1, .int (-1000)), (2, .int (-1000)), (5, .int (yM 0))]) (k := 4) S.1 S.2.1 dL_areKnots_131 hl rfl (yM_d k) (by decide) rfl (fun ls hl => ?_)
              refine lv_goto (tgt := 47) S.1 S.2.1 dL_areKnots_134 (by decide) ?_
              exact ih k (-1000) (-1000) _ _ _ _ ls (by omega) (by omega) (Or.inl ⟨rfl, rfl, hno⟩) (by omega) (by omega) hP hS hC (lv_sub hl [2, 3, 4, 1, 0] rfl)
            · refine z_cSW (v := some (.int (nI (b)))) (rest := []) (As := [.ref (o), .int (nI (k))]) S hZ hS (c_L_nextKnotRow l hl0 g z hv k b q1 q2 q3 q4) ci_L_nextKnotRow cv_L_nextKnotRow k1221 ⟨rfl, rfl, by rw [hR]; exact Nat.le_of_ble_eq_true rfl, by rw [hR]; exact Nat.le_of_ble_eq_true rfl⟩ hP hl.1 rfl (Nat.le_of_ble_eq_true rfl) dL_areKnots_108 ⟨by rw [hR]; show cl + 0 ≤ 82; omega, by rw [hR]; show sl + 0 ≤ 492; omega⟩ rfl ?_
              refine lv_iload_n S.1 S.2.1 dL_areKnots_111 rfl (lv_at hl 1 rfl) ?_
              refine z_kne (tgt := 129) S rfl dL_areKnots_112 (by decide) ?_
              refine lv_aload_n S.1 S.2.1 dL_areKnots_115 rfl (lv_at hl 0 rfl) ?_
              refine lv_iload S.1 S.2.1 dL_areKnots_116 (lv_at hl 4 rfl) ?_
              refine z_cSW (v := some (.int (nI (c9)))) (rest := []) (As := [.ref (o), .int (nI (k))]) S hZ hS (c_L_nextKnotColumn l hl0 g z hv k b q1 q2 q3 q4 c9 q5 q6 (fun _ => q7)) ci_L_nextKnotColumn cv_L_nextKnotColumn k1236 ⟨rfl, rfl, by rw [hR]; exact Nat.le_of_ble_eq_true rfl, by rw [hR]; exact Nat.le_of_ble_eq_true rfl⟩ hP hl.1 rfl (Nat.le_of_ble_eq_true rfl) dL_areKnots_118 ⟨by rw [hR]; show cl + 0 ≤ 82; omega, by rw [hR]; show sl + 0 ≤ 492; omega⟩ rfl ?_
              refine lv_iload_n S.1 S.2.1 dL_areKnots_121 rfl (lv_at hl 2 rfl) ?_
              refine z_kne (tgt := 129) S rfl dL_areKnots_122 (by decide) ?_
              refine z_ic S (k := 1) dL_areKnots_125 (by decide) ?_
              refine lv_goto (tgt := 130) S.1 S.2.1 dL_areKnots_126 (by decide) ?_
              refine lv_istore_n (lv' := [(3, .int (nI (1))), (0, .ref (o)), (1, .int (nI (b))), (2, .int (nI (c9))), (4, .int (nI (k))), (5, .int (yM 0))]) S.1 S.2.1 dL_areKnots_130 rfl hl (by decide) rfl (fun ls hl => ?_)
              refine lv_iinc (lv' := [(4, .int (yM k)), (3, .int (nI (1))), (0, .ref (o)), (1, .int (nI (b))), (2, .int (nI (c9))), (5, .int (yM 0))]) (k := 4) S.1 S.2.1 dL_areKnots_131 hl rfl (yM_d k) (by decide) rfl (fun ls hl => ?_)
              refine lv_goto (tgt := 47) S.1 S.2.1 dL_areKnots_134 (by decide) ?_
              exact ih k (nI b) (nI c9) _ _ _ _ ls (by omega) (by omega) (Or.inr ⟨b, c9, q1, q2, q3, q4, q5, q6, q7, rfl, rfl⟩) (by omega) (by omega) hP hS hC (lv_sub hl [2, 3, 4, 1, 0] rfl)
          | succ m9 ih2 =>
            intro fr2 fc2 ls g1 hkc hl
            rw [yM_s] at hl
            refine lv_iload S.1 S.2.1 dL_areKnots_60 (lv_at hl 5 rfl) ?_
            refine z_ilt (tgt := 105) S (by omega) dL_areKnots_62 (by decide) ?_
            refine lv_aload_n S.1 S.2.1 dL_areKnots_65 rfl (lv_at hl 0 rfl) ?_
            refine lv_iload S.1 S.2.1 dL_areKnots_66 (lv_at hl 4 rfl) ?_
            refine lv_iload S.1 S.2.1 dL_areKnots_68 (lv_at hl 5 rfl) ?_
            refine z_cV (v := some (.int (nI (zBt (z 0 2 3 k) m9).toNat))) (rest := []) (As := [.int (nI (k)), .int (nI (m9))]) S hZ hS (c_isKnotted l g z hv k m9 hk1 (by omega)) ci_X11_isKnotted cv_X11_isKnotted k996 ⟨rfl, rfl, by rw [hR]; exact Nat.le_of_ble_eq_true rfl, by rw [hR]; exact Nat.le_of_ble_eq_true rfl⟩ hP (hP.1.recv hZ.1 0 (by decide) rfl rfl rfl) hl.1 rfl (Nat.le_of_ble_eq_true rfl) dL_areKnots_70 ⟨by rw [hR]; show cl + 0 ≤ 82; omega, by rw [hR]; show sl + 0 ≤ 492; omega⟩ rfl ?_
            refine lv_istore (lv' := [(6, .int (nI (zBt (z 0 2 3 k) m9).toNat)), (0, .ref (o)), (1, .int (fr2)), (2, .int (fc2)), (3, .int (nI (1))), (4, .int (nI (k))), (5, .int (nI (m9)))]) S.1 S.2.1 dL_areKnots_73 hl (by decide) rfl (fun ls hl => ?_)
            refine lv_iload S.1 S.2.1 dL_areKnots_75 (lv_at hl 0 rfl) ?_
            refine z_beq (tgt := 85) S dL_areKnots_77 (by decide) (fun h1 => ?_) (fun h1 => ?_)
            · refine lv_iload_n S.1 S.2.1 dL_areKnots_85 rfl (lv_at hl 2 rfl) ?_
              refine lv_istore_n (lv' := [(1, .int (fr2)), (6, .int (nI (zBt (z 0 2 3 k) m9).toNat)), (0, .ref (o)), (2, .int (fc2)), (3, .int (nI (1))), (4, .int (nI (k))), (5, .int (nI (m9)))]) S.1 S.2.1 dL_areKnots_86 rfl hl (by decide) rfl (fun ls hl => ?_)
              refine lv_iload S.1 S.2.1 dL_areKnots_87 (lv_at hl 1 rfl) ?_
              refine z_beq (tgt := 97) S dL_areKnots_89 (by decide) (fun h2 => ?_) (fun h2 => ?_)
              · refine lv_iload_n S.1 S.2.1 dL_areKnots_97 rfl (lv_at hl 3 rfl) ?_
                refine lv_istore_n (lv' := [(2, .int (fc2)), (1, .int (fr2)), (6, .int (nI (zBt (z 0 2 3 k) m9).toNat)), (0, .ref (o)), (3, .int (nI (1))), (4, .int (nI (k))), (5, .int (nI (m9)))]) S.1 S.2.1 dL_areKnots_98 rfl hl (by decide) rfl (fun ls hl => ?_)
                refine lv_iinc (lv' := [(5, .int (yM m9)), (2, .int (fc2)), (1, .int (fr2)), (6, .int (nI (zBt (z 0 2 3 k) m9).toNat)), (0, .ref (o)), (3, .int (nI (1))), (4, .int (nI (k)))]) (k := 6) S.1 S.2.1 dL_areKnots_99 hl rfl (yM_d m9) (by decide) rfl (fun ls hl => ?_)
                refine lv_goto (tgt := 60) S.1 S.2.1 dL_areKnots_102 (by decide) ?_
                exact ih2 fr2 fc2 ls (by omega) (yKc_f hkc h1) (lv_sub hl [4, 2, 1, 5, 6, 0] rfl)
              · exact absurd (h1.symm.trans h2) (by decide)
            · refine lv_iload S.1 S.2.1 dL_areKnots_80 (lv_at hl 5 rfl) ?_
              refine lv_goto (tgt := 86) S.1 S.2.1 dL_areKnots_82 (by decide) ?_
              refine lv_istore_n (lv' := [(1, .int (nI (k))), (6, .int (nI (zBt (z 0 2 3 k) m9).toNat)), (0, .ref (o)), (2, .int (fc2)), (3, .int (nI (1))), (4, .int (nI (k))), (5, .int (nI (m9)))]) S.1 S.2.1 dL_areKnots_86 rfl hl (by decide) rfl (fun ls hl => ?_)
              refine lv_iload S.1 S.2.1 dL_areKnots_87 (lv_at hl 1 rfl) ?_
              refine z_beq (tgt := 97) S dL_areKnots_89 (by decide) (fun h2 => ?_) (fun h2 => ?_)
              · exact absurd (h1.symm.trans h2) (by decide)
              · refine lv_iload S.1 S.2.1 dL_areKnots_92 (lv_at hl 6 rfl) ?_
                refine lv_goto (tgt := 98) S.1 S.2.1 dL_areKnots_94 (by decide) ?_
                refine lv_istore_n (lv' := [(2, .int (nI (m9))), (1, .int (nI (k))), (6, .int (nI (zBt (z 0 2 3 k) m9).toNat)), (0, .ref (o)), (3, .int (nI (1))), (4, .int (nI (k))), (5, .int (nI (m9)))]) S.1 S.2.1 dL_areKnots_98 rfl hl (by decide) rfl (fun ls hl => ?_)
                refine lv_iinc (lv' := [(5, .int (yM m9)), (2, .int (nI (m9))), (1, .int (nI (k))), (6, .int (nI (zBt (z 0 2 3 k) m9).toNat)), (0, .ref (o)), (3, .int (nI (1))), (4, .int (nI (k)))]) (k := 6) S.1 S.2.1 dL_areKnots_99 hl rfl (yM_d m9) (by decide) rfl (fun ls hl => ?_)
                refine lv_goto (tgt := 60) S.1 S.2.1 dL_areKnots_102 (by decide) ?_
                exact ih2 (nI k) (nI m9) ls (by omega) (yKc_t (by omega) h1) (lv_sub hl [4, 2, 1, 5, 6, 0] rfl)
        exact cols 16 fr fc ls (by omega) (Or.inl ⟨rfl, rfl, fun j h1 h2 => absurd h2 (by omega)⟩) (lv_sub hl [1, 2, 3, 4, 5, 0] rfl)
  exact loop (z 0 2 0 3 + 1) (z 0 2 0 3) (-1000) (-1000) _ _ _ _ ls (Nat.le_refl _) (by omega) (Or.inl ⟨rfl, rfl, fun j h1 h2 => absurd h2 (by omega)⟩) (by omega) (by omega) hP hS hC (lv_sub hl [4, 3, 2, 1, 0] rfl)
