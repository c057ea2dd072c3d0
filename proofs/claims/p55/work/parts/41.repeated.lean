/-! THE LAW: isRepeated -/
theorem yV6 {v : zL} {q t : Nat} (h : (zVd v 6 q t 0).1 ≠ 0) (h1 : 1 ≤ q) (h2 : q ≤ 20) (h3 : 1 ≤ t) (h4 : t ≤ 9) : v 2 0 3 < q ∨ 40 < v 2 0 3 + q * t := by
  change (zV6 (v 2) q t).1 ≠ 0 at h
  unfold zV6 at h
  rw [if_neg (by omega)] at h
  by_cases c : v 2 0 3 < q
  · exact Or.inl c
  · rw [if_neg c] at h
    by_cases d : 40 < v 2 0 3 + q * t
    · exact Or.inr d
    · rw [if_neg d] at h; exact absurd rfl h
theorem yV5 {v : zL} {a n : Nat} (h1 : 1 ≤ a) (h2 : a ≤ 10) (h3 : zLk (v 2) (v 2 0 3) ≤ n) (h4 : n + a ≤ v 2 0 3) : (zVd v 5 a 0 0).1 = 0 := by
  show (zV5 (v 2) a).1 = 0
  unfold zV5
  rw [if_neg (by omega), if_neg (by omega), if_neg (by omega)]
theorem ci_L_isRepeated : zCI yL_isRepeated cL_isRepeated 9 (some .boolean) 3 := ⟨k1254, k0, by decide +kernel⟩
theorem cv_L_isRepeated : Cond.static yL_isRepeated ∈ GW := k1253
set_option maxRecDepth 20000 in
set_option maxHeartbeats 4000000 in
/-- isRepeated -/
theorem c_isRepeated (l : Launch) (hl0 : l.stackTraces = false) (g : ZG) {B : Nat} {o : Nat} (hB : B ≤ o) (z : zSt) (hI : yIv z) (q t : Nat) (hq : 1 ≤ q) (hq2 : q ≤ 9) (ht : 1 ≤ t) (ht2 : t ≤ 9) (hqt : q * t ≤ 81) (hqt1 : q ≤ q * t) : Met l yL_isRepeated (.code yL_isRepeated cL_isRepeated 9 (some .boolean) :: GW) { frames := 14, cells := 2, slots := 12, locals := 290 } (va_Pc [.ref o, .int (nI (q)), .int (nI (t))] (zPre g B (fun H => zSO g o z H))) (zX (fun w H => w = some (.int (nI 1)) ∧ ∃ z9, zSO g o z9 H ∧ yKe z z9) o 152) 2 12 (zA B) := by
  refine zMet (by decide) (Nat.le_of_ble_eq_true rfl) ?_
  intro p e R s m args below meth c Q ls hR hargs hQ S hr hlk hP hZ hS hnm hl
  have hl : lv_has ls 9 [(0, .ref (o)), (1, .int (nI (q))), (2, .int (nI (t)))] := hl
  have hv := hI.ok
  have hk40 := hv.2.1.1
  have hC : zCh1 o 152 s.heap s.heap := zCh1.rf
  refine lv_aload_n S.1 S.2.1 dL_isRepeated_0 rfl (lv_at hl 0 rfl) ?_
  refine z_cS (v := some (.long (yDst (z 0)))) (rest := []) (As := [.ref (o)]) S hZ hS (c_digest l hl0 g z hv) ci_L_digest cv_L_digest k936 ⟨rfl, rfl, by rw [hR]; exact Nat.le_of_ble_eq_true rfl, by rw [hR]; exact Nat.le_of_ble_eq_true rfl⟩ hP hl.1 rfl (Nat.le_of_ble_eq_true rfl) dL_isRepeated_1 ⟨by rw [hR]; exact Nat.le_of_ble_eq_true rfl, by rw [hR]; exact Nat.le_of_ble_eq_true rfl⟩ rfl ?_
  refine lv_lstore_n (lv' := [(3, .long (yDst (z 0))), (0, .ref (o)), (1, .int (nI (q))), (2, .int (nI (t)))]) S.1 S.2.1 dL_isRepeated_4 rfl hl (by decide) rfl (fun ls hl => ?_)
  refine lv_aload_n S.1 S.2.1 dL_isRepeated_5 rfl (lv_at hl 1 rfl) ?_
  refine z_cV (v := some (.int (nI (z 0 2 0 3)))) (rest := []) (As := []) S hZ hS (c_rowCount l g z hv) ci_X11_rowCount cv_X11_rowCount k977 ⟨rfl, rfl, by rw [hR]; decide, by rw [hR]; decide⟩ hP (hP.1.recv hZ.1 0 (by decide) rfl rfl rfl) hl.1 rfl (Nat.le_of_ble_eq_true rfl) dL_isRepeated_6 ⟨by rw [hR]; decide, by rw [hR]; decide⟩ rfl ?_
  refine lv_istore (lv' := [(5, .int (nI (z 0 2 0 3))), (3, .long (yDst (z 0))), (0, .ref (o)), (1, .int (nI (q))), (2, .int (nI (t)))]) S.1 S.2.1 dL_isRepeated_9 hl (by decide) rfl (fun ls hl => ?_)
  refine lv_aload_n S.1 S.2.1 dL_isRepeated_11 rfl (lv_at hl 2 rfl) ?_
  refine lv_iload_n S.1 S.2.1 dL_isRepeated_12 rfl (lv_at hl 3 rfl) ?_
  refine lv_iload_n S.1 S.2.1 dL_isRepeated_13 rfl (lv_at hl 4 rfl) ?_
  refine z_wSW (rest := []) (As := [.ref (o), .int (nI (q)), .int (nI (t))]) S hZ hS (c_L_repeatLast l hl0 g hB z hI q (by omega) t (by omega)) hB ci_L_repeatLast cv_L_repeatLast k675 ⟨rfl, rfl, by rw [hR]; exact Nat.le_of_ble_eq_true rfl, by rw [hR]; exact Nat.le_of_ble_eq_true rfl⟩ hP hl.1 rfl (Nat.le_of_ble_eq_true rfl) dL_isRepeated_14 ⟨by rw [hR]; exact Nat.le_of_ble_eq_true rfl, by rw [hR]; exact Nat.le_of_ble_eq_true rfl⟩ (fun v9 H1 locs1 hPn hCn hSn => ?_)
  clear hP
  obtain ⟨z1, hP, han⟩ := hPn
  replace hS := hSn
  replace hC := hC.tr hCn
  clear hCn hSn
  rcases han with ⟨hd, rfl, hch⟩ | ⟨hd, rfl, hno⟩
  · have hz12 : z1 0 2 = zCp (z 0 2) q (q * t) := by rw [hch.2.1]; rfl
    have hv1 := hch.1.ok
    have h40 := (zV6_0 hd).2.2.2.2
    obtain ⟨hqN, h40⟩ := h40
    have hn1 : z1 0 2 0 3 = z 0 2 0 3 + q * t := by rw [hz12, zCp_c]
    show W p l e R s m args below meth c H1 locs1 (0 + 1) (0 + 6) Q (F0 m 17 ls [.int (nI (z 0 2 0 3 + q * t))])
    refine lv_istore (lv' := [(6, .int (nI (z 0 2 0 3 + q * t))), (5, .int (nI (z 0 2 0 3))), (3, .long (yDst (z 0))), (0, .ref (o)), (1, .int (nI (q))), (2, .int (nI (t)))]) S.1 S.2.1 dL_isRepeated_17 hl (by decide) rfl (fun ls hl => ?_)
    refine lv_iload S.1 S.2.1 dL_isRepeated_19 (lv_at hl 0 rfl) ?_
    refine lv_ldc S.1 S.2.1 S.2.2.2.1 (S.2.2.2.2 _ k324) dL_isRepeated_21 ?_
    refine z_knt (tgt := 58) S (zn_neg (by omega) (by decide)) dL_isRepeated_23 (by decide) ?_
    refine lv_iload S.1 S.2.1 dL_isRepeated_58 (lv_at hl 0 rfl) ?_
    refine lv_iload S.1 S.2.1 dL_isRepeated_60 (lv_at hl 1 rfl) ?_
    refine lv_iload_n S.1 S.2.1 dL_isRepeated_62 rfl (lv_at hl 4 rfl) ?_
    refine lv_iload_n S.1 S.2.1 dL_isRepeated_63 rfl (lv_at hl 5 rfl) ?_
    refine z_mul S dL_isRepeated_64 ?_
    refine z_add S dL_isRepeated_65 ?_
    refine z_kne (tgt := 82) S rfl dL_isRepeated_66 (by decide) ?_
    refine lv_aload_n S.1 S.2.1 dL_isRepeated_69 rfl (lv_at hl 3 rfl) ?_
    refine z_cV (v := some (.int (nI (z1 0 2 0 3)))) (rest := []) (As := []) S hZ hS (c_rowCount l g z1 hv1) ci_X11_rowCount cv_X11_rowCount k977 ⟨rfl, rfl, by rw [hR]; decide, by rw [hR]; decide⟩ hP (hP.1.recv hZ.1 0 (by decide) rfl rfl rfl) hl.1 rfl (Nat.le_of_ble_eq_true rfl) dL_isRepeated_70 ⟨by rw [hR]; decide, by rw [hR]; decide⟩ rfl ?_
    refine lv_iload S.1 S.2.1 dL_isRepeated_73 (lv_at hl 0 rfl) ?_
    refine z_kne (tgt := 82) S (by rw [hn1]) dL_isRepeated_75 (by decide) ?_
    refine z_ic S (k := 1) dL_isRepeated_78 (by decide) ?_
    refine lv_goto (tgt := 83) S.1 S.2.1 dL_isRepeated_79 (by decide) ?_
    refine lv_istore (lv' := [(7, .int (nI (1))), (6, .int (nI (z 0 2 0 3 + q * t))), (5, .int (nI (z 0 2 0 3))), (3, .long (yDst (z 0))), (0, .ref (o)), (1, .int (nI (q))), (2, .int (nI (t)))]) S.1 S.2.1 dL_isRepeated_83 hl (by decide) rfl (fun ls hl => ?_)
    refine lv_iload S.1 S.2.1 dL_isRepeated_85 (lv_at hl 2 rfl) ?_
    refine lv_istore (lv' := [(8, .int (nI (z 0 2 0 3))), (7, .int (nI (1))), (6, .int (nI (z 0 2 0 3 + q * t))), (5, .int (nI (z 0 2 0 3))), (3, .long (yDst (z 0))), (0, .ref (o)), (1, .int (nI (q))), (2, .int (nI (t)))]) S.1 S.2.1 dL_isRepeated_87 hl (by decide) rfl (fun ls hl => ?_)
    have loop : ∀ (n : Nat) (i : Nat) (ls : Array Slot), (z 0 2 0 3 ≤ i ∧ i ≤ z 0 2 0 3 + q * t) → (z 0 2 0 3 + q * t < i + n) → lv_has ls 9 [(0, .ref (o)), (1, .int (nI (q))), (2, .int (nI (t))), (3, .long (yDst (z 0))), (5, .int (nI (z 0 2 0 3))), (6, .int (nI (z 0 2 0 3 + q * t))), (7, .int (nI (1))), (8, .int (nI (i)))] → W p l e R s m args below meth c H1 locs1 (0 + 1) (0 + 6) Q (F0 m 89 ls []) := by
      intro n
      induction n with
      | zero => intro i ls g1 h2 hl; exact absurd h2 (by omega)
      | succ n ih =>
        intro i ls g1 h2 hl
        refine lv_iload S.1 S.2.1 dL_isRepeated_89 (lv_at hl 6 rfl) ?_
        refine z_kie (tgt := 136) S (by decide) dL_isRepeated_91 (by decide) ?_
        refine lv_iload S.1 S.2.1 dL_isRepeated_94 (lv_at hl 7 rfl) ?_
        refine lv_iload S.1 S.2.1 dL_isRepeated_96 (lv_at hl 5 rfl) ?_
        refine z_cge (tgt := 136) S (by omega) (by omega) dL_isRepeated_98 (by decide) (fun h4 => ?_) (fun h4 => ?_)
        · refine lv_iload S.1 S.2.1 dL_isRepeated_136 (lv_at hl 6 rfl) ?_
          refine z_kie (tgt := 178) S (by decide) dL_isRepeated_138 (by decide) ?_
          refine lv_aload_n S.1 S.2.1 dL_isRepeated_141 rfl (lv_at hl 0 rfl) ?_
          refine z_bi S (k := 10) dL_isRepeated_142 (by decide) ?_
          refine lv_iload_n S.1 S.2.1 dL_isRepeated_144 rfl (lv_at hl 1 rfl) ?_
          refine lv_iload_n S.1 S.2.1 dL_isRepeated_145 rfl (lv_at hl 2 rfl) ?_
          refine z_mul S dL_isRepeated_146 ?_
          refine z_min S (by omega) (by omega) hl.1 k1251 ⟨k597, k21, k598⟩ (by rw [hR]; exact Nat.le_of_ble_eq_true rfl) (by rw [hR]; exact Nat.le_of_ble_eq_true rfl) (by rw [hR]; exact Nat.le_of_ble_eq_true rfl) (by rw [hR]; exact Nat.le_of_ble_eq_true rfl) dL_isRepeated_147 ?_
          have hlast : zLk (z1 0 2) (z1 0 2 0 3) ≤ z 0 2 0 3 := by
            rw [hn1, hz12]
            exact zLk_hi (fun i hi => (zCp_hi (f := z 0 2) hq hqN (q * t) hi).2)
          have hd5 := yV5 (v := z1 0) (a := min 10 (q * t)) (by omega) (by omega) hlast (by omega)
          refine z_wSW (rest := []) (As := [.ref (o), .int (nI (min 10 (q * t)))]) S hZ hS (c_L_ravel l hl0 g hB z1 hch.1 (min 10 (q * t)) (by omega)) hB ci_L_ravel cv_L_ravel k906 ⟨rfl, rfl, by rw [hR]; exact Nat.le_of_ble_eq_true rfl, by rw [hR]; exact Nat.le_of_ble_eq_true rfl⟩ hP hl.1 rfl (Nat.le_of_ble_eq_true rfl) dL_isRepeated_150 ⟨by rw [hR]; exact Nat.le_of_ble_eq_true rfl, by rw [hR]; exact Nat.le_of_ble_eq_true rfl⟩ (fun v9 H1 locs1 hPn hCn hSn => ?_)
          clear hP
          obtain ⟨z2, hP, han⟩ := hPn
          replace hS := hSn
          replace hC := hC.tr hCn
          clear hCn hSn
          rcases han with ⟨-, rfl, hch2⟩ | ⟨hd6, -, -⟩
          · show W p l e R s m args below meth c H1 locs1 ((0 + 1) + 1) ((0 + 6) + 6) Q (F0 m 153 ls [.int (nI (z1 0 2 0 3 - min 10 (q * t)))])
            refine lv_iload S.1 S.2.1 dL_isRepeated_153 (lv_at hl 5 rfl) ?_
            refine z_bi S (k := 10) dL_isRepeated_155 (by decide) ?_
            refine lv_iload_n S.1 S.2.1 dL_isRepeated_157 rfl (lv_at hl 1 rfl) ?_
            refine lv_iload_n S.1 S.2.1 dL_isRepeated_158 rfl (lv_at hl 2 rfl) ?_
            refine z_mul S dL_isRepeated_159 ?_
            refine z_min S (by omega) (by omega) hl.1 k1251 ⟨k597, k21, k598⟩ (by rw [hR]; exact Nat.le_of_ble_eq_true rfl) (by rw [hR]; exact Nat.le_of_ble_eq_true rfl) (by rw [hR]; exact Nat.le_of_ble_eq_true rfl) (by rw [hR]; exact Nat.le_of_ble_eq_true rfl) dL_isRepeated_160 ?_
            refine z_sub S (by omega) dL_isRepeated_163 ?_
            refine z_kne (tgt := 178) S (by rw [hn1]) dL_isRepeated_164 (by decide) ?_
            refine lv_aload_n S.1 S.2.1 dL_isRepeated_167 rfl (lv_at hl 0 rfl) ?_
            refine z_w1SW (v0 := some (.int (nI (z2 12 0 0 2 - 1)))) (rest := []) (As := [.ref (o)]) S hZ hS (c_L_undo l hl0 g hB z2 hch2.1 hch2.n1.1) hB ci_L_undo cv_L_undo k832 ⟨rfl, rfl, by rw [hR]; exact Nat.le_of_ble_eq_true rfl, by rw [hR]; exact Nat.le_of_ble_eq_true rfl⟩ hP hl.1 rfl (Nat.le_of_ble_eq_true rfl) dL_isRepeated_168 ⟨by rw [hR]; exact Nat.le_of_ble_eq_true rfl, by rw [hR]; exact Nat.le_of_ble_eq_true rfl⟩ rfl (fun H1 locs1 hPn hCn hSn => ?_)
            clear hP
            obtain ⟨z3, hP, hud⟩ := hPn
            replace hS := hSn
            replace hC := hC.tr hCn
            clear hCn hSn
            refine z_ilt (tgt := 178) S (by have := hch2.1.1.2.2.2.2; omega) dL_isRepeated_171 (by decide) ?_
            have hn3 : 1 ≤ z3 12 0 0 2 := by
              have e1 : z3 12 0 0 2 = z2 12 0 0 2 - 1 := hud.2.2.2.2.1
              have e2 : z2 12 0 0 2 = min 8 (z1 12 0 0 2 + 1) := hch2.2.2.2.2.1
              have e3 := hch.n1
              omega
            refine z_ic S (k := 1) dL_isRepeated_174 (by decide) ?_
            refine lv_goto (tgt := 179) S.1 S.2.1 dL_isRepeated_175 (by decide) ?_
            refine lv_istore (lv' := [(7, .int (nI (1))), (0, .ref (o)), (1, .int (nI (q))), (2, .int (nI (t))), (3, .long (yDst (z 0))), (5, .int (nI (z 0 2 0 3))), (6, .int (nI (z 0 2 0 3 + q * t))), (8, .int (nI (i)))]) S.1 S.2.1 dL_isRepeated_179 hl (by decide) rfl (fun ls hl => ?_)
            refine lv_iload S.1 S.2.1 dL_isRepeated_181 (lv_at hl 0 rfl) ?_
            refine z_kie (tgt := 206) S (by decide) dL_isRepeated_183 (by decide) ?_
            refine lv_aload_n S.1 S.2.1 dL_isRepeated_186 rfl (lv_at hl 1 rfl) ?_
            refine z_w1SW (v0 := some (.int (nI (z3 12 0 0 2 - 1)))) (rest := []) (As := [.ref (o)]) S hZ hS (c_L_undo l hl0 g hB z3 hud.1 hn3) hB ci_L_undo cv_L_undo k832 ⟨rfl, rfl, by rw [hR]; exact Nat.le_of_ble_eq_true rfl, by rw [hR]; exact Nat.le_of_ble_eq_true rfl⟩ hP hl.1 rfl (Nat.le_of_ble_eq_true rfl) dL_isRepeated_187 ⟨by rw [hR]; exact Nat.le_of_ble_eq_true rfl, by rw [hR]; exact Nat.le_of_ble_eq_true rfl⟩ rfl (fun H1 locs1 hPn hCn hSn => ?_)
            clear hP
            obtain ⟨z4, hP, hud2⟩ := hPn
            replace hS := hSn
            replace hC := hC.tr hCn
            clear hCn hSn
            refine z_ilt (tgt := 206) S (by have := hud.1.1.2.2.2.2; omega) dL_isRepeated_190 (by decide) ?_
            have hke := yUd.ch2 hch hch2 hud hud2
            refine lv_aload_n S.1 S.2.1 dL_isRepeated_193 rfl (lv_at hl 1 rfl) ?_
            refine z_cS (v := some (.long (yDst (z4 0)))) (rest := []) (As := [.ref (o)]) S hZ hS (c_digest l hl0 g z4 (by rw [hke.2.1]; exact hv)) ci_L_digest cv_L_digest k936 ⟨rfl, rfl, by rw [hR]; exact Nat.le_of_ble_eq_true rfl, by rw [hR]; exact Nat.le_of_ble_eq_true rfl⟩ hP hl.1 rfl (Nat.le_of_ble_eq_true rfl) dL_isRepeated_194 ⟨by rw [hR]; exact Nat.le_of_ble_eq_true rfl, by rw [hR]; exact Nat.le_of_ble_eq_true rfl⟩ rfl ?_
            rw [show yDst (z4 0) = yDst (z 0) from congrArg yDst hke.2.1]
            refine lv_lload_n S.1 S.2.1 dL_isRepeated_197 rfl (lv_at hl 4 rfl) ?_
            refine W.lcmp S.1 S.2.1 dL_isRepeated_198 ?_
            rw [lg_cmp_rf]
            refine z_kin (tgt := 206) S rfl dL_isRepeated_199 (by decide) ?_
            refine z_ic S (k := 1) dL_isRepeated_202 (by decide) ?_
            refine lv_goto (tgt := 207) S.1 S.2.1 dL_isRepeated_203 (by decide) ?_
            exact z_wiw hQ S (Nat.le_of_ble_eq_true rfl) (Nat.le_of_ble_eq_true rfl) hr hlk rfl hS hC ⟨rfl, z4, hP, hke⟩ dL_isRepeated_207
          · exact absurd hd5 hd6
        · have hrw : zRw (z1 0 2) i (i - q) = true := by
            have e9 := (zCp_hi (f := z 0 2) hq hqN (q * t) (i := i - z 0 2 0 3) (by omega)).1
            rw [show z 0 2 0 3 + (i - z 0 2 0 3) = i by omega] at e9
            rw [hz12]; exact e9
          have hcl := zCl_le hv1.2.1 q
          have hoc : t < zCl (z1 0 2) q := by rw [hz12]; exact yOcc hq hqN
          refine lv_aload_n S.1 S.2.1 dL_isRepeated_101 rfl (lv_at hl 0 rfl) ?_
          refine lv_iload S.1 S.2.1 dL_isRepeated_102 (lv_at hl 7 rfl) ?_
          refine lv_iload S.1 S.2.1 dL_isRepeated_104 (lv_at hl 7 rfl) ?_
          refine lv_iload_n S.1 S.2.1 dL_isRepeated_106 rfl (lv_at hl 1 rfl) ?_
          refine z_sub S (by omega) dL_isRepeated_107 ?_
          refine z_cS (v := some (.int (nI (zRw (z1 0 2) i (i - q)).toNat))) (rest := []) (As := [.ref (o), .int (nI (i)), .int (nI (i - q))]) S hZ hS (c_areEqual l g z1 hv1 i (i - q) (by omega) (by omega)) ci_L_areEqual cv_L_areEqual k1086 ⟨rfl, rfl, by rw [hR]; exact Nat.le_of_ble_eq_true rfl, by rw [hR]; exact Nat.le_of_ble_eq_true rfl⟩ hP hl.1 rfl (Nat.le_of_ble_eq_true rfl) dL_isRepeated_108 ⟨by rw [hR]; exact Nat.le_of_ble_eq_true rfl, by rw [hR]; exact Nat.le_of_ble_eq_true rfl⟩ rfl ?_
          refine z_beq (tgt := 127) S dL_isRepeated_111 (by decide) (fun h5 => ?_) (fun h5 => ?_)
          · exact absurd h5 (by rw [hrw]; decide)
          · refine lv_aload_n S.1 S.2.1 dL_isRepeated_114 rfl (lv_at hl 0 rfl) ?_
            refine lv_iload_n S.1 S.2.1 dL_isRepeated_115 rfl (lv_at hl 1 rfl) ?_
            refine z_cV (v := some (.int (nI (zCl (z1 0 2) q)))) (rest := []) (As := [.int (nI (q))]) S hZ hS (c_occurrences l g z1 hv1 q hq (by omega)) ci_X11_occurrences cv_X11_occurrences k1190 ⟨rfl, rfl, by rw [hR]; decide, by rw [hR]; decide⟩ hP (hP.1.recv hZ.1 0 (by decide) rfl rfl rfl) hl.1 rfl (Nat.le_of_ble_eq_true rfl) dL_isRepeated_116 ⟨by rw [hR]; decide, by rw [hR]; decide⟩ rfl ?_
            refine lv_iload_n S.1 S.2.1 dL_isRepeated_119 rfl (lv_at hl 2 rfl) ?_
            refine z_cle (tgt := 127) S (by omega) (by omega) dL_isRepeated_120 (by decide) (fun h6 => ?_) (fun h6 => ?_)
            · exact absurd h6 (by omega)
            · refine z_ic S (k := 1) dL_isRepeated_123 (by decide) ?_
              refine lv_goto (tgt := 128) S.1 S.2.1 dL_isRepeated_124 (by decide) ?_
              refine lv_istore (lv' := [(7, .int (nI (1))), (0, .ref (o)), (1, .int (nI (q))), (2, .int (nI (t))), (3, .long (yDst (z 0))), (5, .int (nI (z 0 2 0 3))), (6, .int (nI (z 0 2 0 3 + q * t))), (8, .int (nI (i)))]) S.1 S.2.1 dL_isRepeated_128 hl (by decide) rfl (fun ls hl => ?_)
              refine z_inc S (lv' := [(8, .int (nI (i + 1))), (7, .int (nI (1))), (0, .ref (o)), (1, .int (nI (q))), (2, .int (nI (t))), (3, .long (yDst (z 0))), (5, .int (nI (z 0 2 0 3))), (6, .int (nI (z 0 2 0 3 + q * t)))]) (k := 7) (b := 1) dL_isRepeated_130 hl rfl (by decide) (by decide) rfl (fun ls hl => ?_)
              refine lv_goto (tgt := 89) S.1 S.2.1 dL_isRepeated_133 (by decide) ?_
              exact ih (i + 1) ls ⟨by omega, by omega⟩ (by omega) (lv_sub hl [2, 3, 4, 5, 6, 7, 1, 0] rfl)
    exact loop (q * t + 1) (z 0 2 0 3) ls ⟨Nat.le_refl _, by omega⟩ (by omega) (lv_sub hl [5, 6, 7, 4, 3, 2, 1, 0] rfl)
  · show W p l e R s m args below meth c H1 locs1 (0 + 1) (0 + 6) Q (F0 m 17 ls [.int (-100000000)])
    have h40 := yV6 hd hq (by omega) ht ht2
    refine lv_istore (lv' := [(6, .int (-100000000)), (5, .int (nI (z 0 2 0 3))), (3, .long (yDst (z 0))), (0, .ref (o)), (1, .int (nI (q))), (2, .int (nI (t)))]) S.1 S.2.1 dL_isRepeated_17 hl (by decide) rfl (fun ls hl => ?_)
    refine lv_iload S.1 S.2.1 dL_isRepeated_19 (lv_at hl 0 rfl) ?_
    refine lv_ldc S.1 S.2.1 S.2.2.2.1 (S.2.2.2.2 _ k324) dL_isRepeated_21 ?_
    refine z_kne (tgt := 58) S rfl dL_isRepeated_23 (by decide) ?_
    have J_1 : ∀ (ls : Array Slot), lv_has ls 9 [(0, .ref (o)), (3, .long (yDst (z 0)))] → W p l e R s m args below meth c H1 locs1 (0 + 1) (0 + 6) Q (F0 m 43 ls []) := by
      intro ls hl
      refine lv_aload_n S.1 S.2.1 dL_isRepeated_43 rfl (lv_at hl 0 rfl) ?_
      refine z_cS (v := some (.long (yDst (z1 0)))) (rest := []) (As := [.ref (o)]) S hZ hS (c_digest l hl0 g z1 (by rw [hno.2.1]; exact hv)) ci_L_digest cv_L_digest k936 ⟨rfl, rfl, by rw [hR]; exact Nat.le_of_ble_eq_true rfl, by rw [hR]; exact Nat.le_of_ble_eq_true rfl⟩ hP hl.1 rfl (Nat.le_of_ble_eq_true rfl) dL_isRepeated_44 ⟨by rw [hR]; exact Nat.le_of_ble_eq_true rfl, by rw [hR]; exact Nat.le_of_ble_eq_true rfl⟩ rfl ?_
      rw [show yDst (z1 0) = yDst (z 0) from congrArg yDst hno.2.1]
      refine lv_lload_n S.1 S.2.1 dL_isRepeated_47 rfl (lv_at hl 1 rfl) ?_
      refine W.lcmp S.1 S.2.1 dL_isRepeated_48 ?_
      rw [lg_cmp_rf]
      refine z_kin (tgt := 56) S rfl dL_isRepeated_49 (by decide) ?_
      refine z_ic S (k := 1) dL_isRepeated_52 (by decide) ?_
      refine lv_goto (tgt := 57) S.1 S.2.1 dL_isRepeated_53 (by decide) ?_
      exact z_wiw hQ S (Nat.le_of_ble_eq_true rfl) (Nat.le_of_ble_eq_true rfl) hr hlk rfl hS hC ⟨rfl, z1, hP, hno.ke⟩ dL_isRepeated_57
    refine lv_iload S.1 S.2.1 dL_isRepeated_26 (lv_at hl 1 rfl) ?_
    refine lv_iload_n S.1 S.2.1 dL_isRepeated_28 rfl (lv_at hl 4 rfl) ?_
    refine z_clt (tgt := 43) S (by omega) (by omega) dL_isRepeated_29 (by decide) (fun h8 => ?_) (fun h8 => ?_)
    · exact J_1 ls (lv_sub hl [3, 2] rfl)
    · refine lv_iload S.1 S.2.1 dL_isRepeated_32 (lv_at hl 1 rfl) ?_
      refine lv_iload_n S.1 S.2.1 dL_isRepeated_34 rfl (lv_at hl 4 rfl) ?_
      refine lv_iload_n S.1 S.2.1 dL_isRepeated_35 rfl (lv_at hl 5 rfl) ?_
      refine z_mul S dL_isRepeated_36 ?_
      refine z_add S dL_isRepeated_37 ?_
      refine z_bi S (k := 40) dL_isRepeated_38 (by decide) ?_
      refine z_cle (tgt := 56) S (by omega) (by omega) dL_isRepeated_40 (by decide) (fun h9 => ?_) (fun h9 => ?_)
      · exact absurd h9 (by omega)
      · exact J_1 ls (lv_sub hl [3, 2] rfl)
