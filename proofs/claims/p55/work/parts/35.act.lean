/-! THE LAW: write and act -/
theorem zS.txZ {g : ZG} {B : Nat} {s : State} {H : Heap} (h : zS g B s H) : va_Z "CandleLoomLaw" "TEXTS" "[Ljava/lang/String;" (.ref (g.2 4 2)) (zA B) s H := by
  obtain ⟨-, ⟨-, -, -, -, -, -, -, -, -, -, -, b3, -⟩, -⟩ := h; exact b3
theorem zS.txT {g : ZG} {B : Nat} {s : State} {H : Heap} (h : zS g B s H) : va_T (.object "java/lang/String") (g.2 4 2) 31 (fun j => .ref (g.2 2 (17 + j))) (zA B) s H := by
  obtain ⟨-, ⟨-, -, -, -, -, -, -, -, -, -, -, -, b4, -⟩, -⟩ := h; exact b4
theorem zS.lrx {g : ZG} {B : Nat} {s : State} {H : Heap} (h : zS g B s H) : vk_R "CandleLoomLaw" 141 "lrx" (g.2 2 48) s := by
  obtain ⟨-, ⟨-, -, -, -, -, -, -, -, -, -, -, -, -, b5, -⟩, -⟩ := h; exact b5
theorem yAnd (a : Int32) (m : Nat) : ∃ n, n ≤ m ∧ a &&& nI m = nI n := by
  refine ⟨(a &&& nI m).toBitVec.toNat, ?_, ?_⟩
  · show (a.toBitVec &&& BitVec.ofNat 32 m).toNat ≤ m
    rw [BitVec.toNat_and, BitVec.toNat_ofNat]
    exact Nat.le_trans Nat.and_le_right (Nat.mod_le _ _)
  · apply Int32.toBitVec_inj.mp
    show (a &&& nI m).toBitVec = BitVec.ofNat 32 (a &&& nI m).toBitVec.toNat
    apply BitVec.eq_of_toNat_eq
    rw [BitVec.toNat_ofNat, Nat.mod_eq_of_lt (BitVec.isLt _)]
theorem zPf_lt {v : zL} (hv : zOk v) {k a b c : Nat} (h : (zVd v k a b c).1 = 0) : (zPf v k a b c).2 < 2 ^ 31 := by
  have h8 := hv.1.1
  have h40 := hv.2.1.1
  match k, h with
  | 0, h => show v 1 0 4 < 2 ^ 31; omega
  | 1, h =>
    have := zSum_le (q := va_up (v 1 4) a 1) (b := 1) (fun i => by rw [va_up_eq]; have := (hv.1.2 i).2.2.2.1; split <;> omega) (v 1 0 4)
    show zSum _ _ < 2 ^ 31; omega
  | 2, h =>
    have := zSum_le (q := va_up (v 1 4) a 0) (b := 1) (fun i => by rw [va_up_eq]; have := (hv.1.2 i).2.2.2.1; split <;> omega) (v 1 0 4)
    show zSum _ _ < 2 ^ 31; omega
  | 3, h => have := (zV3_0 h).2.2.2; show v 1 3 a + b < 2 ^ 31; omega
  | 4, h => have := zWn_le v a; have := (zV4_0 h).2.1; show zWn v a < 2 ^ 31; omega
  | 5, h => show v 2 0 3 - a < 2 ^ 31; omega
  | 6, h => have := (zV6_0 h).2.2.2.2.2; show v 2 0 3 + a * b < 2 ^ 31; omega
  | 7, h => have := zKc_640 (zFk_ok hv.2.1 a (zV7_0 h).2.1); show zKc _ < 2 ^ 31; omega
  | 8, h => have := zKc_640 (zFk_ok hv.2.1 a (zV7_0 h).2.1); show zKc _ < 2 ^ 31; omega
  | k + 9, h =>
    have h3 := hv.2.2.1.2
    have h4 := hv.2.2.2.2
    show (if a = 108 then (_, v 3 0 1 - 1) else (_, v 4 0 1 - 1) : zL × Nat).2 < 2 ^ 31
    split
    · show v 3 0 1 - 1 < 2 ^ 31; omega
    · show v 4 0 1 - 1 < 2 ^ 31; omega
theorem yAn_w {z z' : zSt} {k a b c : Nat} {w : Option Value} (hI : yIv z) (h : yAn z z' (zVd (z 0) k a b c) (zPf (z 0) k a b c) w) : ∃ x : Int32, w = some (.int x) ∧ yIv z' ∧ (x = -100000000 → z' 0 = z 0) := by
  rcases h with ⟨h1, h2, h3⟩ | ⟨h1, h2, h3⟩
  · exact ⟨_, h2, h3.1, fun q => absurd q (zn_neg (zPf_lt hI.ok h1) (by decide))⟩
  · exact ⟨_, h2, h3.1, fun _ => h3.2.1⟩
theorem ci_L_write : zCI yL_write cL_write 3 (some (.object "CandleLoom")) 2 := ⟨k876, k0, by decide +kernel⟩
theorem cv_L_write : Cond.static yL_write ∈ GW := k875
set_option maxRecDepth 20000 in
set_option maxHeartbeats 4000000 in
/-- write(o, TEXTS[t]) -/
theorem c_L_write (l : Launch) (hl0 : l.stackTraces = false) (g : ZG) {B : Nat} {o : Nat} (hB : B ≤ o) (z : zSt) (h0 : z 15 0 0 1 = 0) (t : Nat) (ht : t < 31) : Met l yL_write (.code yL_write cL_write 3 (some (.object "CandleLoom")) :: GW) { frames := 5, cells := 0, slots := 0, locals := 110 } (va_Pc [.ref o, .ref (g.2 2 (17 + t))] (zPre g B (fun H => zSO g o z H))) (zX (fun w H => w = some (.ref o) ∧ ∃ z9, zSO g o z9 H ∧ (∀ b, b ≠ 15 → z9 b = z b) ∧ yBf (z9 15 0) (17 + t)) o 152) 0 0 (zA B) := by
  refine zMet (by decide) (Nat.le_of_ble_eq_true rfl) ?_
  intro p e R s m args below meth c Q ls hR hargs hQ S hr hlk hP hZ hS hnm hl
  have hl : lv_has ls 3 [(0, .ref (o)), (1, .ref (g.2 2 (17 + t)))] := hl
  have ht9 : 17 + t < 49 := by omega
  have hC : zCh1 o 152 s.heap s.heap := zCh1.rf
  have h60 := zLen_le (17 + t)
  refine z_ic S (k := 0) dL_write_0 (by decide) ?_
  refine lv_istore_n (lv' := [(2, .int (nI (0))), (0, .ref (o)), (1, .ref (g.2 2 (17 + t)))]) S.1 S.2.1 dL_write_1 rfl hl (by decide) rfl (fun ls hl => ?_)
  have loop : ∀ (n : Nat) (i : Nat) (y : zSt) (H : Heap) (locs : List Loc) (ls : Array Slot), (i ≤ zLen (17 + t)) → (zLen (17 + t) < i + n) → (∀ b, b ≠ 15 → y b = z b) → (y 15 0 0 1 = i) → (∀ j, j < i → y 15 0 1 j = zCh (17 + t) j) → (zSO g o y H) → (va_S (zA B) s.heap H locs) → (zCh1 o 152 s.heap H) → lv_has ls 3 [(0, .ref (o)), (1, .ref (g.2 2 (17 + t))), (2, .int (nI (i)))] → W p l e R s m args below meth c H locs 0 0 Q (F0 m 2 ls []) := by
    intro n
    induction n with
    | zero => intro i y H locs ls hi h2 hy hln hch hP hS hC hl; exact absurd h2 (by omega)
    | succ n ih =>
      intro i y H locs ls hi h2 hy hln hch hP hS hC hl
      refine lv_iload_n S.1 S.2.1 dL_write_2 rfl (lv_at hl 2 rfl) ?_
      refine lv_aload_n S.1 S.2.1 dL_write_3 rfl (lv_at hl 1 rfl) ?_
      refine z_cV (v := some (.int (nI (zLen (17 + t))))) (rest := [.int (nI (i))]) (As := []) S hZ hS (c_strlen l g (17 + t) ht9 (PH := fun _ => True)) ci_J0_length_8abf5 cv_J0_length_8abf5 k877 ⟨rfl, rfl, by rw [hR]; decide, by rw [hR]; decide⟩ trivial (zStrR hZ ht9 hS) hl.1 rfl (Nat.le_of_ble_eq_true rfl) dL_write_4 ⟨by rw [hR]; decide, by rw [hR]; decide⟩ rfl ?_
      refine z_cge (tgt := 26) S (by omega) (by omega) dL_write_7 (by decide) (fun h4 => ?_) (fun h4 => ?_)
      · refine lv_aload_n S.1 S.2.1 dL_write_26 rfl (lv_at hl 0 rfl) ?_
        exact z_wa hQ S hr hlk (Or.inl ⟨_, rfl⟩) (Or.inr ⟨_, rfl⟩) hS hC ⟨rfl, y, hP, hy, by rw [hln]; omega, fun j hj => hch j (by omega)⟩ dL_write_27
      · refine lv_aload_n S.1 S.2.1 dL_write_10 rfl (lv_at hl 0 rfl) ?_
        refine lv_aload_n S.1 S.2.1 dL_write_11 rfl (lv_at hl 1 rfl) ?_
        refine lv_iload_n S.1 S.2.1 dL_write_12 rfl (lv_at hl 2 rfl) ?_
        refine z_cV (v := some (.int (nI (zCh (17 + t) i)))) (rest := [.ref (o)]) (As := [.int (nI (i))]) S hZ hS (c_charAt l g (17 + t) ht9 i h4 (PH := fun _ => True)) ci_J0_charAt_5068e cv_J0_charAt_5068e k878 ⟨rfl, rfl, by rw [hR]; decide, by rw [hR]; decide⟩ trivial (zStrR hZ ht9 hS) hl.1 rfl (Nat.le_of_ble_eq_true rfl) dL_write_13 ⟨by rw [hR]; decide, by rw [hR]; decide⟩ rfl ?_
        have hc7 := zCh_lt (17 + t) i
        refine z_w1SW (v0 := some (.int (nI (1)))) (rest := []) (As := [.ref (o), .int (nI (zCh (17 + t) i))]) S hZ hS (c_L_put l hl0 g hB y (zCh (17 + t) i) (by omega) (by omega)) hB ci_L_put cv_L_put k879 ⟨rfl, rfl, by rw [hR]; exact Nat.le_of_ble_eq_true rfl, by rw [hR]; exact Nat.le_of_ble_eq_true rfl⟩ hP hl.1 rfl (Nat.le_of_ble_eq_true rfl) dL_write_16 ⟨by rw [hR]; exact Nat.le_of_ble_eq_true rfl, by rw [hR]; exact Nat.le_of_ble_eq_true rfl⟩ rfl (fun H1 locs1 hPn hCn hSn => ?_)
        refine lv_pop S.1 S.2.1 dL_write_19 rfl ?_
        refine z_inc S (lv' := [(2, .int (nI (i + 1))), (0, .ref (o)), (1, .ref (g.2 2 (17 + t)))]) (k := 2) (b := 1) dL_write_20 hl rfl (by decide) (by decide) rfl (fun ls hl => ?_)
        refine lv_goto (tgt := 2) S.1 S.2.1 dL_write_23 (by decide) ?_
        refine ih (i + 1) (yFd y (zCh (17 + t) i)) H1 locs1 ls (by omega) (by omega) (fun b hb => (if_neg hb).trans (hy b hb)) (by show y 15 0 0 1 + 1 = i + 1; omega) (fun j hj => ?_) hPn hSn (hC.tr hCn) (lv_sub hl [1, 2, 0] rfl)
        show va_up (y 15 0 1) (y 15 0 0 1) (zCh (17 + t) i) j = _
        rw [va_up_eq, hln]; split
        case isTrue e9 => rw [e9]
        case isFalse e9 => exact hch j (by omega)
  exact loop (zLen (17 + t) + 1) 0 z _ _ ls (Nat.zero_le _) (by omega) (fun _ _ => rfl) h0 (fun j hj => absurd hj (by omega)) hP hS hC (lv_sub hl [1, 2, 0] rfl)
theorem ci_L_act : zCI yL_act cL_act 4 (some .int) 2 := ⟨k896, k0, by decide +kernel⟩
theorem cv_L_act : Cond.static yL_act ∈ GW := k895
theorem yIv_15 {z z' : zSt} (h : yIv z) (e : ∀ b, b ≠ 15 → z' b = z b) : zIv z' := by
  obtain ⟨⟨i1, i2, i3, i4, i5⟩, -, -⟩ := h
  exact ⟨by rw [e 0 (by decide)]; exact i1, by rw [e 2 (by decide)]; exact i2, fun i hi => by rw [e (3 + i) (by omega)]; exact i3 i hi, by rw [e 12 (by decide)]; exact i4, by rw [e 12 (by decide)]; exact i5⟩
set_option maxRecDepth 20000 in
set_option maxHeartbeats 4000000 in
/-- act(o, x) -/
theorem c_L_act (l : Launch) (hl0 : l.stackTraces = false) (g : ZG) {B : Nat} {o : Nat} (hB : B ≤ o) (z : zSt) (hI : yIv z) (x : Int32) : Met l yL_act (.code yL_act cL_act 4 (some .int) :: GW) { frames := 12, cells := 1, slots := 6, locals := 240 } (va_Pc [.ref o, .int x] (zPre g B (fun H => zSO g o z H))) (zX (fun w H => ∃ (a9 : Int32) (z9 : zSt), w = some (.int a9) ∧ zSO g o z9 H ∧ yIv z9 ∧ (a9 = -100000000 → z9 0 = z 0)) o 152) 1 6 (zA B) := by
  refine zMet (by decide) (Nat.le_of_ble_eq_true rfl) ?_
  intro p e R s m args below meth c Q ls hR hargs hQ S hr hlk hP hZ hS hnm hl
  have hl : lv_has ls 4 [(0, .ref (o)), (1, .int (x))] := hl
  have hv := hI.ok
  refine lv_iload_n S.1 S.2.1 dL_act_0 rfl (lv_at hl 1 rfl) ?_
  refine z_ic S (k := 4) dL_act_1 (by decide) ?_
  refine lv_ishr S.1 S.2.1 dL_act_2 ?_
  refine lv_ldc S.1 S.2.1 S.2.2.2.1 (S.2.2.2.2 _ k318) dL_act_3 ?_
  refine lv_iand S.1 S.2.1 dL_act_5 ?_
  obtain ⟨y, hy, e9⟩ := yAnd (x >>> (nI 4 &&& 31)) 65535
  rw [show ((x >>> (nI 4 &&& 31)) &&& (65535 : Int32)) = nI y from e9]
  refine lv_istore_n (lv' := [(2, .int (nI (y))), (0, .ref (o)), (1, .int (x))]) S.1 S.2.1 dL_act_6 rfl hl (by decide) rfl (fun ls hl => ?_)
  refine lv_iload_n S.1 S.2.1 dL_act_7 rfl (lv_at hl 0 rfl) ?_
  refine z_ic S (k := 4) dL_act_8 (by decide) ?_
  refine z_rem S (by omega) (by omega) (by omega) dL_act_9 ?_
  refine lv_istore_n (lv' := [(3, .int (nI (y % 4))), (2, .int (nI (y))), (0, .ref (o)), (1, .int (x))]) S.1 S.2.1 dL_act_10 rfl hl (by decide) rfl (fun ls hl => ?_)
  refine lv_iload_n S.1 S.2.1 dL_act_11 rfl (lv_at hl 3 rfl) ?_
  refine z_bi S (k := 15) dL_act_12 (by decide) ?_
  refine lv_iand S.1 S.2.1 dL_act_14 ?_
  obtain ⟨k, hk, e8⟩ := yAnd x 15
  rw [e8]
  replace hl : lv_has ls 4 [(0, .ref (o)), (2, .int (nI (y))), (3, .int (nI (y % 4)))] := lv_sub hl [2, 1, 0] rfl
  have t88 : W p l e R s m args below meth c s.heap [] 0 0 Q (F0 m 88 ls []) := by
    refine lv_aload_n S.1 S.2.1 dL_act_88 rfl (lv_at hl 0 rfl) ?_
    refine lv_iload_n S.1 S.2.1 dL_act_89 rfl (lv_at hl 1 rfl) ?_
    refine z_bi S (k := 9) dL_act_90 (by decide) ?_
    refine z_rem S (by omega) (by omega) (by omega) dL_act_92 ?_
    refine lv_iload_n S.1 S.2.1 dL_act_93 rfl (lv_at hl 1 rfl) ?_
    refine lv_iload_n S.1 S.2.1 dL_act_94 rfl (lv_at hl 1 rfl) ?_
    refine z_ic S (k := 3) dL_act_95 (by decide) ?_
    refine z_shr S (by omega) (by omega) dL_act_96 ?_
    refine z_bi S (k := 30) dL_act_97 (by decide) ?_
    refine z_rem S (by omega) (by omega) (by omega) dL_act_99 ?_
    refine z_wSW (rest := []) (As := [.ref (o), .int (nI (y % 9)), .int (nI (y)), .int (nI ((y / 2 ^ 3) % 30))]) S hZ hS (c_L_addWick l hl0 g hB z hI (y % 9) (by omega) (y) (by omega) (y / 2 ^ 3 % 30) (by omega)) hB ci_L_addWick cv_L_addWick k319 ⟨rfl, rfl, by rw [hR]; exact Nat.le_of_ble_eq_true rfl, by rw [hR]; exact Nat.le_of_ble_eq_true rfl⟩ hP hl.1 rfl (Nat.le_of_ble_eq_true rfl) dL_act_100 ⟨by rw [hR]; exact Nat.le_of_ble_eq_true rfl, by rw [hR]; exact Nat.le_of_ble_eq_true rfl⟩ (fun v9 H1 locs1 hPn hCn hSn => ?_)
    obtain ⟨z9, hPn, han⟩ := hPn
    obtain ⟨a9, rfl, hI9, ha9⟩ := yAn_w hI han
    show W p l e R s m args below meth c H1 locs1 (0 + 1) (0 + 6) Q (F0 m 103 ls [.int (a9)])
    exact z_wiw hQ S (Nat.le_of_ble_eq_true rfl) (Nat.le_of_ble_eq_true rfl) hr hlk (zn_int _) hSn hCn ⟨a9, z9, rfl, hPn, hI9, ha9⟩ dL_act_103
  have t104 : W p l e R s m args below meth c s.heap [] 0 0 Q (F0 m 104 ls []) := by
    refine lv_aload_n S.1 S.2.1 dL_act_104 rfl (lv_at hl 0 rfl) ?_
    refine lv_iload_n S.1 S.2.1 dL_act_105 rfl (lv_at hl 2 rfl) ?_
    refine z_wSW (rest := []) (As := [.ref (o), .int (nI (y % 4))]) S hZ hS (c_L_light l hl0 g hB z hI (y % 4) (by omega)) hB ci_L_light cv_L_light k627 ⟨rfl, rfl, by rw [hR]; exact Nat.le_of_ble_eq_true rfl, by rw [hR]; exact Nat.le_of_ble_eq_true rfl⟩ hP hl.1 rfl (Nat.le_of_ble_eq_true rfl) dL_act_106 ⟨by rw [hR]; exact Nat.le_of_ble_eq_true rfl, by rw [hR]; exact Nat.le_of_ble_eq_true rfl⟩ (fun v9 H1 locs1 hPn hCn hSn => ?_)
    obtain ⟨z9, hPn, han⟩ := hPn
    obtain ⟨a9, rfl, hI9, ha9⟩ := yAn_w hI han
    show W p l e R s m args below meth c H1 locs1 (0 + 1) (0 + 6) Q (F0 m 109 ls [.int (a9)])
    exact z_wiw hQ S (Nat.le_of_ble_eq_true rfl) (Nat.le_of_ble_eq_true rfl) hr hlk (zn_int _) hSn hCn ⟨a9, z9, rfl, hPn, hI9, ha9⟩ dL_act_109
  have t110 : W p l e R s m args below meth c s.heap [] 0 0 Q (F0 m 110 ls []) := by
    have h64 : y &&& 64 ≤ 64 := Nat.and_le_right
    refine lv_iload_n S.1 S.2.1 dL_act_110 rfl (lv_at hl 1 rfl) ?_
    refine z_bi S (k := 64) dL_act_111 (by decide) ?_
    refine z_and S dL_act_113 ?_
    refine z_ine (tgt := 125) S (by omega) dL_act_114 (by decide) (fun h1 => ?_) (fun h1 => ?_)
    · refine lv_aload_n S.1 S.2.1 dL_act_125 rfl (lv_at hl 0 rfl) ?_
      refine lv_iload_n S.1 S.2.1 dL_act_126 rfl (lv_at hl 2 rfl) ?_
      refine lv_iload_n S.1 S.2.1 dL_act_127 rfl (lv_at hl 1 rfl) ?_
      refine z_ic S (k := 3) dL_act_128 (by decide) ?_
      refine z_shr S (by omega) (by omega) dL_act_129 ?_
      refine z_bi S (k := 40) dL_act_130 (by decide) ?_
      refine z_rem S (by omega) (by omega) (by omega) dL_act_132 ?_
      refine z_wSW (rest := []) (As := [.ref (o), .int (nI (y % 4)), .int (nI ((y / 2 ^ 3) % 40))]) S hZ hS (c_L_addWax l hl0 g hB z hI (y % 4) (by omega) (y / 2 ^ 3 % 40) (by omega)) hB ci_L_addWax cv_L_addWax k657 ⟨rfl, rfl, by rw [hR]; exact Nat.le_of_ble_eq_true rfl, by rw [hR]; exact Nat.le_of_ble_eq_true rfl⟩ hP hl.1 rfl (Nat.le_of_ble_eq_true rfl) dL_act_133 ⟨by rw [hR]; exact Nat.le_of_ble_eq_true rfl, by rw [hR]; exact Nat.le_of_ble_eq_true rfl⟩ (fun v9 H1 locs1 hPn hCn hSn => ?_)
      obtain ⟨z9, hPn, han⟩ := hPn
      obtain ⟨a9, rfl, hI9, ha9⟩ := yAn_w hI han
      show W p l e R s m args below meth c H1 locs1 (0 + 1) (0 + 6) Q (F0 m 136 ls [.int (a9)])
      exact z_wiw hQ S (Nat.le_of_ble_eq_true rfl) (Nat.le_of_ble_eq_true rfl) hr hlk (zn_int _) hSn hCn ⟨a9, z9, rfl, hPn, hI9, ha9⟩ dL_act_136
    · refine lv_aload_n S.1 S.2.1 dL_act_117 rfl (lv_at hl 0 rfl) ?_
      refine lv_iload_n S.1 S.2.1 dL_act_118 rfl (lv_at hl 2 rfl) ?_
      refine z_wSW (rest := []) (As := [.ref (o), .int (nI (y % 4))]) S hZ hS (c_L_snuff l hl0 g hB z hI (y % 4) (by omega)) hB ci_L_snuff cv_L_snuff k897 ⟨rfl, rfl, by rw [hR]; exact Nat.le_of_ble_eq_true rfl, by rw [hR]; exact Nat.le_of_ble_eq_true rfl⟩ hP hl.1 rfl (Nat.le_of_ble_eq_true rfl) dL_act_119 ⟨by rw [hR]; exact Nat.le_of_ble_eq_true rfl, by rw [hR]; exact Nat.le_of_ble_eq_true rfl⟩ (fun v9 H1 locs1 hPn hCn hSn => ?_)
      obtain ⟨z9, hPn, han⟩ := hPn
      obtain ⟨a9, rfl, hI9, ha9⟩ := yAn_w hI han
      show W p l e R s m args below meth c H1 locs1 (0 + 1) (0 + 6) Q (F0 m 122 ls [.int (a9)])
      refine lv_goto (tgt := 136) S.1 S.2.1 dL_act_122 (by decide) ?_
      exact z_wiw hQ S (Nat.le_of_ble_eq_true rfl) (Nat.le_of_ble_eq_true rfl) hr hlk (zn_int _) hSn hCn ⟨a9, z9, rfl, hPn, hI9, ha9⟩ dL_act_136
  have t137 : W p l e R s m args below meth c s.heap [] 0 0 Q (F0 m 137 ls []) := by
    refine lv_aload_n S.1 S.2.1 dL_act_137 rfl (lv_at hl 0 rfl) ?_
    refine lv_iload_n S.1 S.2.1 dL_act_138 rfl (lv_at hl 1 rfl) ?_
    refine z_ic S (k := 2) dL_act_139 (by decide) ?_
    refine z_shr S (by omega) (by omega) dL_act_140 ?_
    refine z_bi S (k := 8) dL_act_141 (by decide) ?_
    refine z_rem S (by omega) (by omega) (by omega) dL_act_143 ?_
    refine z_wSW (rest := []) (As := [.ref (o), .int (nI ((y / 2 ^ 2) % 8))]) S hZ hS (c_L_weave l hl0 g hB z hI (y / 2 ^ 2 % 8) (by omega)) hB ci_L_weave cv_L_weave k666 ⟨rfl, rfl, by rw [hR]; exact Nat.le_of_ble_eq_true rfl, by rw [hR]; exact Nat.le_of_ble_eq_true rfl⟩ hP hl.1 rfl (Nat.le_of_ble_eq_true rfl) dL_act_144 ⟨by rw [hR]; exact Nat.le_of_ble_eq_true rfl, by rw [hR]; exact Nat.le_of_ble_eq_true rfl⟩ (fun v9 H1 locs1 hPn hCn hSn => ?_)
    obtain ⟨z9, hPn, han⟩ := hPn
    obtain ⟨a9, rfl, hI9, ha9⟩ := yAn_w hI han
    show W p l e R s m args below meth c H1 locs1 (0 + 1) (0 + 6) Q (F0 m 147 ls [.int (a9)])
    exact z_wiw hQ S (Nat.le_of_ble_eq_true rfl) (Nat.le_of_ble_eq_true rfl) hr hlk (zn_int _) hSn hCn ⟨a9, z9, rfl, hPn, hI9, ha9⟩ dL_act_147
  have t148 : W p l e R s m args below meth c s.heap [] 0 0 Q (F0 m 148 ls []) := by
    refine lv_aload_n S.1 S.2.1 dL_act_148 rfl (lv_at hl 0 rfl) ?_
    refine lv_iload_n S.1 S.2.1 dL_act_149 rfl (lv_at hl 1 rfl) ?_
    refine z_ic S (k := 2) dL_act_150 (by decide) ?_
    refine z_shr S (by omega) (by omega) dL_act_151 ?_
    refine z_ic S (k := 5) dL_act_152 (by decide) ?_
    refine z_rem S (by omega) (by omega) (by omega) dL_act_153 ?_
    refine z_wSW (rest := []) (As := [.ref (o), .int (nI ((y / 2 ^ 2) % 5))]) S hZ hS (c_L_ravel l hl0 g hB z hI (y / 2 ^ 2 % 5) (by omega)) hB ci_L_ravel cv_L_ravel k906 ⟨rfl, rfl, by rw [hR]; exact Nat.le_of_ble_eq_true rfl, by rw [hR]; exact Nat.le_of_ble_eq_true rfl⟩ hP hl.1 rfl (Nat.le_of_ble_eq_true rfl) dL_act_154 ⟨by rw [hR]; exact Nat.le_of_ble_eq_true rfl, by rw [hR]; exact Nat.le_of_ble_eq_true rfl⟩ (fun v9 H1 locs1 hPn hCn hSn => ?_)
    obtain ⟨z9, hPn, han⟩ := hPn
    obtain ⟨a9, rfl, hI9, ha9⟩ := yAn_w hI han
    show W p l e R s m args below meth c H1 locs1 (0 + 1) (0 + 6) Q (F0 m 157 ls [.int (a9)])
    exact z_wiw hQ S (Nat.le_of_ble_eq_true rfl) (Nat.le_of_ble_eq_true rfl) hr hlk (zn_int _) hSn hCn ⟨a9, z9, rfl, hPn, hI9, ha9⟩ dL_act_157
  have t158 : W p l e R s m args below meth c s.heap [] 0 0 Q (F0 m 158 ls []) := by
    refine lv_aload_n S.1 S.2.1 dL_act_158 rfl (lv_at hl 0 rfl) ?_
    refine lv_iload_n S.1 S.2.1 dL_act_159 rfl (lv_at hl 1 rfl) ?_
    refine z_ic S (k := 2) dL_act_160 (by decide) ?_
    refine z_shr S (by omega) (by omega) dL_act_161 ?_
    refine z_ic S (k := 5) dL_act_162 (by decide) ?_
    refine z_rem S (by omega) (by omega) (by omega) dL_act_163 ?_
    refine lv_iload_n S.1 S.2.1 dL_act_164 rfl (lv_at hl 1 rfl) ?_
    refine z_ic S (k := 4) dL_act_165 (by decide) ?_
    refine z_shr S (by omega) (by omega) dL_act_166 ?_
    refine z_ic S (k := 4) dL_act_167 (by decide) ?_
    refine z_rem S (by omega) (by omega) (by omega) dL_act_168 ?_
    refine z_wSW (rest := []) (As := [.ref (o), .int (nI ((y / 2 ^ 2) % 5)), .int (nI ((y / 2 ^ 4) % 4))]) S hZ hS (c_L_repeatLast l hl0 g hB z hI (y / 2 ^ 2 % 5) (by omega) (y / 2 ^ 4 % 4) (by omega)) hB ci_L_repeatLast cv_L_repeatLast k675 ⟨rfl, rfl, by rw [hR]; exact Nat.le_of_ble_eq_true rfl, by rw [hR]; exact Nat.le_of_ble_eq_true rfl⟩ hP hl.1 rfl (Nat.le_of_ble_eq_true rfl) dL_act_169 ⟨by rw [hR]; exact Nat.le_of_ble_eq_true rfl, by rw [hR]; exact Nat.le_of_ble_eq_true rfl⟩ (fun v9 H1 locs1 hPn hCn hSn => ?_)
    obtain ⟨z9, hPn, han⟩ := hPn
    obtain ⟨a9, rfl, hI9, ha9⟩ := yAn_w hI han
    show W p l e R s m args below meth c H1 locs1 (0 + 1) (0 + 6) Q (F0 m 172 ls [.int (a9)])
    exact z_wiw hQ S (Nat.le_of_ble_eq_true rfl) (Nat.le_of_ble_eq_true rfl) hr hlk (zn_int _) hSn hCn ⟨a9, z9, rfl, hPn, hI9, ha9⟩ dL_act_172
  have t173 : W p l e R s m args below meth c s.heap [] 0 0 Q (F0 m 173 ls []) := by
    refine lv_aload_n S.1 S.2.1 dL_act_173 rfl (lv_at hl 0 rfl) ?_
    refine lv_iload_n S.1 S.2.1 dL_act_174 rfl (lv_at hl 1 rfl) ?_
    refine z_ic S (k := 2) dL_act_175 (by decide) ?_
    refine z_shr S (by omega) (by omega) dL_act_176 ?_
    refine z_bi S (k := 12) dL_act_177 (by decide) ?_
    refine z_rem S (by omega) (by omega) (by omega) dL_act_179 ?_
    refine lv_iload_n S.1 S.2.1 dL_act_180 rfl (lv_at hl 1 rfl) ?_
    refine z_ic S (k := 5) dL_act_181 (by decide) ?_
    refine z_shr S (by omega) (by omega) dL_act_182 ?_
    refine z_bi S (k := 17) dL_act_183 (by decide) ?_
    refine z_rem S (by omega) (by omega) (by omega) dL_act_185 ?_
    refine z_wSW (rest := []) (As := [.ref (o), .int (nI ((y / 2 ^ 2) % 12)), .int (nI ((y / 2 ^ 5) % 17))]) S hZ hS (c_L_knot l hl0 g hB z hI (y / 2 ^ 2 % 12) (by omega) (y / 2 ^ 5 % 17) (by omega)) hB ci_L_knot cv_L_knot k684 ⟨rfl, rfl, by rw [hR]; exact Nat.le_of_ble_eq_true rfl, by rw [hR]; exact Nat.le_of_ble_eq_true rfl⟩ hP hl.1 rfl (Nat.le_of_ble_eq_true rfl) dL_act_186 ⟨by rw [hR]; exact Nat.le_of_ble_eq_true rfl, by rw [hR]; exact Nat.le_of_ble_eq_true rfl⟩ (fun v9 H1 locs1 hPn hCn hSn => ?_)
    obtain ⟨z9, hPn, han⟩ := hPn
    obtain ⟨a9, rfl, hI9, ha9⟩ := yAn_w hI han
    show W p l e R s m args below meth c H1 locs1 (0 + 1) (0 + 6) Q (F0 m 189 ls [.int (a9)])
    exact z_wiw hQ S (Nat.le_of_ble_eq_true rfl) (Nat.le_of_ble_eq_true rfl) hr hlk (zn_int _) hSn hCn ⟨a9, z9, rfl, hPn, hI9, ha9⟩ dL_act_189
  have t190 : W p l e R s m args below meth c s.heap [] 0 0 Q (F0 m 190 ls []) := by
    have h64 : y &&& 64 ≤ 64 := Nat.and_le_right
    refine lv_iload_n S.1 S.2.1 dL_act_190 rfl (lv_at hl 1 rfl) ?_
    refine z_bi S (k := 64) dL_act_191 (by decide) ?_
    refine z_and S dL_act_193 ?_
    refine z_ine (tgt := 216) S (by omega) dL_act_194 (by decide) (fun h1 => ?_) (fun h1 => ?_)
    · refine lv_aload_n S.1 S.2.1 dL_act_216 rfl (lv_at hl 0 rfl) ?_
      refine va_ldcS S.1 S.2.1 S.2.2.2.1 hZ.lrx dL_act_217 ?_
      have h48 : y % 3 < zLen 48 := by show y % 3 < 3; omega
      have hc7 := zCh_lt 48 (y % 3)
      refine lv_iload_n S.1 S.2.1 dL_act_219 rfl (lv_at hl 1 rfl) ?_
      refine z_ic S (k := 3) dL_act_220 (by decide) ?_
      refine z_rem S (by omega) (by omega) (by omega) dL_act_221 ?_
      refine z_cV (v := some (.int (nI (zCh 48 (y % 3))))) (rest := [.ref (o)]) (As := [.int (nI (y % 3))]) S hZ hS (c_charAt l g 48 (by decide) (y % 3) h48 (PH := fun _ => True)) ci_J0_charAt_5068e cv_J0_charAt_5068e k878 ⟨rfl, rfl, by rw [hR]; decide, by rw [hR]; decide⟩ trivial (zStrR hZ (by decide : 48 < 49) hS) hl.1 rfl (Nat.le_of_ble_eq_true rfl) dL_act_222 ⟨by rw [hR]; decide, by rw [hR]; decide⟩ rfl ?_
      refine z_wSW (rest := []) (As := [.ref (o), .int (nI (zCh 48 (y % 3)))]) S hZ hS (c_L_mend l hl0 g hB z hI (zCh 48 (y % 3)) (by omega)) hB ci_L_mend cv_L_mend k925 ⟨rfl, rfl, by rw [hR]; exact Nat.le_of_ble_eq_true rfl, by rw [hR]; exact Nat.le_of_ble_eq_true rfl⟩ hP hl.1 rfl (Nat.le_of_ble_eq_true rfl) dL_act_225 ⟨by rw [hR]; exact Nat.le_of_ble_eq_true rfl, by rw [hR]; exact Nat.le_of_ble_eq_true rfl⟩ (fun v9 H1 locs1 hPn hCn hSn => ?_)
      obtain ⟨z9, hPn, han⟩ := hPn
      obtain ⟨a9, rfl, hI9, ha9⟩ := yAn_w hI han
      show W p l e R s m args below meth c H1 locs1 (0 + 1) (0 + 6) Q (F0 m 228 ls [.int (a9)])
      exact z_wiw hQ S (Nat.le_of_ble_eq_true rfl) (Nat.le_of_ble_eq_true rfl) hr hlk (zn_int _) hSn hCn ⟨a9, z9, rfl, hPn, hI9, ha9⟩ dL_act_228
    · refine lv_aload_n S.1 S.2.1 dL_act_197 rfl (lv_at hl 0 rfl) ?_
      refine lv_iload_n S.1 S.2.1 dL_act_198 rfl (lv_at hl 1 rfl) ?_
      refine z_ic S (k := 2) dL_act_199 (by decide) ?_
      refine z_shr S (by omega) (by omega) dL_act_200 ?_
      refine z_bi S (k := 12) dL_act_201 (by decide) ?_
      refine z_rem S (by omega) (by omega) (by omega) dL_act_203 ?_
      refine lv_iload_n S.1 S.2.1 dL_act_204 rfl (lv_at hl 1 rfl) ?_
      refine z_ic S (k := 5) dL_act_205 (by decide) ?_
      refine z_shr S (by omega) (by omega) dL_act_206 ?_
      refine z_bi S (k := 16) dL_act_207 (by decide) ?_
      refine z_rem S (by omega) (by omega) (by omega) dL_act_209 ?_
      refine z_wSW (rest := []) (As := [.ref (o), .int (nI ((y / 2 ^ 2) % 12)), .int (nI ((y / 2 ^ 5) % 16))]) S hZ hS (c_L_untie l hl0 g hB z hI (y / 2 ^ 2 % 12) (by omega) (y / 2 ^ 5 % 16) (by omega)) hB ci_L_untie cv_L_untie k915 ⟨rfl, rfl, by rw [hR]; exact Nat.le_of_ble_eq_true rfl, by rw [hR]; exact Nat.le_of_ble_eq_true rfl⟩ hP hl.1 rfl (Nat.le_of_ble_eq_true rfl) dL_act_210 ⟨by rw [hR]; exact Nat.le_of_ble_eq_true rfl, by rw [hR]; exact Nat.le_of_ble_eq_true rfl⟩ (fun v9 H1 locs1 hPn hCn hSn => ?_)
      obtain ⟨z9, hPn, han⟩ := hPn
      obtain ⟨a9, rfl, hI9, ha9⟩ := yAn_w hI han
      show W p l e R s m args below meth c H1 locs1 (0 + 1) (0 + 6) Q (F0 m 213 ls [.int (a9)])
      refine lv_goto (tgt := 228) S.1 S.2.1 dL_act_213 (by decide) ?_
      exact z_wiw hQ S (Nat.le_of_ble_eq_true rfl) (Nat.le_of_ble_eq_true rfl) hr hlk (zn_int _) hSn hCn ⟨a9, z9, rfl, hPn, hI9, ha9⟩ dL_act_228
  have t229 : W p l e R s m args below meth c s.heap [] 0 0 Q (F0 m 229 ls []) := by
    refine lv_aload_n S.1 S.2.1 dL_act_229 rfl (lv_at hl 0 rfl) ?_
    refine va_gets (A := zA B) S.1 S.2.1 hZ.txZ hS S.2.2.2.1 (S.2.2.2.2 _ k934) (fun _ h => h) dL_act_230 ?_
    refine lv_iload_n S.1 S.2.1 dL_act_233 rfl (lv_at hl 1 rfl) ?_
    refine va_gets (A := zA B) S.1 S.2.1 hZ.txZ hS S.2.2.2.1 (S.2.2.2.2 _ k934) (fun _ h => h) dL_act_234 ?_
    refine va_tlen (A := zA B) (v := nI 31) S.1 S.2.1 hZ.txT hS rfl dL_act_237 ?_
    refine z_rem S (by omega) (by omega) (by omega) dL_act_238 ?_
    refine vb_tq (A := zA B) (v := .ref (g.2 2 (17 + y % 31))) S.1 S.2.1 hZ.txT hS (vp_in_nI (by omega) (by decide)) (by rw [nI_clamp (by omega)]) dL_act_239 ?_
    refine z_w1S (v0 := some (.ref (o))) (rest := []) (As := [.ref (o), .ref (g.2 2 (17 + y % 31))]) S hZ hS (c_L_write l hl0 g hB z hI.2.1 (y % 31) (by omega)) hB ci_L_write cv_L_write k874 ⟨rfl, rfl, by rw [hR]; exact Nat.le_of_ble_eq_true rfl, by rw [hR]; exact Nat.le_of_ble_eq_true rfl⟩ hP hl.1 rfl (Nat.le_of_ble_eq_true rfl) dL_act_240 ⟨by rw [hR]; exact Nat.le_of_ble_eq_true rfl, by rw [hR]; exact Nat.le_of_ble_eq_true rfl⟩ rfl (fun H1 locs1 hPn hCn hSn => ?_)
    obtain ⟨z8, hP8, hz8, hb8⟩ := hPn
    have hC8 := hCn
    have hS := hSn
    refine z_wSW (rest := []) (As := [.ref (o)]) S hZ hS (c_L_execute l hl0 g hB z8 (yIv_15 hI hz8) (by rw [hz8 11 (by decide)]; exact hI.2.2) (y % 31) (by omega) hb8) hB ci_L_execute cv_L_execute k693 ⟨rfl, rfl, by rw [hR]; exact Nat.le_of_ble_eq_true rfl, by rw [hR]; exact Nat.le_of_ble_eq_true rfl⟩ hP8 hl.1 rfl (Nat.le_of_ble_eq_true rfl) dL_act_243 ⟨by rw [hR]; exact Nat.le_of_ble_eq_true rfl, by rw [hR]; exact Nat.le_of_ble_eq_true rfl⟩ (fun v9 H1 locs1 hPn hCn hSn => ?_)
    obtain ⟨z9, hPn, han⟩ := hPn
    have hCn := hC8.tr hCn
    rcases han with ⟨n9, v2, hn9, rfl, hch⟩ | ⟨rfl, hno, -⟩
    · show W p l e R s m args below meth c H1 locs1 ((0 + 0) + 1) ((0 + 0) + 6) Q (F0 m 246 ls [.int (nI (n9))])
      exact z_wiw hQ S (Nat.le_of_ble_eq_true rfl) (Nat.le_of_ble_eq_true rfl) hr hlk (zn_int _) hSn hCn ⟨_, z9, rfl, hPn, hch.1, fun q => absurd q (zn_neg hn9 (by decide))⟩ dL_act_246
    · show W p l e R s m args below meth c H1 locs1 ((0 + 0) + 1) ((0 + 0) + 6) Q (F0 m 246 ls [.int (-100000000)])
      exact z_wiw hQ S (Nat.le_of_ble_eq_true rfl) (Nat.le_of_ble_eq_true rfl) hr hlk (zn_int _) hSn hCn ⟨_, z9, rfl, hPn, hno.1, fun _ => hno.2.1.trans (hz8 0 (by decide))⟩ dL_act_246
  have t247 : W p l e R s m args below meth c s.heap [] 0 0 Q (F0 m 247 ls []) := by
    have h3 : y &&& 3 ≤ 3 := Nat.and_le_right
    refine lv_iload_n S.1 S.2.1 dL_act_247 rfl (lv_at hl 1 rfl) ?_
    refine z_ic S (k := 3) dL_act_248 (by decide) ?_
    refine z_and S dL_act_249 ?_
    refine z_ine (tgt := 260) S (by omega) dL_act_250 (by decide) (fun h1 => ?_) (fun h1 => ?_)
    · refine lv_iload_n S.1 S.2.1 dL_act_260 rfl (lv_at hl 1 rfl) ?_
      refine z_ic S (k := 3) dL_act_261 (by decide) ?_
      refine z_and S dL_act_262 ?_
      refine z_ic S (k := 1) dL_act_263 (by decide) ?_
      refine z_cne (tgt := 274) S (by omega) (by omega) dL_act_264 (by decide) (fun h2 => ?_) (fun h2 => ?_)
      · refine lv_aload_n S.1 S.2.1 dL_act_274 rfl (lv_at hl 0 rfl) ?_
        by_cases hn : z 12 0 0 2 = 0
        · refine z_w1SW (v0 := some (.int (-100000000))) (rest := []) (As := [.ref (o)]) S hZ hS (c_L_undo_no l hl0 g hB z hv hn) hB ci_L_undo cv_L_undo k832 ⟨rfl, rfl, by rw [hR]; exact Nat.le_of_ble_eq_true rfl, by rw [hR]; exact Nat.le_of_ble_eq_true rfl⟩ hP hl.1 rfl (Nat.le_of_ble_eq_true rfl) dL_act_275 ⟨by rw [hR]; exact Nat.le_of_ble_eq_true rfl, by rw [hR]; exact Nat.le_of_ble_eq_true rfl⟩ rfl (fun H1 locs1 hPn hCn hSn => ?_)
          exact z_wiw hQ S (Nat.le_of_ble_eq_true rfl) (Nat.le_of_ble_eq_true rfl) hr hlk (zn_int _) hSn hCn ⟨_, z, rfl, hPn, hI, fun _ => rfl⟩ dL_act_278
        · have h8 := hI.1.2.2.2.2
          refine z_w1SW (v0 := some (.int (nI (z 12 0 0 2 - 1)))) (rest := []) (As := [.ref (o)]) S hZ hS (c_L_undo l hl0 g hB z hI (by show 1 ≤ z 12 0 0 2; omega)) hB ci_L_undo cv_L_undo k832 ⟨rfl, rfl, by rw [hR]; exact Nat.le_of_ble_eq_true rfl, by rw [hR]; exact Nat.le_of_ble_eq_true rfl⟩ hP hl.1 rfl (Nat.le_of_ble_eq_true rfl) dL_act_275 ⟨by rw [hR]; exact Nat.le_of_ble_eq_true rfl, by rw [hR]; exact Nat.le_of_ble_eq_true rfl⟩ rfl (fun H1 locs1 hPn hCn hSn => ?_)
          obtain ⟨z9, hPn, hud⟩ := hPn
          exact z_wiw hQ S (Nat.le_of_ble_eq_true rfl) (Nat.le_of_ble_eq_true rfl) hr hlk (zn_int _) hSn hCn ⟨_, z9, rfl, hPn, hud.1, fun q => absurd q (zn_neg (by omega) (by decide))⟩ dL_act_278
      · refine lv_aload_n S.1 S.2.1 dL_act_267 rfl (lv_at hl 0 rfl) ?_
        have h11 := hI.2.2
        by_cases hn : z 11 0 0 3 = 0
        · refine z_w1SW (v0 := some (.int (-100000000))) (rest := []) (As := [.ref (o)]) S hZ hS (c_L_restore_no l hl0 g hB z hv hn) hB ci_L_restore cv_L_restore k863 ⟨rfl, rfl, by rw [hR]; exact Nat.le_of_ble_eq_true rfl, by rw [hR]; exact Nat.le_of_ble_eq_true rfl⟩ hP hl.1 rfl (Nat.le_of_ble_eq_true rfl) dL_act_268 ⟨by rw [hR]; exact Nat.le_of_ble_eq_true rfl, by rw [hR]; exact Nat.le_of_ble_eq_true rfl⟩ rfl (fun H1 locs1 hPn hCn hSn => ?_)
          refine lv_goto (tgt := 278) S.1 S.2.1 dL_act_271 (by decide) ?_
          exact z_wiw hQ S (Nat.le_of_ble_eq_true rfl) (Nat.le_of_ble_eq_true rfl) hr hlk (zn_int _) hSn hCn ⟨_, z, rfl, hPn, hI, fun _ => rfl⟩ dL_act_278
        · have h40 := hI.1.2.1.2.1.1
          refine z_w1SW (v0 := some (.int (nI (z 2 2 0 3)))) (rest := []) (As := [.ref (o)]) S hZ hS (c_L_restore l hl0 g hB z hI (by omega)) hB ci_L_restore cv_L_restore k863 ⟨rfl, rfl, by rw [hR]; exact Nat.le_of_ble_eq_true rfl, by rw [hR]; exact Nat.le_of_ble_eq_true rfl⟩ hP hl.1 rfl (Nat.le_of_ble_eq_true rfl) dL_act_268 ⟨by rw [hR]; exact Nat.le_of_ble_eq_true rfl, by rw [hR]; exact Nat.le_of_ble_eq_true rfl⟩ rfl (fun H1 locs1 hPn hCn hSn => ?_)
          obtain ⟨z9, hPn, hI9, -⟩ := hPn
          refine lv_goto (tgt := 278) S.1 S.2.1 dL_act_271 (by decide) ?_
          exact z_wiw hQ S (Nat.le_of_ble_eq_true rfl) (Nat.le_of_ble_eq_true rfl) hr hlk (zn_int _) hSn hCn ⟨_, z9, rfl, hPn, hI9, fun q => absurd q (zn_neg (by omega) (by decide))⟩ dL_act_278
    · refine lv_aload_n S.1 S.2.1 dL_act_253 rfl (lv_at hl 0 rfl) ?_
      refine z_w1 (v0 := some (.int (nI (z 0 2 0 3)))) (rest := []) (As := []) S hZ hS (c_saveSnapshot l g hB z hI.1) hB ci_X11_saveSnapshot cv_X11_saveSnapshot k292 ⟨rfl, rfl, by rw [hR]; exact Nat.le_of_ble_eq_true rfl, by rw [hR]; exact Nat.le_of_ble_eq_true rfl⟩ hP (hP.1.recv hZ.1 0 (by decide) rfl rfl rfl) hl.1 rfl (Nat.le_of_ble_eq_true rfl) dL_act_254 ⟨by rw [hR]; exact Nat.le_of_ble_eq_true rfl, by rw [hR]; exact Nat.le_of_ble_eq_true rfl⟩ rfl (fun H1 locs1 hPn hCn hSn => ?_)
      refine lv_goto (tgt := 278) S.1 S.2.1 dL_act_257 (by decide) ?_
      exact z_wiw hQ S (Nat.le_of_ble_eq_true rfl) (Nat.le_of_ble_eq_true rfl) hr hlk (zn_int _) hSn hCn ⟨_, _, rfl, hPn, ySv_iv hI, fun _ => rfl⟩ dL_act_278
  rcases (show k = 0 ∨ k = 1 ∨ k = 2 ∨ k = 3 ∨ k = 4 ∨ k = 5 ∨ k = 6 ∨ k = 7 ∨ k = 8 ∨ k = 9 ∨ k = 10 ∨ k = 11 ∨ k = 12 ∨ k = 13 ∨ k = 14 ∨ k = 15 by omega) with hk9 | hk9 | hk9 | hk9 | hk9 | hk9 | hk9 | hk9 | hk9 | hk9 | hk9 | hk9 | hk9 | hk9 | hk9 | hk9
  · subst hk9
    exact lv_tableIn (off := 73) (tgt := 88) S.1 S.2.1 dL_act_15 (by decide) (by decide) (by decide) (by decide) t88
  · subst hk9
    exact lv_tableIn (off := 89) (tgt := 104) S.1 S.2.1 dL_act_15 (by decide) (by decide) (by decide) (by decide) t104
  · subst hk9
    exact lv_tableIn (off := 89) (tgt := 104) S.1 S.2.1 dL_act_15 (by decide) (by decide) (by decide) (by decide) t104
  · subst hk9
    exact lv_tableIn (off := 89) (tgt := 104) S.1 S.2.1 dL_act_15 (by decide) (by decide) (by decide) (by decide) t104
  · subst hk9
    exact lv_tableIn (off := 95) (tgt := 110) S.1 S.2.1 dL_act_15 (by decide) (by decide) (by decide) (by decide) t110
  · subst hk9
    exact lv_tableIn (off := 122) (tgt := 137) S.1 S.2.1 dL_act_15 (by decide) (by decide) (by decide) (by decide) t137
  · subst hk9
    exact lv_tableIn (off := 122) (tgt := 137) S.1 S.2.1 dL_act_15 (by decide) (by decide) (by decide) (by decide) t137
  · subst hk9
    exact lv_tableIn (off := 122) (tgt := 137) S.1 S.2.1 dL_act_15 (by decide) (by decide) (by decide) (by decide) t137
  · subst hk9
    exact lv_tableIn (off := 133) (tgt := 148) S.1 S.2.1 dL_act_15 (by decide) (by decide) (by decide) (by decide) t148
  · subst hk9
    exact lv_tableIn (off := 143) (tgt := 158) S.1 S.2.1 dL_act_15 (by decide) (by decide) (by decide) (by decide) t158
  · subst hk9
    exact lv_tableIn (off := 158) (tgt := 173) S.1 S.2.1 dL_act_15 (by decide) (by decide) (by decide) (by decide) t173
  · subst hk9
    exact lv_tableIn (off := 175) (tgt := 190) S.1 S.2.1 dL_act_15 (by decide) (by decide) (by decide) (by decide) t190
  · subst hk9
    exact lv_tableIn (off := 214) (tgt := 229) S.1 S.2.1 dL_act_15 (by decide) (by decide) (by decide) (by decide) t229
  · subst hk9
    exact lv_tableIn (off := 214) (tgt := 229) S.1 S.2.1 dL_act_15 (by decide) (by decide) (by decide) (by decide) t229
  · subst hk9
    exact lv_tableIn (off := 214) (tgt := 229) S.1 S.2.1 dL_act_15 (by decide) (by decide) (by decide) (by decide) t229
  · subst hk9
    exact lv_tableOut (tgt := 247) S.1 S.2.1 dL_act_15 (by decide) (by decide) t247
