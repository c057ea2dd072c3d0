/-! THE CLOTH -/
section ZCP
variable {p : Program} {l : Launch} {e : Env} {R : Room} {s : State} {m : MethodId} {args : Array Value} {below : List Frame} {meth : Method} {c : Code} {H : Heap} {locs : List Loc} {cells slots : Nat} {Q : State → Prop}
variable {cc : ByteArray} {pc nL : Nat} {own : String} {ls : Array Slot} {rest : List Value} {g : ZG} {B o n o2 n2 : Nat} {T T2 : Nat → ZD} {f f2 : Nat → Nat → Nat}
/-- System.arraycopy of one whole row of ints over another of the same length -/
theorem z_copy (S : CallFix p m c cc nL s args GW own) (hsize : ls.size = nL) (hK : zT g s) (hP : zPm g o n T f H) (hP2 : zPm g o2 n2 T2 f2 H) (hS : va_S (zA B) s.heap H locs) (hB : B ≤ o) (k : Nat) (hk : k < n) {a : Nat} (ha : o + k = a) (k2 : Nat) (hk2 : k2 < n2) {a2 : Nat} (ha2 : o2 + k2 = a2) {N : Nat} {q q2 : Nat → Nat} (hT : T k g (o + k) (f k) = .inl (g.2 0 0, N, .inl (fun j => nI (q j)))) (hT2 : T2 k2 g (o2 + k2) (f2 k2) = .inl (g.2 0 0, N, .inl (fun j => nI (q2 j)))) (r : Nat → Nat) (hTr : T k g (o + k) r = .inl (g.2 0 0, N, .inl (fun j => nI (q2 j)))) (hN : N < 2 ^ 31) {index : Nat} (hlink : Cond.methodLink own index arraycopyName ∈ GW) (hw : Cond.native arraycopyName ∈ GW ∧ Cond.static arraycopyName ∈ GW ∧ Cond.initialized "java/lang/System" ∈ GW) (hframes : 1 ≤ R.frames) (hlocals : (rest.map fun v => v.category).sum + (nativeFrameWords "java/lang/System" "arraycopy" 5 + 11) ≤ R.locals) (hdg : decode cc pc = .ok (.invokestatic index, 3))
    (kk : ∀ (H1 : Heap) (locs1 : List Loc), zPm g o n T (va_up f k r) H1 → zCh1 a 1 H H1 → va_S (zA B) s.heap H1 locs1 → W p l e R s m args below meth c H1 locs1 cells slots Q (F0 m (pc + 3) ls rest)) : W p l e R s m args below meth c H locs cells slots Q (F0 m pc ls (.int (nI N) :: .int (nI 0) :: .ref a :: .int (nI 0) :: .ref a2 :: rest)) := by
  have hc1 : H[a]? = some (vp_cell (g.2 0 0) (N, .inl (fun j => nI (q j)))) := by have h := hP k hk; rw [hT, ha] at h; exact h
  have hc0 : H[a2]? = some (vp_cell (g.2 0 0) (N, .inl (fun j => nI (q2 j)))) := by have h := hP2 k2 hk2; rw [hT2, ha2] at h; exact h
  obtain ⟨-, k0, hk0, cm0, hkk0⟩ := (hK.2 0 _ rfl).1 N (fun j => .int (nI (q2 j)))
  have z0 : ¬ nI 0 < 0 := nI_pos (by omega)
  have zN : ¬ nI N < 0 := nI_pos hN
  have c0 : (nI 0).toNatClampNeg = 0 := nI_clamp (by omega)
  have cN : (nI N).toNatClampNeg = N := nI_clamp hN
  intro T0 hT0 X
  obtain ⟨vm', X', step⟩ := X.arraycopy S.1 S.2.2.2.1 (S.2.2.2.2 _ hlink) (S.2.2.2.2 _ hw.1) (S.2.2.2.2 _ hw.2.1) (S.2.2.2.2 _ hw.2.2) (src := a2) (dst := a) (cs := vp_cell (g.2 0 0) (N, .inl (fun j => nI (q2 j)))) (cd := vp_cell (g.2 0 0) (N, .inl (fun j => nI (q j)))) (srcPos := nI 0) (destPos := nI 0) (n := nI N) (by rw [hT0]; exact hc0) (by rw [hT0]; exact hc1)
    (fun _ h => by cases h) (fun _ h => by cases h) (fun h => by cases h) (fun h => by cases h) hk0 hk0 hkk0 hkk0 (by simp [refKind]) z0 z0 zN
    (by rw [nI_toInt (by omega), nI_toInt hN]; show ¬ _ > ((arrV _ N _).slots.size : Int); rw [arrV_size]; omega)
    (by rw [nI_toInt (by omega), nI_toInt hN]; show ¬ _ > ((arrV _ N _).slots.size : Int); rw [arrV_size]; omega)
    (fun vm₁ _ i hi => by
      rw [cN] at hi
      have e : (vp_cell (g.2 0 0) (N, .inl (fun j => nI (q2 j)))).slots.getD ((nI 0).toNatClampNeg + i) .null = .int (nI (q2 i)) := by
        show (arrV (g.2 0 0) N (fun j => .int (nI (q2 j)))).slots.getD _ _ = _
        rw [c0, Nat.zero_add, Array.getD_eq_getD_getElem?, arrV_read _ _ hi]
        rfl
      refine ⟨?_, ?_⟩
      · rw [e]; rfl
      · rw [e]; exact trivial)
    (g := F0 m pc ls (.int (nI N) :: .int (nI 0) :: .ref a :: .int (nI 0) :: .ref a2 :: rest)) rfl (by rw [S.2.2.1]; exact hsize) (rest := rest) rfl (by rw [S.2.1]; exact hdg) hframes (by show 2 * 0 + _ + _ ≤ _; omega)
  have e1 : copied (vp_cell (g.2 0 0) (N, .inl (fun j => nI (q2 j)))) (vp_cell (g.2 0 0) (N, .inl (fun j => nI (q j)))) (nI 0) (nI 0) (nI N) = vp_cell (g.2 0 0) (N, .inl (fun j => nI (q2 j))) := by
    have e2 := va_copied (n0 := N) (n1 := N) (sp := (nI 0).toNatClampNeg) (dp := (nI 0).toNatClampNeg) (n := (nI N).toNatClampNeg) (fun z => .int z) (g.2 0 0) (g.2 0 0) (fun j => nI (q2 j)) (fun j => nI (q j)) (by rw [c0, cN]; omega)
    refine Eq.trans e2 ?_
    rw [vp_cell_i]
    refine arrV_cg (fun j hj => ?_)
    rw [c0, cN]
    simp only [va_cpy]
    rw [if_pos ⟨Nat.zero_le _, by omega⟩]
    simp
  rw [e1] at X' step
  have hl : a < H.size := (Array.getElem?_eq_some_iff.mp hc1).1
  have hheap : ((T0.setVm vm').setCell a (vp_cell (g.2 0 0) (N, .inl (fun j => nI (q2 j))))).heap = H.setIfInBounds a (vp_cell (g.2 0 0) (N, .inl (fun j => nI (q2 j)))) := by rw [← hT0]; rfl
  have oq : ∀ q9 : Nat, q9 ≠ a → (H.setIfInBounds a (vp_cell (g.2 0 0) (N, .inl (fun j => nI (q2 j)))))[q9]? = H[q9]? := fun q9 hq => by simp [Array.getElem?_setIfInBounds, Ne.symm hq]
  have hC : zCh1 a 1 H (H.setIfInBounds a (vp_cell (g.2 0 0) (N, .inl (fun j => nI (q2 j))))) := ⟨by simp, fun q9 _ ho => oq q9 (ho.elim Nat.ne_of_lt (fun h => Nat.ne_of_gt h))⟩
  obtain ⟨t, a1, b1⟩ := kk _ _ (hP.set (r := r) (by rw [hTr, ha]; show (H.setIfInBounds a _)[a]? = some _; simp [Array.getElem?_setIfInBounds, hl]) (by rw [ha]; exact oq)) hC (hC.va (by omega) hS (fun l9 hl9 => by
      obtain ⟨z, -, hz⟩ := List.mem_map.mp hl9
      rw [← hz]
      show B ≤ a
      omega)) _ hheap X'
  exact ⟨t, step t a1, b1⟩
end ZCP
/-- what holds of the cloth at all times -/
def zKo (f : Nat → Nat → Nat) : Prop := f 0 3 ≤ 40 ∧ ∀ i, f 1 i < 65536 ∧ f 2 i ≤ 7 ∧ f 3 i < 65536
theorem zKo.c {f : Nat → Nat → Nat} (h : zKo f) : f 0 3 < 2 ^ 31 := by have := h.1; omega
theorem zKo.m {f : Nat → Nat → Nat} (h : zKo f) (i : Nat) : f 1 i < 2 ^ 31 := by have := (h.2 i).1; omega
theorem zKo.l {f : Nat → Nat → Nat} (h : zKo f) (i : Nat) : f 2 i < 2 ^ 31 := by have := (h.2 i).2.1; omega
theorem zKo.k {f : Nat → Nat → Nat} (h : zKo f) (i : Nat) : f 3 i < 2 ^ 31 := by have := (h.2 i).2.2; omega
def zRw (f : Nat → Nat → Nat) (i j : Nat) : Bool := decide (f 1 i = f 1 j ∧ f 2 i = f 2 j)
def zRs (f : Nat → Nat → Nat) (s t n : Nat) : Bool := zAll (fun i => zRw f (s + i) (t + i)) n
def zOv (f : Nat → Nat → Nat) (q : Nat) : Bool := zAll (fun i => zRw f (q + i) i) (f 0 3 - q)
def zCl (f : Nat → Nat → Nat) (r : Nat) : Nat := zSum (fun i => (zRs f i (f 0 3 - r) r).toNat) (f 0 3 - r + 1)
def zNw (f : Nat → Nat → Nat) (i : Nat) : Bool := zAll (fun j => !zRw f j i) i
def zCd (f : Nat → Nat → Nat) : Nat := zSum (fun i => (zNw f i).toNat) (f 0 3)
def zLr (f : Nat → Nat → Nat) (c : Nat) : Nat → Nat × Nat
  | 0 => (0, 0)
  | n + 1 => let r := if zBt (f 1 n) c = true then (zLr f c n).2 + 1 else 0; (max (zLr f c n).1 r, r)
def zSy (f : Nat → Nat → Nat) : Bool := zAll (fun i => zRw f i (f 0 3 - 1 - i)) (f 0 3)
def zKc (f : Nat → Nat → Nat) : Nat := zSum (fun i => zBc (f 3 i)) (f 0 3)
def zRc (f : Nat → Nat → Nat) : Nat := zSum (fun i => zBc (f 1 i)) (f 0 3)
/-- a row is appended -/
def zAp (f : Nat → Nat → Nat) (a b : Nat) : Nat → Nat → Nat := va_up (va_up (va_up (va_up f 1 (va_up (f 1) (f 0 3) a)) 2 (va_up (f 2) (f 0 3) b)) 3 (va_up (f 3) (f 0 3) 0)) 0 (va_up (f 0) 3 (f 0 3 + 1))
/-- n rows are appended, each a copy of the one r above -/
def zCp (f : Nat → Nat → Nat) (r : Nat) : Nat → Nat → Nat → Nat
  | 0 => f
  | n + 1 => zAp (zCp f r n) (zCp f r n 1 (zCp f r n 0 3 - r)) (zCp f r n 2 (zCp f r n 0 3 - r))
theorem zAp_c (f : Nat → Nat → Nat) (a b : Nat) : zAp f a b 0 3 = f 0 3 + 1 := by simp [zAp, va_up]
theorem zCp_c (f : Nat → Nat → Nat) (r : Nat) : ∀ n, zCp f r n 0 3 = f 0 3 + n
  | 0 => rfl
  | n + 1 => by rw [zCp, zAp_c, zCp_c f r n]; omega
theorem zAp_ok {f : Nat → Nat → Nat} (h : zKo f) {a b : Nat} (ha : a < 65536) (hb : b ≤ 7) (hc : f 0 3 < 40) : zKo (zAp f a b) := by
  refine ⟨by rw [zAp_c]; omega, fun i => ?_⟩
  have h2 := h.2 i
  refine ⟨?_, ?_, ?_⟩
  · show (if i = f 0 3 then a else f 1 i) < 65536
    split <;> omega
  · show (if i = f 0 3 then b else f 2 i) ≤ 7
    split <;> omega
  · show (if i = f 0 3 then 0 else f 3 i) < 65536
    split <;> omega
theorem zCp_ok {f : Nat → Nat → Nat} (h : zKo f) (r : Nat) : ∀ n, f 0 3 + n ≤ 40 → zKo (zCp f r n)
  | 0, _ => h
  | n + 1, hn => by
    have h1 := zCp_ok h r n (by omega)
    exact zAp_ok h1 (h1.2 _).1 (h1.2 _).2.1 (by rw [zCp_c]; omega)
theorem zBc_le (x : Nat) : zBc x ≤ 63 := Nat.and_le_right
theorem zSum_mono {q : Nat → Nat} {i n : Nat} (h : i ≤ n) : zSum q i ≤ zSum q n := by
  induction n with
  | zero => rw [Nat.le_zero.mp h]; exact Nat.le_refl _
  | succ n ih =>
    rcases Nat.lt_or_ge i (n + 1) with z | z
    · have := ih (by omega); rw [zSum]; omega
    · rw [show i = n + 1 by omega]; exact Nat.le_refl _
theorem ci_J6_bitCount_0f7a4 : zCI yJ6_bitCount_0f7a4 cJ6_bitCount_0f7a4 1 (some .int) 1 := ⟨k618, k22, by decide +kernel⟩
theorem cv_J6_bitCount_0f7a4 : Cond.static yJ6_bitCount_0f7a4 ∈ GW := k617
set_option maxRecDepth 20000 in
set_option maxHeartbeats 4000000 in
/-- Integer.bitCount(x) -/
theorem c_bitCount (l : Launch) (g : ZG) {B : Nat} (x : Nat) (hx : x < 2 ^ 31) {PH : Heap → Prop} : Met l yJ6_bitCount_0f7a4 (.code yJ6_bitCount_0f7a4 cJ6_bitCount_0f7a4 1 (some .int) :: GW) { frames := 0, cells := 0, slots := 0, locals := 0 } (va_Pc [.int (nI x)] (zPre g B (fun H => PH H))) (zR (some (.int (nI (zBc x))))) 0 0 (fun _ => False) := by
  refine zMet (by decide) (Nat.le_of_ble_eq_true rfl) ?_
  intro p e R s m args below meth c Q ls hR hargs hQ S hr hlk hP hZ hS hnm hl
  have hl : lv_has ls 1 [(0, .int (nI (x)))] := hl
  have ea := @Nat.and_le_left
  refine lv_iload_n S.1 S.2.1 dJ6_bitCount_0f7a4_0 rfl (lv_at hl 0 rfl) ?_
  refine lv_iload_n S.1 S.2.1 dJ6_bitCount_0f7a4_1 rfl (lv_at hl 0 rfl) ?_
  refine z_ic S (k := 1) dJ6_bitCount_0f7a4_2 (by decide) ?_
  refine z_ushr S (by omega) (by omega) dJ6_bitCount_0f7a4_3 ?_
  refine lv_ldcw S.1 S.2.1 S.2.2.2.1 (S.2.2.2.2 _ k619) dJ6_bitCount_0f7a4_4 ?_
  rw [show (1431655765 : Int32) = nI 1431655765 from rfl]
  refine z_and S dJ6_bitCount_0f7a4_7 ?_
  refine z_sub S (Nat.le_trans Nat.and_le_left (Nat.div_le_self _ _)) dJ6_bitCount_0f7a4_8 ?_
  generalize hd_a : x - ((x / 2 ^ 1) &&& 1431655765) = a
  have hb_a : a ≤ x := by omega
  refine lv_istore_n (lv' := [(0, .int (nI (a)))]) S.1 S.2.1 dJ6_bitCount_0f7a4_9 rfl hl (by decide) rfl (fun ls hl => ?_)
  refine lv_iload_n S.1 S.2.1 dJ6_bitCount_0f7a4_10 rfl (lv_at hl 0 rfl) ?_
  refine lv_ldcw S.1 S.2.1 S.2.2.2.1 (S.2.2.2.2 _ k620) dJ6_bitCount_0f7a4_11 ?_
  rw [show (858993459 : Int32) = nI 858993459 from rfl]
  refine z_and S dJ6_bitCount_0f7a4_14 ?_
  refine lv_iload_n S.1 S.2.1 dJ6_bitCount_0f7a4_15 rfl (lv_at hl 0 rfl) ?_
  refine z_ic S (k := 2) dJ6_bitCount_0f7a4_16 (by decide) ?_
  refine z_ushr S (by omega) (by omega) dJ6_bitCount_0f7a4_17 ?_
  refine lv_ldcw S.1 S.2.1 S.2.2.2.1 (S.2.2.2.2 _ k620) dJ6_bitCount_0f7a4_18 ?_
  rw [show (858993459 : Int32) = nI 858993459 from rfl]
  refine z_and S dJ6_bitCount_0f7a4_21 ?_
  refine z_add S dJ6_bitCount_0f7a4_22 ?_
  generalize hd_b : (a &&& 858993459) + ((a / 2 ^ 2) &&& 858993459) = b
  have hb_b : b ≤ 1717986918 := by have h1 := @Nat.and_le_right a 858993459; have h2 := @Nat.and_le_right (a / 2 ^ 2) 858993459; omega
  refine lv_istore_n (lv' := [(0, .int (nI (b)))]) S.1 S.2.1 dJ6_bitCount_0f7a4_23 rfl hl (by decide) rfl (fun ls hl => ?_)
  refine lv_iload_n S.1 S.2.1 dJ6_bitCount_0f7a4_24 rfl (lv_at hl 0 rfl) ?_
  refine lv_iload_n S.1 S.2.1 dJ6_bitCount_0f7a4_25 rfl (lv_at hl 0 rfl) ?_
  refine z_ic S (k := 4) dJ6_bitCount_0f7a4_26 (by decide) ?_
  refine z_ushr S (by omega) (by omega) dJ6_bitCount_0f7a4_27 ?_
  refine z_add S dJ6_bitCount_0f7a4_28 ?_
  refine lv_ldcw S.1 S.2.1 S.2.2.2.1 (S.2.2.2.2 _ k621) dJ6_bitCount_0f7a4_29 ?_
  rw [show (252645135 : Int32) = nI 252645135 from rfl]
  refine z_and S dJ6_bitCount_0f7a4_32 ?_
  generalize hd_c1 : (b + (b / 2 ^ 4)) &&& 252645135 = c1
  have hb_c1 : c1 ≤ 252645135 := by rw [← hd_c1]; exact Nat.and_le_right
  refine lv_istore_n (lv' := [(0, .int (nI (c1)))]) S.1 S.2.1 dJ6_bitCount_0f7a4_33 rfl hl (by decide) rfl (fun ls hl => ?_)
  refine lv_iload_n S.1 S.2.1 dJ6_bitCount_0f7a4_34 rfl (lv_at hl 0 rfl) ?_
  refine lv_iload_n S.1 S.2.1 dJ6_bitCount_0f7a4_35 rfl (lv_at hl 0 rfl) ?_
  refine z_bi S (k := 8) dJ6_bitCount_0f7a4_36 (by decide) ?_
  refine z_ushr S (by omega) (by omega) dJ6_bitCount_0f7a4_38 ?_
  refine z_add S dJ6_bitCount_0f7a4_39 ?_
  generalize hd_d1 : c1 + (c1 / 2 ^ 8) = d1
  have hb_d1 : d1 ≤ 505290270 := by omega
  refine lv_istore_n (lv' := [(0, .int (nI (d1)))]) S.1 S.2.1 dJ6_bitCount_0f7a4_40 rfl hl (by decide) rfl (fun ls hl => ?_)
  refine lv_iload_n S.1 S.2.1 dJ6_bitCount_0f7a4_41 rfl (lv_at hl 0 rfl) ?_
  refine lv_iload_n S.1 S.2.1 dJ6_bitCount_0f7a4_42 rfl (lv_at hl 0 rfl) ?_
  refine z_bi S (k := 16) dJ6_bitCount_0f7a4_43 (by decide) ?_
  refine z_ushr S (by omega) (by omega) dJ6_bitCount_0f7a4_45 ?_
  refine z_add S dJ6_bitCount_0f7a4_46 ?_
  refine lv_istore_n (lv' := [(0, .int (nI (d1 + (d1 / 2 ^ 16))))]) S.1 S.2.1 dJ6_bitCount_0f7a4_47 rfl hl (by decide) rfl (fun ls hl => ?_)
  refine lv_iload_n S.1 S.2.1 dJ6_bitCount_0f7a4_48 rfl (lv_at hl 0 rfl) ?_
  refine z_bi S (k := 63) dJ6_bitCount_0f7a4_49 (by decide) ?_
  refine z_and S dJ6_bitCount_0f7a4_51 ?_
  exact z_ri hQ S hr hlk (zn_int _) (by rw [← hd_d1, ← hd_c1, ← hd_b, ← hd_a]; rfl) dJ6_bitCount_0f7a4_52
theorem ci_X1_isColumn : zCI yX1_isColumn cX1_isColumn 1 (some .boolean) 1 := ⟨k409, k4, by decide +kernel⟩
theorem cv_X1_isColumn : Cond.static yX1_isColumn ∈ GW := k408
set_option maxRecDepth 20000 in
set_option maxHeartbeats 4000000 in
/-- Cloth.isColumn(i) -/
theorem c_X1_isColumn (l : Launch) (g : ZG) {B : Nat} (i : Nat) (hi : i < 2 ^ 31) {PH : Heap → Prop} : Met l yX1_isColumn (.code yX1_isColumn cX1_isColumn 1 (some .boolean) :: GW) { frames := 0, cells := 0, slots := 0, locals := 0 } (va_Pc [.int (nI i)] (zPre g B (fun H => PH H))) (zR (some (.int (nI (decide (i < 16)).toNat)))) 0 0 (fun _ => False) := by
  refine zMet (by decide) (Nat.le_of_ble_eq_true rfl) ?_
  intro p e R s m args below meth c Q ls hR hargs hQ S hr hlk hP hZ hS hnm hl
  have hl : lv_has ls 1 [(0, .int (nI (i)))] := hl
  refine lv_iload_n S.1 S.2.1 dX1_isColumn_0 rfl (lv_at hl 0 rfl) ?_
  refine z_ilt (tgt := 14) S hi dX1_isColumn_1 (by decide) ?_
  refine lv_iload_n S.1 S.2.1 dX1_isColumn_4 rfl (lv_at hl 0 rfl) ?_
  refine z_bi S (k := 16) dX1_isColumn_5 (by decide) ?_
  refine z_cge (tgt := 14) S hi (by omega) dX1_isColumn_7 (by decide) (fun h => ?_) (fun h => ?_)
  · refine z_ic S (k := 0) dX1_isColumn_14 (by decide) ?_
    exact z_ri hQ S hr hlk rfl (by rw [decide_eq_false (by omega)]; rfl) dX1_isColumn_15
  · refine z_ic S (k := 1) dX1_isColumn_10 (by decide) ?_
    refine lv_goto (tgt := 15) S.1 S.2.1 dX1_isColumn_11 (by decide) ?_
    exact z_ri hQ S hr hlk rfl (by rw [decide_eq_true (by omega)]; rfl) dX1_isColumn_15
theorem ci_X1_has : zCI yX1_has cX1_has 2 (some .boolean) 1 := ⟨k406, k4, by decide +kernel⟩
theorem cv_X1_has : Cond.instanceMethod yX1_has ∈ GW ∧ Cond.selects (yX1_has).cls yX1_has yX1_has ∈ GW := ⟨k404, k405⟩
set_option maxRecDepth 20000 in
set_option maxHeartbeats 4000000 in
/-- Cloth.has(i) -/
theorem c_X1_has (l : Launch) (g : ZG) {B : Nat} {o : Nat} (f : Nat → Nat → Nat) (hw : zKo f) (i : Nat) (hi : i < 2 ^ 31) : Met l yX1_has (.code yX1_has cX1_has 2 (some .boolean) :: GW) { frames := 0, cells := 0, slots := 0, locals := 0 } (va_Pc [.ref o, .int (nI i)] (zPre g B (fun H => zPm g o 4 TC f H))) (zR (some (.int (nI (decide (i < f 0 3)).toNat)))) 0 0 (fun _ => False) := by
  refine zMet (by decide) (Nat.le_of_ble_eq_true rfl) ?_
  intro p e R s m args below meth c Q ls hR hargs hQ S hr hlk hP hZ hS hnm hl
  have hl : lv_has ls 2 [(0, .ref (o)), (1, .int (nI (i)))] := hl
  refine lv_iload_n S.1 S.2.1 dX1_has_0 rfl (lv_at hl 1 rfl) ?_
  refine z_ilt (tgt := 16) S hi dX1_has_1 (by decide) ?_
  refine lv_iload_n S.1 S.2.1 dX1_has_4 rfl (lv_at hl 1 rfl) ?_
  refine lv_aload_n S.1 S.2.1 dX1_has_5 rfl (lv_at hl 0 rfl) ?_
  refine z_get (v := .int (nI (f 0 3))) S hZ.1 hP 0 (by decide) rfl rfl rfl 3 (by decide) rfl k87 dX1_has_6 ?_
  refine z_cge (tgt := 16) S hi hw.c dX1_has_9 (by decide) (fun h => ?_) (fun h => ?_)
  · refine z_ic S (k := 0) dX1_has_16 (by decide) ?_
    exact z_ri hQ S hr hlk rfl (by rw [decide_eq_false (by omega)]; rfl) dX1_has_17
  · refine z_ic S (k := 1) dX1_has_12 (by decide) ?_
    refine lv_goto (tgt := 17) S.1 S.2.1 dX1_has_13 (by decide) ?_
    exact z_ri hQ S hr hlk rfl (by rw [decide_eq_true (by omega)]; rfl) dX1_has_17
theorem ci_X1_hasCell : zCI yX1_hasCell cX1_hasCell 3 (some .boolean) 2 := ⟨k402, k4, by decide +kernel⟩
theorem cv_X1_hasCell : Cond.instanceMethod yX1_hasCell ∈ GW ∧ Cond.selects (yX1_hasCell).cls yX1_hasCell yX1_hasCell ∈ GW := ⟨k400, k401⟩
set_option maxRecDepth 20000 in
set_option maxHeartbeats 4000000 in
/-- Cloth.hasCell(i, j) -/
theorem c_X1_hasCell (l : Launch) (g : ZG) {B : Nat} {o : Nat} (f : Nat → Nat → Nat) (hw : zKo f) (i j : Nat) (hi : i < 2 ^ 31) (hj : j < 2 ^ 31) : Met l yX1_hasCell (.code yX1_hasCell cX1_hasCell 3 (some .boolean) :: GW) { frames := 1, cells := 0, slots := 0, locals := 21 } (va_Pc [.ref o, .int (nI i), .int (nI j)] (zPre g B (fun H => zPm g o 4 TC f H))) (zR (some (.int (nI (decide (i < f 0 3 ∧ j < 16)).toNat)))) 0 0 (fun _ => False) := by
  refine zMet (by decide) (Nat.le_of_ble_eq_true rfl) ?_
  intro p e R s m args below meth c Q ls hR hargs hQ S hr hlk hP hZ hS hnm hl
  have hl : lv_has ls 3 [(0, .ref (o)), (1, .int (nI (i))), (2, .int (nI (j)))] := hl
  refine lv_aload_n S.1 S.2.1 dX1_hasCell_0 rfl (lv_at hl 0 rfl) ?_
  refine lv_iload_n S.1 S.2.1 dX1_hasCell_1 rfl (lv_at hl 1 rfl) ?_
  refine z_cV (v := some (.int (nI (decide (i < f 0 3)).toNat))) (rest := []) (As := [.int (nI (i))]) S hZ hS (c_X1_has l g f hw i hi) ci_X1_has cv_X1_has k403 ⟨rfl, rfl, by rw [hR]; decide, by rw [hR]; decide⟩ hP (hP.recv hZ.1 0 (by decide) rfl rfl rfl) hl.1 rfl (Nat.le_of_ble_eq_true rfl) dX1_hasCell_2 ⟨by rw [hR]; decide, by rw [hR]; decide⟩ rfl ?_
  refine z_beq (tgt := 19) S dX1_hasCell_5 (by decide) (fun h1 => ?_) (fun h1 => ?_)
  · refine z_ic S (k := 0) dX1_hasCell_19 (by decide) ?_
    exact z_ri hQ S hr hlk rfl (by rw [decide_eq_false (fun z => by have := of_decide_eq_false h1; omega)]; rfl) dX1_hasCell_20
  · refine lv_iload_n S.1 S.2.1 dX1_hasCell_8 rfl (lv_at hl 2 rfl) ?_
    refine z_cS (v := some (.int (nI (decide (j < 16)).toNat))) (rest := []) (As := [.int (nI (j))]) S hZ hS (c_X1_isColumn l g j hj (PH := fun H => zPm g o 4 TC f H)) ci_X1_isColumn cv_X1_isColumn k407 ⟨rfl, rfl, by rw [hR]; decide, by rw [hR]; decide⟩ hP hl.1 rfl (Nat.le_of_ble_eq_true rfl) dX1_hasCell_9 ⟨by rw [hR]; decide, by rw [hR]; decide⟩ rfl ?_
    refine z_beq (tgt := 19) S dX1_hasCell_12 (by decide) (fun h2 => ?_) (fun h2 => ?_)
    · refine z_ic S (k := 0) dX1_hasCell_19 (by decide) ?_
      exact z_ri hQ S hr hlk rfl (by rw [decide_eq_false (fun z => by have := of_decide_eq_false h2; omega)]; rfl) dX1_hasCell_20
    · refine z_ic S (k := 1) dX1_hasCell_15 (by decide) ?_
      refine lv_goto (tgt := 20) S.1 S.2.1 dX1_hasCell_16 (by decide) ?_
      exact z_ri hQ S hr hlk rfl (by rw [decide_eq_true ⟨of_decide_eq_true h1, of_decide_eq_true h2⟩]; rfl) dX1_hasCell_20
theorem ci_X1_raisedAt : zCI yX1_raisedAt cX1_raisedAt 3 (some .boolean) 2 := ⟨k1072, k4, by decide +kernel⟩
theorem cv_X1_raisedAt : Cond.instanceMethod yX1_raisedAt ∈ GW ∧ Cond.selects (yX1_raisedAt).cls yX1_raisedAt yX1_raisedAt ∈ GW := ⟨k1070, k1071⟩
set_option maxRecDepth 20000 in
set_option maxHeartbeats 4000000 in
/-- Cloth.raisedAt(i, j) -/
theorem c_X1_raisedAt (l : Launch) (g : ZG) {B : Nat} {o : Nat} (f : Nat → Nat → Nat) (hw : zKo f) (i j : Nat) (hi : i < f 0 3) (hj : j < 16) : Met l yX1_raisedAt (.code yX1_raisedAt cX1_raisedAt 3 (some .boolean) :: GW) { frames := 0, cells := 0, slots := 0, locals := 0 } (va_Pc [.ref o, .int (nI i), .int (nI j)] (zPre g B (fun H => zPm g o 4 TC f H))) (zR (some (.int (nI (zBt (f 1 i) j).toNat)))) 0 0 (fun _ => False) := by
  refine zMet (by decide) (Nat.le_of_ble_eq_true rfl) ?_
  intro p e R s m args below meth c Q ls hR hargs hQ S hr hlk hP hZ hS hnm hl
  have hl : lv_has ls 3 [(0, .ref (o)), (1, .int (nI (i))), (2, .int (nI (j)))] := hl
  refine lv_aload_n S.1 S.2.1 dX1_raisedAt_0 rfl (lv_at hl 0 rfl) ?_
  refine z_get (v := .ref (o + 1)) S hZ.1 hP 0 (by decide) rfl rfl rfl 0 (by decide) rfl k81 dX1_raisedAt_1 ?_
  refine lv_iload_n S.1 S.2.1 dX1_raisedAt_4 rfl (lv_at hl 1 rfl) ?_
  refine z_iald S hZ.1 hP 1 (by decide) rfl rfl (i := i) (by have := hw.1; omega) (by decide) dX1_raisedAt_5 ?_
  refine lv_iload_n S.1 S.2.1 dX1_raisedAt_6 rfl (lv_at hl 2 rfl) ?_
  refine z_shr S (hw.m i) (by omega) dX1_raisedAt_7 ?_
  refine z_ic S (k := 1) dX1_raisedAt_8 (by decide) ?_
  refine z_and S dX1_raisedAt_9 ?_
  rw [zBt_and]
  refine z_beq (tgt := 17) S dX1_raisedAt_10 (by decide) (fun h1 => ?_) (fun h1 => ?_)
  · refine z_ic S (k := 0) dX1_raisedAt_17 (by decide) ?_
    exact z_ri hQ S hr hlk rfl (by rw [h1]; rfl) dX1_raisedAt_18
  · refine z_ic S (k := 1) dX1_raisedAt_13 (by decide) ?_
    refine lv_goto (tgt := 18) S.1 S.2.1 dX1_raisedAt_14 (by decide) ?_
    exact z_ri hQ S hr hlk rfl (by rw [h1]; rfl) dX1_raisedAt_18
theorem ci_X1_knottedAt : zCI yX1_knottedAt cX1_knottedAt 3 (some .boolean) 2 := ⟨k413, k4, by decide +kernel⟩
theorem cv_X1_knottedAt : Cond.instanceMethod yX1_knottedAt ∈ GW ∧ Cond.selects (yX1_knottedAt).cls yX1_knottedAt yX1_knottedAt ∈ GW := ⟨k411, k412⟩
set_option maxRecDepth 20000 in
set_option maxHeartbeats 4000000 in
/-- Cloth.knottedAt(i, j) -/
theorem c_X1_knottedAt (l : Launch) (g : ZG) {B : Nat} {o : Nat} (f : Nat → Nat → Nat) (hw : zKo f) (i j : Nat) (hi : i < f 0 3) (hj : j < 16) : Met l yX1_knottedAt (.code yX1_knottedAt cX1_knottedAt 3 (some .boolean) :: GW) { frames := 0, cells := 0, slots := 0, locals := 0 } (va_Pc [.ref o, .int (nI i), .int (nI j)] (zPre g B (fun H => zPm g o 4 TC f H))) (zR (some (.int (nI (zBt (f 3 i) j).toNat)))) 0 0 (fun _ => False) := by
  refine zMet (by decide) (Nat.le_of_ble_eq_true rfl) ?_
  intro p e R s m args below meth c Q ls hR hargs hQ S hr hlk hP hZ hS hnm hl
  have hl : lv_has ls 3 [(0, .ref (o)), (1, .int (nI (i))), (2, .int (nI (j)))] := hl
  refine lv_aload_n S.1 S.2.1 dX1_knottedAt_0 rfl (lv_at hl 0 rfl) ?_
  refine z_get (v := .ref (o + 3)) S hZ.1 hP 0 (by decide) rfl rfl rfl 2 (by decide) rfl k86 dX1_knottedAt_1 ?_
  refine lv_iload_n S.1 S.2.1 dX1_knottedAt_4 rfl (lv_at hl 1 rfl) ?_
  refine z_iald S hZ.1 hP 3 (by decide) rfl rfl (i := i) (by have := hw.1; omega) (by decide) dX1_knottedAt_5 ?_
  refine lv_iload_n S.1 S.2.1 dX1_knottedAt_6 rfl (lv_at hl 2 rfl) ?_
  refine z_shr S (hw.k i) (by omega) dX1_knottedAt_7 ?_
  refine z_ic S (k := 1) dX1_knottedAt_8 (by decide) ?_
  refine z_and S dX1_knottedAt_9 ?_
  rw [zBt_and]
  refine z_beq (tgt := 17) S dX1_knottedAt_10 (by decide) (fun h1 => ?_) (fun h1 => ?_)
  · refine z_ic S (k := 0) dX1_knottedAt_17 (by decide) ?_
    exact z_ri hQ S hr hlk rfl (by rw [h1]; rfl) dX1_knottedAt_18
  · refine z_ic S (k := 1) dX1_knottedAt_13 (by decide) ?_
    refine lv_goto (tgt := 18) S.1 S.2.1 dX1_knottedAt_14 (by decide) ?_
    exact z_ri hQ S hr hlk rfl (by rw [h1]; rfl) dX1_knottedAt_18
theorem ci_X1_append : zCI yX1_append cX1_append 3 none 2 := ⟨k587, k4, by decide +kernel⟩
theorem cv_X1_append : Cond.instanceMethod yX1_append ∈ GW ∧ Cond.selects (yX1_append).cls yX1_append yX1_append ∈ GW := ⟨k585, k586⟩
set_option maxRecDepth 20000 in
set_option maxHeartbeats 4000000 in
/-- Cloth.append(a, b) -/
theorem c_X1_append (l : Launch) (g : ZG) {B : Nat} {o : Nat} (hB : B ≤ o) (f : Nat → Nat → Nat) (hw : zKo f) (a b : Nat) (hc : f 0 3 < 40) : Met l yX1_append (.code yX1_append cX1_append 3 none :: GW) { frames := 0, cells := 0, slots := 0, locals := 0 } (va_Pc [.ref o, .int (nI a), .int (nI b)] (zPre g B (fun H => zPm g o 4 TC f H))) (zX (fun v H => v = none ∧ zPm g o 4 TC (zAp f a b) H) o 4) 0 0 (zA B) := by
  refine zMet (by decide) (Nat.le_of_ble_eq_true rfl) ?_
  intro p e R s m args below meth c Q ls hR hargs hQ S hr hlk hP hZ hS hnm hl
  have hl : lv_has ls 3 [(0, .ref (o)), (1, .int (nI (a))), (2, .int (nI (b)))] := hl
  have hC : zCh1 o 4 s.heap s.heap := zCh1.rf
  refine lv_aload_n S.1 S.2.1 dX1_append_0 rfl (lv_at hl 0 rfl) ?_
  refine z_get (v := .ref (o + 1)) S hZ.1 hP 0 (by decide) rfl rfl rfl 0 (by decide) rfl k81 dX1_append_1 ?_
  refine lv_aload_n S.1 S.2.1 dX1_append_4 rfl (lv_at hl 0 rfl) ?_
  refine z_get (v := .int (nI (f 0 3))) S hZ.1 hP 0 (by decide) rfl rfl rfl 3 (by decide) rfl k87 dX1_append_5 ?_
  refine lv_iload_n S.1 S.2.1 dX1_append_8 rfl (lv_at hl 1 rfl) ?_
  refine z_iast S hZ.1 hP hS hB 1 (by decide) rfl rfl (i := (f 0 3)) (x := a) rfl (by omega) (by decide) dX1_append_9 (fun H1 locs1 hPn hCn hSn => ?_)
  have hP := hPn; have hS := hSn; have hC := hC.tr (hCn.mono (b := o) (k := 4) (by omega) (by omega))
  refine lv_aload_n S.1 S.2.1 dX1_append_10 rfl (lv_at hl 0 rfl) ?_
  refine z_get (v := .ref (o + 2)) S hZ.1 hP 0 (by decide) rfl rfl rfl 1 (by decide) rfl k83 dX1_append_11 ?_
  refine lv_aload_n S.1 S.2.1 dX1_append_14 rfl (lv_at hl 0 rfl) ?_
  refine z_get (v := .int (nI (f 0 3))) S hZ.1 hP 0 (by decide) rfl rfl rfl 3 (by decide) rfl k87 dX1_append_15 ?_
  refine lv_iload_n S.1 S.2.1 dX1_append_18 rfl (lv_at hl 2 rfl) ?_
  refine z_iast S hZ.1 hP hS hB 2 (by decide) rfl rfl (i := (f 0 3)) (x := b) rfl (by omega) (by decide) dX1_append_19 (fun H1 locs1 hPn hCn hSn => ?_)
  have hP := hPn; have hS := hSn; have hC := hC.tr (hCn.mono (b := o) (k := 4) (by omega) (by omega))
  refine lv_aload_n S.1 S.2.1 dX1_append_20 rfl (lv_at hl 0 rfl) ?_
  refine z_get (v := .ref (o + 3)) S hZ.1 hP 0 (by decide) rfl rfl rfl 2 (by decide) rfl k86 dX1_append_21 ?_
  refine lv_aload_n S.1 S.2.1 dX1_append_24 rfl (lv_at hl 0 rfl) ?_
  refine z_get (v := .int (nI (f 0 3))) S hZ.1 hP 0 (by decide) rfl rfl rfl 3 (by decide) rfl k87 dX1_append_25 ?_
  refine z_ic S (k := 0) dX1_append_28 (by decide) ?_
  refine z_iast S hZ.1 hP hS hB 3 (by decide) rfl rfl (i := (f 0 3)) (x := 0) rfl (by omega) (by decide) dX1_append_29 (fun H1 locs1 hPn hCn hSn => ?_)
  have hP := hPn; have hS := hSn; have hC := hC.tr (hCn.mono (b := o) (k := 4) (by omega) (by omega))
  refine lv_aload_n S.1 S.2.1 dX1_append_30 rfl (lv_at hl 0 rfl) ?_
  refine lv_dup S.1 S.2.1 dX1_append_31 rfl ?_
  refine z_get (v := .int (nI (f 0 3))) S hZ.1 hP 0 (by decide) rfl rfl rfl 3 (by decide) rfl k87 dX1_append_32 ?_
  refine z_ic S (k := 1) dX1_append_35 (by decide) ?_
  refine z_add S dX1_append_36 ?_
  refine z_put (v := .int (nI ((f 0 3) + 1))) (ty := .int) S hZ.1 hP hS hB 0 (by decide) rfl rfl rfl 3 (by decide) (va_up ((va_up (va_up (va_up f 1 (va_up (f 1) (f 0 3) a)) 2 (va_up ((va_up f 1 (va_up (f 1) (f 0 3) a)) 2) (f 0 3) b)) 3 (va_up ((va_up (va_up f 1 (va_up (f 1) (f 0 3) a)) 2 (va_up ((va_up f 1 (va_up (f 1) (f 0 3) a)) 2) (f 0 3) b)) 3) (f 0 3) 0)) 0) 3 ((f 0 3) + 1)) rfl k87 rfl (by decide +kernel) rfl rfl (Nat.le_of_ble_eq_true rfl) dX1_append_37 (fun H1 locs1 hPn hCn hSn => ?_)
  have hP := hPn; have hS := hSn; have hC := hC.tr (hCn.mono (b := o) (k := 4) (by omega) (by omega))
  exact z_wv hQ S hr hlk hS hC ⟨rfl, hP⟩ dX1_append_40
theorem ci_X1_removeLast : zCI yX1_removeLast cX1_removeLast 2 (some .int) 1 := ⟨k602, k4, by decide +kernel⟩
theorem cv_X1_removeLast : Cond.instanceMethod yX1_removeLast ∈ GW ∧ Cond.selects (yX1_removeLast).cls yX1_removeLast yX1_removeLast ∈ GW := ⟨k600, k601⟩
set_option maxRecDepth 20000 in
set_option maxHeartbeats 4000000 in
/-- Cloth.removeLast(r) -/
theorem c_X1_removeLast (l : Launch) (g : ZG) {B : Nat} {o : Nat} (hB : B ≤ o) (f : Nat → Nat → Nat) (hw : zKo f) (r : Nat) (h9 : r ≤ f 0 3) : Met l yX1_removeLast (.code yX1_removeLast cX1_removeLast 2 (some .int) :: GW) { frames := 0, cells := 0, slots := 0, locals := 0 } (va_Pc [.ref o, .int (nI r)] (zPre g B (fun H => zPm g o 4 TC f H))) (zX (fun v H => v = some (.int (nI (f 0 3 - r))) ∧ zPm g o 4 TC (va_up f 0 (va_up (f 0) 3 (f 0 3 - r))) H) o 4) 0 0 (zA B) := by
  refine zMet (by decide) (Nat.le_of_ble_eq_true rfl) ?_
  intro p e R s m args below meth c Q ls hR hargs hQ S hr hlk hP hZ hS hnm hl
  have hl : lv_has ls 2 [(0, .ref (o)), (1, .int (nI (r)))] := hl
  have hC : zCh1 o 4 s.heap s.heap := zCh1.rf
  refine lv_aload_n S.1 S.2.1 dX1_removeLast_0 rfl (lv_at hl 0 rfl) ?_
  refine lv_dup S.1 S.2.1 dX1_removeLast_1 rfl ?_
  refine z_get (v := .int (nI (f 0 3))) S hZ.1 hP 0 (by decide) rfl rfl rfl 3 (by decide) rfl k87 dX1_removeLast_2 ?_
  refine lv_iload_n S.1 S.2.1 dX1_removeLast_5 rfl (lv_at hl 1 rfl) ?_
  refine z_sub S h9 dX1_removeLast_6 ?_
  refine z_put (v := .int (nI ((f 0 3) - r))) (ty := .int) S hZ.1 hP hS hB 0 (by decide) rfl rfl rfl 3 (by decide) (va_up (f 0) 3 ((f 0 3) - r)) rfl k87 rfl (by decide +kernel) rfl rfl (Nat.le_of_ble_eq_true rfl) dX1_removeLast_7 (fun H1 locs1 hPn hCn hSn => ?_)
  have hP := hPn; have hS := hSn; have hC := hC.tr (hCn.mono (b := o) (k := 4) (by omega) (by omega))
  refine lv_aload_n S.1 S.2.1 dX1_removeLast_10 rfl (lv_at hl 0 rfl) ?_
  refine z_get (v := .int (nI (f 0 3 - r))) S hZ.1 hP 0 (by decide) rfl rfl rfl 3 (by decide) rfl k87 dX1_removeLast_11 ?_
  exact z_wi hQ S hr hlk (zn_int _) hS hC ⟨rfl, hP⟩ dX1_removeLast_14
theorem ci_X1_countKnots : zCI yX1_countKnots cX1_countKnots 3 (some .int) 0 := ⟨k615, k4, by decide +kernel⟩
theorem cv_X1_countKnots : Cond.instanceMethod yX1_countKnots ∈ GW ∧ Cond.selects (yX1_countKnots).cls yX1_countKnots yX1_countKnots ∈ GW := ⟨k613, k614⟩
set_option maxRecDepth 20000 in
set_option maxHeartbeats 4000000 in
/-- Cloth.countKnots() -/
theorem c_X1_countKnots (l : Launch) (g : ZG) {B : Nat} {o : Nat} (f : Nat → Nat → Nat) (hw : zKo f) : Met l yX1_countKnots (.code yX1_countKnots cX1_countKnots 3 (some .int) :: GW) { frames := 1, cells := 0, slots := 0, locals := 20 } (va_Pc [.ref o] (zPre g B (fun H => zPm g o 4 TC f H))) (zR (some (.int (nI (zKc f))))) 0 0 (fun _ => False) := by
  refine zMet (by decide) (Nat.le_of_ble_eq_true rfl) ?_
  intro p e R s m args below meth c Q ls hR hargs hQ S hr hlk hP hZ hS hnm hl
  have hl : lv_has ls 3 [(0, .ref (o))] := hl
  refine z_ic S (k := 0) dX1_countKnots_0 (by decide) ?_
  refine lv_istore_n (lv' := [(1, .int (nI (0))), (0, .ref (o))]) S.1 S.2.1 dX1_countKnots_1 rfl hl (by decide) rfl (fun ls hl => ?_)
  refine z_ic S (k := 0) dX1_countKnots_2 (by decide) ?_
  refine lv_istore_n (lv' := [(2, .int (nI (0))), (1, .int (nI (0))), (0, .ref (o))]) S.1 S.2.1 dX1_countKnots_3 rfl hl (by decide) rfl (fun ls hl => ?_)
  have loop : ∀ (n i x : Nat) (ls : Array Slot), (i ≤ f 0 3) → (f 0 3 < i + n) → (x = zSum (fun i => zBc (f 3 i)) i) → lv_has ls 3 [(0, .ref (o)), (1, .int (nI (x))), (2, .int (nI (i)))] → W p l e R s m args below meth c s.heap [] 0 0 Q (F0 m 4 ls []) := by
    intro n
    induction n with
    | zero => intro i x ls h1 h2 hx hl; exact absurd h2 (by omega)
    | succ n ih =>
      intro i x ls h1 h2 hx hl
      refine lv_iload_n S.1 S.2.1 dX1_countKnots_4 rfl (lv_at hl 2 rfl) ?_
      refine lv_aload_n S.1 S.2.1 dX1_countKnots_5 rfl (lv_at hl 0 rfl) ?_
      refine z_get (v := .int (nI (f 0 3))) S hZ.1 hP 0 (by decide) rfl rfl rfl 3 (by decide) rfl k87 dX1_countKnots_6 ?_
      refine z_cge (tgt := 30) S (by have := hw.1; omega) hw.c dX1_countKnots_9 (by decide) (fun h4 => ?_) (fun h4 => ?_)
      · refine lv_iload_n S.1 S.2.1 dX1_countKnots_30 rfl (lv_at hl 1 rfl) ?_
        obtain rfl : i = f 0 3 := by omega
        exact z_ri hQ S hr hlk (zn_int _) (by rw [hx]; rfl) dX1_countKnots_31
      · refine lv_iload_n S.1 S.2.1 dX1_countKnots_12 rfl (lv_at hl 1 rfl) ?_
        refine lv_aload_n S.1 S.2.1 dX1_countKnots_13 rfl (lv_at hl 0 rfl) ?_
        refine z_get (v := .ref (o + 3)) S hZ.1 hP 0 (by decide) rfl rfl rfl 2 (by decide) rfl k86 dX1_countKnots_14 ?_
        refine lv_iload_n S.1 S.2.1 dX1_countKnots_17 rfl (lv_at hl 2 rfl) ?_
        refine z_iald S hZ.1 hP 3 (by decide) rfl rfl (i := i) (by have := hw.1; omega) (by decide) dX1_countKnots_18 ?_
        refine z_cS (v := some (.int (nI (zBc (f 3 i))))) (rest := [.int (nI (x))]) (As := [.int (nI (f 3 i))]) S hZ hS (c_bitCount l g (f 3 i) (hw.k i) (PH := fun H => zPm g o 4 TC f H)) ci_J6_bitCount_0f7a4 cv_J6_bitCount_0f7a4 k616 ⟨rfl, rfl, by rw [hR]; decide, by rw [hR]; decide⟩ hP hl.1 rfl (Nat.le_of_ble_eq_true rfl) dX1_countKnots_19 ⟨by rw [hR]; decide, by rw [hR]; decide⟩ rfl ?_
        refine z_add S dX1_countKnots_22 ?_
        refine lv_istore_n (lv' := [(1, .int (nI (x + (zBc (f 3 i))))), (0, .ref (o)), (2, .int (nI (i)))]) S.1 S.2.1 dX1_countKnots_23 rfl hl (by decide) rfl (fun ls hl => ?_)
        refine z_inc S (lv' := [(2, .int (nI (i + 1))), (1, .int (nI (x + (zBc (f 3 i))))), (0, .ref (o))]) (k := 2) (b := 1) dX1_countKnots_24 hl rfl (by decide) (by decide) rfl (fun ls hl => ?_)
        refine lv_goto (tgt := 4) S.1 S.2.1 dX1_countKnots_27 (by decide) ?_
        exact ih (i + 1) (x + zBc (f 3 i)) ls (by omega) (by omega) (by rw [zSum, hx]) (lv_sub hl [2, 1, 0] rfl)
  exact loop (f 0 3 + 1) 0 0 ls (Nat.zero_le _) (by omega) rfl (lv_sub hl [2, 1, 0] rfl)
theorem ci_X1_countRaised : zCI yX1_countRaised cX1_countRaised 3 (some .int) 0 := ⟨k1149, k4, by decide +kernel⟩
theorem cv_X1_countRaised : Cond.instanceMethod yX1_countRaised ∈ GW ∧ Cond.selects (yX1_countRaised).cls yX1_countRaised yX1_countRaised ∈ GW := ⟨k1147, k1148⟩
set_option maxRecDepth 20000 in
set_option maxHeartbeats 4000000 in
/-- Cloth.countRaised() -/
theorem c_X1_countRaised (l : Launch) (g : ZG) {B : Nat} {o : Nat} (f : Nat → Nat → Nat) (hw : zKo f) : Met l yX1_countRaised (.code yX1_countRaised cX1_countRaised 3 (some .int) :: GW) { frames := 1, cells := 0, slots := 0, locals := 20 } (va_Pc [.ref o] (zPre g B (fun H => zPm g o 4 TC f H))) (zR (some (.int (nI (zRc f))))) 0 0 (fun _ => False) := by
  refine zMet (by decide) (Nat.le_of_ble_eq_true rfl) ?_
  intro p e R s m args below meth c Q ls hR hargs hQ S hr hlk hP hZ hS hnm hl
  have hl : lv_has ls 3 [(0, .ref (o))] := hl
  refine z_ic S (k := 0) dX1_countRaised_0 (by decide) ?_
  refine lv_istore_n (lv' := [(1, .int (nI (0))), (0, .ref (o))]) S.1 S.2.1 dX1_countRaised_1 rfl hl (by decide) rfl (fun ls hl => ?_)
  refine z_ic S (k := 0) dX1_countRaised_2 (by decide) ?_
  refine lv_istore_n (lv' := [(2, .int (nI (0))), (1, .int (nI (0))), (0, .ref (o))]) S.1 S.2.1 dX1_countRaised_3 rfl hl (by decide) rfl (fun ls hl => ?_)
  have loop : ∀ (n i x : Nat) (ls : Array Slot), (i ≤ f 0 3) → (f 0 3 < i + n) → (x = zSum (fun i => zBc (f 1 i)) i) → lv_has ls 3 [(0, .ref (o)), (1, .int (nI (x))), (2, .int (nI (i)))] → W p l e R s m args below meth c s.heap [] 0 0 Q (F0 m 4 ls []) := by
    intro n
    induction n with
    | zero => intro i x ls h1 h2 hx hl; exact absurd h2 (by omega)
    | succ n ih =>
      intro i x ls h1 h2 hx hl
      refine lv_iload_n S.1 S.2.1 dX1_countRaised_4 rfl (lv_at hl 2 rfl) ?_
      refine lv_aload_n S.1 S.2.1 dX1_countRaised_5 rfl (lv_at hl 0 rfl) ?_
      refine z_get (v := .int (nI (f 0 3))) S hZ.1 hP 0 (by decide) rfl rfl rfl 3 (by decide) rfl k87 dX1_countRaised_6 ?_
      refine z_cge (tgt := 30) S (by have := hw.1; omega) hw.c dX1_countRaised_9 (by decide) (fun h4 => ?_) (fun h4 => ?_)
      · refine lv_iload_n S.1 S.2.1 dX1_countRaised_30 rfl (lv_at hl 1 rfl) ?_
        obtain rfl : i = f 0 3 := by omega
        exact z_ri hQ S hr hlk (zn_int _) (by rw [hx]; rfl) dX1_countRaised_31
      · refine lv_iload_n S.1 S.2.1 dX1_countRaised_12 rfl (lv_at hl 1 rfl) ?_
        refine lv_aload_n S.1 S.2.1 dX1_countRaised_13 rfl (lv_at hl 0 rfl) ?_
        refine z_get (v := .ref (o + 1)) S hZ.1 hP 0 (by decide) rfl rfl rfl 0 (by decide) rfl k81 dX1_countRaised_14 ?_
        refine lv_iload_n S.1 S.2.1 dX1_countRaised_17 rfl (lv_at hl 2 rfl) ?_
        refine z_iald S hZ.1 hP 1 (by decide) rfl rfl (i := i) (by have := hw.1; omega) (by decide) dX1_countRaised_18 ?_
        refine z_cS (v := some (.int (nI (zBc (f 1 i))))) (rest := [.int (nI (x))]) (As := [.int (nI (f 1 i))]) S hZ hS (c_bitCount l g (f 1 i) (hw.m i) (PH := fun H => zPm g o 4 TC f H)) ci_J6_bitCount_0f7a4 cv_J6_bitCount_0f7a4 k616 ⟨rfl, rfl, by rw [hR]; decide, by rw [hR]; decide⟩ hP hl.1 rfl (Nat.le_of_ble_eq_true rfl) dX1_countRaised_19 ⟨by rw [hR]; decide, by rw [hR]; decide⟩ rfl ?_
        refine z_add S dX1_countRaised_22 ?_
        refine lv_istore_n (lv' := [(1, .int (nI (x + (zBc (f 1 i))))), (0, .ref (o)), (2, .int (nI (i)))]) S.1 S.2.1 dX1_countRaised_23 rfl hl (by decide) rfl (fun ls hl => ?_)
        refine z_inc S (lv' := [(2, .int (nI (i + 1))), (1, .int (nI (x + (zBc (f 1 i))))), (0, .ref (o))]) (k := 2) (b := 1) dX1_countRaised_24 hl rfl (by decide) (by decide) rfl (fun ls hl => ?_)
        refine lv_goto (tgt := 4) S.1 S.2.1 dX1_countRaised_27 (by decide) ?_
        exact ih (i + 1) (x + zBc (f 1 i)) ls (by omega) (by omega) (by rw [zSum, hx]) (lv_sub hl [2, 1, 0] rfl)
  exact loop (f 0 3 + 1) 0 0 ls (Nat.zero_le _) (by omega) rfl (lv_sub hl [2, 1, 0] rfl)
/-- a knot is tied or untied -/
def zFk (f : Nat → Nat → Nat) (i j : Nat) : Nat → Nat → Nat := va_up f 3 (va_up (f 3) i (f 3 i ^^^ 1 * 2 ^ j))
theorem zFk_ok {f : Nat → Nat → Nat} (h : zKo f) (i : Nat) {j : Nat} (hj : j < 16) : zKo (zFk f i j) := by
  refine ⟨h.1, fun k => ⟨(h.2 k).1, (h.2 k).2.1, ?_⟩⟩
  show (if k = i then f 3 i ^^^ 1 * 2 ^ j else f 3 k) < 65536
  split
  · rw [Nat.one_mul]
    exact Nat.xor_lt_two_pow (n := 16) (h.2 i).2.2 (Nat.pow_lt_pow_right (by omega) hj)
  · exact (h.2 k).2.2
theorem ci_X1_flipKnot : zCI yX1_flipKnot cX1_flipKnot 3 (some .int) 2 := ⟨k611, k4, by decide +kernel⟩
theorem cv_X1_flipKnot : Cond.instanceMethod yX1_flipKnot ∈ GW ∧ Cond.selects (yX1_flipKnot).cls yX1_flipKnot yX1_flipKnot ∈ GW := ⟨k609, k610⟩
set_option maxRecDepth 20000 in
set_option maxHeartbeats 4000000 in
/-- Cloth.flipKnot(i, j) -/
theorem c_X1_flipKnot (l : Launch) (g : ZG) {B : Nat} {o : Nat} (hB : B ≤ o) (f : Nat → Nat → Nat) (hw : zKo f) (i j : Nat) (hi : i < f 0 3) (hj : j < 16) : Met l yX1_flipKnot (.code yX1_flipKnot cX1_flipKnot 3 (some .int) :: GW) { frames := 2, cells := 0, slots := 0, locals := 42 } (va_Pc [.ref o, .int (nI i), .int (nI j)] (zPre g B (fun H => zPm g o 4 TC f H))) (zX (fun v H => v = some (.int (nI (zKc (zFk f i j)))) ∧ zPm g o 4 TC (zFk f i j) H) o 4) 0 0 (zA B) := by
  refine zMet (by decide) (Nat.le_of_ble_eq_true rfl) ?_
  intro p e R s m args below meth c Q ls hR hargs hQ S hr hlk hP hZ hS hnm hl
  have hl : lv_has ls 3 [(0, .ref (o)), (1, .int (nI (i))), (2, .int (nI (j)))] := hl
  have hC : zCh1 o 4 s.heap s.heap := zCh1.rf
  refine lv_aload_n S.1 S.2.1 dX1_flipKnot_0 rfl (lv_at hl 0 rfl) ?_
  refine z_get (v := .ref (o + 3)) S hZ.1 hP 0 (by decide) rfl rfl rfl 2 (by decide) rfl k86 dX1_flipKnot_1 ?_
  refine lv_iload_n S.1 S.2.1 dX1_flipKnot_4 rfl (lv_at hl 1 rfl) ?_
  refine lv_dup2_11 S.1 S.2.1 dX1_flipKnot_5 rfl rfl ?_
  refine z_iald S hZ.1 hP 3 (by decide) rfl rfl (i := i) (by have := hw.1; omega) (by decide) dX1_flipKnot_6 ?_
  refine z_ic S (k := 1) dX1_flipKnot_7 (by decide) ?_
  refine lv_iload_n S.1 S.2.1 dX1_flipKnot_8 rfl (lv_at hl 2 rfl) ?_
  refine z_shl S (by omega) (by have := Nat.pow_le_pow_right (n := 2) (by omega) (show j ≤ 15 by omega); omega) dX1_flipKnot_9 ?_
  refine z_xor S dX1_flipKnot_10 ?_
  refine z_iast S hZ.1 hP hS hB 3 (by decide) rfl rfl (i := i) (x := ((f 3 i) ^^^ (1 * 2 ^ j))) rfl (by have := hw.1; omega) (by decide) dX1_flipKnot_11 (fun H1 locs1 hPn hCn hSn => ?_)
  have hP := hPn; have hS := hSn; have hC := hC.tr (hCn.mono (b := o) (k := 4) (by omega) (by omega))
  refine lv_aload_n S.1 S.2.1 dX1_flipKnot_12 rfl (lv_at hl 0 rfl) ?_
  refine z_cV (v := some (.int (nI (zKc (zFk f i j))))) (rest := []) (As := []) S hZ hS (c_X1_countKnots l g (zFk f i j) (zFk_ok hw i hj)) ci_X1_countKnots cv_X1_countKnots k612 ⟨rfl, rfl, by rw [hR]; decide, by rw [hR]; decide⟩ hP (hP.recv hZ.1 0 (by decide) rfl rfl rfl) hl.1 rfl (Nat.le_of_ble_eq_true rfl) dX1_flipKnot_13 ⟨by rw [hR]; decide, by rw [hR]; decide⟩ rfl ?_
  exact z_wi hQ S hr hlk (zn_int _) hS hC ⟨rfl, hP⟩ dX1_flipKnot_16
theorem ci_X1_copyLast : zCI yX1_copyLast cX1_copyLast 6 (some .int) 2 := ⟨k606, k4, by decide +kernel⟩
theorem cv_X1_copyLast : Cond.instanceMethod yX1_copyLast ∈ GW ∧ Cond.selects (yX1_copyLast).cls yX1_copyLast yX1_copyLast ∈ GW := ⟨k604, k605⟩
set_option maxRecDepth 20000 in
set_option maxHeartbeats 4000000 in
/-- Cloth.copyLast(r, t) -/
theorem c_X1_copyLast (l : Launch) (g : ZG) {B : Nat} {o : Nat} (hB : B ≤ o) (f : Nat → Nat → Nat) (hw : zKo f) (r t : Nat) (h0 : r ≤ f 0 3) (h1r : 1 ≤ r) (h40 : f 0 3 + r * t ≤ 40) : Met l yX1_copyLast (.code yX1_copyLast cX1_copyLast 6 (some .int) :: GW) { frames := 1, cells := 0, slots := 0, locals := 22 } (va_Pc [.ref o, .int (nI r), .int (nI t)] (zPre g B (fun H => zPm g o 4 TC f H))) (zX (fun v H => v = some (.int (nI (f 0 3 + r * t))) ∧ zPm g o 4 TC (zCp f r (r * t)) H) o 4) 0 0 (zA B) := by
  refine zMet (by decide) (Nat.le_of_ble_eq_true rfl) ?_
  intro p e R s m args below meth c Q ls hR hargs hQ S hr hlk hP hZ hS hnm hl
  have hl : lv_has ls 6 [(0, .ref (o)), (1, .int (nI (r))), (2, .int (nI (t)))] := hl
  have hC : zCh1 o 4 s.heap s.heap := zCh1.rf
  refine lv_iload_n S.1 S.2.1 dX1_copyLast_0 rfl (lv_at hl 1 rfl) ?_
  refine lv_iload_n S.1 S.2.1 dX1_copyLast_1 rfl (lv_at hl 2 rfl) ?_
  refine z_mul S dX1_copyLast_2 ?_
  refine lv_istore_n (lv' := [(3, .int (nI (r * t))), (0, .ref (o)), (1, .int (nI (r))), (2, .int (nI (t)))]) S.1 S.2.1 dX1_copyLast_3 rfl hl (by decide) rfl (fun ls hl => ?_)
  refine z_ic S (k := 0) dX1_copyLast_4 (by decide) ?_
  refine lv_istore (lv' := [(4, .int (nI (0))), (3, .int (nI (r * t))), (0, .ref (o)), (1, .int (nI (r))), (2, .int (nI (t)))]) S.1 S.2.1 dX1_copyLast_5 hl (by decide) rfl (fun ls hl => ?_)
  have loop : ∀ (n i : Nat) (ls : Array Slot) (H : Heap) (locs : List Loc), (i ≤ r * t) → (r * t < i + n) → zPm g o 4 TC (zCp f r i) H → va_S (zA B) s.heap H locs → zCh1 o 4 s.heap H → lv_has ls 6 [(0, .ref o), (1, .int (nI r)), (3, .int (nI (r * t))), (4, .int (nI i))] → W p l e R s m args below meth c H locs 0 0 Q (F0 m 7 ls []) := by
    intro n
    induction n with
    | zero => intro i ls H locs h1 h2; exact absurd h2 (by omega)
    | succ n ih =>
      intro i ls H locs h1 h2 hP hS hC hl
      have hcn := zCp_c f r i
      have hwn := zCp_ok hw r i (by omega)
      refine lv_iload S.1 S.2.1 dX1_copyLast_7 (lv_at hl 3 rfl) ?_
      refine lv_iload_n S.1 S.2.1 dX1_copyLast_9 rfl (lv_at hl 2 rfl) ?_
      refine z_cge (tgt := 45) S (by omega) (by omega) dX1_copyLast_10 (by decide) (fun h4 => ?_) (fun h4 => ?_)
      · obtain rfl : i = r * t := by omega
        refine lv_aload_n S.1 S.2.1 dX1_copyLast_45 rfl (lv_at hl 0 rfl) ?_
        refine z_get (v := .int (nI (zCp f r (r * t) 0 3))) S hZ.1 hP 0 (by decide) rfl rfl rfl 3 (by decide) rfl k87 dX1_copyLast_46 ?_
        exact z_wi hQ S hr hlk (zn_int _) hS hC ⟨by rw [hcn], hP⟩ dX1_copyLast_49
      · refine lv_aload_n S.1 S.2.1 dX1_copyLast_13 rfl (lv_at hl 0 rfl) ?_
        refine z_get (v := .int (nI (zCp f r i 0 3))) S hZ.1 hP 0 (by decide) rfl rfl rfl 3 (by decide) rfl k87 dX1_copyLast_14 ?_
        refine lv_iload_n S.1 S.2.1 dX1_copyLast_17 rfl (lv_at hl 1 rfl) ?_
        refine z_sub S (by omega) dX1_copyLast_18 ?_
        refine lv_istore (lv' := [(5, .int (nI ((zCp f r i 0 3) - r))), (0, .ref (o)), (1, .int (nI (r))), (3, .int (nI (r * t))), (4, .int (nI (i)))]) S.1 S.2.1 dX1_copyLast_19 hl (by decide) rfl (fun ls hl => ?_)
        refine lv_aload_n S.1 S.2.1 dX1_copyLast_21 rfl (lv_at hl 1 rfl) ?_
        refine lv_aload_n S.1 S.2.1 dX1_copyLast_22 rfl (lv_at hl 1 rfl) ?_
        refine z_get (v := .ref (o + 1)) S hZ.1 hP 0 (by decide) rfl rfl rfl 0 (by decide) rfl k81 dX1_copyLast_23 ?_
        refine lv_iload S.1 S.2.1 dX1_copyLast_26 (lv_at hl 0 rfl) ?_
        refine z_iald S hZ.1 hP 1 (by decide) rfl rfl (i := ((zCp f r i 0 3) - r)) (by omega) (by decide) dX1_copyLast_28 ?_
        refine lv_aload_n S.1 S.2.1 dX1_copyLast_29 rfl (lv_at hl 1 rfl) ?_
        refine z_get (v := .ref (o + 2)) S hZ.1 hP 0 (by decide) rfl rfl rfl 1 (by decide) rfl k83 dX1_copyLast_30 ?_
        refine lv_iload S.1 S.2.1 dX1_copyLast_33 (lv_at hl 0 rfl) ?_
        refine z_iald S hZ.1 hP 2 (by decide) rfl rfl (i := ((zCp f r i 0 3) - r)) (by omega) (by decide) dX1_copyLast_35 ?_
        refine z_wV (rest := []) (As := [.int (nI ((zCp f r i) 1 ((zCp f r i 0 3) - r))), .int (nI ((zCp f r i) 2 ((zCp f r i 0 3) - r)))]) S hZ hS (c_X1_append l g hB (zCp f r i) hwn _ _ (by omega)) hB ci_X1_append cv_X1_append k607 ⟨rfl, rfl, by rw [hR]; decide, by rw [hR]; decide⟩ hP (hP.recv hZ.1 0 (by decide) rfl rfl rfl) hl.1 rfl (by decide) dX1_copyLast_36 ⟨by rw [hR]; decide, by rw [hR]; decide⟩ (fun v H1 locs1 hv hCn hSn => ?_)
        obtain ⟨rfl, hP⟩ := hv
        have hC := hC.tr hCn
        have hS := hSn
        refine z_inc S (lv' := [(4, .int (nI (i + 1))), (5, .int (nI ((zCp f r i 0 3) - r))), (0, .ref (o)), (1, .int (nI (r))), (3, .int (nI (r * t)))]) (k := 4) (b := 1) dX1_copyLast_39 hl rfl (by decide) (by decide) rfl (fun ls hl => ?_)
        refine lv_goto (tgt := 7) S.1 S.2.1 dX1_copyLast_42 (by decide) ?_
        exact ih (i + 1) ls H1 locs1 (by omega) (by omega) hP hS hC (lv_sub hl [2, 3, 4, 0] rfl)
  exact loop (r * t + 1) 0 ls _ _ (Nat.zero_le _) (by omega) hP hS hC (lv_sub hl [2, 3, 1, 0] rfl)
theorem ci_X1_sameRows : zCI yX1_sameRows cX1_sameRows 3 (some .boolean) 2 := ⟨k1109, k4, by decide +kernel⟩
theorem cv_X1_sameRows : Cond.instanceMethod yX1_sameRows ∈ GW ∧ Cond.selects (yX1_sameRows).cls yX1_sameRows yX1_sameRows ∈ GW := ⟨k1108, kp28⟩
set_option maxRecDepth 20000 in
set_option maxHeartbeats 4000000 in
/-- Cloth.sameRows(i, j) -/
theorem c_X1_sameRows (l : Launch) (g : ZG) {B : Nat} {o : Nat} (f : Nat → Nat → Nat) (hw : zKo f) (i j : Nat) (hi : i < f 0 3) (hj : j < f 0 3) : Met l yX1_sameRows (.code yX1_sameRows cX1_sameRows 3 (some .boolean) :: GW) { frames := 0, cells := 0, slots := 0, locals := 0 } (va_Pc [.ref o, .int (nI i), .int (nI j)] (zPre g B (fun H => zPm g o 4 TC f H))) (zR (some (.int (nI (zRw f i j).toNat)))) 0 0 (fun _ => False) := by
  refine zMet (by decide) (Nat.le_of_ble_eq_true rfl) ?_
  intro p e R s m args below meth c Q ls hR hargs hQ S hr hlk hP hZ hS hnm hl
  have hl : lv_has ls 3 [(0, .ref (o)), (1, .int (nI (i))), (2, .int (nI (j)))] := hl
  refine lv_aload_n S.1 S.2.1 dX1_sameRows_0 rfl (lv_at hl 0 rfl) ?_
  refine z_get (v := .ref (o + 1)) S hZ.1 hP 0 (by decide) rfl rfl rfl 0 (by decide) rfl k81 dX1_sameRows_1 ?_
  refine lv_iload_n S.1 S.2.1 dX1_sameRows_4 rfl (lv_at hl 1 rfl) ?_
  refine z_iald S hZ.1 hP 1 (by decide) rfl rfl (i := i) (by have := hw.1; omega) (by decide) dX1_sameRows_5 ?_
  refine lv_aload_n S.1 S.2.1 dX1_sameRows_6 rfl (lv_at hl 0 rfl) ?_
  refine z_get (v := .ref (o + 1)) S hZ.1 hP 0 (by decide) rfl rfl rfl 0 (by decide) rfl k81 dX1_sameRows_7 ?_
  refine lv_iload_n S.1 S.2.1 dX1_sameRows_10 rfl (lv_at hl 2 rfl) ?_
  refine z_iald S hZ.1 hP 1 (by decide) rfl rfl (i := j) (by have := hw.1; omega) (by decide) dX1_sameRows_11 ?_
  refine z_cne (tgt := 34) S (hw.m i) (hw.m j) dX1_sameRows_12 (by decide) (fun h1 => ?_) (fun h1 => ?_)
  · refine z_ic S (k := 0) dX1_sameRows_34 (by decide) ?_
    exact z_ri hQ S hr hlk rfl (by rw [zRw, decide_eq_false (fun z => h1 z.1)]; rfl) dX1_sameRows_35
  · refine lv_aload_n S.1 S.2.1 dX1_sameRows_15 rfl (lv_at hl 0 rfl) ?_
    refine z_get (v := .ref (o + 2)) S hZ.1 hP 0 (by decide) rfl rfl rfl 1 (by decide) rfl k83 dX1_sameRows_16 ?_
    refine lv_iload_n S.1 S.2.1 dX1_sameRows_19 rfl (lv_at hl 1 rfl) ?_
    refine z_iald S hZ.1 hP 2 (by decide) rfl rfl (i := i) (by have := hw.1; omega) (by decide) dX1_sameRows_20 ?_
    refine lv_aload_n S.1 S.2.1 dX1_sameRows_21 rfl (lv_at hl 0 rfl) ?_
    refine z_get (v := .ref (o + 2)) S hZ.1 hP 0 (by decide) rfl rfl rfl 1 (by decide) rfl k83 dX1_sameRows_22 ?_
    refine lv_iload_n S.1 S.2.1 dX1_sameRows_25 rfl (lv_at hl 2 rfl) ?_
    refine z_iald S hZ.1 hP 2 (by decide) rfl rfl (i := j) (by have := hw.1; omega) (by decide) dX1_sameRows_26 ?_
    refine z_cne (tgt := 34) S (hw.l i) (hw.l j) dX1_sameRows_27 (by decide) (fun h2 => ?_) (fun h2 => ?_)
    · refine z_ic S (k := 0) dX1_sameRows_34 (by decide) ?_
      exact z_ri hQ S hr hlk rfl (by rw [zRw, decide_eq_false (fun z => h2 z.2)]; rfl) dX1_sameRows_35
    · refine z_ic S (k := 1) dX1_sameRows_30 (by decide) ?_
      refine lv_goto (tgt := 35) S.1 S.2.1 dX1_sameRows_31 (by decide) ?_
      exact z_ri hQ S hr hlk rfl (by rw [zRw, decide_eq_true ⟨h1, h2⟩]; rfl) dX1_sameRows_35
theorem ci_X1_sameRuns : zCI yX1_sameRuns cX1_sameRuns 5 (some .boolean) 3 := ⟨k1186, k4, by decide +kernel⟩
theorem cv_X1_sameRuns : Cond.instanceMethod yX1_sameRuns ∈ GW ∧ Cond.selects (yX1_sameRuns).cls yX1_sameRuns yX1_sameRuns ∈ GW := ⟨k1185, kp29⟩
set_option maxRecDepth 20000 in
set_option maxHeartbeats 4000000 in
/-- Cloth.sameRuns(a, b, r) -/
theorem c_X1_sameRuns (l : Launch) (g : ZG) {B : Nat} {o : Nat} (f : Nat → Nat → Nat) (hw : zKo f) (a b r : Nat) (ha : a + r ≤ f 0 3) (hb : b + r ≤ f 0 3) : Met l yX1_sameRuns (.code yX1_sameRuns cX1_sameRuns 5 (some .boolean) :: GW) { frames := 1, cells := 0, slots := 0, locals := 22 } (va_Pc [.ref o, .int (nI a), .int (nI b), .int (nI r)] (zPre g B (fun H => zPm g o 4 TC f H))) (zR (some (.int (nI (zRs f a b r).toNat)))) 0 0 (fun _ => False) := by
  refine zMet (by decide) (Nat.le_of_ble_eq_true rfl) ?_
  intro p e R s m args below meth c Q ls hR hargs hQ S hr hlk hP hZ hS hnm hl
  have hl : lv_has ls 5 [(0, .ref (o)), (1, .int (nI (a))), (2, .int (nI (b))), (3, .int (nI (r)))] := hl
  refine z_ic S (k := 0) dX1_sameRuns_0 (by decide) ?_
  refine lv_istore (lv' := [(4, .int (nI (0))), (0, .ref (o)), (1, .int (nI (a))), (2, .int (nI (b))), (3, .int (nI (r)))]) S.1 S.2.1 dX1_sameRuns_1 hl (by decide) rfl (fun ls hl => ?_)
  have loop : ∀ (n i : Nat) (ls : Array Slot), (i ≤ r) → (r < i + n) → (∀ k, k < i → zRw f (a + k) (b + k) = true) → lv_has ls 5 [(0, .ref (o)), (1, .int (nI (a))), (2, .int (nI (b))), (3, .int (nI (r))), (4, .int (nI (i)))] → W p l e R s m args below meth c s.heap [] 0 0 Q (F0 m 3 ls []) := by
    intro n
    induction n with
    | zero => intro i ls h1 h2 hx hl; exact absurd h2 (by omega)
    | succ n ih =>
      intro i ls h1 h2 hx hl
      refine lv_iload S.1 S.2.1 dX1_sameRuns_3 (lv_at hl 4 rfl) ?_
      refine lv_iload_n S.1 S.2.1 dX1_sameRuns_5 rfl (lv_at hl 3 rfl) ?_
      refine z_cge (tgt := 32) S (by have := hw.1; omega) (by have := hw.1; omega) dX1_sameRuns_6 (by decide) (fun h4 => ?_) (fun h4 => ?_)
      · refine z_ic S (k := 1) dX1_sameRuns_32 (by decide) ?_
        exact z_ri hQ S hr hlk rfl (by rw [zRs, zAll_t (fun k hk => hx k (by omega))]; rfl) dX1_sameRuns_33
      · refine lv_aload_n S.1 S.2.1 dX1_sameRuns_9 rfl (lv_at hl 0 rfl) ?_
        refine lv_iload_n S.1 S.2.1 dX1_sameRuns_10 rfl (lv_at hl 1 rfl) ?_
        refine lv_iload S.1 S.2.1 dX1_sameRuns_11 (lv_at hl 4 rfl) ?_
        refine z_add S dX1_sameRuns_13 ?_
        refine lv_iload_n S.1 S.2.1 dX1_sameRuns_14 rfl (lv_at hl 2 rfl) ?_
        refine lv_iload S.1 S.2.1 dX1_sameRuns_15 (lv_at hl 4 rfl) ?_
        refine z_add S dX1_sameRuns_17 ?_
        refine z_cV (v := some (.int (nI (zRw f (a + i) (b + i)).toNat))) (rest := []) (As := [.int (nI (a + i)), .int (nI (b + i))]) S hZ hS (c_X1_sameRows l g f hw (a + i) (b + i) (by omega) (by omega)) ci_X1_sameRows cv_X1_sameRows k1106 ⟨rfl, rfl, by rw [hR]; decide, by rw [hR]; decide⟩ hP (hP.recv hZ.1 0 (by decide) rfl rfl rfl) hl.1 rfl (Nat.le_of_ble_eq_true rfl) dX1_sameRuns_18 ⟨by rw [hR]; decide, by rw [hR]; decide⟩ rfl ?_
        refine z_bne (tgt := 26) S dX1_sameRuns_21 (by decide) (fun h5 => ?_) (fun h5 => ?_)
        · refine z_inc S (lv' := [(4, .int (nI (i + 1))), (0, .ref (o)), (1, .int (nI (a))), (2, .int (nI (b))), (3, .int (nI (r)))]) (k := 4) (b := 1) dX1_sameRuns_26 hl rfl (by decide) (by decide) rfl (fun ls hl => ?_)
          refine lv_goto (tgt := 3) S.1 S.2.1 dX1_sameRuns_29 (by decide) ?_
          exact ih (i + 1) ls (by omega) (by omega) (fun k hk => by rcases (show k < i ∨ k = i by omega) with z | z; exact hx k z; subst z; exact h5) (lv_sub hl [1, 2, 3, 4, 0] rfl)
        · refine z_ic S (k := 0) dX1_sameRuns_24 (by decide) ?_
          exact z_ri hQ S hr hlk rfl (by rw [zRs, zAll_f (i := i) h5 h4]; rfl) dX1_sameRuns_25
  exact loop (r + 1) 0 ls (Nat.zero_le _) (by omega) (fun k hk => absurd hk (Nat.not_lt_zero k)) (lv_sub hl [1, 2, 3, 4, 0] rfl)
theorem ci_X1_overlapsItself : zCI yX1_overlapsItself cX1_overlapsItself 3 (some .boolean) 1 := ⟨k1171, k4, by decide +kernel⟩
theorem cv_X1_overlapsItself : Cond.instanceMethod yX1_overlapsItself ∈ GW ∧ Cond.selects (yX1_overlapsItself).cls yX1_overlapsItself yX1_overlapsItself ∈ GW := ⟨k1169, k1170⟩
set_option maxRecDepth 20000 in
set_option maxHeartbeats 4000000 in
/-- Cloth.overlapsItself(q) -/
theorem c_X1_overlapsItself (l : Launch) (g : ZG) {B : Nat} {o : Nat} (f : Nat → Nat → Nat) (hw : zKo f) (q : Nat) (hq : q ≤ f 0 3) : Met l yX1_overlapsItself (.code yX1_overlapsItself cX1_overlapsItself 3 (some .boolean) :: GW) { frames := 1, cells := 0, slots := 0, locals := 22 } (va_Pc [.ref o, .int (nI q)] (zPre g B (fun H => zPm g o 4 TC f H))) (zR (some (.int (nI (zOv f q).toNat)))) 0 0 (fun _ => False) := by
  refine zMet (by decide) (Nat.le_of_ble_eq_true rfl) ?_
  intro p e R s m args below meth c Q ls hR hargs hQ S hr hlk hP hZ hS hnm hl
  have hl : lv_has ls 3 [(0, .ref (o)), (1, .int (nI (q)))] := hl
  refine lv_iload_n S.1 S.2.1 dX1_overlapsItself_0 rfl (lv_at hl 1 rfl) ?_
  refine lv_istore_n (lv' := [(2, .int (nI (q))), (0, .ref (o)), (1, .int (nI (q)))]) S.1 S.2.1 dX1_overlapsItself_1 rfl hl (by decide) rfl (fun ls hl => ?_)
  have loop : ∀ (n i : Nat) (ls : Array Slot), (q + i ≤ f 0 3) → (f 0 3 < q + i + n) → (∀ k, k < i → zRw f (q + k) k = true) → lv_has ls 3 [(0, .ref (o)), (1, .int (nI (q))), (2, .int (nI (q + i)))] → W p l e R s m args below meth c s.heap [] 0 0 Q (F0 m 2 ls []) := by
    intro n
    induction n with
    | zero => intro i ls h1 h2 hx hl; exact absurd h2 (by omega)
    | succ n ih =>
      intro i ls h1 h2 hx hl
      refine lv_iload_n S.1 S.2.1 dX1_overlapsItself_2 rfl (lv_at hl 2 rfl) ?_
      refine lv_aload_n S.1 S.2.1 dX1_overlapsItself_3 rfl (lv_at hl 0 rfl) ?_
      refine z_get (v := .int (nI (f 0 3))) S hZ.1 hP 0 (by decide) rfl rfl rfl 3 (by decide) rfl k87 dX1_overlapsItself_4 ?_
      refine z_cge (tgt := 29) S (by have := hw.1; omega) hw.c dX1_overlapsItself_7 (by decide) (fun h4 => ?_) (fun h4 => ?_)
      · refine z_ic S (k := 1) dX1_overlapsItself_29 (by decide) ?_
        exact z_ri hQ S hr hlk rfl (by rw [zOv, zAll_t (fun k hk => hx k (by omega))]; rfl) dX1_overlapsItself_30
      · refine lv_aload_n S.1 S.2.1 dX1_overlapsItself_10 rfl (lv_at hl 0 rfl) ?_
        refine lv_iload_n S.1 S.2.1 dX1_overlapsItself_11 rfl (lv_at hl 2 rfl) ?_
        refine lv_iload_n S.1 S.2.1 dX1_overlapsItself_12 rfl (lv_at hl 2 rfl) ?_
        refine lv_iload_n S.1 S.2.1 dX1_overlapsItself_13 rfl (lv_at hl 1 rfl) ?_
        refine z_sub S (by omega) dX1_overlapsItself_14 ?_
        rw [show q + i - q = i by omega]
        refine z_cV (v := some (.int (nI (zRw f (q + i) i).toNat))) (rest := []) (As := [.int (nI (q + i)), .int (nI (i))]) S hZ hS (c_X1_sameRows l g f hw (q + i) i (by omega) (by omega)) ci_X1_sameRows cv_X1_sameRows k1106 ⟨rfl, rfl, by rw [hR]; decide, by rw [hR]; decide⟩ hP (hP.recv hZ.1 0 (by decide) rfl rfl rfl) hl.1 rfl (Nat.le_of_ble_eq_true rfl) dX1_overlapsItself_15 ⟨by rw [hR]; decide, by rw [hR]; decide⟩ rfl ?_
        refine z_bne (tgt := 23) S dX1_overlapsItself_18 (by decide) (fun h5 => ?_) (fun h5 => ?_)
        · refine z_inc S (lv' := [(2, .int (nI ((q + i) + 1))), (0, .ref (o)), (1, .int (nI (q)))]) (k := 2) (b := 1) dX1_overlapsItself_23 hl rfl (by decide) (by decide) rfl (fun ls hl => ?_)
          refine lv_goto (tgt := 2) S.1 S.2.1 dX1_overlapsItself_26 (by decide) ?_
          exact ih (i + 1) ls (by omega) (by omega) (fun k hk => by rcases (show k < i ∨ k = i by omega) with z | z; exact hx k z; subst z; exact h5) (lv_sub hl [1, 2, 0] rfl)
        · refine z_ic S (k := 0) dX1_overlapsItself_21 (by decide) ?_
          exact z_ri hQ S hr hlk rfl (by rw [zOv, zAll_f (p := fun i => zRw f (q + i) i) (i := i) h5 (by omega)]; rfl) dX1_overlapsItself_22
  exact loop (f 0 3 + 1) 0 ls (by omega) (by omega) (fun k hk => absurd hk (Nat.not_lt_zero k)) (lv_sub hl [1, 2, 0] rfl)
theorem ci_X1_longestBorder : zCI yX1_longestBorder cX1_longestBorder 2 (some .int) 0 := ⟨k1182, k4, by decide +kernel⟩
theorem cv_X1_longestBorder : Cond.instanceMethod yX1_longestBorder ∈ GW ∧ Cond.selects (yX1_longestBorder).cls yX1_longestBorder yX1_longestBorder ∈ GW := ⟨k1180, k1181⟩
set_option maxRecDepth 20000 in
set_option maxHeartbeats 4000000 in
/-- Cloth.longestBorder() -/
theorem c_X1_longestBorder (l : Launch) (g : ZG) {B : Nat} {o : Nat} (f : Nat → Nat → Nat) (hw : zKo f) (b : Nat) (hb : b < f 0 3) (hm : ∀ k, b < k → k < f 0 3 → zRs f 0 (f 0 3 - k) k = false) (he : b = 0 ∨ zRs f 0 (f 0 3 - b) b = true) : Met l yX1_longestBorder (.code yX1_longestBorder cX1_longestBorder 2 (some .int) :: GW) { frames := 2, cells := 0, slots := 0, locals := 46 } (va_Pc [.ref o] (zPre g B (fun H => zPm g o 4 TC f H))) (zR (some (.int (nI b)))) 0 0 (fun _ => False) := by
  refine zMet (by decide) (Nat.le_of_ble_eq_true rfl) ?_
  intro p e R s m args below meth c Q ls hR hargs hQ S hr hlk hP hZ hS hnm hl
  have hl : lv_has ls 2 [(0, .ref (o))] := hl
  refine lv_aload_n S.1 S.2.1 dX1_longestBorder_0 rfl (lv_at hl 0 rfl) ?_
  refine z_get (v := .int (nI (f 0 3))) S hZ.1 hP 0 (by decide) rfl rfl rfl 3 (by decide) rfl k87 dX1_longestBorder_1 ?_
  refine z_ic S (k := 1) dX1_longestBorder_4 (by decide) ?_
  refine z_sub S (by omega) dX1_longestBorder_5 ?_
  refine lv_istore_n (lv' := [(1, .int (nI ((f 0 3) - 1))), (0, .ref (o))]) S.1 S.2.1 dX1_longestBorder_6 rfl hl (by decide) rfl (fun ls hl => ?_)
  have loop : ∀ (n i : Nat) (ls : Array Slot), (b ≤ i) → (i < n) → (i < f 0 3) → lv_has ls 2 [(0, .ref (o)), (1, .int (nI (i)))] → W p l e R s m args below meth c s.heap [] 0 0 Q (F0 m 7 ls []) := by
    intro n
    induction n with
    | zero => intro i ls h1 h2 h3 hl; exact absurd h2 (by omega)
    | succ n ih =>
      intro i ls h1 h2 h3 hl
      refine lv_iload_n S.1 S.2.1 dX1_longestBorder_7 rfl (lv_at hl 1 rfl) ?_
      refine z_ile (tgt := 32) S (by have := hw.1; omega) dX1_longestBorder_8 (by decide) (fun h4 => ?_) (fun h4 => ?_)
      · refine lv_iload_n S.1 S.2.1 dX1_longestBorder_32 rfl (lv_at hl 1 rfl) ?_
        exact z_ri hQ S hr hlk (zn_int _) (by rw [show b = i by omega]) dX1_longestBorder_33
      · refine lv_aload_n S.1 S.2.1 dX1_longestBorder_11 rfl (lv_at hl 0 rfl) ?_
        refine z_ic S (k := 0) dX1_longestBorder_12 (by decide) ?_
        refine lv_aload_n S.1 S.2.1 dX1_longestBorder_13 rfl (lv_at hl 0 rfl) ?_
        refine z_get (v := .int (nI (f 0 3))) S hZ.1 hP 0 (by decide) rfl rfl rfl 3 (by decide) rfl k87 dX1_longestBorder_14 ?_
        refine lv_iload_n S.1 S.2.1 dX1_longestBorder_17 rfl (lv_at hl 1 rfl) ?_
        refine z_sub S (by omega) dX1_longestBorder_18 ?_
        refine lv_iload_n S.1 S.2.1 dX1_longestBorder_19 rfl (lv_at hl 1 rfl) ?_
        refine z_cV (v := some (.int (nI (zRs f 0 (f 0 3 - i) i).toNat))) (rest := []) (As := [.int (nI (0)), .int (nI ((f 0 3) - i)), .int (nI (i))]) S hZ hS (c_X1_sameRuns l g f hw 0 (f 0 3 - i) i (by omega) (by omega)) ci_X1_sameRuns cv_X1_sameRuns k1183 ⟨rfl, rfl, by rw [hR]; decide, by rw [hR]; decide⟩ hP (hP.recv hZ.1 0 (by decide) rfl rfl rfl) hl.1 rfl (Nat.le_of_ble_eq_true rfl) dX1_longestBorder_20 ⟨by rw [hR]; decide, by rw [hR]; decide⟩ rfl ?_
        refine z_bne (tgt := 32) S dX1_longestBorder_23 (by decide) (fun h5 => ?_) (fun h5 => ?_)
        · refine lv_iload_n S.1 S.2.1 dX1_longestBorder_32 rfl (lv_at hl 1 rfl) ?_
          exact z_ri hQ S hr hlk (zn_int _) (by rcases Nat.lt_or_ge b i with z | z; rw [hm i z (by omega)] at h5; cases h5; rw [show b = i by omega]) dX1_longestBorder_33
        · obtain ⟨j, rfl⟩ : ∃ j, i = j + 1 := ⟨i - 1, by omega⟩
          refine z_dec S (lv' := [(1, .int (nI (j))), (0, .ref (o))]) (k := 1) (a := j) dX1_longestBorder_26 hl rfl (by decide) rfl (fun ls hl => ?_)
          refine lv_goto (tgt := 7) S.1 S.2.1 dX1_longestBorder_29 (by decide) ?_
          exact ih j ls (by rcases Nat.lt_or_ge b (j + 1) with z | z; omega; rcases he with q | q; omega; rw [show b = j + 1 by omega, h5] at q; cases q) (by omega) (by omega) (lv_sub hl [1, 0] rfl)
  exact loop (f 0 3 + 1) (f 0 3 - 1) ls (by omega) (by omega) (by omega) (lv_sub hl [1, 0] rfl)
theorem ci_X1_countOfLast : zCI yX1_countOfLast cX1_countOfLast 5 (some .int) 1 := ⟨k1197, k4, by decide +kernel⟩
theorem cv_X1_countOfLast : Cond.instanceMethod yX1_countOfLast ∈ GW ∧ Cond.selects (yX1_countOfLast).cls yX1_countOfLast yX1_countOfLast ∈ GW := ⟨k1195, k1196⟩
set_option maxRecDepth 20000 in
set_option maxHeartbeats 4000000 in
/-- Cloth.countOfLast(r) -/
theorem c_X1_countOfLast (l : Launch) (g : ZG) {B : Nat} {o : Nat} (f : Nat → Nat → Nat) (hw : zKo f) (r : Nat) (h9 : r ≤ f 0 3) : Met l yX1_countOfLast (.code yX1_countOfLast cX1_countOfLast 5 (some .int) :: GW) { frames := 2, cells := 0, slots := 0, locals := 46 } (va_Pc [.ref o, .int (nI r)] (zPre g B (fun H => zPm g o 4 TC f H))) (zR (some (.int (nI (zCl f r))))) 0 0 (fun _ => False) := by
  refine zMet (by decide) (Nat.le_of_ble_eq_true rfl) ?_
  intro p e R s m args below meth c Q ls hR hargs hQ S hr hlk hP hZ hS hnm hl
  have hl : lv_has ls 5 [(0, .ref (o)), (1, .int (nI (r)))] := hl
  refine lv_aload_n S.1 S.2.1 dX1_countOfLast_0 rfl (lv_at hl 0 rfl) ?_
  refine z_get (v := .int (nI (f 0 3))) S hZ.1 hP 0 (by decide) rfl rfl rfl 3 (by decide) rfl k87 dX1_countOfLast_1 ?_
  refine lv_iload_n S.1 S.2.1 dX1_countOfLast_4 rfl (lv_at hl 1 rfl) ?_
  refine z_sub S h9 dX1_countOfLast_5 ?_
  refine lv_istore_n (lv' := [(2, .int (nI ((f 0 3) - r))), (0, .ref (o)), (1, .int (nI (r)))]) S.1 S.2.1 dX1_countOfLast_6 rfl hl (by decide) rfl (fun ls hl => ?_)
  refine z_ic S (k := 0) dX1_countOfLast_7 (by decide) ?_
  refine lv_istore_n (lv' := [(3, .int (nI (0))), (2, .int (nI ((f 0 3) - r))), (0, .ref (o)), (1, .int (nI (r)))]) S.1 S.2.1 dX1_countOfLast_8 rfl hl (by decide) rfl (fun ls hl => ?_)
  refine z_ic S (k := 0) dX1_countOfLast_9 (by decide) ?_
  refine lv_istore (lv' := [(4, .int (nI (0))), (3, .int (nI (0))), (2, .int (nI ((f 0 3) - r))), (0, .ref (o)), (1, .int (nI (r)))]) S.1 S.2.1 dX1_countOfLast_10 hl (by decide) rfl (fun ls hl => ?_)
  have loop : ∀ (n i x : Nat) (ls : Array Slot), (i ≤ f 0 3 - r + 1) → (f 0 3 - r + 1 < i + n) → (x = zSum (fun i => (zRs f i (f 0 3 - r) r).toNat) i) → lv_has ls 5 [(0, .ref (o)), (1, .int (nI (r))), (2, .int (nI ((f 0 3) - r))), (3, .int (nI (x))), (4, .int (nI (i)))] → W p l e R s m args below meth c s.heap [] 0 0 Q (F0 m 12 ls []) := by
    intro n
    induction n with
    | zero => intro i x ls h1 h2 hx hl; exact absurd h2 (by omega)
    | succ n ih =>
      intro i x ls h1 h2 hx hl
      refine lv_iload S.1 S.2.1 dX1_countOfLast_12 (lv_at hl 4 rfl) ?_
      refine lv_iload_n S.1 S.2.1 dX1_countOfLast_14 rfl (lv_at hl 2 rfl) ?_
      refine z_cgt (tgt := 38) S (by have := hw.1; omega) (by have := hw.1; omega) dX1_countOfLast_15 (by decide) (fun h4 => ?_) (fun h4 => ?_)
      · refine lv_iload_n S.1 S.2.1 dX1_countOfLast_38 rfl (lv_at hl 3 rfl) ?_
        exact z_ri hQ S hr hlk (zn_int _) (by rw [hx, zCl, show i = f 0 3 - r + 1 by omega]) dX1_countOfLast_39
      · refine lv_aload_n S.1 S.2.1 dX1_countOfLast_18 rfl (lv_at hl 0 rfl) ?_
        refine lv_iload S.1 S.2.1 dX1_countOfLast_19 (lv_at hl 4 rfl) ?_
        refine lv_iload_n S.1 S.2.1 dX1_countOfLast_21 rfl (lv_at hl 2 rfl) ?_
        refine lv_iload_n S.1 S.2.1 dX1_countOfLast_22 rfl (lv_at hl 1 rfl) ?_
        refine z_cV (v := some (.int (nI (zRs f i (f 0 3 - r) r).toNat))) (rest := []) (As := [.int (nI (i)), .int (nI ((f 0 3) - r)), .int (nI (r))]) S hZ hS (c_X1_sameRuns l g f hw i (f 0 3 - r) r (by omega) (by omega)) ci_X1_sameRuns cv_X1_sameRuns k1183 ⟨rfl, rfl, by rw [hR]; decide, by rw [hR]; decide⟩ hP (hP.recv hZ.1 0 (by decide) rfl rfl rfl) hl.1 rfl (Nat.le_of_ble_eq_true rfl) dX1_countOfLast_23 ⟨by rw [hR]; decide, by rw [hR]; decide⟩ rfl ?_
        refine z_beq (tgt := 32) S dX1_countOfLast_26 (by decide) (fun h5 => ?_) (fun h5 => ?_)
        · refine z_inc S (lv' := [(4, .int (nI (i + 1))), (0, .ref (o)), (1, .int (nI (r))), (2, .int (nI ((f 0 3) - r))), (3, .int (nI (x)))]) (k := 4) (b := 1) dX1_countOfLast_32 hl rfl (by decide) (by decide) rfl (fun ls hl => ?_)
          refine lv_goto (tgt := 12) S.1 S.2.1 dX1_countOfLast_35 (by decide) ?_
          exact ih (i + 1) x ls (by omega) (by omega) (by rw [zSum, hx, h5]; rfl) (lv_sub hl [1, 2, 3, 4, 0] rfl)
        · refine z_inc S (lv' := [(3, .int (nI (x + 1))), (0, .ref (o)), (1, .int (nI (r))), (2, .int (nI ((f 0 3) - r))), (4, .int (nI (i)))]) (k := 3) (b := 1) dX1_countOfLast_29 hl rfl (by decide) (by decide) rfl (fun ls hl => ?_)
          refine z_inc S (lv' := [(4, .int (nI (i + 1))), (3, .int (nI (x + 1))), (0, .ref (o)), (1, .int (nI (r))), (2, .int (nI ((f 0 3) - r)))]) (k := 4) (b := 1) dX1_countOfLast_32 hl rfl (by decide) (by decide) rfl (fun ls hl => ?_)
          refine lv_goto (tgt := 12) S.1 S.2.1 dX1_countOfLast_35 (by decide) ?_
          exact ih (i + 1) (x + 1) ls (by omega) (by omega) (by rw [zSum, hx, h5]; rfl) (lv_sub hl [2, 3, 4, 1, 0] rfl)
  exact loop (f 0 3 + 2) 0 0 ls (Nat.zero_le _) (by omega) rfl (lv_sub hl [3, 4, 2, 1, 0] rfl)
theorem ci_X1_isNew : zCI yX1_isNew cX1_isNew 3 (some .boolean) 1 := ⟨k1105, k4, by decide +kernel⟩
theorem cv_X1_isNew : Cond.instanceMethod yX1_isNew ∈ GW ∧ Cond.selects (yX1_isNew).cls yX1_isNew yX1_isNew ∈ GW := ⟨k1104, kp27⟩
set_option maxRecDepth 20000 in
set_option maxHeartbeats 4000000 in
/-- Cloth.isNew(r) -/
theorem c_X1_isNew (l : Launch) (g : ZG) {B : Nat} {o : Nat} (f : Nat → Nat → Nat) (hw : zKo f) (r : Nat) (h9 : r < f 0 3) : Met l yX1_isNew (.code yX1_isNew cX1_isNew 3 (some .boolean) :: GW) { frames := 1, cells := 0, slots := 0, locals := 22 } (va_Pc [.ref o, .int (nI r)] (zPre g B (fun H => zPm g o 4 TC f H))) (zR (some (.int (nI (zNw f r).toNat)))) 0 0 (fun _ => False) := by
  refine zMet (by decide) (Nat.le_of_ble_eq_true rfl) ?_
  intro p e R s m args below meth c Q ls hR hargs hQ S hr hlk hP hZ hS hnm hl
  have hl : lv_has ls 3 [(0, .ref (o)), (1, .int (nI (r)))] := hl
  refine z_ic S (k := 0) dX1_isNew_0 (by decide) ?_
  refine lv_istore_n (lv' := [(2, .int (nI (0))), (0, .ref (o)), (1, .int (nI (r)))]) S.1 S.2.1 dX1_isNew_1 rfl hl (by decide) rfl (fun ls hl => ?_)
  have loop : ∀ (n i : Nat) (ls : Array Slot), (i ≤ r) → (r < i + n) → (∀ k, k < i → (!zRw f k r) = true) → lv_has ls 3 [(0, .ref (o)), (1, .int (nI (r))), (2, .int (nI (i)))] → W p l e R s m args below meth c s.heap [] 0 0 Q (F0 m 2 ls []) := by
    intro n
    induction n with
    | zero => intro i ls h1 h2 hx hl; exact absurd h2 (by omega)
    | succ n ih =>
      intro i ls h1 h2 hx hl
      refine lv_iload_n S.1 S.2.1 dX1_isNew_2 rfl (lv_at hl 2 rfl) ?_
      refine lv_iload_n S.1 S.2.1 dX1_isNew_3 rfl (lv_at hl 1 rfl) ?_
      refine z_cge (tgt := 24) S (by have := hw.1; omega) (by have := hw.1; omega) dX1_isNew_4 (by decide) (fun h4 => ?_) (fun h4 => ?_)
      · refine z_ic S (k := 1) dX1_isNew_24 (by decide) ?_
        exact z_ri hQ S hr hlk rfl (by rw [zNw, zAll_t (fun k hk => hx k (by omega))]; rfl) dX1_isNew_25
      · refine lv_aload_n S.1 S.2.1 dX1_isNew_7 rfl (lv_at hl 0 rfl) ?_
        refine lv_iload_n S.1 S.2.1 dX1_isNew_8 rfl (lv_at hl 2 rfl) ?_
        refine lv_iload_n S.1 S.2.1 dX1_isNew_9 rfl (lv_at hl 1 rfl) ?_
        refine z_cV (v := some (.int (nI (zRw f i r).toNat))) (rest := []) (As := [.int (nI (i)), .int (nI (r))]) S hZ hS (c_X1_sameRows l g f hw i r (by omega) (by omega)) ci_X1_sameRows cv_X1_sameRows k1106 ⟨rfl, rfl, by rw [hR]; decide, by rw [hR]; decide⟩ hP (hP.recv hZ.1 0 (by decide) rfl rfl rfl) hl.1 rfl (Nat.le_of_ble_eq_true rfl) dX1_isNew_10 ⟨by rw [hR]; decide, by rw [hR]; decide⟩ rfl ?_
        refine z_beq (tgt := 18) S dX1_isNew_13 (by decide) (fun h5 => ?_) (fun h5 => ?_)
        · refine z_inc S (lv' := [(2, .int (nI (i + 1))), (0, .ref (o)), (1, .int (nI (r)))]) (k := 2) (b := 1) dX1_isNew_18 hl rfl (by decide) (by decide) rfl (fun ls hl => ?_)
          refine lv_goto (tgt := 2) S.1 S.2.1 dX1_isNew_21 (by decide) ?_
          exact ih (i + 1) ls (by omega) (by omega) (fun k hk => by rcases (show k < i ∨ k = i by omega) with z | z; exact hx k z; subst z; rw [h5]; rfl) (lv_sub hl [1, 2, 0] rfl)
        · refine z_ic S (k := 0) dX1_isNew_16 (by decide) ?_
          exact z_ri hQ S hr hlk rfl (by rw [zNw, zAll_f (i := i) (by rw [h5]; rfl) h4]; rfl) dX1_isNew_17
  exact loop (r + 1) 0 ls (Nat.zero_le _) (by omega) (fun k hk => absurd hk (Nat.not_lt_zero k)) (lv_sub hl [1, 2, 0] rfl)
theorem ci_X1_countDifferent : zCI yX1_countDifferent cX1_countDifferent 3 (some .int) 0 := ⟨k1101, k4, by decide +kernel⟩
theorem cv_X1_countDifferent : Cond.instanceMethod yX1_countDifferent ∈ GW ∧ Cond.selects (yX1_countDifferent).cls yX1_countDifferent yX1_countDifferent ∈ GW := ⟨k1099, k1100⟩
set_option maxRecDepth 20000 in
set_option maxHeartbeats 4000000 in
/-- Cloth.countDifferent() -/
theorem c_X1_countDifferent (l : Launch) (g : ZG) {B : Nat} {o : Nat} (f : Nat → Nat → Nat) (hw : zKo f) : Met l yX1_countDifferent (.code yX1_countDifferent cX1_countDifferent 3 (some .int) :: GW) { frames := 2, cells := 0, slots := 0, locals := 44 } (va_Pc [.ref o] (zPre g B (fun H => zPm g o 4 TC f H))) (zR (some (.int (nI (zCd f))))) 0 0 (fun _ => False) := by
  refine zMet (by decide) (Nat.le_of_ble_eq_true rfl) ?_
  intro p e R s m args below meth c Q ls hR hargs hQ S hr hlk hP hZ hS hnm hl
  have hl : lv_has ls 3 [(0, .ref (o))] := hl
  refine z_ic S (k := 0) dX1_countDifferent_0 (by decide) ?_
  refine lv_istore_n (lv' := [(1, .int (nI (0))), (0, .ref (o))]) S.1 S.2.1 dX1_countDifferent_1 rfl hl (by decide) rfl (fun ls hl => ?_)
  refine z_ic S (k := 0) dX1_countDifferent_2 (by decide) ?_
  refine lv_istore_n (lv' := [(2, .int (nI (0))), (1, .int (nI (0))), (0, .ref (o))]) S.1 S.2.1 dX1_countDifferent_3 rfl hl (by decide) rfl (fun ls hl => ?_)
  have loop : ∀ (n i x : Nat) (ls : Array Slot), (i ≤ f 0 3) → (f 0 3 < i + n) → (x = zSum (fun i => (zNw f i).toNat) i) → lv_has ls 3 [(0, .ref (o)), (1, .int (nI (x))), (2, .int (nI (i)))] → W p l e R s m args below meth c s.heap [] 0 0 Q (F0 m 4 ls []) := by
    intro n
    induction n with
    | zero => intro i x ls h1 h2 hx hl; exact absurd h2 (by omega)
    | succ n ih =>
      intro i x ls h1 h2 hx hl
      refine lv_iload_n S.1 S.2.1 dX1_countDifferent_4 rfl (lv_at hl 2 rfl) ?_
      refine lv_aload_n S.1 S.2.1 dX1_countDifferent_5 rfl (lv_at hl 0 rfl) ?_
      refine z_get (v := .int (nI (f 0 3))) S hZ.1 hP 0 (by decide) rfl rfl rfl 3 (by decide) rfl k87 dX1_countDifferent_6 ?_
      refine z_cge (tgt := 29) S (by have := hw.1; omega) hw.c dX1_countDifferent_9 (by decide) (fun h4 => ?_) (fun h4 => ?_)
      · refine lv_iload_n S.1 S.2.1 dX1_countDifferent_29 rfl (lv_at hl 1 rfl) ?_
        obtain rfl : i = f 0 3 := by omega
        exact z_ri hQ S hr hlk (zn_int _) (by rw [hx]; rfl) dX1_countDifferent_30
      · refine lv_aload_n S.1 S.2.1 dX1_countDifferent_12 rfl (lv_at hl 0 rfl) ?_
        refine lv_iload_n S.1 S.2.1 dX1_countDifferent_13 rfl (lv_at hl 2 rfl) ?_
        refine z_cV (v := some (.int (nI (zNw f i).toNat))) (rest := []) (As := [.int (nI (i))]) S hZ hS (c_X1_isNew l g f hw i h4) ci_X1_isNew cv_X1_isNew k1102 ⟨rfl, rfl, by rw [hR]; decide, by rw [hR]; decide⟩ hP (hP.recv hZ.1 0 (by decide) rfl rfl rfl) hl.1 rfl (Nat.le_of_ble_eq_true rfl) dX1_countDifferent_14 ⟨by rw [hR]; decide, by rw [hR]; decide⟩ rfl ?_
        refine z_beq (tgt := 23) S dX1_countDifferent_17 (by decide) (fun h5 => ?_) (fun h5 => ?_)
        · refine z_inc S (lv' := [(2, .int (nI (i + 1))), (0, .ref (o)), (1, .int (nI (x)))]) (k := 2) (b := 1) dX1_countDifferent_23 hl rfl (by decide) (by decide) rfl (fun ls hl => ?_)
          refine lv_goto (tgt := 4) S.1 S.2.1 dX1_countDifferent_26 (by decide) ?_
          exact ih (i + 1) x ls (by omega) (by omega) (by rw [zSum, hx, h5]; rfl) (lv_sub hl [1, 2, 0] rfl)
        · refine z_inc S (lv' := [(1, .int (nI (x + 1))), (0, .ref (o)), (2, .int (nI (i)))]) (k := 1) (b := 1) dX1_countDifferent_20 hl rfl (by decide) (by decide) rfl (fun ls hl => ?_)
          refine z_inc S (lv' := [(2, .int (nI (i + 1))), (1, .int (nI (x + 1))), (0, .ref (o))]) (k := 2) (b := 1) dX1_countDifferent_23 hl rfl (by decide) (by decide) rfl (fun ls hl => ?_)
          refine lv_goto (tgt := 4) S.1 S.2.1 dX1_countDifferent_26 (by decide) ?_
          exact ih (i + 1) (x + 1) ls (by omega) (by omega) (by rw [zSum, hx, h5]; rfl) (lv_sub hl [2, 1, 0] rfl)
  exact loop (f 0 3 + 1) 0 0 ls (Nat.zero_le _) (by omega) rfl (lv_sub hl [2, 1, 0] rfl)
theorem ci_X1_sameReversed : zCI yX1_sameReversed cX1_sameReversed 2 (some .boolean) 0 := ⟨k1117, k4, by decide +kernel⟩
theorem cv_X1_sameReversed : Cond.instanceMethod yX1_sameReversed ∈ GW ∧ Cond.selects (yX1_sameReversed).cls yX1_sameReversed yX1_sameReversed ∈ GW := ⟨k1115, k1116⟩
set_option maxRecDepth 20000 in
set_option maxHeartbeats 4000000 in
/-- Cloth.sameReversed() -/
theorem c_X1_sameReversed (l : Launch) (g : ZG) {B : Nat} {o : Nat} (f : Nat → Nat → Nat) (hw : zKo f) : Met l yX1_sameReversed (.code yX1_sameReversed cX1_sameReversed 2 (some .boolean) :: GW) { frames := 1, cells := 0, slots := 0, locals := 22 } (va_Pc [.ref o] (zPre g B (fun H => zPm g o 4 TC f H))) (zR (some (.int (nI (zSy f).toNat)))) 0 0 (fun _ => False) := by
  refine zMet (by decide) (Nat.le_of_ble_eq_true rfl) ?_
  intro p e R s m args below meth c Q ls hR hargs hQ S hr hlk hP hZ hS hnm hl
  have hl : lv_has ls 2 [(0, .ref (o))] := hl
  refine z_ic S (k := 0) dX1_sameReversed_0 (by decide) ?_
  refine lv_istore_n (lv' := [(1, .int (nI (0))), (0, .ref (o))]) S.1 S.2.1 dX1_sameReversed_1 rfl hl (by decide) rfl (fun ls hl => ?_)
  have loop : ∀ (n i : Nat) (ls : Array Slot), (i ≤ f 0 3) → (f 0 3 < i + n) → (∀ k, k < i → zRw f k (f 0 3 - 1 - k) = true) → lv_has ls 2 [(0, .ref (o)), (1, .int (nI (i)))] → W p l e R s m args below meth c s.heap [] 0 0 Q (F0 m 2 ls []) := by
    intro n
    induction n with
    | zero => intro i ls h1 h2 hx hl; exact absurd h2 (by omega)
    | succ n ih =>
      intro i ls h1 h2 hx hl
      refine lv_iload_n S.1 S.2.1 dX1_sameReversed_2 rfl (lv_at hl 1 rfl) ?_
      refine lv_aload_n S.1 S.2.1 dX1_sameReversed_3 rfl (lv_at hl 0 rfl) ?_
      refine z_get (v := .int (nI (f 0 3))) S hZ.1 hP 0 (by decide) rfl rfl rfl 3 (by decide) rfl k87 dX1_sameReversed_4 ?_
      refine z_cge (tgt := 34) S (by have := hw.1; omega) hw.c dX1_sameReversed_7 (by decide) (fun h4 => ?_) (fun h4 => ?_)
      · refine z_ic S (k := 1) dX1_sameReversed_34 (by decide) ?_
        exact z_ri hQ S hr hlk rfl (by rw [zSy, zAll_t (fun k hk => hx k (by omega))]; rfl) dX1_sameReversed_35
      · refine lv_aload_n S.1 S.2.1 dX1_sameReversed_10 rfl (lv_at hl 0 rfl) ?_
        refine lv_iload_n S.1 S.2.1 dX1_sameReversed_11 rfl (lv_at hl 1 rfl) ?_
        refine lv_aload_n S.1 S.2.1 dX1_sameReversed_12 rfl (lv_at hl 0 rfl) ?_
        refine z_get (v := .int (nI (f 0 3))) S hZ.1 hP 0 (by decide) rfl rfl rfl 3 (by decide) rfl k87 dX1_sameReversed_13 ?_
        refine z_ic S (k := 1) dX1_sameReversed_16 (by decide) ?_
        refine z_sub S (by omega) dX1_sameReversed_17 ?_
        refine lv_iload_n S.1 S.2.1 dX1_sameReversed_18 rfl (lv_at hl 1 rfl) ?_
        refine z_sub S (by omega) dX1_sameReversed_19 ?_
        refine z_cV (v := some (.int (nI (zRw f i (f 0 3 - 1 - i)).toNat))) (rest := []) (As := [.int (nI (i)), .int (nI (((f 0 3) - 1) - i))]) S hZ hS (c_X1_sameRows l g f hw i (f 0 3 - 1 - i) (by omega) (by omega)) ci_X1_sameRows cv_X1_sameRows k1106 ⟨rfl, rfl, by rw [hR]; decide, by rw [hR]; decide⟩ hP (hP.recv hZ.1 0 (by decide) rfl rfl rfl) hl.1 rfl (Nat.le_of_ble_eq_true rfl) dX1_sameReversed_20 ⟨by rw [hR]; decide, by rw [hR]; decide⟩ rfl ?_
        refine z_bne (tgt := 28) S dX1_sameReversed_23 (by decide) (fun h5 => ?_) (fun h5 => ?_)
        · refine z_inc S (lv' := [(1, .int (nI (i + 1))), (0, .ref (o))]) (k := 1) (b := 1) dX1_sameReversed_28 hl rfl (by decide) (by decide) rfl (fun ls hl => ?_)
          refine lv_goto (tgt := 2) S.1 S.2.1 dX1_sameReversed_31 (by decide) ?_
          exact ih (i + 1) ls (by omega) (by omega) (fun k hk => by rcases (show k < i ∨ k = i by omega) with z | z; exact hx k z; subst z; exact h5) (lv_sub hl [1, 0] rfl)
        · refine z_ic S (k := 0) dX1_sameReversed_26 (by decide) ?_
          exact z_ri hQ S hr hlk rfl (by rw [zSy, zAll_f (i := i) h5 h4]; rfl) dX1_sameReversed_27
  exact loop (f 0 3 + 1) 0 ls (Nat.zero_le _) (by omega) (fun k hk => absurd hk (Nat.not_lt_zero k)) (lv_sub hl [1, 0] rfl)
theorem zLr_le (f : Nat → Nat → Nat) (c : Nat) : ∀ n, (zLr f c n).1 ≤ n ∧ (zLr f c n).2 ≤ n
  | 0 => by simp [zLr]
  | n + 1 => by
    have h := zLr_le f c n
    simp only [zLr]
    refine ⟨Nat.max_le.mpr ⟨by omega, ?_⟩, ?_⟩ <;> split <;> omega
theorem ci_X1_longestRaisedRun : zCI yX1_longestRaisedRun cX1_longestRaisedRun 5 (some .int) 1 := ⟨k1209, k4, by decide +kernel⟩
theorem cv_X1_longestRaisedRun : Cond.instanceMethod yX1_longestRaisedRun ∈ GW ∧ Cond.selects (yX1_longestRaisedRun).cls yX1_longestRaisedRun yX1_longestRaisedRun ∈ GW := ⟨k1207, k1208⟩
set_option maxRecDepth 20000 in
set_option maxHeartbeats 4000000 in
/-- Cloth.longestRaisedRun(c0) -/
theorem c_X1_longestRaisedRun (l : Launch) (g : ZG) {B : Nat} {o : Nat} (f : Nat → Nat → Nat) (hw : zKo f) (c0 : Nat) (h9 : c0 < 16) : Met l yX1_longestRaisedRun (.code yX1_longestRaisedRun cX1_longestRaisedRun 5 (some .int) :: GW) { frames := 1, cells := 0, slots := 0, locals := 40 } (va_Pc [.ref o, .int (nI c0)] (zPre g B (fun H => zPm g o 4 TC f H))) (zR (some (.int (nI (zLr f c0 (f 0 3)).1)))) 0 0 (fun _ => False) := by
  refine zMet (by decide) (Nat.le_of_ble_eq_true rfl) ?_
  intro p e R s m args below meth c Q ls hR hargs hQ S hr hlk hP hZ hS hnm hl
  have hl : lv_has ls 5 [(0, .ref (o)), (1, .int (nI (c0)))] := hl
  refine z_ic S (k := 0) dX1_longestRaisedRun_0 (by decide) ?_
  refine lv_istore_n (lv' := [(2, .int (nI (0))), (0, .ref (o)), (1, .int (nI (c0)))]) S.1 S.2.1 dX1_longestRaisedRun_1 rfl hl (by decide) rfl (fun ls hl => ?_)
  refine z_ic S (k := 0) dX1_longestRaisedRun_2 (by decide) ?_
  refine lv_istore_n (lv' := [(3, .int (nI (0))), (2, .int (nI (0))), (0, .ref (o)), (1, .int (nI (c0)))]) S.1 S.2.1 dX1_longestRaisedRun_3 rfl hl (by decide) rfl (fun ls hl => ?_)
  refine z_ic S (k := 0) dX1_longestRaisedRun_4 (by decide) ?_
  refine lv_istore (lv' := [(4, .int (nI (0))), (3, .int (nI (0))), (2, .int (nI (0))), (0, .ref (o)), (1, .int (nI (c0)))]) S.1 S.2.1 dX1_longestRaisedRun_5 hl (by decide) rfl (fun ls hl => ?_)
  have loop : ∀ (n i x y : Nat) (ls : Array Slot), (i ≤ f 0 3) → (f 0 3 < i + n) → (x = (zLr f c0 i).1) → (y = (zLr f c0 i).2) → lv_has ls 5 [(0, .ref (o)), (1, .int (nI (c0))), (2, .int (nI (x))), (3, .int (nI (y))), (4, .int (nI (i)))] → W p l e R s m args below meth c s.heap [] 0 0 Q (F0 m 7 ls []) := by
    intro n
    induction n with
    | zero => intro i x y ls h1 h2 hx hy hl; exact absurd h2 (by omega)
    | succ n ih =>
      intro i x y ls h1 h2 hx hy hl
      refine lv_iload S.1 S.2.1 dX1_longestRaisedRun_7 (lv_at hl 4 rfl) ?_
      refine lv_aload_n S.1 S.2.1 dX1_longestRaisedRun_9 rfl (lv_at hl 0 rfl) ?_
      refine z_get (v := .int (nI (f 0 3))) S hZ.1 hP 0 (by decide) rfl rfl rfl 3 (by decide) rfl k87 dX1_longestRaisedRun_10 ?_
      refine z_cge (tgt := 46) S (by have := hw.1; omega) hw.c dX1_longestRaisedRun_13 (by decide) (fun h4 => ?_) (fun h4 => ?_)
      · refine lv_iload_n S.1 S.2.1 dX1_longestRaisedRun_46 rfl (lv_at hl 2 rfl) ?_
        obtain rfl : i = f 0 3 := by omega
        exact z_ri hQ S hr hlk (zn_int _) (by rw [hx]) dX1_longestRaisedRun_47
      · have hle := zLr_le f c0 i
        refine lv_aload_n S.1 S.2.1 dX1_longestRaisedRun_16 rfl (lv_at hl 0 rfl) ?_
        refine lv_iload S.1 S.2.1 dX1_longestRaisedRun_17 (lv_at hl 4 rfl) ?_
        refine lv_iload_n S.1 S.2.1 dX1_longestRaisedRun_19 rfl (lv_at hl 1 rfl) ?_
        refine z_cV (v := some (.int (nI (zBt (f 1 i) c0).toNat))) (rest := []) (As := [.int (nI (i)), .int (nI (c0))]) S hZ hS (c_X1_raisedAt l g f hw i c0 h4 h9) ci_X1_raisedAt cv_X1_raisedAt k1210 ⟨rfl, rfl, by rw [hR]; decide, by rw [hR]; decide⟩ hP (hP.recv hZ.1 0 (by decide) rfl rfl rfl) hl.1 rfl (Nat.le_of_ble_eq_true rfl) dX1_longestRaisedRun_20 ⟨by rw [hR]; decide, by rw [hR]; decide⟩ rfl ?_
        refine z_beq (tgt := 32) S dX1_longestRaisedRun_23 (by decide) (fun h5 => ?_) (fun h5 => ?_)
        · refine z_ic S (k := 0) dX1_longestRaisedRun_32 (by decide) ?_
          refine lv_istore_n (lv' := [(3, .int (nI (0))), (0, .ref (o)), (1, .int (nI (c0))), (2, .int (nI (x))), (4, .int (nI (i)))]) S.1 S.2.1 dX1_longestRaisedRun_33 rfl hl (by decide) rfl (fun ls hl => ?_)
          refine lv_iload_n S.1 S.2.1 dX1_longestRaisedRun_34 rfl (lv_at hl 3 rfl) ?_
          refine lv_iload_n S.1 S.2.1 dX1_longestRaisedRun_35 rfl (lv_at hl 0 rfl) ?_
          refine z_max S (by have := hw.1; omega) (by omega) hl.1 k1211 ⟨k767, k21, k768⟩ (by rw [hR]; decide) (by rw [hR]; decide) (by rw [hR]; decide) (by rw [hR]; decide) dX1_longestRaisedRun_36 ?_
          refine lv_istore_n (lv' := [(2, .int (nI (max x 0))), (3, .int (nI (0))), (0, .ref (o)), (1, .int (nI (c0))), (4, .int (nI (i)))]) S.1 S.2.1 dX1_longestRaisedRun_39 rfl hl (by decide) rfl (fun ls hl => ?_)
          refine z_inc S (lv' := [(4, .int (nI (i + 1))), (2, .int (nI (max x 0))), (3, .int (nI (0))), (0, .ref (o)), (1, .int (nI (c0)))]) (k := 4) (b := 1) dX1_longestRaisedRun_40 hl rfl (by decide) (by decide) rfl (fun ls hl => ?_)
          refine lv_goto (tgt := 7) S.1 S.2.1 dX1_longestRaisedRun_43 (by decide) ?_
          exact ih (i + 1) (max x 0) 0 ls (by omega) (by omega) (by simp only [zLr]; rw [hx, h5]; simp) (by simp only [zLr]; rw [h5]; simp) (lv_sub hl [3, 4, 1, 2, 0] rfl)
        · refine lv_iload_n S.1 S.2.1 dX1_longestRaisedRun_26 rfl (lv_at hl 3 rfl) ?_
          refine z_ic S (k := 1) dX1_longestRaisedRun_27 (by decide) ?_
          refine z_add S dX1_longestRaisedRun_28 ?_
          refine lv_goto (tgt := 33) S.1 S.2.1 dX1_longestRaisedRun_29 (by decide) ?_
          refine lv_istore_n (lv' := [(3, .int (nI (y + 1))), (0, .ref (o)), (1, .int (nI (c0))), (2, .int (nI (x))), (4, .int (nI (i)))]) S.1 S.2.1 dX1_longestRaisedRun_33 rfl hl (by decide) rfl (fun ls hl => ?_)
          refine lv_iload_n S.1 S.2.1 dX1_longestRaisedRun_34 rfl (lv_at hl 3 rfl) ?_
          refine lv_iload_n S.1 S.2.1 dX1_longestRaisedRun_35 rfl (lv_at hl 0 rfl) ?_
          refine z_max S (by have := hw.1; omega) (by have := hw.1; omega) hl.1 k1211 ⟨k767, k21, k768⟩ (by rw [hR]; decide) (by rw [hR]; decide) (by rw [hR]; decide) (by rw [hR]; decide) dX1_longestRaisedRun_36 ?_
          refine lv_istore_n (lv' := [(2, .int (nI (max x (y + 1)))), (3, .int (nI (y + 1))), (0, .ref (o)), (1, .int (nI (c0))), (4, .int (nI (i)))]) S.1 S.2.1 dX1_longestRaisedRun_39 rfl hl (by decide) rfl (fun ls hl => ?_)
          refine z_inc S (lv' := [(4, .int (nI (i + 1))), (2, .int (nI (max x (y + 1)))), (3, .int (nI (y + 1))), (0, .ref (o)), (1, .int (nI (c0)))]) (k := 4) (b := 1) dX1_longestRaisedRun_40 hl rfl (by decide) (by decide) rfl (fun ls hl => ?_)
          refine lv_goto (tgt := 7) S.1 S.2.1 dX1_longestRaisedRun_43 (by decide) ?_
          exact ih (i + 1) (max x (y + 1)) (y + 1) ls (by omega) (by omega) (by simp only [zLr]; rw [hx, hy, h5]; simp) (by simp only [zLr]; rw [hy, h5]; simp) (lv_sub hl [3, 4, 1, 2, 0] rfl)
  exact loop (f 0 3 + 1) 0 0 0 ls (Nat.zero_le _) (by omega) rfl rfl (lv_sub hl [3, 4, 2, 1, 0] rfl)
theorem ci_X1_firstKnottedRow : zCI yX1_firstKnottedRow cX1_firstKnottedRow 3 (some .int) 1 := ⟨k1235, k4, by decide +kernel⟩
theorem cv_X1_firstKnottedRow : Cond.instanceMethod yX1_firstKnottedRow ∈ GW ∧ Cond.selects (yX1_firstKnottedRow).cls yX1_firstKnottedRow yX1_firstKnottedRow ∈ GW := ⟨k1233, k1234⟩
set_option maxRecDepth 20000 in
set_option maxHeartbeats 4000000 in
/-- Cloth.firstKnottedRow(a), found -/
theorem c_X1_firstKnottedRow (l : Launch) (g : ZG) {B : Nat} {o : Nat} (f : Nat → Nat → Nat) (hw : zKo f) (a b : Nat) (hab : a ≤ b) (hb : b < f 0 3) (hno : ∀ k, a ≤ k → k < b → f 3 k = 0) (hyes : ¬ f 3 b = 0) : Met l yX1_firstKnottedRow (.code yX1_firstKnottedRow cX1_firstKnottedRow 3 (some .int) :: GW) { frames := 0, cells := 0, slots := 0, locals := 0 } (va_Pc [.ref o, .int (nI a)] (zPre g B (fun H => zPm g o 4 TC f H))) (zR (some (.int (nI b)))) 0 0 (fun _ => False) := by
  refine zMet (by decide) (Nat.le_of_ble_eq_true rfl) ?_
  intro p e R s m args below meth c Q ls hR hargs hQ S hr hlk hP hZ hS hnm hl
  have hl : lv_has ls 3 [(0, .ref (o)), (1, .int (nI (a)))] := hl
  refine lv_iload_n S.1 S.2.1 dX1_firstKnottedRow_0 rfl (lv_at hl 1 rfl) ?_
  refine lv_istore_n (lv' := [(2, .int (nI (a))), (0, .ref (o)), (1, .int (nI (a)))]) S.1 S.2.1 dX1_firstKnottedRow_1 rfl hl (by decide) rfl (fun ls hl => ?_)
  have loop : ∀ (n i : Nat) (ls : Array Slot), (a ≤ i) → (i ≤ b) → (b < i + n) → lv_has ls 3 [(0, .ref (o)), (1, .int (nI (a))), (2, .int (nI (i)))] → W p l e R s m args below meth c s.heap [] 0 0 Q (F0 m 2 ls []) := by
    intro n
    induction n with
    | zero => intro i ls h1 h3 h2 hl; exact absurd h2 (by omega)
    | succ n ih =>
      intro i ls h1 h3 h2 hl
      refine lv_iload_n S.1 S.2.1 dX1_firstKnottedRow_2 rfl (lv_at hl 2 rfl) ?_
      refine lv_aload_n S.1 S.2.1 dX1_firstKnottedRow_3 rfl (lv_at hl 0 rfl) ?_
      refine z_get (v := .int (nI (f 0 3))) S hZ.1 hP 0 (by decide) rfl rfl rfl 3 (by decide) rfl k87 dX1_firstKnottedRow_4 ?_
      refine z_cge (tgt := 27) S (by have := hw.1; omega) hw.c dX1_firstKnottedRow_7 (by decide) (fun h4 => ?_) (fun h4 => ?_)
      · exact absurd h4 (by omega)
      · refine lv_aload_n S.1 S.2.1 dX1_firstKnottedRow_10 rfl (lv_at hl 0 rfl) ?_
        refine z_get (v := .ref (o + 3)) S hZ.1 hP 0 (by decide) rfl rfl rfl 2 (by decide) rfl k86 dX1_firstKnottedRow_11 ?_
        refine lv_iload_n S.1 S.2.1 dX1_firstKnottedRow_14 rfl (lv_at hl 2 rfl) ?_
        refine z_iald S hZ.1 hP 3 (by decide) rfl rfl (i := i) (by have := hw.1; omega) (by decide) dX1_firstKnottedRow_15 ?_
        refine z_ieq (tgt := 21) S (hw.k i) dX1_firstKnottedRow_16 (by decide) (fun h5 => ?_) (fun h5 => ?_)
        · refine z_inc S (lv' := [(2, .int (nI (i + 1))), (0, .ref (o)), (1, .int (nI (a)))]) (k := 2) (b := 1) dX1_firstKnottedRow_21 hl rfl (by decide) (by decide) rfl (fun ls hl => ?_)
          refine lv_goto (tgt := 2) S.1 S.2.1 dX1_firstKnottedRow_24 (by decide) ?_
          exact ih (i + 1) ls (by omega) (by rcases (show i < b ∨ i = b by omega) with z | z; omega; subst z; exact absurd h5 hyes) (by omega) (lv_sub hl [1, 2, 0] rfl)
        · refine lv_iload_n S.1 S.2.1 dX1_firstKnottedRow_19 rfl (lv_at hl 2 rfl) ?_
          exact z_ri hQ S hr hlk (zn_int _) (by rw [show b = i by rcases (show i < b ∨ i = b by omega) with z | z; exact absurd (hno i (by omega) z) h5; exact z.symm]) dX1_firstKnottedRow_20
  exact loop (b + 1) a ls (Nat.le_refl _) hab (by omega) (lv_sub hl [1, 2, 0] rfl)
set_option maxRecDepth 20000 in
set_option maxHeartbeats 4000000 in
/-- Cloth.firstKnottedRow(a), none -/
theorem c_X1_firstKnottedRowN (l : Launch) (g : ZG) {B : Nat} {o : Nat} (f : Nat → Nat → Nat) (hw : zKo f) (a : Nat) (ha : a ≤ f 0 3) (hno : ∀ k, a ≤ k → k < f 0 3 → f 3 k = 0) : Met l yX1_firstKnottedRow (.code yX1_firstKnottedRow cX1_firstKnottedRow 3 (some .int) :: GW) { frames := 0, cells := 0, slots := 0, locals := 0 } (va_Pc [.ref o, .int (nI a)] (zPre g B (fun H => zPm g o 4 TC f H))) (zR (some (.int (-1)))) 0 0 (fun _ => False) := by
  refine zMet (by decide) (Nat.le_of_ble_eq_true rfl) ?_
  intro p e R s m args below meth c Q ls hR hargs hQ S hr hlk hP hZ hS hnm hl
  have hl : lv_has ls 3 [(0, .ref (o)), (1, .int (nI (a)))] := hl
  refine lv_iload_n S.1 S.2.1 dX1_firstKnottedRow_0 rfl (lv_at hl 1 rfl) ?_
  refine lv_istore_n (lv' := [(2, .int (nI (a))), (0, .ref (o)), (1, .int (nI (a)))]) S.1 S.2.1 dX1_firstKnottedRow_1 rfl hl (by decide) rfl (fun ls hl => ?_)
  have loop : ∀ (n i : Nat) (ls : Array Slot), (a ≤ i) → (i ≤ f 0 3) → (f 0 3 < i + n) → lv_has ls 3 [(0, .ref (o)), (1, .int (nI (a))), (2, .int (nI (i)))] → W p l e R s m args below meth c s.heap [] 0 0 Q (F0 m 2 ls []) := by
    intro n
    induction n with
    | zero => intro i ls h1 h3 h2 hl; exact absurd h2 (by omega)
    | succ n ih =>
      intro i ls h1 h3 h2 hl
      refine lv_iload_n S.1 S.2.1 dX1_firstKnottedRow_2 rfl (lv_at hl 2 rfl) ?_
      refine lv_aload_n S.1 S.2.1 dX1_firstKnottedRow_3 rfl (lv_at hl 0 rfl) ?_
      refine z_get (v := .int (nI (f 0 3))) S hZ.1 hP 0 (by decide) rfl rfl rfl 3 (by decide) rfl k87 dX1_firstKnottedRow_4 ?_
      refine z_cge (tgt := 27) S (by have := hw.1; omega) hw.c dX1_firstKnottedRow_7 (by decide) (fun h4 => ?_) (fun h4 => ?_)
      · refine lv_iconst (v := -1) S.1 S.2.1 dX1_firstKnottedRow_27 (by decide) ?_
        exact z_ri hQ S hr hlk (zn_int _) rfl dX1_firstKnottedRow_28
      · refine lv_aload_n S.1 S.2.1 dX1_firstKnottedRow_10 rfl (lv_at hl 0 rfl) ?_
        refine z_get (v := .ref (o + 3)) S hZ.1 hP 0 (by decide) rfl rfl rfl 2 (by decide) rfl k86 dX1_firstKnottedRow_11 ?_
        refine lv_iload_n S.1 S.2.1 dX1_firstKnottedRow_14 rfl (lv_at hl 2 rfl) ?_
        refine z_iald S hZ.1 hP 3 (by decide) rfl rfl (i := i) (by have := hw.1; omega) (by decide) dX1_firstKnottedRow_15 ?_
        refine z_ieq (tgt := 21) S (hw.k i) dX1_firstKnottedRow_16 (by decide) (fun h5 => ?_) (fun h5 => ?_)
        · refine z_inc S (lv' := [(2, .int (nI (i + 1))), (0, .ref (o)), (1, .int (nI (a)))]) (k := 2) (b := 1) dX1_firstKnottedRow_21 hl rfl (by decide) (by decide) rfl (fun ls hl => ?_)
          refine lv_goto (tgt := 2) S.1 S.2.1 dX1_firstKnottedRow_24 (by decide) ?_
          exact ih (i + 1) ls (by omega) (by omega) (by omega) (lv_sub hl [1, 2, 0] rfl)
        · exact absurd (hno i h1 h4) h5
  exact loop (f 0 3 + 1) a ls (Nat.le_refl _) ha (by omega) (lv_sub hl [1, 2, 0] rfl)
theorem ci_X1_firstKnottedColumn : zCI yX1_firstKnottedColumn cX1_firstKnottedColumn 3 (some .int) 1 := ⟨k1246, k4, by decide +kernel⟩
theorem cv_X1_firstKnottedColumn : Cond.instanceMethod yX1_firstKnottedColumn ∈ GW ∧ Cond.selects (yX1_firstKnottedColumn).cls yX1_firstKnottedColumn yX1_firstKnottedColumn ∈ GW := ⟨k1244, k1245⟩
set_option maxRecDepth 20000 in
set_option maxHeartbeats 4000000 in
/-- Cloth.firstKnottedColumn(r) -/
theorem c_X1_firstKnottedColumn (l : Launch) (g : ZG) {B : Nat} {o : Nat} (f : Nat → Nat → Nat) (hw : zKo f) (r b : Nat) (h9 : r < f 0 3) (hb : b ≤ 15) (hno : ∀ k, k < b → zBt (f 3 r) k = false) (hyes : b < 15 → zBt (f 3 r) b = true) : Met l yX1_firstKnottedColumn (.code yX1_firstKnottedColumn cX1_firstKnottedColumn 3 (some .int) :: GW) { frames := 1, cells := 0, slots := 0, locals := 22 } (va_Pc [.ref o, .int (nI r)] (zPre g B (fun H => zPm g o 4 TC f H))) (zR (some (.int (nI b)))) 0 0 (fun _ => False) := by
  refine zMet (by decide) (Nat.le_of_ble_eq_true rfl) ?_
  intro p e R s m args below meth c Q ls hR hargs hQ S hr hlk hP hZ hS hnm hl
  have hl : lv_has ls 3 [(0, .ref (o)), (1, .int (nI (r)))] := hl
  refine z_ic S (k := 0) dX1_firstKnottedColumn_0 (by decide) ?_
  refine lv_istore_n (lv' := [(2, .int (nI (0))), (0, .ref (o)), (1, .int (nI (r)))]) S.1 S.2.1 dX1_firstKnottedColumn_1 rfl hl (by decide) rfl (fun ls hl => ?_)
  have loop : ∀ (n i : Nat) (ls : Array Slot), (i ≤ b) → (b < i + n) → lv_has ls 3 [(0, .ref (o)), (1, .int (nI (r))), (2, .int (nI (i)))] → W p l e R s m args below meth c s.heap [] 0 0 Q (F0 m 2 ls []) := by
    intro n
    induction n with
    | zero => intro i ls h1 h2 hl; exact absurd h2 (by omega)
    | succ n ih =>
      intro i ls h1 h2 hl
      refine lv_iload_n S.1 S.2.1 dX1_firstKnottedColumn_2 rfl (lv_at hl 2 rfl) ?_
      refine z_bi S (k := 15) dX1_firstKnottedColumn_3 (by decide) ?_
      refine z_cge (tgt := 23) S (by omega) (by omega) dX1_firstKnottedColumn_5 (by decide) (fun h4 => ?_) (fun h4 => ?_)
      · refine lv_iload_n S.1 S.2.1 dX1_firstKnottedColumn_23 rfl (lv_at hl 2 rfl) ?_
        exact z_ri hQ S hr hlk (zn_int _) (by rw [show b = i by omega]) dX1_firstKnottedColumn_24
      · refine lv_aload_n S.1 S.2.1 dX1_firstKnottedColumn_8 rfl (lv_at hl 0 rfl) ?_
        refine lv_iload_n S.1 S.2.1 dX1_firstKnottedColumn_9 rfl (lv_at hl 1 rfl) ?_
        refine lv_iload_n S.1 S.2.1 dX1_firstKnottedColumn_10 rfl (lv_at hl 2 rfl) ?_
        refine z_cV (v := some (.int (nI (zBt (f 3 r) i).toNat))) (rest := []) (As := [.int (nI (r)), .int (nI (i))]) S hZ hS (c_X1_knottedAt l g f hw r i h9 (by omega)) ci_X1_knottedAt cv_X1_knottedAt k1247 ⟨rfl, rfl, by rw [hR]; decide, by rw [hR]; decide⟩ hP (hP.recv hZ.1 0 (by decide) rfl rfl rfl) hl.1 rfl (Nat.le_of_ble_eq_true rfl) dX1_firstKnottedColumn_11 ⟨by rw [hR]; decide, by rw [hR]; decide⟩ rfl ?_
        refine z_bne (tgt := 23) S dX1_firstKnottedColumn_14 (by decide) (fun h5 => ?_) (fun h5 => ?_)
        · refine lv_iload_n S.1 S.2.1 dX1_firstKnottedColumn_23 rfl (lv_at hl 2 rfl) ?_
          exact z_ri hQ S hr hlk (zn_int _) (by rw [show b = i by rcases (show i < b ∨ i = b by omega) with z | z; rw [hno i z] at h5; cases h5; exact z.symm]) dX1_firstKnottedColumn_24
        · refine z_inc S (lv' := [(2, .int (nI (i + 1))), (0, .ref (o)), (1, .int (nI (r)))]) (k := 2) (b := 1) dX1_firstKnottedColumn_17 hl rfl (by decide) (by decide) rfl (fun ls hl => ?_)
          refine lv_goto (tgt := 2) S.1 S.2.1 dX1_firstKnottedColumn_20 (by decide) ?_
          exact ih (i + 1) ls (by rcases (show i < b ∨ i = b by omega) with z | z; omega; subst z; rw [hyes h4] at h5; cases h5) (by omega) (lv_sub hl [1, 2, 0] rfl)
  exact loop (b + 1) 0 ls (Nat.zero_le _) (by omega) (lv_sub hl [1, 2, 0] rfl)
theorem zCk_end {g : ZG} {o : Nat} {f f2 : Nat → Nat → Nat} {H : Heap} (h : zPm g o 4 TC (va_up (va_up (va_up (va_up f 1 (f2 1)) 2 (f2 2)) 3 (f2 3)) 0 (va_up (f 0) 3 (f2 0 3))) H) : zPm g o 4 TC f2 H := by
  refine h.cg (fun k hk a hv => ?_)
  match k, hk with
  | 0, _ => exact hv
  | 1, _ => exact hv
  | 2, _ => exact hv
  | 3, _ => exact hv
  | k + 4, hk => exact absurd hk (by omega)
theorem ci_X1_copyFrom : zCI yX1_copyFrom cX1_copyFrom 2 none 1 := ⟨k307, k4, by decide +kernel⟩
theorem cv_X1_copyFrom : Cond.instanceMethod yX1_copyFrom ∈ GW ∧ Cond.selects (yX1_copyFrom).cls yX1_copyFrom yX1_copyFrom ∈ GW := ⟨k305, k306⟩
set_option maxRecDepth 20000 in
set_option maxHeartbeats 4000000 in
/-- Cloth.copyFrom(other) -/
theorem c_X1_copyFrom (l : Launch) (g : ZG) {B : Nat} {o o2 : Nat} (hB : B ≤ o) (hd : o2 + 4 ≤ o ∨ o + 4 ≤ o2) (f f2 : Nat → Nat → Nat) : Met l yX1_copyFrom (.code yX1_copyFrom cX1_copyFrom 2 none :: GW) { frames := 1, cells := 0, slots := 0, locals := 60 } (va_Pc [.ref o, .ref o2] (zPre g B (fun H => zPm g o 4 TC f H ∧ zPm g o2 4 TC f2 H))) (zX (fun v H => v = none ∧ zPm g o 4 TC f2 H) o 4) 0 0 (zA B) := by
  refine zMet (by decide) (Nat.le_of_ble_eq_true rfl) ?_
  intro p e R s m args below meth c Q ls hR hargs hQ S hr hlk hP hZ hS hnm hl
  have hl : lv_has ls 2 [(0, .ref (o)), (1, .ref (o2))] := hl
  obtain ⟨hP, hP2⟩ := hP
  have hC : zCh1 o 4 s.heap s.heap := zCh1.rf
  refine lv_aload_n S.1 S.2.1 dX1_copyFrom_0 rfl (lv_at hl 1 rfl) ?_
  refine z_get (v := .ref (o2 + 1)) S hZ.1 hP2 0 (by decide) rfl rfl rfl 0 (by decide) rfl k81 dX1_copyFrom_1 ?_
  refine z_ic S (k := 0) dX1_copyFrom_4 (by decide) ?_
  refine lv_aload_n S.1 S.2.1 dX1_copyFrom_5 rfl (lv_at hl 0 rfl) ?_
  refine z_get (v := .ref (o + 1)) S hZ.1 hP 0 (by decide) rfl rfl rfl 0 (by decide) rfl k81 dX1_copyFrom_6 ?_
  refine z_ic S (k := 0) dX1_copyFrom_9 (by decide) ?_
  refine z_bi S (k := 40) dX1_copyFrom_10 (by decide) ?_
  refine z_copy S hl.1 hZ.1 hP hP2 hS hB 1 (by decide) rfl 1 (by decide) rfl rfl rfl (f2 1) rfl (by decide) k308 ⟨k310, k309, k20⟩ (by rw [hR]; decide) (by rw [hR]; exact Nat.le_of_ble_eq_true rfl) dX1_copyFrom_12 (fun H1 locs1 hPn hCn hSn => ?_)
  have hP := hPn; have hS := hSn; have hC := hC.tr (hCn.mono (b := o) (k := 4) (by omega) (by omega))
  have hP2 := hP2.kept hCn (by omega)
  refine lv_aload_n S.1 S.2.1 dX1_copyFrom_15 rfl (lv_at hl 1 rfl) ?_
  refine z_get (v := .ref (o2 + 2)) S hZ.1 hP2 0 (by decide) rfl rfl rfl 1 (by decide) rfl k83 dX1_copyFrom_16 ?_
  refine z_ic S (k := 0) dX1_copyFrom_19 (by decide) ?_
  refine lv_aload_n S.1 S.2.1 dX1_copyFrom_20 rfl (lv_at hl 0 rfl) ?_
  refine z_get (v := .ref (o + 2)) S hZ.1 hP 0 (by decide) rfl rfl rfl 1 (by decide) rfl k83 dX1_copyFrom_21 ?_
  refine z_ic S (k := 0) dX1_copyFrom_24 (by decide) ?_
  refine z_bi S (k := 40) dX1_copyFrom_25 (by decide) ?_
  refine z_copy S hl.1 hZ.1 hP hP2 hS hB 2 (by decide) rfl 2 (by decide) rfl rfl rfl (f2 2) rfl (by decide) k308 ⟨k310, k309, k20⟩ (by rw [hR]; decide) (by rw [hR]; exact Nat.le_of_ble_eq_true rfl) dX1_copyFrom_27 (fun H1 locs1 hPn hCn hSn => ?_)
  have hP := hPn; have hS := hSn; have hC := hC.tr (hCn.mono (b := o) (k := 4) (by omega) (by omega))
  have hP2 := hP2.kept hCn (by omega)
  refine lv_aload_n S.1 S.2.1 dX1_copyFrom_30 rfl (lv_at hl 1 rfl) ?_
  refine z_get (v := .ref (o2 + 3)) S hZ.1 hP2 0 (by decide) rfl rfl rfl 2 (by decide) rfl k86 dX1_copyFrom_31 ?_
  refine z_ic S (k := 0) dX1_copyFrom_34 (by decide) ?_
  refine lv_aload_n S.1 S.2.1 dX1_copyFrom_35 rfl (lv_at hl 0 rfl) ?_
  refine z_get (v := .ref (o + 3)) S hZ.1 hP 0 (by decide) rfl rfl rfl 2 (by decide) rfl k86 dX1_copyFrom_36 ?_
  refine z_ic S (k := 0) dX1_copyFrom_39 (by decide) ?_
  refine z_bi S (k := 40) dX1_copyFrom_40 (by decide) ?_
  refine z_copy S hl.1 hZ.1 hP hP2 hS hB 3 (by decide) rfl 3 (by decide) rfl rfl rfl (f2 3) rfl (by decide) k308 ⟨k310, k309, k20⟩ (by rw [hR]; decide) (by rw [hR]; exact Nat.le_of_ble_eq_true rfl) dX1_copyFrom_42 (fun H1 locs1 hPn hCn hSn => ?_)
  have hP := hPn; have hS := hSn; have hC := hC.tr (hCn.mono (b := o) (k := 4) (by omega) (by omega))
  have hP2 := hP2.kept hCn (by omega)
  refine lv_aload_n S.1 S.2.1 dX1_copyFrom_45 rfl (lv_at hl 0 rfl) ?_
  refine lv_aload_n S.1 S.2.1 dX1_copyFrom_46 rfl (lv_at hl 1 rfl) ?_
  refine z_get (v := .int (nI (f2 0 3))) S hZ.1 hP2 0 (by decide) rfl rfl rfl 3 (by decide) rfl k87 dX1_copyFrom_47 ?_
  refine z_put (v := .int (nI (f2 0 3))) (ty := .int) S hZ.1 hP hS hB 0 (by decide) rfl rfl rfl 3 (by decide) (va_up ((va_up (va_up (va_up f 1 (f2 1)) 2 (f2 2)) 3 (f2 3)) 0) 3 (f2 0 3)) rfl k87 rfl (by decide +kernel) rfl rfl (Nat.le_of_ble_eq_true rfl) dX1_copyFrom_50 (fun H1 locs1 hPn hCn hSn => ?_)
  have hP := hPn; have hS := hSn; have hC := hC.tr (hCn.mono (b := o) (k := 4) (by omega) (by omega))
  have hP2 := hP2.kept hCn (by omega)
  exact z_wv hQ S hr hlk hS hC ⟨rfl, zCk_end hP⟩ dX1_copyFrom_53
