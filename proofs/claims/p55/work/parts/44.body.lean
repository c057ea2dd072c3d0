/-! THE LAW: cell, and the body of law itself -/
/-- what cell answers for a script of L ints -/
def yCv (L : Nat) (xs : Nat → Int32) (i : Nat) : Int32 := if L = 0 then nI (577 * i) else xs (i % L)
theorem yAnd16 {i : Nat} (h : i < 65536) : i &&& 65535 = i := by
  have e := Nat.and_two_pow_sub_one_eq_mod i 16
  rw [show (65535 : Nat) = 2 ^ 16 - 1 from rfl, e]
  exact Nat.mod_eq_of_lt h
theorem zMetG {l : Launch} {y : MethodName} {cc : ByteArray} {maxL : Nat} {ret : Option FieldType} {rm : Room} {av : List Value} {PC : State → Prop} {Qc : Array Value → State → Outcome → State → Prop} {mc ms : Nat} {free : Addr → Prop} (hy : plainName y.cls = true) (hL : (lg_sl av).length ≤ maxL)
    (body : ∀ (p : Program) (e : Env) (R : Room) (s : State) (m : MethodId) (args : Array Value) (below : List Frame) (meth : Method) (c : Code) (Q : State → Prop) (ls : Array Slot), R = rm → args = av.toArray → Q = MQ below Qc args s mc ms free → CallFix p m c cc maxL s args GW y.cls → meth.sig.returnType = ret → meth.locks = false → PC s → lv_has ls maxL (lv_args 0 av) →
      W p l e R s m args below meth c s.heap [] 0 0 Q (F0 m 0 ls [])) : Met l y (.code y cc maxL ret :: GW) rm (va_Pc av PC) Qc mc ms free := by
  refine Met.ofW hy rfl ?_
  intro p e s m args below meth c s₁ B0 hml hv
  obtain ⟨rfl, hPC⟩ := hv
  rw [lg_entry_eq]
  exact body p e rm s m _ below meth c _ _ rfl rfl rfl ⟨B0.exec, B0.bytes, hml, findClass_of_methodNamed B0.named, fun w h => atoms_spec (ws := .code y cc maxL ret :: GW) B0.pre w (List.mem_cons_of_mem _ h)⟩ B0.returns B0.notSynchronized hPC (lv_entry av hL)
theorem ci_L_cell : zCI yL_cell cL_cell 2 (some .int) 2 := ⟨k317, k0, by decide +kernel⟩
theorem cv_L_cell : Cond.static yL_cell ∈ GW := k316
set_option maxRecDepth 20000 in
set_option maxHeartbeats 4000000 in
/-- cell(s, i) -/
theorem c_cell (l : Launch) {b L : Nat} {xs : Nat → Int32} (hL : L ≤ 260) (i : Nat) (hi : i < 65536) : Met l yL_cell (.code yL_cell cL_cell 2 (some .int) :: GW) { frames := 0, cells := 0, slots := 0, locals := 0 } (va_Pc [.ref b, .int (nI i)] (fun U => va_X b L xs U U.heap)) (zR (some (.int (yCv L xs i)))) 0 0 (fun _ => False) := by
  refine zMetG (by decide) (Nat.le_of_ble_eq_true rfl) ?_
  intro p e R s m args below meth c Q ls hR hargs hQ S hr hlk hX hl
  have hl : lv_has ls 2 [(0, .ref b), (1, .int (nI i))] := hl
  have hbl : b < s.heap.size := by
    obtain ⟨scr, h1, -⟩ := hX
    exact (Array.getElem?_eq_some_iff.mp h1).1
  have hbA : ¬ zA s.heap.size b := Nat.not_le.mpr hbl
  have hS : va_S (zA s.heap.size) s.heap s.heap [] := va_S.rf
  refine lv_aload_n S.1 S.2.1 dL_cell_0 rfl (lv_at hl 0 rfl) ?_
  refine va_slen (A := zA s.heap.size) S.1 S.2.1 hX hbl hbA hS dL_cell_1 ?_
  show W p l e R s m args below meth c s.heap [] 0 0 Q (F0 m 2 ls [.int (nI (L))])
  refine z_ine (tgt := 13) S (by omega) dL_cell_2 (by decide) (fun h1 => ?_) (fun h1 => ?_)
  · refine lv_aload_n S.1 S.2.1 dL_cell_13 rfl (lv_at hl 0 rfl) ?_
    refine lv_iload_n S.1 S.2.1 dL_cell_14 rfl (lv_at hl 1 rfl) ?_
    refine lv_ldc S.1 S.2.1 S.2.2.2.1 (S.2.2.2.2 _ k318) dL_cell_15 ?_
    rw [show (65535 : Int32) = nI 65535 from rfl]
    refine z_and S dL_cell_17 ?_
    rw [yAnd16 hi]
    refine lv_aload_n S.1 S.2.1 dL_cell_18 rfl (lv_at hl 0 rfl) ?_
    refine va_slen (A := zA s.heap.size) S.1 S.2.1 hX hbl hbA hS dL_cell_19 ?_
    show W p l e R s m args below meth c s.heap [] 0 0 Q (F0 m 20 ls [.int (nI (L)), .int (nI (i)), .ref (b)])
    refine z_rem S (by omega) (by omega) (by omega) dL_cell_20 ?_
    refine va_sld (A := zA s.heap.size) S.1 S.2.1 hX hbl hbA hS (vp_in_nI (Nat.mod_lt _ (by omega)) (by omega)) dL_cell_21 ?_
    rw [nI_clamp (by have := Nat.mod_lt i (show 0 < L by omega); omega)]
    exact z_ri hQ S hr hlk (zn_int _) (by rw [yCv, if_neg h1]) dL_cell_22
  · refine z_si S (k := 577) dL_cell_5 (by decide) ?_
    refine lv_iload_n S.1 S.2.1 dL_cell_8 rfl (lv_at hl 1 rfl) ?_
    refine z_mul S dL_cell_9 ?_
    refine lv_goto (tgt := 22) S.1 S.2.1 dL_cell_10 (by decide) ?_
    exact z_ri hQ S hr hlk (zn_int _) (by rw [yCv, if_pos h1]) dL_cell_22
section YLW
variable {p : Program} {l : Launch} {e : Env} {R : Room} {s : State} {m : MethodId} {args : Array Value} {below : List Frame} {meth : Method} {c : Code} {H : Heap} {locs : List Loc} {cells slots : Nat} {Q : State → Prop}
variable {cc : ByteArray} {pc nL index b L : Nat} {own : String} {ls : Array Slot} {rest : List Value} {xs : Nat → Int32}
/-- the call of cell -/
theorem z_cell (S : CallFix p m c cc nL s args GW own) (hX : va_X b L xs s s.heap) (hbl : b < s.heap.size) (hS : va_S (zA s.heap.size) s.heap H locs) (hL : L ≤ 260) (i : Nat) (hi : i < 65536) (hlink : Cond.methodLink own index yL_cell ∈ GW) (hrm : zRm { frames := 0, cells := 0, slots := 0, locals := 0 } R 2 0 0) (hsize : ls.size = nL) (hcat : (rest.map fun v => v.category).sum ≤ 8) (hdg : decode cc pc = .ok (.invokestatic index, 3)) (hf : cells + 0 ≤ R.cells ∧ slots + 0 ≤ R.slots)
    (kk : W p l e R s m args below meth c H locs cells slots Q (F0 m (pc + 3) ls (.int (yCv L xs i) :: rest))) : W p l e R s m args below meth c H locs cells slots Q (F0 m pc ls (.int (nI i) :: .ref b :: rest)) :=
  z_ro (va_runS S (c_cell l hL i hi) ⟨z_callB S ci_L_cell hlink hrm, S.2.2.2.2 _ cv_L_cell⟩ ⟨fun _ _ _ _ q => q, fun U hU hW => ⟨rfl, by show va_X b L xs U U.heap; rw [hU]; exact (hX.moved hW.alike).kept (hS.2.1 b hbl (Nat.not_le.mpr hbl))⟩⟩ rfl rfl (As := [.ref b, .int (nI i)]) hsize rfl (lv_room hcat) hdg hf) rfl kk
end YLW
/-- an answer, what it leaves alone -/
theorem yAn_k {z z' : zSt} {d : Nat × Nat} {pf : zL × Nat} {w : Option Value} (h : yAn z z' d pf w) : ∃ x : Int32, w = some (.int x) ∧ yIv z' ∧ z' 2 = z 2 ∧ z' 11 0 0 3 = z 11 0 0 3 := by
  rcases h with ⟨-, h2, h3⟩ | ⟨-, h2, h3⟩
  · exact ⟨_, h2, h3.1, h3.2.2.1, h3.2.2.2.1⟩
  · exact ⟨_, h2, h3.1, h3.2.2.1, h3.2.2.2.1⟩
theorem yIv_0 : yIv zS0 := by
  have h : zOk zL0 := by
    refine ⟨⟨Nat.zero_le _, fun i => ⟨Nat.zero_le _, Nat.lt_of_lt_of_le Nat.zero_lt_one (by decide), Nat.zero_le _, Nat.zero_le _, fun h => absurd h (by show ¬ (0 : Nat) = 1; decide)⟩⟩, ⟨Nat.zero_le _, fun i => ⟨?_, Nat.zero_le _, ?_⟩⟩, ⟨Nat.zero_le _, Nat.zero_le _⟩, Nat.zero_le _, Nat.zero_le _⟩
    · show (0 : Nat) < 65536; decide
    · show (0 : Nat) < 65536; decide
  exact ⟨⟨h, h, fun _ _ => h, by show (0 : Nat) < 8; decide, Nat.zero_le _⟩, rfl, Nat.zero_le _⟩
set_option maxRecDepth 20000 in
set_option maxHeartbeats 8000000 in
/-- the body of law -/
theorem yLaw {p : Program} {e : Env} {R : Room} {s : State} {m : MethodId} {args : Array Value} {below : List Frame} {meth : Method} {c : Code} {Q : State → Prop} {ls : Array Slot} {b L : Nat} {xs : Nat → Int32} (l : Launch) (hl0 : l.stackTraces = false) (g : ZG) (hL : L ≤ 260) (S : CallFix p m c cL_law 9 s args GW "CandleLoomLaw") (hR : R = room_1) (hZ : zS g s.heap.size s s.heap) (hX : va_X b L xs s s.heap) (hbl : b < s.heap.size) (hl : lv_has ls 9 [(0, .ref b)])
    (hend : ∀ (H : Heap) (locs : List Loc) (cells slots : Nat) (ls : Array Slot), va_S (zA s.heap.size) s.heap H locs → cells ≤ 1200390 → slots ≤ 5491200 → W p l e R s m args below meth c H locs cells slots Q (F0 m 371 ls [.int (nI 1)])) : W p l e R s m args below meth c s.heap [] 0 0 Q (F0 m 0 ls []) := by
  have hB : s.heap.size ≤ s.heap.size := Nat.le_refl _
  have hS : va_S (zA s.heap.size) s.heap s.heap [] := va_S.rf
  have hbA : ¬ zA s.heap.size b := Nat.not_le.mpr hbl
  refine z_new S hZ.1 hS (C := RX11) (T := TX11) (N := 14) (ci := 9) rfl k31 k32 k1 (fs := [.null, .null, .null, .int (nI 0), .null, .null, .null, .null, .int (nI 0), .int (nI 0), .null, .int (nI 0), .int (nI 0), .int (nI 0)]) tyX11 tyX11_ok (fun j hj => match j, hj with | 0, _ => rfl | 1, _ => rfl | 2, _ => rfl | 3, _ => rfl | 4, _ => rfl | 5, _ => rfl | 6, _ => rfl | 7, _ => rfl | 8, _ => rfl | 9, _ => rfl | 10, _ => rfl | 11, _ => rfl | 12, _ => rfl | 13, _ => rfl | k + 14, h => absurd h (by omega)) ⟨by rw [hR]; exact Nat.le_of_ble_eq_true rfl, by rw [hR]; exact Nat.le_of_ble_eq_true rfl⟩ dL_law_0 (h := s.heap.size) rfl (fun H1 hO hz1 ho1 hS => ?_)
  refine lv_dup S.1 S.2.1 dL_law_3 rfl ?_
  refine z_iM (rest := [.ref s.heap.size]) S hZ hS (c_newCandleLoom l g (o := s.heap.size) hB) hB ci_X11_init k34 rfl k33 ⟨rfl, rfl, by rw [hR]; exact Nat.le_of_ble_eq_true rfl, by rw [hR]; exact Nat.le_of_ble_eq_true rfl⟩ ⟨hz1, hO⟩ hl.1 rfl (Nat.le_of_ble_eq_true rfl) dL_law_4 ⟨by rw [hR]; exact Nat.le_of_ble_eq_true rfl, by rw [hR]; exact Nat.le_of_ble_eq_true rfl⟩ (fun H1 locs1 hPn hCn hSn => ?_)
  obtain ⟨-, hP⟩ := hPn
  clear hO hz1 ho1
  replace hS := hSn
  clear hCn hSn
  refine lv_astore_n (lv' := [(1, .ref (s.heap.size)), (0, .ref (b))]) S.1 S.2.1 dL_law_7 rfl hl (by decide) rfl (fun ls hl => ?_)
  refine z_ic S (k := 0) dL_law_8 (by decide) ?_
  refine lv_istore_n (lv' := [(2, .int (nI (0))), (1, .ref (s.heap.size)), (0, .ref (b))]) S.1 S.2.1 dL_law_9 rfl hl (by decide) rfl (fun ls hl => ?_)
  have wicks : ∀ (n : Nat) (k : Nat) (y : zSt) (H : Heap) (locs : List Loc) (cl sl : Nat) (ls : Array Slot), (k ≤ 3) → (3 < k + n) → (yIv y) → (cl ≤ 152 + 2 * k) → (sl ≤ 2076 + 12 * k) → (zSO g s.heap.size y H) → (va_S (zA s.heap.size) s.heap H locs) → lv_has ls 9 [(0, .ref (b)), (1, .ref (s.heap.size)), (2, .int (nI (k)))] → W p l e R s m args below meth c H locs cl sl Q (F0 m 10 ls []) := by
    intro n
    induction n with
    | zero => intro k y H locs cl sl ls hk h2 hIy hcl hsl hP hS hl; exact absurd h2 (by omega)
    | succ n ih =>
      intro k y H locs cl sl ls hk h2 hIy hcl hsl hP hS hl
      refine lv_iload_n S.1 S.2.1 dL_law_10 rfl (lv_at hl 2 rfl) ?_
      refine z_ic S (k := 3) dL_law_11 (by decide) ?_
      refine z_cge (tgt := 68) S (by omega) (by omega) dL_law_12 (by decide) (fun h1 => ?_) (fun h1 => ?_)
      · refine lv_aload_n S.1 S.2.1 dL_law_68 rfl (lv_at hl 1 rfl) ?_
        refine z_ic S (k := 1) dL_law_69 (by decide) ?_
        refine lv_aload_n S.1 S.2.1 dL_law_70 rfl (lv_at hl 0 rfl) ?_
        refine z_ic S (k := 1) dL_law_71 (by decide) ?_
        refine z_cell S hX hbl hS hL (1) (by omega) k315 ⟨rfl, rfl, by rw [hR]; exact Nat.le_of_ble_eq_true rfl, by rw [hR]; exact Nat.le_of_ble_eq_true rfl⟩ hl.1 (Nat.le_of_ble_eq_true rfl) dL_law_72 ⟨by rw [hR]; show cl + 0 ≤ 1200390; omega, by rw [hR]; show sl + 0 ≤ 5491200; omega⟩ ?_
        refine z_ic S (k := 5) dL_law_75 (by decide) ?_
        refine lv_ishr S.1 S.2.1 dL_law_76 ?_
        refine z_bi S (k := 7) dL_law_77 (by decide) ?_
        refine lv_iand S.1 S.2.1 dL_law_79 ?_
        obtain ⟨a1, ha1, ea1⟩ := yAnd ((yCv L xs (1)) >>> (nI (5) &&& 31)) 7
        rw [ea1]
        clear ea1
        refine z_add S dL_law_80 ?_
        refine z_wSW (rest := []) (As := [.ref (s.heap.size), .int (nI (1 + a1))]) S hZ hS (c_L_weave l hl0 g hB y hIy (1 + a1) (by omega)) hB ci_L_weave cv_L_weave k666 ⟨rfl, rfl, by rw [hR]; exact Nat.le_of_ble_eq_true rfl, by rw [hR]; exact Nat.le_of_ble_eq_true rfl⟩ hP hl.1 rfl (Nat.le_of_ble_eq_true rfl) dL_law_81 ⟨by rw [hR]; show cl + 1 ≤ 1200390; omega, by rw [hR]; show sl + 6 ≤ 5491200; omega⟩ (fun v9 H1 locs1 hPn hCn hSn => ?_)
        clear hP
        obtain ⟨z1, hP, han⟩ := hPn
        obtain ⟨a9, rfl, hIz1, h2z1, h11z1⟩ := yAn_k han
        clear han
        replace hS := hSn
        clear hCn hSn
        show W p l e R s m args below meth c H1 locs1 (cl + 1) (sl + 6) Q (F0 m 84 ls [.int (a9)])
        refine lv_pop S.1 S.2.1 dL_law_84 rfl ?_
        refine lv_aload_n S.1 S.2.1 dL_law_85 rfl (lv_at hl 0 rfl) ?_
        refine va_slen (A := zA s.heap.size) S.1 S.2.1 hX hbl hbA hS dL_law_86 ?_
        show W p l e R s m args below meth c H1 locs1 (cl + 1) (sl + 6) Q (F0 m 87 ls [.int (nI (L))])
        refine z_bi S (k := 36) dL_law_87 (by decide) ?_
        have J_1 : ∀ x9 : Nat, x9 = min L 36 → W p l e R s m args below meth c H1 locs1 (cl + 1) (sl + 6) Q (F0 m 99 ls [.int (nI (x9))]) := by
          intro x9 hx9
          subst hx9
          refine lv_istore_n (lv' := [(2, .int (nI (min L 36))), (0, .ref (b)), (1, .ref (s.heap.size))]) S.1 S.2.1 dL_law_99 rfl hl (by decide) rfl (fun ls hl => ?_)
          refine z_ic S (k := 0) dL_law_100 (by decide) ?_
          refine lv_istore_n (lv' := [(3, .int (nI (0))), (2, .int (nI (min L 36))), (0, .ref (b)), (1, .ref (s.heap.size))]) S.1 S.2.1 dL_law_101 rfl hl (by decide) rfl (fun ls hl => ?_)
          have hac : min L 36 ≤ 36 := by omega
          generalize min L 36 = ac at hl hac
          have acts : ∀ (n : Nat) (i : Nat) (y : zSt) (H : Heap) (locs : List Loc) (cl sl : Nat) (ls : Array Slot), (i ≤ ac) → (ac < i + n) → (yIv y) → (cl ≤ 200 + i) → (sl ≤ 4000 + 6 * i) → (zSO g s.heap.size y H) → (va_S (zA s.heap.size) s.heap H locs) → lv_has ls 9 [(0, .ref (b)), (1, .ref (s.heap.size)), (2, .int (nI (ac))), (3, .int (nI (i)))] → W p l e R s m args below meth c H locs cl sl Q (F0 m 102 ls []) := by
            intro n
            induction n with
            | zero => intro i y H locs cl sl ls hi h2 hIy hcl hsl hP hS hl; exact absurd h2 (by omega)
            | succ n ih =>
              intro i y H locs cl sl ls hi h2 hIy hcl hsl hP hS hl
              refine lv_iload_n S.1 S.2.1 dL_law_102 rfl (lv_at hl 3 rfl) ?_
              refine lv_iload_n S.1 S.2.1 dL_law_103 rfl (lv_at hl 2 rfl) ?_
              refine z_cge (tgt := 145) S (by omega) (by omega) dL_law_104 (by decide) (fun h4 => ?_) (fun h4 => ?_)
              · refine lv_aload_n S.1 S.2.1 dL_law_145 rfl (lv_at hl 1 rfl) ?_
                refine z_w1S (v0 := some (.int (nI (1)))) (rest := []) (As := [.ref (s.heap.size)]) S hZ hS (c_isFit l hl0 g hB y hIy) hB ci_L_isFit cv_L_isFit k1047 ⟨rfl, rfl, by rw [hR]; exact Nat.le_of_ble_eq_true rfl, by rw [hR]; exact Nat.le_of_ble_eq_true rfl⟩ hP hl.1 rfl (Nat.le_of_ble_eq_true rfl) dL_law_146 ⟨by rw [hR]; show cl + 98 ≤ 1200390; omega, by rw [hR]; show sl + 588 ≤ 5491200; omega⟩ rfl (fun H1 locs1 hPn hCn hSn => ?_)
                clear hP
                obtain ⟨z1, hP, hk1⟩ := hPn
                replace hS := hSn
                clear hCn hSn
                refine lv_istore_n (lv' := [(3, .int (nI (1))), (0, .ref (b)), (1, .ref (s.heap.size)), (2, .int (nI (ac)))]) S.1 S.2.1 dL_law_149 rfl hl (by decide) rfl (fun ls hl => ?_)
                refine lv_aload_n S.1 S.2.1 dL_law_150 rfl (lv_at hl 2 rfl) ?_
                refine z_w1SW (v0 := some (.int (-100000000))) (rest := []) (As := [.ref (s.heap.size)]) S hZ hS (c_L_execute_e l hl0 g hB z1 hk1.1) hB ci_L_execute cv_L_execute k693 ⟨rfl, rfl, by rw [hR]; exact Nat.le_of_ble_eq_true rfl, by rw [hR]; exact Nat.le_of_ble_eq_true rfl⟩ hP hl.1 rfl (Nat.le_of_ble_eq_true rfl) dL_law_151 ⟨by rw [hR]; show (cl + 98) + 1 ≤ 1200390; omega, by rw [hR]; show (sl + 588) + 6 ≤ 5491200; omega⟩ rfl (fun H1 locs1 hPn hCn hSn => ?_)
                clear hP
                obtain ⟨z2, hP, hn2⟩ := hPn
                replace hS := hSn
                clear hCn hSn
                refine lv_pop S.1 S.2.1 dL_law_154 rfl ?_
                refine lv_aload_n S.1 S.2.1 dL_law_155 rfl (lv_at hl 2 rfl) ?_
                refine z_cS (v := some (.long (yDst (z2 0)))) (rest := []) (As := [.ref (s.heap.size)]) S hZ hS (c_digest l hl0 g z2 hn2.1.ok) ci_L_digest cv_L_digest k936 ⟨rfl, rfl, by rw [hR]; exact Nat.le_of_ble_eq_true rfl, by rw [hR]; exact Nat.le_of_ble_eq_true rfl⟩ hP hl.1 rfl (Nat.le_of_ble_eq_true rfl) dL_law_156 ⟨by rw [hR]; show ((cl + 98) + 1) + 0 ≤ 1200390; omega, by rw [hR]; show ((sl + 588) + 6) + 0 ≤ 5491200; omega⟩ rfl ?_
                refine lv_lstore (lv' := [(4, .long (yDst (z2 0))), (3, .int (nI (1))), (0, .ref (b)), (1, .ref (s.heap.size)), (2, .int (nI (ac)))]) S.1 S.2.1 dL_law_159 hl (by decide) rfl (fun ls hl => ?_)
                refine lv_aload_n S.1 S.2.1 dL_law_161 rfl (lv_at hl 3 rfl) ?_
                refine z_w1 (v0 := some (.int (nI (z2 0 2 0 3)))) (rest := []) (As := []) S hZ hS (c_saveSnapshot l g hB z2 hn2.1.1) hB ci_X11_saveSnapshot cv_X11_saveSnapshot k292 ⟨rfl, rfl, by rw [hR]; exact Nat.le_of_ble_eq_true rfl, by rw [hR]; exact Nat.le_of_ble_eq_true rfl⟩ hP (hP.1.recv hZ.1 0 (by decide) rfl rfl rfl) hl.1 rfl (Nat.le_of_ble_eq_true rfl) dL_law_162 ⟨by rw [hR]; show ((cl + 98) + 1) + 0 ≤ 1200390; omega, by rw [hR]; show ((sl + 588) + 6) + 0 ≤ 5491200; omega⟩ rfl (fun H1 locs1 hPn hCn hSn => ?_)
                clear hP
                have hP := hPn
                clear hPn
                replace hS := hSn
                clear hCn hSn
                have hIs := ySv_iv hn2.1
                have hs0 : ySv z2 0 = z2 0 := rfl
                have hs2 : ySv z2 2 = z2 0 := rfl
                have hs11 : ySv z2 11 0 0 3 = 1 := rfl
                generalize ySv z2 = z3 at hP hIs hs0 hs2 hs11
                generalize z2 0 = v0 at hl hs0 hs2 ⊢
                refine lv_istore (lv' := [(6, .int (nI (v0 2 0 3))), (4, .long (yDst (v0))), (3, .int (nI (1))), (0, .ref (b)), (1, .ref (s.heap.size)), (2, .int (nI (ac)))]) S.1 S.2.1 dL_law_165 hl (by decide) rfl (fun ls hl => ?_)
                refine z_ic S (k := 0) dL_law_167 (by decide) ?_
                refine lv_istore (lv' := [(7, .int (nI (0))), (6, .int (nI (v0 2 0 3))), (4, .long (yDst (v0))), (3, .int (nI (1))), (0, .ref (b)), (1, .ref (s.heap.size)), (2, .int (nI (ac)))]) S.1 S.2.1 dL_law_168 hl (by decide) rfl (fun ls hl => ?_)
                have texts : ∀ (n : Nat) (k : Nat) (y : zSt) (H : Heap) (locs : List Loc) (cl sl : Nat) (ls : Array Slot), (k ≤ 31) → (31 < k + n) → (yIv y) → (y 0 = v0) → (y 2 = v0) → (y 11 0 0 3 = 1) → (cl ≤ 400 + 3 * k) → (sl ≤ 6000 + 18 * k) → (zSO g s.heap.size y H) → (va_S (zA s.heap.size) s.heap H locs) → lv_has ls 9 [(0, .ref (b)), (1, .ref (s.heap.size)), (3, .int (nI (1))), (4, .long (yDst (v0))), (6, .int (nI (v0 2 0 3))), (7, .int (nI (k)))] → W p l e R s m args below meth c H locs cl sl Q (F0 m 170 ls []) := by
                  intro n
                  induction n with
                  | zero => intro k y H locs cl sl ls hk h2 hIy hy0 hy2 hy11 hcl hsl hP hS hl; exact absurd h2 (by omega)
                  | succ n ih =>
                    intro k y H locs cl sl ls hk h2 hIy hy0 hy2 hy11 hcl hsl hP hS hl
                    refine lv_iload_n S.1 S.2.1 dL_law_170 rfl (lv_at hl 2 rfl) ?_
                    refine z_kie (tgt := 260) S (by decide) dL_law_171 (by decide) ?_
                    refine lv_iload S.1 S.2.1 dL_law_174 (lv_at hl 5 rfl) ?_
                    refine va_gets (A := zA s.heap.size) S.1 S.2.1 hZ.txZ hS S.2.2.2.1 (S.2.2.2.2 _ k934) (fun _ h => h) dL_law_176 ?_
                    refine va_tlen (A := zA s.heap.size) (v := nI 31) S.1 S.2.1 hZ.txT hS rfl dL_law_179 ?_
                    refine z_cge (tgt := 260) S (by omega) (by omega) dL_law_180 (by decide) (fun h4 => ?_) (fun h4 => ?_)
                    · refine z_ic S (k := 0) dL_law_260 (by decide) ?_
                      refine lv_istore (lv' := [(7, .int (nI (0))), (0, .ref (b)), (1, .ref (s.heap.size)), (3, .int (nI (1))), (4, .long (yDst (v0))), (6, .int (nI (v0 2 0 3)))]) S.1 S.2.1 dL_law_261 hl (by decide) rfl (fun ls hl => ?_)
                      have turns : ∀ (n : Nat) (k2 : Nat) (y : zSt) (H : Heap) (locs : List Loc) (cl sl : Nat) (ls : Array Slot), (k2 ≤ 2) → (2 < k2 + n) → (yIv y) → (y 2 = v0) → (y 11 0 0 3 = 1) → (cl ≤ 600 + 103 * k2) → (sl ≤ 7000 + 618 * k2) → (zSO g s.heap.size y H) → (va_S (zA s.heap.size) s.heap H locs) → lv_has ls 9 [(0, .ref (b)), (1, .ref (s.heap.size)), (3, .int (nI (1))), (4, .long (yDst (v0))), (6, .int (nI (v0 2 0 3))), (7, .int (nI (k2)))] → W p l e R s m args below meth c H locs cl sl Q (F0 m 263 ls []) := by
                        intro n
                        induction n with
                        | zero => intro k2 y H locs cl sl ls hk h2 hIy hy2 hy11 hcl hsl hP hS hl; exact absurd h2 (by omega)
                        | succ n ih =>
                          intro k2 y H locs cl sl ls hk h2 hIy hy2 hy11 hcl hsl hP hS hl
                          refine lv_iload_n S.1 S.2.1 dL_law_263 rfl (lv_at hl 2 rfl) ?_
                          refine z_kie (tgt := 327) S (by decide) dL_law_264 (by decide) ?_
                          refine lv_iload S.1 S.2.1 dL_law_267 (lv_at hl 5 rfl) ?_
                          refine z_ic S (k := 2) dL_law_269 (by decide) ?_
                          refine z_cge (tgt := 327) S (by omega) (by omega) dL_law_270 (by decide) (fun h4 => ?_) (fun h4 => ?_)
                          · refine lv_iload_n S.1 S.2.1 dL_law_327 rfl (lv_at hl 2 rfl) ?_
                            refine z_kie (tgt := 370) S (by decide) dL_law_328 (by decide) ?_
                            refine lv_aload_n S.1 S.2.1 dL_law_331 rfl (lv_at hl 1 rfl) ?_
                            refine z_w1SW (v0 := some (.int (nI (y 2 2 0 3)))) (rest := []) (As := [.ref (s.heap.size)]) S hZ hS (c_L_restore l hl0 g hB y hIy hy11) hB ci_L_restore cv_L_restore k863 ⟨rfl, rfl, by rw [hR]; exact Nat.le_of_ble_eq_true rfl, by rw [hR]; exact Nat.le_of_ble_eq_true rfl⟩ hP hl.1 rfl (Nat.le_of_ble_eq_true rfl) dL_law_332 ⟨by rw [hR]; show cl + 0 ≤ 1200390; omega, by rw [hR]; show sl + 0 ≤ 5491200; omega⟩ rfl (fun H1 locs1 hPn hCn hSn => ?_)
                            clear hP
                            obtain ⟨z1, hP, hI1, h10, -, -, hn1⟩ := hPn
                            replace hS := hSn
                            clear hCn hSn
                            have e10 : z1 0 = v0 := h10.trans hy2
                            refine lv_iload S.1 S.2.1 dL_law_335 (lv_at hl 4 rfl) ?_
                            refine z_kne (tgt := 370) S (by rw [hy2]) dL_law_337 (by decide) ?_
                            refine lv_aload_n S.1 S.2.1 dL_law_340 rfl (lv_at hl 1 rfl) ?_
                            refine z_cS (v := some (.long (yDst (z1 0)))) (rest := []) (As := [.ref (s.heap.size)]) S hZ hS (c_digest l hl0 g z1 hI1.ok) ci_L_digest cv_L_digest k936 ⟨rfl, rfl, by rw [hR]; exact Nat.le_of_ble_eq_true rfl, by rw [hR]; exact Nat.le_of_ble_eq_true rfl⟩ hP hl.1 rfl (Nat.le_of_ble_eq_true rfl) dL_law_341 ⟨by rw [hR]; show (cl + 0) + 0 ≤ 1200390; omega, by rw [hR]; show (sl + 0) + 0 ≤ 5491200; omega⟩ rfl ?_
                            rw [show yDst (z1 0) = yDst (v0) from congrArg yDst e10]
                            refine lv_lload S.1 S.2.1 dL_law_344 (lv_at hl 3 rfl) ?_
                            refine W.lcmp S.1 S.2.1 dL_law_346 ?_
                            rw [lg_cmp_rf]
                            refine z_kin (tgt := 370) S rfl dL_law_347 (by decide) ?_
                            refine lv_aload_n S.1 S.2.1 dL_law_350 rfl (lv_at hl 1 rfl) ?_
                            refine z_w1SW (v0 := some (.int (-100000000))) (rest := []) (As := [.ref (s.heap.size)]) S hZ hS (c_L_undo_no l hl0 g hB z1 hI1.ok hn1) hB ci_L_undo cv_L_undo k832 ⟨rfl, rfl, by rw [hR]; exact Nat.le_of_ble_eq_true rfl, by rw [hR]; exact Nat.le_of_ble_eq_true rfl⟩ hP hl.1 rfl (Nat.le_of_ble_eq_true rfl) dL_law_351 ⟨by rw [hR]; show (cl + 0) + 1 ≤ 1200390; omega, by rw [hR]; show (sl + 0) + 6 ≤ 5491200; omega⟩ rfl (fun H1 locs1 hPn hCn hSn => ?_)
                            clear hP
                            have hP := hPn
                            clear hPn
                            replace hS := hSn
                            clear hCn hSn
                            refine lv_ldc S.1 S.2.1 S.2.2.2.1 (S.2.2.2.2 _ k324) dL_law_354 ?_
                            refine z_kne (tgt := 370) S rfl dL_law_356 (by decide) ?_
                            refine lv_aload_n S.1 S.2.1 dL_law_359 rfl (lv_at hl 1 rfl) ?_
                            refine z_cV (v := some (.int (nI (z1 12 0 0 2)))) (rest := []) (As := []) S hZ hS (c_undoCount l g z1 hI1.ok) ci_X11_undoCount cv_X11_undoCount k288 ⟨rfl, rfl, by rw [hR]; exact Nat.le_of_ble_eq_true rfl, by rw [hR]; exact Nat.le_of_ble_eq_true rfl⟩ hP (hP.1.recv hZ.1 0 (by decide) rfl rfl rfl) hl.1 rfl (Nat.le_of_ble_eq_true rfl) dL_law_360 ⟨by rw [hR]; show ((cl + 0) + 1) + 0 ≤ 1200390; omega, by rw [hR]; show ((sl + 0) + 6) + 0 ≤ 5491200; omega⟩ rfl ?_
                            refine z_kin (tgt := 370) S (by rw [show z1 12 0 0 2 = 0 from hn1]; rfl) dL_law_363 (by decide) ?_
                            refine z_ic S (k := 1) dL_law_366 (by decide) ?_
                            refine lv_goto (tgt := 371) S.1 S.2.1 dL_law_367 (by decide) ?_
                            exact hend _ _ _ _ ls hS (by omega) (by omega)
                          · refine lv_aload_n S.1 S.2.1 dL_law_273 rfl (lv_at hl 1 rfl) ?_
                            refine lv_iload S.1 S.2.1 dL_law_274 (lv_at hl 5 rfl) ?_
                            refine z_bi S (k := 20) dL_law_276 (by decide) ?_
                            refine z_wSW (rest := []) (As := [.ref (s.heap.size), .int (nI (k2)), .int (nI (20))]) S hZ hS (c_L_addWax l hl0 g hB y hIy (k2) (by omega) (20) (by omega)) hB ci_L_addWax cv_L_addWax k657 ⟨rfl, rfl, by rw [hR]; exact Nat.le_of_ble_eq_true rfl, by rw [hR]; exact Nat.le_of_ble_eq_true rfl⟩ hP hl.1 rfl (Nat.le_of_ble_eq_true rfl) dL_law_278 ⟨by rw [hR]; show cl + 1 ≤ 1200390; omega, by rw [hR]; show sl + 6 ≤ 5491200; omega⟩ (fun v9 H1 locs1 hPn hCn hSn => ?_)
                            clear hP
                            obtain ⟨z1, hP, han⟩ := hPn
                            obtain ⟨a9, rfl, hIz1, h2z1, h11z1⟩ := yAn_k han
                            clear han
                            replace hS := hSn
                            clear hCn hSn
                            show W p l e R s m args below meth c H1 locs1 (cl + 1) (sl + 6) Q (F0 m 281 ls [.int (a9)])
                            refine lv_pop S.1 S.2.1 dL_law_281 rfl ?_
                            refine lv_aload_n S.1 S.2.1 dL_law_282 rfl (lv_at hl 1 rfl) ?_
                            refine lv_iload S.1 S.2.1 dL_law_283 (lv_at hl 5 rfl) ?_
                            refine z_wSW (rest := []) (As := [.ref (s.heap.size), .int (nI (k2))]) S hZ hS (c_L_light l hl0 g hB z1 hIz1 (k2) (by omega)) hB ci_L_light cv_L_light k627 ⟨rfl, rfl, by rw [hR]; exact Nat.le_of_ble_eq_true rfl, by rw [hR]; exact Nat.le_of_ble_eq_true rfl⟩ hP hl.1 rfl (Nat.le_of_ble_eq_true rfl) dL_law_285 ⟨by rw [hR]; show (cl + 1) + 1 ≤ 1200390; omega, by rw [hR]; show (sl + 6) + 6 ≤ 5491200; omega⟩ (fun v9 H1 locs1 hPn hCn hSn => ?_)
                            clear hP
                            obtain ⟨z2, hP, han⟩ := hPn
                            obtain ⟨a9, rfl, hIz2, h2z2, h11z2⟩ := yAn_k han
                            clear han
                            replace hS := hSn
                            clear hCn hSn
                            show W p l e R s m args below meth c H1 locs1 ((cl + 1) + 1) ((sl + 6) + 6) Q (F0 m 288 ls [.int (a9)])
                            refine lv_pop S.1 S.2.1 dL_law_288 rfl ?_
                            refine lv_aload_n S.1 S.2.1 dL_law_289 rfl (lv_at hl 1 rfl) ?_
                            refine z_bi S (k := 6) dL_law_290 (by decide) ?_
                            refine lv_iload S.1 S.2.1 dL_law_292 (lv_at hl 5 rfl) ?_
                            refine z_sub S (by omega) dL_law_294 ?_
                            refine z_wSW (rest := []) (As := [.ref (s.heap.size), .int (nI (6 - k2))]) S hZ hS (c_L_weave l hl0 g hB z2 hIz2 (6 - k2) (by omega)) hB ci_L_weave cv_L_weave k666 ⟨rfl, rfl, by rw [hR]; exact Nat.le_of_ble_eq_true rfl, by rw [hR]; exact Nat.le_of_ble_eq_true rfl⟩ hP hl.1 rfl (Nat.le_of_ble_eq_true rfl) dL_law_295 ⟨by rw [hR]; show ((cl + 1) + 1) + 1 ≤ 1200390; omega, by rw [hR]; show ((sl + 6) + 6) + 6 ≤ 5491200; omega⟩ (fun v9 H1 locs1 hPn hCn hSn => ?_)
                            clear hP
                            obtain ⟨z3, hP, han⟩ := hPn
                            obtain ⟨a9, rfl, hIz3, h2z3, h11z3⟩ := yAn_k han
                            clear han
                            replace hS := hSn
                            clear hCn hSn
                            show W p l e R s m args below meth c H1 locs1 (((cl + 1) + 1) + 1) (((sl + 6) + 6) + 6) Q (F0 m 298 ls [.int (a9)])
                            refine lv_pop S.1 S.2.1 dL_law_298 rfl ?_
                            refine lv_aload_n S.1 S.2.1 dL_law_299 rfl (lv_at hl 1 rfl) ?_
                            refine z_ic S (k := 2) dL_law_300 (by decide) ?_
                            refine lv_iload S.1 S.2.1 dL_law_301 (lv_at hl 5 rfl) ?_
                            refine z_mul S dL_law_303 ?_
                            refine z_ic S (k := 3) dL_law_304 (by decide) ?_
                            refine z_wSW (rest := []) (As := [.ref (s.heap.size), .int (nI (2 * k2)), .int (nI (3))]) S hZ hS (c_L_knot l hl0 g hB z3 hIz3 (2 * k2) (by omega) (3) (by omega)) hB ci_L_knot cv_L_knot k684 ⟨rfl, rfl, by rw [hR]; exact Nat.le_of_ble_eq_true rfl, by rw [hR]; exact Nat.le_of_ble_eq_true rfl⟩ hP hl.1 rfl (Nat.le_of_ble_eq_true rfl) dL_law_305 ⟨by rw [hR]; show (((cl + 1) + 1) + 1) + 1 ≤ 1200390; omega, by rw [hR]; show (((sl + 6) + 6) + 6) + 6 ≤ 5491200; omega⟩ (fun v9 H1 locs1 hPn hCn hSn => ?_)
                            clear hP
                            obtain ⟨z4, hP, han⟩ := hPn
                            obtain ⟨a9, rfl, hIz4, h2z4, h11z4⟩ := yAn_k han
                            clear han
                            replace hS := hSn
                            clear hCn hSn
                            show W p l e R s m args below meth c H1 locs1 ((((cl + 1) + 1) + 1) + 1) ((((sl + 6) + 6) + 6) + 6) Q (F0 m 308 ls [.int (a9)])
                            refine lv_pop S.1 S.2.1 dL_law_308 rfl ?_
                            refine lv_aload_n S.1 S.2.1 dL_law_309 rfl (lv_at hl 1 rfl) ?_
                            refine z_ic S (k := 2) dL_law_310 (by decide) ?_
                            refine z_ic S (k := 1) dL_law_311 (by decide) ?_
                            refine z_wSW (rest := []) (As := [.ref (s.heap.size), .int (nI (2)), .int (nI (1))]) S hZ hS (c_L_repeatLast l hl0 g hB z4 hIz4 (2) (by omega) (1) (by omega)) hB ci_L_repeatLast cv_L_repeatLast k675 ⟨rfl, rfl, by rw [hR]; exact Nat.le_of_ble_eq_true rfl, by rw [hR]; exact Nat.le_of_ble_eq_true rfl⟩ hP hl.1 rfl (Nat.le_of_ble_eq_true rfl) dL_law_312 ⟨by rw [hR]; show ((((cl + 1) + 1) + 1) + 1) + 1 ≤ 1200390; omega, by rw [hR]; show ((((sl + 6) + 6) + 6) + 6) + 6 ≤ 5491200; omega⟩ (fun v9 H1 locs1 hPn hCn hSn => ?_)
                            clear hP
                            obtain ⟨z5, hP, han⟩ := hPn
                            obtain ⟨a9, rfl, hIz5, h2z5, h11z5⟩ := yAn_k han
                            clear han
                            replace hS := hSn
                            clear hCn hSn
                            show W p l e R s m args below meth c H1 locs1 (((((cl + 1) + 1) + 1) + 1) + 1) (((((sl + 6) + 6) + 6) + 6) + 6) Q (F0 m 315 ls [.int (a9)])
                            refine lv_pop S.1 S.2.1 dL_law_315 rfl ?_
                            refine lv_aload_n S.1 S.2.1 dL_law_316 rfl (lv_at hl 1 rfl) ?_
                            refine z_w1S (v0 := some (.int (nI (1)))) (rest := []) (As := [.ref (s.heap.size)]) S hZ hS (c_isFit l hl0 g hB z5 hIz5) hB ci_L_isFit cv_L_isFit k1047 ⟨rfl, rfl, by rw [hR]; exact Nat.le_of_ble_eq_true rfl, by rw [hR]; exact Nat.le_of_ble_eq_true rfl⟩ hP hl.1 rfl (Nat.le_of_ble_eq_true rfl) dL_law_317 ⟨by rw [hR]; show (((((cl + 1) + 1) + 1) + 1) + 1) + 98 ≤ 1200390; omega, by rw [hR]; show (((((sl + 6) + 6) + 6) + 6) + 6) + 588 ≤ 5491200; omega⟩ rfl (fun H1 locs1 hPn hCn hSn => ?_)
                            clear hP
                            obtain ⟨z6, hP, hk6⟩ := hPn
                            replace hS := hSn
                            clear hCn hSn
                            refine lv_istore_n (lv' := [(3, .int (nI (1))), (0, .ref (b)), (1, .ref (s.heap.size)), (4, .long (yDst (v0))), (6, .int (nI (v0 2 0 3))), (7, .int (nI (k2)))]) S.1 S.2.1 dL_law_320 rfl hl (by decide) rfl (fun ls hl => ?_)
                            refine z_inc S (lv' := [(7, .int (nI (k2 + 1))), (3, .int (nI (1))), (0, .ref (b)), (1, .ref (s.heap.size)), (4, .long (yDst (v0))), (6, .int (nI (v0 2 0 3)))]) (k := 5) (b := 1) dL_law_321 hl rfl (by decide) (by decide) rfl (fun ls hl => ?_)
                            refine lv_goto (tgt := 263) S.1 S.2.1 dL_law_324 (by decide) ?_
                            exact ih (k2 + 1) z6 _ _ _ _ ls (by omega) (by omega) hk6.1 (by rw [hk6.2.2.1, h2z5, h2z4, h2z3, h2z2, h2z1]; exact hy2) (by rw [hk6.2.2.2, h11z5, h11z4, h11z3, h11z2, h11z1]; exact hy11) (by omega) (by omega) hP hS (lv_sub hl [2, 3, 1, 4, 5, 0] rfl)
                      exact turns 3 0 y _ _ _ _ ls (by omega) (by omega) hIy hy2 hy11 (by omega) (by omega) hP hS (lv_sub hl [1, 2, 3, 4, 5, 0] rfl)
                    · refine lv_aload_n S.1 S.2.1 dL_law_183 rfl (lv_at hl 1 rfl) ?_
                      refine va_gets (A := zA s.heap.size) S.1 S.2.1 hZ.txZ hS S.2.2.2.1 (S.2.2.2.2 _ k934) (fun _ h => h) dL_law_184 ?_
                      refine lv_iload S.1 S.2.1 dL_law_187 (lv_at hl 5 rfl) ?_
                      refine vb_tq (A := zA s.heap.size) (v := .ref (g.2 2 (17 + k))) S.1 S.2.1 hZ.txT hS (vp_in_nI h4 (by decide)) (by rw [nI_clamp (by omega)]) dL_law_189 ?_
                      refine z_w1S (v0 := some (.ref (s.heap.size))) (rest := []) (As := [.ref (s.heap.size), .ref (g.2 2 (17 + k))]) S hZ hS (c_L_write l hl0 g hB y hIy.2.1 k h4) hB ci_L_write cv_L_write k874 ⟨rfl, rfl, by rw [hR]; exact Nat.le_of_ble_eq_true rfl, by rw [hR]; exact Nat.le_of_ble_eq_true rfl⟩ hP hl.1 rfl (Nat.le_of_ble_eq_true rfl) dL_law_190 ⟨by rw [hR]; show cl + 0 ≤ 1200390; omega, by rw [hR]; show sl + 0 ≤ 5491200; omega⟩ rfl (fun H1 locs1 hPn hCn hSn => ?_)
                      clear hP
                      obtain ⟨z8, hP, hz8, hb8⟩ := hPn
                      replace hS := hSn
                      clear hCn hSn
                      refine z_wSW (rest := []) (As := [.ref (s.heap.size)]) S hZ hS (c_L_execute l hl0 g hB z8 (yIv_15 hIy hz8) (by rw [hz8 11 (by decide)]; exact hIy.2.2) k h4 hb8) hB ci_L_execute cv_L_execute k693 ⟨rfl, rfl, by rw [hR]; exact Nat.le_of_ble_eq_true rfl, by rw [hR]; exact Nat.le_of_ble_eq_true rfl⟩ hP hl.1 rfl (Nat.le_of_ble_eq_true rfl) dL_law_193 ⟨by rw [hR]; show (cl + 0) + 1 ≤ 1200390; omega, by rw [hR]; show (sl + 0) + 6 ≤ 5491200; omega⟩ (fun v9 H1 locs1 hPn hCn hSn => ?_)
                      clear hP
                      obtain ⟨z9, hP, han⟩ := hPn
                      replace hS := hSn
                      clear hCn hSn
                      have h80 : z8 0 = v0 := (hz8 0 (by decide)).trans hy0
                      have h82 : z8 2 = v0 := (hz8 2 (by decide)).trans hy2
                      have h811 : z8 11 0 0 3 = 1 := by rw [hz8 11 (by decide)]; exact hy11
                      rcases han with ⟨n9, v2, hn9, rfl, hch⟩ | ⟨rfl, hno, hd7, hd1, hd10⟩
                      · show W p l e R s m args below meth c H1 locs1 ((cl + 0) + 1) ((sl + 0) + 6) Q (F0 m 196 ls [.int (nI (n9))])
                        refine lv_istore (lv' := [(8, .int (nI (n9))), (0, .ref (b)), (1, .ref (s.heap.size)), (3, .int (nI (1))), (4, .long (yDst (v0))), (6, .int (nI (v0 2 0 3))), (7, .int (nI (k)))]) S.1 S.2.1 dL_law_196 hl (by decide) rfl (fun ls hl => ?_)
                        refine lv_iload S.1 S.2.1 dL_law_198 (lv_at hl 0 rfl) ?_
                        refine lv_ldc S.1 S.2.1 S.2.2.2.1 (S.2.2.2.2 _ k324) dL_law_200 ?_
                        refine z_knt (tgt := 224) S (zn_neg hn9 (by decide)) dL_law_202 (by decide) ?_
                        refine lv_aload_n S.1 S.2.1 dL_law_224 rfl (lv_at hl 2 rfl) ?_
                        refine z_w1S (v0 := some (.int (nI (1)))) (rest := []) (As := [.ref (s.heap.size)]) S hZ hS (c_areWicks l hl0 g hB z9 hch.1) hB ci_L_areWicks cv_L_areWicks k1002 ⟨rfl, rfl, by rw [hR]; exact Nat.le_of_ble_eq_true rfl, by rw [hR]; exact Nat.le_of_ble_eq_true rfl⟩ hP hl.1 rfl (Nat.le_of_ble_eq_true rfl) dL_law_225 ⟨by rw [hR]; show ((cl + 0) + 1) + 2 ≤ 1200390; omega, by rw [hR]; show ((sl + 0) + 6) + 12 ≤ 5491200; omega⟩ rfl (fun H1 locs1 hPn hCn hSn => ?_)
                        clear hP
                        obtain ⟨z10, hP, hn10⟩ := hPn
                        replace hS := hSn
                        clear hCn hSn
                        have hch2 := hch.noc hn10
                        refine z_kie (tgt := 252) S (by decide) dL_law_228 (by decide) ?_
                        refine lv_aload_n S.1 S.2.1 dL_law_231 rfl (lv_at hl 2 rfl) ?_
                        refine z_w1SW (v0 := some (.int (nI (z10 12 0 0 2 - 1)))) (rest := []) (As := [.ref (s.heap.size)]) S hZ hS (c_L_undo l hl0 g hB z10 hch2.1 hch2.n1.1) hB ci_L_undo cv_L_undo k832 ⟨rfl, rfl, by rw [hR]; exact Nat.le_of_ble_eq_true rfl, by rw [hR]; exact Nat.le_of_ble_eq_true rfl⟩ hP hl.1 rfl (Nat.le_of_ble_eq_true rfl) dL_law_232 ⟨by rw [hR]; show (((cl + 0) + 1) + 2) + 0 ≤ 1200390; omega, by rw [hR]; show (((sl + 0) + 6) + 12) + 0 ≤ 5491200; omega⟩ rfl (fun H1 locs1 hPn hCn hSn => ?_)
                        clear hP
                        obtain ⟨z11, hP, hud⟩ := hPn
                        replace hS := hSn
                        clear hCn hSn
                        refine z_ilt (tgt := 252) S (by have := hch2.1.1.2.2.2.2; omega) dL_law_235 (by decide) ?_
                        have hke := (yUd.ch hch2 hud).1
                        have hv9 : zOk (z11 0) := hke.1.ok
                        refine lv_aload_n S.1 S.2.1 dL_law_238 rfl (lv_at hl 2 rfl) ?_
                        refine z_cS (v := some (.long (yDst (z11 0)))) (rest := []) (As := [.ref (s.heap.size)]) S hZ hS (c_digest l hl0 g z11 hv9) ci_L_digest cv_L_digest k936 ⟨rfl, rfl, by rw [hR]; exact Nat.le_of_ble_eq_true rfl, by rw [hR]; exact Nat.le_of_ble_eq_true rfl⟩ hP hl.1 rfl (Nat.le_of_ble_eq_true rfl) dL_law_239 ⟨by rw [hR]; show ((((cl + 0) + 1) + 2) + 0) + 0 ≤ 1200390; omega, by rw [hR]; show ((((sl + 0) + 6) + 12) + 0) + 0 ≤ 5491200; omega⟩ rfl ?_
                        rw [show yDst (z11 0) = yDst (v0) from congrArg yDst (hke.2.1.trans h80)]
                        refine lv_lload S.1 S.2.1 dL_law_242 (lv_at hl 4 rfl) ?_
                        refine W.lcmp S.1 S.2.1 dL_law_244 ?_
                        rw [lg_cmp_rf]
                        refine z_kin (tgt := 252) S rfl dL_law_245 (by decide) ?_
                        refine z_ic S (k := 1) dL_law_248 (by decide) ?_
                        refine lv_goto (tgt := 253) S.1 S.2.1 dL_law_249 (by decide) ?_
                        refine lv_istore_n (lv' := [(3, .int (nI (1))), (8, .int (nI (n9))), (0, .ref (b)), (1, .ref (s.heap.size)), (4, .long (yDst (v0))), (6, .int (nI (v0 2 0 3))), (7, .int (nI (k)))]) S.1 S.2.1 dL_law_253 rfl hl (by decide) rfl (fun ls hl => ?_)
                        refine z_inc S (lv' := [(7, .int (nI (k + 1))), (3, .int (nI (1))), (8, .int (nI (n9))), (0, .ref (b)), (1, .ref (s.heap.size)), (4, .long (yDst (v0))), (6, .int (nI (v0 2 0 3)))]) (k := 6) (b := 1) dL_law_254 hl rfl (by decide) (by decide) rfl (fun ls hl => ?_)
                        refine lv_goto (tgt := 170) S.1 S.2.1 dL_law_257 (by decide) ?_
                        exact ih (k + 1) z11 _ _ _ _ ls (by omega) (by omega) hke.1 (hke.2.1.trans h80) (hke.2.2.1.trans h82) (hke.2.2.2.trans h811) (by omega) (by omega) hP hS (lv_sub hl [3, 4, 1, 5, 6, 0] rfl)
                      · show W p l e R s m args below meth c H1 locs1 ((cl + 0) + 1) ((sl + 0) + 6) Q (F0 m 196 ls [.int (-100000000)])
                        refine lv_istore (lv' := [(8, .int (-100000000)), (0, .ref (b)), (1, .ref (s.heap.size)), (3, .int (nI (1))), (4, .long (yDst (v0))), (6, .int (nI (v0 2 0 3))), (7, .int (nI (k)))]) S.1 S.2.1 dL_law_196 hl (by decide) rfl (fun ls hl => ?_)
                        refine lv_iload S.1 S.2.1 dL_law_198 (lv_at hl 0 rfl) ?_
                        refine lv_ldc S.1 S.2.1 S.2.2.2.1 (S.2.2.2.2 _ k324) dL_law_200 ?_
                        refine z_kne (tgt := 224) S rfl dL_law_202 (by decide) ?_
                        refine lv_aload_n S.1 S.2.1 dL_law_205 rfl (lv_at hl 2 rfl) ?_
                        refine z_cSW (v := some (.int (nI (z9 11 0 0 11)))) (rest := []) (As := [.ref (s.heap.size)]) S hZ hS (c_L_denial l hl0 g z9 hno.1.ok hd7) ci_L_denial cv_L_denial k798 ⟨rfl, rfl, by rw [hR]; exact Nat.le_of_ble_eq_true rfl, by rw [hR]; exact Nat.le_of_ble_eq_true rfl⟩ hP hl.1 rfl (Nat.le_of_ble_eq_true rfl) dL_law_206 ⟨by rw [hR]; show ((cl + 0) + 1) + 0 ≤ 1200390; omega, by rw [hR]; show ((sl + 0) + 6) + 0 ≤ 5491200; omega⟩ rfl ?_
                        refine z_bi S (k := 7) dL_law_209 (by decide) ?_
                        refine z_kne (tgt := 252) S (by rw [hd7]) dL_law_211 (by decide) ?_
                        refine lv_aload_n S.1 S.2.1 dL_law_214 rfl (lv_at hl 2 rfl) ?_
                        refine z_cSW (v := some (.int (nI (z9 11 0 0 13)))) (rest := []) (As := [.ref (s.heap.size)]) S hZ hS (c_L_denialCause l hl0 g z9 hno.1.ok hd7) ci_L_denialCause cv_L_denialCause k825 ⟨rfl, rfl, by rw [hR]; exact Nat.le_of_ble_eq_true rfl, by rw [hR]; exact Nat.le_of_ble_eq_true rfl⟩ hP hl.1 rfl (Nat.le_of_ble_eq_true rfl) dL_law_215 ⟨by rw [hR]; show ((cl + 0) + 1) + 0 ≤ 1200390; omega, by rw [hR]; show ((sl + 0) + 6) + 0 ≤ 5491200; omega⟩ rfl ?_
                        refine z_ile (tgt := 252) S (by omega) dL_law_218 (by decide) (fun h7 => ?_) (fun h7 => ?_)
                        · exact absurd h7 (by omega)
                        · have hv9 : zOk (z9 0) := hno.1.ok
                          refine lv_goto (tgt := 238) S.1 S.2.1 dL_law_221 (by decide) ?_
                          refine lv_aload_n S.1 S.2.1 dL_law_238 rfl (lv_at hl 2 rfl) ?_
                          refine z_cS (v := some (.long (yDst (z9 0)))) (rest := []) (As := [.ref (s.heap.size)]) S hZ hS (c_digest l hl0 g z9 hv9) ci_L_digest cv_L_digest k936 ⟨rfl, rfl, by rw [hR]; exact Nat.le_of_ble_eq_true rfl, by rw [hR]; exact Nat.le_of_ble_eq_true rfl⟩ hP hl.1 rfl (Nat.le_of_ble_eq_true rfl) dL_law_239 ⟨by rw [hR]; show ((cl + 0) + 1) + 0 ≤ 1200390; omega, by rw [hR]; show ((sl + 0) + 6) + 0 ≤ 5491200; omega⟩ rfl ?_
                          rw [show yDst (z9 0) = yDst (v0) from congrArg yDst (hno.2.1.trans h80)]
                          refine lv_lload S.1 S.2.1 dL_law_242 (lv_at hl 4 rfl) ?_
                          refine W.lcmp S.1 S.2.1 dL_law_244 ?_
                          rw [lg_cmp_rf]
                          refine z_kin (tgt := 252) S rfl dL_law_245 (by decide) ?_
                          refine z_ic S (k := 1) dL_law_248 (by decide) ?_
                          refine lv_goto (tgt := 253) S.1 S.2.1 dL_law_249 (by decide) ?_
                          refine lv_istore_n (lv' := [(3, .int (nI (1))), (8, .int (-100000000)), (0, .ref (b)), (1, .ref (s.heap.size)), (4, .long (yDst (v0))), (6, .int (nI (v0 2 0 3))), (7, .int (nI (k)))]) S.1 S.2.1 dL_law_253 rfl hl (by decide) rfl (fun ls hl => ?_)
                          refine z_inc S (lv' := [(7, .int (nI (k + 1))), (3, .int (nI (1))), (8, .int (-100000000)), (0, .ref (b)), (1, .ref (s.heap.size)), (4, .long (yDst (v0))), (6, .int (nI (v0 2 0 3)))]) (k := 6) (b := 1) dL_law_254 hl rfl (by decide) (by decide) rfl (fun ls hl => ?_)
                          refine lv_goto (tgt := 170) S.1 S.2.1 dL_law_257 (by decide) ?_
                          exact ih (k + 1) z9 _ _ _ _ ls (by omega) (by omega) hno.1 (hno.2.1.trans h80) (hno.2.2.1.trans h82) (hno.2.2.2.1.trans h811) (by omega) (by omega) hP hS (lv_sub hl [3, 4, 1, 5, 6, 0] rfl)
                exact texts 32 0 z3 _ _ _ _ ls (Nat.zero_le _) (by omega) hIs hs0 hs2 hs11 (by omega) (by omega) hP hS (lv_sub hl [4, 5, 3, 2, 1, 0] rfl)
              · refine lv_aload_n S.1 S.2.1 dL_law_107 rfl (lv_at hl 1 rfl) ?_
                refine z_cS (v := some (.long (yDst (y 0)))) (rest := []) (As := [.ref (s.heap.size)]) S hZ hS (c_digest l hl0 g y hIy.ok) ci_L_digest cv_L_digest k936 ⟨rfl, rfl, by rw [hR]; exact Nat.le_of_ble_eq_true rfl, by rw [hR]; exact Nat.le_of_ble_eq_true rfl⟩ hP hl.1 rfl (Nat.le_of_ble_eq_true rfl) dL_law_108 ⟨by rw [hR]; show cl + 0 ≤ 1200390; omega, by rw [hR]; show sl + 0 ≤ 5491200; omega⟩ rfl ?_
                refine lv_lstore (lv' := [(4, .long (yDst (y 0))), (0, .ref (b)), (1, .ref (s.heap.size)), (2, .int (nI (ac))), (3, .int (nI (i)))]) S.1 S.2.1 dL_law_111 hl (by decide) rfl (fun ls hl => ?_)
                refine lv_aload_n S.1 S.2.1 dL_law_113 rfl (lv_at hl 2 rfl) ?_
                refine lv_aload_n S.1 S.2.1 dL_law_114 rfl (lv_at hl 1 rfl) ?_
                refine lv_iload_n S.1 S.2.1 dL_law_115 rfl (lv_at hl 4 rfl) ?_
                refine z_cell S hX hbl hS hL (i) (by omega) k315 ⟨rfl, rfl, by rw [hR]; exact Nat.le_of_ble_eq_true rfl, by rw [hR]; exact Nat.le_of_ble_eq_true rfl⟩ hl.1 (Nat.le_of_ble_eq_true rfl) dL_law_116 ⟨by rw [hR]; show cl + 0 ≤ 1200390; omega, by rw [hR]; show sl + 0 ≤ 5491200; omega⟩ ?_
                refine z_wS (rest := []) (As := [.ref (s.heap.size), .int (yCv L xs (i))]) S hZ hS (c_L_act l hl0 g hB y hIy (yCv L xs (i))) hB ci_L_act cv_L_act k894 ⟨rfl, rfl, by rw [hR]; exact Nat.le_of_ble_eq_true rfl, by rw [hR]; exact Nat.le_of_ble_eq_true rfl⟩ hP hl.1 rfl (Nat.le_of_ble_eq_true rfl) dL_law_119 ⟨by rw [hR]; show cl + 1 ≤ 1200390; omega, by rw [hR]; show sl + 6 ≤ 5491200; omega⟩ (fun v9 H1 locs1 hPn hCn hSn => ?_)
                clear hP
                obtain ⟨a9, z9, rfl, hP, hI9, ha9⟩ := hPn
                replace hS := hSn
                clear hCn hSn
                show W p l e R s m args below meth c H1 locs1 (cl + 1) (sl + 6) Q (F0 m 122 ls [.int (a9)])
                have J_2 : ∀ (ls : Array Slot), lv_has ls 9 [(0, .ref (b)), (1, .ref (s.heap.size)), (2, .int (nI (ac))), (3, .int (nI (i)))] → W p l e R s m args below meth c H1 locs1 (cl + 1) (sl + 6) Q (F0 m 139 ls []) := by
                  intro ls hl
                  refine z_inc S (lv' := [(3, .int (nI (i + 1))), (0, .ref (b)), (1, .ref (s.heap.size)), (2, .int (nI (ac)))]) (k := 3) (b := 1) dL_law_139 hl rfl (by decide) (by decide) rfl (fun ls hl => ?_)
                  refine lv_goto (tgt := 102) S.1 S.2.1 dL_law_142 (by decide) ?_
                  exact ih (i + 1) z9 _ _ _ _ ls (by omega) (by omega) hI9 (by omega) (by omega) hP hS (lv_sub hl [1, 2, 3, 0] rfl)
                refine lv_ldc S.1 S.2.1 S.2.2.2.1 (S.2.2.2.2 _ k324) dL_law_122 ?_
                refine lv_icmp_ne (tgt := 139) S.1 S.2.1 dL_law_124 (by decide) (fun h5 => ?_) (fun h5 => ?_)
                · exact J_2 ls (lv_sub hl [1, 2, 3, 4] rfl)
                · refine lv_aload_n S.1 S.2.1 dL_law_127 rfl (lv_at hl 2 rfl) ?_
                  refine z_cS (v := some (.long (yDst (z9 0)))) (rest := []) (As := [.ref (s.heap.size)]) S hZ hS (c_digest l hl0 g z9 hI9.ok) ci_L_digest cv_L_digest k936 ⟨rfl, rfl, by rw [hR]; exact Nat.le_of_ble_eq_true rfl, by rw [hR]; exact Nat.le_of_ble_eq_true rfl⟩ hP hl.1 rfl (Nat.le_of_ble_eq_true rfl) dL_law_128 ⟨by rw [hR]; show (cl + 1) + 0 ≤ 1200390; omega, by rw [hR]; show (sl + 6) + 0 ≤ 5491200; omega⟩ rfl ?_
                  rw [show yDst (z9 0) = yDst (y 0) from congrArg yDst (ha9 h5)]
                  refine lv_lload S.1 S.2.1 dL_law_131 (lv_at hl 0 rfl) ?_
                  refine W.lcmp S.1 S.2.1 dL_law_133 ?_
                  rw [lg_cmp_rf]
                  refine lv_if_eq (tgt := 139) S.1 S.2.1 dL_law_134 (by decide) (fun _ => ?_) (fun h6 => absurd rfl h6)
                  exact J_2 ls (lv_sub hl [1, 2, 3, 4] rfl)
          exact acts 37 0 z1 _ _ _ _ ls (Nat.zero_le _) (by omega) hIz1 (by omega) (by omega) hP hS (lv_sub hl [2, 3, 1, 0] rfl)
        refine z_cge (tgt := 97) S (by omega) (by omega) dL_law_89 (by decide) (fun h5 => ?_) (fun h5 => ?_)
        · refine z_bi S (k := 36) dL_law_97 (by decide) ?_
          exact J_1 _ (by omega)
        · refine lv_aload_n S.1 S.2.1 dL_law_92 rfl (lv_at hl 0 rfl) ?_
          refine va_slen (A := zA s.heap.size) S.1 S.2.1 hX hbl hbA hS dL_law_93 ?_
          show W p l e R s m args below meth c H1 locs1 (cl + 1) (sl + 6) Q (F0 m 94 ls [.int (nI (L))])
          refine lv_goto (tgt := 99) S.1 S.2.1 dL_law_94 (by decide) ?_
          exact J_1 _ (by omega)
      · refine lv_aload_n S.1 S.2.1 dL_law_15 rfl (lv_at hl 1 rfl) ?_
        refine lv_aload_n S.1 S.2.1 dL_law_16 rfl (lv_at hl 0 rfl) ?_
        refine lv_iload_n S.1 S.2.1 dL_law_17 rfl (lv_at hl 2 rfl) ?_
        refine z_cell S hX hbl hS hL (k) (by omega) k315 ⟨rfl, rfl, by rw [hR]; exact Nat.le_of_ble_eq_true rfl, by rw [hR]; exact Nat.le_of_ble_eq_true rfl⟩ hl.1 (Nat.le_of_ble_eq_true rfl) dL_law_18 ⟨by rw [hR]; show cl + 0 ≤ 1200390; omega, by rw [hR]; show sl + 0 ≤ 5491200; omega⟩ ?_
        refine z_ic S (k := 4) dL_law_21 (by decide) ?_
        refine lv_ishr S.1 S.2.1 dL_law_22 ?_
        refine z_bi S (k := 7) dL_law_23 (by decide) ?_
        refine lv_iand S.1 S.2.1 dL_law_25 ?_
        obtain ⟨a1, ha1, ea1⟩ := yAnd ((yCv L xs (k)) >>> (nI (4) &&& 31)) 7
        rw [ea1]
        clear ea1
        refine z_ic S (k := 1) dL_law_26 (by decide) ?_
        refine lv_aload_n S.1 S.2.1 dL_law_27 rfl (lv_at hl 0 rfl) ?_
        refine lv_iload_n S.1 S.2.1 dL_law_28 rfl (lv_at hl 2 rfl) ?_
        refine z_cell S hX hbl hS hL (k) (by omega) k315 ⟨rfl, rfl, by rw [hR]; exact Nat.le_of_ble_eq_true rfl, by rw [hR]; exact Nat.le_of_ble_eq_true rfl⟩ hl.1 (Nat.le_of_ble_eq_true rfl) dL_law_29 ⟨by rw [hR]; show cl + 0 ≤ 1200390; omega, by rw [hR]; show sl + 0 ≤ 5491200; omega⟩ ?_
        refine z_ic S (k := 3) dL_law_32 (by decide) ?_
        refine lv_ishr S.1 S.2.1 dL_law_33 ?_
        refine z_si S (k := 32767) dL_law_34 (by decide) ?_
        refine lv_iand S.1 S.2.1 dL_law_37 ?_
        obtain ⟨b1, hb1, eb1⟩ := yAnd ((yCv L xs (k)) >>> (nI (3) &&& 31)) 32767
        rw [eb1]
        clear eb1
        refine z_add S dL_law_38 ?_
        refine z_ic S (k := 3) dL_law_39 (by decide) ?_
        refine lv_aload_n S.1 S.2.1 dL_law_40 rfl (lv_at hl 0 rfl) ?_
        refine lv_iload_n S.1 S.2.1 dL_law_41 rfl (lv_at hl 2 rfl) ?_
        refine z_cell S hX hbl hS hL (k) (by omega) k315 ⟨rfl, rfl, by rw [hR]; exact Nat.le_of_ble_eq_true rfl, by rw [hR]; exact Nat.le_of_ble_eq_true rfl⟩ hl.1 (Nat.le_of_ble_eq_true rfl) dL_law_42 ⟨by rw [hR]; show cl + 0 ≤ 1200390; omega, by rw [hR]; show sl + 0 ≤ 5491200; omega⟩ ?_
        refine z_bi S (k := 6) dL_law_45 (by decide) ?_
        refine lv_ishr S.1 S.2.1 dL_law_47 ?_
        refine z_bi S (k := 15) dL_law_48 (by decide) ?_
        refine lv_iand S.1 S.2.1 dL_law_50 ?_
        obtain ⟨c1, hc1, ec1⟩ := yAnd ((yCv L xs (k)) >>> (nI (6) &&& 31)) 15
        rw [ec1]
        clear ec1
        refine z_add S dL_law_51 ?_
        refine z_wSW (rest := []) (As := [.ref (s.heap.size), .int (nI (a1)), .int (nI (1 + b1)), .int (nI (3 + c1))]) S hZ hS (c_L_addWick l hl0 g hB y hIy (a1) (by omega) (1 + b1) (by omega) (3 + c1) (by omega)) hB ci_L_addWick cv_L_addWick k319 ⟨rfl, rfl, by rw [hR]; exact Nat.le_of_ble_eq_true rfl, by rw [hR]; exact Nat.le_of_ble_eq_true rfl⟩ hP hl.1 rfl (Nat.le_of_ble_eq_true rfl) dL_law_52 ⟨by rw [hR]; show cl + 1 ≤ 1200390; omega, by rw [hR]; show sl + 6 ≤ 5491200; omega⟩ (fun v9 H1 locs1 hPn hCn hSn => ?_)
        clear hP
        obtain ⟨z1, hP, han⟩ := hPn
        obtain ⟨a9, rfl, hIz1, h2z1, h11z1⟩ := yAn_k han
        clear han
        replace hS := hSn
        clear hCn hSn
        show W p l e R s m args below meth c H1 locs1 (cl + 1) (sl + 6) Q (F0 m 55 ls [.int (a9)])
        refine lv_pop S.1 S.2.1 dL_law_55 rfl ?_
        refine lv_aload_n S.1 S.2.1 dL_law_56 rfl (lv_at hl 1 rfl) ?_
        refine lv_iload_n S.1 S.2.1 dL_law_57 rfl (lv_at hl 2 rfl) ?_
        refine z_wSW (rest := []) (As := [.ref (s.heap.size), .int (nI (k))]) S hZ hS (c_L_light l hl0 g hB z1 hIz1 (k) (by omega)) hB ci_L_light cv_L_light k627 ⟨rfl, rfl, by rw [hR]; exact Nat.le_of_ble_eq_true rfl, by rw [hR]; exact Nat.le_of_ble_eq_true rfl⟩ hP hl.1 rfl (Nat.le_of_ble_eq_true rfl) dL_law_58 ⟨by rw [hR]; show (cl + 1) + 1 ≤ 1200390; omega, by rw [hR]; show (sl + 6) + 6 ≤ 5491200; omega⟩ (fun v9 H1 locs1 hPn hCn hSn => ?_)
        clear hP
        obtain ⟨z2, hP, han⟩ := hPn
        obtain ⟨a9, rfl, hIz2, h2z2, h11z2⟩ := yAn_k han
        clear han
        replace hS := hSn
        clear hCn hSn
        show W p l e R s m args below meth c H1 locs1 ((cl + 1) + 1) ((sl + 6) + 6) Q (F0 m 61 ls [.int (a9)])
        refine lv_pop S.1 S.2.1 dL_law_61 rfl ?_
        refine z_inc S (lv' := [(2, .int (nI (k + 1))), (0, .ref (b)), (1, .ref (s.heap.size))]) (k := 2) (b := 1) dL_law_62 hl rfl (by decide) (by decide) rfl (fun ls hl => ?_)
        refine lv_goto (tgt := 10) S.1 S.2.1 dL_law_65 (by decide) ?_
        exact ih (k + 1) z2 _ _ _ _ ls (by omega) (by omega) hIz2 (by omega) (by omega) hP hS (lv_sub hl [1, 2, 0] rfl)
  exact wicks 4 0 zS0 _ _ _ _ ls (by omega) (by omega) yIv_0 (by omega) (by omega) hP hS (lv_sub hl [2, 1, 0] rfl)
