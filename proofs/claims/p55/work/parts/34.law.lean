/-! THE LAW: digest, isPeriod, write, act -/
def yDgW (v : zL) (h : Int64) : Nat → Int64
  | 0 => h
  | n + 1 => ((31) * (((31) * (yDgW v h n)) + ((nI (v 1 3 n)).toInt64))) + ((nI (v 1 4 n)).toInt64)
def yDgC (x : Nat) (h : Int64) : Nat → Int64
  | 0 => h
  | n + 1 => ((31) * (yDgC x h n)) + ((nI (zBt x n).toNat).toInt64)
def yDgR (v : zL) (h : Int64) : Nat → Int64
  | 0 => h
  | n + 1 => yDgC (v 2 3 n) (((31) * (((31) * (yDgR v h n)) + ((nI (v 2 1 n)).toInt64))) + ((nI (v 2 2 n)).toInt64)) 16
def yDg0 (v : zL) : Int64 := ((((((((7) * ((nI (v 0 0 4)).toInt64)) + ((11) * ((nI (v 0 0 5)).toInt64))) + ((13) * ((nI (v 3 0 1)).toInt64))) + ((17) * ((nI (v 4 0 1)).toInt64))) + ((19) * ((nI (v 3 0 0)).toInt64))) + ((23) * ((nI (v 4 0 0)).toInt64))) + ((nI (v 1 0 4)).toInt64))
/-- what digest answers -/
def yDst (v : zL) : Int64 := yDgR v (((31) * (((31) * (yDgW v (yDg0 v) (v 1 0 4))) + ((nI (v 2 0 3)).toInt64))) + ((nI (zUb (v 3 0 1) (v 4 0 1) (zPt (v 1) (v 1 0 4)))).toInt64)) (v 2 0 3)
section ZLR
variable {p : Program} {l : Launch} {e : Env} {R : Room} {s : State} {m : MethodId} {args : Array Value} {below : List Frame} {meth : Method} {c : Code} {Q : State → Prop}
variable {cc : ByteArray} {pc nL : Nat} {own : String} {ls : Array Slot} {v : Option Value}
theorem z_rl (hQ : Q = MQ below (zR v) args s 0 0 (fun _ => False)) (S : CallFix p m c cc nL s args GW own) {x : Int64} (hr : meth.sig.returnType = some .long) (hlk : meth.locks = false) (hv : v = some (.long x)) (hdg : decode cc pc = .ok (.lreturn, 1)) : W p l e R s m args below meth c s.heap [] 0 0 Q (F0 m pc ls [.long x]) := by
  subst hQ
  exact W.lret S.1 S.2.1 hr (fun t ht _ => ⟨by rw [hv], ht⟩) (fun q h => by cases h) hdg hlk
end ZLR
theorem zPt_ok {v : zL} (h : zOk v) : zPt (v 1) (v 1 0 4) < 65536 := zPt_lt h.1 _
theorem lg_cmp_rf (x : Int64) : lg_cmp x x = 0 := by simp [lg_cmp]
theorem ci_L_digest : zCI yL_digest cL_digest 5 (some .long) 1 := ⟨k938, k0, by decide +kernel⟩
theorem cv_L_digest : Cond.static yL_digest ∈ GW := k937
set_option maxRecDepth 20000 in
set_option maxHeartbeats 4000000 in
/-- digest -/
theorem c_digest (l : Launch) (hl0 : l.stackTraces = false) (g : ZG) {B : Nat} {o : Nat} (z : zSt) (hv : zOk (z 0)) : Met l yL_digest (.code yL_digest cL_digest 5 (some .long) :: GW) { frames := 6, cells := 0, slots := 0, locals := 150 } (va_Pc [.ref o] (zPre g B (fun H => zSO g o z H))) (zR (some (.long (yDst (z 0))))) 0 0 (fun _ => False) := by
  refine zMet (by decide) (Nat.le_of_ble_eq_true rfl) ?_
  intro p e R s m args below meth c Q ls hR hargs hQ S hr hlk hP hZ hS hnm hl
  have hl : lv_has ls 5 [(0, .ref (o))] := hl
  have hw8 := hv.1.1
  have hk40 := hv.2.1.1
  refine lv_ldc2 S.1 S.2.1 S.2.2.2.1 (S.2.2.2.2 _ k939) dL_digest_0 ?_
  refine lv_aload_n S.1 S.2.1 dL_digest_3 rfl (lv_at hl 0 rfl) ?_
  refine z_cV (v := some (.int (nI (z 0 0 0 4)))) (rest := [.long (7)]) (As := []) S hZ hS (c_wovenTotal l g z hv) ci_X11_wovenTotal cv_X11_wovenTotal k940 ⟨rfl, rfl, by rw [hR]; decide, by rw [hR]; decide⟩ hP (hP.1.recv hZ.1 0 (by decide) rfl rfl rfl) hl.1 rfl (Nat.le_of_ble_eq_true rfl) dL_digest_4 ⟨by rw [hR]; decide, by rw [hR]; decide⟩ rfl ?_
  refine lv_i2l S.1 S.2.1 dL_digest_7 rfl ?_
  refine lv_lmul S.1 S.2.1 dL_digest_8 ?_
  refine lv_ldc2 S.1 S.2.1 S.2.2.2.1 (S.2.2.2.2 _ k944) dL_digest_9 ?_
  refine lv_aload_n S.1 S.2.1 dL_digest_12 rfl (lv_at hl 0 rfl) ?_
  refine z_cV (v := some (.int (nI (z 0 0 0 5)))) (rest := [.long (11), .long ((7) * ((nI (z 0 0 0 4)).toInt64))]) (As := []) S hZ hS (c_waxUsed l g z hv) ci_X11_waxUsed cv_X11_waxUsed k945 ⟨rfl, rfl, by rw [hR]; decide, by rw [hR]; decide⟩ hP (hP.1.recv hZ.1 0 (by decide) rfl rfl rfl) hl.1 rfl (Nat.le_of_ble_eq_true rfl) dL_digest_13 ⟨by rw [hR]; decide, by rw [hR]; decide⟩ rfl ?_
  refine lv_i2l S.1 S.2.1 dL_digest_16 rfl ?_
  refine lv_lmul S.1 S.2.1 dL_digest_17 ?_
  refine lv_ladd S.1 S.2.1 dL_digest_18 ?_
  refine lv_ldc2 S.1 S.2.1 S.2.2.2.1 (S.2.2.2.2 _ k949) dL_digest_19 ?_
  refine lv_aload_n S.1 S.2.1 dL_digest_22 rfl (lv_at hl 0 rfl) ?_
  refine z_bi S (k := 108) dL_digest_23 (by decide) ?_
  refine z_cV (v := some (.int (nI (z 0 3 0 1)))) (rest := [.long (13), .long (((7) * ((nI (z 0 0 0 4)).toInt64)) + ((11) * ((nI (z 0 0 0 5)).toInt64)))]) (As := [.int (nI (108))]) S hZ hS (c_burn_l l g z hv) ci_X11_burn cv_X11_burn k950 ⟨rfl, rfl, by rw [hR]; decide, by rw [hR]; decide⟩ hP (hP.1.recv hZ.1 0 (by decide) rfl rfl rfl) hl.1 rfl (Nat.le_of_ble_eq_true rfl) dL_digest_25 ⟨by rw [hR]; decide, by rw [hR]; decide⟩ rfl ?_
  refine lv_i2l S.1 S.2.1 dL_digest_28 rfl ?_
  refine lv_lmul S.1 S.2.1 dL_digest_29 ?_
  refine lv_ladd S.1 S.2.1 dL_digest_30 ?_
  refine lv_ldc2 S.1 S.2.1 S.2.2.2.1 (S.2.2.2.2 _ k956) dL_digest_31 ?_
  refine lv_aload_n S.1 S.2.1 dL_digest_34 rfl (lv_at hl 0 rfl) ?_
  refine z_bi S (k := 114) dL_digest_35 (by decide) ?_
  refine z_cV (v := some (.int (nI (z 0 4 0 1)))) (rest := [.long (17), .long ((((7) * ((nI (z 0 0 0 4)).toInt64)) + ((11) * ((nI (z 0 0 0 5)).toInt64))) + ((13) * ((nI (z 0 3 0 1)).toInt64)))]) (As := [.int (nI (114))]) S hZ hS (c_burn_r l g z hv) ci_X11_burn cv_X11_burn k950 ⟨rfl, rfl, by rw [hR]; decide, by rw [hR]; decide⟩ hP (hP.1.recv hZ.1 0 (by decide) rfl rfl rfl) hl.1 rfl (Nat.le_of_ble_eq_true rfl) dL_digest_37 ⟨by rw [hR]; decide, by rw [hR]; decide⟩ rfl ?_
  refine lv_i2l S.1 S.2.1 dL_digest_40 rfl ?_
  refine lv_lmul S.1 S.2.1 dL_digest_41 ?_
  refine lv_ladd S.1 S.2.1 dL_digest_42 ?_
  refine lv_ldc2 S.1 S.2.1 S.2.2.2.1 (S.2.2.2.2 _ k957) dL_digest_43 ?_
  refine lv_aload_n S.1 S.2.1 dL_digest_46 rfl (lv_at hl 0 rfl) ?_
  refine z_bi S (k := 108) dL_digest_47 (by decide) ?_
  refine z_cV (v := some (.int (nI (z 0 3 0 0)))) (rest := [.long (19), .long (((((7) * ((nI (z 0 0 0 4)).toInt64)) + ((11) * ((nI (z 0 0 0 5)).toInt64))) + ((13) * ((nI (z 0 3 0 1)).toInt64))) + ((17) * ((nI (z 0 4 0 1)).toInt64)))]) (As := [.int (nI (108))]) S hZ hS (c_heat_l l g z hv) ci_X11_heat cv_X11_heat k958 ⟨rfl, rfl, by rw [hR]; decide, by rw [hR]; decide⟩ hP (hP.1.recv hZ.1 0 (by decide) rfl rfl rfl) hl.1 rfl (Nat.le_of_ble_eq_true rfl) dL_digest_49 ⟨by rw [hR]; decide, by rw [hR]; decide⟩ rfl ?_
  refine lv_i2l S.1 S.2.1 dL_digest_52 rfl ?_
  refine lv_lmul S.1 S.2.1 dL_digest_53 ?_
  refine lv_ladd S.1 S.2.1 dL_digest_54 ?_
  refine lv_ldc2 S.1 S.2.1 S.2.2.2.1 (S.2.2.2.2 _ k962) dL_digest_55 ?_
  refine lv_aload_n S.1 S.2.1 dL_digest_58 rfl (lv_at hl 0 rfl) ?_
  refine z_bi S (k := 114) dL_digest_59 (by decide) ?_
  refine z_cV (v := some (.int (nI (z 0 4 0 0)))) (rest := [.long (23), .long ((((((7) * ((nI (z 0 0 0 4)).toInt64)) + ((11) * ((nI (z 0 0 0 5)).toInt64))) + ((13) * ((nI (z 0 3 0 1)).toInt64))) + ((17) * ((nI (z 0 4 0 1)).toInt64))) + ((19) * ((nI (z 0 3 0 0)).toInt64)))]) (As := [.int (nI (114))]) S hZ hS (c_heat_r l g z hv) ci_X11_heat cv_X11_heat k958 ⟨rfl, rfl, by rw [hR]; decide, by rw [hR]; decide⟩ hP (hP.1.recv hZ.1 0 (by decide) rfl rfl rfl) hl.1 rfl (Nat.le_of_ble_eq_true rfl) dL_digest_61 ⟨by rw [hR]; decide, by rw [hR]; decide⟩ rfl ?_
  refine lv_i2l S.1 S.2.1 dL_digest_64 rfl ?_
  refine lv_lmul S.1 S.2.1 dL_digest_65 ?_
  refine lv_ladd S.1 S.2.1 dL_digest_66 ?_
  refine lv_aload_n S.1 S.2.1 dL_digest_67 rfl (lv_at hl 0 rfl) ?_
  refine z_cV (v := some (.int (nI (z 0 1 0 4)))) (rest := [.long (((((((7) * ((nI (z 0 0 0 4)).toInt64)) + ((11) * ((nI (z 0 0 0 5)).toInt64))) + ((13) * ((nI (z 0 3 0 1)).toInt64))) + ((17) * ((nI (z 0 4 0 1)).toInt64))) + ((19) * ((nI (z 0 3 0 0)).toInt64))) + ((23) * ((nI (z 0 4 0 0)).toInt64)))]) (As := []) S hZ hS (c_wickCount l g z hv) ci_X11_wickCount cv_X11_wickCount k963 ⟨rfl, rfl, by rw [hR]; decide, by rw [hR]; decide⟩ hP (hP.1.recv hZ.1 0 (by decide) rfl rfl rfl) hl.1 rfl (Nat.le_of_ble_eq_true rfl) dL_digest_68 ⟨by rw [hR]; decide, by rw [hR]; decide⟩ rfl ?_
  refine lv_i2l S.1 S.2.1 dL_digest_71 rfl ?_
  refine lv_ladd S.1 S.2.1 dL_digest_72 ?_
  refine lv_lstore_n (lv' := [(1, .long ((((((((7) * ((nI (z 0 0 0 4)).toInt64)) + ((11) * ((nI (z 0 0 0 5)).toInt64))) + ((13) * ((nI (z 0 3 0 1)).toInt64))) + ((17) * ((nI (z 0 4 0 1)).toInt64))) + ((19) * ((nI (z 0 3 0 0)).toInt64))) + ((23) * ((nI (z 0 4 0 0)).toInt64))) + ((nI (z 0 1 0 4)).toInt64))), (0, .ref (o))]) S.1 S.2.1 dL_digest_73 rfl hl (by decide) rfl (fun ls hl => ?_)
  refine z_ic S (k := 0) dL_digest_74 (by decide) ?_
  refine lv_istore_n (lv' := [(3, .int (nI (0))), (1, .long ((((((((7) * ((nI (z 0 0 0 4)).toInt64)) + ((11) * ((nI (z 0 0 0 5)).toInt64))) + ((13) * ((nI (z 0 3 0 1)).toInt64))) + ((17) * ((nI (z 0 4 0 1)).toInt64))) + ((19) * ((nI (z 0 3 0 0)).toInt64))) + ((23) * ((nI (z 0 4 0 0)).toInt64))) + ((nI (z 0 1 0 4)).toInt64))), (0, .ref (o))]) S.1 S.2.1 dL_digest_75 rfl hl (by decide) rfl (fun ls hl => ?_)
  have loop : ∀ (n : Nat) (i : Nat) (x : Int64) (ls : Array Slot), (i ≤ z 0 1 0 4) → (z 0 1 0 4 < i + n) → (x = yDgW (z 0) (yDg0 (z 0)) i) → lv_has ls 5 [(0, .ref (o)), (1, .long (x)), (3, .int (nI (i)))] → W p l e R s m args below meth c s.heap [] 0 0 Q (F0 m 76 ls []) := by
    intro n
    induction n with
    | zero => intro i x ls h1 h2 hx hl; exact absurd h2 (by omega)
    | succ n ih =>
      intro i x ls h1 h2 hx hl
      refine lv_iload_n S.1 S.2.1 dL_digest_76 rfl (lv_at hl 2 rfl) ?_
      refine lv_aload_n S.1 S.2.1 dL_digest_77 rfl (lv_at hl 0 rfl) ?_
      refine z_cV (v := some (.int (nI (z 0 1 0 4)))) (rest := [.int (nI (i))]) (As := []) S hZ hS (c_wickCount l g z hv) ci_X11_wickCount cv_X11_wickCount k963 ⟨rfl, rfl, by rw [hR]; decide, by rw [hR]; decide⟩ hP (hP.1.recv hZ.1 0 (by decide) rfl rfl rfl) hl.1 rfl (Nat.le_of_ble_eq_true rfl) dL_digest_78 ⟨by rw [hR]; decide, by rw [hR]; decide⟩ rfl ?_
      refine z_cge (tgt := 122) S (by omega) (by omega) dL_digest_81 (by decide) (fun h4 => ?_) (fun h4 => ?_)
      · rw [show i = z 0 1 0 4 by omega] at hx
        refine lv_ldc2 S.1 S.2.1 S.2.2.2.1 (S.2.2.2.2 _ k967) dL_digest_122 ?_
        refine lv_ldc2 S.1 S.2.1 S.2.2.2.1 (S.2.2.2.2 _ k967) dL_digest_125 ?_
        refine lv_lload_n S.1 S.2.1 dL_digest_128 rfl (lv_at hl 1 rfl) ?_
        refine lv_lmul S.1 S.2.1 dL_digest_129 ?_
        refine lv_aload_n S.1 S.2.1 dL_digest_130 rfl (lv_at hl 0 rfl) ?_
        refine z_cV (v := some (.int (nI (z 0 2 0 3)))) (rest := [.long ((31) * (x)), .long (31)]) (As := []) S hZ hS (c_rowCount l g z hv) ci_X11_rowCount cv_X11_rowCount k977 ⟨rfl, rfl, by rw [hR]; decide, by rw [hR]; decide⟩ hP (hP.1.recv hZ.1 0 (by decide) rfl rfl rfl) hl.1 rfl (Nat.le_of_ble_eq_true rfl) dL_digest_131 ⟨by rw [hR]; decide, by rw [hR]; decide⟩ rfl ?_
        refine lv_i2l S.1 S.2.1 dL_digest_134 rfl ?_
        refine lv_ladd S.1 S.2.1 dL_digest_135 ?_
        refine lv_lmul S.1 S.2.1 dL_digest_136 ?_
        refine lv_aload_n S.1 S.2.1 dL_digest_137 rfl (lv_at hl 0 rfl) ?_
        refine z_cV (v := some (.int (nI (zUb (z 0 3 0 1) (z 0 4 0 1) (zPt (z 0 1) (z 0 1 0 4)))))) (rest := [.long ((31) * (((31) * (x)) + ((nI (z 0 2 0 3)).toInt64)))]) (As := []) S hZ hS (c_nextMask l g z hv (zPt_ok hv)) ci_X11_nextMask cv_X11_nextMask k981 ⟨rfl, rfl, by rw [hR]; decide, by rw [hR]; decide⟩ hP (hP.1.recv hZ.1 0 (by decide) rfl rfl rfl) hl.1 rfl (Nat.le_of_ble_eq_true rfl) dL_digest_138 ⟨by rw [hR]; decide, by rw [hR]; decide⟩ rfl ?_
        refine lv_i2l S.1 S.2.1 dL_digest_141 rfl ?_
        refine lv_ladd S.1 S.2.1 dL_digest_142 ?_
        refine lv_lstore_n (lv' := [(1, .long (((31) * (((31) * (x)) + ((nI (z 0 2 0 3)).toInt64))) + ((nI (zUb (z 0 3 0 1) (z 0 4 0 1) (zPt (z 0 1) (z 0 1 0 4)))).toInt64))), (0, .ref (o)), (3, .int (nI (i)))]) S.1 S.2.1 dL_digest_143 rfl hl (by decide) rfl (fun ls hl => ?_)
        refine z_ic S (k := 0) dL_digest_144 (by decide) ?_
        refine lv_istore_n (lv' := [(3, .int (nI (0))), (1, .long (((31) * (((31) * (x)) + ((nI (z 0 2 0 3)).toInt64))) + ((nI (zUb (z 0 3 0 1) (z 0 4 0 1) (zPt (z 0 1) (z 0 1 0 4)))).toInt64))), (0, .ref (o))]) S.1 S.2.1 dL_digest_145 rfl hl (by decide) rfl (fun ls hl => ?_)
        have loop2 : ∀ (n : Nat) (j : Nat) (y : Int64) (ls : Array Slot), (j ≤ z 0 2 0 3) → (z 0 2 0 3 < j + n) → (y = yDgR (z 0) (((31) * (((31) * (yDgW (z 0) (yDg0 (z 0)) (z 0 1 0 4))) + ((nI (z 0 2 0 3)).toInt64))) + ((nI (zUb (z 0 3 0 1) (z 0 4 0 1) (zPt (z 0 1) (z 0 1 0 4)))).toInt64)) j) → lv_has ls 5 [(0, .ref (o)), (1, .long (y)), (3, .int (nI (j)))] → W p l e R s m args below meth c s.heap [] 0 0 Q (F0 m 146 ls []) := by
          intro n
          induction n with
          | zero => intro j y ls h1 h2 hy hl; exact absurd h2 (by omega)
          | succ n ih =>
            intro j y ls h1 h2 hy hl
            refine lv_iload_n S.1 S.2.1 dL_digest_146 rfl (lv_at hl 2 rfl) ?_
            refine lv_aload_n S.1 S.2.1 dL_digest_147 rfl (lv_at hl 0 rfl) ?_
            refine z_cV (v := some (.int (nI (z 0 2 0 3)))) (rest := [.int (nI (j))]) (As := []) S hZ hS (c_rowCount l g z hv) ci_X11_rowCount cv_X11_rowCount k977 ⟨rfl, rfl, by rw [hR]; decide, by rw [hR]; decide⟩ hP (hP.1.recv hZ.1 0 (by decide) rfl rfl rfl) hl.1 rfl (Nat.le_of_ble_eq_true rfl) dL_digest_148 ⟨by rw [hR]; decide, by rw [hR]; decide⟩ rfl ?_
            refine z_cge (tgt := 223) S (by omega) (by omega) dL_digest_151 (by decide) (fun h4 => ?_) (fun h4 => ?_)
            · rw [show j = z 0 2 0 3 by omega] at hy
              refine lv_lload_n S.1 S.2.1 dL_digest_223 rfl (lv_at hl 1 rfl) ?_
              exact z_rl hQ S hr hlk (by rw [hy]; rfl) dL_digest_224
            · refine lv_ldc2 S.1 S.2.1 S.2.2.2.1 (S.2.2.2.2 _ k967) dL_digest_154 ?_
              refine lv_ldc2 S.1 S.2.1 S.2.2.2.1 (S.2.2.2.2 _ k967) dL_digest_157 ?_
              refine lv_lload_n S.1 S.2.1 dL_digest_160 rfl (lv_at hl 1 rfl) ?_
              refine lv_lmul S.1 S.2.1 dL_digest_161 ?_
              refine lv_aload_n S.1 S.2.1 dL_digest_162 rfl (lv_at hl 0 rfl) ?_
              refine lv_iload_n S.1 S.2.1 dL_digest_163 rfl (lv_at hl 2 rfl) ?_
              refine z_cV (v := some (.int (nI (z 0 2 1 j)))) (rest := [.long ((31) * (y)), .long (31)]) (As := [.int (nI (j))]) S hZ hS (c_rowMask l g z hv j h4) ci_X11_rowMask cv_X11_rowMask k987 ⟨rfl, rfl, by rw [hR]; decide, by rw [hR]; decide⟩ hP (hP.1.recv hZ.1 0 (by decide) rfl rfl rfl) hl.1 rfl (Nat.le_of_ble_eq_true rfl) dL_digest_164 ⟨by rw [hR]; decide, by rw [hR]; decide⟩ rfl ?_
              refine lv_i2l S.1 S.2.1 dL_digest_167 rfl ?_
              refine lv_ladd S.1 S.2.1 dL_digest_168 ?_
              refine lv_lmul S.1 S.2.1 dL_digest_169 ?_
              refine lv_aload_n S.1 S.2.1 dL_digest_170 rfl (lv_at hl 0 rfl) ?_
              refine lv_iload_n S.1 S.2.1 dL_digest_171 rfl (lv_at hl 2 rfl) ?_
              refine z_cV (v := some (.int (nI (z 0 2 2 j)))) (rest := [.long ((31) * (((31) * (y)) + ((nI (z 0 2 1 j)).toInt64)))]) (As := [.int (nI (j))]) S hZ hS (c_rowColour l g z hv j h4) ci_X11_rowColour cv_X11_rowColour k992 ⟨rfl, rfl, by rw [hR]; decide, by rw [hR]; decide⟩ hP (hP.1.recv hZ.1 0 (by decide) rfl rfl rfl) hl.1 rfl (Nat.le_of_ble_eq_true rfl) dL_digest_172 ⟨by rw [hR]; decide, by rw [hR]; decide⟩ rfl ?_
              refine lv_i2l S.1 S.2.1 dL_digest_175 rfl ?_
              refine lv_ladd S.1 S.2.1 dL_digest_176 ?_
              refine lv_lstore_n (lv' := [(1, .long (((31) * (((31) * (y)) + ((nI (z 0 2 1 j)).toInt64))) + ((nI (z 0 2 2 j)).toInt64))), (0, .ref (o)), (3, .int (nI (j)))]) S.1 S.2.1 dL_digest_177 rfl hl (by decide) rfl (fun ls hl => ?_)
              refine z_ic S (k := 0) dL_digest_178 (by decide) ?_
              refine lv_istore (lv' := [(4, .int (nI (0))), (1, .long (((31) * (((31) * (y)) + ((nI (z 0 2 1 j)).toInt64))) + ((nI (z 0 2 2 j)).toInt64))), (0, .ref (o)), (3, .int (nI (j)))]) S.1 S.2.1 dL_digest_179 hl (by decide) rfl (fun ls hl => ?_)
              generalize hu0 : (((31) * (((31) * (y)) + ((nI (z 0 2 1 j)).toInt64))) + ((nI (z 0 2 2 j)).toInt64) : Int64) = u0 at hl
              have loop3 : ∀ (n3 k : Nat) (u : Int64) (ls : Array Slot), (k ≤ 16) → (16 < k + n3) → (u = yDgC (z 0 2 3 j) u0 k) → lv_has ls 5 [(0, .ref o), (1, .long u), (3, .int (nI j)), (4, .int (nI k))] → W p l e R s m args below meth c s.heap [] 0 0 Q (F0 m 181 ls []) := by
                intro n3
                induction n3 with
                | zero => intro k u ls h1 h2 hu hl; exact absurd h2 (by omega)
                | succ n3 ih3 =>
                  intro k u ls h1 h2 hu hl
                  refine lv_iload S.1 S.2.1 dL_digest_181 (lv_at hl 3 rfl) ?_
                  refine z_bi S (k := 16) dL_digest_183 (by decide) ?_
                  refine z_cge (tgt := 217) S (by omega) (by omega) dL_digest_185 (by decide) (fun h5 => ?_) (fun h5 => ?_)
                  · rw [show k = 16 by omega] at hu
                    refine z_inc S (lv' := [(3, .int (nI (j + 1))), (0, .ref (o)), (1, .long (u)), (4, .int (nI (k)))]) (k := 2) (b := 1) dL_digest_217 hl rfl (by decide) (by decide) rfl (fun ls hl => ?_)
                    refine lv_goto (tgt := 146) S.1 S.2.1 dL_digest_220 (by decide) ?_
                    exact ih (j + 1) u ls (by omega) (by omega) (by rw [hu, ← hu0, hy]; rfl) (lv_sub hl [1, 2, 0] rfl)
                  · refine lv_ldc2 S.1 S.2.1 S.2.2.2.1 (S.2.2.2.2 _ k967) dL_digest_188 ?_
                    refine lv_lload_n S.1 S.2.1 dL_digest_191 rfl (lv_at hl 1 rfl) ?_
                    refine lv_lmul S.1 S.2.1 dL_digest_192 ?_
                    refine lv_aload_n S.1 S.2.1 dL_digest_193 rfl (lv_at hl 0 rfl) ?_
                    refine lv_iload_n S.1 S.2.1 dL_digest_194 rfl (lv_at hl 2 rfl) ?_
                    refine lv_iload S.1 S.2.1 dL_digest_195 (lv_at hl 3 rfl) ?_
                    refine z_cV (v := some (.int (nI (zBt (z 0 2 3 j) k).toNat))) (rest := [.long ((31) * (u))]) (As := [.int (nI (j)), .int (nI (k))]) S hZ hS (c_isKnotted l g z hv j k h4 h5) ci_X11_isKnotted cv_X11_isKnotted k996 ⟨rfl, rfl, by rw [hR]; decide, by rw [hR]; decide⟩ hP (hP.1.recv hZ.1 0 (by decide) rfl rfl rfl) hl.1 rfl (Nat.le_of_ble_eq_true rfl) dL_digest_197 ⟨by rw [hR]; decide, by rw [hR]; decide⟩ rfl ?_
                    have J_1 : ∀ x9 : Nat, x9 = (zBt (z 0 2 3 j) k).toNat → W p l e R s m args below meth c s.heap [] 0 0 Q (F0 m 208 ls [.int (nI (x9)), .long ((31) * (u))]) := by
                      intro x9 hx9
                      subst hx9
                      refine lv_i2l S.1 S.2.1 dL_digest_208 rfl ?_
                      refine lv_ladd S.1 S.2.1 dL_digest_209 ?_
                      refine lv_lstore_n (lv' := [(1, .long (((31) * (u)) + ((nI ((zBt (z 0 2 3 j) k).toNat)).toInt64))), (0, .ref (o)), (3, .int (nI (j))), (4, .int (nI (k)))]) S.1 S.2.1 dL_digest_210 rfl hl (by decide) rfl (fun ls hl => ?_)
                      refine z_inc S (lv' := [(4, .int (nI (k + 1))), (1, .long (((31) * (u)) + ((nI ((zBt (z 0 2 3 j) k).toNat)).toInt64))), (0, .ref (o)), (3, .int (nI (j)))]) (k := 3) (b := 1) dL_digest_211 hl rfl (by decide) (by decide) rfl (fun ls hl => ?_)
                      refine lv_goto (tgt := 181) S.1 S.2.1 dL_digest_214 (by decide) ?_
                      exact ih3 (k + 1) _ ls (by omega) (by omega) (by rw [hu]; rfl) (lv_sub hl [2, 1, 3, 0] rfl)
                    refine z_beq (tgt := 207) S dL_digest_200 (by decide) (fun h1 => ?_) (fun h1 => ?_)
                    · refine z_ic S (k := 0) dL_digest_207 (by decide) ?_
                      exact J_1 _ (by rw [h1]; rfl)
                    · refine z_ic S (k := 1) dL_digest_203 (by decide) ?_
                      refine lv_goto (tgt := 208) S.1 S.2.1 dL_digest_204 (by decide) ?_
                      exact J_1 _ (by rw [h1]; rfl)
              exact loop3 17 0 u0 ls (by omega) (by omega) rfl (lv_sub hl [2, 1, 3, 0] rfl)
        exact loop2 (z 0 2 0 3 + 1) 0 _ ls (Nat.zero_le _) (by omega) (by rw [hx]; rfl) (lv_sub hl [2, 1, 0] rfl)
      · refine lv_ldc2 S.1 S.2.1 S.2.2.2.1 (S.2.2.2.2 _ k967) dL_digest_84 ?_
        refine lv_ldc2 S.1 S.2.1 S.2.2.2.1 (S.2.2.2.2 _ k967) dL_digest_87 ?_
        refine lv_lload_n S.1 S.2.1 dL_digest_90 rfl (lv_at hl 1 rfl) ?_
        refine lv_lmul S.1 S.2.1 dL_digest_91 ?_
        refine lv_aload_n S.1 S.2.1 dL_digest_92 rfl (lv_at hl 0 rfl) ?_
        refine lv_iload_n S.1 S.2.1 dL_digest_93 rfl (lv_at hl 2 rfl) ?_
        refine z_cV (v := some (.int (nI (z 0 1 3 i)))) (rest := [.long ((31) * (x)), .long (31)]) (As := [.int (nI (i))]) S hZ hS (c_wax l g z hv i h4) ci_X11_wax cv_X11_wax k968 ⟨rfl, rfl, by rw [hR]; decide, by rw [hR]; decide⟩ hP (hP.1.recv hZ.1 0 (by decide) rfl rfl rfl) hl.1 rfl (Nat.le_of_ble_eq_true rfl) dL_digest_94 ⟨by rw [hR]; decide, by rw [hR]; decide⟩ rfl ?_
        refine lv_i2l S.1 S.2.1 dL_digest_97 rfl ?_
        refine lv_ladd S.1 S.2.1 dL_digest_98 ?_
        refine lv_lmul S.1 S.2.1 dL_digest_99 ?_
        refine lv_aload_n S.1 S.2.1 dL_digest_100 rfl (lv_at hl 0 rfl) ?_
        refine lv_iload_n S.1 S.2.1 dL_digest_101 rfl (lv_at hl 2 rfl) ?_
        refine z_cV (v := some (.int (nI (z 0 1 4 i)))) (rest := [.long ((31) * (((31) * (x)) + ((nI (z 0 1 3 i)).toInt64)))]) (As := [.int (nI (i))]) S hZ hS (c_isLit l g z hv i h4) ci_X11_isLit cv_X11_isLit k973 ⟨rfl, rfl, by rw [hR]; decide, by rw [hR]; decide⟩ hP (hP.1.recv hZ.1 0 (by decide) rfl rfl rfl) hl.1 rfl (Nat.le_of_ble_eq_true rfl) dL_digest_102 ⟨by rw [hR]; decide, by rw [hR]; decide⟩ rfl ?_
        have J_2 : ∀ x9 : Nat, x9 = z 0 1 4 i → W p l e R s m args below meth c s.heap [] 0 0 Q (F0 m 113 ls [.int (nI (x9)), .long ((31) * (((31) * (x)) + ((nI (z 0 1 3 i)).toInt64)))]) := by
          intro x9 hx9
          subst hx9
          refine lv_i2l S.1 S.2.1 dL_digest_113 rfl ?_
          refine lv_ladd S.1 S.2.1 dL_digest_114 ?_
          refine lv_lstore_n (lv' := [(1, .long (((31) * (((31) * (x)) + ((nI (z 0 1 3 i)).toInt64))) + ((nI (z 0 1 4 i)).toInt64))), (0, .ref (o)), (3, .int (nI (i)))]) S.1 S.2.1 dL_digest_115 rfl hl (by decide) rfl (fun ls hl => ?_)
          refine z_inc S (lv' := [(3, .int (nI (i + 1))), (1, .long (((31) * (((31) * (x)) + ((nI (z 0 1 3 i)).toInt64))) + ((nI (z 0 1 4 i)).toInt64))), (0, .ref (o))]) (k := 2) (b := 1) dL_digest_116 hl rfl (by decide) (by decide) rfl (fun ls hl => ?_)
          refine lv_goto (tgt := 76) S.1 S.2.1 dL_digest_119 (by decide) ?_
          exact ih (i + 1) _ ls (by omega) (by omega) (by rw [hx]; rfl) (lv_sub hl [2, 1, 0] rfl)
        refine z_ieq (tgt := 112) S (hv.1.l i) dL_digest_105 (by decide) (fun h1 => ?_) (fun h1 => ?_)
        · refine z_ic S (k := 0) dL_digest_112 (by decide) ?_
          exact J_2 _ h1.symm
        · refine z_ic S (k := 1) dL_digest_108 (by decide) ?_
          refine lv_goto (tgt := 113) S.1 S.2.1 dL_digest_109 (by decide) ?_
          exact J_2 _ (by have := (hv.1.2 i).2.2.2.1; omega)
  exact loop (z 0 1 0 4 + 1) 0 _ ls (Nat.zero_le _) (by omega) rfl (lv_sub hl [2, 1, 0] rfl)
theorem ci_L_isPeriod : zCI yL_isPeriod cL_isPeriod 4 (some .boolean) 2 := ⟨k1200, k0, by decide +kernel⟩
theorem cv_L_isPeriod : Cond.static yL_isPeriod ∈ GW := k1199
set_option maxRecDepth 20000 in
set_option maxHeartbeats 4000000 in
/-- isPeriod -/
theorem c_isPeriod (l : Launch) (hl0 : l.stackTraces = false) (g : ZG) {B : Nat} {o : Nat} (z : zSt) (hv : zOk (z 0)) (q : Nat) (hq : q ≤ z 0 2 0 3) : Met l yL_isPeriod (.code yL_isPeriod cL_isPeriod 4 (some .boolean) :: GW) { frames := 6, cells := 0, slots := 0, locals := 150 } (va_Pc [.ref o, .int (nI (q))] (zPre g B (fun H => zSO g o z H))) (zR (some (.int (nI (zOv (z 0 2) q).toNat)))) 0 0 (fun _ => False) := by
  refine zMet (by decide) (Nat.le_of_ble_eq_true rfl) ?_
  intro p e R s m args below meth c Q ls hR hargs hQ S hr hlk hP hZ hS hnm hl
  have hl : lv_has ls 4 [(0, .ref (o)), (1, .int (nI (q)))] := hl
  have hk40 := hv.2.1.1
  refine z_ic S (k := 1) dL_isPeriod_0 (by decide) ?_
  refine lv_istore_n (lv' := [(2, .int (nI (1))), (0, .ref (o)), (1, .int (nI (q)))]) S.1 S.2.1 dL_isPeriod_1 rfl hl (by decide) rfl (fun ls hl => ?_)
  refine lv_iload_n S.1 S.2.1 dL_isPeriod_2 rfl (lv_at hl 2 rfl) ?_
  refine lv_istore_n (lv' := [(3, .int (nI (q))), (2, .int (nI (1))), (0, .ref (o)), (1, .int (nI (q)))]) S.1 S.2.1 dL_isPeriod_3 rfl hl (by decide) rfl (fun ls hl => ?_)
  have loop : ∀ (n : Nat) (i : Nat) (b : Bool) (ls : Array Slot), (q ≤ i) → (i ≤ max q (z 0 2 0 3)) → (z 0 2 0 3 < i + n) → (b = false → zOv (z 0 2) q = false) → (b = true → ∀ k, 0 ≤ k → k < i - q → zRw (z 0 2) (q + k) k = true) → lv_has ls 4 [(0, .ref (o)), (1, .int (nI (q))), (2, .int (nI (b).toNat)), (3, .int (nI (i)))] → W p l e R s m args below meth c s.heap [] 0 0 Q (F0 m 4 ls []) := by
    intro n
    induction n with
    | zero => intro i b ls h0 h3 h2 hno hall hl; exact absurd h2 (by omega)
    | succ n ih =>
      intro i b ls h0 h3 h2 hno hall hl
      refine lv_iload_n S.1 S.2.1 dL_isPeriod_4 rfl (lv_at hl 2 rfl) ?_
      refine z_beq (tgt := 31) S dL_isPeriod_5 (by decide) (fun h1 => ?_) (fun h1 => ?_)
      · refine lv_iload_n S.1 S.2.1 dL_isPeriod_31 rfl (lv_at hl 2 rfl) ?_
        exact z_ri hQ S hr hlk (zn_bool b) (by rw [hno h1, h1]) dL_isPeriod_32
      · refine lv_iload_n S.1 S.2.1 dL_isPeriod_8 rfl (lv_at hl 3 rfl) ?_
        refine lv_aload_n S.1 S.2.1 dL_isPeriod_9 rfl (lv_at hl 0 rfl) ?_
        refine z_cV (v := some (.int (nI (z 0 2 0 3)))) (rest := [.int (nI (i))]) (As := []) S hZ hS (c_rowCount l g z hv) ci_X11_rowCount cv_X11_rowCount k977 ⟨rfl, rfl, by rw [hR]; decide, by rw [hR]; decide⟩ hP (hP.1.recv hZ.1 0 (by decide) rfl rfl rfl) hl.1 rfl (Nat.le_of_ble_eq_true rfl) dL_isPeriod_10 ⟨by rw [hR]; decide, by rw [hR]; decide⟩ rfl ?_
        refine z_cge (tgt := 31) S (by omega) (by omega) dL_isPeriod_13 (by decide) (fun h5 => ?_) (fun h5 => ?_)
        · refine lv_iload_n S.1 S.2.1 dL_isPeriod_31 rfl (lv_at hl 2 rfl) ?_
          exact z_ri hQ S hr hlk (zn_bool b) (by rw [show zOv (z 0 2) q = true from zAll_t (fun k hk => hall h1 k (Nat.zero_le _) (by omega)), h1]) dL_isPeriod_32
        · refine lv_aload_n S.1 S.2.1 dL_isPeriod_16 rfl (lv_at hl 0 rfl) ?_
          refine lv_iload_n S.1 S.2.1 dL_isPeriod_17 rfl (lv_at hl 3 rfl) ?_
          refine lv_iload_n S.1 S.2.1 dL_isPeriod_18 rfl (lv_at hl 3 rfl) ?_
          refine lv_iload_n S.1 S.2.1 dL_isPeriod_19 rfl (lv_at hl 1 rfl) ?_
          refine z_sub S (by omega) dL_isPeriod_20 ?_
          refine z_cS (v := some (.int (nI (zRw (z 0 2) i (i - q)).toNat))) (rest := []) (As := [.ref (o), .int (nI (i)), .int (nI (i - q))]) S hZ hS (c_areEqual l g z hv i (i - q) h5 (by omega)) ci_L_areEqual cv_L_areEqual k1086 ⟨rfl, rfl, by rw [hR]; exact Nat.le_of_ble_eq_true rfl, by rw [hR]; exact Nat.le_of_ble_eq_true rfl⟩ hP hl.1 rfl (Nat.le_of_ble_eq_true rfl) dL_isPeriod_21 ⟨by rw [hR]; exact Nat.le_of_ble_eq_true rfl, by rw [hR]; exact Nat.le_of_ble_eq_true rfl⟩ rfl ?_
          refine lv_istore_n (lv' := [(2, .int (nI (zRw (z 0 2) i (i - q)).toNat)), (0, .ref (o)), (1, .int (nI (q))), (3, .int (nI (i)))]) S.1 S.2.1 dL_isPeriod_24 rfl hl (by decide) rfl (fun ls hl => ?_)
          refine z_inc S (lv' := [(3, .int (nI (i + 1))), (2, .int (nI (zRw (z 0 2) i (i - q)).toNat)), (0, .ref (o)), (1, .int (nI (q)))]) (k := 3) (b := 1) dL_isPeriod_25 hl rfl (by decide) (by decide) rfl (fun ls hl => ?_)
          refine lv_goto (tgt := 4) S.1 S.2.1 dL_isPeriod_28 (by decide) ?_
          have hp := hall h1
          refine ih (i + 1) (zRw (z 0 2) i (i - q)) ls (by omega) (by omega) (by omega) (fun w9 => ?_) (fun w9 k hk1 hk2 => ?_) (lv_sub hl [2, 3, 1, 0] rfl)
          · exact zAll_f (p := fun k => zRw (z 0 2) (q + k) k) (i := i - q) (by show zRw (z 0 2) (q + (i - q)) (i - q) = false; rw [show q + (i - q) = i by omega]; exact w9) (by omega)
          · rcases (show k < i - q ∨ k = i - q by omega) with e9 | e9
            · exact hp k (by omega) e9
            · rw [e9, show q + (i - q) = i by omega]; exact w9
  exact loop (z 0 2 0 3 + 1) q true ls (Nat.le_refl _) (by omega) (by omega) (fun w9 => by cases w9) (fun _ k _ hk => absurd hk (by omega)) (lv_sub hl [2, 3, 1, 0] rfl)
