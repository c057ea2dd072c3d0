/-! ROWS of the kit, turned to the world of cells and to numbers nI n -/
theorem zn_and (a b : Nat) : nI a &&& nI b = nI (a &&& b) := by
  apply Int32.toBitVec_inj.mp
  show BitVec.ofNat 32 a &&& BitVec.ofNat 32 b = BitVec.ofNat 32 (a &&& b)
  apply BitVec.eq_of_toNat_eq
  simp [Nat.and_mod_two_pow]
theorem zn_xor (a b : Nat) : nI a ^^^ nI b = nI (a ^^^ b) := by
  apply Int32.toBitVec_inj.mp
  show BitVec.ofNat 32 a ^^^ BitVec.ofNat 32 b = BitVec.ofNat 32 (a ^^^ b)
  apply BitVec.eq_of_toNat_eq
  simp [Nat.xor_mod_two_pow]
theorem zn_bool (b : Bool) : narrow .boolean (.int (nI b.toNat)) = .int (nI b.toNat) := by cases b <;> rfl
theorem zn_b0 (b : Bool) : nI b.toNat = 0 ↔ b = false := by cases b <;> simp [nI]
theorem zn_bt {b : Bool} (h : ¬ b = false) : b = true := by cases b <;> simp_all
theorem zn_int (x : Int32) : narrow .int (.int x) = .int x := rfl
theorem zn_char {q : Nat} (h : q < 65536) : narrow .char (.int (nI q)) = .int (nI q) := (pk_charN h).1
theorem zn_0 {a : Nat} (h : a < 2 ^ 31) : nI a = 0 ↔ a = 0 := by
  have h0 : (0 : Int32) = nI 0 := rfl
  rw [h0]
  exact nI_eq h (by omega)
theorem zn_s : ∀ k, k < 32 → ((nI k &&& 31).toBitVec.smod 32).toNat = k := by decide +kernel
theorem zn_us : ∀ k, k < 32 → (((nI k).toUInt32 &&& Int32.toUInt32 31).toBitVec % 32).toNat = k := by decide +kernel
section ZR
variable {p : Program} {l : Launch} {e : Env} {R : Room} {s : State} {m : MethodId} {args : Array Value} {below : List Frame} {meth : Method} {c : Code} {H : Heap} {locs : List Loc} {cells slots : Nat} {Q : State → Prop}
variable {cc : ByteArray} {pc nL : Nat} {own : String} {ls : Array Slot} {rest : List Value} {g : ZG} {B o n : Nat} {T : Nat → ZD} {f : Nat → Nat → Nat}
theorem z_ic (S : CallFix p m c cc nL s args GW own) {k : Nat} {z : Int} (hdg : decode cc pc = .ok (.iconst z, 1)) (hv : Int32.ofInt z = nI k) (kk : W p l e R s m args below meth c H locs cells slots Q (F0 m (pc + 1) ls (.int (nI k) :: rest))) : W p l e R s m args below meth c H locs cells slots Q (F0 m pc ls rest) := lv_iconst S.1 S.2.1 hdg hv kk
theorem z_bi (S : CallFix p m c cc nL s args GW own) {k : Nat} {z : Int} (hdg : decode cc pc = .ok (.bipush z, 2)) (hv : (Int8.ofInt z).toInt32 = nI k) (kk : W p l e R s m args below meth c H locs cells slots Q (F0 m (pc + 2) ls (.int (nI k) :: rest))) : W p l e R s m args below meth c H locs cells slots Q (F0 m pc ls rest) := lv_bipush S.1 S.2.1 hdg hv kk
theorem z_si (S : CallFix p m c cc nL s args GW own) {k : Nat} {z : Int} (hdg : decode cc pc = .ok (.sipush z, 3)) (hv : (Int16.ofInt z).toInt32 = nI k) (kk : W p l e R s m args below meth c H locs cells slots Q (F0 m (pc + 3) ls (.int (nI k) :: rest))) : W p l e R s m args below meth c H locs cells slots Q (F0 m pc ls rest) := lv_sipush S.1 S.2.1 hdg hv kk
theorem z_add (S : CallFix p m c cc nL s args GW own) {a b : Nat} (hdg : decode cc pc = .ok (.iadd, 1)) (kk : W p l e R s m args below meth c H locs cells slots Q (F0 m (pc + 1) ls (.int (nI (a + b)) :: rest))) : W p l e R s m args below meth c H locs cells slots Q (F0 m pc ls (.int (nI b) :: .int (nI a) :: rest)) := lv_iadd S.1 S.2.1 hdg (by rw [nI_add]; exact kk)
theorem z_sub (S : CallFix p m c cc nL s args GW own) {a b : Nat} (h : b ≤ a) (hdg : decode cc pc = .ok (.isub, 1)) (kk : W p l e R s m args below meth c H locs cells slots Q (F0 m (pc + 1) ls (.int (nI (a - b)) :: rest))) : W p l e R s m args below meth c H locs cells slots Q (F0 m pc ls (.int (nI b) :: .int (nI a) :: rest)) := lv_isub S.1 S.2.1 hdg (by rw [pk_sub h]; exact kk)
theorem z_mul (S : CallFix p m c cc nL s args GW own) {a b : Nat} (hdg : decode cc pc = .ok (.imul, 1)) (kk : W p l e R s m args below meth c H locs cells slots Q (F0 m (pc + 1) ls (.int (nI (a * b)) :: rest))) : W p l e R s m args below meth c H locs cells slots Q (F0 m pc ls (.int (nI b) :: .int (nI a) :: rest)) := lv_imul S.1 S.2.1 hdg (by rw [pk_mul]; exact kk)
theorem z_rem (S : CallFix p m c cc nL s args GW own) {a b : Nat} (ha : a < 2 ^ 31) (h0 : 0 < b) (hb : b < 2 ^ 31) (hdg : decode cc pc = .ok (.irem, 1)) (kk : W p l e R s m args below meth c H locs cells slots Q (F0 m (pc + 1) ls (.int (nI (a % b)) :: rest))) : W p l e R s m args below meth c H locs cells slots Q (F0 m pc ls (.int (nI b) :: .int (nI a) :: rest)) := lv_irem S.1 S.2.1 hdg (fun h => by rw [zn_0 hb] at h; omega) (by rw [pk_rem ha h0 hb]; exact kk)
theorem z_and (S : CallFix p m c cc nL s args GW own) {a b : Nat} (hdg : decode cc pc = .ok (.iand, 1)) (kk : W p l e R s m args below meth c H locs cells slots Q (F0 m (pc + 1) ls (.int (nI (a &&& b)) :: rest))) : W p l e R s m args below meth c H locs cells slots Q (F0 m pc ls (.int (nI b) :: .int (nI a) :: rest)) := lv_iand S.1 S.2.1 hdg (by rw [zn_and]; exact kk)
theorem z_xor (S : CallFix p m c cc nL s args GW own) {a b : Nat} (hdg : decode cc pc = .ok (.ixor, 1)) (kk : W p l e R s m args below meth c H locs cells slots Q (F0 m (pc + 1) ls (.int (nI (a ^^^ b)) :: rest))) : W p l e R s m args below meth c H locs cells slots Q (F0 m pc ls (.int (nI b) :: .int (nI a) :: rest)) := lv_ixor S.1 S.2.1 hdg (by rw [zn_xor]; exact kk)
theorem z_shr (S : CallFix p m c cc nL s args GW own) {a b : Nat} (ha : a < 2 ^ 31) (hb : b < 32) (hdg : decode cc pc = .ok (.ishr, 1)) (kk : W p l e R s m args below meth c H locs cells slots Q (F0 m (pc + 1) ls (.int (nI (a / 2 ^ b)) :: rest))) : W p l e R s m args below meth c H locs cells slots Q (F0 m pc ls (.int (nI b) :: .int (nI a) :: rest)) := lv_ishr S.1 S.2.1 hdg (by rw [pk_shrN ha _ b (zn_s b hb)]; exact kk)
theorem z_shl (S : CallFix p m c cc nL s args GW own) {a b : Nat} (hb : b < 32) (h : a * 2 ^ b < 2 ^ 32) (hdg : decode cc pc = .ok (.ishl, 1)) (kk : W p l e R s m args below meth c H locs cells slots Q (F0 m (pc + 1) ls (.int (nI (a * 2 ^ b)) :: rest))) : W p l e R s m args below meth c H locs cells slots Q (F0 m pc ls (.int (nI b) :: .int (nI a) :: rest)) := lv_ishl S.1 S.2.1 hdg (by rw [pk_shlN _ b (zn_s b hb) h]; exact kk)
theorem z_ushr (S : CallFix p m c cc nL s args GW own) {a b : Nat} (ha : a < 2 ^ 32) (hb : b < 32) (hdg : decode cc pc = .ok (.iushr, 1)) (kk : W p l e R s m args below meth c H locs cells slots Q (F0 m (pc + 1) ls (.int (nI (a / 2 ^ b)) :: rest))) : W p l e R s m args below meth c H locs cells slots Q (F0 m pc ls (.int (nI b) :: .int (nI a) :: rest)) := lv_iushr S.1 S.2.1 hdg (pk_ushrN ha _ b (zn_us b hb)) kk
theorem z_inc (S : CallFix p m c cc nL s args GW own) {i k a b : Nat} {z : Int} {lv lv' : List (Nat × Value)} (hdg : decode cc pc = .ok (.iinc i z, 3)) (h : lv_has ls nL lv) (hk : lv[k]? = some (i, .int (nI a))) (hz : Int32.ofInt z = nI b) (hn : i < nL) (hl : (i, Value.int (nI (a + b))) :: lv.filter (fun q => !(q.1 == i) && !(q.1 + 1 == i && q.2.category == 2)) = lv')
    (kk : ∀ ls' : Array Slot, lv_has ls' nL lv' → W p l e R s m args below meth c H locs cells slots Q (F0 m (pc + 3) ls' rest)) : W p l e R s m args below meth c H locs cells slots Q (F0 m pc ls rest) := lv_iinc S.1 S.2.1 hdg h hk (by rw [hz, nI_add]) hn hl kk
theorem z_dec (S : CallFix p m c cc nL s args GW own) {i k a : Nat} {lv lv' : List (Nat × Value)} (hdg : decode cc pc = .ok (.iinc i (-1), 3)) (h : lv_has ls nL lv) (hk : lv[k]? = some (i, .int (nI (a + 1)))) (hn : i < nL) (hl : (i, Value.int (nI a)) :: lv.filter (fun q => !(q.1 == i) && !(q.1 + 1 == i && q.2.category == 2)) = lv')
    (kk : ∀ ls' : Array Slot, lv_has ls' nL lv' → W p l e R s m args below meth c H locs cells slots Q (F0 m (pc + 3) ls' rest)) : W p l e R s m args below meth c H locs cells slots Q (F0 m pc ls rest) := lv_iinc S.1 S.2.1 hdg h hk (pk_m1 a) hn hl kk
theorem z_clt (S : CallFix p m c cc nL s args GW own) {a b tgt : Nat} {off : Int} (ha : a < 2 ^ 31) (hb : b < 2 ^ 31) (hdg : decode cc pc = .ok (.if_icmp .lt off, 3)) (ht : (pc : Int) + off = (tgt : Int)) (kt : a < b → W p l e R s m args below meth c H locs cells slots Q (F0 m tgt ls rest)) (kf : b ≤ a → W p l e R s m args below meth c H locs cells slots Q (F0 m (pc + 3) ls rest)) : W p l e R s m args below meth c H locs cells slots Q (F0 m pc ls (.int (nI b) :: .int (nI a) :: rest)) :=
  lv_icmp_lt S.1 S.2.1 hdg ht (fun h => kt ((nI_ltI ha hb).mp h)) (fun h => kf (Nat.not_lt.mp (fun z => h ((nI_ltI ha hb).mpr z))))
theorem z_cge (S : CallFix p m c cc nL s args GW own) {a b tgt : Nat} {off : Int} (ha : a < 2 ^ 31) (hb : b < 2 ^ 31) (hdg : decode cc pc = .ok (.if_icmp .ge off, 3)) (ht : (pc : Int) + off = (tgt : Int)) (kt : b ≤ a → W p l e R s m args below meth c H locs cells slots Q (F0 m tgt ls rest)) (kf : a < b → W p l e R s m args below meth c H locs cells slots Q (F0 m (pc + 3) ls rest)) : W p l e R s m args below meth c H locs cells slots Q (F0 m pc ls (.int (nI b) :: .int (nI a) :: rest)) :=
  lv_icmp_ge S.1 S.2.1 hdg ht (fun h => kt ((nI_leI hb ha).mp h)) (fun h => kf (Nat.not_le.mp (fun z => h ((nI_leI hb ha).mpr z))))
theorem z_cgt (S : CallFix p m c cc nL s args GW own) {a b tgt : Nat} {off : Int} (ha : a < 2 ^ 31) (hb : b < 2 ^ 31) (hdg : decode cc pc = .ok (.if_icmp .gt off, 3)) (ht : (pc : Int) + off = (tgt : Int)) (kt : b < a → W p l e R s m args below meth c H locs cells slots Q (F0 m tgt ls rest)) (kf : a ≤ b → W p l e R s m args below meth c H locs cells slots Q (F0 m (pc + 3) ls rest)) : W p l e R s m args below meth c H locs cells slots Q (F0 m pc ls (.int (nI b) :: .int (nI a) :: rest)) :=
  lv_icmp_gt S.1 S.2.1 hdg ht (fun h => kt ((nI_ltI hb ha).mp h)) (fun h => kf (Nat.not_lt.mp (fun z => h ((nI_ltI hb ha).mpr z))))
theorem z_cle (S : CallFix p m c cc nL s args GW own) {a b tgt : Nat} {off : Int} (ha : a < 2 ^ 31) (hb : b < 2 ^ 31) (hdg : decode cc pc = .ok (.if_icmp .le off, 3)) (ht : (pc : Int) + off = (tgt : Int)) (kt : a ≤ b → W p l e R s m args below meth c H locs cells slots Q (F0 m tgt ls rest)) (kf : b < a → W p l e R s m args below meth c H locs cells slots Q (F0 m (pc + 3) ls rest)) : W p l e R s m args below meth c H locs cells slots Q (F0 m pc ls (.int (nI b) :: .int (nI a) :: rest)) :=
  lv_icmp_le S.1 S.2.1 hdg ht (fun h => kt ((nI_leI ha hb).mp h)) (fun h => kf (Nat.not_le.mp (fun z => h ((nI_leI ha hb).mpr z))))
theorem z_ceq (S : CallFix p m c cc nL s args GW own) {a b tgt : Nat} {off : Int} (ha : a < 2 ^ 31) (hb : b < 2 ^ 31) (hdg : decode cc pc = .ok (.if_icmp .eq off, 3)) (ht : (pc : Int) + off = (tgt : Int)) (kt : a = b → W p l e R s m args below meth c H locs cells slots Q (F0 m tgt ls rest)) (kf : ¬ a = b → W p l e R s m args below meth c H locs cells slots Q (F0 m (pc + 3) ls rest)) : W p l e R s m args below meth c H locs cells slots Q (F0 m pc ls (.int (nI b) :: .int (nI a) :: rest)) :=
  lv_icmp_eq S.1 S.2.1 hdg ht (fun h => kt ((nI_eq ha hb).mp h)) (fun h => kf (fun z => h ((nI_eq ha hb).mpr z)))
theorem z_cne (S : CallFix p m c cc nL s args GW own) {a b tgt : Nat} {off : Int} (ha : a < 2 ^ 31) (hb : b < 2 ^ 31) (hdg : decode cc pc = .ok (.if_icmp .ne off, 3)) (ht : (pc : Int) + off = (tgt : Int)) (kt : ¬ a = b → W p l e R s m args below meth c H locs cells slots Q (F0 m tgt ls rest)) (kf : a = b → W p l e R s m args below meth c H locs cells slots Q (F0 m (pc + 3) ls rest)) : W p l e R s m args below meth c H locs cells slots Q (F0 m pc ls (.int (nI b) :: .int (nI a) :: rest)) :=
  lv_icmp_ne S.1 S.2.1 hdg ht (fun h => kt (fun z => h ((nI_eq ha hb).mpr z))) (fun h => kf ((nI_eq ha hb).mp (Classical.byContradiction fun w => w h)))
theorem z_ilt (S : CallFix p m c cc nL s args GW own) {a tgt : Nat} {off : Int} (ha : a < 2 ^ 31) (hdg : decode cc pc = .ok (.ifCond .lt off, 3)) (ht : (pc : Int) + off = (tgt : Int)) (kf : W p l e R s m args below meth c H locs cells slots Q (F0 m (pc + 3) ls rest)) : W p l e R s m args below meth c H locs cells slots Q (F0 m pc ls (.int (nI a) :: rest)) :=
  lv_if_lt S.1 S.2.1 hdg ht (fun h => absurd h (nI_pos ha)) (fun _ => kf)
theorem z_ige (S : CallFix p m c cc nL s args GW own) {a tgt : Nat} {off : Int} (ha : a < 2 ^ 31) (hdg : decode cc pc = .ok (.ifCond .ge off, 3)) (ht : (pc : Int) + off = (tgt : Int)) (kt : W p l e R s m args below meth c H locs cells slots Q (F0 m tgt ls rest)) : W p l e R s m args below meth c H locs cells slots Q (F0 m pc ls (.int (nI a) :: rest)) :=
  lv_if_ge S.1 S.2.1 hdg ht (fun _ => kt) (fun h => absurd (nI_pos' ha) h)
theorem z_igt (S : CallFix p m c cc nL s args GW own) {a tgt : Nat} {off : Int} (ha : a < 2 ^ 31) (hdg : decode cc pc = .ok (.ifCond .gt off, 3)) (ht : (pc : Int) + off = (tgt : Int)) (kt : 0 < a → W p l e R s m args below meth c H locs cells slots Q (F0 m tgt ls rest)) (kf : a = 0 → W p l e R s m args below meth c H locs cells slots Q (F0 m (pc + 3) ls rest)) : W p l e R s m args below meth c H locs cells slots Q (F0 m pc ls (.int (nI a) :: rest)) :=
  lv_if_gt S.1 S.2.1 hdg ht (fun h => kt ((nI_ltI (by omega) ha).mp (show nI 0 < nI a from h))) (fun h => kf (by
    rcases Nat.eq_zero_or_pos a with z | z
    · exact z
    · exact absurd (show (0 : Int32) < nI a from (nI_ltI (a := 0) (by omega) ha).mpr z) h))
theorem z_ile (S : CallFix p m c cc nL s args GW own) {a tgt : Nat} {off : Int} (ha : a < 2 ^ 31) (hdg : decode cc pc = .ok (.ifCond .le off, 3)) (ht : (pc : Int) + off = (tgt : Int)) (kt : a = 0 → W p l e R s m args below meth c H locs cells slots Q (F0 m tgt ls rest)) (kf : 0 < a → W p l e R s m args below meth c H locs cells slots Q (F0 m (pc + 3) ls rest)) : W p l e R s m args below meth c H locs cells slots Q (F0 m pc ls (.int (nI a) :: rest)) :=
  lv_if_le S.1 S.2.1 hdg ht (fun h => kt (Nat.le_zero.mp ((nI_leI (b := 0) ha (by omega)).mp h))) (fun h => kf (by
    rcases Nat.eq_zero_or_pos a with z | z
    · subst z; exact absurd (Int32.le_refl _) h
    · exact z))
theorem z_ieq (S : CallFix p m c cc nL s args GW own) {a tgt : Nat} {off : Int} (ha : a < 2 ^ 31) (hdg : decode cc pc = .ok (.ifCond .eq off, 3)) (ht : (pc : Int) + off = (tgt : Int)) (kt : a = 0 → W p l e R s m args below meth c H locs cells slots Q (F0 m tgt ls rest)) (kf : ¬ a = 0 → W p l e R s m args below meth c H locs cells slots Q (F0 m (pc + 3) ls rest)) : W p l e R s m args below meth c H locs cells slots Q (F0 m pc ls (.int (nI a) :: rest)) :=
  lv_if_eq S.1 S.2.1 hdg ht (fun h => kt ((zn_0 ha).mp h)) (fun h => kf (fun z => h ((zn_0 ha).mpr z)))
theorem z_ine (S : CallFix p m c cc nL s args GW own) {a tgt : Nat} {off : Int} (ha : a < 2 ^ 31) (hdg : decode cc pc = .ok (.ifCond .ne off, 3)) (ht : (pc : Int) + off = (tgt : Int)) (kt : ¬ a = 0 → W p l e R s m args below meth c H locs cells slots Q (F0 m tgt ls rest)) (kf : a = 0 → W p l e R s m args below meth c H locs cells slots Q (F0 m (pc + 3) ls rest)) : W p l e R s m args below meth c H locs cells slots Q (F0 m pc ls (.int (nI a) :: rest)) :=
  lv_if_ne S.1 S.2.1 hdg ht (fun h => kt (fun z => h ((zn_0 ha).mpr z))) (fun h => kf ((zn_0 ha).mp (Classical.byContradiction fun w => w h)))
theorem z_beq (S : CallFix p m c cc nL s args GW own) {b : Bool} {tgt : Nat} {off : Int} (hdg : decode cc pc = .ok (.ifCond .eq off, 3)) (ht : (pc : Int) + off = (tgt : Int)) (kt : b = false → W p l e R s m args below meth c H locs cells slots Q (F0 m tgt ls rest)) (kf : b = true → W p l e R s m args below meth c H locs cells slots Q (F0 m (pc + 3) ls rest)) : W p l e R s m args below meth c H locs cells slots Q (F0 m pc ls (.int (nI b.toNat) :: rest)) :=
  lv_if_eq S.1 S.2.1 hdg ht (fun h => kt ((zn_b0 b).mp h)) (fun h => kf (zn_bt (fun z => h ((zn_b0 b).mpr z))))
theorem z_bne (S : CallFix p m c cc nL s args GW own) {b : Bool} {tgt : Nat} {off : Int} (hdg : decode cc pc = .ok (.ifCond .ne off, 3)) (ht : (pc : Int) + off = (tgt : Int)) (kt : b = true → W p l e R s m args below meth c H locs cells slots Q (F0 m tgt ls rest)) (kf : b = false → W p l e R s m args below meth c H locs cells slots Q (F0 m (pc + 3) ls rest)) : W p l e R s m args below meth c H locs cells slots Q (F0 m pc ls (.int (nI b.toNat) :: rest)) :=
  lv_if_ne S.1 S.2.1 hdg ht (fun h => kt (zn_bt (fun z => h ((zn_b0 b).mpr z)))) (fun h => kf ((zn_b0 b).mp (Classical.byContradiction fun w => w h)))
theorem z_get (S : CallFix p m c cc nL s args GW own) (hK : zT g s) (hP : zPm g o n T f H) (k : Nat) (hk : k < n) {a : Nat} (ha : o + k = a) {ci : Nat} {fs : List Value} (hT : T k g (o + k) (f k) = .inr (ci, fs)) {C : String} {Tt : u_T} {N : Nat} (hc : zC[ci]? = some (C, Tt, N)) (j : Nat) (hj : j < N) {v : Value} (hv : fs[j]? = some v) {index : Nat} (hlink : Cond.fieldLink own index (Tt j).1 (Tt j).2.1 (Tt j).2.2.1 ∈ GW) (hdg : decode cc pc = .ok (.getfield index, 3))
    (kk : W p l e R s m args below meth c H locs cells slots Q (F0 m (pc + 3) ls (v :: rest))) : W p l e R s m args below meth c H locs cells slots Q (F0 m pc ls (.ref a :: rest)) := by
  have h1 := hP k hk
  rw [hT, ha] at h1
  exact va_get S.1 S.2.1 S.2.2.2.2 (zC_ok _ (List.mem_of_getElem? hc)).1 S.2.2.2.1 hK (zOne h1) 0 rfl hc j hj (S.2.2.2.2 _ hlink) (fun _ h => h) hv hdg kk
theorem z_put (S : CallFix p m c cc nL s args GW own) (hK : zT g s) (hP : zPm g o n T f H) (hS0 : va_S (zA B) s.heap H locs) (hB : B ≤ o) (k : Nat) (hk : k < n) {a : Nat} (ha : o + k = a) {ci : Nat} {fs : List Value} (hT : T k g (o + k) (f k) = .inr (ci, fs)) {C : String} {Tt : u_T} {N : Nat} (hc : zC[ci]? = some (C, Tt, N)) (j : Nat) (hj : j < N) {v : Value} (r : Nat → Nat) (hT2 : T k g (o + k) r = .inr (ci, fs.set j v)) {index : Nat} (hlink : Cond.fieldLink own index (Tt j).1 (Tt j).2.1 (Tt j).2.2.1 ∈ GW) (hfin : (Tt j).2.2.2 = false) {ty : FieldType} (hd : parseFieldDescriptor (Tt j).2.2.1 = some ty) (hn : narrow ty v = v) (hfit : fits ty v = true) (hl : j < fs.length) (hdg : decode cc pc = .ok (.putfield index, 3))
    (kk : ∀ (H1 : Heap) (locs1 : List Loc), zPm g o n T (va_up f k r) H1 → zCh1 a 1 H H1 → va_S (zA B) s.heap H1 locs1 → W p l e R s m args below meth c H1 locs1 cells slots Q (F0 m (pc + 3) ls rest)) : W p l e R s m args below meth c H locs cells slots Q (F0 m pc ls (v :: .ref a :: rest)) := by
  obtain ⟨hin, ⟨ty0, hty⟩, hnm⟩ := zC_ok _ (List.mem_of_getElem? hc)
  have hap := va_apart (own := own) S.2.2.2.2 hin ty0 hty hnm hK hc
  have h0 := hP k hk
  rw [hT, ha] at h0
  obtain ⟨r0, h1, cell, q1, q2, q3, q4⟩ := h0
  have hr : r0 = (C, Tt, N) := Option.some.inj (h1.symm.trans hc)
  subst hr
  obtain ⟨hS, hfc, kC, hkC, hkind⟩ := hK.1 ci _ hc
  obtain ⟨cf, kf, fi, fd, hi, hsl⟩ := hS j hj
  have hlay := S.2.2.2.2 _ (hin _ (u_in_lay hj))
  unfold u_lay at hlay
  rw [if_neg (by rw [hfin]; decide)] at hlay
  have hst := (u_facts hfc hkC (u_lays S.2.2.2.2 hin hj) hi).1
  have h6 := u_store hfc hkC hkind hlay hi hd hn hfit
  refine W.putK S.1 S.2.1 (f := fd) ⟨S.2.2.2.1, S.2.2.2.2 _ hlink, ⟨_, _, _, hi⟩, hst⟩ (by rw [q2]; exact h6) q1 q3 (by rw [hsl]; exact k2_hasslot (q4 j hj)) rfl rfl hdg fun H' e1 e2 e3 => ?_
  rw [hsl] at e1 ⊢
  refine kk H' _ (hP.set (by rw [hT2, ha]; exact ⟨_, hc, t_OB.to (V := updV (vp_V fs) j v) ⟨_, e1, q2, q3, t_set q4 hap hj v⟩ (fun i _ => vp_updV_set hl v i)⟩) (by rw [ha]; exact e3)) ⟨Nat.le_of_eq e2.symm, fun q _ ho => e3 q (ho.elim Nat.ne_of_lt (fun h => Nat.ne_of_gt h))⟩ ?_
  exact hS0.put e2 e3 (show B ≤ a by omega)
theorem z_ald0 (S : CallFix p m c cc nL s args GW own) (hP : zPm g o n T f H) (k : Nat) (hk : k < n) {a : Nat} (ha : o + k = a) {cA N : Nat} {q : Nat → Nat} (hT : T k g (o + k) (f k) = .inl (cA, N, .inl (fun j => nI (q j)))) : va_P g.1 zC [(a, .inl (cA, N, .inl (fun j => nI (q j))))] H := by
  have h1 := hP k hk
  rw [hT, ha] at h1
  exact zOne h1
theorem z_iald (S : CallFix p m c cc nL s args GW own) (hK : zT g s) (hP : zPm g o n T f H) (k : Nat) (hk : k < n) {a : Nat} (ha : o + k = a) {N : Nat} {q : Nat → Nat} (hT : T k g (o + k) (f k) = .inl (g.2 0 0, N, .inl (fun j => nI (q j)))) {i : Nat} (hi : i < N) (hN : N < 2 ^ 31) (hdg : decode cc pc = .ok (.iaload, 1))
    (kk : W p l e R s m args below meth c H locs cells slots Q (F0 m (pc + 1) ls (.int (nI (q i)) :: rest))) : W p l e R s m args below meth c H locs cells slots Q (F0 m pc ls (.int (nI i) :: .ref a :: rest)) :=
  va_iald S.1 S.2.1 hK (z_ald0 S hP k hk ha hT) 0 0 rfl rfl (vp_in_nI hi hN) hdg (by rw [nI_clamp (by omega)]; exact kk)
theorem z_zald (S : CallFix p m c cc nL s args GW own) (hK : zT g s) (hP : zPm g o n T f H) (k : Nat) (hk : k < n) {a : Nat} (ha : o + k = a) {N : Nat} {q : Nat → Nat} (hT : T k g (o + k) (f k) = .inl (g.2 0 1, N, .inl (fun j => nI (q j)))) {i : Nat} (hi : i < N) (hN : N < 2 ^ 31) (hdg : decode cc pc = .ok (.baload, 1))
    (kk : W p l e R s m args below meth c H locs cells slots Q (F0 m (pc + 1) ls (.int (nI (q i)) :: rest))) : W p l e R s m args below meth c H locs cells slots Q (F0 m pc ls (.int (nI i) :: .ref a :: rest)) :=
  va_zald S.1 S.2.1 hK (z_ald0 S hP k hk ha hT) 0 1 rfl rfl (vp_in_nI hi hN) hdg (by rw [nI_clamp (by omega)]; exact kk)
theorem z_cald (S : CallFix p m c cc nL s args GW own) (hK : zT g s) (hP : zPm g o n T f H) (k : Nat) (hk : k < n) {a : Nat} (ha : o + k = a) {N : Nat} {q : Nat → Nat} (hT : T k g (o + k) (f k) = .inl (g.2 0 2, N, .inl (fun j => nI (q j)))) {i : Nat} (hi : i < N) (hN : N < 2 ^ 31) (hdg : decode cc pc = .ok (.caload, 1))
    (kk : W p l e R s m args below meth c H locs cells slots Q (F0 m (pc + 1) ls (.int (nI (q i)) :: rest))) : W p l e R s m args below meth c H locs cells slots Q (F0 m pc ls (.int (nI i) :: .ref a :: rest)) :=
  va_cald S.1 S.2.1 hK (z_ald0 S hP k hk ha hT) 0 2 rfl rfl (vp_in_nI hi hN) hdg (by rw [nI_clamp (by omega)]; exact kk)
theorem z_aald (S : CallFix p m c cc nL s args GW own) (hK : zT g s) (hP : zPm g o n T f H) (k : Nat) (hk : k < n) {a : Nat} (ha : o + k = a) (t0 : Nat) {C : String} {cA N : Nat} {q : Nat → Option Nat} (ht : (zTy g)[t0]? = some (cA, .object C)) (hT : T k g (o + k) (f k) = .inl (cA, N, .inr (.inr (.inr (.inr q))))) {i v : Nat} (hi : i < N) (hN : N < 2 ^ 31) (hv : q i = some v) (hdg : decode cc pc = .ok (.aaload, 1))
    (kk : W p l e R s m args below meth c H locs cells slots Q (F0 m (pc + 1) ls (.ref v :: rest))) : W p l e R s m args below meth c H locs cells slots Q (F0 m pc ls (.int (nI i) :: .ref a :: rest)) := by
  have h1 := hP k hk
  rw [hT, ha] at h1
  exact va_aldq S.1 S.2.1 hK (zOne h1) 0 t0 rfl ht (vp_in_nI hi hN) hdg (by rw [nI_clamp (by omega), hv]; exact kk)
theorem z_cellI {H1 : Heap} {a cA N i : Nat} {q : Nat → Nat} {x : Nat} (e : H1[a]? = some ((vp_cell cA (N, .inl (fun j => nI (q j)))).setSlot i (.int (nI x)))) : H1[a]? = some (vp_cell cA (N, .inl (fun j => nI (va_up q i x j)))) := by
  rw [e, vp_cell_i, vp_cell_i, arrV_store]
  congr 2
  funext j
  by_cases hq : j = i
  · subst hq; simp [updV, va_up]
  · simp [updV, va_up, hq]
theorem z_iast (S : CallFix p m c cc nL s args GW own) (hK : zT g s) (hP : zPm g o n T f H) (hS0 : va_S (zA B) s.heap H locs) (hB : B ≤ o) (k : Nat) (hk : k < n) {a : Nat} (ha : o + k = a) {N : Nat} {q : Nat → Nat} (hT : T k g (o + k) (f k) = .inl (g.2 0 0, N, .inl (fun j => nI (q j)))) {i x : Nat} (hT2 : T k g (o + k) (va_up (f k) i x) = .inl (g.2 0 0, N, .inl (fun j => nI (va_up q i x j)))) (hi : i < N) (hN : N < 2 ^ 31) (hdg : decode cc pc = .ok (.iastore, 1))
    (kk : ∀ (H1 : Heap) (locs1 : List Loc), zPm g o n T (va_up f k (va_up (f k) i x)) H1 → zCh1 a 1 H H1 → va_S (zA B) s.heap H1 locs1 → W p l e R s m args below meth c H1 locs1 cells slots Q (F0 m (pc + 1) ls rest)) : W p l e R s m args below meth c H locs cells slots Q (F0 m pc ls (.int (nI x) :: .int (nI i) :: .ref a :: rest)) := by
  have h0 := z_ald0 S hP k hk ha hT 0 _ rfl
  refine W.iast S.1 S.2.1 h0 ((hK.2 0 _ rfl).1 N (fun j => .int (nI (q j)))) (fun z => by cases z) (by show ¬ (nI i < 0 ∨ (arrV _ _ _).slots.size ≤ _); rw [arrV_size]; exact vp_in_nI hi hN) rfl rfl hdg fun H1 e1 e2 e3 => ?_
  rw [nI_clamp (by omega)] at e1 ⊢
  refine kk H1 _ (hP.set (by rw [hT2, ha]; exact z_cellI e1) (by rw [ha]; exact e3)) ⟨Nat.le_of_eq e2.symm, fun q _ ho => e3 q (ho.elim Nat.ne_of_lt (fun h => Nat.ne_of_gt h))⟩ ?_
  exact hS0.put e2 e3 (show B ≤ a by omega)
theorem z_zast (S : CallFix p m c cc nL s args GW own) (hK : zT g s) (hP : zPm g o n T f H) (hS0 : va_S (zA B) s.heap H locs) (hB : B ≤ o) (k : Nat) (hk : k < n) {a : Nat} (ha : o + k = a) {N : Nat} {q : Nat → Nat} (hT : T k g (o + k) (f k) = .inl (g.2 0 1, N, .inl (fun j => nI (q j)))) {i x : Nat} (hx : x < 2) (hT2 : T k g (o + k) (va_up (f k) i x) = .inl (g.2 0 1, N, .inl (fun j => nI (va_up q i x j)))) (hi : i < N) (hN : N < 2 ^ 31) (hdg : decode cc pc = .ok (.bastore, 1))
    (kk : ∀ (H1 : Heap) (locs1 : List Loc), zPm g o n T (va_up f k (va_up (f k) i x)) H1 → zCh1 a 1 H H1 → va_S (zA B) s.heap H1 locs1 → W p l e R s m args below meth c H1 locs1 cells slots Q (F0 m (pc + 1) ls rest)) : W p l e R s m args below meth c H locs cells slots Q (F0 m pc ls (.int (nI x) :: .int (nI i) :: .ref a :: rest)) := by
  have h0 := z_ald0 S hP k hk ha hT 0 _ rfl
  refine W.zast S.1 S.2.1 h0 ((hK.2 1 _ rfl).1 N (fun j => .int (nI (q j)))) (fun z => by cases z) (by show ¬ (nI i < 0 ∨ (arrV _ _ _).slots.size ≤ _); rw [arrV_size]; exact vp_in_nI hi hN) rfl rfl hdg fun H1 e1 e2 e3 => ?_
  rw [nI_clamp (by omega)] at e1 ⊢
  have hnx : narrow .boolean (.int (nI x)) = .int (nI x) := by
    rcases (show x = 0 ∨ x = 1 by omega) with z | z <;> subst z <;> rfl
  rw [hnx] at e1
  refine kk H1 _ (hP.set (by rw [hT2, ha]; exact z_cellI e1) (by rw [ha]; exact e3)) ⟨Nat.le_of_eq e2.symm, fun q _ ho => e3 q (ho.elim Nat.ne_of_lt (fun h => Nat.ne_of_gt h))⟩ ?_
  exact hS0.put e2 e3 (show B ≤ a by omega)
theorem z_cast (S : CallFix p m c cc nL s args GW own) (hK : zT g s) (hP : zPm g o n T f H) (hS0 : va_S (zA B) s.heap H locs) (hB : B ≤ o) (k : Nat) (hk : k < n) {a : Nat} (ha : o + k = a) {N : Nat} {q : Nat → Nat} (hT : T k g (o + k) (f k) = .inl (g.2 0 2, N, .inl (fun j => nI (q j)))) {i x : Nat} (hx : x < 65536) (hT2 : T k g (o + k) (va_up (f k) i x) = .inl (g.2 0 2, N, .inl (fun j => nI (va_up q i x j)))) (hi : i < N) (hN : N < 2 ^ 31) (hdg : decode cc pc = .ok (.castore, 1))
    (kk : ∀ (H1 : Heap) (locs1 : List Loc), zPm g o n T (va_up f k (va_up (f k) i x)) H1 → zCh1 a 1 H H1 → va_S (zA B) s.heap H1 locs1 → W p l e R s m args below meth c H1 locs1 cells slots Q (F0 m (pc + 1) ls rest)) : W p l e R s m args below meth c H locs cells slots Q (F0 m pc ls (.int (nI x) :: .int (nI i) :: .ref a :: rest)) := by
  have h0 := z_ald0 S hP k hk ha hT 0 _ rfl
  refine W.cast S.1 S.2.1 h0 ((hK.2 2 _ rfl).1 N (fun j => .int (nI (q j)))) (fun z => by cases z) (by show ¬ (nI i < 0 ∨ (arrV _ _ _).slots.size ≤ _); rw [arrV_size]; exact vp_in_nI hi hN) rfl rfl hdg fun H1 e1 e2 e3 => ?_
  rw [nI_clamp (by omega)] at e1 ⊢
  rw [zn_char hx] at e1
  refine kk H1 _ (hP.set (by rw [hT2, ha]; exact z_cellI e1) (by rw [ha]; exact e3)) ⟨Nat.le_of_eq e2.symm, fun q _ ho => e3 q (ho.elim Nat.ne_of_lt (fun h => Nat.ne_of_gt h))⟩ ?_
  exact hS0.put e2 e3 (show B ≤ a by omega)
theorem zn_bit {x : Nat} (h : x ≤ 1) : narrow .boolean (.int (nI x)) = .int (nI x) := by
  rcases (show x = 0 ∨ x = 1 by omega) with z | z <;> subst z <;> rfl
theorem z_max (S : CallFix p m c cc nL s args GW own) {a b index : Nat} (ha : a < 2 ^ 31) (hb : b < 2 ^ 31) (hsize : ls.size = nL) (hlink : Cond.methodLink own index Lib.Math.max.name ∈ GW) (hw : Cond.static Lib.Math.max.name ∈ GW ∧ Cond.initialized "java/lang/Math" ∈ GW ∧ Cond.code Lib.Math.max.name Lib.Math.max.code 2 (some .int) ∈ GW) (hframes : 1 ≤ R.frames) (hlocals : (rest.map fun v => v.category).sum + 13 ≤ R.locals) (hc : cells ≤ R.cells) (hs : slots ≤ R.slots) (hdg : decode cc pc = .ok (.invokestatic index, 3))
    (kk : W p l e R s m args below meth c H locs cells slots Q (F0 m (pc + 3) ls (.int (nI (max a b)) :: rest))) : W p l e R s m args below meth c H locs cells slots Q (F0 m pc ls (.int (nI b) :: .int (nI a) :: rest)) := by
  refine va_mmax S.1 S.2.1 (S.2.2.1.trans hsize.symm) S.2.2.2.1 (S.2.2.2.2 _ hlink) (S.2.2.2.2 _ hw.1) (S.2.2.2.2 _ hw.2.1) (S.2.2.2.2 _ hw.2.2) hframes hlocals hc hs hdg ?_
  have e : (if nI a < nI b then nI b else nI a) = nI (max a b) := by
    by_cases h : a < b
    · rw [if_pos ((nI_ltI ha hb).mpr h), Nat.max_eq_right (by omega)]
    · rw [if_neg (fun z => h ((nI_ltI ha hb).mp z)), Nat.max_eq_left (by omega)]
  rw [e]; exact kk
theorem z_min (S : CallFix p m c cc nL s args GW own) {a b index : Nat} (ha : a < 2 ^ 31) (hb : b < 2 ^ 31) (hsize : ls.size = nL) (hlink : Cond.methodLink own index Lib.Math.min.name ∈ GW) (hw : Cond.static Lib.Math.min.name ∈ GW ∧ Cond.initialized "java/lang/Math" ∈ GW ∧ Cond.code Lib.Math.min.name Lib.Math.min.code 2 (some .int) ∈ GW) (hframes : 1 ≤ R.frames) (hlocals : (rest.map fun v => v.category).sum + 13 ≤ R.locals) (hc : cells ≤ R.cells) (hs : slots ≤ R.slots) (hdg : decode cc pc = .ok (.invokestatic index, 3))
    (kk : W p l e R s m args below meth c H locs cells slots Q (F0 m (pc + 3) ls (.int (nI (min a b)) :: rest))) : W p l e R s m args below meth c H locs cells slots Q (F0 m pc ls (.int (nI b) :: .int (nI a) :: rest)) := by
  refine va_mmin S.1 S.2.1 (S.2.2.1.trans hsize.symm) S.2.2.2.1 (S.2.2.2.2 _ hlink) (S.2.2.2.2 _ hw.1) (S.2.2.2.2 _ hw.2.1) (S.2.2.2.2 _ hw.2.2) hframes hlocals hc hs hdg ?_
  have e : (if nI b < nI a then nI b else nI a) = nI (min a b) := by
    by_cases h : b < a
    · rw [if_pos ((nI_ltI hb ha).mpr h), Nat.min_eq_right (by omega)]
    · rw [if_neg (fun z => h ((nI_ltI hb ha).mp z)), Nat.min_eq_left (by omega)]
  rw [e]; exact kk
end ZR
