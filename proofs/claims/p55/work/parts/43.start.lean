/-! THE START: what the Statement gives, in the words of the walks -/
def ySf : List Cond := flatC (Jvm.Cond.and given_1 narrow_1)
section YST
variable {args : Array Value} {s : State}
theorem ysf (h : (Jvm.Cond.and given_1 narrow_1).before args s = true) (i : Nat) {c : Cond} (e : ySf[i]? = some c) : c.before args s = true := flat_of_before _ h c (List.mem_of_getElem? e)
theorem yst (h : ∀ w ∈ lw_tbl, w.before args s = true) (i : Nat) {c : Cond} (e : lw_tbl[i]? = some c) : c.before args s = true := h c (List.mem_of_getElem? e)
/-- the texts' terms, and where their premises begin -/
def yTm (i : Nat) : Term := if i < 10 then .string "CandleLoom$Kind" ([61, 69, 74, 77, 82, 87, 90, 95, 100, 103].getD i 0) else if i < 17 then .string "CandleLoom$Kind" ([63, 71, 79, 84, 92, 97, 105].getD (i - 10) 0) else if i < 48 then .string "CandleLoomLaw" (331 + 2 * (i - 17)) else .string "CandleLoomLaw" 141
def yTs (i : Nat) : Nat := [468, 486, 565, 501, 516, 575, 531, 549, 585, 595, 477, 496, 509, 526, 542, 558, 604, 609, 628, 651, 662, 681, 692, 711, 723, 743, 754, 774, 785, 804, 818, 841, 853, 877, 890, 900, 917, 931, 945, 963, 974, 986, 997, 1009, 1021, 1036, 1050, 1063, 436].getD i 0
def yTc (i : Nat) : List Cond := .exactly (yTm i) "java/lang/String" :: .eq (.field (yTm i) "java/lang/String" "coder" "B") (.int 0) :: .arrayOf (.field (yTm i) "java/lang/String" "value" "[B") .byte :: .eq (.length (.field (yTm i) "java/lang/String" "value" "[B")) (.int (Int32.ofNat (zLen i))) :: (List.range (zLen i)).map (fun j => .eq (.elem (.field (yTm i) "java/lang/String" "value" "[B") (.int (Int32.ofNat j))) (.int (nI (zCh i j))))
theorem yTc_ok : ∀ i, i < 49 → (ySf.drop (yTs i)).take (4 + zLen i) = yTc i := by decide +kernel
theorem yTc_in (h : (Jvm.Cond.and given_1 narrow_1).before args s = true) {i : Nat} (hi : i < 49) {c : Cond} (hc : c ∈ yTc i) : c.before args s = true :=
  flat_of_before _ h c (List.mem_of_mem_drop (List.mem_of_mem_take (show c ∈ (ySf.drop (yTs i)).take (4 + zLen i) by rw [yTc_ok i hi]; exact hc)))
theorem yStr (h : (Jvm.Cond.and given_1 narrow_1).before args s = true) {A : Nat → Prop} (hA : ∀ a : Nat, a < s.heap.size → ¬ A a) : ∃ adK adV : Nat → Nat, (∀ i, i < 49 → (yTm i).eval args s none [] s = some (.ref (adK i))) ∧ ∀ i, i < 49 → va_O "java/lang/String" (adK i) A s s.heap ∧ va_OF "java/lang/String" "coder" "B" (.int 0) (adK i) A s s.heap ∧ va_OF "java/lang/String" "value" "[B" (.ref (adV i)) (adK i) A s s.heap ∧ va_T .byte (adV i) (zLen i) (fun j => .int (nI (zCh i j))) A s s.heap := by
  have h0 : ∀ i : Nat, ∃ q : Nat × Nat, i < 49 → (yTm i).eval args s none [] s = some (.ref q.1) ∧ va_O "java/lang/String" q.1 A s s.heap ∧ va_OF "java/lang/String" "coder" "B" (.int 0) q.1 A s s.heap ∧ va_OF "java/lang/String" "value" "[B" (.ref q.2) q.1 A s s.heap ∧ va_T .byte q.2 (zLen i) (fun j => .int (nI (zCh i j))) A s s.heap := by
    intro i
    by_cases hi : i < 49
    · have x1 := yTc_in h hi (c := .exactly (yTm i) "java/lang/String") List.mem_cons_self
      have x2 := yTc_in h hi (c := .eq (.field (yTm i) "java/lang/String" "coder" "B") (.int 0)) (List.mem_cons_of_mem _ List.mem_cons_self)
      have x3 := yTc_in h hi (c := .arrayOf (.field (yTm i) "java/lang/String" "value" "[B") .byte) (List.mem_cons_of_mem _ (List.mem_cons_of_mem _ List.mem_cons_self))
      have x4 := yTc_in h hi (c := .eq (.length (.field (yTm i) "java/lang/String" "value" "[B")) (.int (Int32.ofNat (zLen i)))) (List.mem_cons_of_mem _ (List.mem_cons_of_mem _ (List.mem_cons_of_mem _ List.mem_cons_self)))
      have x5 : ∀ j, j < zLen i → (Cond.eq (.elem (.field (yTm i) "java/lang/String" "value" "[B") (.int (Int32.ofNat j))) (.int (nI (zCh i j)))).before args s = true := fun j hj => yTc_in h hi (List.mem_cons_of_mem _ (List.mem_cons_of_mem _ (List.mem_cons_of_mem _ (List.mem_cons_of_mem _ (List.mem_map.mpr ⟨j, List.mem_range.mpr hj, rfl⟩)))))
      obtain ⟨a, c, cA, kA, q1, q2, q3, q4, q5, q6, -⟩ := Cond.exactly_spec (args := args) (first := s) (o := none) (s := s) (idx := []) (t := yTm i) (cls := "java/lang/String") x1
      obtain ⟨t, ht, hT⟩ := va_Tof (f := fun j => .int (nI (zCh i j))) (A := A) (by have := zLen_le i; omega) x3 (va_eqt x4) (fun j hj => va_eqt (x5 j hj)) hA
      exact ⟨(a, t), fun _ => ⟨q1, ⟨cA, q3, q5, by rw [q6]; exact q2, hA a (Array.getElem?_eq_some_iff.mp q3).1⟩, vk_OFof q1 (va_eqt x2) hA, vk_OFof q1 ht hA, hT⟩⟩
    · exact ⟨(0, 0), fun h => absurd h hi⟩
  obtain ⟨ad, had⟩ := Classical.axiomOfChoice h0
  exact ⟨fun i => (ad i).1, fun i => (ad i).2, fun i hi => (had i hi).1, fun i hi => (had i hi).2⟩
def yKx (i : Nat) : Nat := [4, 23, 78, 28, 34, 88, 41, 49, 99, 111].getD i 0
def yKl (i : Nat) : Nat := [210, 687, 936, 696, 705, 945, 714, 723, 954, 964].getD i 0
def yKd (i j : Nat) : Nat := ([[0, 27, 82, 32, 38, 92, 45, 53, 103, 115], [0, 0, 83, 33, 39, 93, 46, 54, 104, 116], [0, 0, 0, 0, 0, 98, 0, 0, 109, 121], [0, 0, 84, 0, 40, 94, 47, 55, 105, 117], [0, 0, 85, 0, 0, 95, 48, 56, 106, 118], [0, 0, 0, 0, 0, 0, 0, 0, 110, 122], [0, 0, 86, 0, 0, 96, 0, 57, 107, 119], [0, 0, 87, 0, 0, 97, 0, 0, 108, 120], [0, 0, 0, 0, 0, 0, 0, 0, 0, 123], [0, 0, 0, 0, 0, 0, 0, 0, 0, 0]].getD i []).getD j 0
abbrev yKt (i : Nat) : Term := .static "CandleLoom$Kind" (zKn.getD i "") "LCandleLoom$Kind;"
theorem yKl_ok : ∀ i, i < 10 → lw_tbl[yKl i]? = some (Cond.laysStatic "CandleLoom$Kind" (zKn.getD i "") "LCandleLoom$Kind;") := by decide +kernel
theorem yKx_ok : ∀ i, i < 10 → ySf[yKx i]? = some (Cond.exactly (yKt i) "CandleLoom$Kind") := by decide +kernel
theorem yKo_ok : ∀ i, i < 10 → ySf[yKx i + 1]? = some (Cond.eq (.field (yKt i) "java/lang/Enum" "ordinal" "I") (.int (([0, 1, 2, 3, 4, 5, 6, 7, 8, 9] : List Int32).getD i 0))) := by decide +kernel
theorem yKw_ok : ∀ i, i < 10 → ySf[yKx i + 2]? = some (Cond.eq (.field (yKt i) "CandleLoom$Kind" "word" "Ljava/lang/String;") (yTm i)) := by decide +kernel
theorem yKf_ok : ∀ i, i < 10 → ySf[yKx i + 3]? = some (Cond.eq (.field (yKt i) "CandleLoom$Kind" "form" "Ljava/lang/String;") (yTm (zFm i))) := by decide +kernel
theorem yKd_ok : ∀ i, i < 10 → ∀ j, j < 10 → i ≠ j → ySf[yKd i j]? = some (Cond.not (.eq (yKt i) (yKt j))) ∨ ySf[yKd j i]? = some (Cond.not (.eq (yKt j) (yKt i))) := by decide +kernel
theorem ySfm : ∀ i, i < 10 → zFm i < 49 := by decide +kernel
theorem yKinds (hts : ∀ w ∈ lw_tbl, w.before args s = true) (h : (Jvm.Cond.and given_1 narrow_1).before args s = true) {A : Nat → Prop} (hA : ∀ a : Nat, a < s.heap.size → ¬ A a) : ∃ ad : Nat → Nat, va_En "CandleLoom$Kind" "LCandleLoom$Kind;" zKn [("java/lang/Enum", "ordinal", "I", [0, 1, 2, 3, 4, 5, 6, 7, 8, 9])] ad A s s.heap ∧ ∀ i, i < 10 → (yKt i).eval args s none [] s = some (.ref (ad i)) :=
  va_Enof2 (nm := zKn) (fun i hi => yst hts _ (yKl_ok i hi)) (yst hts 41 (by decide +kernel)) (fun i hi => ysf h _ (yKx_ok i hi)) (fun q hq i hi => by
    cases hq with
    | head => exact ysf h _ (yKo_ok i hi)
    | tail _ hq => cases hq) (fun i j hi hj hij => (yKd_ok i hi j hj hij).imp (ysf h _) (ysf h _)) hA
theorem yEk_ok : ∀ j, j < 10 → ySf[63 + j]? = some (Cond.eq (.elem (.static "CandleLoom" "KINDS" "[LCandleLoom$Kind;") (.int (Int32.ofNat j))) (yKt j)) := by decide +kernel
theorem yEs_ok : ∀ j, j < 10 → ySf[11 + j]? = some (Cond.eq (.elem (.static "CandleLoom$1" "$SwitchMap$CandleLoom$Kind" "[I") (.int (Int32.ofNat j))) (.int (nI (zSw j)))) := by decide +kernel
theorem yEx_ok : ∀ j, j < 31 → ySf[127 + j]? = some (Cond.eq (.elem (.static "CandleLoomLaw" "TEXTS" "[Ljava/lang/String;") (.int (Int32.ofNat j))) (yTm (17 + j))) := by decide +kernel
theorem yArr {ty : FieldType} (h : (Cond.arrayClass ty).before args s = true) (hno : ∀ C, ty ≠ .object C) : ∃ cA : ClassId, ArrOfT s cA ty ∧ va_RA s cA ty := by
  obtain ⟨c, k, comp, h1, h2, h3⟩ := Cond.arrayClass_spec (args := args) (first := s) (o := none) (s := s) (idx := []) h
  refine ⟨c, fun N z => ⟨(fun k h => by cases h), k, h2, comp, h3⟩, ?_⟩
  cases ty with
  | object C => exact absurd rfl (hno C)
  | _ => exact h1
theorem yArrO {C : String} (h : (Cond.arrayOver (.object C)).before args s = true) : ∃ cA : ClassId, ArrOfT s cA (.object C) ∧ va_RA s cA (.object C) := by
  obtain ⟨comp, c, k, h1, -, h2, h3, h4⟩ := Cond.arrayOver_spec (args := args) (first := s) (o := none) (s := s) (idx := []) h
  exact ⟨c, fun N z => ⟨(fun k h => by cases h), k, h2, comp, h3⟩, k, comp, h2, h3, h1, h4⟩
theorem zC_in : ∀ q ∈ zC, Cond.instantiable q.1 q.2.2 ∈ GW := List.forall_mem_cons.mpr ⟨k76, List.forall_mem_cons.mpr ⟨k173, List.forall_mem_cons.mpr ⟨k100, List.forall_mem_cons.mpr ⟨k142, List.forall_mem_cons.mpr ⟨k162, List.forall_mem_cons.mpr ⟨k231, List.forall_mem_cons.mpr ⟨k40, List.forall_mem_cons.mpr ⟨k202, List.forall_mem_cons.mpr ⟨k46, List.forall_mem_cons.mpr ⟨k32, fun _ h => absurd h List.not_mem_nil⟩⟩⟩⟩⟩⟩⟩⟩⟩⟩
theorem yCls (hG : ∀ w ∈ GW, w.before args s = true) : ∃ D : va_G, ∀ (k : Nat) (q : vw_C), zC[k]? = some q → u_Kn s q.1 q.2.1 q.2.2 (D.1 k) (D.2 k) := by
  have h0 : ∀ k : Nat, ∃ r : ClassId × (Nat → Nat), ∀ q : vw_C, zC[k]? = some q → u_Kn s q.1 q.2.1 q.2.2 r.1 r.2 := by
    intro k
    cases e : zC[k]? with
    | none => exact ⟨(0, fun _ => 0), fun q h => by cases h⟩
    | some q =>
      obtain ⟨cC, iS, hk⟩ := u_known (args := args) hG (zC_ok q (List.mem_of_getElem? e)).1 (hG _ (zC_in q (List.mem_of_getElem? e)))
      exact ⟨(cC, iS), fun q2 h => by cases h; exact hk⟩
  obtain ⟨r, hr⟩ := Classical.axiomOfChoice h0
  exact ⟨(fun k => (r k).1, fun k => (r k).2), fun k q h => hr k q h⟩
theorem yRef {own tx : String} {k : Nat} (h1 : (Cond.stringRef own k tx).before args s = true) (h2 : (Cond.exactly (.string own k) "java/lang/String").before args s = true) : ∃ sa, vk_R own k tx sa s := by
  obtain ⟨a, c, cA, kA, q1, -⟩ := Cond.exactly_spec (args := args) (first := s) (o := none) (s := s) (idx := []) (t := .string own k) (cls := "java/lang/String") h2
  exact ⟨a, vk_R.of h1 q1⟩
theorem yMsg (hts : ∀ w ∈ lw_tbl, w.before args s = true) (h : (Jvm.Cond.and given_1 narrow_1).before args s = true) : ∀ q ∈ zMsg, ∃ sa, vk_R "CandleLoom" q.1 q.2 sa s := List.forall_mem_cons.mpr ⟨yRef (yst hts 504 (by decide +kernel)) (ysf h 297 (by decide +kernel)), List.forall_mem_cons.mpr ⟨yRef (yst hts 543 (by decide +kernel)) (ysf h 339 (by decide +kernel)), List.forall_mem_cons.mpr ⟨yRef (yst hts 563 (by decide +kernel)) (ysf h 365 (by decide +kernel)), List.forall_mem_cons.mpr ⟨yRef (yst hts 849 (by decide +kernel)) (ysf h 387 (by decide +kernel)), List.forall_mem_cons.mpr ⟨yRef (yst hts 883 (by decide +kernel)) (ysf h 404 (by decide +kernel)), List.forall_mem_cons.mpr ⟨yRef (yst hts 1175 (by decide +kernel)) (ysf h 443 (by decide +kernel)), fun _ h => absurd h List.not_mem_nil⟩⟩⟩⟩⟩⟩
theorem yNx (hts : ∀ w ∈ lw_tbl, w.before args s = true) (h : (Jvm.Cond.and given_1 narrow_1).before args s = true) : zNx s := ⟨List.forall_mem_cons.mpr ⟨va_Nw.of rfl (yst hts 72 (by decide +kernel)), List.forall_mem_cons.mpr ⟨va_Nw.of rfl (yst hts 78 (by decide +kernel)), List.forall_mem_cons.mpr ⟨va_Nw.of rfl (yst hts 108 (by decide +kernel)), List.forall_mem_cons.mpr ⟨va_Nw.of rfl (yst hts 132 (by decide +kernel)), List.forall_mem_cons.mpr ⟨va_Nw.of rfl (yst hts 180 (by decide +kernel)), List.forall_mem_cons.mpr ⟨va_Nw.of rfl (yst hts 194 (by decide +kernel)), List.forall_mem_cons.mpr ⟨va_Nw.of rfl (yst hts 205 (by decide +kernel)), List.forall_mem_cons.mpr ⟨va_Nw.of rfl (yst hts 240 (by decide +kernel)), List.forall_mem_cons.mpr ⟨va_Nw.of rfl (yst hts 263 (by decide +kernel)), fun _ h => absurd h List.not_mem_nil⟩⟩⟩⟩⟩⟩⟩⟩⟩,
  va_Nw.of rfl (yst hts 743 (by decide +kernel)),
  List.forall_mem_cons.mpr ⟨va_Nw.of rfl (yst hts 461 (by decide +kernel)), List.forall_mem_cons.mpr ⟨va_Nw.of rfl (yst hts 536 (by decide +kernel)), List.forall_mem_cons.mpr ⟨va_Nw.of rfl (yst hts 556 (by decide +kernel)), List.forall_mem_cons.mpr ⟨va_Nw.of rfl (yst hts 842 (by decide +kernel)), List.forall_mem_cons.mpr ⟨va_Nw.of rfl (yst hts 876 (by decide +kernel)), List.forall_mem_cons.mpr ⟨va_Nw.of rfl (yst hts 1164 (by decide +kernel)), fun _ h => absurd h List.not_mem_nil⟩⟩⟩⟩⟩⟩,
  List.forall_mem_cons.mpr ⟨va_Nc.of (args := args) (ysf h 170 (by decide +kernel)), List.forall_mem_cons.mpr ⟨va_Nc.of (args := args) (ysf h 204 (by decide +kernel)), List.forall_mem_cons.mpr ⟨va_Nc.of (args := args) (ysf h 203 (by decide +kernel)), List.forall_mem_cons.mpr ⟨va_Nc.of (args := args) (ysf h 207 (by decide +kernel)), fun _ h => absurd h List.not_mem_nil⟩⟩⟩⟩,
  List.forall_mem_cons.mpr ⟨va_Nw.of rfl (yst hts 463 (by decide +kernel)), List.forall_mem_cons.mpr ⟨va_Nw.of rfl (yst hts 465 (by decide +kernel)), List.forall_mem_cons.mpr ⟨va_Nw.of rfl (yst hts 467 (by decide +kernel)), fun _ h => absurd h List.not_mem_nil⟩⟩⟩,
  List.forall_mem_cons.mpr ⟨va_AO.of (A := args) (yst hts 179 (by decide +kernel)), List.forall_mem_cons.mpr ⟨va_AO.of (A := args) (yst hts 239 (by decide +kernel)), fun _ h => absurd h List.not_mem_nil⟩⟩⟩
/-- the tables, the statics and the texts at the entry -/
theorem yStart (hts : ∀ w ∈ lw_tbl, w.before args s = true) (h : (Jvm.Cond.and given_1 narrow_1).before args s = true) : ∃ g : ZG, zS g s.heap.size s s.heap := by
  have hG : ∀ w ∈ GW, w.before args s = true := fun w hw => hts w (gTbl w hw)
  have hA : ∀ a : Nat, a < s.heap.size → ¬ zA s.heap.size a := fun a h1 h2 => absurd (Nat.lt_of_lt_of_le h1 h2) (Nat.lt_irrefl a)
  obtain ⟨D, hD⟩ := yCls hG
  obtain ⟨a0, A0⟩ := yArr (hG _ k73) (fun C q => by cases q)
  obtain ⟨a1, A1⟩ := yArr (hG _ k74) (fun C q => by cases q)
  obtain ⟨a2, A2⟩ := yArr (hG _ k229) (fun C q => by cases q)
  obtain ⟨a3, A3⟩ := yArrO (C := RX8) (yst hts 179 (by decide +kernel))
  obtain ⟨a4, A4⟩ := yArrO (C := RX2) (yst hts 239 (by decide +kernel))
  obtain ⟨adK, adV, hev, hst⟩ := yStr h hA
  obtain ⟨ad, hen, hke⟩ := yKinds hts h hA
  obtain ⟨tk, hk1, hk2⟩ := va_Tof (tm := .static "CandleLoom" "KINDS" "[LCandleLoom$Kind;") (ty := .object "CandleLoom$Kind") (N := 10) (f := fun j => .ref (ad j)) (by decide) (ysf h 60 (by decide +kernel)) (va_eqt (ysf h 61 (by decide +kernel))) (fun j hj => va_eqv (ysf h _ (yEk_ok j hj)) (hke j hj)) hA
  obtain ⟨tsw, hs1, hs2⟩ := va_Tof (tm := .static "CandleLoom$1" "$SwitchMap$CandleLoom$Kind" "[I") (ty := .int) (N := 10) (f := fun j => .int (nI (zSw j))) (by decide) (ysf h 9 (by decide +kernel)) (va_eqt (ysf h 10 (by decide +kernel))) (fun j hj => va_eqt (ysf h _ (yEs_ok j hj))) hA
  obtain ⟨tx, hx1, hx2⟩ := va_Tof (tm := .static "CandleLoomLaw" "TEXTS" "[Ljava/lang/String;") (ty := .object "java/lang/String") (N := 31) (f := fun j => .ref (adK (17 + j))) (by decide) (ysf h 125 (by decide +kernel)) (va_eqt (ysf h 126 (by decide +kernel))) (fun j hj => va_eqv (ysf h _ (yEx_ok j hj)) (hev (17 + j) (by omega))) hA
  refine ⟨(D, fun a b => match a with
    | 0 => (match b with
      | 0 => a0
      | 1 => a1
      | 2 => a2
      | 3 => a3
      | _ => a4)
    | 1 => ad b
    | 2 => adK b
    | 3 => adV b
    | _ => (match b with
      | 0 => tk
      | 1 => tsw
      | _ => tx)), ⟨hD, fun k q hq => ?_⟩, ?_, yNx hts h⟩
  · match k, hq with
    | 0, hq => cases hq; exact A0
    | 1, hq => cases hq; exact A1
    | 2, hq => cases hq; exact A2
    | 3, hq => cases hq; exact A3
    | 4, hq => cases hq; exact A4
    | k + 5, hq => simp at hq
  · exact ⟨vx_Zqof (yst hts 486 (by decide +kernel)) (yst hts 45 (by decide +kernel)) (ysf h 21 (by decide +kernel)) hA, vx_Zqof (yst hts 488 (by decide +kernel)) (yst hts 45 (by decide +kernel)) (ysf h 22 (by decide +kernel)) hA, yMsg hts h, hen,
      va_Efof (nm := zKn) (d0 := "LCandleLoom$Kind;") (tm := yTm) (fun i hi => hke i hi) (fun i hi => ysf h _ (yKw_ok i hi)) (fun i hi => hev i (by omega)) hA,
      va_Efof (nm := zKn) (d0 := "LCandleLoom$Kind;") (tm := fun i => yTm (zFm i)) (fun i hi => hke i hi) (fun i hi => ysf h _ (yKf_ok i hi)) (fun i hi => hev _ (ySfm i hi)) hA,
      hst, va_Zref (yst hts 744 (by decide +kernel)) (yst hts 32 (by decide +kernel)) hk1 hA, hk2, va_Zref (yst hts 374 (by decide +kernel)) (yst hts 44 (by decide +kernel)) hs1 hA, hs2, va_Zref (yst hts 966 (by decide +kernel)) (yst hts 31 (by decide +kernel)) hx1 hA, hx2,
      vk_R.of (A := args) (yst hts 955 (by decide +kernel)) (hev 48 (by decide)), va_Zof (yst hts 758 (by decide +kernel)) (yst hts 55 (by decide +kernel)) (va_eqi (ysf h 73 (by decide +kernel))) hA, va_Zqof (yst hts 774 (by decide +kernel)) (yst hts 57 (by decide +kernel)) (ysf h 74 (by decide +kernel)) hA⟩
end YST
