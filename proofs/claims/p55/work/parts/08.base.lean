/-! THE SYSTEM'S CLASSES, told by their places: 0 Cloth, 1 Command, 2 Edge, 3 History, 4 Judge, 5 Line, 6 Loom, 7 Script, 8 Wicks, 9 CandleLoom -/
abbrev zC : List vw_C := [(RX1, TX1, 4), (RX2, TX2, 4), (RX3, TX3, 2), (RX4, TX4, 3), (RX5, TX5, 1), (RX7, TX7, 2), (RX8, TX8, 6), (RX9, TX9, 5), (RX10, TX10, 5), (RX11, TX11, 14)]
def zCok (q : vw_C) : Prop := (∀ w ∈ u_ws q.1 q.2.1 q.2.2, w ∈ GW) ∧ (∃ ty : Nat → FieldType, ∀ k, k < q.2.2 → parseFieldDescriptor (q.2.1 k).2.2.1 = some (ty k)) ∧ (∀ a, a < q.2.2 → ∀ b, b < q.2.2 → a ≠ b → (q.2.1 a).2.1 ≠ (q.2.1 b).2.1)
theorem zC_ok : ∀ q ∈ zC, zCok q := List.forall_mem_cons.mpr ⟨⟨inX1, ⟨tyX1, tyX1_ok⟩, nmX1⟩, List.forall_mem_cons.mpr ⟨⟨inX2, ⟨tyX2, tyX2_ok⟩, nmX2⟩, List.forall_mem_cons.mpr ⟨⟨inX3, ⟨tyX3, tyX3_ok⟩, nmX3⟩, List.forall_mem_cons.mpr ⟨⟨inX4, ⟨tyX4, tyX4_ok⟩, nmX4⟩, List.forall_mem_cons.mpr ⟨⟨inX5, ⟨tyX5, tyX5_ok⟩, nmX5⟩, List.forall_mem_cons.mpr ⟨⟨inX7, ⟨tyX7, tyX7_ok⟩, nmX7⟩, List.forall_mem_cons.mpr ⟨⟨inX8, ⟨tyX8, tyX8_ok⟩, nmX8⟩, List.forall_mem_cons.mpr ⟨⟨inX9, ⟨tyX9, tyX9_ok⟩, nmX9⟩, List.forall_mem_cons.mpr ⟨⟨inX10, ⟨tyX10, tyX10_ok⟩, nmX10⟩, List.forall_mem_cons.mpr ⟨⟨inX11, ⟨tyX11, tyX11_ok⟩, nmX11⟩, fun _ h => absurd h List.not_mem_nil⟩⟩⟩⟩⟩⟩⟩⟩⟩⟩
/-- what a walk knows by name: class ids and slots; g.2 0: array classes; g.2 1: the ten kinds; g.2 2, g.2 3: texts and their bytes; g.2 4: three static arrays -/
abbrev ZG : Type := va_G × (Nat → Nat → Nat)
abbrev zTy (g : ZG) : List (ClassId × FieldType) := [(g.2 0 0, .int), (g.2 0 1, .boolean), (g.2 0 2, .char), (g.2 0 3, .object RX8), (g.2 0 4, .object RX2)]
def zT (g : ZG) (U : State) : Prop := va_K g.1 zC (zTy g) U
def zA (B : Nat) : Nat → Prop := fun q => B ≤ q
/-- the texts: 0 to 9 the kinds' words, 10 to 16 their forms, 17 to 47 the law's texts, 48 the sides -/
def zTx : List (List Nat) := [[119, 105, 99, 107, 32], [108, 105, 103, 104, 116, 32], [115, 110, 117, 102, 102, 32], [119, 97, 120, 32], [119, 101, 97, 118, 101, 32], [114, 97, 118, 101, 108, 32], [114, 101, 112, 101, 97, 116, 32], [107, 110, 111, 116, 32], [117, 110, 116, 105, 101, 32], [109, 101, 110, 100, 32], [49, 32, 53, 32, 50], [49], [49, 32, 50], [50], [50, 32, 49], [50, 32, 50], [115], [119, 105, 99, 107, 32, 51, 32, 51, 50, 55, 54, 57, 32, 49, 50], [119, 105, 99, 107, 32, 48, 32, 54, 32, 57, 57, 59, 108, 105, 103, 104, 116, 32, 48], [108, 105, 103, 104, 116, 32, 49], [108, 105, 103, 104, 116, 32, 48, 59, 108, 105, 103, 104, 116, 32, 48], [115, 110, 117, 102, 102, 32, 48], [115, 110, 117, 102, 102, 32, 49, 59, 108, 105, 103, 104, 116, 32, 49], [119, 97, 120, 32, 48, 32, 53, 48], [119, 97, 120, 32, 49, 32, 49, 59, 119, 97, 120, 32, 49, 32, 48, 49], [119, 101, 97, 118, 101, 32, 49], [119, 101, 97, 118, 101, 32, 49, 48, 59, 119, 101, 97, 118, 101, 32, 51], [114, 97, 118, 101, 108, 32, 49], [114, 97, 118, 101, 108, 32, 50, 59, 114, 97, 118, 101, 108, 32, 50], [114, 101, 112, 101, 97, 116, 32, 49, 32, 57], [114, 101, 112, 101, 97, 116, 32, 51, 32, 50, 59, 114, 97, 118, 101, 108, 32, 48, 53], [107, 110, 111, 116, 32, 48, 32, 48], [107, 110, 111, 116, 32, 49, 32, 49, 53, 59, 117, 110, 116, 105, 101, 32, 49, 32, 49, 53], [117, 110, 116, 105, 101, 32, 48, 32, 48], [109, 101, 110, 100, 32, 108], [109, 101, 110, 100, 32, 114, 59, 109, 101, 110, 100, 32, 114], [119, 105, 99, 107, 32, 56, 32, 49, 32, 49], [119, 105, 99, 107, 32, 48, 32, 48, 32, 49], [119, 105, 99, 107, 32, 48, 32, 54, 53, 53, 51, 54, 32, 49], [119, 97, 120, 32, 48, 32, 48], [119, 97, 120, 32, 48, 32, 53, 49], [119, 101, 97, 118, 101, 32, 48], [119, 101, 97, 118, 101, 32, 49, 49], [114, 97, 118, 101, 108, 32, 49, 49], [114, 101, 112, 101, 97, 116, 32, 50, 49, 32, 49], [114, 101, 112, 101, 97, 116, 32, 49, 32, 48], [107, 110, 111, 116, 32, 48, 32, 49, 54], [108, 105, 103, 104, 116, 32, 57], [108, 114, 120]]
def zLen (i : Nat) : Nat := (zTx.getD i []).length
def zCh (i j : Nat) : Nat := (zTx.getD i []).getD j 0
def zFm (i : Nat) : Nat := [10, 11, 11, 12, 13, 13, 14, 15, 15, 16].getD i 0
def zMsg : List (Nat × String) := [(341, "an argument or the text is not allowed"), (346, "there is no such index"), (334, "the call is denied"), (351, "there is none"), (356, "the call is not possible now"), (361, "the cloth has no rows")]
def zKn : List String := ["WICK", "LIGHT", "SNUFF", "WAX", "WEAVE", "RAVEL", "REPEAT", "KNOT", "UNTIE", "MEND"]
def zSw (i : Nat) : Nat := [1, 2, 3, 4, 5, 6, 7, 8, 9, 0].getD i 0
/-- members of a nest mate, pairs that may be cast, pairs that may not -/
def zNm : List (String × Nat × MethodName) := [("CandleLoom", 11, yX8_init), ("CandleLoom$Loom", 11, yX10_init), ("CandleLoom$Loom", 20, yX1_init), ("CandleLoom$Loom", 27, yX3_init), ("CandleLoom$History", 17, yX8_init), ("CandleLoom", 31, yX5_init), ("CandleLoom", 38, yX2_init), ("CandleLoom$Script", 21, yX2_init), ("CandleLoom", 52, yX7_init)]
def zEx : List String := ["java/lang/IllegalArgumentException", "java/lang/IndexOutOfBoundsException", "java/lang/UnsupportedOperationException", "java/util/NoSuchElementException", "java/lang/IllegalStateException", "java/lang/ArithmeticException"]
def zEn : List (String × String) := [("java/lang/UnsupportedOperationException", "java/lang/IllegalArgumentException"), ("java/lang/UnsupportedOperationException", "java/lang/IndexOutOfBoundsException"), ("java/lang/IllegalArgumentException", "java/lang/IndexOutOfBoundsException"), ("java/util/NoSuchElementException", "java/lang/IndexOutOfBoundsException")]
def zDe : List String := ["java/lang/RuntimeException", "java/lang/Exception", "java/lang/Throwable"]
def zAO : List String := ["CandleLoom$Loom", "CandleLoom$Command"]
def zNx (U : State) : Prop := (∀ q ∈ zNm, va_Nw (.methodLinkNest q.1 q.2.1 q.2.2 "CandleLoom") U) ∧ va_Nw (.fieldLinkNest "CandleLoom$Script" 74 "CandleLoom" "KINDS" "[LCandleLoom$Kind;" "CandleLoom") U ∧ (∀ q ∈ zEx, va_Nw (.castable q q) U) ∧ (∀ q ∈ zEn, va_Nc q.1 q.2 U) ∧ (∀ q ∈ zDe, va_Nw (.declares (Bundle.initS q)) U) ∧ ∀ q ∈ zAO, va_AO q U
theorem zNx.warm {s U : State} (hW : s.WarmedH U.vm) (h : zNx s) : zNx U := ⟨fun q hq => va_Nw.warmM hW (h.1 q hq), va_Nw.warmF hW h.2.1, fun q hq => va_Nw.warmC hW (h.2.2.1 q hq), fun q hq => va_Nc.moved hW.alike (h.2.2.2.1 q hq), fun q hq => va_Nw.warmD hW (h.2.2.2.2.1 q hq), fun q hq => va_AO.moved hW.alike (h.2.2.2.2.2 q hq)⟩
theorem zNx.same {u U : State} (hv : U.vm = u.vm) (h : zNx u) : zNx U := ⟨fun q hq => va_Nw.same rfl hv.symm (h.1 q hq), va_Nw.same rfl hv.symm h.2.1, fun q hq => va_Nw.same rfl hv.symm (h.2.2.1 q hq), fun q hq => va_Nc.moved (by rw [hv]; exact Vm.Alike.refl _) (h.2.2.2.1 q hq), fun q hq => va_Nw.same rfl hv.symm (h.2.2.2.2.1 q hq), fun q hq => va_AO.moved (by rw [hv]; exact Vm.Alike.refl _) (h.2.2.2.2.2 q hq)⟩
def zStr (g : ZG) (A : Nat → Prop) (U : State) (H : Heap) : Prop := ∀ i : Nat, i < 49 → va_O "java/lang/String" (g.2 2 i) A U H ∧ va_OF "java/lang/String" "coder" "B" (.int 0) (g.2 2 i) A U H ∧ va_OF "java/lang/String" "value" "[B" (.ref (g.2 3 i)) (g.2 2 i) A U H ∧ va_T .byte (g.2 3 i) (zLen i) (fun j => .int (nI (zCh i j))) A U H
/-- what stands from the start and is never written: statics, the kinds, the texts -/
def zH (g : ZG) (B : Nat) (U : State) (H : Heap) : Prop :=
  vx_Zq Bundle.tN "UNASSIGNED_STACK" Bundle.steD (zA B) U H ∧ vx_Zq Bundle.tN "SUPPRESSED_SENTINEL" Bundle.listD (zA B) U H ∧ (∀ q ∈ zMsg, ∃ sa, vk_R "CandleLoom" q.1 q.2 sa U) ∧
  va_En "CandleLoom$Kind" "LCandleLoom$Kind;" zKn [("java/lang/Enum", "ordinal", "I", [0, 1, 2, 3, 4, 5, 6, 7, 8, 9])] (g.2 1) (zA B) U H ∧
  va_Ef 10 "CandleLoom$Kind" "word" "Ljava/lang/String;" (fun i => .ref (g.2 2 i)) (g.2 1) (zA B) U H ∧ va_Ef 10 "CandleLoom$Kind" "form" "Ljava/lang/String;" (fun i => .ref (g.2 2 (zFm i))) (g.2 1) (zA B) U H ∧
  zStr g (zA B) U H ∧
  va_Z "CandleLoom" "KINDS" "[LCandleLoom$Kind;" (.ref (g.2 4 0)) (zA B) U H ∧ va_T (.object "CandleLoom$Kind") (g.2 4 0) 10 (fun j => .ref (g.2 1 j)) (zA B) U H ∧
  va_Z "CandleLoom$1" "$SwitchMap$CandleLoom$Kind" "[I" (.ref (g.2 4 1)) (zA B) U H ∧ va_T .int (g.2 4 1) 10 (fun j => .int (nI (zSw j))) (zA B) U H ∧
  va_Z "CandleLoomLaw" "TEXTS" "[Ljava/lang/String;" (.ref (g.2 4 2)) (zA B) U H ∧ va_T (.object "java/lang/String") (g.2 4 2) 31 (fun j => .ref (g.2 2 (17 + j))) (zA B) U H ∧
  vk_R "CandleLoomLaw" 141 "lrx" (g.2 2 48) U ∧ va_Z "java/lang/String" "COMPACT_STRINGS" "Z" (.int 1) (zA B) U H ∧ va_Zq "jdk/internal/util/Preconditions" "SIOOBE_FORMATTER" "Ljava/util/function/BiFunction;" (zA B) U H
def zS (g : ZG) (B : Nat) (U : State) (H : Heap) : Prop := zT g U ∧ zH g B U H ∧ zNx U
theorem zT.moved {g : ZG} {u U : State} (hvm : u.vm.Alike U.vm) (h : zT g u) : zT g U := va_K.moved hvm h
theorem zStr.moved {g : ZG} {A : Nat → Prop} {u U : State} {H : Heap} (hvm : u.vm.Alike U.vm) (h : zStr g A u H) : zStr g A U H := fun i hi => ⟨va_O.moved hvm (h i hi).1, va_OF.moved hvm (h i hi).2.1, va_OF.moved hvm (h i hi).2.2.1, va_T.moved hvm (h i hi).2.2.2⟩
theorem zStr.kept {g : ZG} {A : Nat → Prop} {U : State} {H H1 : Heap} (h : zStr g A U H) (hq : ∀ a : Nat, a < H.size → ¬ A a → H1[a]? = H[a]?) : zStr g A U H1 := fun i hi => ⟨(h i hi).1.kept hq, (h i hi).2.1.kept hq, (h i hi).2.2.1.kept hq, (h i hi).2.2.2.kept hq⟩
theorem zH.kept {g : ZG} {B : Nat} {U : State} {H H1 : Heap} (h : zH g B U H) (hq : ∀ a : Nat, a < H.size → ¬ zA B a → H1[a]? = H[a]?) : zH g B U H1 := by
  obtain ⟨a1, a2, a3, a4, a5, a6, a7, a8, a9, b1, b2, b3, b4, b5, b6, b7⟩ := h
  exact ⟨a1.kept hq, a2.kept hq, a3, a4.kept hq, a5.kept hq, a6.kept hq, a7.kept hq, a8.kept hq, a9.kept hq, b1.kept hq, b2.kept hq, b3.kept hq, b4.kept hq, b5, b6.kept hq, b7.kept hq⟩
theorem zH.moved {g : ZG} {B : Nat} {u U : State} {H : Heap} (hvm : u.vm.Alike U.vm) (hr : ∀ own k tx a, vk_R own k tx a u → vk_R own k tx a U) (h : zH g B u H) : zH g B U H := by
  obtain ⟨a1, a2, a3, a4, a5, a6, a7, a8, a9, b1, b2, b3, b4, b5, b6, b7⟩ := h
  refine ⟨vx_Zq.moved hvm a1, vx_Zq.moved hvm a2, fun q hq => ?_, va_En.moved hvm a4, va_Ef.moved hvm a5, va_Ef.moved hvm a6, zStr.moved hvm a7, va_Z.moved hvm a8, va_T.moved hvm a9, va_Z.moved hvm b1, va_T.moved hvm b2, va_Z.moved hvm b3, va_T.moved hvm b4, hr _ _ _ _ b5, va_Z.moved hvm b6, va_Zq.moved hvm b7⟩
  obtain ⟨sa, hs⟩ := a3 q hq
  exact ⟨sa, hr _ _ _ _ hs⟩
theorem zS.warm {g : ZG} {B : Nat} {s U : State} {H : Heap} (hW : s.WarmedH U.vm) (h : zS g B s H) : zS g B U H := ⟨zT.moved hW.alike h.1, zH.moved hW.alike (fun _ _ _ _ => vk_R.warm hW) h.2.1, h.2.2.warm hW⟩
theorem zS.same {g : ZG} {B : Nat} {u U : State} {H : Heap} (hv : U.vm = u.vm) (h : zS g B u H) : zS g B U H := ⟨zT.moved (by rw [hv]; exact Vm.Alike.refl _) h.1, zH.moved (by rw [hv]; exact Vm.Alike.refl _) (fun _ _ _ _ => vk_R.same hv) h.2.1, h.2.2.same hv⟩
/-- at a later heap of the same method -/
theorem zS.at' {g : ZG} {B : Nat} {s : State} {H : Heap} {locs : List Loc} (h : zS g B s s.heap) (hS : va_S (zA B) s.heap H locs) : zS g B s H := ⟨h.1, h.2.1.kept hS.2.1, h.2.2⟩
/-! THE WORLD: n cells from o on, their kinds T, their numbers f (cell, slot) -/
abbrev ZD : Type := ZG → Nat → (Nat → Nat) → va_E
def zPm (g : ZG) (o n : Nat) (T : Nat → ZD) (f : Nat → Nat → Nat) (H : Heap) : Prop := ∀ k, k < n → va_at g.1 zC (o + k, T k g (o + k) (f k)) H
/-- from H to H1 nothing old has changed outside the n cells from a on -/
def zCh1 (a n : Nat) (H H1 : Heap) : Prop := H.size ≤ H1.size ∧ ∀ q, q < H.size → (q < a ∨ a + n ≤ q) → H1[q]? = H[q]?
theorem zCh1.rf {a n : Nat} {H : Heap} : zCh1 a n H H := ⟨Nat.le_refl _, fun _ _ _ => rfl⟩
theorem zCh1.tr {a n : Nat} {H H1 H2 : Heap} (h1 : zCh1 a n H H1) (h2 : zCh1 a n H1 H2) : zCh1 a n H H2 := ⟨Nat.le_trans h1.1 h2.1, fun q hq ho => (h2.2 q (Nat.lt_of_lt_of_le hq h1.1) ho).trans (h1.2 q hq ho)⟩
theorem zCh1.mono {a n b k : Nat} {H H1 : Heap} (h : zCh1 a n H H1) (h1 : b ≤ a) (h2 : a + n ≤ b + k) : zCh1 b k H H1 := ⟨h.1, fun q hq ho => h.2 q hq (by omega)⟩
theorem zCh1.va {a n B : Nat} {H0 H H1 : Heap} {locs : List Loc} (h : zCh1 a n H H1) (hB : B ≤ a) (hS : va_S (zA B) H0 H locs) {L : List Loc} (hL : ∀ l ∈ L, zA B l.base) : va_S (zA B) H0 H1 (locs ++ L) := by
  refine ⟨Nat.le_trans hS.1 h.1, fun q h1 h2 => ?_, fun l hl => ?_⟩
  · rw [h.2 q (Nat.lt_of_lt_of_le h1 hS.1) (Or.inl (by have : ¬ B ≤ q := h2; omega))]
    exact hS.2.1 q h1 h2
  · rcases List.mem_append.mp hl with z | z
    · exact hS.2.2 l z
    · exact hL l z
theorem zPm.lt {g : ZG} {o n : Nat} {T : Nat → ZD} {f : Nat → Nat → Nat} {H : Heap} (h : zPm g o n T f H) {k : Nat} (hk : k < n) : o + k < H.size := (h k hk).lt
theorem zPm.kept {g : ZG} {o n a z : Nat} {T : Nat → ZD} {f : Nat → Nat → Nat} {H H1 : Heap} (h : zPm g o n T f H) (hc : zCh1 a z H H1) (hd : o + n ≤ a ∨ a + z ≤ o) : zPm g o n T f H1 := fun k hk => (h k hk).kept (hc.2 _ (h.lt hk) (by show o + k < a ∨ a + z ≤ o + k; omega))
theorem zPm.eq {g : ZG} {o n : Nat} {T : Nat → ZD} {f f' : Nat → Nat → Nat} {H : Heap} (h : zPm g o n T f H) (he : f = f') : zPm g o n T f' H := he ▸ h
theorem zPm.sub {g : ZG} {o n o' n' d : Nat} {T T' : Nat → ZD} {f f' : Nat → Nat → Nat} {H : Heap} (h : zPm g o n T f H) (ho : o' = o + d) (hn : d + n' ≤ n) (hT : ∀ k, k < n' → T (d + k) = T' k) (hf : ∀ k, k < n' → f (d + k) = f' k) : zPm g o' n' T' f' H := fun k hk => by
  have h1 := h (d + k) (by omega)
  rw [hT k hk, hf k hk] at h1
  rw [ho, show o + d + k = o + (d + k) by omega]
  exact h1
theorem zPm.recv {g : ZG} {o n : Nat} {T : Nat → ZD} {f : Nat → Nat → Nat} {H : Heap} {s : State} (hK : zT g s) (h : zPm g o n T f H) (k : Nat) (hk : k < n) {a : Nat} (ha : o + k = a) {ci : Nat} {fs : List Value} (hT : T k g (o + k) (f k) = .inr (ci, fs)) {q : vw_C} (hc : zC[ci]? = some q) : ∃ cell : Cell, H[a]? = some cell ∧ cell.vm.isStatics = false ∧ s.vm.findClass q.1 = some cell.cls := by
  have h1 := h k hk
  rw [hT, ha] at h1
  exact va_recv (ws := [(a, .inr (ci, fs))]) (q0 := 0) hK (fun i x hx => by
    have : i < 1 := (List.getElem?_eq_some_iff.mp hx).1
    rw [show i = 0 by omega] at hx; cases hx; exact h1) hc rfl
theorem zOne {g : ZG} {a : Nat} {e : va_E} {H : Heap} (h : va_at g.1 zC (a, e) H) : va_P g.1 zC [(a, e)] H := fun i x hx => by
  have : i < 1 := (List.getElem?_eq_some_iff.mp hx).1
  rw [show i = 0 by omega] at hx; cases hx; exact h
theorem zOneD {a : Nat} {e : va_E} : va_D (fun _ => True) [(a, e)] := ⟨fun i j p q hi hj _ => by
  have h1 : i < 1 := (List.getElem?_eq_some_iff.mp hi).1
  have h2 : j < 1 := (List.getElem?_eq_some_iff.mp hj).1
  omega, fun _ _ _ => trivial⟩
/-- one cell has changed -/
theorem zPm.set {g : ZG} {o n : Nat} {T : Nat → ZD} {f : Nat → Nat → Nat} {H H1 : Heap} (h : zPm g o n T f H) {k : Nat} {r : Nat → Nat} (he : va_at g.1 zC (o + k, T k g (o + k) r) H1) (oq : ∀ q : Nat, q ≠ o + k → H1[q]? = H[q]?) : zPm g o n T (va_up f k r) H1 := fun j hj => by
  by_cases hjk : j = k
  · subst hjk
    rw [show va_up f j r j = r from if_pos rfl]
    exact he
  · rw [show va_up f k r j = f j from if_neg hjk]
    exact (h j hj).kept (oq _ (by show o + j ≠ o + k; omega))
/-! CONTRACTS: what holds ahead of a call: the cells (PH), the tables and what stands from the start -/
def zPre (g : ZG) (B : Nat) (PH : Heap → Prop) : State → Prop := fun U => PH U.heap ∧ zS g B U U.heap
/-- it only reads: its answer, and the same heap -/
def zR (v : Option Value) : Array Value → State → Outcome → State → Prop := fun _ st o t => o = .returned v ∧ t.heap = st.heap
/-- it writes: what holds of its answer and of the heap behind it, and which cells may have changed -/
def zX (PW : Option Value → Heap → Prop) (a n : Nat) : Array Value → State → Outcome → State → Prop := fun _ st o t => ∃ v, o = .returned v ∧ PW v t.heap ∧ zCh1 a n st.heap t.heap
/-- what holds where it has thrown E -/
def zXT (PW : String → Heap → Prop) (a n : Nat) : String → State → State → Prop := fun E st t => PW E t.heap ∧ zCh1 a n st.heap t.heap
theorem zPre.blind {g : ZG} {B : Nat} {PH : Heap → Prop} {av : List Value} : FrameBlind (va_Pc av (zPre g B PH)) := fun _ _ _ _ q => ⟨q.1, q.2.1, zS.same rfl q.2.2⟩
theorem zPre.at' {g : ZG} {B : Nat} {PH : Heap → Prop} {s U : State} {H : Heap} (hZ : zS g B s H) (hPH : PH H) (hU : U.heap = H) (hW : s.WarmedH U.vm) : zPre g B PH U := ⟨by rw [hU]; exact hPH, by rw [hU]; exact hZ.warm hW⟩
