section
/-- a private method of a class that the tables say can be made, by its rows of tables_1 -/
def lw_okq (q : MethodName × Nat) : Prop := (q.1.cls ≠ "java/lang/invoke/MethodHandle" ∧ q.1.cls ≠ "java/lang/invoke/VarHandle") ∧ Cond.instantiable q.1.cls q.2 ∈ tables_1 ∧ Cond.privateMethod q.1 ∈ tables_1 ∧ Cond.instanceMethod q.1 ∈ tables_1
theorem lw_p0 : lw_okq (⟨"CandleLoom", "change", "(LCandleLoom$Command;)I"⟩, 14) := ⟨⟨by decide +kernel, by decide +kernel⟩, List.mem_of_getElem? (i := 32) (by decide +kernel), List.mem_of_getElem? (i := 335) (by decide +kernel), List.mem_of_getElem? (i := 336) (by decide +kernel)⟩
theorem lw_p1 : lw_okq (⟨"CandleLoom$Judge", "onNewWick", "(LCandleLoom$Wicks;III)I"⟩, 1) := ⟨⟨by decide +kernel, by decide +kernel⟩, List.mem_of_getElem? (i := 162) (by decide +kernel), List.mem_of_getElem? (i := 351) (by decide +kernel), List.mem_of_getElem? (i := 352) (by decide +kernel)⟩
theorem lw_p2 : lw_okq (⟨"CandleLoom$Judge", "deny", "(II)I"⟩, 1) := ⟨⟨by decide +kernel, by decide +kernel⟩, List.mem_of_getElem? (i := 162) (by decide +kernel), List.mem_of_getElem? (i := 356) (by decide +kernel), List.mem_of_getElem? (i := 357) (by decide +kernel)⟩
theorem lw_p3 : lw_okq (⟨"CandleLoom$Judge", "onLighting", "(LCandleLoom$Wicks;I)I"⟩, 1) := ⟨⟨by decide +kernel, by decide +kernel⟩, List.mem_of_getElem? (i := 162) (by decide +kernel), List.mem_of_getElem? (i := 360) (by decide +kernel), List.mem_of_getElem? (i := 361) (by decide +kernel)⟩
theorem lw_p4 : lw_okq (⟨"CandleLoom$Judge", "onSnuffing", "(LCandleLoom$Wicks;I)I"⟩, 1) := ⟨⟨by decide +kernel, by decide +kernel⟩, List.mem_of_getElem? (i := 162) (by decide +kernel), List.mem_of_getElem? (i := 368) (by decide +kernel), List.mem_of_getElem? (i := 369) (by decide +kernel)⟩
theorem lw_p5 : lw_okq (⟨"CandleLoom$Judge", "onMoreWax", "(LCandleLoom$Wicks;II)I"⟩, 1) := ⟨⟨by decide +kernel, by decide +kernel⟩, List.mem_of_getElem? (i := 162) (by decide +kernel), List.mem_of_getElem? (i := 372) (by decide +kernel), List.mem_of_getElem? (i := 373) (by decide +kernel)⟩
theorem lw_p6 : lw_okq (⟨"CandleLoom$Judge", "onWeaving", "(LCandleLoom$Loom;I)I"⟩, 1) := ⟨⟨by decide +kernel, by decide +kernel⟩, List.mem_of_getElem? (i := 162) (by decide +kernel), List.mem_of_getElem? (i := 376) (by decide +kernel), List.mem_of_getElem? (i := 377) (by decide +kernel)⟩
theorem lw_p7 : lw_okq (⟨"CandleLoom$Judge", "onRavelling", "(LCandleLoom$Cloth;I)I"⟩, 1) := ⟨⟨by decide +kernel, by decide +kernel⟩, List.mem_of_getElem? (i := 162) (by decide +kernel), List.mem_of_getElem? (i := 384) (by decide +kernel), List.mem_of_getElem? (i := 385) (by decide +kernel)⟩
theorem lw_p8 : lw_okq (⟨"CandleLoom$Judge", "onRepeating", "(LCandleLoom$Cloth;II)I"⟩, 1) := ⟨⟨by decide +kernel, by decide +kernel⟩, List.mem_of_getElem? (i := 162) (by decide +kernel), List.mem_of_getElem? (i := 392) (by decide +kernel), List.mem_of_getElem? (i := 393) (by decide +kernel)⟩
theorem lw_p9 : lw_okq (⟨"CandleLoom$Judge", "onKnots", "(LCandleLoom$Cloth;IIZ)I"⟩, 1) := ⟨⟨by decide +kernel, by decide +kernel⟩, List.mem_of_getElem? (i := 162) (by decide +kernel), List.mem_of_getElem? (i := 396) (by decide +kernel), List.mem_of_getElem? (i := 397) (by decide +kernel)⟩
theorem lw_p10 : lw_okq (⟨"CandleLoom$Judge", "onMending", "(LCandleLoom$Loom;I)I"⟩, 1) := ⟨⟨by decide +kernel, by decide +kernel⟩, List.mem_of_getElem? (i := 162) (by decide +kernel), List.mem_of_getElem? (i := 415) (by decide +kernel), List.mem_of_getElem? (i := 416) (by decide +kernel)⟩
theorem lw_p11 : lw_okq (⟨"java/lang/Throwable", "fillInStackTrace", "(I)Ljava/lang/Throwable;"⟩, 6) := ⟨⟨by decide +kernel, by decide +kernel⟩, List.mem_of_getElem? (i := 471) (by decide +kernel), List.mem_of_getElem? (i := 469) (by decide +kernel), List.mem_of_getElem? (i := 470) (by decide +kernel)⟩
theorem lw_p12 : lw_okq (⟨"CandleLoom", "throwDenial", "(II)V"⟩, 14) := ⟨⟨by decide +kernel, by decide +kernel⟩, List.mem_of_getElem? (i := 32) (by decide +kernel), List.mem_of_getElem? (i := 520) (by decide +kernel), List.mem_of_getElem? (i := 521) (by decide +kernel)⟩
theorem lw_p13 : lw_okq (⟨"CandleLoom$Loom", "weaveRows", "(I)I"⟩, 6) := ⟨⟨by decide +kernel, by decide +kernel⟩, List.mem_of_getElem? (i := 40) (by decide +kernel), List.mem_of_getElem? (i := 564) (by decide +kernel), List.mem_of_getElem? (i := 565) (by decide +kernel)⟩
theorem lw_p14 : lw_okq (⟨"CandleLoom$Loom", "weaveRow", "()V"⟩, 6) := ⟨⟨by decide +kernel, by decide +kernel⟩, List.mem_of_getElem? (i := 40) (by decide +kernel), List.mem_of_getElem? (i := 569) (by decide +kernel), List.mem_of_getElem? (i := 570) (by decide +kernel)⟩
theorem lw_p15 : lw_okq (⟨"CandleLoom$Script", "readCommand", "(LCandleLoom$Command;)Z"⟩, 5) := ⟨⟨by decide +kernel, by decide +kernel⟩, List.mem_of_getElem? (i := 202) (by decide +kernel), List.mem_of_getElem? (i := 705) (by decide +kernel), List.mem_of_getElem? (i := 706) (by decide +kernel)⟩
def lw_privs_1 : List (MethodName × Nat) := [(⟨"CandleLoom", "change", "(LCandleLoom$Command;)I"⟩, 14), (⟨"CandleLoom$Judge", "onNewWick", "(LCandleLoom$Wicks;III)I"⟩, 1), (⟨"CandleLoom$Judge", "deny", "(II)I"⟩, 1), (⟨"CandleLoom$Judge", "onLighting", "(LCandleLoom$Wicks;I)I"⟩, 1), (⟨"CandleLoom$Judge", "onSnuffing", "(LCandleLoom$Wicks;I)I"⟩, 1), (⟨"CandleLoom$Judge", "onMoreWax", "(LCandleLoom$Wicks;II)I"⟩, 1), (⟨"CandleLoom$Judge", "onWeaving", "(LCandleLoom$Loom;I)I"⟩, 1), (⟨"CandleLoom$Judge", "onRavelling", "(LCandleLoom$Cloth;I)I"⟩, 1), (⟨"CandleLoom$Judge", "onRepeating", "(LCandleLoom$Cloth;II)I"⟩, 1), (⟨"CandleLoom$Judge", "onKnots", "(LCandleLoom$Cloth;IIZ)I"⟩, 1), (⟨"CandleLoom$Judge", "onMending", "(LCandleLoom$Loom;I)I"⟩, 1), (⟨"java/lang/Throwable", "fillInStackTrace", "(I)Ljava/lang/Throwable;"⟩, 6), (⟨"CandleLoom", "throwDenial", "(II)V"⟩, 14), (⟨"CandleLoom$Loom", "weaveRows", "(I)I"⟩, 6), (⟨"CandleLoom$Loom", "weaveRow", "()V"⟩, 6), (⟨"CandleLoom$Script", "readCommand", "(LCandleLoom$Command;)Z"⟩, 5)]
theorem lw_r1 : ∀ q ∈ lw_privs_1, lw_okq q := List.forall_mem_cons.mpr ⟨lw_p0, List.forall_mem_cons.mpr ⟨lw_p1, List.forall_mem_cons.mpr ⟨lw_p2, List.forall_mem_cons.mpr ⟨lw_p3, List.forall_mem_cons.mpr ⟨lw_p4, List.forall_mem_cons.mpr ⟨lw_p5, List.forall_mem_cons.mpr ⟨lw_p6, List.forall_mem_cons.mpr ⟨lw_p7, List.forall_mem_cons.mpr ⟨lw_p8, List.forall_mem_cons.mpr ⟨lw_p9, List.forall_mem_cons.mpr ⟨lw_p10, List.forall_mem_cons.mpr ⟨lw_p11, List.forall_mem_cons.mpr ⟨lw_p12, List.forall_mem_cons.mpr ⟨lw_p13, List.forall_mem_cons.mpr ⟨lw_p14, List.forall_mem_cons.mpr ⟨lw_p15, fun _ h => absurd h List.not_mem_nil⟩⟩⟩⟩⟩⟩⟩⟩⟩⟩⟩⟩⟩⟩⟩⟩
theorem lw_p16 : lw_okq (⟨"CandleLoom$Script", "readWord", "()LCandleLoom$Kind;"⟩, 5) := ⟨⟨by decide +kernel, by decide +kernel⟩, List.mem_of_getElem? (i := 202) (by decide +kernel), List.mem_of_getElem? (i := 709) (by decide +kernel), List.mem_of_getElem? (i := 710) (by decide +kernel)⟩
theorem lw_p17 : lw_okq (⟨"CandleLoom$Script", "countSame", "(Ljava/lang/String;)I"⟩, 5) := ⟨⟨by decide +kernel, by decide +kernel⟩, List.mem_of_getElem? (i := 202) (by decide +kernel), List.mem_of_getElem? (i := 715) (by decide +kernel), List.mem_of_getElem? (i := 716) (by decide +kernel)⟩
theorem lw_p18 : lw_okq (⟨"CandleLoom$Script", "readSign", "(C)Z"⟩, 5) := ⟨⟨by decide +kernel, by decide +kernel⟩, List.mem_of_getElem? (i := 202) (by decide +kernel), List.mem_of_getElem? (i := 771) (by decide +kernel), List.mem_of_getElem? (i := 772) (by decide +kernel)⟩
theorem lw_p19 : lw_okq (⟨"CandleLoom$Script", "readSide", "()I"⟩, 5) := ⟨⟨by decide +kernel, by decide +kernel⟩, List.mem_of_getElem? (i := 202) (by decide +kernel), List.mem_of_getElem? (i := 775) (by decide +kernel), List.mem_of_getElem? (i := 776) (by decide +kernel)⟩
theorem lw_p20 : lw_okq (⟨"CandleLoom$Script", "readDigits", "(I)I"⟩, 5) := ⟨⟨by decide +kernel, by decide +kernel⟩, List.mem_of_getElem? (i := 202) (by decide +kernel), List.mem_of_getElem? (i := 779) (by decide +kernel), List.mem_of_getElem? (i := 780) (by decide +kernel)⟩
theorem lw_p21 : lw_okq (⟨"CandleLoom$Script", "digitIsNext", "()Z"⟩, 5) := ⟨⟨by decide +kernel, by decide +kernel⟩, List.mem_of_getElem? (i := 202) (by decide +kernel), List.mem_of_getElem? (i := 783) (by decide +kernel), List.mem_of_getElem? (i := 784) (by decide +kernel)⟩
theorem lw_p22 : lw_okq (⟨"CandleLoom", "firstFailingCommand", "()I"⟩, 14) := ⟨⟨by decide +kernel, by decide +kernel⟩, List.mem_of_getElem? (i := 32) (by decide +kernel), List.mem_of_getElem? (i := 795) (by decide +kernel), List.mem_of_getElem? (i := 796) (by decide +kernel)⟩
theorem lw_p23 : lw_okq (⟨"CandleLoom$Wicks", "rankOf", "(I)I"⟩, 5) := ⟨⟨by decide +kernel, by decide +kernel⟩, List.mem_of_getElem? (i := 46) (by decide +kernel), List.mem_of_getElem? (i := 1017) (by decide +kernel), List.mem_of_getElem? (i := 1018) (by decide +kernel)⟩
theorem lw_p24 : lw_okq (⟨"CandleLoom$Wicks", "precedes", "(II)Z"⟩, 5) := ⟨⟨by decide +kernel, by decide +kernel⟩, List.mem_of_getElem? (i := 46) (by decide +kernel), List.mem_of_getElem? (i := 1021) (by decide +kernel), List.mem_of_getElem? (i := 1022) (by decide +kernel)⟩
theorem lw_p25 : lw_okq (⟨"CandleLoom$Line", "addDigit", "(I)V"⟩, 2) := ⟨⟨by decide +kernel, by decide +kernel⟩, List.mem_of_getElem? (i := 231) (by decide +kernel), List.mem_of_getElem? (i := 1062) (by decide +kernel), List.mem_of_getElem? (i := 1063) (by decide +kernel)⟩
theorem lw_p26 : lw_okq (⟨"CandleLoom$Line", "add", "(C)V"⟩, 2) := ⟨⟨by decide +kernel, by decide +kernel⟩, List.mem_of_getElem? (i := 231) (by decide +kernel), List.mem_of_getElem? (i := 1066) (by decide +kernel), List.mem_of_getElem? (i := 1067) (by decide +kernel)⟩
theorem lw_p27 : lw_okq (⟨"CandleLoom$Cloth", "isNew", "(I)Z"⟩, 4) := ⟨⟨by decide +kernel, by decide +kernel⟩, List.mem_of_getElem? (i := 76) (by decide +kernel), List.mem_of_getElem? (i := 1103) (by decide +kernel), List.mem_of_getElem? (i := 1104) (by decide +kernel)⟩
theorem lw_p28 : lw_okq (⟨"CandleLoom$Cloth", "sameRows", "(II)Z"⟩, 4) := ⟨⟨by decide +kernel, by decide +kernel⟩, List.mem_of_getElem? (i := 76) (by decide +kernel), List.mem_of_getElem? (i := 1107) (by decide +kernel), List.mem_of_getElem? (i := 1108) (by decide +kernel)⟩
theorem lw_p29 : lw_okq (⟨"CandleLoom$Cloth", "sameRuns", "(III)Z"⟩, 4) := ⟨⟨by decide +kernel, by decide +kernel⟩, List.mem_of_getElem? (i := 76) (by decide +kernel), List.mem_of_getElem? (i := 1184) (by decide +kernel), List.mem_of_getElem? (i := 1185) (by decide +kernel)⟩
theorem lw_p30 : lw_okq (⟨"CandleLoom", "knottedRowFrom", "(I)I"⟩, 14) := ⟨⟨by decide +kernel, by decide +kernel⟩, List.mem_of_getElem? (i := 32) (by decide +kernel), List.mem_of_getElem? (i := 1229) (by decide +kernel), List.mem_of_getElem? (i := 1230) (by decide +kernel)⟩
def lw_privs_2 : List (MethodName × Nat) := [(⟨"CandleLoom$Script", "readWord", "()LCandleLoom$Kind;"⟩, 5), (⟨"CandleLoom$Script", "countSame", "(Ljava/lang/String;)I"⟩, 5), (⟨"CandleLoom$Script", "readSign", "(C)Z"⟩, 5), (⟨"CandleLoom$Script", "readSide", "()I"⟩, 5), (⟨"CandleLoom$Script", "readDigits", "(I)I"⟩, 5), (⟨"CandleLoom$Script", "digitIsNext", "()Z"⟩, 5), (⟨"CandleLoom", "firstFailingCommand", "()I"⟩, 14), (⟨"CandleLoom$Wicks", "rankOf", "(I)I"⟩, 5), (⟨"CandleLoom$Wicks", "precedes", "(II)Z"⟩, 5), (⟨"CandleLoom$Line", "addDigit", "(I)V"⟩, 2), (⟨"CandleLoom$Line", "add", "(C)V"⟩, 2), (⟨"CandleLoom$Cloth", "isNew", "(I)Z"⟩, 4), (⟨"CandleLoom$Cloth", "sameRows", "(II)Z"⟩, 4), (⟨"CandleLoom$Cloth", "sameRuns", "(III)Z"⟩, 4), (⟨"CandleLoom", "knottedRowFrom", "(I)I"⟩, 14)]
theorem lw_r2 : ∀ q ∈ lw_privs_2, lw_okq q := List.forall_mem_cons.mpr ⟨lw_p16, List.forall_mem_cons.mpr ⟨lw_p17, List.forall_mem_cons.mpr ⟨lw_p18, List.forall_mem_cons.mpr ⟨lw_p19, List.forall_mem_cons.mpr ⟨lw_p20, List.forall_mem_cons.mpr ⟨lw_p21, List.forall_mem_cons.mpr ⟨lw_p22, List.forall_mem_cons.mpr ⟨lw_p23, List.forall_mem_cons.mpr ⟨lw_p24, List.forall_mem_cons.mpr ⟨lw_p25, List.forall_mem_cons.mpr ⟨lw_p26, List.forall_mem_cons.mpr ⟨lw_p27, List.forall_mem_cons.mpr ⟨lw_p28, List.forall_mem_cons.mpr ⟨lw_p29, List.forall_mem_cons.mpr ⟨lw_p30, fun _ h => absurd h List.not_mem_nil⟩⟩⟩⟩⟩⟩⟩⟩⟩⟩⟩⟩⟩⟩⟩
def lw_privs : List (MethodName × Nat) := lw_privs_1 ++ (lw_privs_2)
def lw_tbl : List Cond := k2_sels lw_privs ++ tables_1
theorem lw_privs_ok : ∀ q ∈ lw_privs, lw_okq q := by
  show ∀ q ∈ lw_privs_1 ++ (lw_privs_2), lw_okq q
  exact List.forall_mem_append.mpr ⟨lw_r1, lw_r2⟩
/-- the streams that the claim lets the run draw from -/
abbrev lw_cs : List Choice := [Jvm.Choice.named "NaN.bits"]
theorem lw_bits : nanBits ∈ lw_cs := by first | decide | exact List.mem_cons_self | simp [lw_cs, nanBits]
end
section
/-! ===== BEGIN words of one list among another's, by their places ===== -/
theorem goodIn_r {big : List Cond} (ws : List Cond) (ps : List Nat) (hp : ws = ps.filterMap (fun i => big[i]?)) (h : ws.all goodWord = true) : GoodIn big ws := by
  intro w hw
  have h1 := List.all_eq_true.mp h w hw
  rw [hp] at hw
  obtain ⟨i, -, hi⟩ := List.mem_filterMap.mp hw
  have hm : w ∈ big := by first | exact List.mem_of_getElem? hi | exact List.getElem?_mem hi
  exact ⟨hm, good_of_word h1⟩
theorem goodIn_app {big a b : List Cond} (ha : GoodIn big a) (hb : GoodIn big b) : GoodIn big (a ++ b) := fun w h => (List.mem_append.mp h).elim (ha w) (hb w)
theorem goodIn_ca {big a b : List Cond} {c : Cond} (ha : GoodIn big (c :: a)) (hb : GoodIn big b) : GoodIn big (c :: (a ++ b)) := fun w h => (List.mem_cons.mp h).elim (fun e => ha w (List.mem_cons.mpr (Or.inl e))) (fun h => (List.mem_append.mp h).elim (fun h => ha w (List.mem_cons.mpr (Or.inr h))) (hb w))
theorem goodIn_sub {big ws : List Cond} (hm : ∀ w ∈ ws, w ∈ big) (h : ws.all goodWord = true) : GoodIn big ws := fun w hw => ⟨hm w hw, good_of_word (List.all_eq_true.mp h w hw)⟩
/-! ===== END ===== -/
/-! ===== BEGIN exceptions that leave a method, and their catching by the caller (launches without stack traces) ===== -/
section VXA
/-! The laws vx_back, vx_callV, vx_callS, vx_callSW, vx_throw0, vx_throwS follow proofs of the library, with one case more: JvmDerived/Free/Laws.lean (Back.of_free), Shelf42/LK1.lean (callV, callS), Shelf/KitTraced.lean (throwNew0V, throwNewS). -/
/-- where a method has thrown q: the class by its name, the cell, what was written, the world -/
def vx_T (XC : String → State → State → Prop) (st : State) (q : Addr) (t : State) (mc ms : Nat) (free : Addr → Prop) : Prop :=
  ∃ (E : String) (ce : Cell) (L : List Loc), XC E st t ∧ t.heap[q]? = some ce ∧ ce.vm = .none ∧ st.vm.findClass E = some ce.cls ∧ st.WarmedH t.vm ∧ st.sameButNew ({ t with vm := st.vm } : State) L mc ms ∧ ∀ z ∈ L, free z.base
def vx_Q (Qc : Array Value → State → Outcome → State → Prop) (XC : String → State → State → Prop) (mc ms : Nat) (free : Addr → Prop) : Array Value → State → Outcome → State → Prop := fun a st o t =>
  (Qc a st o t ∧ ∃ L, FrameEnd st o t L mc ms ∧ ∀ q ∈ L, free q.base) ∨ ∃ q, o = .threw q ∧ vx_T XC st q t mc ms free
/-- a callee that returns or throws -/
def vx_Met (l : Launch) (y : MethodName) (ws : List Cond) (rm : Room) (Pc : Array Value → State → Prop) (Qc : Array Value → State → Outcome → State → Prop) (XC : String → State → State → Prop) (mc ms : Nat) (free : Addr → Prop) : Prop :=
  MetFree l y (headSpec ws rm) Pc (fun _ _ _ _ _ => True) (vx_Q Qc XC mc ms free)
def vx_Post (XC : String → State → State → Prop) (mc ms : Nat) (free : Addr → Prop) : Pt → Array Value → Addr → Pt → Prop := fun A a q B =>
  ∃ (g : JFrame) (mk : MethodId) (t : State) (L : List Loc) (E : String) (ce : Cell), B.U.heap = t.heap ∧ B.U.vm = t.vm ∧ XC E (A.U.calling g mk a) t ∧ t.heap[q]? = some ce ∧ ce.vm = .none ∧ A.U.vm.findClass E = some ce.cls ∧ B.locs = A.locs ++ L ∧ (∀ z ∈ L, free z.base) ∧ B.cells = A.cells + mc ∧ B.slots = A.slots + ms
def vx_Back (l : Launch) (R : Room) (p : Program) (e : Env) (below : List Frame) (s : State) (sargs : Array Value) (y : MethodName) (len W9 : Nat)
    (Pre : Pt → Array Value → Prop) (Post : Pt → Array Value → Option Value → Pt → Prop) (PostX : Pt → Array Value → Addr → Pt → Prop) : Prop :=
  ∀ (m : MethodId) (meth : Method) (c : Code) (A : Pt) (g : JFrame) (ig : Instr) (mk : MethodId) (a : Array Value),
    Stand p l e R s m sargs below meth c A.U A.locs A.cells A.slots → g.method = m → g.locals.size = c.maxLocals → decode c.code g.pc = .ok (ig, len) →
    2 * g.monitorRoom + (g.stack.map fun v => v.category).sum ≤ W9 → A.U.methodNamed? y = some mk → Pre A a →
    (∃ (v : Option Value) (B : Pt), Stand p l e R s m sargs below meth c B.U B.locs B.cells B.slots ∧ Post A a v B ∧
      Steps p.tables e below (doInvoke e (A.U.setTop g) [] mk a).1 (B.U.setTop { g with pc := g.pc + len, stack := v.toList ++ g.stack })) ∨
    (∃ (q : Addr) (B : Pt), Stand p l e R s m sargs below meth c B.U B.locs B.cells B.slots ∧ PostX A a q B ∧
      Steps p.tables e below (doInvoke e (A.U.setTop g) [] mk a).1 ((B.U.setTop g).pushFrame (.throwing q)))
section Payer
variable {l : Launch} {R : Room} {p : Program} {e : Env} {below : List Frame} {s : State} {sargs : Array Value} {y : MethodName} {len W9 : Nat}
theorem vx_back {ws : List Cond} {rm : Room} {Pc : Array Value → State → Prop} {Qc : Array Value → State → Outcome → State → Prop} {XC : String → State → State → Prop} {mc ms : Nat} {free : Addr → Prop} {bytes : ByteArray} {maxL : Nat} {ret : Option FieldType}
    (hM : vx_Met l y ws rm Pc Qc XC mc ms free) (hblind : FrameBlind Pc) (hrc : rm.cells = mc) (hrs : rm.slots = ms)
    (hframes : rm.frames + 1 ≤ R.frames) (hlocals : W9 + (maxL + 11) + rm.locals ≤ R.locals)
    (hws : ∀ w ∈ ws, ∀ a' U, s.WarmedH U.vm → w.before a' U = true) (hcode : Cond.code y bytes maxL ret ∈ ws) (hinit : ∀ a' U, s.WarmedH U.vm → (Cond.initialized y.cls).before a' U = true) :
    vx_Back l R p e below s sargs y len W9 (PreOf R mc ms Pc) (PostOf Qc mc ms free) (vx_Post XC mc ms free) := by
  intro m meth c A g ig mk a X hg hsize hdg hW hn hp
  have h1 : (headSpec ws rm).pre.before a A.U = true := atoms_intro fun w hw => hws w hw _ _ X.warmed
  have h2 : (Cond.code y bytes maxL ret).before a A.U = true := hws _ hcode _ _ X.warmed
  have h3 : (Cond.initialized y.cls).before a A.U = true := hinit _ _ X.warmed
  have h4 : A.cells + (headSpec ws rm).room.cells ≤ R.cells := by rw [show (headSpec ws rm).room.cells = mc from hrc]; exact hp.1
  have h5 : A.slots + (headSpec ws rm).room.slots ≤ R.slots := by rw [show (headSpec ws rm).room.slots = ms from hrs]; exact hp.2.1
  have hPc : Pc a (A.U.calling g mk a) := hblind _ _ _ _ hp.2.2
  obtain ⟨U, Ls, c0, s0⟩ := A
  dsimp only [Pt.U, Pt.locs, Pt.cells, Pt.slots] at h1 h2 h3 h4 h5 X hn hPc ⊢
  obtain ⟨methY, cY, hmY, hcY, -, hlY, -, -, -, -⟩ := Cond.code_spec hn h2
  obtain ⟨kY, hkY, -⟩ := className_of_methodNamed hn
  have hinitY : kY.init = .initialized := Cond.initialized_spec (findClass_of_methodNamed hn) hkY h3
  have h : At U g.method c below := by rw [hg]; exact X.here
  have hlocals9 : W9 + (maxL + 11) + (headSpec ws rm).room.locals ≤ R.locals := hlocals
  have happ : (headSpec ws rm).appliesLoose y e.platform (U.calling g mk a) = true :=
    Spec.appliesLoose_calling (g := g) h hdg hn hkY hinitY
      (X.room_calling (g := g) (R' := (headSpec ws rm).room) hsize hmY hcY hframes (by rw [hlY]; omega) h4 h5) h1
  obtain ⟨mid, hmid⟩ := h.above
  have hfr : (U.setTop g).frames = (.java g :: mid) ++ below := by rw [State.frames_setTop' g h.top, hmid]; rfl
  obtain ⟨o, s₂, hsteps, -, hend, hq⟩ := Steps.callFree hM p X.admits X.cas X.clock (acts := []) hfr happ hPc trivial
  have hq' : vx_Q Qc XC mc ms free a (U.calling g mk a) o s₂ := hq
  rw [State.frames_setTop' g h.top] at hend
  obtain ⟨g₀, hg0⟩ := Option.isSome_iff_exists.mp h.top
  obtain ⟨r, hr⟩ := State.topJava?_eq_some.mp hg0
  have hr' : (({ U with heap := s₂.heap, slotsUsed := s₂.slotsUsed } : State).setVm s₂.vm).frames = .java g₀ :: r := hr
  rcases hq' with ⟨hqc, L, hfe, hL⟩ | ⟨q, rfl, E, ce, L, hx, hce, hcv, hcl, hW₂, hsm, hL⟩
  · obtain ⟨⟨v, rfl⟩, hW₂, e2, q2, q3, q4, q5, q6⟩ := id hfe
    have e3 : s₂ = ({ (U.calling g mk a).setFrames s₂.frames with heap := s₂.heap, slotsUsed := s₂.slotsUsed } : State).setVm s₂.vm := by
      have : s₂ = ({ s₂ with vm := (U.calling g mk a).vm } : State).setVm s₂.vm := rfl
      rw [e2] at this
      exact this
    obtain ⟨c₂, i₂, len₂, hc₂, hd₂, hf₂⟩ := hend
    have hW' : U.WarmedH s₂.vm := hW₂
    have hcc : c₂ = c := by
      have h1 : s₂.code? g.method = U.code? g.method := by
        rw [State.code?_eq, State.code?_eq, hW'.alike.method?]
      exact Option.some.inj (hc₂.symm.trans (h1.trans h.code))
    subst hcc
    have hlen : len₂ = len := by rw [hdg] at hd₂; cases hd₂; rfl
    subst hlen
    have hs₂ : s₂ = (({ U with heap := s₂.heap, slotsUsed := s₂.slotsUsed } : State).setVm s₂.vm).setTop { g with pc := g.pc + len₂, stack := v.toList ++ g.stack } := by
      refine e3.trans ?_
      rw [hf₂, State.calling_eq h.top, State.setFrames_setFrames, State.setTop_of_frames _ hr', hr]
      rfl
    have hsame : U.sameButNew ({ U with heap := s₂.heap, slotsUsed := s₂.slotsUsed } : State) L mc ms := by
      refine ⟨?_, q2, q3, q4, q5, q6⟩
      obtain ⟨t, ht, -⟩ := State.frames_cons hr
      show ({ U with heap := s₂.heap, slotsUsed := s₂.slotsUsed } : State) = { U.setFrames U.frames with heap := s₂.heap, slotsUsed := s₂.slotsUsed }
      rw [State.setFrames_self ht]
    subst hg
    refine Or.inl ⟨v, ⟨(({ U with heap := s₂.heap, slotsUsed := s₂.slotsUsed } : State).setVm s₂.vm), Ls ++ L, c0 + mc, s0 + ms⟩,
      ⟨X.admits, X.cas, X.clock, X.frames, X.room, X.hears, X.method, X.code, (X.here.setHeapUsed s₂.heap s₂.slotsUsed).setVm hW'.alike, X.tail, State.WarmedH.trans X.warmed hW', X.limits, X.bytes, X.same.trans (hsame.setVm s.vm)⟩,
      ⟨g, mk, s₂, L, rfl, rfl, hqc, rfl, hL, rfl, rfl⟩, ?_⟩
    show Steps p.tables e below _ ((({ U with heap := s₂.heap, slotsUsed := s₂.slotsUsed } : State).setVm s₂.vm).setTop { g with pc := g.pc + len₂, stack := v.toList ++ g.stack })
    rw [← hs₂]
    exact hsteps
  · obtain ⟨e2, q2, q3, q4, q5, q6⟩ := id hsm
    have e3 : s₂ = ({ (U.calling g mk a).setFrames s₂.frames with heap := s₂.heap, slotsUsed := s₂.slotsUsed } : State).setVm s₂.vm := by
      have : s₂ = ({ s₂ with vm := (U.calling g mk a).vm } : State).setVm s₂.vm := rfl
      rw [e2] at this
      exact this
    have hf₂ : s₂.frames = .throwing q :: .java g :: U.frames.tail := hend
    have hW' : U.WarmedH s₂.vm := hW₂
    have hs₂ : s₂ = ((({ U with heap := s₂.heap, slotsUsed := s₂.slotsUsed } : State).setVm s₂.vm).setTop g).pushFrame (.throwing q) := by
      refine e3.trans ?_
      rw [hf₂, State.calling_eq h.top, State.setFrames_setFrames, State.pushFrame, State.frames_setTop _ hr', State.setTop_of_frames _ hr', State.setFrames_setFrames, hr]
      rfl
    have hsame : U.sameButNew ({ U with heap := s₂.heap, slotsUsed := s₂.slotsUsed } : State) L mc ms := by
      refine ⟨?_, q2, q3, q4, q5, q6⟩
      obtain ⟨t, ht, -⟩ := State.frames_cons hr
      show ({ U with heap := s₂.heap, slotsUsed := s₂.slotsUsed } : State) = { U.setFrames U.frames with heap := s₂.heap, slotsUsed := s₂.slotsUsed }
      rw [State.setFrames_self ht]
    subst hg
    refine Or.inr ⟨q, ⟨(({ U with heap := s₂.heap, slotsUsed := s₂.slotsUsed } : State).setVm s₂.vm), Ls ++ L, c0 + mc, s0 + ms⟩,
      ⟨X.admits, X.cas, X.clock, X.frames, X.room, X.hears, X.method, X.code, (X.here.setHeapUsed s₂.heap s₂.slotsUsed).setVm hW'.alike, X.tail, State.WarmedH.trans X.warmed hW', X.limits, X.bytes, X.same.trans (hsame.setVm s.vm)⟩,
      ⟨g, mk, s₂, L, E, ce, rfl, rfl, hx, hce, hcv, hcl, rfl, hL, rfl, rfl⟩, ?_⟩
    show Steps p.tables e below _ (((({ U with heap := s₂.heap, slotsUsed := s₂.slotsUsed } : State).setVm s₂.vm).setTop g).pushFrame (.throwing q))
    rw [← hs₂]
    exact hsteps
end Payer
section Calls
variable {p : Program} {l : Launch} {e : Env} {R : Room} {s : State} {m : MethodId} {args : Array Value} {below : List Frame} {meth : Method} {c : Code} {T : State} {locs : List Loc} {cells slots : Nat}
theorem vx_callV (X : Stand p l e R s m args below meth c T locs cells slots) (hexec : p.tables.exec = Jvm.exec) {own C : String} {index : Nat} {y : MethodName} {bytes : ByteArray} {maxL : Nat} {ret : Option FieldType}
    (hown : s.vm.findClass own = some m.cls) (hlink : (Cond.methodLink own index y).before args s = true) (hinst : (Cond.instanceMethod y).before args s = true) (hsel : (Cond.selects C y y).before args s = true)
    (hcode : (Cond.code y bytes maxL ret).before args s = true) (hy : y.cls ≠ "java/lang/invoke/MethodHandle" ∧ y.cls ≠ "java/lang/invoke/VarHandle")
    {W9 : Nat} {Pre : Pt → Array Value → Prop} {Post : Pt → Array Value → Option Value → Pt → Prop} {PostX : Pt → Array Value → Addr → Pt → Prop} (hK : vx_Back l R p e below s args y 3 W9 Pre Post PostX)
    {b : Addr} {cellB : Cell} (hcell : T.heap[b]? = some cellB) (hobj : cellB.vm.isStatics = false) (hcls : s.vm.findClass C = some cellB.cls)
    {g : JFrame} (hg : g.method = m) (hsize : g.locals.size = c.maxLocals) {argsL rest : List Value} (hlen : ∀ sig, parseMethodDescriptor y.desc = some sig → argsL.length = sig.parameters.length)
    (hstack : g.stack = argsL.reverse ++ .ref b :: rest) (hW : 2 * g.monitorRoom + (rest.map fun v => v.category).sum ≤ W9) (hdg : decode c.code g.pc = .ok (.invokevirtual index, 3))
    (hpre : ∀ vm₁, s.WarmedH vm₁ → Pre ⟨T.setVm vm₁, locs, cells, slots⟩ (Value.ref b :: argsL).toArray) :
    (∃ (v : Option Value) (vm₁ : Vm) (B : Pt), s.WarmedH vm₁ ∧ Stand p l e R s m args below meth c B.U B.locs B.cells B.slots ∧ Post ⟨T.setVm vm₁, locs, cells, slots⟩ (Value.ref b :: argsL).toArray v B ∧
      ∀ target, Steps p.tables e below (B.U.setTop { g with pc := g.pc + 3, stack := v.toList ++ rest }) target → Steps p.tables e below (T.setTop g) target) ∨
    (∃ (q : Addr) (vm₁ : Vm) (B : Pt), s.WarmedH vm₁ ∧ Stand p l e R s m args below meth c B.U B.locs B.cells B.slots ∧ PostX ⟨T.setVm vm₁, locs, cells, slots⟩ (Value.ref b :: argsL).toArray q B ∧
      Steps p.tables e below (T.setTop g) ((B.U.setTop { g with stack := rest }).pushFrame (.throwing q))) := by
  obtain ⟨mk, methM, hnamed, hmethM, hstM, habM⟩ := Cond.instanceMethod_spec hinst
  obtain ⟨methM', cM, hmethM', -, -, -, -, -, -, hsigM⟩ := Cond.code_spec hnamed hcode
  cases hmethM.symm.trans hmethM'
  obtain ⟨c2, r2, m2, q1, q2, q3, q4, kP, hkP, hkPi⟩ := Cond.selects_spec hsel
  cases hcls.symm.trans q1
  cases (State.methodFound?_of_named hnamed hy).symm.trans q2
  cases hnamed.symm.trans q3
  have hselP : selectMethod e.platform s.vm cellB.cls mk = .method mk := by rw [Launch.admits_selectMethod X.admits]; exact q4
  obtain ⟨vm₁, X₁, hstep₁⟩ := X.invokevirtual hexec hown hlink hnamed hmethM hstM hkP hkPi hy (a := b) (cell := cellB) hcell
    (fun z h => by rw [h] at hobj; cases hobj) hselP hmethM habM hkP hkPi (g := g) hg (argsL := argsL) (rest := rest) (hlen _ hsigM) hstack hdg
  rcases hK m meth c ⟨T.setVm vm₁, locs, cells, slots⟩ { g with stack := rest } (.invokevirtual index) mk (Value.ref b :: argsL).toArray X₁ hg hsize hdg hW (X₁.named hnamed) (hpre vm₁ X₁.warmed) with ⟨v, B, X', hpost, hsteps⟩ | ⟨q, B, X', hpost, hsteps⟩
  · exact Or.inl ⟨v, vm₁, B, X₁.warmed, X', hpost, fun target h => hstep₁ _ fun acts => by rw [doInvoke_state]; exact hsteps.trans h⟩
  · exact Or.inr ⟨q, vm₁, B, X₁.warmed, X', hpost, hstep₁ _ fun acts => by rw [doInvoke_state]; exact hsteps⟩
theorem vx_callS (X : Stand p l e R s m args below meth c T locs cells slots) (hexec : p.tables.exec = Jvm.exec) {own : String} {index : Nat} {y : MethodName} {bytes : ByteArray} {maxL : Nat} {ret : Option FieldType}
    (hown : s.vm.findClass own = some m.cls) (hlink : (Cond.methodLink own index y).before args s = true) (hstat : (Cond.static y).before args s = true) (hinit : (Cond.initialized y.cls).before args s = true)
    (hcode : (Cond.code y bytes maxL ret).before args s = true) (hy : y.cls ≠ "java/lang/invoke/MethodHandle" ∧ y.cls ≠ "java/lang/invoke/VarHandle")
    {W9 : Nat} {Pre : Pt → Array Value → Prop} {Post : Pt → Array Value → Option Value → Pt → Prop} {PostX : Pt → Array Value → Addr → Pt → Prop} (hK : vx_Back l R p e below s args y 3 W9 Pre Post PostX)
    {g : JFrame} (hg : g.method = m) (hsize : g.locals.size = c.maxLocals) {argsL rest : List Value} (hlen : ∀ sig, parseMethodDescriptor y.desc = some sig → argsL.length = sig.parameters.length)
    (hstack : g.stack = argsL.reverse ++ rest) (hW : 2 * g.monitorRoom + (rest.map fun v => v.category).sum ≤ W9) (hdg : decode c.code g.pc = .ok (.invokestatic index, 3))
    (hpre : ∀ vm₁, s.WarmedH vm₁ → Pre ⟨T.setVm vm₁, locs, cells, slots⟩ argsL.toArray) :
    (∃ (v : Option Value) (vm₁ : Vm) (B : Pt), s.WarmedH vm₁ ∧ Stand p l e R s m args below meth c B.U B.locs B.cells B.slots ∧ Post ⟨T.setVm vm₁, locs, cells, slots⟩ argsL.toArray v B ∧
      ∀ target, Steps p.tables e below (B.U.setTop { g with pc := g.pc + 3, stack := v.toList ++ rest }) target → Steps p.tables e below (T.setTop g) target) ∨
    (∃ (q : Addr) (vm₁ : Vm) (B : Pt), s.WarmedH vm₁ ∧ Stand p l e R s m args below meth c B.U B.locs B.cells B.slots ∧ PostX ⟨T.setVm vm₁, locs, cells, slots⟩ argsL.toArray q B ∧
      Steps p.tables e below (T.setTop g) ((B.U.setTop { g with stack := rest }).pushFrame (.throwing q))) := by
  obtain ⟨mk, hnamed⟩ := Cond.code_named hcode
  obtain ⟨methM, cM, hmethM, -, -, -, -, -, -, hsigM⟩ := Cond.code_spec hnamed hcode
  have hstatic : methM.isStatic = true := Cond.static_spec hnamed hmethM hstat
  obtain ⟨kP, hkP, -⟩ := className_of_methodNamed hnamed
  have hinitP : kP.init = .initialized := Cond.initialized_spec (findClass_of_methodNamed hnamed) hkP hinit
  obtain ⟨vm₁, X₁, hstep₁⟩ := X.invokestatic hexec hown hlink hnamed hmethM hstatic hkP hinitP hy (g := g) hg (argsL := argsL) (rest := rest) (hlen _ hsigM) hstack hdg
  rcases hK m meth c ⟨T.setVm vm₁, locs, cells, slots⟩ { g with stack := rest } (.invokestatic index) mk argsL.toArray X₁ hg hsize hdg hW (X₁.named hnamed) (hpre vm₁ X₁.warmed) with ⟨v, B, X', hpost, hsteps⟩ | ⟨q, B, X', hpost, hsteps⟩
  · exact Or.inl ⟨v, vm₁, B, X₁.warmed, X', hpost, fun target h => hstep₁ _ fun acts => by rw [doInvoke_state]; exact hsteps.trans h⟩
  · exact Or.inr ⟨q, vm₁, B, X₁.warmed, X', hpost, hstep₁ _ fun acts => by rw [doInvoke_state]; exact hsteps⟩
end Calls
theorem vx_cls {s : State} {T : State} {vm₁ : Vm} {E : String} {k : ClassId} (hW : s.WarmedH vm₁) (h : (T.setVm vm₁).vm.findClass E = some k) : s.vm.findClass E = some k := by
  have h1 : vm₁.findClass E = some k := h
  rw [hW.alike.findClass] at h1
  exact h1
/-- the method's frame g, with q thrown over it -/
def vx_W (p : Program) (l : Launch) (e : Env) (R : Room) (s : State) (m : MethodId) (args : Array Value) (below : List Frame) (meth : Method) (c : Code) (H : Heap) (locs : List Loc) (cells slots : Nat) (Q : State → Prop) (g : JFrame) (q : Addr) : Prop :=
  ∀ T : State, T.heap = H → Stand p l e R s m args below meth c T locs cells slots → ∃ t, Steps p.tables e below ((T.setTop g).pushFrame (.throwing q)) t ∧ Q t
def vx_Run (p : Program) (l : Launch) (e : Env) (R : Room) (s : State) (m : MethodId) (args : Array Value) (below : List Frame) (meth : Method) (c : Code) (H : Heap) (locs : List Loc) (cells slots mc ms : Nat) (g : JFrame) (rest : List Value) (Qa : State → Outcome → State → Prop) (XC : String → State → State → Prop) (free : Addr → Prop) : Prop :=
  ∀ T : State, T.heap = H → Stand p l e R s m args below meth c T locs cells slots →
    (∃ (v : Option Value) (st₀ t T' : State) (L : List Loc), st₀.heap = H ∧ Stand p l e R s m args below meth c T' (locs ++ L) (cells + mc) (slots + ms) ∧ (∀ q ∈ L, free q.base) ∧ T'.heap = t.heap ∧ T'.vm = t.vm ∧ Qa st₀ (.returned v) t ∧
      Goes p e below T g T' { g with pc := g.pc + 3, stack := v.toList ++ rest }) ∨
    (∃ (q : Addr) (st₀ t T' : State) (L : List Loc) (E : String) (ce : Cell), st₀.heap = H ∧ Stand p l e R s m args below meth c T' (locs ++ L) (cells + mc) (slots + ms) ∧ (∀ z ∈ L, free z.base) ∧ T'.heap = t.heap ∧ T'.vm = t.vm ∧ XC E st₀ t ∧ t.heap[q]? = some ce ∧ ce.vm = .none ∧ s.vm.findClass E = some ce.cls ∧
      Steps p.tables e below (T.setTop g) ((T'.setTop { g with stack := rest }).pushFrame (.throwing q)))
def vx_X {S : Type} (px : S → Prop) (B : String → S → State → Prop) (A : Nat → Prop) : String → State → State → Prop := fun E st t => ∃ u : S, px u ∧ B E u t ∧ va_F A st t
section Runs
variable {p : Program} {l : Launch} {e : Env} {R : Room} {s : State} {m : MethodId} {args : Array Value} {below : List Frame} {meth : Method} {c : Code} {H : Heap} {locs : List Loc} {cells slots : Nat}
variable {y : MethodName} {bytes cc : ByteArray} {maxL nL mc ms n index : Nat} {ret : Option FieldType} {ws : List Cond} {rm : Room} {Pc : Array Value → State → Prop} {Qc : Array Value → State → Outcome → State → Prop} {XC : String → State → State → Prop} {free : Addr → Prop} {Ts : List Cond} {own C : String} {b : Addr} {As rest : List Value} {g : JFrame}
theorem vx_callBack (cb : CallB R s args own index y bytes maxL ret ws rm mc ms n) (hM : vx_Met l y ws rm Pc Qc XC mc ms free) (hbl : FrameBlind Pc) : vx_Back l R p e below s args y 3 8 (PreOf R mc ms Pc) (PostOf Qc mc ms free) (vx_Post XC mc ms free) := by
  obtain ⟨hrc, hrs, hfr, hlo, hws, hcw, -, hini, -⟩ := cb
  exact vx_back (bytes := bytes) (maxL := maxL) (ret := ret) hM hbl hrc hrs hfr hlo hws hcw (fun a' U hW => word_at hW (Or.inl (by first | rfl | simp [Cond.onTables, Cond.keeps, Cond.steady])) hini)
theorem vx_runV (S : CallFix p m c cc nL s args Ts own) (hM : vx_Met l y ws rm Pc Qc XC mc ms free) (cw : CallW R s args own C index y bytes maxL ret ws rm mc ms n) (hp : PreV s H C b Pc As)
    (hg : g.method = m) (hn : As.length = n) (hsize : g.locals.size = nL) (hstack : g.stack = As.reverse ++ .ref b :: rest) (hW : 2 * g.monitorRoom + (rest.map fun v => v.category).sum ≤ 8) (hdg : decode cc g.pc = .ok (.invokevirtual index, 3)) (hf : cells + mc ≤ R.cells ∧ slots + ms ≤ R.slots) :
    vx_Run p l e R s m args below meth c H locs cells slots mc ms g rest (Qc (Value.ref b :: As).toArray) XC free := by
  have hK : vx_Back l R p e below s args y 3 8 (PreOf R mc ms Pc) (PostOf Qc mc ms free) (vx_Post XC mc ms free) := vx_callBack cw.1 hM hp.1
  obtain ⟨⟨-, -, -, -, -, -, hcode, -, hy, hlen, hl⟩, hin, hse⟩ := cw
  obtain ⟨hx, hb, hml, ho, -⟩ := S
  obtain ⟨-, ⟨cellB, hcB, hoB, hclB⟩, hPc⟩ := hp
  intro T hT X
  rcases vx_callV X hx (C := C) (bytes := bytes) (maxL := maxL) (ret := ret) ho hl hin hse hcode hy hK (by rw [hT]; exact hcB) hoB hclB hg (hsize.trans hml.symm) (argsL := As) (rest := rest) (fun sig h => hn.trans (hlen sig h)) hstack hW (by rw [hb]; exact hdg)
    (fun vm₁ hW₁ => ⟨hf.1, hf.2, hPc (T.setVm vm₁) hT hW₁⟩) with ⟨v, vm₁, ⟨U', l2, c2, s2⟩, hW₁, X', ⟨g', mk, t, L, e1, e2, hq, h1, hL, h2, h3⟩, st⟩ | ⟨q, vm₁, ⟨U', l2, c2, s2⟩, hW₁, X', ⟨g', mk, t, L, E, ce, e1, e2, hq, hce, hcv, hcl, h1, hL, h2, h3⟩, st⟩
  · dsimp only [Pt.U, Pt.locs, Pt.cells, Pt.slots] at X' e1 e2 h1 h2 h3 st
    subst h1; subst h2; subst h3
    exact Or.inl ⟨v, (T.setVm vm₁).calling g' mk (Value.ref b :: As).toArray, t, U', L, hT, X', hL, e1, e2, hq, st⟩
  · dsimp only [Pt.U, Pt.locs, Pt.cells, Pt.slots] at X' e1 e2 h1 h2 h3 st hcl
    subst h1; subst h2; subst h3
    exact Or.inr ⟨q, (T.setVm vm₁).calling g' mk (Value.ref b :: As).toArray, t, U', L, E, ce, hT, X', hL, e1, e2, hq, hce, hcv, vx_cls hW₁ hcl, st⟩
theorem vx_runS (S : CallFix p m c cc nL s args Ts own) (hM : vx_Met l y ws rm Pc Qc XC mc ms free) (cw : CallB R s args own index y bytes maxL ret ws rm mc ms n ∧ (Cond.static y).before args s = true) (hp : PreS s H Pc As)
    (hg : g.method = m) (hn : As.length = n) (hsize : g.locals.size = nL) (hstack : g.stack = As.reverse ++ rest) (hW : 2 * g.monitorRoom + (rest.map fun v => v.category).sum ≤ 8) (hdg : decode cc g.pc = .ok (.invokestatic index, 3)) (hf : cells + mc ≤ R.cells ∧ slots + ms ≤ R.slots) :
    vx_Run p l e R s m args below meth c H locs cells slots mc ms g rest (Qc As.toArray) XC free := by
  have hK : vx_Back l R p e below s args y 3 8 (PreOf R mc ms Pc) (PostOf Qc mc ms free) (vx_Post XC mc ms free) := vx_callBack cw.1 hM hp.1
  obtain ⟨⟨-, -, -, -, -, -, hcode, hini, hy, hlen, hl⟩, hstt⟩ := cw
  obtain ⟨hx, hb, hml, ho, -⟩ := S
  intro T hT X
  rcases vx_callS X hx (bytes := bytes) (maxL := maxL) (ret := ret) ho hl hstt hini hcode hy hK hg (hsize.trans hml.symm) (argsL := As) (rest := rest) (fun sig h => hn.trans (hlen sig h)) hstack hW (by rw [hb]; exact hdg)
    (fun vm₁ hW₁ => ⟨hf.1, hf.2, hp.2 (T.setVm vm₁) hT hW₁⟩) with ⟨v, vm₁, ⟨U', l2, c2, s2⟩, hW₁, X', ⟨g', mk, t, L, e1, e2, hq, h1, hL, h2, h3⟩, st⟩ | ⟨q, vm₁, ⟨U', l2, c2, s2⟩, hW₁, X', ⟨g', mk, t, L, E, ce, e1, e2, hq, hce, hcv, hcl, h1, hL, h2, h3⟩, st⟩
  · dsimp only [Pt.U, Pt.locs, Pt.cells, Pt.slots] at X' e1 e2 h1 h2 h3 st
    subst h1; subst h2; subst h3
    exact Or.inl ⟨v, (T.setVm vm₁).calling g' mk As.toArray, t, U', L, hT, X', hL, e1, e2, hq, st⟩
  · dsimp only [Pt.U, Pt.locs, Pt.cells, Pt.slots] at X' e1 e2 h1 h2 h3 st hcl
    subst h1; subst h2; subst h3
    exact Or.inr ⟨q, (T.setVm vm₁).calling g' mk As.toArray, t, U', L, E, ce, hT, X', hL, e1, e2, hq, hce, hcv, vx_cls hW₁ hcl, st⟩
end Runs
section Rows
variable {p : Program} {l : Launch} {e : Env} {R : Room} {s : State} {m : MethodId} {args : Array Value} {below : List Frame} {meth : Method} {c : Code} {H : Heap} {locs : List Loc} {cells slots : Nat} {Q : State → Prop}
variable {mc ms : Nat} {free : Addr → Prop} {A0 A1 : Nat → Prop} {H0 : Heap} {a : Array Value} {pc : Nat} {ls : Array Slot} {st0 rest : List Value}
theorem vx_keep {st₀ t T' : State} {L : List Loc} (h0 : st₀.heap = H) (e1 : T'.heap = t.heap) (hS : va_S A0 H0 H locs) (hA : ∀ q, q < H.size → A1 q → A0 q) (hf : ∀ q, free q → A0 q) (hL : ∀ q ∈ L, free q.base) (hF : va_F A1 st₀ t) :
    H.size ≤ T'.heap.size ∧ (∀ q : Nat, q < H.size → ¬ A1 q → T'.heap[q]? = H[q]?) ∧ va_S A0 H0 T'.heap (locs ++ L) := by
  obtain ⟨hz, hk⟩ := hF
  rw [h0] at hz hk
  exact ⟨by rw [e1]; exact hz, fun q h1 h2 => by rw [e1]; exact hk q h1 h2,
    ⟨Nat.le_trans hS.1 (by rw [e1]; exact hz), fun q h1 h2 => by rw [e1, hk q (Nat.lt_of_lt_of_le h1 hS.1) (fun z => h2 (hA q (Nat.lt_of_lt_of_le h1 hS.1) z))]; exact hS.2.1 q h1 h2, fun q hq => by
      rcases List.mem_append.mp hq with h | h
      · exact hS.2.2 q h
      · exact hf _ (hL q h)⟩⟩
theorem vx_calli {S SX : Type} {post : Int32 → S → Prop} {px : SX → Prop} {B : S → State → Prop} {BX : String → SX → State → Prop} {AX : Nat → Prop} (hr : vx_Run p l e R s m args below meth c H locs cells slots mc ms (F0 m pc ls st0) rest (va_Qi post B A1 a) (vx_X px BX AX) free) (hS : va_S A0 H0 H locs) (hA : ∀ q, q < H.size → A1 q → A0 q) (hf : ∀ q, free q → A0 q) (hAX : ∀ q, q < H.size → AX q → A0 q)
    (kx : ∀ (E : String) (ce : Cell) (q9 : Addr) (u : SX) (t : State) (H1 : Heap) (locs1 : List Loc), t.heap = H1 → s.vm.Alike t.vm → px u → BX E u t → H.size ≤ H1.size → (∀ q : Nat, q < H.size → ¬ AX q → H1[q]? = H[q]?) → va_S A0 H0 H1 locs1 → H1[q9]? = some ce → ce.vm = .none → s.vm.findClass E = some ce.cls → vx_W p l e R s m args below meth c H1 locs1 (cells + mc) (slots + ms) Q (F0 m pc ls rest) q9)
    (kk : ∀ (r : Int32) (u : S) (t : State) (H1 : Heap) (locs1 : List Loc), t.heap = H1 → s.vm.Alike t.vm → post r u → B u t → H.size ≤ H1.size → (∀ q : Nat, q < H.size → ¬ A1 q → H1[q]? = H[q]?) → va_S A0 H0 H1 locs1 → W p l e R s m args below meth c H1 locs1 (cells + mc) (slots + ms) Q (F0 m (pc + 3) ls (.int r :: rest))) : W p l e R s m args below meth c H locs cells slots Q (F0 m pc ls st0) := by
  intro T hT X
  rcases hr T hT X with ⟨v, st₀, t, T', L, h0, X', hL, e1, e2, ⟨⟨r, u, hv, hp, hb⟩, hF⟩, st⟩ | ⟨q, st₀, t, T', L, E, ce, h0, X', hL, e1, e2, ⟨u, hp, hb, hF⟩, hce, hcv, hcl, st⟩
  · cases hv
    obtain ⟨k1, k2, k3⟩ := vx_keep h0 e1 hS hA hf hL hF
    obtain ⟨t2, a1, b1⟩ := kk r u t T'.heap (locs ++ L) e1.symm (by rw [← e2]; exact X'.warmed.alike) hp hb k1 k2 k3 T' rfl X'
    exact ⟨t2, st t2 a1, b1⟩
  · obtain ⟨k1, k2, k3⟩ := vx_keep h0 e1 hS hAX hf hL hF
    obtain ⟨t2, a1, b1⟩ := kx E ce q u t T'.heap (locs ++ L) e1.symm (by rw [← e2]; exact X'.warmed.alike) hp hb k1 k2 k3 (by rw [e1]; exact hce) hcv hcl T' rfl X'
    exact ⟨t2, st.trans a1, b1⟩
theorem vx_calll {S SX : Type} {post : Int64 → S → Prop} {px : SX → Prop} {B : S → State → Prop} {BX : String → SX → State → Prop} {AX : Nat → Prop} (hr : vx_Run p l e R s m args below meth c H locs cells slots mc ms (F0 m pc ls st0) rest (va_Ql post B A1 a) (vx_X px BX AX) free) (hS : va_S A0 H0 H locs) (hA : ∀ q, q < H.size → A1 q → A0 q) (hf : ∀ q, free q → A0 q) (hAX : ∀ q, q < H.size → AX q → A0 q)
    (kx : ∀ (E : String) (ce : Cell) (q9 : Addr) (u : SX) (t : State) (H1 : Heap) (locs1 : List Loc), t.heap = H1 → s.vm.Alike t.vm → px u → BX E u t → H.size ≤ H1.size → (∀ q : Nat, q < H.size → ¬ AX q → H1[q]? = H[q]?) → va_S A0 H0 H1 locs1 → H1[q9]? = some ce → ce.vm = .none → s.vm.findClass E = some ce.cls → vx_W p l e R s m args below meth c H1 locs1 (cells + mc) (slots + ms) Q (F0 m pc ls rest) q9)
    (kk : ∀ (r : Int64) (u : S) (t : State) (H1 : Heap) (locs1 : List Loc), t.heap = H1 → s.vm.Alike t.vm → post r u → B u t → H.size ≤ H1.size → (∀ q : Nat, q < H.size → ¬ A1 q → H1[q]? = H[q]?) → va_S A0 H0 H1 locs1 → W p l e R s m args below meth c H1 locs1 (cells + mc) (slots + ms) Q (F0 m (pc + 3) ls (.long r :: rest))) : W p l e R s m args below meth c H locs cells slots Q (F0 m pc ls st0) := by
  intro T hT X
  rcases hr T hT X with ⟨v, st₀, t, T', L, h0, X', hL, e1, e2, ⟨⟨r, u, hv, hp, hb⟩, hF⟩, st⟩ | ⟨q, st₀, t, T', L, E, ce, h0, X', hL, e1, e2, ⟨u, hp, hb, hF⟩, hce, hcv, hcl, st⟩
  · cases hv
    obtain ⟨k1, k2, k3⟩ := vx_keep h0 e1 hS hA hf hL hF
    obtain ⟨t2, a1, b1⟩ := kk r u t T'.heap (locs ++ L) e1.symm (by rw [← e2]; exact X'.warmed.alike) hp hb k1 k2 k3 T' rfl X'
    exact ⟨t2, st t2 a1, b1⟩
  · obtain ⟨k1, k2, k3⟩ := vx_keep h0 e1 hS hAX hf hL hF
    obtain ⟨t2, a1, b1⟩ := kx E ce q u t T'.heap (locs ++ L) e1.symm (by rw [← e2]; exact X'.warmed.alike) hp hb k1 k2 k3 (by rw [e1]; exact hce) hcv hcl T' rfl X'
    exact ⟨t2, st.trans a1, b1⟩
theorem vx_callf {S SX : Type} {post : UInt32 → S → Prop} {px : SX → Prop} {B : S → State → Prop} {BX : String → SX → State → Prop} {AX : Nat → Prop} (hr : vx_Run p l e R s m args below meth c H locs cells slots mc ms (F0 m pc ls st0) rest (va_Qf post B A1 a) (vx_X px BX AX) free) (hS : va_S A0 H0 H locs) (hA : ∀ q, q < H.size → A1 q → A0 q) (hf : ∀ q, free q → A0 q) (hAX : ∀ q, q < H.size → AX q → A0 q)
    (kx : ∀ (E : String) (ce : Cell) (q9 : Addr) (u : SX) (t : State) (H1 : Heap) (locs1 : List Loc), t.heap = H1 → s.vm.Alike t.vm → px u → BX E u t → H.size ≤ H1.size → (∀ q : Nat, q < H.size → ¬ AX q → H1[q]? = H[q]?) → va_S A0 H0 H1 locs1 → H1[q9]? = some ce → ce.vm = .none → s.vm.findClass E = some ce.cls → vx_W p l e R s m args below meth c H1 locs1 (cells + mc) (slots + ms) Q (F0 m pc ls rest) q9)
    (kk : ∀ (r : UInt32) (u : S) (t : State) (H1 : Heap) (locs1 : List Loc), t.heap = H1 → s.vm.Alike t.vm → post r u → B u t → H.size ≤ H1.size → (∀ q : Nat, q < H.size → ¬ A1 q → H1[q]? = H[q]?) → va_S A0 H0 H1 locs1 → W p l e R s m args below meth c H1 locs1 (cells + mc) (slots + ms) Q (F0 m (pc + 3) ls (.float r :: rest))) : W p l e R s m args below meth c H locs cells slots Q (F0 m pc ls st0) := by
  intro T hT X
  rcases hr T hT X with ⟨v, st₀, t, T', L, h0, X', hL, e1, e2, ⟨⟨r, u, hv, hp, hb⟩, hF⟩, st⟩ | ⟨q, st₀, t, T', L, E, ce, h0, X', hL, e1, e2, ⟨u, hp, hb, hF⟩, hce, hcv, hcl, st⟩
  · cases hv
    obtain ⟨k1, k2, k3⟩ := vx_keep h0 e1 hS hA hf hL hF
    obtain ⟨t2, a1, b1⟩ := kk r u t T'.heap (locs ++ L) e1.symm (by rw [← e2]; exact X'.warmed.alike) hp hb k1 k2 k3 T' rfl X'
    exact ⟨t2, st t2 a1, b1⟩
  · obtain ⟨k1, k2, k3⟩ := vx_keep h0 e1 hS hAX hf hL hF
    obtain ⟨t2, a1, b1⟩ := kx E ce q u t T'.heap (locs ++ L) e1.symm (by rw [← e2]; exact X'.warmed.alike) hp hb k1 k2 k3 (by rw [e1]; exact hce) hcv hcl T' rfl X'
    exact ⟨t2, st.trans a1, b1⟩
theorem vx_calld {S SX : Type} {post : UInt64 → S → Prop} {px : SX → Prop} {B : S → State → Prop} {BX : String → SX → State → Prop} {AX : Nat → Prop} (hr : vx_Run p l e R s m args below meth c H locs cells slots mc ms (F0 m pc ls st0) rest (va_Qd post B A1 a) (vx_X px BX AX) free) (hS : va_S A0 H0 H locs) (hA : ∀ q, q < H.size → A1 q → A0 q) (hf : ∀ q, free q → A0 q) (hAX : ∀ q, q < H.size → AX q → A0 q)
    (kx : ∀ (E : String) (ce : Cell) (q9 : Addr) (u : SX) (t : State) (H1 : Heap) (locs1 : List Loc), t.heap = H1 → s.vm.Alike t.vm → px u → BX E u t → H.size ≤ H1.size → (∀ q : Nat, q < H.size → ¬ AX q → H1[q]? = H[q]?) → va_S A0 H0 H1 locs1 → H1[q9]? = some ce → ce.vm = .none → s.vm.findClass E = some ce.cls → vx_W p l e R s m args below meth c H1 locs1 (cells + mc) (slots + ms) Q (F0 m pc ls rest) q9)
    (kk : ∀ (r : UInt64) (u : S) (t : State) (H1 : Heap) (locs1 : List Loc), t.heap = H1 → s.vm.Alike t.vm → post r u → B u t → H.size ≤ H1.size → (∀ q : Nat, q < H.size → ¬ A1 q → H1[q]? = H[q]?) → va_S A0 H0 H1 locs1 → W p l e R s m args below meth c H1 locs1 (cells + mc) (slots + ms) Q (F0 m (pc + 3) ls (.double r :: rest))) : W p l e R s m args below meth c H locs cells slots Q (F0 m pc ls st0) := by
  intro T hT X
  rcases hr T hT X with ⟨v, st₀, t, T', L, h0, X', hL, e1, e2, ⟨⟨r, u, hv, hp, hb⟩, hF⟩, st⟩ | ⟨q, st₀, t, T', L, E, ce, h0, X', hL, e1, e2, ⟨u, hp, hb, hF⟩, hce, hcv, hcl, st⟩
  · cases hv
    obtain ⟨k1, k2, k3⟩ := vx_keep h0 e1 hS hA hf hL hF
    obtain ⟨t2, a1, b1⟩ := kk r u t T'.heap (locs ++ L) e1.symm (by rw [← e2]; exact X'.warmed.alike) hp hb k1 k2 k3 T' rfl X'
    exact ⟨t2, st t2 a1, b1⟩
  · obtain ⟨k1, k2, k3⟩ := vx_keep h0 e1 hS hAX hf hL hF
    obtain ⟨t2, a1, b1⟩ := kx E ce q u t T'.heap (locs ++ L) e1.symm (by rw [← e2]; exact X'.warmed.alike) hp hb k1 k2 k3 (by rw [e1]; exact hce) hcv hcl T' rfl X'
    exact ⟨t2, st.trans a1, b1⟩
theorem vx_callv {S SX : Type} {post : S → Prop} {px : SX → Prop} {B : S → State → Prop} {BX : String → SX → State → Prop} {AX : Nat → Prop} (hr : vx_Run p l e R s m args below meth c H locs cells slots mc ms (F0 m pc ls st0) rest (va_Qv post B A1 a) (vx_X px BX AX) free) (hS : va_S A0 H0 H locs) (hA : ∀ q, q < H.size → A1 q → A0 q) (hf : ∀ q, free q → A0 q) (hAX : ∀ q, q < H.size → AX q → A0 q)
    (kx : ∀ (E : String) (ce : Cell) (q9 : Addr) (u : SX) (t : State) (H1 : Heap) (locs1 : List Loc), t.heap = H1 → s.vm.Alike t.vm → px u → BX E u t → H.size ≤ H1.size → (∀ q : Nat, q < H.size → ¬ AX q → H1[q]? = H[q]?) → va_S A0 H0 H1 locs1 → H1[q9]? = some ce → ce.vm = .none → s.vm.findClass E = some ce.cls → vx_W p l e R s m args below meth c H1 locs1 (cells + mc) (slots + ms) Q (F0 m pc ls rest) q9)
    (kk : ∀ (u : S) (t : State) (H1 : Heap) (locs1 : List Loc), t.heap = H1 → s.vm.Alike t.vm → post u → B u t → H.size ≤ H1.size → (∀ q : Nat, q < H.size → ¬ A1 q → H1[q]? = H[q]?) → va_S A0 H0 H1 locs1 → W p l e R s m args below meth c H1 locs1 (cells + mc) (slots + ms) Q (F0 m (pc + 3) ls (rest))) : W p l e R s m args below meth c H locs cells slots Q (F0 m pc ls st0) := by
  intro T hT X
  rcases hr T hT X with ⟨v, st₀, t, T', L, h0, X', hL, e1, e2, ⟨⟨u, hv, hp, hb⟩, hF⟩, st⟩ | ⟨q, st₀, t, T', L, E, ce, h0, X', hL, e1, e2, ⟨u, hp, hb, hF⟩, hce, hcv, hcl, st⟩
  · cases hv
    obtain ⟨k1, k2, k3⟩ := vx_keep h0 e1 hS hA hf hL hF
    obtain ⟨t2, a1, b1⟩ := kk u t T'.heap (locs ++ L) e1.symm (by rw [← e2]; exact X'.warmed.alike) hp hb k1 k2 k3 T' rfl X'
    exact ⟨t2, st t2 a1, b1⟩
  · obtain ⟨k1, k2, k3⟩ := vx_keep h0 e1 hS hAX hf hL hF
    obtain ⟨t2, a1, b1⟩ := kx E ce q u t T'.heap (locs ++ L) e1.symm (by rw [← e2]; exact X'.warmed.alike) hp hb k1 k2 k3 (by rw [e1]; exact hce) hcv hcl T' rfl X'
    exact ⟨t2, st.trans a1, b1⟩
/-- caught by the row x of this method's table; the rows ahead don't take it -/
theorem vx_catch {own name : String} {E : String} {ce : Cell} {q : Addr} (hown : s.vm.findClass own = some m.cls) (pre : List ExceptionTableEntry) (x : ExceptionTableEntry) (suf : List ExceptionTableEntry) (hsplit : c.exceptionTable.toList = pre ++ x :: suf)
    (hpass : ∀ z ∈ pre, covers z pc = false ∨ (z.catchType ≠ 0 ∧ ∃ nm : String, (Cond.classLink own z.catchType nm).before args s = true ∧ va_Nc E nm s)) (hx : covers x pc = true) (h0 : x.catchType ≠ 0)
    (hlink : (Cond.classLink own x.catchType name).before args s = true) (hcast : (Cond.castable E name).before args s = true) (hcell : H[q]? = some ce) (hv : ce.vm = .none) (hcl : s.vm.findClass E = some ce.cls)
    (kk : W p l e R s m args below meth c H locs cells slots Q (F0 m x.handlerPc ls [.ref q])) : vx_W p l e R s m args below meth c H locs cells slots Q (F0 m pc ls rest) q := by
  intro T hT X
  have hpl : e.platform.magicAccessors = ({} : Platform).magicAccessors := by rw [X.admits.platform]
  obtain ⟨c3, c4, hc3, hc4, hasg⟩ := Cond.castable_spec hcast
  cases Option.some.inj (hc3.symm.trans hcl)
  obtain ⟨c5, hc5, hcl5⟩ := Cond.classLink_spec hown hlink e.platform hpl
  cases Option.some.inj (hc4.symm.trans hc5)
  obtain ⟨vm', X', st⟩ := X.thenCaughtThrough q (g := F0 m pc ls rest) rfl (Steps.refl _) (by rw [hT]; exact hcell) (by rw [hv]; rfl) (by obtain ⟨k9, h9, -⟩ := Vm.findClass_spec hcl; exact ⟨k9, h9⟩) pre x suf hsplit
    (fun z hz => by
      rcases hpass z hz with h | ⟨hz0, nm, hl1, hn1⟩
      · exact Or.inl h
      · obtain ⟨c6, hc6, hcl6⟩ := Cond.classLink_spec hown hl1 e.platform hpl
        obtain ⟨a8, b8, h1, h2, h3⟩ := hn1
        cases Option.some.inj (h1.symm.trans hcl)
        cases Option.some.inj (h2.symm.trans hc6)
        exact Or.inr ⟨hz0, _, hcl6, h3⟩) hx (Or.inr ⟨h0, c4, hcl5, hasg⟩)
  obtain ⟨t, a1, b1⟩ := kk (T.setVm vm') hT X'
  exact ⟨t, st.trans a1, b1⟩
end Rows
section Ends
variable {p : Program} {l : Launch} {e : Env} {R : Room} {s : State} {m : MethodId} {args : Array Value} {below : List Frame} {meth : Method} {c : Code} {H : Heap} {locs : List Loc} {cells slots : Nat} {Q : State → Prop}
variable {mc ms : Nat} {free : Addr → Prop} {A0 A1 : Nat → Prop} {H0 : Heap} {a : Array Value} {ls : Array Slot} {st0 rest : List Value}
variable {Qc : Array Value → State → Outcome → State → Prop} {XC : String → State → State → Prop}
/-- what a body that may throw owes at its end -/
def vx_MQ (below : List Frame) (Qc : Array Value → State → Outcome → State → Prop) (XC : String → State → State → Prop) (a : Array Value) (s : State) (mc ms : Nat) (free : Addr → Prop) : State → Prop := fun t =>
  ∃ o, t.status = .running ∧ Ended t below o ∧ vx_Q Qc XC mc ms free a s o t
theorem vx_ret {g : JFrame} {mc ms : Nat} (k : W p l e R s m args below meth c H locs cells slots (MQ below Qc args s mc ms free) g) : W p l e R s m args below meth c H locs cells slots (vx_MQ below Qc XC args s mc ms free) g := by
  intro T hT X
  obtain ⟨t, a1, o, b1, b2, b3, b4⟩ := k T hT X
  exact ⟨t, a1, o, b1, b2, Or.inl ⟨b3, b4⟩⟩
/-- not caught here: it goes on to the caller -/
theorem vx_widen {g : JFrame} {q : Addr} {k n : Nat} (h1 : cells ≤ k) (h2 : slots ≤ n) (kk : vx_W p l e R s m args below meth c H locs k n Q g q) : vx_W p l e R s m args below meth c H locs cells slots Q g q := fun T hT X => kk T hT (stand_widen X h1 h2)
theorem vx_out {pc : Nat} {E : String} {ce : Cell} {q : Addr} {mc ms : Nat} (hout : ∀ x ∈ c.exceptionTable.toList, covers x pc = false) (hlocks : meth.locks = false) (hcell : H[q]? = some ce) (hv : ce.vm = .none) (hcl : s.vm.findClass E = some ce.cls)
    (hx : ∀ t : State, t.heap = H → s.vm.Alike t.vm → XC E s t) (hf : ∀ z ∈ locs, free z.base) (hc : cells ≤ mc) (hs : slots ≤ ms) :
    vx_W p l e R s m args below meth c H locs cells slots (vx_MQ below Qc XC args s mc ms free) (F0 m pc ls rest) q := by
  intro T hT X
  obtain ⟨st1, hrun, hend, hW, hsm⟩ := X.leaveThrown q (g := F0 m pc ls rest) rfl rfl rfl hout hlocks
  have hcell9 : (T.setFrames (.throwing q :: below)).heap[q]? = some ce := by
    show T.heap[q]? = some ce
    rw [hT]; exact hcell
  exact ⟨_, st1, .threw q, hrun, hend, Or.inr ⟨q, rfl, E, ce, locs, hx _ hT hW.alike, hcell9, hv, hcl, hW, hsm.mono hc hs, hf⟩⟩
theorem vx_frame {U : State} {k n : Nat} (h : s.sameButNew ({ U with vm := s.vm } : State) locs k n) : s.heap.size ≤ U.heap.size ∧ ∀ q : Nat, q < s.heap.size → (∀ z ∈ locs, z.base ≠ q) → U.heap[q]? = s.heap[q]? := by
  obtain ⟨-, h2, -, -, -, h6⟩ := h
  refine ⟨h2, fun q hq hz => ?_⟩
  obtain ⟨c9, e1, e2, e3, e4⟩ := h6 q _ (Array.getElem?_eq_getElem hq)
  have hs : c9.slots = (s.heap[q]).slots := Array.ext_getElem? fun i => e4 i fun hm => hz _ hm rfl
  have h9 : c9 = s.heap[q] := by
    rw [hs] at e2
    exact e2
  have e5 : U.heap[q]? = some c9 := e1
  rw [e5, h9, Array.getElem?_eq_getElem hq]
/-- the words of a throw but the four that speak of the heap -/
def vx_no (w : Cond) : Bool := decide (w ≠ .isRef (.static Bundle.tN "UNASSIGNED_STACK" Bundle.steD)) && decide (w ≠ .isRef (.static Bundle.tN "SUPPRESSED_SENTINEL" Bundle.listD)) && decide (w ≠ .laysStatic Bundle.tN "UNASSIGNED_STACK" Bundle.steD) && decide (w ≠ .laysStatic Bundle.tN "SUPPRESSED_SENTINEL" Bundle.listD)
def vx_at0 (own : String) (ic : Nat) (X : String) (names : List String) : List Cond := (Bundle.ownAtoms0 own ic X names).filter vx_no
def vx_atS (own : String) (ic : Nat) (X : String) (names : List String) : List Cond := (Bundle.ownAtoms own ic X names).filter vx_no
/-- a word that the tables alone decide, or a good one -/
def vx_ot (w : Cond) : Bool := w.onTables || goodWord w
theorem vx_ot_at {args a' : Array Value} {s U : State} {w : Cond} (hW : s.WarmedH U.vm) (hvm : s.vm = U.vm) (hg : vx_ot w = true) (h : w.before args s = true) : w.before a' U = true := by
  simp only [vx_ot, Bool.or_eq_true] at hg
  rcases hg with hg | hg
  · exact va_tabs hg hvm h
  · exact word_at hW (good_of_word hg) h
/-- a list's words: the good ones out of the method's own list, the others by premises of their own -/
theorem vx_hat {args : Array Value} {s : State} {L B : List Cond} (h1 : ∀ w ∈ L.filter goodWord, w.before args s = true) (h2 : ∀ w ∈ L.filter (fun w => !goodWord w), w ∈ B) (h3 : ∀ w ∈ B, w.before args s = true) : ∀ w ∈ L, w.before args s = true := by
  intro w hw
  by_cases g : goodWord w = true
  · exact h1 w (List.mem_filter.mpr ⟨hw, g⟩)
  · refine h3 w (h2 w (List.mem_filter.mpr ⟨hw, ?_⟩))
    show (!goodWord w) = true
    cases hgw : goodWord w
    · rfl
    · exact absurd hgw g
theorem vx_c {args : Array Value} {s : State} {w : Cond} {B : List Cond} (h : w.before args s = true) (t : ∀ w ∈ B, w.before args s = true) : ∀ w' ∈ w :: B, w'.before args s = true := fun w' h' => (List.mem_cons.mp h').elim (fun e => by rw [e]; exact h) (t w')
theorem vx_n {args : Array Value} {s : State} : ∀ w ∈ ([] : List Cond), w.before args s = true := fun _ h => nomatch h
theorem vx_own {args : Array Value} {s : State} {L : List Cond} (h1 : ∀ w ∈ L.filter vx_no, w.before args s = true)
    (hU : (Cond.isRef (.static Bundle.tN "UNASSIGNED_STACK" Bundle.steD)).before args s = true) (hN : (Cond.isRef (.static Bundle.tN "SUPPRESSED_SENTINEL" Bundle.listD)).before args s = true)
    (lU : (Cond.laysStatic Bundle.tN "UNASSIGNED_STACK" Bundle.steD).before args s = true) (lN : (Cond.laysStatic Bundle.tN "SUPPRESSED_SENTINEL" Bundle.listD).before args s = true) : ∀ w ∈ L, w.before args s = true := by
  intro w hw
  by_cases e1 : w = .isRef (.static Bundle.tN "UNASSIGNED_STACK" Bundle.steD)
  · rw [e1]; exact hU
  · by_cases e2 : w = .isRef (.static Bundle.tN "SUPPRESSED_SENTINEL" Bundle.listD)
    · rw [e2]; exact hN
    · by_cases e3 : w = .laysStatic Bundle.tN "UNASSIGNED_STACK" Bundle.steD
      · rw [e3]; exact lU
      · by_cases e4 : w = .laysStatic Bundle.tN "SUPPRESSED_SENTINEL" Bundle.listD
        · rw [e4]; exact lN
        · exact h1 w (List.mem_filter.mpr ⟨hw, by unfold vx_no; rw [decide_eq_true e1, decide_eq_true e2, decide_eq_true e3, decide_eq_true e4]; rfl⟩)
/-- where a static field lies, its class's statics cell in H -/
def vx_L (C n d : String) (A : Nat → Prop) (U : State) (H : Heap) : Prop := ∃ (c : ClassId) (k : Class) (i : Nat) (f : Field) (a : Nat) (cell : Cell), U.vm.findClass C = some c ∧ U.fieldFound? C n d = some (c, k, i, f) ∧ f.isStatic = true ∧ k.statics = some a ∧ H[a]? = some cell ∧ cell.vm.isStatics = true ∧ cell.cls = c ∧ f.slot < cell.slots.size ∧ k.staticTypes[f.slot]? = some f.type ∧ ¬ A a
theorem vx_L.moved {C n d : String} {A : Nat → Prop} {u U : State} {H : Heap} (hvm : u.vm.Alike U.vm) (h : vx_L C n d A u H) : vx_L C n d A U H := by
  obtain ⟨c, k, i, f, a, cell, h1, h2, h3, h4, h5, h6, h7, h8, h9, h10⟩ := h
  obtain ⟨k', hi', he⟩ := State.fieldFound?_setVm hvm h2
  exact ⟨c, k', i, f, a, cell, by rw [hvm.findClass]; exact h1, hi', h3, by rw [he]; exact h4, h5, h6, h7, h8, by rw [he]; exact h9, h10⟩
theorem vx_L.kept {C n d : String} {A : Nat → Prop} {U : State} {H H1 : Heap} (h : vx_L C n d A U H) (hq : ∀ a : Nat, a < H.size → ¬ A a → H1[a]? = H[a]?) : vx_L C n d A U H1 := by
  obtain ⟨c, k, i, f, a, cell, h1, h2, h3, h4, h5, h6, h7, h8, h9, h10⟩ := h
  exact ⟨c, k, i, f, a, cell, h1, h2, h3, h4, by rw [hq a (Array.getElem?_eq_some_iff.mp h5).1 h10]; exact h5, h6, h7, h8, h9, h10⟩
theorem vx_L.narrow {C n d : String} {A B : Nat → Prop} {U : State} {H : Heap} (h : vx_L C n d A U H) (hAB : ∀ q, B q → A q) : vx_L C n d B U H := by
  obtain ⟨c, k, i, f, a, cell, h1, h2, h3, h4, h5, h6, h7, h8, h9, h10⟩ := h
  exact ⟨c, k, i, f, a, cell, h1, h2, h3, h4, h5, h6, h7, h8, h9, fun z => h10 (hAB _ z)⟩
theorem vx_L.word {C n d : String} {A : Nat → Prop} {s : State} {args : Array Value} (h : vx_L C n d A s s.heap) : (Cond.laysStatic C n d).before args s = true := by
  obtain ⟨c, k, i, f, a, cell, h1, h2, h3, h4, h5, h6, h7, h8, h9, -⟩ := h
  show (Cond.laysStatic C n d).holds args s none s [] = true
  exact Cond.laysStatic_of h1 h2 h3 h4 h5 h6 h7 h8 h9
/-- .. and what it holds: null or some reference -/
def vx_Zq (C n d : String) (A : Nat → Prop) (U : State) (H : Heap) : Prop := va_Zq C n d A U H ∧ vx_L C n d A U H
theorem vx_Zq.moved {C n d : String} {A : Nat → Prop} {u U : State} {H : Heap} (hvm : u.vm.Alike U.vm) (h : vx_Zq C n d A u H) : vx_Zq C n d A U H := ⟨va_Zq.moved hvm h.1, vx_L.moved hvm h.2⟩
theorem vx_Zq.kept {C n d : String} {A : Nat → Prop} {U : State} {H H1 : Heap} (h : vx_Zq C n d A U H) (hq : ∀ a : Nat, a < H.size → ¬ A a → H1[a]? = H[a]?) : vx_Zq C n d A U H1 := ⟨va_Zq.kept h.1 hq, vx_L.kept h.2 hq⟩
theorem vx_Zq.narrow {C n d : String} {A B : Nat → Prop} {U : State} {H : Heap} (h : vx_Zq C n d A U H) (hAB : ∀ q, B q → A q) : vx_Zq C n d B U H := ⟨va_Zq.narrow h.1 hAB, vx_L.narrow h.2 hAB⟩
theorem vx_Zqof {args : Array Value} {s : State} {C n d : String} {A : Nat → Prop} (hl : (Cond.laysStatic C n d).before args s = true) (hini : (Cond.initialized C).before args s = true) (h : (Cond.isRef (.static C n d)).before args s = true) (hA : ∀ a : Nat, a < s.heap.size → ¬ A a) : vx_Zq C n d A s s.heap := by
  refine ⟨va_Zqof hl hini h hA, ?_⟩
  obtain ⟨c, k, i, f, a, cell, h1, h2, h3, h4, h5, h6, h7, h8, h9⟩ := Cond.laysStatic_spec hl
  exact ⟨c, k, i, f, a, cell, h1, h2, h3, h4, h5, h6, h7, h8, h9, hA a (Array.getElem?_eq_some_iff.mp h5).1⟩
theorem vx_isRef {C n d : String} {v : Value} {A : Nat → Prop} {s : State} {args : Array Value} (h : va_Z C n d v A s s.heap) (hv : v.isRef = true) : (Cond.isRef (.static C n d)).before args s = true := by
  obtain ⟨cf, kf, fi, f, a, cell, h1, h2, h3, h4, h5, h6, h7, -⟩ := h
  have he : (Term.static C n d).eval args s none [] s = some v := by
    simp [Term.eval, State.fieldNamed?, h1, h2, h4, h5, h6, h7]
  simp only [Cond.before, Cond.holds, Cond.value, he]
  cases v <;> simp_all [Value.isRef]
theorem vx_isRefq {C n d : String} {A : Nat → Prop} {s : State} {args : Array Value} (h : va_Zq C n d A s s.heap) : (Cond.isRef (.static C n d)).before args s = true := by
  rcases h with h | ⟨t, h⟩
  · exact vx_isRef h rfl
  · exact vx_isRef h rfl
/-- the same frame, seen from here: as if the method were called anew in this heap -/
theorem vx_rebase {T : State} (X : Stand p l e R s m args below meth c T locs cells slots) {R' : Room} (hf : R'.frames ≤ R.frames) (hl : R'.locals ≤ R.locals) (hc : cells + R'.cells ≤ R.cells) (hs : slots + R'.slots ≤ R.slots) :
    Stand p l e R' ((T.setVm s.vm).setFrames (.invoking m args :: below)) m args below meth c T [] 0 0 := by
  have htop : (T.setVm s.vm).topJava?.isSome := X.here.top
  have hF : ((T.setVm s.vm).setFrames (.invoking m args :: below)).frames = .invoking m args :: below := State.frames_setFrames _ (State.cur_lt_of_top htop)
  obtain ⟨g₀, hg0⟩ := Option.isSome_iff_exists.mp htop
  obtain ⟨r, hr⟩ := State.topJava?_eq_some.mp hg0
  have hl9 : e.platform.stackLimits (T.setVm s.vm).me = e.platform.stackLimits s.me := X.limits
  have hb9 : (T.setVm s.vm).me.stackBytes = s.me.stackBytes := X.bytes
  refine ⟨X.admits, X.cas, X.clock, hF, ?_, X.hears, X.method, X.code, X.here, X.tail, X.warmed, ?_, ?_, ?_⟩
  · have h := X.room
    have hU : ((T.setVm s.vm).setFrames (.invoking m args :: below)).localsInUse = s.localsInUse := by
      rw [State.localsInUse_invoking hF (meth := meth) (c := c) X.method X.code, State.localsInUse_invoking X.frames X.method X.code]
    simp only [State.hasRoom, Bool.and_eq_true, decide_eq_true_eq] at h ⊢
    obtain ⟨⟨⟨⟨h1, h2, h3, h4, h5, h6⟩, h7⟩, h8⟩, h9⟩ := h
    rw [X.frames, List.length_cons] at h2 h3
    have q1 := X.heapSize
    have q2 := X.used
    simp only [hF, hU, List.length_cons, State.stackLimits_setFrames, State.stackBytes_setFrames, hl9, hb9]
    refine ⟨⟨⟨⟨by omega, by omega, by omega, by omega, by omega, h6⟩, ?_⟩, ?_⟩, X.book⟩
    · show T.heap.size + R'.cells ≤ e.platform.maxCells
      omega
    · show T.slotsUsed + R'.slots ≤ e.platform.maxSlots
      omega
  · rw [State.stackLimits_setFrames]; rfl
  · rw [State.stackBytes_setFrames]; rfl
  · refine ⟨?_, Nat.le_refl _, Nat.le_refl _, ?_, ?_, fun a c9 h9 => ⟨c9, h9, rfl, rfl, fun _ _ => rfl⟩⟩
    · obtain ⟨t, ht, -⟩ := State.frames_cons hr
      show T.setVm s.vm = { ((T.setVm s.vm).setFrames (.invoking m args :: below)).setFrames (T.setVm s.vm).frames with heap := T.heap, slotsUsed := T.slotsUsed }
      rw [State.setFrames_setFrames, State.setFrames_self ht]
      rfl
    · show T.slotsUsed = T.slotsUsed + ((T.heap.toList.drop T.heap.size).map (·.slots.size)).sum
      rw [List.drop_eq_nil_of_le (Nat.le_of_eq Array.length_toList)]
      rfl
    · show ((T.heap.toList.drop T.heap.size).map (·.slots.size)).sum ≤ 0
      rw [List.drop_eq_nil_of_le (Nat.le_of_eq Array.length_toList)]
      exact Nat.le_refl _
/-- 'throw new E()': new; dup; invokespecial; athrow -/
theorem vx_throw0 {cc : ByteArray} {pc : Nat} (hexec : p.tables.exec = Jvm.exec) (hb : c.code = cc) (hl : l.stackTraces = false) {own cls : String} {names : List String} {ik ic mc ms : Nat} {A : Nat → Prop}
    (hown : s.vm.findClass own = some m.cls) (hcls : Bundle.fit cls = true) (hnames : ∀ n ∈ names, Bundle.fit n = true)
    (hk : (Cond.classLink own ik cls).before args s = true) (hini : (Cond.initialized cls).before args s = true) (hat : ∀ w ∈ vx_at0 own ic cls names, w.before args s = true)
    (hgood : ∀ w ∈ Cond.classLink own ik cls :: Cond.initialized cls :: vx_at0 own ic cls names, vx_ot w = true)
    (hU : vx_Zq Bundle.tN "UNASSIGNED_STACK" Bundle.steD A s s.heap) (hN : vx_Zq Bundle.tN "SUPPRESSED_SENTINEL" Bundle.listD A s s.heap) (hS : va_S A s.heap H locs) (hsize : ls.size = c.maxLocals)
    (d0 : decode cc pc = .ok (.new ik, 3)) (d3 : decode cc (pc + 3) = .ok (.dup, 1)) (d4 : decode cc (pc + 4) = .ok (.invokespecial ic, 3)) (d7 : decode cc (pc + 7) = .ok (.athrow, 1))
    (hout : ∀ x ∈ c.exceptionTable.toList, covers x (pc + 7) = false)
    (hRframes : names.length + 3 < R.frames) (hRlocals : (rest.map fun v => v.category).sum + (13 * (names.length + 1) + 42) ≤ R.locals) (hRcells : cells + 1 ≤ R.cells) (hRslots : slots + 6 ≤ R.slots) (hlocks : meth.locks = false)
    (hx : ∀ t : State, s.vm.Alike t.vm → H.size ≤ t.heap.size → (∀ q : Nat, q < H.size → t.heap[q]? = H[q]?) → XC cls s t)
    (hf : ∀ z ∈ locs, free z.base) (hc : cells + 1 ≤ mc) (hs : slots + 6 ≤ ms) :
    W p l e R s m args below meth c H locs cells slots (vx_MQ below Qc XC args s mc ms free) (F0 m pc ls rest) := by
  intro T hT X
  have htr : e.platform.stackTraces = false := (show e.platform.stackTraces = l.stackTraces by rw [X.admits.platform]).trans hl
  have Y := vx_rebase X (R' := { frames := R.frames, locals := R.locals, cells := 1, slots := 6 }) (Nat.le_refl _) (Nat.le_refl _) hRcells hRslots
  obtain ⟨s', hA⟩ : ∃ z, z = (T.setVm s.vm).setFrames (.invoking m args :: below) := ⟨_, rfl⟩
  rw [← hA] at Y
  have hvm : s'.vm = s.vm := by rw [hA]; rfl
  have hhp : s'.heap = H := by rw [hA]; exact hT
  have hW0 : s.WarmedH s'.vm := by rw [hvm]; exact State.WarmedH.refl s
  have hat' : ∀ w ∈ vx_at0 own ic cls names, w.before args s' = true := fun w hw => vx_ot_at hW0 hvm.symm (hgood w (List.mem_cons_of_mem _ (List.mem_cons_of_mem _ hw))) (hat w hw)
  have hk' : (Cond.classLink own ik cls).before args s' = true := vx_ot_at hW0 hvm.symm (hgood _ List.mem_cons_self) hk
  have hini' : (Cond.initialized cls).before args s' = true := vx_ot_at hW0 hvm.symm (hgood _ (List.mem_cons_of_mem _ List.mem_cons_self)) hini
  have hU' : vx_Zq Bundle.tN "UNASSIGNED_STACK" Bundle.steD A s' s'.heap := by rw [hhp]; exact vx_Zq.moved hW0.alike (hU.kept hS.2.1)
  have hN' : vx_Zq Bundle.tN "SUPPRESSED_SENTINEL" Bundle.listD A s' s'.heap := by rw [hhp]; exact vx_Zq.moved hW0.alike (hN.kept hS.2.1)
  have h : ∀ w ∈ Bundle.ownAtoms0 own ic cls names, w.before args s' = true := vx_own hat' (vx_isRefq hU'.1) (vx_isRefq hN'.1) hU'.2.word hN'.2.word
  have hown' : s'.vm.findClass own = some m.cls := by rw [hvm]; exact hown
  have hins : (Cond.instantiable cls 6).before args s' = true := h _ (by simp [Bundle.ownAtoms0])
  obtain ⟨vm₁, cX, kX, hfX, hkX, -, -, X₁, st1⟩ := Y.newCold hexec (own := own) (C := cls) (index := ik) (n := 6) hown' hk' hins hini'
    (g := F0 m pc ls rest) rfl (by rw [hb]; exact d0) (Nat.le_refl _) (Nat.le_refl _)
  generalize hT1 : (T.setVm vm₁).pushCell { cls := cX, slots := kX.instanceTypes.map defaultValue, vm := .none } = T1 at X₁ st1
  have hcat : (Value.ref T.heap.size).category = 1 := rfl
  have hcellA : T1.heap[T.heap.size]? = some (freshCell cX kX) := by rw [← hT1]; exact State.heap_pushCell_size _ _
  have d3' : decode c.code (pc + 3) = .ok (.dup, 1) := by rw [hb]; exact d3
  obtain ⟨U, hsteps, hrun, hend, hW, hsame, ce, hce, hO⟩ := X₁.ctorThrow0 hexec htr (own := own) (cls := cls) (names := names) (ic := ic) hown' hcls hnames h (fun x hx => nomatch hx) hfX hkX hcellA (by rw [hhp, hT]; exact Nat.le_refl _)
    (g := { method := m, pc := pc + 4, locals := ls, stack := .ref T.heap.size :: .ref T.heap.size :: rest, locked := none }) rfl hsize rfl rfl (rest := rest) rfl
    (by rw [hb]; exact d4) (by rw [hb]; exact d7) hout hRframes (by simp only [List.map_cons, List.sum_cons, hcat]; omega) hlocks
  obtain ⟨f1, f2⟩ := vx_frame hsame
  rw [hhp] at f1 f2
  have hWs : s.WarmedH U.vm := State.WarmedH.trans hW0 hW
  have hcl : s.vm.findClass cls = some ce.cls := by
    have h9 := hO.cls
    rw [hvm] at h9
    exact h9
  have hall : s.sameButNew ({ U with vm := s.vm } : State) locs mc ms := by
    subst hA
    obtain ⟨e1, e2⟩ := hsame
    rw [State.setFrames_setFrames] at e1
    have h2 : (T.setVm s.vm).sameButNew ({ U with vm := s.vm } : State) [] (0 + 1) (0 + 6) := ⟨e1, e2⟩
    have h3 := X.same.trans h2
    rw [List.append_nil] at h3
    exact h3.mono hc hs
  refine ⟨U, ?_, .threw T.heap.size, hrun, hend, Or.inr ⟨T.heap.size, rfl, cls, ce, locs, hx U hWs.alike f1 (fun q hq => f2 q hq (fun z hz => nomatch hz)), hce, hO.vm, hcl, hWs, hall, hf⟩⟩
  refine st1 _ ?_
  show Steps p.tables e below (T1.setTop { method := m, pc := pc + 3, locals := ls, stack := .ref T.heap.size :: rest, locked := none }) _
  jvm_step X₁.here [X₁.here.top, hexec, d3', Value.category]
  exact hsteps
/-- 'throw new E("text")': new; dup; ldc; invokespecial; athrow -/
theorem vx_throwS {cc : ByteArray} {pc : Nat} (hexec : p.tables.exec = Jvm.exec) (hb : c.code = cc) (hl : l.stackTraces = false) {own cls text : String} {names : List String} {ik is ic mc ms sa : Nat} {A : Nat → Prop}
    (hown : s.vm.findClass own = some m.cls) (hcls : Bundle.fit cls = true) (hnames : ∀ n ∈ names, Bundle.fit n = true)
    (hk : (Cond.classLink own ik cls).before args s = true) (hini : (Cond.initialized cls).before args s = true) (hstr : vk_R own is text sa s) (hat : ∀ w ∈ vx_atS own ic cls names, w.before args s = true)
    (hgood : ∀ w ∈ Cond.classLink own ik cls :: Cond.initialized cls :: vx_atS own ic cls names, vx_ot w = true)
    (hU : vx_Zq Bundle.tN "UNASSIGNED_STACK" Bundle.steD A s s.heap) (hN : vx_Zq Bundle.tN "SUPPRESSED_SENTINEL" Bundle.listD A s s.heap) (hS : va_S A s.heap H locs) (hsize : ls.size = c.maxLocals)
    (d0 : decode cc pc = .ok (.new ik, 3)) (d3 : decode cc (pc + 3) = .ok (.dup, 1)) (d4 : decode cc (pc + 4) = .ok (.ldc is, 2)) (d6 : decode cc (pc + 6) = .ok (.invokespecial ic, 3)) (d9 : decode cc (pc + 9) = .ok (.athrow, 1))
    (hout : ∀ x ∈ c.exceptionTable.toList, covers x (pc + 9) = false)
    (hRframes : names.length + 3 < R.frames) (hRlocals : (rest.map fun v => v.category).sum + (13 * (names.length + 1) + 43) ≤ R.locals) (hRcells : cells + 1 ≤ R.cells) (hRslots : slots + 6 ≤ R.slots) (hlocks : meth.locks = false)
    (hx : ∀ t : State, s.vm.Alike t.vm → H.size ≤ t.heap.size → (∀ q : Nat, q < H.size → t.heap[q]? = H[q]?) → XC cls s t)
    (hf : ∀ z ∈ locs, free z.base) (hc : cells + 1 ≤ mc) (hs : slots + 6 ≤ ms) :
    W p l e R s m args below meth c H locs cells slots (vx_MQ below Qc XC args s mc ms free) (F0 m pc ls rest) := by
  intro T hT X
  have htr : e.platform.stackTraces = false := (show e.platform.stackTraces = l.stackTraces by rw [X.admits.platform]).trans hl
  have Y := vx_rebase X (R' := { frames := R.frames, locals := R.locals, cells := 1, slots := 6 }) (Nat.le_refl _) (Nat.le_refl _) hRcells hRslots
  obtain ⟨s', hA⟩ : ∃ z, z = (T.setVm s.vm).setFrames (.invoking m args :: below) := ⟨_, rfl⟩
  rw [← hA] at Y
  have hvm : s'.vm = s.vm := by rw [hA]; rfl
  have hhp : s'.heap = H := by rw [hA]; exact hT
  have hW0 : s.WarmedH s'.vm := by rw [hvm]; exact State.WarmedH.refl s
  have hat' : ∀ w ∈ vx_atS own ic cls names, w.before args s' = true := fun w hw => vx_ot_at hW0 hvm.symm (hgood w (List.mem_cons_of_mem _ (List.mem_cons_of_mem _ hw))) (hat w hw)
  have hk' : (Cond.classLink own ik cls).before args s' = true := vx_ot_at hW0 hvm.symm (hgood _ List.mem_cons_self) hk
  have hini' : (Cond.initialized cls).before args s' = true := vx_ot_at hW0 hvm.symm (hgood _ (List.mem_cons_of_mem _ List.mem_cons_self)) hini
  have hU' : vx_Zq Bundle.tN "UNASSIGNED_STACK" Bundle.steD A s' s'.heap := by rw [hhp]; exact vx_Zq.moved hW0.alike (hU.kept hS.2.1)
  have hN' : vx_Zq Bundle.tN "SUPPRESSED_SENTINEL" Bundle.listD A s' s'.heap := by rw [hhp]; exact vx_Zq.moved hW0.alike (hN.kept hS.2.1)
  have h : ∀ w ∈ Bundle.ownAtoms own ic cls names, w.before args s' = true := vx_own hat' (vx_isRefq hU'.1) (vx_isRefq hN'.1) hU'.2.word hN'.2.word
  have hown' : s'.vm.findClass own = some m.cls := by rw [hvm]; exact hown
  have hins : (Cond.instantiable cls 6).before args s' = true := h _ (by simp [Bundle.ownAtoms])
  obtain ⟨vm₁, cX, kX, hfX, hkX, -, -, X₁, st1⟩ := Y.newCold hexec (own := own) (C := cls) (index := ik) (n := 6) hown' hk' hins hini'
    (g := F0 m pc ls rest) rfl (by rw [hb]; exact d0) (Nat.le_refl _) (Nat.le_refl _)
  generalize hT1 : (T.setVm vm₁).pushCell { cls := cX, slots := kX.instanceTypes.map defaultValue, vm := .none } = T1 at X₁ st1
  have hcat : (Value.ref T.heap.size).category = 1 := rfl
  have hcellA : T1.heap[T.heap.size]? = some (freshCell cX kX) := by rw [← hT1]; exact State.heap_pushCell_size _ _
  have d3' : decode c.code (pc + 3) = .ok (.dup, 1) := by rw [hb]; exact d3
  have d4' : decode c.code (pc + 4) = .ok (.ldc is, 2) := by rw [hb]; exact d4
  have hstr' : vk_R own is text sa s' := vk_R.warm hW0 hstr
  obtain ⟨U, hsteps, hrun, hend, hW, hsame, ce, hce, hO⟩ := X₁.ctorThrowS hexec htr (own := own) (cls := cls) (names := names) (ic := ic) hown' hcls hnames h (fun x hx => nomatch hx) hfX hkX hcellA (by rw [hhp, hT]; exact Nat.le_refl _) (msg := .ref sa) rfl
    (g := { method := m, pc := pc + 6, locals := ls, stack := .ref sa :: .ref T.heap.size :: .ref T.heap.size :: rest, locked := none }) rfl hsize rfl rfl (rest := rest) rfl
    (by rw [hb]; exact d6) (by rw [hb]; exact d9) hout hRframes (by simp only [List.map_cons, List.sum_cons, hcat]; omega) hlocks
  obtain ⟨f1, f2⟩ := vx_frame hsame
  rw [hhp] at f1 f2
  have hWs : s.WarmedH U.vm := State.WarmedH.trans hW0 hW
  have hcl : s.vm.findClass cls = some ce.cls := by
    have h9 := hO.cls
    rw [hvm] at h9
    exact h9
  have hall : s.sameButNew ({ U with vm := s.vm } : State) locs mc ms := by
    subst hA
    obtain ⟨e1, e2⟩ := hsame
    rw [State.setFrames_setFrames] at e1
    have h2 : (T.setVm s.vm).sameButNew ({ U with vm := s.vm } : State) [] (0 + 1) (0 + 6) := ⟨e1, e2⟩
    have h3 := X.same.trans h2
    rw [List.append_nil] at h3
    exact h3.mono hc hs
  refine ⟨U, ?_, .threw T.heap.size, hrun, hend, Or.inr ⟨T.heap.size, rfl, cls, ce, locs, hx U hWs.alike f1 (fun q hq => f2 q hq (fun z hz => nomatch hz)), hce, hO.vm, hcl, hWs, hall, hf⟩⟩
  refine st1 _ ?_
  show Steps p.tables e below (T1.setTop { method := m, pc := pc + 3, locals := ls, stack := .ref T.heap.size :: rest, locked := none }) _
  jvm_step X₁.here [X₁.here.top, hexec, d3', Value.category]
  exact X₁.ldcString hexec (own := own) (text := text) (index := is) (a := sa) hown' hstr'.1 hstr'.2
    (g := { method := m, pc := pc + 4, locals := ls, stack := .ref T.heap.size :: .ref T.heap.size :: rest, locked := none }) rfl d4' _ hsteps
/-- 'throw new E("text")', the text by a wide index -/
theorem vx_throwSW {cc : ByteArray} {pc : Nat} (hexec : p.tables.exec = Jvm.exec) (hb : c.code = cc) (hl : l.stackTraces = false) {own cls text : String} {names : List String} {ik is ic mc ms sa : Nat} {A : Nat → Prop}
    (hown : s.vm.findClass own = some m.cls) (hcls : Bundle.fit cls = true) (hnames : ∀ n ∈ names, Bundle.fit n = true)
    (hk : (Cond.classLink own ik cls).before args s = true) (hini : (Cond.initialized cls).before args s = true) (hstr : vk_R own is text sa s) (hat : ∀ w ∈ vx_atS own ic cls names, w.before args s = true)
    (hgood : ∀ w ∈ Cond.classLink own ik cls :: Cond.initialized cls :: vx_atS own ic cls names, vx_ot w = true)
    (hU : vx_Zq Bundle.tN "UNASSIGNED_STACK" Bundle.steD A s s.heap) (hN : vx_Zq Bundle.tN "SUPPRESSED_SENTINEL" Bundle.listD A s s.heap) (hS : va_S A s.heap H locs) (hsize : ls.size = c.maxLocals)
    (d0 : decode cc pc = .ok (.new ik, 3)) (d3 : decode cc (pc + 3) = .ok (.dup, 1)) (d4 : decode cc (pc + 4) = .ok (.ldc_w is, 3)) (d7 : decode cc (pc + 7) = .ok (.invokespecial ic, 3)) (d10 : decode cc (pc + 10) = .ok (.athrow, 1))
    (hout : ∀ x ∈ c.exceptionTable.toList, covers x (pc + 10) = false)
    (hRframes : names.length + 3 < R.frames) (hRlocals : (rest.map fun v => v.category).sum + (13 * (names.length + 1) + 43) ≤ R.locals) (hRcells : cells + 1 ≤ R.cells) (hRslots : slots + 6 ≤ R.slots) (hlocks : meth.locks = false)
    (hx : ∀ t : State, s.vm.Alike t.vm → H.size ≤ t.heap.size → (∀ q : Nat, q < H.size → t.heap[q]? = H[q]?) → XC cls s t)
    (hf : ∀ z ∈ locs, free z.base) (hc : cells + 1 ≤ mc) (hs : slots + 6 ≤ ms) :
    W p l e R s m args below meth c H locs cells slots (vx_MQ below Qc XC args s mc ms free) (F0 m pc ls rest) := by
  intro T hT X
  have htr : e.platform.stackTraces = false := (show e.platform.stackTraces = l.stackTraces by rw [X.admits.platform]).trans hl
  have Y := vx_rebase X (R' := { frames := R.frames, locals := R.locals, cells := 1, slots := 6 }) (Nat.le_refl _) (Nat.le_refl _) hRcells hRslots
  obtain ⟨s', hA⟩ : ∃ z, z = (T.setVm s.vm).setFrames (.invoking m args :: below) := ⟨_, rfl⟩
  rw [← hA] at Y
  have hvm : s'.vm = s.vm := by rw [hA]; rfl
  have hhp : s'.heap = H := by rw [hA]; exact hT
  have hW0 : s.WarmedH s'.vm := by rw [hvm]; exact State.WarmedH.refl s
  have hat' : ∀ w ∈ vx_atS own ic cls names, w.before args s' = true := fun w hw => vx_ot_at hW0 hvm.symm (hgood w (List.mem_cons_of_mem _ (List.mem_cons_of_mem _ hw))) (hat w hw)
  have hk' : (Cond.classLink own ik cls).before args s' = true := vx_ot_at hW0 hvm.symm (hgood _ List.mem_cons_self) hk
  have hini' : (Cond.initialized cls).before args s' = true := vx_ot_at hW0 hvm.symm (hgood _ (List.mem_cons_of_mem _ List.mem_cons_self)) hini
  have hU' : vx_Zq Bundle.tN "UNASSIGNED_STACK" Bundle.steD A s' s'.heap := by rw [hhp]; exact vx_Zq.moved hW0.alike (hU.kept hS.2.1)
  have hN' : vx_Zq Bundle.tN "SUPPRESSED_SENTINEL" Bundle.listD A s' s'.heap := by rw [hhp]; exact vx_Zq.moved hW0.alike (hN.kept hS.2.1)
  have h : ∀ w ∈ Bundle.ownAtoms own ic cls names, w.before args s' = true := vx_own hat' (vx_isRefq hU'.1) (vx_isRefq hN'.1) hU'.2.word hN'.2.word
  have hown' : s'.vm.findClass own = some m.cls := by rw [hvm]; exact hown
  have hins : (Cond.instantiable cls 6).before args s' = true := h _ (by simp [Bundle.ownAtoms])
  obtain ⟨vm₁, cX, kX, hfX, hkX, -, -, X₁, st1⟩ := Y.newCold hexec (own := own) (C := cls) (index := ik) (n := 6) hown' hk' hins hini'
    (g := F0 m pc ls rest) rfl (by rw [hb]; exact d0) (Nat.le_refl _) (Nat.le_refl _)
  generalize hT1 : (T.setVm vm₁).pushCell { cls := cX, slots := kX.instanceTypes.map defaultValue, vm := .none } = T1 at X₁ st1
  have hcat : (Value.ref T.heap.size).category = 1 := rfl
  have hcellA : T1.heap[T.heap.size]? = some (freshCell cX kX) := by rw [← hT1]; exact State.heap_pushCell_size _ _
  have d3' : decode c.code (pc + 3) = .ok (.dup, 1) := by rw [hb]; exact d3
  have d4' : decode c.code (pc + 4) = .ok (.ldc_w is, 3) := by rw [hb]; exact d4
  have hstr' : vk_R own is text sa s' := vk_R.warm hW0 hstr
  obtain ⟨U, hsteps, hrun, hend, hW, hsame, ce, hce, hO⟩ := X₁.ctorThrowS hexec htr (own := own) (cls := cls) (names := names) (ic := ic) hown' hcls hnames h (fun x hx => nomatch hx) hfX hkX hcellA (by rw [hhp, hT]; exact Nat.le_refl _) (msg := .ref sa) rfl
    (g := { method := m, pc := pc + 7, locals := ls, stack := .ref sa :: .ref T.heap.size :: .ref T.heap.size :: rest, locked := none }) rfl hsize rfl rfl (rest := rest) rfl
    (by rw [hb]; exact d7) (by rw [hb]; exact d10) hout hRframes (by simp only [List.map_cons, List.sum_cons, hcat]; omega) hlocks
  obtain ⟨f1, f2⟩ := vx_frame hsame
  rw [hhp] at f1 f2
  have hWs : s.WarmedH U.vm := State.WarmedH.trans hW0 hW
  have hcl : s.vm.findClass cls = some ce.cls := by
    have h9 := hO.cls
    rw [hvm] at h9
    exact h9
  have hall : s.sameButNew ({ U with vm := s.vm } : State) locs mc ms := by
    subst hA
    obtain ⟨e1, e2⟩ := hsame
    rw [State.setFrames_setFrames] at e1
    have h2 : (T.setVm s.vm).sameButNew ({ U with vm := s.vm } : State) [] (0 + 1) (0 + 6) := ⟨e1, e2⟩
    have h3 := X.same.trans h2
    rw [List.append_nil] at h3
    exact h3.mono hc hs
  refine ⟨U, ?_, .threw T.heap.size, hrun, hend, Or.inr ⟨T.heap.size, rfl, cls, ce, locs, hx U hWs.alike f1 (fun q hq => f2 q hq (fun z hz => nomatch hz)), hce, hO.vm, hcl, hWs, hall, hf⟩⟩
  refine st1 _ ?_
  show Steps p.tables e below (T1.setTop { method := m, pc := pc + 3, locals := ls, stack := .ref T.heap.size :: rest, locked := none }) _
  jvm_step X₁.here [X₁.here.top, hexec, d3', Value.category]
  exact X₁.ldcStringW hexec (own := own) (text := text) (index := is) (a := sa) hown' hstr'.1 hstr'.2
    (g := { method := m, pc := pc + 4, locals := ls, stack := .ref T.heap.size :: .ref T.heap.size :: rest, locked := none }) rfl d4' _ hsteps
end Ends
section Bodies
variable {l : Launch}
theorem vx_ofW {y : MethodName} {ws ws' : List Cond} {rm : Room} {Pc : Array Value → State → Prop} {Qc : Array Value → State → Outcome → State → Prop} {XC : String → State → State → Prop} {mc ms : Nat} {free : Addr → Prop} {cc : ByteArray} {maxL : Nat} {ret : Option FieldType}
    (hy : plainName y.cls = true) (hw : ws = Cond.code y cc maxL ret :: ws')
    (body : ∀ p e s m args below meth c s₁, BodyLoose p l y (headSpec ws rm) cc maxL ret e s m args below meth c s₁ → c.maxLocals = maxL → (∀ x ∈ c.exceptionTable.toList, False) → Pc args s →
      W p l e (headSpec ws rm).room s m args below meth c s.heap [] 0 0 (vx_MQ below Qc XC args s mc ms free) (entryFrame m args maxL)) : vx_Met l y ws rm Pc Qc XC mc ms free := by
  refine MetFree.of_bodyS (code := cc) (maxLocals := maxL) (ret := ret) hy ?_ ?_
  · intro args s m h hn
    obtain ⟨meth, c, h1, h2, h3, h4, h5, h6, -, -⟩ := Cond.code_spec hn (atoms_spec (ws := ws) h _ (by rw [hw]; exact List.mem_cons_self))
    exact ⟨meth, c, h1, h2, h3, h4, h5, h6⟩
  · intro p e s m args below meth c s₁ B hml hP _
    have hh0 : s₁.heap = s.heap := by rw [B.state]; rfl
    have ht : ∀ x ∈ c.exceptionTable.toList, False := by
      obtain ⟨meth9, c9, h1, h2, -, -, -, -, h7, -⟩ := Cond.code_spec B.named (atoms_spec (ws := ws) B.pre _ (by rw [hw]; exact List.mem_cons_self))
      cases Option.some.inj (h1.symm.trans B.method)
      cases Option.some.inj (h2.symm.trans (Stand.of_body B).code)
      intro x hx
      rw [Array.isEmpty_iff.mp h7] at hx
      cases hx
    obtain ⟨t, a1, o, b1, b2, b3⟩ := body p e s m args below meth c s₁ B hml ht hP s₁ hh0 (Stand.of_body B)
    exact ⟨t, o, a1, b1, b2, b3⟩
/-- the table of a body with handlers -/
theorem vx_table {p : Program} {x y : MethodName} {S : Spec} {cc bytes : ByteArray} {maxL maxL' : Nat} {ret ret' : Option FieldType} {e : Env} {s s₁ : State} {m : MethodId} {args : Array Value} {below : List Frame} {meth : Method} {c : Code} {hh : List (Nat × Nat × Nat × Nat)}
    (B : BodyLoose p l y S cc maxL ret e s m args below meth c s₁) (h : (Cond.codeWith y bytes maxL' ret' hh).before args s = true) : c.exceptionTable.toList = tableOf hh := by
  obtain ⟨m9, meth9, c9, hn9, h1, h2, -, -, h6, -⟩ := Cond.codeWith_spec h
  cases Option.some.inj (hn9.symm.trans B.named)
  cases Option.some.inj (h1.symm.trans B.method)
  cases Option.some.inj (h2.symm.trans (Stand.of_body B).code)
  rw [← h6, table_eq]
end Bodies
end VXA
/-! ===== END ===== -/
/-! ===== BEGIN a static call of a method with an exception table ===== -/
section VXS
variable {p : Program} {l : Launch} {e : Env} {R : Room} {s : State} {m : MethodId} {args : Array Value} {below : List Frame} {meth : Method} {c : Code} {T : State} {H : Heap} {locs : List Loc} {cells slots : Nat}
abbrev vx_CSW (R : Room) (s : State) (args : Array Value) (own : String) (index : Nat) (y : MethodName) (bytes : ByteArray) (maxL : Nat) (ret : Option FieldType) (hh : List (Nat × Nat × Nat × Nat)) (ws : List Cond) (rm : Room) (mc ms n : Nat) : Prop :=
  (rm.cells = mc ∧ rm.slots = ms ∧ rm.frames + 1 ≤ R.frames ∧ 8 + (maxL + 11) + rm.locals ≤ R.locals ∧ (∀ w ∈ ws, ∀ (a' : Array Value) (U : State), s.WarmedH U.vm → w.before a' U = true) ∧ Cond.codeWith y bytes maxL ret hh ∈ ws) ∧
  (Cond.codeWith y bytes maxL ret hh).before args s = true ∧ (Cond.initialized y.cls).before args s = true ∧ (y.cls ≠ "java/lang/invoke/MethodHandle" ∧ y.cls ≠ "java/lang/invoke/VarHandle") ∧
  (∀ sig, parseMethodDescriptor y.desc = some sig → n = sig.parameters.length) ∧ (Cond.methodLink own index y).before args s = true ∧ (Cond.static y).before args s = true
theorem vx_cwSW {own : String} {index maxL mc ms : Nat} {y : MethodName} {bytes : ByteArray} {ret : Option FieldType} {hh : List (Nat × Nat × Nat × Nat)} {Ts ws ws' : List Cond} {rm : Room} (n : Nat) (ht : ∀ w ∈ Ts, w.before args s = true) (hT : GoodIn Ts (va_wsS own index y ws)) (hw : ws = Cond.codeWith y bytes maxL ret hh :: ws') (hrc : rm.cells = mc) (hrs : rm.slots = ms)
    (hd : y.cls ≠ "java/lang/invoke/MethodHandle" ∧ y.cls ≠ "java/lang/invoke/VarHandle" ∧ (parseMethodDescriptor y.desc).map (fun d => d.parameters.length) = some n) (hR : rm.frames + 1 ≤ R.frames ∧ 8 + (maxL + 11) + rm.locals ≤ R.locals) :
    vx_CSW R s args own index y bytes maxL ret hh ws rm mc ms n := by
  have ok : ∀ w ∈ va_wsS own index y ws, w.before args s = true := fun w h => ht w (hT w h).1
  have hG : GoodIn Ts ws := fun w h => hT w (by unfold va_wsS; exact List.mem_append_right _ h)
  have hc : Cond.codeWith y bytes maxL ret hh ∈ ws := by rw [hw]; exact List.mem_cons_self
  refine ⟨⟨hrc, hrs, hR.1, hR.2, pay_in ht hG, hc⟩, ht _ (hG _ hc).1, ok _ (by simp [va_wsS]), ⟨hd.1, hd.2.1⟩, fun sig h => ?_, ok _ (by simp [va_wsS]), ok _ (by simp [va_wsS])⟩
  have h2 := hd.2.2
  rw [h] at h2
  exact (Option.some.inj h2).symm
theorem vx_callSW (X : Stand p l e R s m args below meth c T locs cells slots) (hexec : p.tables.exec = Jvm.exec) {own : String} {index : Nat} {y : MethodName} {bytes : ByteArray} {maxL : Nat} {ret : Option FieldType} {hh : List (Nat × Nat × Nat × Nat)}
    (hown : s.vm.findClass own = some m.cls) (hlink : (Cond.methodLink own index y).before args s = true) (hstat : (Cond.static y).before args s = true) (hinit : (Cond.initialized y.cls).before args s = true)
    (hcode : (Cond.codeWith y bytes maxL ret hh).before args s = true) (hy : y.cls ≠ "java/lang/invoke/MethodHandle" ∧ y.cls ≠ "java/lang/invoke/VarHandle")
    {W9 : Nat} {Pre : Pt → Array Value → Prop} {Post : Pt → Array Value → Option Value → Pt → Prop} (hK : Back l R p e below s args y 3 W9 Pre Post)
    {g : JFrame} (hg : g.method = m) (hsize : g.locals.size = c.maxLocals) {argsL rest : List Value} (hlen : ∀ sig, parseMethodDescriptor y.desc = some sig → argsL.length = sig.parameters.length)
    (hstack : g.stack = argsL.reverse ++ rest) (hW : 2 * g.monitorRoom + (rest.map fun v => v.category).sum ≤ W9) (hdg : decode c.code g.pc = .ok (.invokestatic index, 3))
    (hpre : ∀ vm₁, s.WarmedH vm₁ → Pre ⟨T.setVm vm₁, locs, cells, slots⟩ argsL.toArray) :
    ∃ (v : Option Value) (vm₁ : Vm) (B : Pt), s.WarmedH vm₁ ∧ Stand p l e R s m args below meth c B.U B.locs B.cells B.slots ∧ Post ⟨T.setVm vm₁, locs, cells, slots⟩ argsL.toArray v B ∧
      ∀ target, Steps p.tables e below (B.U.setTop { g with pc := g.pc + 3, stack := v.toList ++ rest }) target → Steps p.tables e below (T.setTop g) target := by
  obtain ⟨mk, methM, cM, hnamed, hmethM, -, -, -, -, -, -, hsigM⟩ := Cond.codeWith_spec hcode
  have hstatic : methM.isStatic = true := Cond.static_spec hnamed hmethM hstat
  obtain ⟨kP, hkP, -⟩ := className_of_methodNamed hnamed
  have hinitP : kP.init = .initialized := Cond.initialized_spec (findClass_of_methodNamed hnamed) hkP hinit
  obtain ⟨vm₁, X₁, hstep₁⟩ := X.invokestatic hexec hown hlink hnamed hmethM hstatic hkP hinitP hy (g := g) hg (argsL := argsL) (rest := rest) (hlen _ hsigM) hstack hdg
  obtain ⟨v, B, X', hpost, hsteps⟩ := hK m meth c ⟨T.setVm vm₁, locs, cells, slots⟩ { g with stack := rest } (.invokestatic index) mk argsL.toArray X₁ hg hsize hdg hW (X₁.named hnamed) (hpre vm₁ X₁.warmed)
  exact ⟨v, vm₁, B, X₁.warmed, X', hpost, fun target h => hstep₁ _ fun acts => by rw [doInvoke_state]; exact hsteps.trans h⟩
theorem vx_runSW {y : MethodName} {bytes cc : ByteArray} {maxL nL mc ms n index : Nat} {ret : Option FieldType} {hh : List (Nat × Nat × Nat × Nat)} {ws : List Cond} {rm : Room} {Pc : Array Value → State → Prop} {Qc : Array Value → State → Outcome → State → Prop} {free : Addr → Prop} {Ts : List Cond} {own : String} {As rest : List Value} {g : JFrame}
    (S : CallFix p m c cc nL s args Ts own) (hM : Met l y ws rm Pc Qc mc ms free) (cw : vx_CSW R s args own index y bytes maxL ret hh ws rm mc ms n) (hp : PreS s H Pc As)
    (hg : g.method = m) (hn : As.length = n) (hsize : g.locals.size = nL) (hstack : g.stack = As.reverse ++ rest) (hW : 2 * g.monitorRoom + (rest.map fun v => v.category).sum ≤ 8) (hdg : decode cc g.pc = .ok (.invokestatic index, 3)) (hf : cells + mc ≤ R.cells ∧ slots + ms ≤ R.slots) :
    va_Run p l e R s m args below meth c H locs cells slots mc ms g rest (Qc As.toArray) (free) := by
  obtain ⟨⟨hrc, hrs, hfr, hlo, hws, hcw⟩, hcode, hini, hy, hlen, hl, hstt⟩ := cw
  have hK : Back l R p e below s args y 3 8 (PreOf R mc ms Pc) (PostOf Qc mc ms free) := va_backW (hh := hh) (bytes := bytes) (maxL := maxL) (ret := ret) hM hp.1 hrc hrs hfr hlo hws hcw (fun a' U hW => word_at hW (Or.inl (by first | rfl | simp [Cond.onTables, Cond.keeps, Cond.steady])) hini)
  obtain ⟨hx, hb, hml, ho, -⟩ := S
  intro T hT X
  obtain ⟨v, vm₁, ⟨U', l2, c2, s2⟩, hW₁, X', ⟨g', mk, t, L, e1, e2, hq, h1, hL, h2, h3⟩, st⟩ := vx_callSW X hx (hh := hh) (bytes := bytes) (maxL := maxL) (ret := ret) ho hl hstt hini hcode hy hK hg (hsize.trans hml.symm) (argsL := As) (rest := rest) (fun sig h => hn.trans (hlen sig h)) hstack hW (by rw [hb]; exact hdg)
    (fun vm₁ hW₁ => ⟨hf.1, hf.2, hp.2 (T.setVm vm₁) hT hW₁⟩)
  dsimp only [Pt.U, Pt.locs, Pt.cells, Pt.slots] at X' e1 e2 h1 h2 h3 st
  subst h1; subst h2; subst h3
  exact ⟨v, (T.setVm vm₁).calling g' mk As.toArray, t, U', L, hT, X', hL, e1, e2, hq, st⟩
/-- not caught here, past rows that name other classes: it goes on to the caller -/
theorem vx_outP {p : Program} {l : Launch} {e : Env} {R : Room} {s : State} {m : MethodId} {args : Array Value} {below : List Frame} {meth : Method} {c : Code} {H : Heap} {locs : List Loc} {cells slots : Nat} {free : Addr → Prop} {ls : Array Slot} {rest : List Value} {Qc : Array Value → State → Outcome → State → Prop} {XC : String → State → State → Prop}
    {pc : Nat} {own E : String} {ce : Cell} {q : Addr} {mc ms : Nat} (hown : s.vm.findClass own = some m.cls) (hlocks : meth.locks = false)
    (hpass : ∀ z ∈ c.exceptionTable.toList, covers z pc = false ∨ (z.catchType ≠ 0 ∧ ∃ nm : String, (Cond.classLink own z.catchType nm).before args s = true ∧ va_Nc E nm s)) (hcell : H[q]? = some ce) (hv : ce.vm = .none) (hcl : s.vm.findClass E = some ce.cls)
    (hx : ∀ t : State, t.heap = H → s.vm.Alike t.vm → XC E s t) (hf : ∀ z ∈ locs, free z.base) (hc : cells ≤ mc) (hs : slots ≤ ms) :
    vx_W p l e R s m args below meth c H locs cells slots (vx_MQ below Qc XC args s mc ms free) (F0 m pc ls rest) q := by
  intro T hT X
  have hpl : e.platform.magicAccessors = ({} : Platform).magicAccessors := by rw [X.admits.platform]
  obtain ⟨vm', hW', X', st⟩ := X.outThrough hlocks q (g := F0 m pc ls rest) rfl rfl rfl (cell := ce) (by rw [hT]; exact hcell) (by rw [hv]; rfl)
    (by obtain ⟨k9, h9, -⟩ := Vm.findClass_spec hcl; exact ⟨k9, h9⟩) (fun z hz => by
      rcases hpass z hz with h | ⟨hz0, nm, hl1, hn1⟩
      · exact Or.inl h
      · obtain ⟨c6, hc6, hcl6⟩ := Cond.classLink_spec hown hl1 e.platform hpl
        obtain ⟨a8, b8, h1, h2, h3⟩ := hn1
        cases Option.some.inj (h1.symm.trans hcl)
        cases Option.some.inj (h2.symm.trans hc6)
        exact Or.inr ⟨hz0, _, hcl6, h3⟩)
  obtain ⟨g₀, hfr⟩ := X'.frames_eq
  have hcell9 : ((T.setVm vm').setFrames (.throwing q :: below)).heap[q]? = some ce := by
    show T.heap[q]? = some ce
    rw [hT]; exact hcell
  have hend : Ended ((T.setVm vm').setFrames (.throwing q :: below)) below (.threw q) := State.frames_setFrames _ (State.cur_lt_of_frames hfr)
  refine ⟨(T.setVm vm').setFrames (.throwing q :: below), ?_, .threw q, X'.here.running, hend, Or.inr ⟨q, rfl, E, ce, locs, hx _ hT (X'.ends _).1.alike, hcell9, hv, hcl, (X'.ends _).1, (X'.ends _).2.mono hc hs, hf⟩⟩
  rw [X.pushThrowing_eq]
  exact st
/-- a thing of a world lies in the heap -/
theorem vx_lt {D : va_G} {cl : List vw_C} {ws : va_W} {H1 : Heap} (h : va_P D cl ws H1) {k : Nat} {q : Nat × va_E} (hk : ws[k]? = some q) : q.1 < H1.size := (h k q hk).lt
end VXS
/-! ===== END ===== -/
/-! ===== BEGIN methods with a table of their own: called by a name, returning or throwing ===== -/
section VXH
/-! vx_backW, vx_callVX, vx_callSX, vx_callVW, vx_runVW, vx_runVX, vx_runSX, vx_ofWH follow the same proofs as their sisters above (Free/Laws.lean, Shelf42/LK1.lean); vx_outP calls Shelf42/NT130.lean (outThrough). -/
section
variable {l : Launch} {R : Room} {p : Program} {e : Env} {below : List Frame} {s : State} {sargs : Array Value} {y : MethodName} {len W9 : Nat}
theorem vx_backW {ws : List Cond} {rm : Room} {Pc : Array Value → State → Prop} {Qc : Array Value → State → Outcome → State → Prop} {XC : String → State → State → Prop} {mc ms : Nat} {free : Addr → Prop} {bytes : ByteArray} {maxL : Nat} {ret : Option FieldType} {hh : List (Nat × Nat × Nat × Nat)}
    (hM : vx_Met l y ws rm Pc Qc XC mc ms free) (hblind : FrameBlind Pc) (hrc : rm.cells = mc) (hrs : rm.slots = ms)
    (hframes : rm.frames + 1 ≤ R.frames) (hlocals : W9 + (maxL + 11) + rm.locals ≤ R.locals)
    (hws : ∀ w ∈ ws, ∀ a' U, s.WarmedH U.vm → w.before a' U = true) (hcode : Cond.codeWith y bytes maxL ret hh ∈ ws) (hinit : ∀ a' U, s.WarmedH U.vm → (Cond.initialized y.cls).before a' U = true) :
    vx_Back l R p e below s sargs y len W9 (PreOf R mc ms Pc) (PostOf Qc mc ms free) (vx_Post XC mc ms free) := by
  intro m meth c A g ig mk a X hg hsize hdg hW hn hp
  have h1 : (headSpec ws rm).pre.before a A.U = true := atoms_intro fun w hw => hws w hw _ _ X.warmed
  have h2 : (Cond.codeWith y bytes maxL ret hh).before a A.U = true := hws _ hcode _ _ X.warmed
  have h3 : (Cond.initialized y.cls).before a A.U = true := hinit _ _ X.warmed
  have h4 : A.cells + (headSpec ws rm).room.cells ≤ R.cells := by rw [show (headSpec ws rm).room.cells = mc from hrc]; exact hp.1
  have h5 : A.slots + (headSpec ws rm).room.slots ≤ R.slots := by rw [show (headSpec ws rm).room.slots = ms from hrs]; exact hp.2.1
  have hPc : Pc a (A.U.calling g mk a) := hblind _ _ _ _ hp.2.2
  obtain ⟨U, Ls, c0, s0⟩ := A
  dsimp only [Pt.U, Pt.locs, Pt.cells, Pt.slots] at h1 h2 h3 h4 h5 X hn hPc ⊢
  obtain ⟨m9, methY, cY, hn9, hmY, hcY, -, hlY, -⟩ := Cond.codeWith_spec h2
  cases Option.some.inj (hn9.symm.trans hn)
  obtain ⟨kY, hkY, -⟩ := className_of_methodNamed hn
  have hinitY : kY.init = .initialized := Cond.initialized_spec (findClass_of_methodNamed hn) hkY h3
  have h : At U g.method c below := by rw [hg]; exact X.here
  have hlocals9 : W9 + (maxL + 11) + (headSpec ws rm).room.locals ≤ R.locals := hlocals
  have happ : (headSpec ws rm).appliesLoose y e.platform (U.calling g mk a) = true :=
    Spec.appliesLoose_calling (g := g) h hdg hn hkY hinitY
      (X.room_calling (g := g) (R' := (headSpec ws rm).room) hsize hmY hcY hframes (by rw [hlY]; omega) h4 h5) h1
  obtain ⟨mid, hmid⟩ := h.above
  have hfr : (U.setTop g).frames = (.java g :: mid) ++ below := by rw [State.frames_setTop' g h.top, hmid]; rfl
  obtain ⟨o, s₂, hsteps, -, hend, hq⟩ := Steps.callFree hM p X.admits X.cas X.clock (acts := []) hfr happ hPc trivial
  have hq' : vx_Q Qc XC mc ms free a (U.calling g mk a) o s₂ := hq
  rw [State.frames_setTop' g h.top] at hend
  obtain ⟨g₀, hg0⟩ := Option.isSome_iff_exists.mp h.top
  obtain ⟨r, hr⟩ := State.topJava?_eq_some.mp hg0
  have hr' : (({ U with heap := s₂.heap, slotsUsed := s₂.slotsUsed } : State).setVm s₂.vm).frames = .java g₀ :: r := hr
  rcases hq' with ⟨hqc, L, hfe, hL⟩ | ⟨q, rfl, E, ce, L, hx, hce, hcv, hcl, hW₂, hsm, hL⟩
  · obtain ⟨⟨v, rfl⟩, hW₂, e2, q2, q3, q4, q5, q6⟩ := id hfe
    have e3 : s₂ = ({ (U.calling g mk a).setFrames s₂.frames with heap := s₂.heap, slotsUsed := s₂.slotsUsed } : State).setVm s₂.vm := by
      have : s₂ = ({ s₂ with vm := (U.calling g mk a).vm } : State).setVm s₂.vm := rfl
      rw [e2] at this
      exact this
    obtain ⟨c₂, i₂, len₂, hc₂, hd₂, hf₂⟩ := hend
    have hW' : U.WarmedH s₂.vm := hW₂
    have hcc : c₂ = c := by
      have h1 : s₂.code? g.method = U.code? g.method := by
        rw [State.code?_eq, State.code?_eq, hW'.alike.method?]
      exact Option.some.inj (hc₂.symm.trans (h1.trans h.code))
    subst hcc
    have hlen : len₂ = len := by rw [hdg] at hd₂; cases hd₂; rfl
    subst hlen
    have hs₂ : s₂ = (({ U with heap := s₂.heap, slotsUsed := s₂.slotsUsed } : State).setVm s₂.vm).setTop { g with pc := g.pc + len₂, stack := v.toList ++ g.stack } := by
      refine e3.trans ?_
      rw [hf₂, State.calling_eq h.top, State.setFrames_setFrames, State.setTop_of_frames _ hr', hr]
      rfl
    have hsame : U.sameButNew ({ U with heap := s₂.heap, slotsUsed := s₂.slotsUsed } : State) L mc ms := by
      refine ⟨?_, q2, q3, q4, q5, q6⟩
      obtain ⟨t, ht, -⟩ := State.frames_cons hr
      show ({ U with heap := s₂.heap, slotsUsed := s₂.slotsUsed } : State) = { U.setFrames U.frames with heap := s₂.heap, slotsUsed := s₂.slotsUsed }
      rw [State.setFrames_self ht]
    subst hg
    refine Or.inl ⟨v, ⟨(({ U with heap := s₂.heap, slotsUsed := s₂.slotsUsed } : State).setVm s₂.vm), Ls ++ L, c0 + mc, s0 + ms⟩,
      ⟨X.admits, X.cas, X.clock, X.frames, X.room, X.hears, X.method, X.code, (X.here.setHeapUsed s₂.heap s₂.slotsUsed).setVm hW'.alike, X.tail, State.WarmedH.trans X.warmed hW', X.limits, X.bytes, X.same.trans (hsame.setVm s.vm)⟩,
      ⟨g, mk, s₂, L, rfl, rfl, hqc, rfl, hL, rfl, rfl⟩, ?_⟩
    show Steps p.tables e below _ ((({ U with heap := s₂.heap, slotsUsed := s₂.slotsUsed } : State).setVm s₂.vm).setTop { g with pc := g.pc + len₂, stack := v.toList ++ g.stack })
    rw [← hs₂]
    exact hsteps
  · obtain ⟨e2, q2, q3, q4, q5, q6⟩ := id hsm
    have e3 : s₂ = ({ (U.calling g mk a).setFrames s₂.frames with heap := s₂.heap, slotsUsed := s₂.slotsUsed } : State).setVm s₂.vm := by
      have : s₂ = ({ s₂ with vm := (U.calling g mk a).vm } : State).setVm s₂.vm := rfl
      rw [e2] at this
      exact this
    have hf₂ : s₂.frames = .throwing q :: .java g :: U.frames.tail := hend
    have hW' : U.WarmedH s₂.vm := hW₂
    have hs₂ : s₂ = ((({ U with heap := s₂.heap, slotsUsed := s₂.slotsUsed } : State).setVm s₂.vm).setTop g).pushFrame (.throwing q) := by
      refine e3.trans ?_
      rw [hf₂, State.calling_eq h.top, State.setFrames_setFrames, State.pushFrame, State.frames_setTop _ hr', State.setTop_of_frames _ hr', State.setFrames_setFrames, hr]
      rfl
    have hsame : U.sameButNew ({ U with heap := s₂.heap, slotsUsed := s₂.slotsUsed } : State) L mc ms := by
      refine ⟨?_, q2, q3, q4, q5, q6⟩
      obtain ⟨t, ht, -⟩ := State.frames_cons hr
      show ({ U with heap := s₂.heap, slotsUsed := s₂.slotsUsed } : State) = { U.setFrames U.frames with heap := s₂.heap, slotsUsed := s₂.slotsUsed }
      rw [State.setFrames_self ht]
    subst hg
    refine Or.inr ⟨q, ⟨(({ U with heap := s₂.heap, slotsUsed := s₂.slotsUsed } : State).setVm s₂.vm), Ls ++ L, c0 + mc, s0 + ms⟩,
      ⟨X.admits, X.cas, X.clock, X.frames, X.room, X.hears, X.method, X.code, (X.here.setHeapUsed s₂.heap s₂.slotsUsed).setVm hW'.alike, X.tail, State.WarmedH.trans X.warmed hW', X.limits, X.bytes, X.same.trans (hsame.setVm s.vm)⟩,
      ⟨g, mk, s₂, L, E, ce, rfl, rfl, hx, hce, hcv, hcl, rfl, hL, rfl, rfl⟩, ?_⟩
    show Steps p.tables e below _ (((({ U with heap := s₂.heap, slotsUsed := s₂.slotsUsed } : State).setVm s₂.vm).setTop g).pushFrame (.throwing q))
    rw [← hs₂]
    exact hsteps
end
variable {p : Program} {l : Launch} {e : Env} {R : Room} {s : State} {m : MethodId} {args : Array Value} {below : List Frame} {meth : Method} {c : Code} {T : State} {H : Heap} {locs : List Loc} {cells slots : Nat}
theorem vx_callVX (X : Stand p l e R s m args below meth c T locs cells slots) (hexec : p.tables.exec = Jvm.exec) {own C : String} {index : Nat} {y : MethodName} {bytes : ByteArray} {maxL : Nat} {ret : Option FieldType} {hh : List (Nat × Nat × Nat × Nat)}
    (hown : s.vm.findClass own = some m.cls) (hlink : (Cond.methodLink own index y).before args s = true) (hinst : (Cond.instanceMethod y).before args s = true) (hsel : (Cond.selects C y y).before args s = true)
    (hcode : (Cond.codeWith y bytes maxL ret hh).before args s = true) (hy : y.cls ≠ "java/lang/invoke/MethodHandle" ∧ y.cls ≠ "java/lang/invoke/VarHandle")
    {W9 : Nat} {Pre : Pt → Array Value → Prop} {Post : Pt → Array Value → Option Value → Pt → Prop} {PostX : Pt → Array Value → Addr → Pt → Prop} (hK : vx_Back l R p e below s args y 3 W9 Pre Post PostX)
    {b : Addr} {cellB : Cell} (hcell : T.heap[b]? = some cellB) (hobj : cellB.vm.isStatics = false) (hcls : s.vm.findClass C = some cellB.cls)
    {g : JFrame} (hg : g.method = m) (hsize : g.locals.size = c.maxLocals) {argsL rest : List Value} (hlen : ∀ sig, parseMethodDescriptor y.desc = some sig → argsL.length = sig.parameters.length)
    (hstack : g.stack = argsL.reverse ++ .ref b :: rest) (hW : 2 * g.monitorRoom + (rest.map fun v => v.category).sum ≤ W9) (hdg : decode c.code g.pc = .ok (.invokevirtual index, 3))
    (hpre : ∀ vm₁, s.WarmedH vm₁ → Pre ⟨T.setVm vm₁, locs, cells, slots⟩ (Value.ref b :: argsL).toArray) :
    (∃ (v : Option Value) (vm₁ : Vm) (B : Pt), s.WarmedH vm₁ ∧ Stand p l e R s m args below meth c B.U B.locs B.cells B.slots ∧ Post ⟨T.setVm vm₁, locs, cells, slots⟩ (Value.ref b :: argsL).toArray v B ∧
      ∀ target, Steps p.tables e below (B.U.setTop { g with pc := g.pc + 3, stack := v.toList ++ rest }) target → Steps p.tables e below (T.setTop g) target) ∨
    (∃ (q : Addr) (vm₁ : Vm) (B : Pt), s.WarmedH vm₁ ∧ Stand p l e R s m args below meth c B.U B.locs B.cells B.slots ∧ PostX ⟨T.setVm vm₁, locs, cells, slots⟩ (Value.ref b :: argsL).toArray q B ∧
      Steps p.tables e below (T.setTop g) ((B.U.setTop { g with stack := rest }).pushFrame (.throwing q))) := by
  obtain ⟨mk, methM, hnamed, hmethM, hstM, habM⟩ := Cond.instanceMethod_spec hinst
  obtain ⟨m8, methM', cM, hn8, hmethM', -, -, -, -, -, -, hsigM⟩ := Cond.codeWith_spec hcode
  cases Option.some.inj (hn8.symm.trans hnamed)
  cases hmethM.symm.trans hmethM'
  obtain ⟨c2, r2, m2, q1, q2, q3, q4, kP, hkP, hkPi⟩ := Cond.selects_spec hsel
  cases hcls.symm.trans q1
  cases (State.methodFound?_of_named hnamed hy).symm.trans q2
  cases hnamed.symm.trans q3
  have hselP : selectMethod e.platform s.vm cellB.cls mk = .method mk := by rw [Launch.admits_selectMethod X.admits]; exact q4
  obtain ⟨vm₁, X₁, hstep₁⟩ := X.invokevirtual hexec hown hlink hnamed hmethM hstM hkP hkPi hy (a := b) (cell := cellB) hcell
    (fun z h => by rw [h] at hobj; cases hobj) hselP hmethM habM hkP hkPi (g := g) hg (argsL := argsL) (rest := rest) (hlen _ hsigM) hstack hdg
  rcases hK m meth c ⟨T.setVm vm₁, locs, cells, slots⟩ { g with stack := rest } (.invokevirtual index) mk (Value.ref b :: argsL).toArray X₁ hg hsize hdg hW (X₁.named hnamed) (hpre vm₁ X₁.warmed) with ⟨v, B, X', hpost, hsteps⟩ | ⟨q, B, X', hpost, hsteps⟩
  · exact Or.inl ⟨v, vm₁, B, X₁.warmed, X', hpost, fun target h => hstep₁ _ fun acts => by rw [doInvoke_state]; exact hsteps.trans h⟩
  · exact Or.inr ⟨q, vm₁, B, X₁.warmed, X', hpost, hstep₁ _ fun acts => by rw [doInvoke_state]; exact hsteps⟩
theorem vx_callSX (X : Stand p l e R s m args below meth c T locs cells slots) (hexec : p.tables.exec = Jvm.exec) {own : String} {index : Nat} {y : MethodName} {bytes : ByteArray} {maxL : Nat} {ret : Option FieldType} {hh : List (Nat × Nat × Nat × Nat)}
    (hown : s.vm.findClass own = some m.cls) (hlink : (Cond.methodLink own index y).before args s = true) (hstat : (Cond.static y).before args s = true) (hinit : (Cond.initialized y.cls).before args s = true)
    (hcode : (Cond.codeWith y bytes maxL ret hh).before args s = true) (hy : y.cls ≠ "java/lang/invoke/MethodHandle" ∧ y.cls ≠ "java/lang/invoke/VarHandle")
    {W9 : Nat} {Pre : Pt → Array Value → Prop} {Post : Pt → Array Value → Option Value → Pt → Prop} {PostX : Pt → Array Value → Addr → Pt → Prop} (hK : vx_Back l R p e below s args y 3 W9 Pre Post PostX)
    {g : JFrame} (hg : g.method = m) (hsize : g.locals.size = c.maxLocals) {argsL rest : List Value} (hlen : ∀ sig, parseMethodDescriptor y.desc = some sig → argsL.length = sig.parameters.length)
    (hstack : g.stack = argsL.reverse ++ rest) (hW : 2 * g.monitorRoom + (rest.map fun v => v.category).sum ≤ W9) (hdg : decode c.code g.pc = .ok (.invokestatic index, 3))
    (hpre : ∀ vm₁, s.WarmedH vm₁ → Pre ⟨T.setVm vm₁, locs, cells, slots⟩ argsL.toArray) :
    (∃ (v : Option Value) (vm₁ : Vm) (B : Pt), s.WarmedH vm₁ ∧ Stand p l e R s m args below meth c B.U B.locs B.cells B.slots ∧ Post ⟨T.setVm vm₁, locs, cells, slots⟩ argsL.toArray v B ∧
      ∀ target, Steps p.tables e below (B.U.setTop { g with pc := g.pc + 3, stack := v.toList ++ rest }) target → Steps p.tables e below (T.setTop g) target) ∨
    (∃ (q : Addr) (vm₁ : Vm) (B : Pt), s.WarmedH vm₁ ∧ Stand p l e R s m args below meth c B.U B.locs B.cells B.slots ∧ PostX ⟨T.setVm vm₁, locs, cells, slots⟩ argsL.toArray q B ∧
      Steps p.tables e below (T.setTop g) ((B.U.setTop { g with stack := rest }).pushFrame (.throwing q))) := by
  obtain ⟨mk, methM, cM, hnamed, hmethM, -, -, -, -, -, -, hsigM⟩ := Cond.codeWith_spec hcode
  have hstatic : methM.isStatic = true := Cond.static_spec hnamed hmethM hstat
  obtain ⟨kP, hkP, -⟩ := className_of_methodNamed hnamed
  have hinitP : kP.init = .initialized := Cond.initialized_spec (findClass_of_methodNamed hnamed) hkP hinit
  obtain ⟨vm₁, X₁, hstep₁⟩ := X.invokestatic hexec hown hlink hnamed hmethM hstatic hkP hinitP hy (g := g) hg (argsL := argsL) (rest := rest) (hlen _ hsigM) hstack hdg
  rcases hK m meth c ⟨T.setVm vm₁, locs, cells, slots⟩ { g with stack := rest } (.invokestatic index) mk argsL.toArray X₁ hg hsize hdg hW (X₁.named hnamed) (hpre vm₁ X₁.warmed) with ⟨v, B, X', hpost, hsteps⟩ | ⟨q, B, X', hpost, hsteps⟩
  · exact Or.inl ⟨v, vm₁, B, X₁.warmed, X', hpost, fun target h => hstep₁ _ fun acts => by rw [doInvoke_state]; exact hsteps.trans h⟩
  · exact Or.inr ⟨q, vm₁, B, X₁.warmed, X', hpost, hstep₁ _ fun acts => by rw [doInvoke_state]; exact hsteps⟩
theorem vx_callVW (X : Stand p l e R s m args below meth c T locs cells slots) (hexec : p.tables.exec = Jvm.exec) {own C : String} {index : Nat} {y : MethodName} {bytes : ByteArray} {maxL : Nat} {ret : Option FieldType} {hh : List (Nat × Nat × Nat × Nat)}
    (hown : s.vm.findClass own = some m.cls) (hlink : (Cond.methodLink own index y).before args s = true) (hinst : (Cond.instanceMethod y).before args s = true) (hsel : (Cond.selects C y y).before args s = true)
    (hcode : (Cond.codeWith y bytes maxL ret hh).before args s = true) (hy : y.cls ≠ "java/lang/invoke/MethodHandle" ∧ y.cls ≠ "java/lang/invoke/VarHandle")
    {W9 : Nat} {Pre : Pt → Array Value → Prop} {Post : Pt → Array Value → Option Value → Pt → Prop} (hK : Back l R p e below s args y 3 W9 Pre Post)
    {b : Addr} {cellB : Cell} (hcell : T.heap[b]? = some cellB) (hobj : cellB.vm.isStatics = false) (hcls : s.vm.findClass C = some cellB.cls)
    {g : JFrame} (hg : g.method = m) (hsize : g.locals.size = c.maxLocals) {argsL rest : List Value} (hlen : ∀ sig, parseMethodDescriptor y.desc = some sig → argsL.length = sig.parameters.length)
    (hstack : g.stack = argsL.reverse ++ .ref b :: rest) (hW : 2 * g.monitorRoom + (rest.map fun v => v.category).sum ≤ W9) (hdg : decode c.code g.pc = .ok (.invokevirtual index, 3))
    (hpre : ∀ vm₁, s.WarmedH vm₁ → Pre ⟨T.setVm vm₁, locs, cells, slots⟩ (Value.ref b :: argsL).toArray) :
    ∃ (v : Option Value) (vm₁ : Vm) (B : Pt), s.WarmedH vm₁ ∧ Stand p l e R s m args below meth c B.U B.locs B.cells B.slots ∧ Post ⟨T.setVm vm₁, locs, cells, slots⟩ (Value.ref b :: argsL).toArray v B ∧
      ∀ target, Steps p.tables e below (B.U.setTop { g with pc := g.pc + 3, stack := v.toList ++ rest }) target → Steps p.tables e below (T.setTop g) target := by
  obtain ⟨mk, methM, hnamed, hmethM, hstM, habM⟩ := Cond.instanceMethod_spec hinst
  obtain ⟨m8, methM', cM, hn8, hmethM', -, -, -, -, -, -, hsigM⟩ := Cond.codeWith_spec hcode
  cases Option.some.inj (hn8.symm.trans hnamed)
  cases hmethM.symm.trans hmethM'
  obtain ⟨c2, r2, m2, q1, q2, q3, q4, kP, hkP, hkPi⟩ := Cond.selects_spec hsel
  cases hcls.symm.trans q1
  cases (State.methodFound?_of_named hnamed hy).symm.trans q2
  cases hnamed.symm.trans q3
  have hselP : selectMethod e.platform s.vm cellB.cls mk = .method mk := by rw [Launch.admits_selectMethod X.admits]; exact q4
  obtain ⟨vm₁, X₁, hstep₁⟩ := X.invokevirtual hexec hown hlink hnamed hmethM hstM hkP hkPi hy (a := b) (cell := cellB) hcell
    (fun z h => by rw [h] at hobj; cases hobj) hselP hmethM habM hkP hkPi (g := g) hg (argsL := argsL) (rest := rest) (hlen _ hsigM) hstack hdg
  obtain ⟨v, B, X', hpost, hsteps⟩ := hK m meth c ⟨T.setVm vm₁, locs, cells, slots⟩ { g with stack := rest } (.invokevirtual index) mk (Value.ref b :: argsL).toArray X₁ hg hsize hdg hW (X₁.named hnamed) (hpre vm₁ X₁.warmed)
  exact ⟨v, vm₁, B, X₁.warmed, X', hpost, fun target h => hstep₁ _ fun acts => by rw [doInvoke_state]; exact hsteps.trans h⟩
abbrev vx_CVW (R : Room) (s : State) (args : Array Value) (own C : String) (index : Nat) (y : MethodName) (bytes : ByteArray) (maxL : Nat) (ret : Option FieldType) (hh : List (Nat × Nat × Nat × Nat)) (ws : List Cond) (rm : Room) (mc ms n : Nat) : Prop :=
  (rm.cells = mc ∧ rm.slots = ms ∧ rm.frames + 1 ≤ R.frames ∧ 8 + (maxL + 11) + rm.locals ≤ R.locals ∧ (∀ w ∈ ws, ∀ (a' : Array Value) (U : State), s.WarmedH U.vm → w.before a' U = true) ∧ Cond.codeWith y bytes maxL ret hh ∈ ws) ∧
  (Cond.codeWith y bytes maxL ret hh).before args s = true ∧ (Cond.initialized y.cls).before args s = true ∧ (y.cls ≠ "java/lang/invoke/MethodHandle" ∧ y.cls ≠ "java/lang/invoke/VarHandle") ∧
  (∀ sig, parseMethodDescriptor y.desc = some sig → n = sig.parameters.length) ∧ (Cond.methodLink own index y).before args s = true ∧ (Cond.instanceMethod y).before args s = true ∧ (Cond.selects C y y).before args s = true
theorem vx_cwVW {own C : String} {index maxL mc ms : Nat} {y : MethodName} {bytes : ByteArray} {ret : Option FieldType} {hh : List (Nat × Nat × Nat × Nat)} {Ts ws ws' : List Cond} {rm : Room} (n : Nat) (ht : ∀ w ∈ Ts, w.before args s = true) (hT : GoodIn Ts (wsV own index C y ws)) (hw : ws = Cond.codeWith y bytes maxL ret hh :: ws') (hrc : rm.cells = mc) (hrs : rm.slots = ms)
    (hd : y.cls = C ∧ y.cls ≠ "java/lang/invoke/MethodHandle" ∧ y.cls ≠ "java/lang/invoke/VarHandle" ∧ (parseMethodDescriptor y.desc).map (fun d => d.parameters.length) = some n) (hR : rm.frames + 1 ≤ R.frames ∧ 8 + (maxL + 11) + rm.locals ≤ R.locals) :
    vx_CVW R s args own C index y bytes maxL ret hh ws rm mc ms n := by
  obtain ⟨hC, hd⟩ := hd
  subst hC
  have ok : ∀ w ∈ wsV own index y.cls y ws, w.before args s = true := fun w h => ht w (hT w h).1
  have hG : GoodIn Ts ws := fun w h => hT w (by unfold wsV; exact List.mem_append_right _ h)
  have hc : Cond.codeWith y bytes maxL ret hh ∈ ws := by rw [hw]; exact List.mem_cons_self
  refine ⟨⟨hrc, hrs, hR.1, hR.2, pay_in ht hG, hc⟩, ht _ (hG _ hc).1, ok _ (by simp [wsV]), ⟨hd.1, hd.2.1⟩, fun sig h => ?_, ok _ (by simp [wsV]), ok _ (by simp [wsV]), ok _ (by simp [wsV])⟩
  have h2 := hd.2.2
  rw [h] at h2
  exact (Option.some.inj h2).symm
theorem vx_runVW {y : MethodName} {bytes cc : ByteArray} {maxL nL mc ms n index : Nat} {ret : Option FieldType} {hh : List (Nat × Nat × Nat × Nat)} {ws : List Cond} {rm : Room} {Pc : Array Value → State → Prop} {Qc : Array Value → State → Outcome → State → Prop} {free : Addr → Prop} {Ts : List Cond} {own C : String} {b : Addr} {As rest : List Value} {g : JFrame}
    (S : CallFix p m c cc nL s args Ts own) (hM : Met l y ws rm Pc Qc mc ms free) (cw : vx_CVW R s args own C index y bytes maxL ret hh ws rm mc ms n) (hp : PreV s H C b Pc As)
    (hg : g.method = m) (hn : As.length = n) (hsize : g.locals.size = nL) (hstack : g.stack = As.reverse ++ .ref b :: rest) (hW : 2 * g.monitorRoom + (rest.map fun v => v.category).sum ≤ 8) (hdg : decode cc g.pc = .ok (.invokevirtual index, 3)) (hf : cells + mc ≤ R.cells ∧ slots + ms ≤ R.slots) :
    va_Run p l e R s m args below meth c H locs cells slots mc ms g rest (Qc (Value.ref b :: As).toArray) free := by
  obtain ⟨⟨hrc, hrs, hfr, hlo, hws, hcw⟩, hcode, hini, hy, hlen, hl, hin, hse⟩ := cw
  have hK : Back l R p e below s args y 3 8 (PreOf R mc ms Pc) (PostOf Qc mc ms free) := va_backW (hh := hh) (bytes := bytes) (maxL := maxL) (ret := ret) hM hp.1 hrc hrs hfr hlo hws hcw (fun a' U hW => word_at hW (Or.inl (by first | rfl | simp [Cond.onTables, Cond.keeps, Cond.steady])) hini)
  obtain ⟨hx, hb, hml, ho, -⟩ := S
  obtain ⟨-, ⟨cellB, hcB, hoB, hclB⟩, hPc⟩ := hp
  intro T hT X
  obtain ⟨v, vm₁, ⟨U', l2, c2, s2⟩, hW₁, X', ⟨g', mk, t, L, e1, e2, hq, h1, hL, h2, h3⟩, st⟩ := vx_callVW X hx (C := C) (hh := hh) (bytes := bytes) (maxL := maxL) (ret := ret) ho hl hin hse hcode hy hK (by rw [hT]; exact hcB) hoB hclB hg (hsize.trans hml.symm) (argsL := As) (rest := rest) (fun sig h => hn.trans (hlen sig h)) hstack hW (by rw [hb]; exact hdg)
    (fun vm₁ hW₁ => ⟨hf.1, hf.2, hPc (T.setVm vm₁) hT hW₁⟩)
  dsimp only [Pt.U, Pt.locs, Pt.cells, Pt.slots] at X' e1 e2 h1 h2 h3 st
  subst h1; subst h2; subst h3
  exact ⟨v, (T.setVm vm₁).calling g' mk (Value.ref b :: As).toArray, t, U', L, hT, X', hL, e1, e2, hq, st⟩
section
variable {y : MethodName} {bytes cc : ByteArray} {maxL nL mc ms n index : Nat} {ret : Option FieldType} {ws : List Cond} {rm : Room} {Pc : Array Value → State → Prop} {Qc : Array Value → State → Outcome → State → Prop} {XC : String → State → State → Prop} {free : Addr → Prop} {Ts : List Cond} {own C : String} {b : Addr} {As rest : List Value} {g : JFrame}
theorem vx_runVX {hh : List (Nat × Nat × Nat × Nat)} (S : CallFix p m c cc nL s args Ts own) (hM : vx_Met l y ws rm Pc Qc XC mc ms free) (cw : vx_CVW R s args own C index y bytes maxL ret hh ws rm mc ms n) (hp : PreV s H C b Pc As)
    (hg : g.method = m) (hn : As.length = n) (hsize : g.locals.size = nL) (hstack : g.stack = As.reverse ++ .ref b :: rest) (hW : 2 * g.monitorRoom + (rest.map fun v => v.category).sum ≤ 8) (hdg : decode cc g.pc = .ok (.invokevirtual index, 3)) (hf : cells + mc ≤ R.cells ∧ slots + ms ≤ R.slots) :
    vx_Run p l e R s m args below meth c H locs cells slots mc ms g rest (Qc (Value.ref b :: As).toArray) XC free := by
  obtain ⟨⟨hrc, hrs, hfr, hlo, hws, hcw⟩, hcode, hini, hy, hlen, hl, hin, hse⟩ := cw
  have hK : vx_Back l R p e below s args y 3 8 (PreOf R mc ms Pc) (PostOf Qc mc ms free) (vx_Post XC mc ms free) := vx_backW (hh := hh) (bytes := bytes) (maxL := maxL) (ret := ret) hM hp.1 hrc hrs hfr hlo hws hcw (fun a' U hW => word_at hW (Or.inl (by first | rfl | simp [Cond.onTables, Cond.keeps, Cond.steady])) hini)
  obtain ⟨hx, hb, hml, ho, -⟩ := S
  obtain ⟨-, ⟨cellB, hcB, hoB, hclB⟩, hPc⟩ := hp
  intro T hT X
  rcases vx_callVX X hx (C := C) (hh := hh) (bytes := bytes) (maxL := maxL) (ret := ret) ho hl hin hse hcode hy hK (by rw [hT]; exact hcB) hoB hclB hg (hsize.trans hml.symm) (argsL := As) (rest := rest) (fun sig h => hn.trans (hlen sig h)) hstack hW (by rw [hb]; exact hdg)
    (fun vm₁ hW₁ => ⟨hf.1, hf.2, hPc (T.setVm vm₁) hT hW₁⟩) with ⟨v, vm₁, ⟨U', l2, c2, s2⟩, hW₁, X', ⟨g', mk, t, L, e1, e2, hq, h1, hL, h2, h3⟩, st⟩ | ⟨q, vm₁, ⟨U', l2, c2, s2⟩, hW₁, X', ⟨g', mk, t, L, E, ce, e1, e2, hq, hce, hcv, hcl, h1, hL, h2, h3⟩, st⟩
  · dsimp only [Pt.U, Pt.locs, Pt.cells, Pt.slots] at X' e1 e2 h1 h2 h3 st
    subst h1; subst h2; subst h3
    exact Or.inl ⟨v, (T.setVm vm₁).calling g' mk (Value.ref b :: As).toArray, t, U', L, hT, X', hL, e1, e2, hq, st⟩
  · dsimp only [Pt.U, Pt.locs, Pt.cells, Pt.slots] at X' e1 e2 h1 h2 h3 st hcl
    subst h1; subst h2; subst h3
    exact Or.inr ⟨q, (T.setVm vm₁).calling g' mk (Value.ref b :: As).toArray, t, U', L, E, ce, hT, X', hL, e1, e2, hq, hce, hcv, vx_cls hW₁ hcl, st⟩
theorem vx_runSX {hh : List (Nat × Nat × Nat × Nat)} (S : CallFix p m c cc nL s args Ts own) (hM : vx_Met l y ws rm Pc Qc XC mc ms free) (cw : vx_CSW R s args own index y bytes maxL ret hh ws rm mc ms n) (hp : PreS s H Pc As)
    (hg : g.method = m) (hn : As.length = n) (hsize : g.locals.size = nL) (hstack : g.stack = As.reverse ++ rest) (hW : 2 * g.monitorRoom + (rest.map fun v => v.category).sum ≤ 8) (hdg : decode cc g.pc = .ok (.invokestatic index, 3)) (hf : cells + mc ≤ R.cells ∧ slots + ms ≤ R.slots) :
    vx_Run p l e R s m args below meth c H locs cells slots mc ms g rest (Qc As.toArray) XC free := by
  obtain ⟨⟨hrc, hrs, hfr, hlo, hws, hcw⟩, hcode, hini, hy, hlen, hl, hstt⟩ := cw
  have hK : vx_Back l R p e below s args y 3 8 (PreOf R mc ms Pc) (PostOf Qc mc ms free) (vx_Post XC mc ms free) := vx_backW (hh := hh) (bytes := bytes) (maxL := maxL) (ret := ret) hM hp.1 hrc hrs hfr hlo hws hcw (fun a' U hW => word_at hW (Or.inl (by first | rfl | simp [Cond.onTables, Cond.keeps, Cond.steady])) hini)
  obtain ⟨hx, hb, hml, ho, -⟩ := S
  intro T hT X
  rcases vx_callSX X hx (hh := hh) (bytes := bytes) (maxL := maxL) (ret := ret) ho hl hstt hini hcode hy hK hg (hsize.trans hml.symm) (argsL := As) (rest := rest) (fun sig h => hn.trans (hlen sig h)) hstack hW (by rw [hb]; exact hdg)
    (fun vm₁ hW₁ => ⟨hf.1, hf.2, hp.2 (T.setVm vm₁) hT hW₁⟩) with ⟨v, vm₁, ⟨U', l2, c2, s2⟩, hW₁, X', ⟨g', mk, t, L, e1, e2, hq, h1, hL, h2, h3⟩, st⟩ | ⟨q, vm₁, ⟨U', l2, c2, s2⟩, hW₁, X', ⟨g', mk, t, L, E, ce, e1, e2, hq, hce, hcv, hcl, h1, hL, h2, h3⟩, st⟩
  · dsimp only [Pt.U, Pt.locs, Pt.cells, Pt.slots] at X' e1 e2 h1 h2 h3 st
    subst h1; subst h2; subst h3
    exact Or.inl ⟨v, (T.setVm vm₁).calling g' mk As.toArray, t, U', L, hT, X', hL, e1, e2, hq, st⟩
  · dsimp only [Pt.U, Pt.locs, Pt.cells, Pt.slots] at X' e1 e2 h1 h2 h3 st hcl
    subst h1; subst h2; subst h3
    exact Or.inr ⟨q, (T.setVm vm₁).calling g' mk As.toArray, t, U', L, E, ce, hT, X', hL, e1, e2, hq, hce, hcv, vx_cls hW₁ hcl, st⟩
end
end VXH
theorem vx_ofWH {l : Launch} {y : MethodName} {ws ws' : List Cond} {rm : Room} {Pc : Array Value → State → Prop} {Qc : Array Value → State → Outcome → State → Prop} {XC : String → State → State → Prop} {mc ms : Nat} {free : Addr → Prop} {cc : ByteArray} {maxL : Nat} {ret : Option FieldType} {hh : List (Nat × Nat × Nat × Nat)}
    (hy : plainName y.cls = true) (hw : ws = Cond.codeWith y cc maxL ret hh :: ws')
    (body : ∀ p e s m args below meth c s₁, BodyLoose p l y (headSpec ws rm) cc maxL ret e s m args below meth c s₁ → c.maxLocals = maxL → Pc args s →
      W p l e (headSpec ws rm).room s m args below meth c s.heap [] 0 0 (vx_MQ below Qc XC args s mc ms free) (entryFrame m args maxL)) : vx_Met l y ws rm Pc Qc XC mc ms free := by
  refine MetFree.of_bodyS (code := cc) (maxLocals := maxL) (ret := ret) hy ?_ ?_
  · intro args s m h hn
    obtain ⟨m9, meth, c, hn9, h1, h2, h3, h4, -, h5, h6, -⟩ := Cond.codeWith_spec (atoms_spec (ws := ws) h _ (by rw [hw]; exact List.mem_cons_self))
    cases hn.symm.trans hn9
    exact ⟨meth, c, h1, h2, h3, h4, h5, h6⟩
  · intro p e s m args below meth c s₁ B hml hP _
    have hh0 : s₁.heap = s.heap := by rw [B.state]; rfl
    obtain ⟨t, a1, o, b1, b2, b3⟩ := body p e s m args below meth c s₁ B hml hP s₁ hh0 (Stand.of_body B)
    exact ⟨t, o, a1, b1, b2, b3⟩
/-! ===== END ===== -/
end
section
def RX0 : String := "CandleLoom$1"
def TX0 : u_T := fun k => match k with
  | _ => ("", "", "", false)
def tyX0 : Nat → FieldType := fun k => match k with
  | _ => .int
abbrev wsX00 : List Cond := u_ws RX0 TX0 0
theorem nmX0 : ∀ a, a < 0 → ∀ b, b < 0 → a ≠ b → (TX0 a).2.1 ≠ (TX0 b).2.1 := by decide +kernel
theorem tyX0_ok : ∀ k, k < 0 → parseFieldDescriptor (TX0 k).2.2.1 = some (tyX0 k) := by decide +kernel
def RX1 : String := "CandleLoom$Cloth"
def TX1 : u_T := fun k => match k with
  | 0 => ("CandleLoom$Cloth", "masks", "[I", true)
  | 1 => ("CandleLoom$Cloth", "colours", "[I", true)
  | 2 => ("CandleLoom$Cloth", "knots", "[I", true)
  | _ => ("CandleLoom$Cloth", "count", "I", false)
def tyX1 : Nat → FieldType := fun k => match k with
  | 0 => .array .int
  | 1 => .array .int
  | 2 => .array .int
  | _ => .int
abbrev wsX10 : List Cond := u_ws RX1 TX1 4
theorem nmX1 : ∀ a, a < 4 → ∀ b, b < 4 → a ≠ b → (TX1 a).2.1 ≠ (TX1 b).2.1 := by decide +kernel
theorem tyX1_ok : ∀ k, k < 4 → parseFieldDescriptor (TX1 k).2.2.1 = some (tyX1 k) := by decide +kernel
abbrev cX1_init : ByteArray := prog_3_method_1_code
def yX1_init : MethodName := ⟨RX1, "<init>", "()V"⟩
abbrev cX1_isColumn : ByteArray := prog_3_method_2_code
def yX1_isColumn : MethodName := ⟨RX1, "isColumn", "(I)Z"⟩
abbrev cX1_copyFrom : ByteArray := prog_3_method_3_code
def yX1_copyFrom : MethodName := ⟨RX1, "copyFrom", "(LCandleLoom$Cloth;)V"⟩
abbrev cX1_has : ByteArray := prog_3_method_4_code
def yX1_has : MethodName := ⟨RX1, "has", "(I)Z"⟩
abbrev cX1_hasCell : ByteArray := prog_3_method_5_code
def yX1_hasCell : MethodName := ⟨RX1, "hasCell", "(II)Z"⟩
abbrev cX1_raisedAt : ByteArray := prog_3_method_6_code
def yX1_raisedAt : MethodName := ⟨RX1, "raisedAt", "(II)Z"⟩
abbrev cX1_knottedAt : ByteArray := prog_3_method_7_code
def yX1_knottedAt : MethodName := ⟨RX1, "knottedAt", "(II)Z"⟩
abbrev cX1_append : ByteArray := prog_3_method_8_code
def yX1_append : MethodName := ⟨RX1, "append", "(II)V"⟩
abbrev cX1_removeLast : ByteArray := prog_3_method_9_code
def yX1_removeLast : MethodName := ⟨RX1, "removeLast", "(I)I"⟩
abbrev cX1_copyLast : ByteArray := prog_3_method_10_code
def yX1_copyLast : MethodName := ⟨RX1, "copyLast", "(II)I"⟩
abbrev cX1_flipKnot : ByteArray := prog_3_method_11_code
def yX1_flipKnot : MethodName := ⟨RX1, "flipKnot", "(II)I"⟩
abbrev cX1_countKnots : ByteArray := prog_3_method_12_code
def yX1_countKnots : MethodName := ⟨RX1, "countKnots", "()I"⟩
abbrev cX1_countRaised : ByteArray := prog_3_method_13_code
def yX1_countRaised : MethodName := ⟨RX1, "countRaised", "()I"⟩
abbrev cX1_firstKnottedRow : ByteArray := prog_3_method_14_code
def yX1_firstKnottedRow : MethodName := ⟨RX1, "firstKnottedRow", "(I)I"⟩
abbrev cX1_lastKnottedRow : ByteArray := prog_3_method_15_code
def yX1_lastKnottedRow : MethodName := ⟨RX1, "lastKnottedRow", "()I"⟩
abbrev cX1_firstKnottedColumn : ByteArray := prog_3_method_16_code
def yX1_firstKnottedColumn : MethodName := ⟨RX1, "firstKnottedColumn", "(I)I"⟩
abbrev cX1_sameRows : ByteArray := prog_3_method_17_code
def yX1_sameRows : MethodName := ⟨RX1, "sameRows", "(II)Z"⟩
abbrev cX1_sameRuns : ByteArray := prog_3_method_18_code
def yX1_sameRuns : MethodName := ⟨RX1, "sameRuns", "(III)Z"⟩
abbrev cX1_overlapsItself : ByteArray := prog_3_method_19_code
def yX1_overlapsItself : MethodName := ⟨RX1, "overlapsItself", "(I)Z"⟩
abbrev cX1_longestBorder : ByteArray := prog_3_method_20_code
def yX1_longestBorder : MethodName := ⟨RX1, "longestBorder", "()I"⟩
abbrev cX1_countOfLast : ByteArray := prog_3_method_21_code
def yX1_countOfLast : MethodName := ⟨RX1, "countOfLast", "(I)I"⟩
abbrev cX1_countDifferent : ByteArray := prog_3_method_22_code
def yX1_countDifferent : MethodName := ⟨RX1, "countDifferent", "()I"⟩
abbrev cX1_isNew : ByteArray := prog_3_method_23_code
def yX1_isNew : MethodName := ⟨RX1, "isNew", "(I)Z"⟩
abbrev cX1_longestRaisedRun : ByteArray := prog_3_method_24_code
def yX1_longestRaisedRun : MethodName := ⟨RX1, "longestRaisedRun", "(I)I"⟩
abbrev cX1_sameReversed : ByteArray := prog_3_method_25_code
def yX1_sameReversed : MethodName := ⟨RX1, "sameReversed", "()Z"⟩
def RX2 : String := "CandleLoom$Command"
def TX2 : u_T := fun k => match k with
  | 0 => ("CandleLoom$Command", "kind", "LCandleLoom$Kind;", false)
  | 1 => ("CandleLoom$Command", "first", "I", false)
  | 2 => ("CandleLoom$Command", "second", "I", false)
  | _ => ("CandleLoom$Command", "third", "I", false)
def tyX2 : Nat → FieldType := fun k => match k with
  | 0 => .object "CandleLoom$Kind"
  | 1 => .int
  | 2 => .int
  | _ => .int
abbrev wsX20 : List Cond := u_ws RX2 TX2 4
theorem nmX2 : ∀ a, a < 4 → ∀ b, b < 4 → a ≠ b → (TX2 a).2.1 ≠ (TX2 b).2.1 := by decide +kernel
theorem tyX2_ok : ∀ k, k < 4 → parseFieldDescriptor (TX2 k).2.2.1 = some (tyX2 k) := by decide +kernel
abbrev cX2_init : ByteArray := prog_4_method_1_code
def yX2_init : MethodName := ⟨RX2, "<init>", "()V"⟩
abbrev cX2_become : ByteArray := prog_4_method_2_code
def yX2_become : MethodName := ⟨RX2, "become", "(LCandleLoom$Kind;III)LCandleLoom$Command;"⟩
abbrev cX2_put : ByteArray := prog_4_method_3_code
def yX2_put : MethodName := ⟨RX2, "put", "(II)V"⟩
def RX3 : String := "CandleLoom$Edge"
def TX3 : u_T := fun k => match k with
  | 0 => ("CandleLoom$Edge", "warmth", "I", false)
  | _ => ("CandleLoom$Edge", "burnt", "I", false)
def tyX3 : Nat → FieldType := fun k => match k with
  | 0 => .int
  | _ => .int
abbrev wsX30 : List Cond := u_ws RX3 TX3 2
theorem nmX3 : ∀ a, a < 2 → ∀ b, b < 2 → a ≠ b → (TX3 a).2.1 ≠ (TX3 b).2.1 := by decide +kernel
theorem tyX3_ok : ∀ k, k < 2 → parseFieldDescriptor (TX3 k).2.2.1 = some (tyX3 k) := by decide +kernel
abbrev cX3_init : ByteArray := prog_5_method_1_code
def yX3_init : MethodName := ⟨RX3, "<init>", "()V"⟩
abbrev cX3_copyFrom : ByteArray := prog_5_method_2_code
def yX3_copyFrom : MethodName := ⟨RX3, "copyFrom", "(LCandleLoom$Edge;)V"⟩
abbrev cX3_feel : ByteArray := prog_5_method_3_code
def yX3_feel : MethodName := ⟨RX3, "feel", "(Z)V"⟩
abbrev cX3_repair : ByteArray := prog_5_method_4_code
def yX3_repair : MethodName := ⟨RX3, "repair", "()I"⟩
def RX4 : String := "CandleLoom$History"
def TX4 : u_T := fun k => match k with
  | 0 => ("CandleLoom$History", "kept", "[LCandleLoom$Loom;", true)
  | 1 => ("CandleLoom$History", "oldest", "I", false)
  | _ => ("CandleLoom$History", "count", "I", false)
def tyX4 : Nat → FieldType := fun k => match k with
  | 0 => .array (.object "CandleLoom$Loom")
  | 1 => .int
  | _ => .int
abbrev wsX40 : List Cond := u_ws RX4 TX4 3
theorem nmX4 : ∀ a, a < 3 → ∀ b, b < 3 → a ≠ b → (TX4 a).2.1 ≠ (TX4 b).2.1 := by decide +kernel
theorem tyX4_ok : ∀ k, k < 3 → parseFieldDescriptor (TX4 k).2.2.1 = some (tyX4 k) := by decide +kernel
abbrev cX4_init : ByteArray := prog_6_method_1_code
def yX4_init : MethodName := ⟨RX4, "<init>", "()V"⟩
abbrev cX4_keep : ByteArray := prog_6_method_2_code
def yX4_keep : MethodName := ⟨RX4, "keep", "(LCandleLoom$Loom;)V"⟩
abbrev cX4_takeBack : ByteArray := prog_6_method_3_code
def yX4_takeBack : MethodName := ⟨RX4, "takeBack", "(LCandleLoom$Loom;)V"⟩
abbrev cX4_forget : ByteArray := prog_6_method_4_code
def yX4_forget : MethodName := ⟨RX4, "forget", "()V"⟩
def RX5 : String := "CandleLoom$Judge"
def TX5 : u_T := fun k => match k with
  | _ => ("CandleLoom$Judge", "detail", "I", false)
def tyX5 : Nat → FieldType := fun k => match k with
  | _ => .int
abbrev wsX50 : List Cond := u_ws RX5 TX5 1
theorem nmX5 : ∀ a, a < 1 → ∀ b, b < 1 → a ≠ b → (TX5 a).2.1 ≠ (TX5 b).2.1 := by decide +kernel
theorem tyX5_ok : ∀ k, k < 1 → parseFieldDescriptor (TX5 k).2.2.1 = some (tyX5 k) := by decide +kernel
abbrev cX5_init : ByteArray := prog_7_method_1_code
def yX5_init : MethodName := ⟨RX5, "<init>", "()V"⟩
abbrev cX5_verdictOn : ByteArray := prog_7_method_2_code
def yX5_verdictOn : MethodName := ⟨RX5, "verdictOn", "(LCandleLoom$Command;LCandleLoom$Loom;)I"⟩
abbrev cX5_onNewWick : ByteArray := prog_7_method_3_code
def yX5_onNewWick : MethodName := ⟨RX5, "onNewWick", "(LCandleLoom$Wicks;III)I"⟩
abbrev cX5_onLighting : ByteArray := prog_7_method_4_code
def yX5_onLighting : MethodName := ⟨RX5, "onLighting", "(LCandleLoom$Wicks;I)I"⟩
abbrev cX5_onSnuffing : ByteArray := prog_7_method_5_code
def yX5_onSnuffing : MethodName := ⟨RX5, "onSnuffing", "(LCandleLoom$Wicks;I)I"⟩
abbrev cX5_onMoreWax : ByteArray := prog_7_method_6_code
def yX5_onMoreWax : MethodName := ⟨RX5, "onMoreWax", "(LCandleLoom$Wicks;II)I"⟩
abbrev cX5_onWeaving : ByteArray := prog_7_method_7_code
def yX5_onWeaving : MethodName := ⟨RX5, "onWeaving", "(LCandleLoom$Loom;I)I"⟩
abbrev cX5_onRavelling : ByteArray := prog_7_method_8_code
def yX5_onRavelling : MethodName := ⟨RX5, "onRavelling", "(LCandleLoom$Cloth;I)I"⟩
abbrev cX5_onRepeating : ByteArray := prog_7_method_9_code
def yX5_onRepeating : MethodName := ⟨RX5, "onRepeating", "(LCandleLoom$Cloth;II)I"⟩
abbrev cX5_onKnots : ByteArray := prog_7_method_10_code
def yX5_onKnots : MethodName := ⟨RX5, "onKnots", "(LCandleLoom$Cloth;IIZ)I"⟩
abbrev cX5_onMending : ByteArray := prog_7_method_11_code
def yX5_onMending : MethodName := ⟨RX5, "onMending", "(LCandleLoom$Loom;I)I"⟩
abbrev cX5_deny : ByteArray := prog_7_method_12_code
def yX5_deny : MethodName := ⟨RX5, "deny", "(II)I"⟩
def RX6 : String := "CandleLoom$Kind"
def TX6 : u_T := fun k => match k with
  | _ => ("", "", "", false)
def tyX6 : Nat → FieldType := fun k => match k with
  | _ => .int
abbrev wsX60 : List Cond := u_ws RX6 TX6 0
theorem nmX6 : ∀ a, a < 0 → ∀ b, b < 0 → a ≠ b → (TX6 a).2.1 ≠ (TX6 b).2.1 := by decide +kernel
theorem tyX6_ok : ∀ k, k < 0 → parseFieldDescriptor (TX6 k).2.2.1 = some (tyX6 k) := by decide +kernel
def RX7 : String := "CandleLoom$Line"
def TX7 : u_T := fun k => match k with
  | 0 => ("CandleLoom$Line", "signs", "[C", true)
  | _ => ("CandleLoom$Line", "length", "I", false)
def tyX7 : Nat → FieldType := fun k => match k with
  | 0 => .array .char
  | _ => .int
abbrev wsX70 : List Cond := u_ws RX7 TX7 2
theorem nmX7 : ∀ a, a < 2 → ∀ b, b < 2 → a ≠ b → (TX7 a).2.1 ≠ (TX7 b).2.1 := by decide +kernel
theorem tyX7_ok : ∀ k, k < 2 → parseFieldDescriptor (TX7 k).2.2.1 = some (tyX7 k) := by decide +kernel
abbrev cX7_init : ByteArray := prog_9_method_1_code
def yX7_init : MethodName := ⟨RX7, "<init>", "()V"⟩
abbrev cX7_showRow : ByteArray := prog_9_method_2_code
def yX7_showRow : MethodName := ⟨RX7, "showRow", "(LCandleLoom$Cloth;I)V"⟩
abbrev cX7_cellSign : ByteArray := prog_9_method_4_code
def yX7_cellSign : MethodName := ⟨RX7, "cellSign", "(ZZ)C"⟩
abbrev cX7_addDigit : ByteArray := prog_9_method_5_code
def yX7_addDigit : MethodName := ⟨RX7, "addDigit", "(I)V"⟩
abbrev cX7_add : ByteArray := prog_9_method_6_code
def yX7_add : MethodName := ⟨RX7, "add", "(C)V"⟩
def RX8 : String := "CandleLoom$Loom"
def TX8 : u_T := fun k => match k with
  | 0 => ("CandleLoom$Loom", "wicks", "LCandleLoom$Wicks;", true)
  | 1 => ("CandleLoom$Loom", "cloth", "LCandleLoom$Cloth;", true)
  | 2 => ("CandleLoom$Loom", "left", "LCandleLoom$Edge;", true)
  | 3 => ("CandleLoom$Loom", "right", "LCandleLoom$Edge;", true)
  | 4 => ("CandleLoom$Loom", "rowsWoven", "I", false)
  | _ => ("CandleLoom$Loom", "waxBurnt", "I", false)
def tyX8 : Nat → FieldType := fun k => match k with
  | 0 => .object "CandleLoom$Wicks"
  | 1 => .object "CandleLoom$Cloth"
  | 2 => .object "CandleLoom$Edge"
  | 3 => .object "CandleLoom$Edge"
  | 4 => .int
  | _ => .int
abbrev wsX80 : List Cond := u_ws RX8 TX8 6
theorem nmX8 : ∀ a, a < 6 → ∀ b, b < 6 → a ≠ b → (TX8 a).2.1 ≠ (TX8 b).2.1 := by decide +kernel
theorem tyX8_ok : ∀ k, k < 6 → parseFieldDescriptor (TX8 k).2.2.1 = some (tyX8 k) := by decide +kernel
abbrev cX8_init : ByteArray := prog_10_method_1_code
def yX8_init : MethodName := ⟨RX8, "<init>", "()V"⟩
abbrev cX8_isSide : ByteArray := prog_10_method_2_code
def yX8_isSide : MethodName := ⟨RX8, "isSide", "(I)Z"⟩
abbrev cX8_edgeAt : ByteArray := prog_10_method_3_code
def yX8_edgeAt : MethodName := ⟨RX8, "edgeAt", "(I)LCandleLoom$Edge;"⟩
abbrev cX8_copyFrom : ByteArray := prog_10_method_4_code
def yX8_copyFrom : MethodName := ⟨RX8, "copyFrom", "(LCandleLoom$Loom;)V"⟩
abbrev cX8_perform : ByteArray := prog_10_method_5_code
def yX8_perform : MethodName := ⟨RX8, "perform", "(LCandleLoom$Command;)I"⟩
abbrev cX8_unburnt : ByteArray := prog_10_method_6_code
def yX8_unburnt : MethodName := ⟨RX8, "unburnt", "(I)I"⟩
abbrev cX8_weaveRows : ByteArray := prog_10_method_7_code
def yX8_weaveRows : MethodName := ⟨RX8, "weaveRows", "(I)I"⟩
abbrev cX8_weaveRow : ByteArray := prog_10_method_8_code
def yX8_weaveRow : MethodName := ⟨RX8, "weaveRow", "()V"⟩
def RX9 : String := "CandleLoom$Script"
def TX9 : u_T := fun k => match k with
  | 0 => ("CandleLoom$Script", "signs", "[C", true)
  | 1 => ("CandleLoom$Script", "length", "I", false)
  | 2 => ("CandleLoom$Script", "commands", "[LCandleLoom$Command;", true)
  | 3 => ("CandleLoom$Script", "found", "I", false)
  | _ => ("CandleLoom$Script", "position", "I", false)
def tyX9 : Nat → FieldType := fun k => match k with
  | 0 => .array .char
  | 1 => .int
  | 2 => .array (.object "CandleLoom$Command")
  | 3 => .int
  | _ => .int
abbrev wsX90 : List Cond := u_ws RX9 TX9 5
theorem nmX9 : ∀ a, a < 5 → ∀ b, b < 5 → a ≠ b → (TX9 a).2.1 ≠ (TX9 b).2.1 := by decide +kernel
theorem tyX9_ok : ∀ k, k < 5 → parseFieldDescriptor (TX9 k).2.2.1 = some (tyX9 k) := by decide +kernel
abbrev cX9_init : ByteArray := prog_11_method_1_code
def yX9_init : MethodName := ⟨RX9, "<init>", "()V"⟩
abbrev cX9_isFull : ByteArray := prog_11_method_2_code
def yX9_isFull : MethodName := ⟨RX9, "isFull", "()Z"⟩
abbrev cX9_append : ByteArray := prog_11_method_3_code
def yX9_append : MethodName := ⟨RX9, "append", "(C)I"⟩
abbrev cX9_clear : ByteArray := prog_11_method_4_code
def yX9_clear : MethodName := ⟨RX9, "clear", "()V"⟩
abbrev cX9_parse : ByteArray := prog_11_method_5_code
def yX9_parse : MethodName := ⟨RX9, "parse", "()Z"⟩
abbrev cX9_readCommand : ByteArray := prog_11_method_6_code
def yX9_readCommand : MethodName := ⟨RX9, "readCommand", "(LCandleLoom$Command;)Z"⟩
abbrev cX9_readWord : ByteArray := prog_11_method_7_code
def yX9_readWord : MethodName := ⟨RX9, "readWord", "()LCandleLoom$Kind;"⟩
abbrev cX9_countSame : ByteArray := prog_11_method_8_code
def yX9_countSame : MethodName := ⟨RX9, "countSame", "(Ljava/lang/String;)I"⟩
abbrev cX9_readDigits : ByteArray := prog_11_method_9_code
def yX9_readDigits : MethodName := ⟨RX9, "readDigits", "(I)I"⟩
abbrev cX9_digitIsNext : ByteArray := prog_11_method_10_code
def yX9_digitIsNext : MethodName := ⟨RX9, "digitIsNext", "()Z"⟩
abbrev cX9_readSide : ByteArray := prog_11_method_11_code
def yX9_readSide : MethodName := ⟨RX9, "readSide", "()I"⟩
abbrev cX9_readSign : ByteArray := prog_11_method_12_code
def yX9_readSign : MethodName := ⟨RX9, "readSign", "(C)Z"⟩
def RX10 : String := "CandleLoom$Wicks"
def TX10 : u_T := fun k => match k with
  | 0 => ("CandleLoom$Wicks", "colours", "[I", true)
  | 1 => ("CandleLoom$Wicks", "masks", "[I", true)
  | 2 => ("CandleLoom$Wicks", "waxes", "[I", true)
  | 3 => ("CandleLoom$Wicks", "lit", "[Z", true)
  | _ => ("CandleLoom$Wicks", "count", "I", false)
def tyX10 : Nat → FieldType := fun k => match k with
  | 0 => .array .int
  | 1 => .array .int
  | 2 => .array .int
  | 3 => .array .boolean
  | _ => .int
abbrev wsX100 : List Cond := u_ws RX10 TX10 5
theorem nmX10 : ∀ a, a < 5 → ∀ b, b < 5 → a ≠ b → (TX10 a).2.1 ≠ (TX10 b).2.1 := by decide +kernel
theorem tyX10_ok : ∀ k, k < 5 → parseFieldDescriptor (TX10 k).2.2.1 = some (tyX10 k) := by decide +kernel
abbrev cX10_init : ByteArray := prog_12_method_1_code
def yX10_init : MethodName := ⟨RX10, "<init>", "()V"⟩
abbrev cX10_copyFrom : ByteArray := prog_12_method_2_code
def yX10_copyFrom : MethodName := ⟨RX10, "copyFrom", "(LCandleLoom$Wicks;)V"⟩
abbrev cX10_has : ByteArray := prog_12_method_3_code
def yX10_has : MethodName := ⟨RX10, "has", "(I)Z"⟩
abbrev cX10_place : ByteArray := prog_12_method_4_code
def yX10_place : MethodName := ⟨RX10, "place", "(III)I"⟩
abbrev cX10_setLit : ByteArray := prog_12_method_5_code
def yX10_setLit : MethodName := ⟨RX10, "setLit", "(IZ)I"⟩
abbrev cX10_pour : ByteArray := prog_12_method_6_code
def yX10_pour : MethodName := ⟨RX10, "pour", "(II)I"⟩
abbrev cX10_countLit : ByteArray := prog_12_method_7_code
def yX10_countLit : MethodName := ⟨RX10, "countLit", "()I"⟩
abbrev cX10_pattern : ByteArray := prog_12_method_8_code
def yX10_pattern : MethodName := ⟨RX10, "pattern", "()I"⟩
abbrev cX10_atRank : ByteArray := prog_12_method_9_code
def yX10_atRank : MethodName := ⟨RX10, "atRank", "(I)I"⟩
abbrev cX10_rankOf : ByteArray := prog_12_method_10_code
def yX10_rankOf : MethodName := ⟨RX10, "rankOf", "(I)I"⟩
abbrev cX10_precedes : ByteArray := prog_12_method_11_code
def yX10_precedes : MethodName := ⟨RX10, "precedes", "(II)Z"⟩
abbrev cX10_leadingColour : ByteArray := prog_12_method_12_code
def yX10_leadingColour : MethodName := ⟨RX10, "leadingColour", "()I"⟩
abbrev cX10_burnDown : ByteArray := prog_12_method_13_code
def yX10_burnDown : MethodName := ⟨RX10, "burnDown", "()I"⟩
abbrev cX10_anyLitAfter : ByteArray := prog_12_method_14_code
def yX10_anyLitAfter : MethodName := ⟨RX10, "anyLitAfter", "(I)Z"⟩
abbrev cX10_mostLitWax : ByteArray := prog_12_method_15_code
def yX10_mostLitWax : MethodName := ⟨RX10, "mostLitWax", "()I"⟩
def RX11 : String := "CandleLoom"
def TX11 : u_T := fun k => match k with
  | 0 => ("CandleLoom", "loom", "LCandleLoom$Loom;", true)
  | 1 => ("CandleLoom", "beforeText", "LCandleLoom$Loom;", true)
  | 2 => ("CandleLoom", "snapshot", "LCandleLoom$Loom;", true)
  | 3 => ("CandleLoom", "snapshotTaken", "Z", false)
  | 4 => ("CandleLoom", "history", "LCandleLoom$History;", true)
  | 5 => ("CandleLoom", "judge", "LCandleLoom$Judge;", true)
  | 6 => ("CandleLoom", "request", "LCandleLoom$Command;", true)
  | 7 => ("CandleLoom", "script", "LCandleLoom$Script;", true)
  | 8 => ("CandleLoom", "faultKept", "Z", false)
  | 9 => ("CandleLoom", "keptFault", "I", false)
  | 10 => ("CandleLoom", "line", "LCandleLoom$Line;", true)
  | 11 => ("CandleLoom", "deniedNumber", "I", false)
  | 12 => ("CandleLoom", "deniedDetail", "I", false)
  | _ => ("CandleLoom", "deniedCause", "I", false)
def tyX11 : Nat → FieldType := fun k => match k with
  | 0 => .object "CandleLoom$Loom"
  | 1 => .object "CandleLoom$Loom"
  | 2 => .object "CandleLoom$Loom"
  | 3 => .boolean
  | 4 => .object "CandleLoom$History"
  | 5 => .object "CandleLoom$Judge"
  | 6 => .object "CandleLoom$Command"
  | 7 => .object "CandleLoom$Script"
  | 8 => .boolean
  | 9 => .int
  | 10 => .object "CandleLoom$Line"
  | 11 => .int
  | 12 => .int
  | _ => .int
abbrev wsX110 : List Cond := u_ws RX11 TX11 14
theorem nmX11 : ∀ a, a < 14 → ∀ b, b < 14 → a ≠ b → (TX11 a).2.1 ≠ (TX11 b).2.1 := by decide +kernel
theorem tyX11_ok : ∀ k, k < 14 → parseFieldDescriptor (TX11 k).2.2.1 = some (tyX11 k) := by decide +kernel
abbrev cX11_init : ByteArray := prog_1_method_1_code
def yX11_init : MethodName := ⟨RX11, "<init>", "()V"⟩
abbrev cX11_addWick : ByteArray := prog_1_method_2_code
def yX11_addWick : MethodName := ⟨RX11, "addWick", "(III)I"⟩
abbrev cX11_light : ByteArray := prog_1_method_3_code
def yX11_light : MethodName := ⟨RX11, "light", "(I)I"⟩
abbrev cX11_snuff : ByteArray := prog_1_method_4_code
def yX11_snuff : MethodName := ⟨RX11, "snuff", "(I)I"⟩
abbrev cX11_addWax : ByteArray := prog_1_method_5_code
def yX11_addWax : MethodName := ⟨RX11, "addWax", "(II)I"⟩
abbrev cX11_wickCount : ByteArray := prog_1_method_6_code
def yX11_wickCount : MethodName := ⟨RX11, "wickCount", "()I"⟩
abbrev cX11_litCount : ByteArray := prog_1_method_7_code
def yX11_litCount : MethodName := ⟨RX11, "litCount", "()I"⟩
abbrev cX11_isLit : ByteArray := prog_1_method_8_code
def yX11_isLit : MethodName := ⟨RX11, "isLit", "(I)Z"⟩
abbrev cX11_wax : ByteArray := prog_1_method_9_code
def yX11_wax : MethodName := ⟨RX11, "wax", "(I)I"⟩
abbrev cX11_wickByWax : ByteArray := prog_1_method_10_code
def yX11_wickByWax : MethodName := ⟨RX11, "wickByWax", "(I)I"⟩
abbrev cX11_nextMask : ByteArray := prog_1_method_11_code
def yX11_nextMask : MethodName := ⟨RX11, "nextMask", "()I"⟩
abbrev cX11_rowsUntilDark : ByteArray := prog_1_method_12_code
def yX11_rowsUntilDark : MethodName := ⟨RX11, "rowsUntilDark", "()I"⟩
abbrev cX11_rowsUntilDarkByWax : ByteArray := prog_1_method_13_code
def yX11_rowsUntilDarkByWax : MethodName := ⟨RX11, "rowsUntilDarkByWax", "()I"⟩
abbrev cX11_weave : ByteArray := prog_1_method_14_code
def yX11_weave : MethodName := ⟨RX11, "weave", "(I)I"⟩
abbrev cX11_ravel : ByteArray := prog_1_method_15_code
def yX11_ravel : MethodName := ⟨RX11, "ravel", "(I)I"⟩
abbrev cX11_repeatLast : ByteArray := prog_1_method_16_code
def yX11_repeatLast : MethodName := ⟨RX11, "repeatLast", "(II)I"⟩
abbrev cX11_knot : ByteArray := prog_1_method_17_code
def yX11_knot : MethodName := ⟨RX11, "knot", "(II)I"⟩
abbrev cX11_untie : ByteArray := prog_1_method_18_code
def yX11_untie : MethodName := ⟨RX11, "untie", "(II)I"⟩
abbrev cX11_mend : ByteArray := prog_1_method_19_code
def yX11_mend : MethodName := ⟨RX11, "mend", "(C)I"⟩
abbrev cX11_rowCount : ByteArray := prog_1_method_20_code
def yX11_rowCount : MethodName := ⟨RX11, "rowCount", "()I"⟩
abbrev cX11_rowMask : ByteArray := prog_1_method_21_code
def yX11_rowMask : MethodName := ⟨RX11, "rowMask", "(I)I"⟩
abbrev cX11_rowColour : ByteArray := prog_1_method_22_code
def yX11_rowColour : MethodName := ⟨RX11, "rowColour", "(I)I"⟩
abbrev cX11_isRaised : ByteArray := prog_1_method_23_code
def yX11_isRaised : MethodName := ⟨RX11, "isRaised", "(II)Z"⟩
abbrev cX11_isKnotted : ByteArray := prog_1_method_24_code
def yX11_isKnotted : MethodName := ⟨RX11, "isKnotted", "(II)Z"⟩
abbrev cX11_knotCount : ByteArray := prog_1_method_25_code
def yX11_knotCount : MethodName := ⟨RX11, "knotCount", "()I"⟩
abbrev cX11_nextKnotRow : ByteArray := prog_1_method_26_code
def yX11_nextKnotRow : MethodName := ⟨RX11, "nextKnotRow", "(I)I"⟩
abbrev cX11_nextKnotColumn : ByteArray := prog_1_method_27_code
def yX11_nextKnotColumn : MethodName := ⟨RX11, "nextKnotColumn", "(I)I"⟩
abbrev cX11_burn : ByteArray := prog_1_method_28_code
def yX11_burn : MethodName := ⟨RX11, "burn", "(C)I"⟩
abbrev cX11_heat : ByteArray := prog_1_method_29_code
def yX11_heat : MethodName := ⟨RX11, "heat", "(C)I"⟩
abbrev cX11_period : ByteArray := prog_1_method_30_code
def yX11_period : MethodName := ⟨RX11, "period", "()I"⟩
abbrev cX11_periodByBorders : ByteArray := prog_1_method_31_code
def yX11_periodByBorders : MethodName := ⟨RX11, "periodByBorders", "()I"⟩
abbrev cX11_occurrences : ByteArray := prog_1_method_32_code
def yX11_occurrences : MethodName := ⟨RX11, "occurrences", "(I)I"⟩
abbrev cX11_distinctRows : ByteArray := prog_1_method_33_code
def yX11_distinctRows : MethodName := ⟨RX11, "distinctRows", "()I"⟩
abbrev cX11_distance : ByteArray := prog_1_method_34_code
def yX11_distance : MethodName := ⟨RX11, "distance", "(II)I"⟩
abbrev cX11_longestFloat : ByteArray := prog_1_method_35_code
def yX11_longestFloat : MethodName := ⟨RX11, "longestFloat", "(I)I"⟩
abbrev cX11_isSymmetric : ByteArray := prog_1_method_36_code
def yX11_isSymmetric : MethodName := ⟨RX11, "isSymmetric", "()Z"⟩
abbrev cX11_wovenTotal : ByteArray := prog_1_method_37_code
def yX11_wovenTotal : MethodName := ⟨RX11, "wovenTotal", "()I"⟩
abbrev cX11_waxUsed : ByteArray := prog_1_method_38_code
def yX11_waxUsed : MethodName := ⟨RX11, "waxUsed", "()I"⟩
abbrev cX11_meanRaised : ByteArray := prog_1_method_39_code
def yX11_meanRaised : MethodName := ⟨RX11, "meanRaised", "()D"⟩
abbrev cX11_knotShare : ByteArray := prog_1_method_40_code
def yX11_knotShare : MethodName := ⟨RX11, "knotShare", "()F"⟩
abbrev cX11_feed : ByteArray := prog_1_method_41_code
def yX11_feed : MethodName := ⟨RX11, "feed", "(C)I"⟩
abbrev cX11_execute : ByteArray := prog_1_method_42_code
def yX11_execute : MethodName := ⟨RX11, "execute", "()I"⟩
abbrev cX11_writeRow : ByteArray := prog_1_method_44_code
def yX11_writeRow : MethodName := ⟨RX11, "writeRow", "(I)I"⟩
abbrev cX11_lineCharacter : ByteArray := prog_1_method_46_code
def yX11_lineCharacter : MethodName := ⟨RX11, "lineCharacter", "(I)C"⟩
abbrev cX11_denial : ByteArray := prog_1_method_47_code
def yX11_denial : MethodName := ⟨RX11, "denial", "()I"⟩
abbrev cX11_denialCause : ByteArray := prog_1_method_49_code
def yX11_denialCause : MethodName := ⟨RX11, "denialCause", "()I"⟩
abbrev cX11_undo : ByteArray := prog_1_method_50_code
def yX11_undo : MethodName := ⟨RX11, "undo", "()I"⟩
abbrev cX11_undoCount : ByteArray := prog_1_method_51_code
def yX11_undoCount : MethodName := ⟨RX11, "undoCount", "()I"⟩
abbrev cX11_saveSnapshot : ByteArray := prog_1_method_52_code
def yX11_saveSnapshot : MethodName := ⟨RX11, "saveSnapshot", "()I"⟩
abbrev cX11_restoreSnapshot : ByteArray := prog_1_method_53_code
def yX11_restoreSnapshot : MethodName := ⟨RX11, "restoreSnapshot", "()I"⟩
abbrev cX11_change : ByteArray := prog_1_method_54_code
def yX11_change : MethodName := ⟨RX11, "change", "(LCandleLoom$Command;)I"⟩
abbrev cX11_firstFailingCommand : ByteArray := prog_1_method_55_code
def yX11_firstFailingCommand : MethodName := ⟨RX11, "firstFailingCommand", "()I"⟩
abbrev cX11_knottedRowFrom : ByteArray := prog_1_method_56_code
def yX11_knottedRowFrom : MethodName := ⟨RX11, "knottedRowFrom", "(I)I"⟩
abbrev cX11_throwDenial : ByteArray := prog_1_method_57_code
def yX11_throwDenial : MethodName := ⟨RX11, "throwDenial", "(II)V"⟩
abbrev cX11_requireRange : ByteArray := prog_1_method_58_code
def yX11_requireRange : MethodName := ⟨RX11, "requireRange", "(Z)V"⟩
abbrev cX11_requireIndex : ByteArray := prog_1_method_59_code
def yX11_requireIndex : MethodName := ⟨RX11, "requireIndex", "(Z)V"⟩
abbrev cX11_requireElement : ByteArray := prog_1_method_60_code
def yX11_requireElement : MethodName := ⟨RX11, "requireElement", "(Z)V"⟩
abbrev cX11_requireState : ByteArray := prog_1_method_61_code
def yX11_requireState : MethodName := ⟨RX11, "requireState", "(Z)V"⟩
abbrev cX11_requireDivisor : ByteArray := prog_1_method_62_code
def yX11_requireDivisor : MethodName := ⟨RX11, "requireDivisor", "(I)V"⟩
def RX12 : String := "CandleLoomModel"
def TX12 : u_T := fun k => match k with
  | _ => ("", "", "", false)
def tyX12 : Nat → FieldType := fun k => match k with
  | _ => .int
abbrev wsX120 : List Cond := u_ws RX12 TX12 0
theorem nmX12 : ∀ a, a < 0 → ∀ b, b < 0 → a ≠ b → (TX12 a).2.1 ≠ (TX12 b).2.1 := by decide +kernel
theorem tyX12_ok : ∀ k, k < 0 → parseFieldDescriptor (TX12 k).2.2.1 = some (tyX12 k) := by decide +kernel
def RJx145de : String := "java/io/Serializable"
def TJx145de : u_T := fun k => match k with
  | _ => ("", "", "", false)
def tyJx145de : Nat → FieldType := fun k => match k with
  | _ => .int
abbrev wsJx145de0 : List Cond := u_ws RJx145de TJx145de 0
theorem nmJx145de : ∀ a, a < 0 → ∀ b, b < 0 → a ≠ b → (TJx145de a).2.1 ≠ (TJx145de b).2.1 := by decide +kernel
theorem tyJx145de_ok : ∀ k, k < 0 → parseFieldDescriptor (TJx145de k).2.2.1 = some (tyJx145de k) := by decide +kernel
def RJx00060 : String := "java/lang/ArrayIndexOutOfBoundsException"
def TJx00060 : u_T := fun k => match k with
  | 0 => ("java/lang/Throwable", "backtrace", "Ljava/lang/Object;", false)
  | 1 => ("java/lang/Throwable", "detailMessage", "Ljava/lang/String;", false)
  | 2 => ("java/lang/Throwable", "cause", "Ljava/lang/Throwable;", false)
  | 3 => ("java/lang/Throwable", "stackTrace", "[Ljava/lang/StackTraceElement;", false)
  | 4 => ("java/lang/Throwable", "depth", "I", false)
  | _ => ("java/lang/Throwable", "suppressedExceptions", "Ljava/util/List;", false)
def tyJx00060 : Nat → FieldType := fun k => match k with
  | 0 => .object "java/lang/Object"
  | 1 => .object "java/lang/String"
  | 2 => .object "java/lang/Throwable"
  | 3 => .array (.object "java/lang/StackTraceElement")
  | 4 => .int
  | _ => .object "java/util/List"
abbrev wsJx000600 : List Cond := u_ws RJx00060 TJx00060 6
theorem nmJx00060 : ∀ a, a < 6 → ∀ b, b < 6 → a ≠ b → (TJx00060 a).2.1 ≠ (TJx00060 b).2.1 := by decide +kernel
theorem tyJx00060_ok : ∀ k, k < 6 → parseFieldDescriptor (TJx00060 k).2.2.1 = some (tyJx00060 k) := by decide +kernel
abbrev cJx00060_init_a7421 : ByteArray := prog_17_method_2_code
def yJx00060_init_a7421 : MethodName := ⟨RJx00060, "<init>", "(Ljava/lang/String;)V"⟩
def RJx9f9b0 : String := "java/lang/CharSequence"
def TJx9f9b0 : u_T := fun k => match k with
  | _ => ("", "", "", false)
def tyJx9f9b0 : Nat → FieldType := fun k => match k with
  | _ => .int
abbrev wsJx9f9b00 : List Cond := u_ws RJx9f9b0 TJx9f9b0 0
theorem nmJx9f9b0 : ∀ a, a < 0 → ∀ b, b < 0 → a ≠ b → (TJx9f9b0 a).2.1 ≠ (TJx9f9b0 b).2.1 := by decide +kernel
theorem tyJx9f9b0_ok : ∀ k, k < 0 → parseFieldDescriptor (TJx9f9b0 k).2.2.1 = some (tyJx9f9b0 k) := by decide +kernel
def RJxb160c : String := "java/lang/Comparable"
def TJxb160c : u_T := fun k => match k with
  | _ => ("", "", "", false)
def tyJxb160c : Nat → FieldType := fun k => match k with
  | _ => .int
abbrev wsJxb160c0 : List Cond := u_ws RJxb160c TJxb160c 0
theorem nmJxb160c : ∀ a, a < 0 → ∀ b, b < 0 → a ≠ b → (TJxb160c a).2.1 ≠ (TJxb160c b).2.1 := by decide +kernel
theorem tyJxb160c_ok : ∀ k, k < 0 → parseFieldDescriptor (TJxb160c k).2.2.1 = some (tyJxb160c k) := by decide +kernel
def RJx29ce0 : String := "java/lang/Enum"
def TJx29ce0 : u_T := fun k => match k with
  | _ => ("", "", "", false)
def tyJx29ce0 : Nat → FieldType := fun k => match k with
  | _ => .int
abbrev wsJx29ce00 : List Cond := u_ws RJx29ce0 TJx29ce0 0
theorem nmJx29ce0 : ∀ a, a < 0 → ∀ b, b < 0 → a ≠ b → (TJx29ce0 a).2.1 ≠ (TJx29ce0 b).2.1 := by decide +kernel
theorem tyJx29ce0_ok : ∀ k, k < 0 → parseFieldDescriptor (TJx29ce0 k).2.2.1 = some (tyJx29ce0 k) := by decide +kernel
abbrev cJx29ce0_ordinal_8abf5 : ByteArray := prog_20_method_2_code
def yJx29ce0_ordinal_8abf5 : MethodName := ⟨RJx29ce0, "ordinal", "()I"⟩
def RJ6 : String := "java/lang/Integer"
def TJ6 : u_T := fun k => match k with
  | _ => ("", "", "", false)
def tyJ6 : Nat → FieldType := fun k => match k with
  | _ => .int
abbrev wsJ60 : List Cond := u_ws RJ6 TJ6 0
theorem nmJ6 : ∀ a, a < 0 → ∀ b, b < 0 → a ≠ b → (TJ6 a).2.1 ≠ (TJ6 b).2.1 := by decide +kernel
theorem tyJ6_ok : ∀ k, k < 0 → parseFieldDescriptor (TJ6 k).2.2.1 = some (tyJ6 k) := by decide +kernel
abbrev cJ6_bitCount_0f7a4 : ByteArray := prog_25_method_49_code
def yJ6_bitCount_0f7a4 : MethodName := ⟨RJ6, "bitCount", "(I)I"⟩
def RJ9 : String := "java/lang/Math"
def TJ9 : u_T := fun k => match k with
  | _ => ("", "", "", false)
def tyJ9 : Nat → FieldType := fun k => match k with
  | _ => .int
abbrev wsJ90 : List Cond := u_ws RJ9 TJ9 0
theorem nmJ9 : ∀ a, a < 0 → ∀ b, b < 0 → a ≠ b → (TJ9 a).2.1 ≠ (TJ9 b).2.1 := by decide +kernel
theorem tyJ9_ok : ∀ k, k < 0 → parseFieldDescriptor (TJ9 k).2.2.1 = some (tyJ9 k) := by decide +kernel
abbrev cJ9_max_7cf53 : ByteArray := prog_26_method_65_code
def yJ9_max_7cf53 : MethodName := ⟨RJ9, "max", "(II)I"⟩
abbrev cJ9_min_7cf53 : ByteArray := prog_26_method_69_code
def yJ9_min_7cf53 : MethodName := ⟨RJ9, "min", "(II)I"⟩
def RJ0 : String := "java/lang/String"
def TJ0 : u_T := fun k => match k with
  | 0 => ("java/lang/String", "value", "[B", true)
  | _ => ("java/lang/String", "coder", "B", true)
def tyJ0 : Nat → FieldType := fun k => match k with
  | 0 => .array .byte
  | _ => .byte
abbrev wsJ00 : List Cond := u_ws RJ0 TJ0 2
theorem nmJ0 : ∀ a, a < 2 → ∀ b, b < 2 → a ≠ b → (TJ0 a).2.1 ≠ (TJ0 b).2.1 := by decide +kernel
theorem tyJ0_ok : ∀ k, k < 2 → parseFieldDescriptor (TJ0 k).2.2.1 = some (tyJ0 k) := by decide +kernel
abbrev cJ0_length_8abf5 : ByteArray := prog_28_method_54_code
def yJ0_length_8abf5 : MethodName := ⟨RJ0, "length", "()I"⟩
abbrev cJ0_charAt_5068e : ByteArray := prog_28_method_56_code
def yJ0_charAt_5068e : MethodName := ⟨RJ0, "charAt", "(I)C"⟩
abbrev cJ0_coder_7d493 : ByteArray := prog_28_method_152_code
def yJ0_coder_7d493 : MethodName := ⟨RJ0, "coder", "()B"⟩
abbrev cJ0_isLatin1_aae02 : ByteArray := prog_28_method_154_code
def yJ0_isLatin1_aae02 : MethodName := ⟨RJ0, "isLatin1", "()Z"⟩
abbrev cJ0_checkIndex_df160 : ByteArray := prog_28_method_155_code
def yJ0_checkIndex_df160 : MethodName := ⟨RJ0, "checkIndex", "(II)V"⟩
def RJ1 : String := "java/lang/StringLatin1"
def TJ1 : u_T := fun k => match k with
  | _ => ("", "", "", false)
def tyJ1 : Nat → FieldType := fun k => match k with
  | _ => .int
abbrev wsJ10 : List Cond := u_ws RJ1 TJ1 0
theorem nmJ1 : ∀ a, a < 0 → ∀ b, b < 0 → a ≠ b → (TJ1 a).2.1 ≠ (TJ1 b).2.1 := by decide +kernel
theorem tyJ1_ok : ∀ k, k < 0 → parseFieldDescriptor (TJ1 k).2.2.1 = some (tyJ1 k) := by decide +kernel
abbrev cJ1_charAt_3b067 : ByteArray := prog_29_method_2_code
def yJ1_charAt_3b067 : MethodName := ⟨RJ1, "charAt", "([BI)C"⟩
def RJ2 : String := "java/lang/StringUTF16"
def TJ2 : u_T := fun k => match k with
  | _ => ("", "", "", false)
def tyJ2 : Nat → FieldType := fun k => match k with
  | _ => .int
abbrev wsJ20 : List Cond := u_ws RJ2 TJ2 0
theorem nmJ2 : ∀ a, a < 0 → ∀ b, b < 0 → a ≠ b → (TJ2 a).2.1 ≠ (TJ2 b).2.1 := by decide +kernel
theorem tyJ2_ok : ∀ k, k < 0 → parseFieldDescriptor (TJ2 k).2.2.1 = some (tyJ2 k) := by decide +kernel
abbrev cJ2_getChar_3b067 : ByteArray := prog_30_method_5_code
def yJ2_getChar_3b067 : MethodName := ⟨RJ2, "getChar", "([BI)C"⟩
abbrev cJ2_length_9d52b : ByteArray := prog_30_method_6_code
def yJ2_length_9d52b : MethodName := ⟨RJ2, "length", "([B)I"⟩
abbrev cJ2_charAt_3b067 : ByteArray := prog_30_method_83_code
def yJ2_charAt_3b067 : MethodName := ⟨RJ2, "charAt", "([BI)C"⟩
abbrev cJ2_checkIndex_2214a : ByteArray := prog_30_method_91_code
def yJ2_checkIndex_2214a : MethodName := ⟨RJ2, "checkIndex", "(I[B)V"⟩
def RJ10 : String := "java/lang/System"
def TJ10 : u_T := fun k => match k with
  | _ => ("", "", "", false)
def tyJ10 : Nat → FieldType := fun k => match k with
  | _ => .int
abbrev wsJ100 : List Cond := u_ws RJ10 TJ10 0
theorem nmJ10 : ∀ a, a < 0 → ∀ b, b < 0 → a ≠ b → (TJ10 a).2.1 ≠ (TJ10 b).2.1 := by decide +kernel
theorem tyJ10_ok : ∀ k, k < 0 → parseFieldDescriptor (TJ10 k).2.2.1 = some (tyJ10 k) := by decide +kernel
def RJxfd54e : String := "java/lang/constant/Constable"
def TJxfd54e : u_T := fun k => match k with
  | _ => ("", "", "", false)
def tyJxfd54e : Nat → FieldType := fun k => match k with
  | _ => .int
abbrev wsJxfd54e0 : List Cond := u_ws RJxfd54e TJxfd54e 0
theorem nmJxfd54e : ∀ a, a < 0 → ∀ b, b < 0 → a ≠ b → (TJxfd54e a).2.1 ≠ (TJxfd54e b).2.1 := by decide +kernel
theorem tyJxfd54e_ok : ∀ k, k < 0 → parseFieldDescriptor (TJxfd54e k).2.2.1 = some (tyJxfd54e k) := by decide +kernel
def RJx3cf43 : String := "java/lang/constant/ConstantDesc"
def TJx3cf43 : u_T := fun k => match k with
  | _ => ("", "", "", false)
def tyJx3cf43 : Nat → FieldType := fun k => match k with
  | _ => .int
abbrev wsJx3cf430 : List Cond := u_ws RJx3cf43 TJx3cf43 0
theorem nmJx3cf43 : ∀ a, a < 0 → ∀ b, b < 0 → a ≠ b → (TJx3cf43 a).2.1 ≠ (TJx3cf43 b).2.1 := by decide +kernel
theorem tyJx3cf43_ok : ∀ k, k < 0 → parseFieldDescriptor (TJx3cf43 k).2.2.1 = some (tyJx3cf43 k) := by decide +kernel
def RJ3 : String := "jdk/internal/util/Preconditions"
def TJ3 : u_T := fun k => match k with
  | _ => ("", "", "", false)
def tyJ3 : Nat → FieldType := fun k => match k with
  | _ => .int
abbrev wsJ30 : List Cond := u_ws RJ3 TJ3 0
theorem nmJ3 : ∀ a, a < 0 → ∀ b, b < 0 → a ≠ b → (TJ3 a).2.1 ≠ (TJ3 b).2.1 := by decide +kernel
theorem tyJ3_ok : ∀ k, k < 0 → parseFieldDescriptor (TJ3 k).2.2.1 = some (tyJ3 k) := by decide +kernel
abbrev cJ3_checkIndex_8e157 : ByteArray := prog_37_method_11_code
def yJ3_checkIndex_8e157 : MethodName := ⟨RJ3, "checkIndex", "(IILjava/util/function/BiFunction;)I"⟩
def RL : String := "CandleLoomLaw"
abbrev cL_cell : ByteArray := method_2_code
def yL_cell : MethodName := ⟨RL, "cell", "([II)I"⟩
abbrev cL_addWick : ByteArray := method_3_code
def yL_addWick : MethodName := ⟨RL, "addWick", "(LCandleLoom;III)I"⟩
abbrev cL_light : ByteArray := method_4_code
def yL_light : MethodName := ⟨RL, "light", "(LCandleLoom;I)I"⟩
abbrev cL_snuff : ByteArray := method_5_code
def yL_snuff : MethodName := ⟨RL, "snuff", "(LCandleLoom;I)I"⟩
abbrev cL_addWax : ByteArray := method_6_code
def yL_addWax : MethodName := ⟨RL, "addWax", "(LCandleLoom;II)I"⟩
abbrev cL_weave : ByteArray := method_7_code
def yL_weave : MethodName := ⟨RL, "weave", "(LCandleLoom;I)I"⟩
abbrev cL_ravel : ByteArray := method_8_code
def yL_ravel : MethodName := ⟨RL, "ravel", "(LCandleLoom;I)I"⟩
abbrev cL_repeatLast : ByteArray := method_9_code
def yL_repeatLast : MethodName := ⟨RL, "repeatLast", "(LCandleLoom;II)I"⟩
abbrev cL_knot : ByteArray := method_10_code
def yL_knot : MethodName := ⟨RL, "knot", "(LCandleLoom;II)I"⟩
abbrev cL_untie : ByteArray := method_11_code
def yL_untie : MethodName := ⟨RL, "untie", "(LCandleLoom;II)I"⟩
abbrev cL_mend : ByteArray := method_12_code
def yL_mend : MethodName := ⟨RL, "mend", "(LCandleLoom;C)I"⟩
abbrev cL_wickByWax : ByteArray := method_13_code
def yL_wickByWax : MethodName := ⟨RL, "wickByWax", "(LCandleLoom;I)I"⟩
abbrev cL_nextKnotRow : ByteArray := method_14_code
def yL_nextKnotRow : MethodName := ⟨RL, "nextKnotRow", "(LCandleLoom;I)I"⟩
abbrev cL_nextKnotColumn : ByteArray := method_15_code
def yL_nextKnotColumn : MethodName := ⟨RL, "nextKnotColumn", "(LCandleLoom;I)I"⟩
abbrev cL_period : ByteArray := method_16_code
def yL_period : MethodName := ⟨RL, "period", "(LCandleLoom;)I"⟩
abbrev cL_periodByBorders : ByteArray := method_17_code
def yL_periodByBorders : MethodName := ⟨RL, "periodByBorders", "(LCandleLoom;)I"⟩
abbrev cL_occurrences : ByteArray := method_18_code
def yL_occurrences : MethodName := ⟨RL, "occurrences", "(LCandleLoom;I)I"⟩
abbrev cL_meanRaised : ByteArray := method_19_code
def yL_meanRaised : MethodName := ⟨RL, "meanRaised", "(LCandleLoom;)D"⟩
abbrev cL_knotShare : ByteArray := method_20_code
def yL_knotShare : MethodName := ⟨RL, "knotShare", "(LCandleLoom;)F"⟩
abbrev cL_execute : ByteArray := method_21_code
def yL_execute : MethodName := ⟨RL, "execute", "(LCandleLoom;)I"⟩
abbrev cL_denial : ByteArray := method_22_code
def yL_denial : MethodName := ⟨RL, "denial", "(LCandleLoom;)I"⟩
abbrev cL_denialCause : ByteArray := method_23_code
def yL_denialCause : MethodName := ⟨RL, "denialCause", "(LCandleLoom;)I"⟩
abbrev cL_undo : ByteArray := method_24_code
def yL_undo : MethodName := ⟨RL, "undo", "(LCandleLoom;)I"⟩
abbrev cL_restore : ByteArray := method_25_code
def yL_restore : MethodName := ⟨RL, "restore", "(LCandleLoom;)I"⟩
abbrev cL_put : ByteArray := method_26_code
def yL_put : MethodName := ⟨RL, "put", "(LCandleLoom;C)Z"⟩
abbrev cL_write : ByteArray := method_27_code
def yL_write : MethodName := ⟨RL, "write", "(LCandleLoom;Ljava/lang/String;)LCandleLoom;"⟩
abbrev cL_act : ByteArray := method_28_code
def yL_act : MethodName := ⟨RL, "act", "(LCandleLoom;I)I"⟩
abbrev cL_digest : ByteArray := method_29_code
def yL_digest : MethodName := ⟨RL, "digest", "(LCandleLoom;)J"⟩
abbrev cL_areEqual : ByteArray := method_30_code
def yL_areEqual : MethodName := ⟨RL, "areEqual", "(LCandleLoom;II)Z"⟩
abbrev cL_areRows : ByteArray := method_31_code
def yL_areRows : MethodName := ⟨RL, "areRows", "(LCandleLoom;)Z"⟩
abbrev cL_isPeriod : ByteArray := method_32_code
def yL_isPeriod : MethodName := ⟨RL, "isPeriod", "(LCandleLoom;I)Z"⟩
abbrev cL_arePeriods : ByteArray := method_33_code
def yL_arePeriods : MethodName := ⟨RL, "arePeriods", "(LCandleLoom;)Z"⟩
abbrev cL_areWicks : ByteArray := method_34_code
def yL_areWicks : MethodName := ⟨RL, "areWicks", "(LCandleLoom;)Z"⟩
abbrev cL_isWoven : ByteArray := method_35_code
def yL_isWoven : MethodName := ⟨RL, "isWoven", "(LCandleLoom;)Z"⟩
abbrev cL_isRepeated : ByteArray := method_36_code
def yL_isRepeated : MethodName := ⟨RL, "isRepeated", "(LCandleLoom;II)Z"⟩
abbrev cL_areKnots : ByteArray := method_37_code
def yL_areKnots : MethodName := ⟨RL, "areKnots", "(LCandleLoom;)Z"⟩
abbrev cL_isFit : ByteArray := method_38_code
def yL_isFit : MethodName := ⟨RL, "isFit", "(LCandleLoom;)Z"⟩
abbrev cL_law : ByteArray := code
def yL_law : MethodName := ⟨RL, "law", "([I)Z"⟩
end
section
theorem dX1_init_0 : decode cX1_init 0 = .ok (.aload_n 0, 1) := by decide +kernel
theorem dX1_init_1 : decode cX1_init 1 = .ok (.invokespecial 3, 3) := by decide +kernel
theorem dX1_init_4 : decode cX1_init 4 = .ok (.aload_n 0, 1) := by decide +kernel
theorem dX1_init_5 : decode cX1_init 5 = .ok (.bipush 40, 2) := by decide +kernel
theorem dX1_init_7 : decode cX1_init 7 = .ok (.newarray .int, 2) := by decide +kernel
theorem dX1_init_9 : decode cX1_init 9 = .ok (.putfield 9, 3) := by decide +kernel
theorem dX1_init_12 : decode cX1_init 12 = .ok (.aload_n 0, 1) := by decide +kernel
theorem dX1_init_13 : decode cX1_init 13 = .ok (.bipush 40, 2) := by decide +kernel
theorem dX1_init_15 : decode cX1_init 15 = .ok (.newarray .int, 2) := by decide +kernel
theorem dX1_init_17 : decode cX1_init 17 = .ok (.putfield 15, 3) := by decide +kernel
theorem dX1_init_20 : decode cX1_init 20 = .ok (.aload_n 0, 1) := by decide +kernel
theorem dX1_init_21 : decode cX1_init 21 = .ok (.bipush 40, 2) := by decide +kernel
theorem dX1_init_23 : decode cX1_init 23 = .ok (.newarray .int, 2) := by decide +kernel
theorem dX1_init_25 : decode cX1_init 25 = .ok (.putfield 18, 3) := by decide +kernel
theorem dX1_init_28 : decode cX1_init 28 = .ok (.return_, 1) := by decide +kernel
theorem dX1_isColumn_0 : decode cX1_isColumn 0 = .ok (.iload_n 0, 1) := by decide +kernel
theorem dX1_isColumn_1 : decode cX1_isColumn 1 = .ok (.ifCond .lt 13, 3) := by decide +kernel
theorem dX1_isColumn_4 : decode cX1_isColumn 4 = .ok (.iload_n 0, 1) := by decide +kernel
theorem dX1_isColumn_5 : decode cX1_isColumn 5 = .ok (.bipush 16, 2) := by decide +kernel
theorem dX1_isColumn_7 : decode cX1_isColumn 7 = .ok (.if_icmp .ge 7, 3) := by decide +kernel
theorem dX1_isColumn_10 : decode cX1_isColumn 10 = .ok (.iconst 1, 1) := by decide +kernel
theorem dX1_isColumn_11 : decode cX1_isColumn 11 = .ok (.goto 4, 3) := by decide +kernel
theorem dX1_isColumn_14 : decode cX1_isColumn 14 = .ok (.iconst 0, 1) := by decide +kernel
theorem dX1_isColumn_15 : decode cX1_isColumn 15 = .ok (.ireturn, 1) := by decide +kernel
theorem dX1_copyFrom_0 : decode cX1_copyFrom 0 = .ok (.aload_n 1, 1) := by decide +kernel
theorem dX1_copyFrom_1 : decode cX1_copyFrom 1 = .ok (.getfield 9, 3) := by decide +kernel
theorem dX1_copyFrom_4 : decode cX1_copyFrom 4 = .ok (.iconst 0, 1) := by decide +kernel
theorem dX1_copyFrom_5 : decode cX1_copyFrom 5 = .ok (.aload_n 0, 1) := by decide +kernel
theorem dX1_copyFrom_6 : decode cX1_copyFrom 6 = .ok (.getfield 9, 3) := by decide +kernel
theorem dX1_copyFrom_9 : decode cX1_copyFrom 9 = .ok (.iconst 0, 1) := by decide +kernel
theorem dX1_copyFrom_10 : decode cX1_copyFrom 10 = .ok (.bipush 40, 2) := by decide +kernel
theorem dX1_copyFrom_12 : decode cX1_copyFrom 12 = .ok (.invokestatic 21, 3) := by decide +kernel
theorem dX1_copyFrom_15 : decode cX1_copyFrom 15 = .ok (.aload_n 1, 1) := by decide +kernel
theorem dX1_copyFrom_16 : decode cX1_copyFrom 16 = .ok (.getfield 15, 3) := by decide +kernel
theorem dX1_copyFrom_19 : decode cX1_copyFrom 19 = .ok (.iconst 0, 1) := by decide +kernel
theorem dX1_copyFrom_20 : decode cX1_copyFrom 20 = .ok (.aload_n 0, 1) := by decide +kernel
theorem dX1_copyFrom_21 : decode cX1_copyFrom 21 = .ok (.getfield 15, 3) := by decide +kernel
theorem dX1_copyFrom_24 : decode cX1_copyFrom 24 = .ok (.iconst 0, 1) := by decide +kernel
theorem dX1_copyFrom_25 : decode cX1_copyFrom 25 = .ok (.bipush 40, 2) := by decide +kernel
theorem dX1_copyFrom_27 : decode cX1_copyFrom 27 = .ok (.invokestatic 21, 3) := by decide +kernel
theorem dX1_copyFrom_30 : decode cX1_copyFrom 30 = .ok (.aload_n 1, 1) := by decide +kernel
theorem dX1_copyFrom_31 : decode cX1_copyFrom 31 = .ok (.getfield 18, 3) := by decide +kernel
theorem dX1_copyFrom_34 : decode cX1_copyFrom 34 = .ok (.iconst 0, 1) := by decide +kernel
theorem dX1_copyFrom_35 : decode cX1_copyFrom 35 = .ok (.aload_n 0, 1) := by decide +kernel
theorem dX1_copyFrom_36 : decode cX1_copyFrom 36 = .ok (.getfield 18, 3) := by decide +kernel
theorem dX1_copyFrom_39 : decode cX1_copyFrom 39 = .ok (.iconst 0, 1) := by decide +kernel
theorem dX1_copyFrom_40 : decode cX1_copyFrom 40 = .ok (.bipush 40, 2) := by decide +kernel
theorem dX1_copyFrom_42 : decode cX1_copyFrom 42 = .ok (.invokestatic 21, 3) := by decide +kernel
theorem dX1_copyFrom_45 : decode cX1_copyFrom 45 = .ok (.aload_n 0, 1) := by decide +kernel
theorem dX1_copyFrom_46 : decode cX1_copyFrom 46 = .ok (.aload_n 1, 1) := by decide +kernel
theorem dX1_copyFrom_47 : decode cX1_copyFrom 47 = .ok (.getfield 27, 3) := by decide +kernel
theorem dX1_copyFrom_50 : decode cX1_copyFrom 50 = .ok (.putfield 27, 3) := by decide +kernel
theorem dX1_copyFrom_53 : decode cX1_copyFrom 53 = .ok (.return_, 1) := by decide +kernel
theorem dX1_has_0 : decode cX1_has 0 = .ok (.iload_n 1, 1) := by decide +kernel
theorem dX1_has_1 : decode cX1_has 1 = .ok (.ifCond .lt 15, 3) := by decide +kernel
theorem dX1_has_4 : decode cX1_has 4 = .ok (.iload_n 1, 1) := by decide +kernel
theorem dX1_has_5 : decode cX1_has 5 = .ok (.aload_n 0, 1) := by decide +kernel
theorem dX1_has_6 : decode cX1_has 6 = .ok (.getfield 27, 3) := by decide +kernel
theorem dX1_has_9 : decode cX1_has 9 = .ok (.if_icmp .ge 7, 3) := by decide +kernel
theorem dX1_has_12 : decode cX1_has 12 = .ok (.iconst 1, 1) := by decide +kernel
theorem dX1_has_13 : decode cX1_has 13 = .ok (.goto 4, 3) := by decide +kernel
theorem dX1_has_16 : decode cX1_has 16 = .ok (.iconst 0, 1) := by decide +kernel
theorem dX1_has_17 : decode cX1_has 17 = .ok (.ireturn, 1) := by decide +kernel
theorem dX1_hasCell_0 : decode cX1_hasCell 0 = .ok (.aload_n 0, 1) := by decide +kernel
theorem dX1_hasCell_1 : decode cX1_hasCell 1 = .ok (.iload_n 1, 1) := by decide +kernel
theorem dX1_hasCell_2 : decode cX1_hasCell 2 = .ok (.invokevirtual 31, 3) := by decide +kernel
theorem dX1_hasCell_5 : decode cX1_hasCell 5 = .ok (.ifCond .eq 14, 3) := by decide +kernel
theorem dX1_hasCell_8 : decode cX1_hasCell 8 = .ok (.iload_n 2, 1) := by decide +kernel
theorem dX1_hasCell_9 : decode cX1_hasCell 9 = .ok (.invokestatic 35, 3) := by decide +kernel
theorem dX1_hasCell_12 : decode cX1_hasCell 12 = .ok (.ifCond .eq 7, 3) := by decide +kernel
theorem dX1_hasCell_15 : decode cX1_hasCell 15 = .ok (.iconst 1, 1) := by decide +kernel
theorem dX1_hasCell_16 : decode cX1_hasCell 16 = .ok (.goto 4, 3) := by decide +kernel
theorem dX1_hasCell_19 : decode cX1_hasCell 19 = .ok (.iconst 0, 1) := by decide +kernel
theorem dX1_hasCell_20 : decode cX1_hasCell 20 = .ok (.ireturn, 1) := by decide +kernel
theorem dX1_raisedAt_0 : decode cX1_raisedAt 0 = .ok (.aload_n 0, 1) := by decide +kernel
theorem dX1_raisedAt_1 : decode cX1_raisedAt 1 = .ok (.getfield 9, 3) := by decide +kernel
theorem dX1_raisedAt_4 : decode cX1_raisedAt 4 = .ok (.iload_n 1, 1) := by decide +kernel
theorem dX1_raisedAt_5 : decode cX1_raisedAt 5 = .ok (.iaload, 1) := by decide +kernel
theorem dX1_raisedAt_6 : decode cX1_raisedAt 6 = .ok (.iload_n 2, 1) := by decide +kernel
theorem dX1_raisedAt_7 : decode cX1_raisedAt 7 = .ok (.ishr, 1) := by decide +kernel
theorem dX1_raisedAt_8 : decode cX1_raisedAt 8 = .ok (.iconst 1, 1) := by decide +kernel
theorem dX1_raisedAt_9 : decode cX1_raisedAt 9 = .ok (.iand, 1) := by decide +kernel
theorem dX1_raisedAt_10 : decode cX1_raisedAt 10 = .ok (.ifCond .eq 7, 3) := by decide +kernel
theorem dX1_raisedAt_13 : decode cX1_raisedAt 13 = .ok (.iconst 1, 1) := by decide +kernel
theorem dX1_raisedAt_14 : decode cX1_raisedAt 14 = .ok (.goto 4, 3) := by decide +kernel
theorem dX1_raisedAt_17 : decode cX1_raisedAt 17 = .ok (.iconst 0, 1) := by decide +kernel
theorem dX1_raisedAt_18 : decode cX1_raisedAt 18 = .ok (.ireturn, 1) := by decide +kernel
theorem dX1_knottedAt_0 : decode cX1_knottedAt 0 = .ok (.aload_n 0, 1) := by decide +kernel
theorem dX1_knottedAt_1 : decode cX1_knottedAt 1 = .ok (.getfield 18, 3) := by decide +kernel
theorem dX1_knottedAt_4 : decode cX1_knottedAt 4 = .ok (.iload_n 1, 1) := by decide +kernel
theorem dX1_knottedAt_5 : decode cX1_knottedAt 5 = .ok (.iaload, 1) := by decide +kernel
theorem dX1_knottedAt_6 : decode cX1_knottedAt 6 = .ok (.iload_n 2, 1) := by decide +kernel
theorem dX1_knottedAt_7 : decode cX1_knottedAt 7 = .ok (.ishr, 1) := by decide +kernel
theorem dX1_knottedAt_8 : decode cX1_knottedAt 8 = .ok (.iconst 1, 1) := by decide +kernel
theorem dX1_knottedAt_9 : decode cX1_knottedAt 9 = .ok (.iand, 1) := by decide +kernel
theorem dX1_knottedAt_10 : decode cX1_knottedAt 10 = .ok (.ifCond .eq 7, 3) := by decide +kernel
theorem dX1_knottedAt_13 : decode cX1_knottedAt 13 = .ok (.iconst 1, 1) := by decide +kernel
theorem dX1_knottedAt_14 : decode cX1_knottedAt 14 = .ok (.goto 4, 3) := by decide +kernel
theorem dX1_knottedAt_17 : decode cX1_knottedAt 17 = .ok (.iconst 0, 1) := by decide +kernel
theorem dX1_knottedAt_18 : decode cX1_knottedAt 18 = .ok (.ireturn, 1) := by decide +kernel
theorem dX1_append_0 : decode cX1_append 0 = .ok (.aload_n 0, 1) := by decide +kernel
theorem dX1_append_1 : decode cX1_append 1 = .ok (.getfield 9, 3) := by decide +kernel
theorem dX1_append_4 : decode cX1_append 4 = .ok (.aload_n 0, 1) := by decide +kernel
theorem dX1_append_5 : decode cX1_append 5 = .ok (.getfield 27, 3) := by decide +kernel
theorem dX1_append_8 : decode cX1_append 8 = .ok (.iload_n 1, 1) := by decide +kernel
theorem dX1_append_9 : decode cX1_append 9 = .ok (.iastore, 1) := by decide +kernel
theorem dX1_append_10 : decode cX1_append 10 = .ok (.aload_n 0, 1) := by decide +kernel
theorem dX1_append_11 : decode cX1_append 11 = .ok (.getfield 15, 3) := by decide +kernel
theorem dX1_append_14 : decode cX1_append 14 = .ok (.aload_n 0, 1) := by decide +kernel
theorem dX1_append_15 : decode cX1_append 15 = .ok (.getfield 27, 3) := by decide +kernel
theorem dX1_append_18 : decode cX1_append 18 = .ok (.iload_n 2, 1) := by decide +kernel
theorem dX1_append_19 : decode cX1_append 19 = .ok (.iastore, 1) := by decide +kernel
theorem dX1_append_20 : decode cX1_append 20 = .ok (.aload_n 0, 1) := by decide +kernel
theorem dX1_append_21 : decode cX1_append 21 = .ok (.getfield 18, 3) := by decide +kernel
theorem dX1_append_24 : decode cX1_append 24 = .ok (.aload_n 0, 1) := by decide +kernel
theorem dX1_append_25 : decode cX1_append 25 = .ok (.getfield 27, 3) := by decide +kernel
theorem dX1_append_28 : decode cX1_append 28 = .ok (.iconst 0, 1) := by decide +kernel
theorem dX1_append_29 : decode cX1_append 29 = .ok (.iastore, 1) := by decide +kernel
theorem dX1_append_30 : decode cX1_append 30 = .ok (.aload_n 0, 1) := by decide +kernel
theorem dX1_append_31 : decode cX1_append 31 = .ok (.dup, 1) := by decide +kernel
theorem dX1_append_32 : decode cX1_append 32 = .ok (.getfield 27, 3) := by decide +kernel
theorem dX1_append_35 : decode cX1_append 35 = .ok (.iconst 1, 1) := by decide +kernel
theorem dX1_append_36 : decode cX1_append 36 = .ok (.iadd, 1) := by decide +kernel
theorem dX1_append_37 : decode cX1_append 37 = .ok (.putfield 27, 3) := by decide +kernel
theorem dX1_append_40 : decode cX1_append 40 = .ok (.return_, 1) := by decide +kernel
theorem dX1_removeLast_0 : decode cX1_removeLast 0 = .ok (.aload_n 0, 1) := by decide +kernel
theorem dX1_removeLast_1 : decode cX1_removeLast 1 = .ok (.dup, 1) := by decide +kernel
theorem dX1_removeLast_2 : decode cX1_removeLast 2 = .ok (.getfield 27, 3) := by decide +kernel
theorem dX1_removeLast_5 : decode cX1_removeLast 5 = .ok (.iload_n 1, 1) := by decide +kernel
theorem dX1_removeLast_6 : decode cX1_removeLast 6 = .ok (.isub, 1) := by decide +kernel
theorem dX1_removeLast_7 : decode cX1_removeLast 7 = .ok (.putfield 27, 3) := by decide +kernel
theorem dX1_removeLast_10 : decode cX1_removeLast 10 = .ok (.aload_n 0, 1) := by decide +kernel
theorem dX1_removeLast_11 : decode cX1_removeLast 11 = .ok (.getfield 27, 3) := by decide +kernel
theorem dX1_removeLast_14 : decode cX1_removeLast 14 = .ok (.ireturn, 1) := by decide +kernel
theorem dX1_copyLast_0 : decode cX1_copyLast 0 = .ok (.iload_n 1, 1) := by decide +kernel
theorem dX1_copyLast_1 : decode cX1_copyLast 1 = .ok (.iload_n 2, 1) := by decide +kernel
theorem dX1_copyLast_2 : decode cX1_copyLast 2 = .ok (.imul, 1) := by decide +kernel
theorem dX1_copyLast_3 : decode cX1_copyLast 3 = .ok (.istore_n 3, 1) := by decide +kernel
theorem dX1_copyLast_4 : decode cX1_copyLast 4 = .ok (.iconst 0, 1) := by decide +kernel
theorem dX1_copyLast_5 : decode cX1_copyLast 5 = .ok (.istore 4, 2) := by decide +kernel
theorem dX1_copyLast_7 : decode cX1_copyLast 7 = .ok (.iload 4, 2) := by decide +kernel
theorem dX1_copyLast_9 : decode cX1_copyLast 9 = .ok (.iload_n 3, 1) := by decide +kernel
theorem dX1_copyLast_10 : decode cX1_copyLast 10 = .ok (.if_icmp .ge 35, 3) := by decide +kernel
theorem dX1_copyLast_13 : decode cX1_copyLast 13 = .ok (.aload_n 0, 1) := by decide +kernel
theorem dX1_copyLast_14 : decode cX1_copyLast 14 = .ok (.getfield 27, 3) := by decide +kernel
theorem dX1_copyLast_17 : decode cX1_copyLast 17 = .ok (.iload_n 1, 1) := by decide +kernel
theorem dX1_copyLast_18 : decode cX1_copyLast 18 = .ok (.isub, 1) := by decide +kernel
theorem dX1_copyLast_19 : decode cX1_copyLast 19 = .ok (.istore 5, 2) := by decide +kernel
theorem dX1_copyLast_21 : decode cX1_copyLast 21 = .ok (.aload_n 0, 1) := by decide +kernel
theorem dX1_copyLast_22 : decode cX1_copyLast 22 = .ok (.aload_n 0, 1) := by decide +kernel
theorem dX1_copyLast_23 : decode cX1_copyLast 23 = .ok (.getfield 9, 3) := by decide +kernel
theorem dX1_copyLast_26 : decode cX1_copyLast 26 = .ok (.iload 5, 2) := by decide +kernel
theorem dX1_copyLast_28 : decode cX1_copyLast 28 = .ok (.iaload, 1) := by decide +kernel
theorem dX1_copyLast_29 : decode cX1_copyLast 29 = .ok (.aload_n 0, 1) := by decide +kernel
theorem dX1_copyLast_30 : decode cX1_copyLast 30 = .ok (.getfield 15, 3) := by decide +kernel
theorem dX1_copyLast_33 : decode cX1_copyLast 33 = .ok (.iload 5, 2) := by decide +kernel
theorem dX1_copyLast_35 : decode cX1_copyLast 35 = .ok (.iaload, 1) := by decide +kernel
theorem dX1_copyLast_36 : decode cX1_copyLast 36 = .ok (.invokevirtual 38, 3) := by decide +kernel
theorem dX1_copyLast_39 : decode cX1_copyLast 39 = .ok (.iinc 4 1, 3) := by decide +kernel
theorem dX1_copyLast_42 : decode cX1_copyLast 42 = .ok (.goto (-35), 3) := by decide +kernel
theorem dX1_copyLast_45 : decode cX1_copyLast 45 = .ok (.aload_n 0, 1) := by decide +kernel
theorem dX1_copyLast_46 : decode cX1_copyLast 46 = .ok (.getfield 27, 3) := by decide +kernel
theorem dX1_copyLast_49 : decode cX1_copyLast 49 = .ok (.ireturn, 1) := by decide +kernel
theorem dX1_flipKnot_0 : decode cX1_flipKnot 0 = .ok (.aload_n 0, 1) := by decide +kernel
theorem dX1_flipKnot_1 : decode cX1_flipKnot 1 = .ok (.getfield 18, 3) := by decide +kernel
theorem dX1_flipKnot_4 : decode cX1_flipKnot 4 = .ok (.iload_n 1, 1) := by decide +kernel
theorem dX1_flipKnot_5 : decode cX1_flipKnot 5 = .ok (.dup2, 1) := by decide +kernel
theorem dX1_flipKnot_6 : decode cX1_flipKnot 6 = .ok (.iaload, 1) := by decide +kernel
theorem dX1_flipKnot_7 : decode cX1_flipKnot 7 = .ok (.iconst 1, 1) := by decide +kernel
theorem dX1_flipKnot_8 : decode cX1_flipKnot 8 = .ok (.iload_n 2, 1) := by decide +kernel
theorem dX1_flipKnot_9 : decode cX1_flipKnot 9 = .ok (.ishl, 1) := by decide +kernel
theorem dX1_flipKnot_10 : decode cX1_flipKnot 10 = .ok (.ixor, 1) := by decide +kernel
theorem dX1_flipKnot_11 : decode cX1_flipKnot 11 = .ok (.iastore, 1) := by decide +kernel
theorem dX1_flipKnot_12 : decode cX1_flipKnot 12 = .ok (.aload_n 0, 1) := by decide +kernel
theorem dX1_flipKnot_13 : decode cX1_flipKnot 13 = .ok (.invokevirtual 42, 3) := by decide +kernel
theorem dX1_flipKnot_16 : decode cX1_flipKnot 16 = .ok (.ireturn, 1) := by decide +kernel
theorem dX1_countKnots_0 : decode cX1_countKnots 0 = .ok (.iconst 0, 1) := by decide +kernel
theorem dX1_countKnots_1 : decode cX1_countKnots 1 = .ok (.istore_n 1, 1) := by decide +kernel
theorem dX1_countKnots_2 : decode cX1_countKnots 2 = .ok (.iconst 0, 1) := by decide +kernel
theorem dX1_countKnots_3 : decode cX1_countKnots 3 = .ok (.istore_n 2, 1) := by decide +kernel
theorem dX1_countKnots_4 : decode cX1_countKnots 4 = .ok (.iload_n 2, 1) := by decide +kernel
theorem dX1_countKnots_5 : decode cX1_countKnots 5 = .ok (.aload_n 0, 1) := by decide +kernel
theorem dX1_countKnots_6 : decode cX1_countKnots 6 = .ok (.getfield 27, 3) := by decide +kernel
theorem dX1_countKnots_9 : decode cX1_countKnots 9 = .ok (.if_icmp .ge 21, 3) := by decide +kernel
theorem dX1_countKnots_12 : decode cX1_countKnots 12 = .ok (.iload_n 1, 1) := by decide +kernel
theorem dX1_countKnots_13 : decode cX1_countKnots 13 = .ok (.aload_n 0, 1) := by decide +kernel
theorem dX1_countKnots_14 : decode cX1_countKnots 14 = .ok (.getfield 18, 3) := by decide +kernel
theorem dX1_countKnots_17 : decode cX1_countKnots 17 = .ok (.iload_n 2, 1) := by decide +kernel
theorem dX1_countKnots_18 : decode cX1_countKnots 18 = .ok (.iaload, 1) := by decide +kernel
theorem dX1_countKnots_19 : decode cX1_countKnots 19 = .ok (.invokestatic 46, 3) := by decide +kernel
theorem dX1_countKnots_22 : decode cX1_countKnots 22 = .ok (.iadd, 1) := by decide +kernel
theorem dX1_countKnots_23 : decode cX1_countKnots 23 = .ok (.istore_n 1, 1) := by decide +kernel
theorem dX1_countKnots_24 : decode cX1_countKnots 24 = .ok (.iinc 2 1, 3) := by decide +kernel
theorem dX1_countKnots_27 : decode cX1_countKnots 27 = .ok (.goto (-23), 3) := by decide +kernel
theorem dX1_countKnots_30 : decode cX1_countKnots 30 = .ok (.iload_n 1, 1) := by decide +kernel
theorem dX1_countKnots_31 : decode cX1_countKnots 31 = .ok (.ireturn, 1) := by decide +kernel
theorem dX1_countRaised_0 : decode cX1_countRaised 0 = .ok (.iconst 0, 1) := by decide +kernel
theorem dX1_countRaised_1 : decode cX1_countRaised 1 = .ok (.istore_n 1, 1) := by decide +kernel
theorem dX1_countRaised_2 : decode cX1_countRaised 2 = .ok (.iconst 0, 1) := by decide +kernel
theorem dX1_countRaised_3 : decode cX1_countRaised 3 = .ok (.istore_n 2, 1) := by decide +kernel
theorem dX1_countRaised_4 : decode cX1_countRaised 4 = .ok (.iload_n 2, 1) := by decide +kernel
theorem dX1_countRaised_5 : decode cX1_countRaised 5 = .ok (.aload_n 0, 1) := by decide +kernel
theorem dX1_countRaised_6 : decode cX1_countRaised 6 = .ok (.getfield 27, 3) := by decide +kernel
theorem dX1_countRaised_9 : decode cX1_countRaised 9 = .ok (.if_icmp .ge 21, 3) := by decide +kernel
theorem dX1_countRaised_12 : decode cX1_countRaised 12 = .ok (.iload_n 1, 1) := by decide +kernel
theorem dX1_countRaised_13 : decode cX1_countRaised 13 = .ok (.aload_n 0, 1) := by decide +kernel
theorem dX1_countRaised_14 : decode cX1_countRaised 14 = .ok (.getfield 9, 3) := by decide +kernel
theorem dX1_countRaised_17 : decode cX1_countRaised 17 = .ok (.iload_n 2, 1) := by decide +kernel
theorem dX1_countRaised_18 : decode cX1_countRaised 18 = .ok (.iaload, 1) := by decide +kernel
theorem dX1_countRaised_19 : decode cX1_countRaised 19 = .ok (.invokestatic 46, 3) := by decide +kernel
theorem dX1_countRaised_22 : decode cX1_countRaised 22 = .ok (.iadd, 1) := by decide +kernel
theorem dX1_countRaised_23 : decode cX1_countRaised 23 = .ok (.istore_n 1, 1) := by decide +kernel
theorem dX1_countRaised_24 : decode cX1_countRaised 24 = .ok (.iinc 2 1, 3) := by decide +kernel
theorem dX1_countRaised_27 : decode cX1_countRaised 27 = .ok (.goto (-23), 3) := by decide +kernel
theorem dX1_countRaised_30 : decode cX1_countRaised 30 = .ok (.iload_n 1, 1) := by decide +kernel
theorem dX1_countRaised_31 : decode cX1_countRaised 31 = .ok (.ireturn, 1) := by decide +kernel
theorem dX1_firstKnottedRow_0 : decode cX1_firstKnottedRow 0 = .ok (.iload_n 1, 1) := by decide +kernel
theorem dX1_firstKnottedRow_1 : decode cX1_firstKnottedRow 1 = .ok (.istore_n 2, 1) := by decide +kernel
theorem dX1_firstKnottedRow_2 : decode cX1_firstKnottedRow 2 = .ok (.iload_n 2, 1) := by decide +kernel
theorem dX1_firstKnottedRow_3 : decode cX1_firstKnottedRow 3 = .ok (.aload_n 0, 1) := by decide +kernel
theorem dX1_firstKnottedRow_4 : decode cX1_firstKnottedRow 4 = .ok (.getfield 27, 3) := by decide +kernel
theorem dX1_firstKnottedRow_7 : decode cX1_firstKnottedRow 7 = .ok (.if_icmp .ge 20, 3) := by decide +kernel
theorem dX1_firstKnottedRow_10 : decode cX1_firstKnottedRow 10 = .ok (.aload_n 0, 1) := by decide +kernel
theorem dX1_firstKnottedRow_11 : decode cX1_firstKnottedRow 11 = .ok (.getfield 18, 3) := by decide +kernel
theorem dX1_firstKnottedRow_14 : decode cX1_firstKnottedRow 14 = .ok (.iload_n 2, 1) := by decide +kernel
theorem dX1_firstKnottedRow_15 : decode cX1_firstKnottedRow 15 = .ok (.iaload, 1) := by decide +kernel
theorem dX1_firstKnottedRow_16 : decode cX1_firstKnottedRow 16 = .ok (.ifCond .eq 5, 3) := by decide +kernel
theorem dX1_firstKnottedRow_19 : decode cX1_firstKnottedRow 19 = .ok (.iload_n 2, 1) := by decide +kernel
theorem dX1_firstKnottedRow_20 : decode cX1_firstKnottedRow 20 = .ok (.ireturn, 1) := by decide +kernel
theorem dX1_firstKnottedRow_21 : decode cX1_firstKnottedRow 21 = .ok (.iinc 2 1, 3) := by decide +kernel
theorem dX1_firstKnottedRow_24 : decode cX1_firstKnottedRow 24 = .ok (.goto (-22), 3) := by decide +kernel
theorem dX1_firstKnottedRow_27 : decode cX1_firstKnottedRow 27 = .ok (.iconst (-1), 1) := by decide +kernel
theorem dX1_firstKnottedRow_28 : decode cX1_firstKnottedRow 28 = .ok (.ireturn, 1) := by decide +kernel
theorem dX1_lastKnottedRow_0 : decode cX1_lastKnottedRow 0 = .ok (.aload_n 0, 1) := by decide +kernel
theorem dX1_lastKnottedRow_1 : decode cX1_lastKnottedRow 1 = .ok (.getfield 27, 3) := by decide +kernel
theorem dX1_lastKnottedRow_4 : decode cX1_lastKnottedRow 4 = .ok (.iconst 1, 1) := by decide +kernel
theorem dX1_lastKnottedRow_5 : decode cX1_lastKnottedRow 5 = .ok (.isub, 1) := by decide +kernel
theorem dX1_lastKnottedRow_6 : decode cX1_lastKnottedRow 6 = .ok (.istore_n 1, 1) := by decide +kernel
theorem dX1_lastKnottedRow_7 : decode cX1_lastKnottedRow 7 = .ok (.iload_n 1, 1) := by decide +kernel
theorem dX1_lastKnottedRow_8 : decode cX1_lastKnottedRow 8 = .ok (.ifCond .lt 18, 3) := by decide +kernel
theorem dX1_lastKnottedRow_11 : decode cX1_lastKnottedRow 11 = .ok (.aload_n 0, 1) := by decide +kernel
theorem dX1_lastKnottedRow_12 : decode cX1_lastKnottedRow 12 = .ok (.getfield 18, 3) := by decide +kernel
theorem dX1_lastKnottedRow_15 : decode cX1_lastKnottedRow 15 = .ok (.iload_n 1, 1) := by decide +kernel
theorem dX1_lastKnottedRow_16 : decode cX1_lastKnottedRow 16 = .ok (.iaload, 1) := by decide +kernel
theorem dX1_lastKnottedRow_17 : decode cX1_lastKnottedRow 17 = .ok (.ifCond .ne 9, 3) := by decide +kernel
theorem dX1_lastKnottedRow_20 : decode cX1_lastKnottedRow 20 = .ok (.iinc 1 (-1), 3) := by decide +kernel
theorem dX1_lastKnottedRow_23 : decode cX1_lastKnottedRow 23 = .ok (.goto (-16), 3) := by decide +kernel
theorem dX1_lastKnottedRow_26 : decode cX1_lastKnottedRow 26 = .ok (.iload_n 1, 1) := by decide +kernel
theorem dX1_lastKnottedRow_27 : decode cX1_lastKnottedRow 27 = .ok (.ireturn, 1) := by decide +kernel
theorem dX1_firstKnottedColumn_0 : decode cX1_firstKnottedColumn 0 = .ok (.iconst 0, 1) := by decide +kernel
theorem dX1_firstKnottedColumn_1 : decode cX1_firstKnottedColumn 1 = .ok (.istore_n 2, 1) := by decide +kernel
theorem dX1_firstKnottedColumn_2 : decode cX1_firstKnottedColumn 2 = .ok (.iload_n 2, 1) := by decide +kernel
theorem dX1_firstKnottedColumn_3 : decode cX1_firstKnottedColumn 3 = .ok (.bipush 15, 2) := by decide +kernel
theorem dX1_firstKnottedColumn_5 : decode cX1_firstKnottedColumn 5 = .ok (.if_icmp .ge 18, 3) := by decide +kernel
theorem dX1_firstKnottedColumn_8 : decode cX1_firstKnottedColumn 8 = .ok (.aload_n 0, 1) := by decide +kernel
theorem dX1_firstKnottedColumn_9 : decode cX1_firstKnottedColumn 9 = .ok (.iload_n 1, 1) := by decide +kernel
theorem dX1_firstKnottedColumn_10 : decode cX1_firstKnottedColumn 10 = .ok (.iload_n 2, 1) := by decide +kernel
theorem dX1_firstKnottedColumn_11 : decode cX1_firstKnottedColumn 11 = .ok (.invokevirtual 52, 3) := by decide +kernel
theorem dX1_firstKnottedColumn_14 : decode cX1_firstKnottedColumn 14 = .ok (.ifCond .ne 9, 3) := by decide +kernel
theorem dX1_firstKnottedColumn_17 : decode cX1_firstKnottedColumn 17 = .ok (.iinc 2 1, 3) := by decide +kernel
theorem dX1_firstKnottedColumn_20 : decode cX1_firstKnottedColumn 20 = .ok (.goto (-18), 3) := by decide +kernel
theorem dX1_firstKnottedColumn_23 : decode cX1_firstKnottedColumn 23 = .ok (.iload_n 2, 1) := by decide +kernel
theorem dX1_firstKnottedColumn_24 : decode cX1_firstKnottedColumn 24 = .ok (.ireturn, 1) := by decide +kernel
theorem dX1_sameRows_0 : decode cX1_sameRows 0 = .ok (.aload_n 0, 1) := by decide +kernel
theorem dX1_sameRows_1 : decode cX1_sameRows 1 = .ok (.getfield 9, 3) := by decide +kernel
theorem dX1_sameRows_4 : decode cX1_sameRows 4 = .ok (.iload_n 1, 1) := by decide +kernel
theorem dX1_sameRows_5 : decode cX1_sameRows 5 = .ok (.iaload, 1) := by decide +kernel
theorem dX1_sameRows_6 : decode cX1_sameRows 6 = .ok (.aload_n 0, 1) := by decide +kernel
theorem dX1_sameRows_7 : decode cX1_sameRows 7 = .ok (.getfield 9, 3) := by decide +kernel
theorem dX1_sameRows_10 : decode cX1_sameRows 10 = .ok (.iload_n 2, 1) := by decide +kernel
theorem dX1_sameRows_11 : decode cX1_sameRows 11 = .ok (.iaload, 1) := by decide +kernel
theorem dX1_sameRows_12 : decode cX1_sameRows 12 = .ok (.if_icmp .ne 22, 3) := by decide +kernel
theorem dX1_sameRows_15 : decode cX1_sameRows 15 = .ok (.aload_n 0, 1) := by decide +kernel
theorem dX1_sameRows_16 : decode cX1_sameRows 16 = .ok (.getfield 15, 3) := by decide +kernel
theorem dX1_sameRows_19 : decode cX1_sameRows 19 = .ok (.iload_n 1, 1) := by decide +kernel
theorem dX1_sameRows_20 : decode cX1_sameRows 20 = .ok (.iaload, 1) := by decide +kernel
theorem dX1_sameRows_21 : decode cX1_sameRows 21 = .ok (.aload_n 0, 1) := by decide +kernel
theorem dX1_sameRows_22 : decode cX1_sameRows 22 = .ok (.getfield 15, 3) := by decide +kernel
theorem dX1_sameRows_25 : decode cX1_sameRows 25 = .ok (.iload_n 2, 1) := by decide +kernel
theorem dX1_sameRows_26 : decode cX1_sameRows 26 = .ok (.iaload, 1) := by decide +kernel
theorem dX1_sameRows_27 : decode cX1_sameRows 27 = .ok (.if_icmp .ne 7, 3) := by decide +kernel
theorem dX1_sameRows_30 : decode cX1_sameRows 30 = .ok (.iconst 1, 1) := by decide +kernel
theorem dX1_sameRows_31 : decode cX1_sameRows 31 = .ok (.goto 4, 3) := by decide +kernel
theorem dX1_sameRows_34 : decode cX1_sameRows 34 = .ok (.iconst 0, 1) := by decide +kernel
theorem dX1_sameRows_35 : decode cX1_sameRows 35 = .ok (.ireturn, 1) := by decide +kernel
theorem dX1_sameRuns_0 : decode cX1_sameRuns 0 = .ok (.iconst 0, 1) := by decide +kernel
theorem dX1_sameRuns_1 : decode cX1_sameRuns 1 = .ok (.istore 4, 2) := by decide +kernel
theorem dX1_sameRuns_3 : decode cX1_sameRuns 3 = .ok (.iload 4, 2) := by decide +kernel
theorem dX1_sameRuns_5 : decode cX1_sameRuns 5 = .ok (.iload_n 3, 1) := by decide +kernel
theorem dX1_sameRuns_6 : decode cX1_sameRuns 6 = .ok (.if_icmp .ge 26, 3) := by decide +kernel
theorem dX1_sameRuns_9 : decode cX1_sameRuns 9 = .ok (.aload_n 0, 1) := by decide +kernel
theorem dX1_sameRuns_10 : decode cX1_sameRuns 10 = .ok (.iload_n 1, 1) := by decide +kernel
theorem dX1_sameRuns_11 : decode cX1_sameRuns 11 = .ok (.iload 4, 2) := by decide +kernel
theorem dX1_sameRuns_13 : decode cX1_sameRuns 13 = .ok (.iadd, 1) := by decide +kernel
theorem dX1_sameRuns_14 : decode cX1_sameRuns 14 = .ok (.iload_n 2, 1) := by decide +kernel
theorem dX1_sameRuns_15 : decode cX1_sameRuns 15 = .ok (.iload 4, 2) := by decide +kernel
theorem dX1_sameRuns_17 : decode cX1_sameRuns 17 = .ok (.iadd, 1) := by decide +kernel
theorem dX1_sameRuns_18 : decode cX1_sameRuns 18 = .ok (.invokevirtual 56, 3) := by decide +kernel
theorem dX1_sameRuns_21 : decode cX1_sameRuns 21 = .ok (.ifCond .ne 5, 3) := by decide +kernel
theorem dX1_sameRuns_24 : decode cX1_sameRuns 24 = .ok (.iconst 0, 1) := by decide +kernel
theorem dX1_sameRuns_25 : decode cX1_sameRuns 25 = .ok (.ireturn, 1) := by decide +kernel
theorem dX1_sameRuns_26 : decode cX1_sameRuns 26 = .ok (.iinc 4 1, 3) := by decide +kernel
theorem dX1_sameRuns_29 : decode cX1_sameRuns 29 = .ok (.goto (-26), 3) := by decide +kernel
theorem dX1_sameRuns_32 : decode cX1_sameRuns 32 = .ok (.iconst 1, 1) := by decide +kernel
theorem dX1_sameRuns_33 : decode cX1_sameRuns 33 = .ok (.ireturn, 1) := by decide +kernel
theorem dX1_overlapsItself_0 : decode cX1_overlapsItself 0 = .ok (.iload_n 1, 1) := by decide +kernel
theorem dX1_overlapsItself_1 : decode cX1_overlapsItself 1 = .ok (.istore_n 2, 1) := by decide +kernel
theorem dX1_overlapsItself_2 : decode cX1_overlapsItself 2 = .ok (.iload_n 2, 1) := by decide +kernel
theorem dX1_overlapsItself_3 : decode cX1_overlapsItself 3 = .ok (.aload_n 0, 1) := by decide +kernel
theorem dX1_overlapsItself_4 : decode cX1_overlapsItself 4 = .ok (.getfield 27, 3) := by decide +kernel
theorem dX1_overlapsItself_7 : decode cX1_overlapsItself 7 = .ok (.if_icmp .ge 22, 3) := by decide +kernel
theorem dX1_overlapsItself_10 : decode cX1_overlapsItself 10 = .ok (.aload_n 0, 1) := by decide +kernel
theorem dX1_overlapsItself_11 : decode cX1_overlapsItself 11 = .ok (.iload_n 2, 1) := by decide +kernel
theorem dX1_overlapsItself_12 : decode cX1_overlapsItself 12 = .ok (.iload_n 2, 1) := by decide +kernel
theorem dX1_overlapsItself_13 : decode cX1_overlapsItself 13 = .ok (.iload_n 1, 1) := by decide +kernel
theorem dX1_overlapsItself_14 : decode cX1_overlapsItself 14 = .ok (.isub, 1) := by decide +kernel
theorem dX1_overlapsItself_15 : decode cX1_overlapsItself 15 = .ok (.invokevirtual 56, 3) := by decide +kernel
theorem dX1_overlapsItself_18 : decode cX1_overlapsItself 18 = .ok (.ifCond .ne 5, 3) := by decide +kernel
theorem dX1_overlapsItself_21 : decode cX1_overlapsItself 21 = .ok (.iconst 0, 1) := by decide +kernel
theorem dX1_overlapsItself_22 : decode cX1_overlapsItself 22 = .ok (.ireturn, 1) := by decide +kernel
theorem dX1_overlapsItself_23 : decode cX1_overlapsItself 23 = .ok (.iinc 2 1, 3) := by decide +kernel
theorem dX1_overlapsItself_26 : decode cX1_overlapsItself 26 = .ok (.goto (-24), 3) := by decide +kernel
theorem dX1_overlapsItself_29 : decode cX1_overlapsItself 29 = .ok (.iconst 1, 1) := by decide +kernel
theorem dX1_overlapsItself_30 : decode cX1_overlapsItself 30 = .ok (.ireturn, 1) := by decide +kernel
theorem dX1_longestBorder_0 : decode cX1_longestBorder 0 = .ok (.aload_n 0, 1) := by decide +kernel
theorem dX1_longestBorder_1 : decode cX1_longestBorder 1 = .ok (.getfield 27, 3) := by decide +kernel
theorem dX1_longestBorder_4 : decode cX1_longestBorder 4 = .ok (.iconst 1, 1) := by decide +kernel
theorem dX1_longestBorder_5 : decode cX1_longestBorder 5 = .ok (.isub, 1) := by decide +kernel
theorem dX1_longestBorder_6 : decode cX1_longestBorder 6 = .ok (.istore_n 1, 1) := by decide +kernel
theorem dX1_longestBorder_7 : decode cX1_longestBorder 7 = .ok (.iload_n 1, 1) := by decide +kernel
theorem dX1_longestBorder_8 : decode cX1_longestBorder 8 = .ok (.ifCond .le 24, 3) := by decide +kernel
theorem dX1_longestBorder_11 : decode cX1_longestBorder 11 = .ok (.aload_n 0, 1) := by decide +kernel
theorem dX1_longestBorder_12 : decode cX1_longestBorder 12 = .ok (.iconst 0, 1) := by decide +kernel
theorem dX1_longestBorder_13 : decode cX1_longestBorder 13 = .ok (.aload_n 0, 1) := by decide +kernel
theorem dX1_longestBorder_14 : decode cX1_longestBorder 14 = .ok (.getfield 27, 3) := by decide +kernel
theorem dX1_longestBorder_17 : decode cX1_longestBorder 17 = .ok (.iload_n 1, 1) := by decide +kernel
theorem dX1_longestBorder_18 : decode cX1_longestBorder 18 = .ok (.isub, 1) := by decide +kernel
theorem dX1_longestBorder_19 : decode cX1_longestBorder 19 = .ok (.iload_n 1, 1) := by decide +kernel
theorem dX1_longestBorder_20 : decode cX1_longestBorder 20 = .ok (.invokevirtual 59, 3) := by decide +kernel
theorem dX1_longestBorder_23 : decode cX1_longestBorder 23 = .ok (.ifCond .ne 9, 3) := by decide +kernel
theorem dX1_longestBorder_26 : decode cX1_longestBorder 26 = .ok (.iinc 1 (-1), 3) := by decide +kernel
theorem dX1_longestBorder_29 : decode cX1_longestBorder 29 = .ok (.goto (-22), 3) := by decide +kernel
theorem dX1_longestBorder_32 : decode cX1_longestBorder 32 = .ok (.iload_n 1, 1) := by decide +kernel
theorem dX1_longestBorder_33 : decode cX1_longestBorder 33 = .ok (.ireturn, 1) := by decide +kernel
theorem dX1_countOfLast_0 : decode cX1_countOfLast 0 = .ok (.aload_n 0, 1) := by decide +kernel
theorem dX1_countOfLast_1 : decode cX1_countOfLast 1 = .ok (.getfield 27, 3) := by decide +kernel
theorem dX1_countOfLast_4 : decode cX1_countOfLast 4 = .ok (.iload_n 1, 1) := by decide +kernel
theorem dX1_countOfLast_5 : decode cX1_countOfLast 5 = .ok (.isub, 1) := by decide +kernel
theorem dX1_countOfLast_6 : decode cX1_countOfLast 6 = .ok (.istore_n 2, 1) := by decide +kernel
theorem dX1_countOfLast_7 : decode cX1_countOfLast 7 = .ok (.iconst 0, 1) := by decide +kernel
theorem dX1_countOfLast_8 : decode cX1_countOfLast 8 = .ok (.istore_n 3, 1) := by decide +kernel
theorem dX1_countOfLast_9 : decode cX1_countOfLast 9 = .ok (.iconst 0, 1) := by decide +kernel
theorem dX1_countOfLast_10 : decode cX1_countOfLast 10 = .ok (.istore 4, 2) := by decide +kernel
theorem dX1_countOfLast_12 : decode cX1_countOfLast 12 = .ok (.iload 4, 2) := by decide +kernel
theorem dX1_countOfLast_14 : decode cX1_countOfLast 14 = .ok (.iload_n 2, 1) := by decide +kernel
theorem dX1_countOfLast_15 : decode cX1_countOfLast 15 = .ok (.if_icmp .gt 23, 3) := by decide +kernel
theorem dX1_countOfLast_18 : decode cX1_countOfLast 18 = .ok (.aload_n 0, 1) := by decide +kernel
theorem dX1_countOfLast_19 : decode cX1_countOfLast 19 = .ok (.iload 4, 2) := by decide +kernel
theorem dX1_countOfLast_21 : decode cX1_countOfLast 21 = .ok (.iload_n 2, 1) := by decide +kernel
theorem dX1_countOfLast_22 : decode cX1_countOfLast 22 = .ok (.iload_n 1, 1) := by decide +kernel
theorem dX1_countOfLast_23 : decode cX1_countOfLast 23 = .ok (.invokevirtual 59, 3) := by decide +kernel
theorem dX1_countOfLast_26 : decode cX1_countOfLast 26 = .ok (.ifCond .eq 6, 3) := by decide +kernel
theorem dX1_countOfLast_29 : decode cX1_countOfLast 29 = .ok (.iinc 3 1, 3) := by decide +kernel
theorem dX1_countOfLast_32 : decode cX1_countOfLast 32 = .ok (.iinc 4 1, 3) := by decide +kernel
theorem dX1_countOfLast_35 : decode cX1_countOfLast 35 = .ok (.goto (-23), 3) := by decide +kernel
theorem dX1_countOfLast_38 : decode cX1_countOfLast 38 = .ok (.iload_n 3, 1) := by decide +kernel
theorem dX1_countOfLast_39 : decode cX1_countOfLast 39 = .ok (.ireturn, 1) := by decide +kernel
theorem dX1_countDifferent_0 : decode cX1_countDifferent 0 = .ok (.iconst 0, 1) := by decide +kernel
theorem dX1_countDifferent_1 : decode cX1_countDifferent 1 = .ok (.istore_n 1, 1) := by decide +kernel
theorem dX1_countDifferent_2 : decode cX1_countDifferent 2 = .ok (.iconst 0, 1) := by decide +kernel
theorem dX1_countDifferent_3 : decode cX1_countDifferent 3 = .ok (.istore_n 2, 1) := by decide +kernel
theorem dX1_countDifferent_4 : decode cX1_countDifferent 4 = .ok (.iload_n 2, 1) := by decide +kernel
theorem dX1_countDifferent_5 : decode cX1_countDifferent 5 = .ok (.aload_n 0, 1) := by decide +kernel
theorem dX1_countDifferent_6 : decode cX1_countDifferent 6 = .ok (.getfield 27, 3) := by decide +kernel
theorem dX1_countDifferent_9 : decode cX1_countDifferent 9 = .ok (.if_icmp .ge 20, 3) := by decide +kernel
theorem dX1_countDifferent_12 : decode cX1_countDifferent 12 = .ok (.aload_n 0, 1) := by decide +kernel
theorem dX1_countDifferent_13 : decode cX1_countDifferent 13 = .ok (.iload_n 2, 1) := by decide +kernel
theorem dX1_countDifferent_14 : decode cX1_countDifferent 14 = .ok (.invokevirtual 63, 3) := by decide +kernel
theorem dX1_countDifferent_17 : decode cX1_countDifferent 17 = .ok (.ifCond .eq 6, 3) := by decide +kernel
theorem dX1_countDifferent_20 : decode cX1_countDifferent 20 = .ok (.iinc 1 1, 3) := by decide +kernel
theorem dX1_countDifferent_23 : decode cX1_countDifferent 23 = .ok (.iinc 2 1, 3) := by decide +kernel
theorem dX1_countDifferent_26 : decode cX1_countDifferent 26 = .ok (.goto (-22), 3) := by decide +kernel
theorem dX1_countDifferent_29 : decode cX1_countDifferent 29 = .ok (.iload_n 1, 1) := by decide +kernel
theorem dX1_countDifferent_30 : decode cX1_countDifferent 30 = .ok (.ireturn, 1) := by decide +kernel
theorem dX1_isNew_0 : decode cX1_isNew 0 = .ok (.iconst 0, 1) := by decide +kernel
theorem dX1_isNew_1 : decode cX1_isNew 1 = .ok (.istore_n 2, 1) := by decide +kernel
theorem dX1_isNew_2 : decode cX1_isNew 2 = .ok (.iload_n 2, 1) := by decide +kernel
theorem dX1_isNew_3 : decode cX1_isNew 3 = .ok (.iload_n 1, 1) := by decide +kernel
theorem dX1_isNew_4 : decode cX1_isNew 4 = .ok (.if_icmp .ge 20, 3) := by decide +kernel
theorem dX1_isNew_7 : decode cX1_isNew 7 = .ok (.aload_n 0, 1) := by decide +kernel
theorem dX1_isNew_8 : decode cX1_isNew 8 = .ok (.iload_n 2, 1) := by decide +kernel
theorem dX1_isNew_9 : decode cX1_isNew 9 = .ok (.iload_n 1, 1) := by decide +kernel
theorem dX1_isNew_10 : decode cX1_isNew 10 = .ok (.invokevirtual 56, 3) := by decide +kernel
theorem dX1_isNew_13 : decode cX1_isNew 13 = .ok (.ifCond .eq 5, 3) := by decide +kernel
theorem dX1_isNew_16 : decode cX1_isNew 16 = .ok (.iconst 0, 1) := by decide +kernel
theorem dX1_isNew_17 : decode cX1_isNew 17 = .ok (.ireturn, 1) := by decide +kernel
theorem dX1_isNew_18 : decode cX1_isNew 18 = .ok (.iinc 2 1, 3) := by decide +kernel
theorem dX1_isNew_21 : decode cX1_isNew 21 = .ok (.goto (-19), 3) := by decide +kernel
theorem dX1_isNew_24 : decode cX1_isNew 24 = .ok (.iconst 1, 1) := by decide +kernel
theorem dX1_isNew_25 : decode cX1_isNew 25 = .ok (.ireturn, 1) := by decide +kernel
theorem dX1_longestRaisedRun_0 : decode cX1_longestRaisedRun 0 = .ok (.iconst 0, 1) := by decide +kernel
theorem dX1_longestRaisedRun_1 : decode cX1_longestRaisedRun 1 = .ok (.istore_n 2, 1) := by decide +kernel
theorem dX1_longestRaisedRun_2 : decode cX1_longestRaisedRun 2 = .ok (.iconst 0, 1) := by decide +kernel
theorem dX1_longestRaisedRun_3 : decode cX1_longestRaisedRun 3 = .ok (.istore_n 3, 1) := by decide +kernel
theorem dX1_longestRaisedRun_4 : decode cX1_longestRaisedRun 4 = .ok (.iconst 0, 1) := by decide +kernel
theorem dX1_longestRaisedRun_5 : decode cX1_longestRaisedRun 5 = .ok (.istore 4, 2) := by decide +kernel
theorem dX1_longestRaisedRun_7 : decode cX1_longestRaisedRun 7 = .ok (.iload 4, 2) := by decide +kernel
theorem dX1_longestRaisedRun_9 : decode cX1_longestRaisedRun 9 = .ok (.aload_n 0, 1) := by decide +kernel
theorem dX1_longestRaisedRun_10 : decode cX1_longestRaisedRun 10 = .ok (.getfield 27, 3) := by decide +kernel
theorem dX1_longestRaisedRun_13 : decode cX1_longestRaisedRun 13 = .ok (.if_icmp .ge 33, 3) := by decide +kernel
theorem dX1_longestRaisedRun_16 : decode cX1_longestRaisedRun 16 = .ok (.aload_n 0, 1) := by decide +kernel
theorem dX1_longestRaisedRun_17 : decode cX1_longestRaisedRun 17 = .ok (.iload 4, 2) := by decide +kernel
theorem dX1_longestRaisedRun_19 : decode cX1_longestRaisedRun 19 = .ok (.iload_n 1, 1) := by decide +kernel
theorem dX1_longestRaisedRun_20 : decode cX1_longestRaisedRun 20 = .ok (.invokevirtual 66, 3) := by decide +kernel
theorem dX1_longestRaisedRun_23 : decode cX1_longestRaisedRun 23 = .ok (.ifCond .eq 9, 3) := by decide +kernel
theorem dX1_longestRaisedRun_26 : decode cX1_longestRaisedRun 26 = .ok (.iload_n 3, 1) := by decide +kernel
theorem dX1_longestRaisedRun_27 : decode cX1_longestRaisedRun 27 = .ok (.iconst 1, 1) := by decide +kernel
theorem dX1_longestRaisedRun_28 : decode cX1_longestRaisedRun 28 = .ok (.iadd, 1) := by decide +kernel
theorem dX1_longestRaisedRun_29 : decode cX1_longestRaisedRun 29 = .ok (.goto 4, 3) := by decide +kernel
theorem dX1_longestRaisedRun_32 : decode cX1_longestRaisedRun 32 = .ok (.iconst 0, 1) := by decide +kernel
theorem dX1_longestRaisedRun_33 : decode cX1_longestRaisedRun 33 = .ok (.istore_n 3, 1) := by decide +kernel
theorem dX1_longestRaisedRun_34 : decode cX1_longestRaisedRun 34 = .ok (.iload_n 2, 1) := by decide +kernel
theorem dX1_longestRaisedRun_35 : decode cX1_longestRaisedRun 35 = .ok (.iload_n 3, 1) := by decide +kernel
theorem dX1_longestRaisedRun_36 : decode cX1_longestRaisedRun 36 = .ok (.invokestatic 69, 3) := by decide +kernel
theorem dX1_longestRaisedRun_39 : decode cX1_longestRaisedRun 39 = .ok (.istore_n 2, 1) := by decide +kernel
theorem dX1_longestRaisedRun_40 : decode cX1_longestRaisedRun 40 = .ok (.iinc 4 1, 3) := by decide +kernel
theorem dX1_longestRaisedRun_43 : decode cX1_longestRaisedRun 43 = .ok (.goto (-36), 3) := by decide +kernel
theorem dX1_longestRaisedRun_46 : decode cX1_longestRaisedRun 46 = .ok (.iload_n 2, 1) := by decide +kernel
theorem dX1_longestRaisedRun_47 : decode cX1_longestRaisedRun 47 = .ok (.ireturn, 1) := by decide +kernel
theorem dX1_sameReversed_0 : decode cX1_sameReversed 0 = .ok (.iconst 0, 1) := by decide +kernel
theorem dX1_sameReversed_1 : decode cX1_sameReversed 1 = .ok (.istore_n 1, 1) := by decide +kernel
theorem dX1_sameReversed_2 : decode cX1_sameReversed 2 = .ok (.iload_n 1, 1) := by decide +kernel
theorem dX1_sameReversed_3 : decode cX1_sameReversed 3 = .ok (.aload_n 0, 1) := by decide +kernel
theorem dX1_sameReversed_4 : decode cX1_sameReversed 4 = .ok (.getfield 27, 3) := by decide +kernel
theorem dX1_sameReversed_7 : decode cX1_sameReversed 7 = .ok (.if_icmp .ge 27, 3) := by decide +kernel
theorem dX1_sameReversed_10 : decode cX1_sameReversed 10 = .ok (.aload_n 0, 1) := by decide +kernel
theorem dX1_sameReversed_11 : decode cX1_sameReversed 11 = .ok (.iload_n 1, 1) := by decide +kernel
theorem dX1_sameReversed_12 : decode cX1_sameReversed 12 = .ok (.aload_n 0, 1) := by decide +kernel
theorem dX1_sameReversed_13 : decode cX1_sameReversed 13 = .ok (.getfield 27, 3) := by decide +kernel
theorem dX1_sameReversed_16 : decode cX1_sameReversed 16 = .ok (.iconst 1, 1) := by decide +kernel
theorem dX1_sameReversed_17 : decode cX1_sameReversed 17 = .ok (.isub, 1) := by decide +kernel
theorem dX1_sameReversed_18 : decode cX1_sameReversed 18 = .ok (.iload_n 1, 1) := by decide +kernel
theorem dX1_sameReversed_19 : decode cX1_sameReversed 19 = .ok (.isub, 1) := by decide +kernel
theorem dX1_sameReversed_20 : decode cX1_sameReversed 20 = .ok (.invokevirtual 56, 3) := by decide +kernel
theorem dX1_sameReversed_23 : decode cX1_sameReversed 23 = .ok (.ifCond .ne 5, 3) := by decide +kernel
theorem dX1_sameReversed_26 : decode cX1_sameReversed 26 = .ok (.iconst 0, 1) := by decide +kernel
theorem dX1_sameReversed_27 : decode cX1_sameReversed 27 = .ok (.ireturn, 1) := by decide +kernel
theorem dX1_sameReversed_28 : decode cX1_sameReversed 28 = .ok (.iinc 1 1, 3) := by decide +kernel
theorem dX1_sameReversed_31 : decode cX1_sameReversed 31 = .ok (.goto (-29), 3) := by decide +kernel
theorem dX1_sameReversed_34 : decode cX1_sameReversed 34 = .ok (.iconst 1, 1) := by decide +kernel
theorem dX1_sameReversed_35 : decode cX1_sameReversed 35 = .ok (.ireturn, 1) := by decide +kernel
theorem dX2_init_0 : decode cX2_init 0 = .ok (.aload_n 0, 1) := by decide +kernel
theorem dX2_init_1 : decode cX2_init 1 = .ok (.invokespecial 1, 3) := by decide +kernel
theorem dX2_init_4 : decode cX2_init 4 = .ok (.aload_n 0, 1) := by decide +kernel
theorem dX2_init_5 : decode cX2_init 5 = .ok (.getstatic 7, 3) := by decide +kernel
theorem dX2_init_8 : decode cX2_init 8 = .ok (.putfield 13, 3) := by decide +kernel
theorem dX2_init_11 : decode cX2_init 11 = .ok (.return_, 1) := by decide +kernel
theorem dX2_become_0 : decode cX2_become 0 = .ok (.aload_n 0, 1) := by decide +kernel
theorem dX2_become_1 : decode cX2_become 1 = .ok (.aload_n 1, 1) := by decide +kernel
theorem dX2_become_2 : decode cX2_become 2 = .ok (.putfield 13, 3) := by decide +kernel
theorem dX2_become_5 : decode cX2_become 5 = .ok (.aload_n 0, 1) := by decide +kernel
theorem dX2_become_6 : decode cX2_become 6 = .ok (.iload_n 2, 1) := by decide +kernel
theorem dX2_become_7 : decode cX2_become 7 = .ok (.putfield 18, 3) := by decide +kernel
theorem dX2_become_10 : decode cX2_become 10 = .ok (.aload_n 0, 1) := by decide +kernel
theorem dX2_become_11 : decode cX2_become 11 = .ok (.iload_n 3, 1) := by decide +kernel
theorem dX2_become_12 : decode cX2_become 12 = .ok (.putfield 22, 3) := by decide +kernel
theorem dX2_become_15 : decode cX2_become 15 = .ok (.aload_n 0, 1) := by decide +kernel
theorem dX2_become_16 : decode cX2_become 16 = .ok (.iload 4, 2) := by decide +kernel
theorem dX2_become_18 : decode cX2_become 18 = .ok (.putfield 25, 3) := by decide +kernel
theorem dX2_become_21 : decode cX2_become 21 = .ok (.aload_n 0, 1) := by decide +kernel
theorem dX2_become_22 : decode cX2_become 22 = .ok (.areturn, 1) := by decide +kernel
theorem dX2_put_0 : decode cX2_put 0 = .ok (.iload_n 1, 1) := by decide +kernel
theorem dX2_put_1 : decode cX2_put 1 = .ok (.ifCond .ne 11, 3) := by decide +kernel
theorem dX2_put_4 : decode cX2_put 4 = .ok (.aload_n 0, 1) := by decide +kernel
theorem dX2_put_5 : decode cX2_put 5 = .ok (.iload_n 2, 1) := by decide +kernel
theorem dX2_put_6 : decode cX2_put 6 = .ok (.putfield 18, 3) := by decide +kernel
theorem dX2_put_9 : decode cX2_put 9 = .ok (.goto 21, 3) := by decide +kernel
theorem dX2_put_12 : decode cX2_put 12 = .ok (.iload_n 1, 1) := by decide +kernel
theorem dX2_put_13 : decode cX2_put 13 = .ok (.iconst 1, 1) := by decide +kernel
theorem dX2_put_14 : decode cX2_put 14 = .ok (.if_icmp .ne 11, 3) := by decide +kernel
theorem dX2_put_17 : decode cX2_put 17 = .ok (.aload_n 0, 1) := by decide +kernel
theorem dX2_put_18 : decode cX2_put 18 = .ok (.iload_n 2, 1) := by decide +kernel
theorem dX2_put_19 : decode cX2_put 19 = .ok (.putfield 22, 3) := by decide +kernel
theorem dX2_put_22 : decode cX2_put 22 = .ok (.goto 8, 3) := by decide +kernel
theorem dX2_put_25 : decode cX2_put 25 = .ok (.aload_n 0, 1) := by decide +kernel
theorem dX2_put_26 : decode cX2_put 26 = .ok (.iload_n 2, 1) := by decide +kernel
theorem dX2_put_27 : decode cX2_put 27 = .ok (.putfield 25, 3) := by decide +kernel
theorem dX2_put_30 : decode cX2_put 30 = .ok (.return_, 1) := by decide +kernel
theorem dX3_init_0 : decode cX3_init 0 = .ok (.aload_n 0, 1) := by decide +kernel
theorem dX3_init_1 : decode cX3_init 1 = .ok (.invokespecial 3, 3) := by decide +kernel
theorem dX3_init_4 : decode cX3_init 4 = .ok (.return_, 1) := by decide +kernel
theorem dX3_copyFrom_0 : decode cX3_copyFrom 0 = .ok (.aload_n 0, 1) := by decide +kernel
theorem dX3_copyFrom_1 : decode cX3_copyFrom 1 = .ok (.aload_n 1, 1) := by decide +kernel
theorem dX3_copyFrom_2 : decode cX3_copyFrom 2 = .ok (.getfield 9, 3) := by decide +kernel
theorem dX3_copyFrom_5 : decode cX3_copyFrom 5 = .ok (.putfield 9, 3) := by decide +kernel
theorem dX3_copyFrom_8 : decode cX3_copyFrom 8 = .ok (.aload_n 0, 1) := by decide +kernel
theorem dX3_copyFrom_9 : decode cX3_copyFrom 9 = .ok (.aload_n 1, 1) := by decide +kernel
theorem dX3_copyFrom_10 : decode cX3_copyFrom 10 = .ok (.getfield 15, 3) := by decide +kernel
theorem dX3_copyFrom_13 : decode cX3_copyFrom 13 = .ok (.putfield 15, 3) := by decide +kernel
theorem dX3_copyFrom_16 : decode cX3_copyFrom 16 = .ok (.return_, 1) := by decide +kernel
theorem dX3_feel_0 : decode cX3_feel 0 = .ok (.aload_n 0, 1) := by decide +kernel
theorem dX3_feel_1 : decode cX3_feel 1 = .ok (.iload_n 1, 1) := by decide +kernel
theorem dX3_feel_2 : decode cX3_feel 2 = .ok (.ifCond .eq 12, 3) := by decide +kernel
theorem dX3_feel_5 : decode cX3_feel 5 = .ok (.aload_n 0, 1) := by decide +kernel
theorem dX3_feel_6 : decode cX3_feel 6 = .ok (.getfield 9, 3) := by decide +kernel
theorem dX3_feel_9 : decode cX3_feel 9 = .ok (.iconst 1, 1) := by decide +kernel
theorem dX3_feel_10 : decode cX3_feel 10 = .ok (.iadd, 1) := by decide +kernel
theorem dX3_feel_11 : decode cX3_feel 11 = .ok (.goto 4, 3) := by decide +kernel
theorem dX3_feel_14 : decode cX3_feel 14 = .ok (.iconst 0, 1) := by decide +kernel
theorem dX3_feel_15 : decode cX3_feel 15 = .ok (.putfield 9, 3) := by decide +kernel
theorem dX3_feel_18 : decode cX3_feel 18 = .ok (.aload_n 0, 1) := by decide +kernel
theorem dX3_feel_19 : decode cX3_feel 19 = .ok (.getfield 9, 3) := by decide +kernel
theorem dX3_feel_22 : decode cX3_feel 22 = .ok (.iconst 5, 1) := by decide +kernel
theorem dX3_feel_23 : decode cX3_feel 23 = .ok (.if_icmp .ne 22, 3) := by decide +kernel
theorem dX3_feel_26 : decode cX3_feel 26 = .ok (.aload_n 0, 1) := by decide +kernel
theorem dX3_feel_27 : decode cX3_feel 27 = .ok (.iconst 0, 1) := by decide +kernel
theorem dX3_feel_28 : decode cX3_feel 28 = .ok (.putfield 9, 3) := by decide +kernel
theorem dX3_feel_31 : decode cX3_feel 31 = .ok (.aload_n 0, 1) := by decide +kernel
theorem dX3_feel_32 : decode cX3_feel 32 = .ok (.aload_n 0, 1) := by decide +kernel
theorem dX3_feel_33 : decode cX3_feel 33 = .ok (.getfield 15, 3) := by decide +kernel
theorem dX3_feel_36 : decode cX3_feel 36 = .ok (.iconst 1, 1) := by decide +kernel
theorem dX3_feel_37 : decode cX3_feel 37 = .ok (.iadd, 1) := by decide +kernel
theorem dX3_feel_38 : decode cX3_feel 38 = .ok (.iconst 4, 1) := by decide +kernel
theorem dX3_feel_39 : decode cX3_feel 39 = .ok (.invokestatic 18, 3) := by decide +kernel
theorem dX3_feel_42 : decode cX3_feel 42 = .ok (.putfield 15, 3) := by decide +kernel
theorem dX3_feel_45 : decode cX3_feel 45 = .ok (.return_, 1) := by decide +kernel
theorem dX3_repair_0 : decode cX3_repair 0 = .ok (.aload_n 0, 1) := by decide +kernel
theorem dX3_repair_1 : decode cX3_repair 1 = .ok (.dup, 1) := by decide +kernel
theorem dX3_repair_2 : decode cX3_repair 2 = .ok (.getfield 15, 3) := by decide +kernel
theorem dX3_repair_5 : decode cX3_repair 5 = .ok (.iconst 1, 1) := by decide +kernel
theorem dX3_repair_6 : decode cX3_repair 6 = .ok (.isub, 1) := by decide +kernel
theorem dX3_repair_7 : decode cX3_repair 7 = .ok (.putfield 15, 3) := by decide +kernel
theorem dX3_repair_10 : decode cX3_repair 10 = .ok (.aload_n 0, 1) := by decide +kernel
theorem dX3_repair_11 : decode cX3_repair 11 = .ok (.iconst 0, 1) := by decide +kernel
theorem dX3_repair_12 : decode cX3_repair 12 = .ok (.putfield 9, 3) := by decide +kernel
theorem dX3_repair_15 : decode cX3_repair 15 = .ok (.aload_n 0, 1) := by decide +kernel
theorem dX3_repair_16 : decode cX3_repair 16 = .ok (.getfield 15, 3) := by decide +kernel
theorem dX3_repair_19 : decode cX3_repair 19 = .ok (.ireturn, 1) := by decide +kernel
theorem dX4_init_0 : decode cX4_init 0 = .ok (.aload_n 0, 1) := by decide +kernel
theorem dX4_init_1 : decode cX4_init 1 = .ok (.invokespecial 3, 3) := by decide +kernel
theorem dX4_init_4 : decode cX4_init 4 = .ok (.aload_n 0, 1) := by decide +kernel
theorem dX4_init_5 : decode cX4_init 5 = .ok (.bipush 8, 2) := by decide +kernel
theorem dX4_init_7 : decode cX4_init 7 = .ok (.anewarray 9, 3) := by decide +kernel
theorem dX4_init_10 : decode cX4_init 10 = .ok (.putfield 11, 3) := by decide +kernel
theorem dX4_init_13 : decode cX4_init 13 = .ok (.iconst 0, 1) := by decide +kernel
theorem dX4_init_14 : decode cX4_init 14 = .ok (.istore_n 1, 1) := by decide +kernel
theorem dX4_init_15 : decode cX4_init 15 = .ok (.iload_n 1, 1) := by decide +kernel
theorem dX4_init_16 : decode cX4_init 16 = .ok (.bipush 8, 2) := by decide +kernel
theorem dX4_init_18 : decode cX4_init 18 = .ok (.if_icmp .ge 22, 3) := by decide +kernel
theorem dX4_init_21 : decode cX4_init 21 = .ok (.aload_n 0, 1) := by decide +kernel
theorem dX4_init_22 : decode cX4_init 22 = .ok (.getfield 11, 3) := by decide +kernel
theorem dX4_init_25 : decode cX4_init 25 = .ok (.iload_n 1, 1) := by decide +kernel
theorem dX4_init_26 : decode cX4_init 26 = .ok (.new 9, 3) := by decide +kernel
theorem dX4_init_29 : decode cX4_init 29 = .ok (.dup, 1) := by decide +kernel
theorem dX4_init_30 : decode cX4_init 30 = .ok (.invokespecial 17, 3) := by decide +kernel
theorem dX4_init_33 : decode cX4_init 33 = .ok (.aastore, 1) := by decide +kernel
theorem dX4_init_34 : decode cX4_init 34 = .ok (.iinc 1 1, 3) := by decide +kernel
theorem dX4_init_37 : decode cX4_init 37 = .ok (.goto (-22), 3) := by decide +kernel
theorem dX4_init_40 : decode cX4_init 40 = .ok (.return_, 1) := by decide +kernel
theorem dX4_keep_0 : decode cX4_keep 0 = .ok (.aload_n 0, 1) := by decide +kernel
theorem dX4_keep_1 : decode cX4_keep 1 = .ok (.getfield 11, 3) := by decide +kernel
theorem dX4_keep_4 : decode cX4_keep 4 = .ok (.aload_n 0, 1) := by decide +kernel
theorem dX4_keep_5 : decode cX4_keep 5 = .ok (.getfield 18, 3) := by decide +kernel
theorem dX4_keep_8 : decode cX4_keep 8 = .ok (.aload_n 0, 1) := by decide +kernel
theorem dX4_keep_9 : decode cX4_keep 9 = .ok (.getfield 22, 3) := by decide +kernel
theorem dX4_keep_12 : decode cX4_keep 12 = .ok (.iadd, 1) := by decide +kernel
theorem dX4_keep_13 : decode cX4_keep 13 = .ok (.bipush 8, 2) := by decide +kernel
theorem dX4_keep_15 : decode cX4_keep 15 = .ok (.irem, 1) := by decide +kernel
theorem dX4_keep_16 : decode cX4_keep 16 = .ok (.aaload, 1) := by decide +kernel
theorem dX4_keep_17 : decode cX4_keep 17 = .ok (.aload_n 1, 1) := by decide +kernel
theorem dX4_keep_18 : decode cX4_keep 18 = .ok (.invokevirtual 25, 3) := by decide +kernel
theorem dX4_keep_21 : decode cX4_keep 21 = .ok (.aload_n 0, 1) := by decide +kernel
theorem dX4_keep_22 : decode cX4_keep 22 = .ok (.getfield 22, 3) := by decide +kernel
theorem dX4_keep_25 : decode cX4_keep 25 = .ok (.bipush 8, 2) := by decide +kernel
theorem dX4_keep_27 : decode cX4_keep 27 = .ok (.if_icmp .ge 16, 3) := by decide +kernel
theorem dX4_keep_30 : decode cX4_keep 30 = .ok (.aload_n 0, 1) := by decide +kernel
theorem dX4_keep_31 : decode cX4_keep 31 = .ok (.dup, 1) := by decide +kernel
theorem dX4_keep_32 : decode cX4_keep 32 = .ok (.getfield 22, 3) := by decide +kernel
theorem dX4_keep_35 : decode cX4_keep 35 = .ok (.iconst 1, 1) := by decide +kernel
theorem dX4_keep_36 : decode cX4_keep 36 = .ok (.iadd, 1) := by decide +kernel
theorem dX4_keep_37 : decode cX4_keep 37 = .ok (.putfield 22, 3) := by decide +kernel
theorem dX4_keep_40 : decode cX4_keep 40 = .ok (.goto 16, 3) := by decide +kernel
theorem dX4_keep_43 : decode cX4_keep 43 = .ok (.aload_n 0, 1) := by decide +kernel
theorem dX4_keep_44 : decode cX4_keep 44 = .ok (.aload_n 0, 1) := by decide +kernel
theorem dX4_keep_45 : decode cX4_keep 45 = .ok (.getfield 18, 3) := by decide +kernel
theorem dX4_keep_48 : decode cX4_keep 48 = .ok (.iconst 1, 1) := by decide +kernel
theorem dX4_keep_49 : decode cX4_keep 49 = .ok (.iadd, 1) := by decide +kernel
theorem dX4_keep_50 : decode cX4_keep 50 = .ok (.bipush 8, 2) := by decide +kernel
theorem dX4_keep_52 : decode cX4_keep 52 = .ok (.irem, 1) := by decide +kernel
theorem dX4_keep_53 : decode cX4_keep 53 = .ok (.putfield 18, 3) := by decide +kernel
theorem dX4_keep_56 : decode cX4_keep 56 = .ok (.return_, 1) := by decide +kernel
theorem dX4_takeBack_0 : decode cX4_takeBack 0 = .ok (.aload_n 0, 1) := by decide +kernel
theorem dX4_takeBack_1 : decode cX4_takeBack 1 = .ok (.dup, 1) := by decide +kernel
theorem dX4_takeBack_2 : decode cX4_takeBack 2 = .ok (.getfield 22, 3) := by decide +kernel
theorem dX4_takeBack_5 : decode cX4_takeBack 5 = .ok (.iconst 1, 1) := by decide +kernel
theorem dX4_takeBack_6 : decode cX4_takeBack 6 = .ok (.isub, 1) := by decide +kernel
theorem dX4_takeBack_7 : decode cX4_takeBack 7 = .ok (.putfield 22, 3) := by decide +kernel
theorem dX4_takeBack_10 : decode cX4_takeBack 10 = .ok (.aload_n 1, 1) := by decide +kernel
theorem dX4_takeBack_11 : decode cX4_takeBack 11 = .ok (.aload_n 0, 1) := by decide +kernel
theorem dX4_takeBack_12 : decode cX4_takeBack 12 = .ok (.getfield 11, 3) := by decide +kernel
theorem dX4_takeBack_15 : decode cX4_takeBack 15 = .ok (.aload_n 0, 1) := by decide +kernel
theorem dX4_takeBack_16 : decode cX4_takeBack 16 = .ok (.getfield 18, 3) := by decide +kernel
theorem dX4_takeBack_19 : decode cX4_takeBack 19 = .ok (.aload_n 0, 1) := by decide +kernel
theorem dX4_takeBack_20 : decode cX4_takeBack 20 = .ok (.getfield 22, 3) := by decide +kernel
theorem dX4_takeBack_23 : decode cX4_takeBack 23 = .ok (.iadd, 1) := by decide +kernel
theorem dX4_takeBack_24 : decode cX4_takeBack 24 = .ok (.bipush 8, 2) := by decide +kernel
theorem dX4_takeBack_26 : decode cX4_takeBack 26 = .ok (.irem, 1) := by decide +kernel
theorem dX4_takeBack_27 : decode cX4_takeBack 27 = .ok (.aaload, 1) := by decide +kernel
theorem dX4_takeBack_28 : decode cX4_takeBack 28 = .ok (.invokevirtual 25, 3) := by decide +kernel
theorem dX4_takeBack_31 : decode cX4_takeBack 31 = .ok (.return_, 1) := by decide +kernel
theorem dX4_forget_0 : decode cX4_forget 0 = .ok (.aload_n 0, 1) := by decide +kernel
theorem dX4_forget_1 : decode cX4_forget 1 = .ok (.iconst 0, 1) := by decide +kernel
theorem dX4_forget_2 : decode cX4_forget 2 = .ok (.putfield 22, 3) := by decide +kernel
theorem dX4_forget_5 : decode cX4_forget 5 = .ok (.return_, 1) := by decide +kernel
theorem dX5_init_0 : decode cX5_init 0 = .ok (.aload_n 0, 1) := by decide +kernel
theorem dX5_init_1 : decode cX5_init 1 = .ok (.invokespecial 3, 3) := by decide +kernel
theorem dX5_init_4 : decode cX5_init 4 = .ok (.return_, 1) := by decide +kernel
theorem dX5_verdictOn_0 : decode cX5_verdictOn 0 = .ok (.aload_n 1, 1) := by decide +kernel
theorem dX5_verdictOn_1 : decode cX5_verdictOn 1 = .ok (.getfield 9, 3) := by decide +kernel
theorem dX5_verdictOn_4 : decode cX5_verdictOn 4 = .ok (.istore_n 3, 1) := by decide +kernel
theorem dX5_verdictOn_5 : decode cX5_verdictOn 5 = .ok (.aload_n 1, 1) := by decide +kernel
theorem dX5_verdictOn_6 : decode cX5_verdictOn 6 = .ok (.getfield 15, 3) := by decide +kernel
theorem dX5_verdictOn_9 : decode cX5_verdictOn 9 = .ok (.istore 4, 2) := by decide +kernel
theorem dX5_verdictOn_11 : decode cX5_verdictOn 11 = .ok (.getstatic 18, 3) := by decide +kernel
theorem dX5_verdictOn_14 : decode cX5_verdictOn 14 = .ok (.aload_n 1, 1) := by decide +kernel
theorem dX5_verdictOn_15 : decode cX5_verdictOn 15 = .ok (.getfield 24, 3) := by decide +kernel
theorem dX5_verdictOn_18 : decode cX5_verdictOn 18 = .ok (.invokevirtual 28, 3) := by decide +kernel
theorem dX5_verdictOn_21 : decode cX5_verdictOn 21 = .ok (.iaload, 1) := by decide +kernel
theorem dX5_verdictOn_22 : decode cX5_verdictOn 22 = .ok (.tableswitch 153 1 9 #[50, 66, 76, 86, 98, 105, 115, 127, 140], 50) := by decide +kernel
theorem dX5_verdictOn_72 : decode cX5_verdictOn 72 = .ok (.aload_n 0, 1) := by decide +kernel
theorem dX5_verdictOn_73 : decode cX5_verdictOn 73 = .ok (.aload_n 2, 1) := by decide +kernel
theorem dX5_verdictOn_74 : decode cX5_verdictOn 74 = .ok (.getfield 34, 3) := by decide +kernel
theorem dX5_verdictOn_77 : decode cX5_verdictOn 77 = .ok (.iload_n 3, 1) := by decide +kernel
theorem dX5_verdictOn_78 : decode cX5_verdictOn 78 = .ok (.iload 4, 2) := by decide +kernel
theorem dX5_verdictOn_80 : decode cX5_verdictOn 80 = .ok (.aload_n 1, 1) := by decide +kernel
theorem dX5_verdictOn_81 : decode cX5_verdictOn 81 = .ok (.getfield 40, 3) := by decide +kernel
theorem dX5_verdictOn_84 : decode cX5_verdictOn 84 = .ok (.invokevirtual 43, 3) := by decide +kernel
theorem dX5_verdictOn_87 : decode cX5_verdictOn 87 = .ok (.ireturn, 1) := by decide +kernel
theorem dX5_verdictOn_88 : decode cX5_verdictOn 88 = .ok (.aload_n 0, 1) := by decide +kernel
theorem dX5_verdictOn_89 : decode cX5_verdictOn 89 = .ok (.aload_n 2, 1) := by decide +kernel
theorem dX5_verdictOn_90 : decode cX5_verdictOn 90 = .ok (.getfield 34, 3) := by decide +kernel
theorem dX5_verdictOn_93 : decode cX5_verdictOn 93 = .ok (.iload_n 3, 1) := by decide +kernel
theorem dX5_verdictOn_94 : decode cX5_verdictOn 94 = .ok (.invokevirtual 49, 3) := by decide +kernel
theorem dX5_verdictOn_97 : decode cX5_verdictOn 97 = .ok (.ireturn, 1) := by decide +kernel
theorem dX5_verdictOn_98 : decode cX5_verdictOn 98 = .ok (.aload_n 0, 1) := by decide +kernel
theorem dX5_verdictOn_99 : decode cX5_verdictOn 99 = .ok (.aload_n 2, 1) := by decide +kernel
theorem dX5_verdictOn_100 : decode cX5_verdictOn 100 = .ok (.getfield 34, 3) := by decide +kernel
theorem dX5_verdictOn_103 : decode cX5_verdictOn 103 = .ok (.iload_n 3, 1) := by decide +kernel
theorem dX5_verdictOn_104 : decode cX5_verdictOn 104 = .ok (.invokevirtual 53, 3) := by decide +kernel
theorem dX5_verdictOn_107 : decode cX5_verdictOn 107 = .ok (.ireturn, 1) := by decide +kernel
theorem dX5_verdictOn_108 : decode cX5_verdictOn 108 = .ok (.aload_n 0, 1) := by decide +kernel
theorem dX5_verdictOn_109 : decode cX5_verdictOn 109 = .ok (.aload_n 2, 1) := by decide +kernel
theorem dX5_verdictOn_110 : decode cX5_verdictOn 110 = .ok (.getfield 34, 3) := by decide +kernel
theorem dX5_verdictOn_113 : decode cX5_verdictOn 113 = .ok (.iload_n 3, 1) := by decide +kernel
theorem dX5_verdictOn_114 : decode cX5_verdictOn 114 = .ok (.iload 4, 2) := by decide +kernel
theorem dX5_verdictOn_116 : decode cX5_verdictOn 116 = .ok (.invokevirtual 56, 3) := by decide +kernel
theorem dX5_verdictOn_119 : decode cX5_verdictOn 119 = .ok (.ireturn, 1) := by decide +kernel
theorem dX5_verdictOn_120 : decode cX5_verdictOn 120 = .ok (.aload_n 0, 1) := by decide +kernel
theorem dX5_verdictOn_121 : decode cX5_verdictOn 121 = .ok (.aload_n 2, 1) := by decide +kernel
theorem dX5_verdictOn_122 : decode cX5_verdictOn 122 = .ok (.iload_n 3, 1) := by decide +kernel
theorem dX5_verdictOn_123 : decode cX5_verdictOn 123 = .ok (.invokevirtual 60, 3) := by decide +kernel
theorem dX5_verdictOn_126 : decode cX5_verdictOn 126 = .ok (.ireturn, 1) := by decide +kernel
theorem dX5_verdictOn_127 : decode cX5_verdictOn 127 = .ok (.aload_n 0, 1) := by decide +kernel
theorem dX5_verdictOn_128 : decode cX5_verdictOn 128 = .ok (.aload_n 2, 1) := by decide +kernel
theorem dX5_verdictOn_129 : decode cX5_verdictOn 129 = .ok (.getfield 64, 3) := by decide +kernel
theorem dX5_verdictOn_132 : decode cX5_verdictOn 132 = .ok (.iload_n 3, 1) := by decide +kernel
theorem dX5_verdictOn_133 : decode cX5_verdictOn 133 = .ok (.invokevirtual 68, 3) := by decide +kernel
theorem dX5_verdictOn_136 : decode cX5_verdictOn 136 = .ok (.ireturn, 1) := by decide +kernel
theorem dX5_verdictOn_137 : decode cX5_verdictOn 137 = .ok (.aload_n 0, 1) := by decide +kernel
theorem dX5_verdictOn_138 : decode cX5_verdictOn 138 = .ok (.aload_n 2, 1) := by decide +kernel
theorem dX5_verdictOn_139 : decode cX5_verdictOn 139 = .ok (.getfield 64, 3) := by decide +kernel
theorem dX5_verdictOn_142 : decode cX5_verdictOn 142 = .ok (.iload_n 3, 1) := by decide +kernel
theorem dX5_verdictOn_143 : decode cX5_verdictOn 143 = .ok (.iload 4, 2) := by decide +kernel
theorem dX5_verdictOn_145 : decode cX5_verdictOn 145 = .ok (.invokevirtual 72, 3) := by decide +kernel
theorem dX5_verdictOn_148 : decode cX5_verdictOn 148 = .ok (.ireturn, 1) := by decide +kernel
theorem dX5_verdictOn_149 : decode cX5_verdictOn 149 = .ok (.aload_n 0, 1) := by decide +kernel
theorem dX5_verdictOn_150 : decode cX5_verdictOn 150 = .ok (.aload_n 2, 1) := by decide +kernel
theorem dX5_verdictOn_151 : decode cX5_verdictOn 151 = .ok (.getfield 64, 3) := by decide +kernel
theorem dX5_verdictOn_154 : decode cX5_verdictOn 154 = .ok (.iload_n 3, 1) := by decide +kernel
theorem dX5_verdictOn_155 : decode cX5_verdictOn 155 = .ok (.iload 4, 2) := by decide +kernel
theorem dX5_verdictOn_157 : decode cX5_verdictOn 157 = .ok (.iconst 1, 1) := by decide +kernel
theorem dX5_verdictOn_158 : decode cX5_verdictOn 158 = .ok (.invokevirtual 76, 3) := by decide +kernel
theorem dX5_verdictOn_161 : decode cX5_verdictOn 161 = .ok (.ireturn, 1) := by decide +kernel
theorem dX5_verdictOn_162 : decode cX5_verdictOn 162 = .ok (.aload_n 0, 1) := by decide +kernel
theorem dX5_verdictOn_163 : decode cX5_verdictOn 163 = .ok (.aload_n 2, 1) := by decide +kernel
theorem dX5_verdictOn_164 : decode cX5_verdictOn 164 = .ok (.getfield 64, 3) := by decide +kernel
theorem dX5_verdictOn_167 : decode cX5_verdictOn 167 = .ok (.iload_n 3, 1) := by decide +kernel
theorem dX5_verdictOn_168 : decode cX5_verdictOn 168 = .ok (.iload 4, 2) := by decide +kernel
theorem dX5_verdictOn_170 : decode cX5_verdictOn 170 = .ok (.iconst 0, 1) := by decide +kernel
theorem dX5_verdictOn_171 : decode cX5_verdictOn 171 = .ok (.invokevirtual 76, 3) := by decide +kernel
theorem dX5_verdictOn_174 : decode cX5_verdictOn 174 = .ok (.ireturn, 1) := by decide +kernel
theorem dX5_verdictOn_175 : decode cX5_verdictOn 175 = .ok (.aload_n 0, 1) := by decide +kernel
theorem dX5_verdictOn_176 : decode cX5_verdictOn 176 = .ok (.aload_n 2, 1) := by decide +kernel
theorem dX5_verdictOn_177 : decode cX5_verdictOn 177 = .ok (.iload_n 3, 1) := by decide +kernel
theorem dX5_verdictOn_178 : decode cX5_verdictOn 178 = .ok (.invokevirtual 80, 3) := by decide +kernel
theorem dX5_verdictOn_181 : decode cX5_verdictOn 181 = .ok (.ireturn, 1) := by decide +kernel
theorem dX5_onNewWick_0 : decode cX5_onNewWick 0 = .ok (.iload_n 2, 1) := by decide +kernel
theorem dX5_onNewWick_1 : decode cX5_onNewWick 1 = .ok (.ifCond .lt 32, 3) := by decide +kernel
theorem dX5_onNewWick_4 : decode cX5_onNewWick 4 = .ok (.iload_n 2, 1) := by decide +kernel
theorem dX5_onNewWick_5 : decode cX5_onNewWick 5 = .ok (.bipush 7, 2) := by decide +kernel
theorem dX5_onNewWick_7 : decode cX5_onNewWick 7 = .ok (.if_icmp .gt 26, 3) := by decide +kernel
theorem dX5_onNewWick_10 : decode cX5_onNewWick 10 = .ok (.iload_n 3, 1) := by decide +kernel
theorem dX5_onNewWick_11 : decode cX5_onNewWick 11 = .ok (.iconst 1, 1) := by decide +kernel
theorem dX5_onNewWick_12 : decode cX5_onNewWick 12 = .ok (.if_icmp .lt 21, 3) := by decide +kernel
theorem dX5_onNewWick_15 : decode cX5_onNewWick 15 = .ok (.iload_n 3, 1) := by decide +kernel
theorem dX5_onNewWick_16 : decode cX5_onNewWick 16 = .ok (.ldc 83, 2) := by decide +kernel
theorem dX5_onNewWick_18 : decode cX5_onNewWick 18 = .ok (.if_icmp .gt 15, 3) := by decide +kernel
theorem dX5_onNewWick_21 : decode cX5_onNewWick 21 = .ok (.iload 4, 2) := by decide +kernel
theorem dX5_onNewWick_23 : decode cX5_onNewWick 23 = .ok (.ifCond .lt 10, 3) := by decide +kernel
theorem dX5_onNewWick_26 : decode cX5_onNewWick 26 = .ok (.iload 4, 2) := by decide +kernel
theorem dX5_onNewWick_28 : decode cX5_onNewWick 28 = .ok (.bipush 99, 2) := by decide +kernel
theorem dX5_onNewWick_30 : decode cX5_onNewWick 30 = .ok (.if_icmp .le 6, 3) := by decide +kernel
theorem dX5_onNewWick_33 : decode cX5_onNewWick 33 = .ok (.bipush 9, 2) := by decide +kernel
theorem dX5_onNewWick_35 : decode cX5_onNewWick 35 = .ok (.ireturn, 1) := by decide +kernel
theorem dX5_onNewWick_36 : decode cX5_onNewWick 36 = .ok (.aload_n 1, 1) := by decide +kernel
theorem dX5_onNewWick_37 : decode cX5_onNewWick 37 = .ok (.getfield 84, 3) := by decide +kernel
theorem dX5_onNewWick_40 : decode cX5_onNewWick 40 = .ok (.bipush 8, 2) := by decide +kernel
theorem dX5_onNewWick_42 : decode cX5_onNewWick 42 = .ok (.if_icmp .lt 13, 3) := by decide +kernel
theorem dX5_onNewWick_45 : decode cX5_onNewWick 45 = .ok (.aload_n 0, 1) := by decide +kernel
theorem dX5_onNewWick_46 : decode cX5_onNewWick 46 = .ok (.iconst 1, 1) := by decide +kernel
theorem dX5_onNewWick_47 : decode cX5_onNewWick 47 = .ok (.bipush 8, 2) := by decide +kernel
theorem dX5_onNewWick_49 : decode cX5_onNewWick 49 = .ok (.invokevirtual 89, 3) := by decide +kernel
theorem dX5_onNewWick_52 : decode cX5_onNewWick 52 = .ok (.goto 4, 3) := by decide +kernel
theorem dX5_onNewWick_55 : decode cX5_onNewWick 55 = .ok (.iconst 0, 1) := by decide +kernel
theorem dX5_onNewWick_56 : decode cX5_onNewWick 56 = .ok (.ireturn, 1) := by decide +kernel
theorem dX5_onLighting_0 : decode cX5_onLighting 0 = .ok (.aload_n 1, 1) := by decide +kernel
theorem dX5_onLighting_1 : decode cX5_onLighting 1 = .ok (.iload_n 2, 1) := by decide +kernel
theorem dX5_onLighting_2 : decode cX5_onLighting 2 = .ok (.invokevirtual 93, 3) := by decide +kernel
theorem dX5_onLighting_5 : decode cX5_onLighting 5 = .ok (.ifCond .ne 6, 3) := by decide +kernel
theorem dX5_onLighting_8 : decode cX5_onLighting 8 = .ok (.bipush 10, 2) := by decide +kernel
theorem dX5_onLighting_10 : decode cX5_onLighting 10 = .ok (.ireturn, 1) := by decide +kernel
theorem dX5_onLighting_11 : decode cX5_onLighting 11 = .ok (.aload_n 1, 1) := by decide +kernel
theorem dX5_onLighting_12 : decode cX5_onLighting 12 = .ok (.getfield 97, 3) := by decide +kernel
theorem dX5_onLighting_15 : decode cX5_onLighting 15 = .ok (.iload_n 2, 1) := by decide +kernel
theorem dX5_onLighting_16 : decode cX5_onLighting 16 = .ok (.baload, 1) := by decide +kernel
theorem dX5_onLighting_17 : decode cX5_onLighting 17 = .ok (.ifCond .eq 10, 3) := by decide +kernel
theorem dX5_onLighting_20 : decode cX5_onLighting 20 = .ok (.aload_n 0, 1) := by decide +kernel
theorem dX5_onLighting_21 : decode cX5_onLighting 21 = .ok (.iconst 5, 1) := by decide +kernel
theorem dX5_onLighting_22 : decode cX5_onLighting 22 = .ok (.iconst 1, 1) := by decide +kernel
theorem dX5_onLighting_23 : decode cX5_onLighting 23 = .ok (.invokevirtual 89, 3) := by decide +kernel
theorem dX5_onLighting_26 : decode cX5_onLighting 26 = .ok (.ireturn, 1) := by decide +kernel
theorem dX5_onLighting_27 : decode cX5_onLighting 27 = .ok (.aload_n 1, 1) := by decide +kernel
theorem dX5_onLighting_28 : decode cX5_onLighting 28 = .ok (.getfield 101, 3) := by decide +kernel
theorem dX5_onLighting_31 : decode cX5_onLighting 31 = .ok (.iload_n 2, 1) := by decide +kernel
theorem dX5_onLighting_32 : decode cX5_onLighting 32 = .ok (.iaload, 1) := by decide +kernel
theorem dX5_onLighting_33 : decode cX5_onLighting 33 = .ok (.ifCond .ne 13, 3) := by decide +kernel
theorem dX5_onLighting_36 : decode cX5_onLighting 36 = .ok (.aload_n 0, 1) := by decide +kernel
theorem dX5_onLighting_37 : decode cX5_onLighting 37 = .ok (.bipush 6, 2) := by decide +kernel
theorem dX5_onLighting_39 : decode cX5_onLighting 39 = .ok (.iload_n 2, 1) := by decide +kernel
theorem dX5_onLighting_40 : decode cX5_onLighting 40 = .ok (.invokevirtual 89, 3) := by decide +kernel
theorem dX5_onLighting_43 : decode cX5_onLighting 43 = .ok (.goto 4, 3) := by decide +kernel
theorem dX5_onLighting_46 : decode cX5_onLighting 46 = .ok (.iconst 0, 1) := by decide +kernel
theorem dX5_onLighting_47 : decode cX5_onLighting 47 = .ok (.ireturn, 1) := by decide +kernel
theorem dX5_onSnuffing_0 : decode cX5_onSnuffing 0 = .ok (.aload_n 1, 1) := by decide +kernel
theorem dX5_onSnuffing_1 : decode cX5_onSnuffing 1 = .ok (.iload_n 2, 1) := by decide +kernel
theorem dX5_onSnuffing_2 : decode cX5_onSnuffing 2 = .ok (.invokevirtual 93, 3) := by decide +kernel
theorem dX5_onSnuffing_5 : decode cX5_onSnuffing 5 = .ok (.ifCond .ne 6, 3) := by decide +kernel
theorem dX5_onSnuffing_8 : decode cX5_onSnuffing 8 = .ok (.bipush 10, 2) := by decide +kernel
theorem dX5_onSnuffing_10 : decode cX5_onSnuffing 10 = .ok (.ireturn, 1) := by decide +kernel
theorem dX5_onSnuffing_11 : decode cX5_onSnuffing 11 = .ok (.aload_n 1, 1) := by decide +kernel
theorem dX5_onSnuffing_12 : decode cX5_onSnuffing 12 = .ok (.getfield 97, 3) := by decide +kernel
theorem dX5_onSnuffing_15 : decode cX5_onSnuffing 15 = .ok (.iload_n 2, 1) := by decide +kernel
theorem dX5_onSnuffing_16 : decode cX5_onSnuffing 16 = .ok (.baload, 1) := by decide +kernel
theorem dX5_onSnuffing_17 : decode cX5_onSnuffing 17 = .ok (.ifCond .eq 7, 3) := by decide +kernel
theorem dX5_onSnuffing_20 : decode cX5_onSnuffing 20 = .ok (.iconst 0, 1) := by decide +kernel
theorem dX5_onSnuffing_21 : decode cX5_onSnuffing 21 = .ok (.goto 9, 3) := by decide +kernel
theorem dX5_onSnuffing_24 : decode cX5_onSnuffing 24 = .ok (.aload_n 0, 1) := by decide +kernel
theorem dX5_onSnuffing_25 : decode cX5_onSnuffing 25 = .ok (.iconst 5, 1) := by decide +kernel
theorem dX5_onSnuffing_26 : decode cX5_onSnuffing 26 = .ok (.iconst 0, 1) := by decide +kernel
theorem dX5_onSnuffing_27 : decode cX5_onSnuffing 27 = .ok (.invokevirtual 89, 3) := by decide +kernel
theorem dX5_onSnuffing_30 : decode cX5_onSnuffing 30 = .ok (.ireturn, 1) := by decide +kernel
theorem dX5_onMoreWax_0 : decode cX5_onMoreWax 0 = .ok (.aload_n 1, 1) := by decide +kernel
theorem dX5_onMoreWax_1 : decode cX5_onMoreWax 1 = .ok (.iload_n 2, 1) := by decide +kernel
theorem dX5_onMoreWax_2 : decode cX5_onMoreWax 2 = .ok (.invokevirtual 93, 3) := by decide +kernel
theorem dX5_onMoreWax_5 : decode cX5_onMoreWax 5 = .ok (.ifCond .ne 6, 3) := by decide +kernel
theorem dX5_onMoreWax_8 : decode cX5_onMoreWax 8 = .ok (.bipush 10, 2) := by decide +kernel
theorem dX5_onMoreWax_10 : decode cX5_onMoreWax 10 = .ok (.ireturn, 1) := by decide +kernel
theorem dX5_onMoreWax_11 : decode cX5_onMoreWax 11 = .ok (.iload_n 3, 1) := by decide +kernel
theorem dX5_onMoreWax_12 : decode cX5_onMoreWax 12 = .ok (.iconst 1, 1) := by decide +kernel
theorem dX5_onMoreWax_13 : decode cX5_onMoreWax 13 = .ok (.if_icmp .lt 9, 3) := by decide +kernel
theorem dX5_onMoreWax_16 : decode cX5_onMoreWax 16 = .ok (.iload_n 3, 1) := by decide +kernel
theorem dX5_onMoreWax_17 : decode cX5_onMoreWax 17 = .ok (.bipush 50, 2) := by decide +kernel
theorem dX5_onMoreWax_19 : decode cX5_onMoreWax 19 = .ok (.if_icmp .le 6, 3) := by decide +kernel
theorem dX5_onMoreWax_22 : decode cX5_onMoreWax 22 = .ok (.bipush 9, 2) := by decide +kernel
theorem dX5_onMoreWax_24 : decode cX5_onMoreWax 24 = .ok (.ireturn, 1) := by decide +kernel
theorem dX5_onMoreWax_25 : decode cX5_onMoreWax 25 = .ok (.aload_n 1, 1) := by decide +kernel
theorem dX5_onMoreWax_26 : decode cX5_onMoreWax 26 = .ok (.getfield 101, 3) := by decide +kernel
theorem dX5_onMoreWax_29 : decode cX5_onMoreWax 29 = .ok (.iload_n 2, 1) := by decide +kernel
theorem dX5_onMoreWax_30 : decode cX5_onMoreWax 30 = .ok (.iaload, 1) := by decide +kernel
theorem dX5_onMoreWax_31 : decode cX5_onMoreWax 31 = .ok (.iload_n 3, 1) := by decide +kernel
theorem dX5_onMoreWax_32 : decode cX5_onMoreWax 32 = .ok (.iadd, 1) := by decide +kernel
theorem dX5_onMoreWax_33 : decode cX5_onMoreWax 33 = .ok (.bipush 99, 2) := by decide +kernel
theorem dX5_onMoreWax_35 : decode cX5_onMoreWax 35 = .ok (.if_icmp .le 13, 3) := by decide +kernel
theorem dX5_onMoreWax_38 : decode cX5_onMoreWax 38 = .ok (.aload_n 0, 1) := by decide +kernel
theorem dX5_onMoreWax_39 : decode cX5_onMoreWax 39 = .ok (.iconst 1, 1) := by decide +kernel
theorem dX5_onMoreWax_40 : decode cX5_onMoreWax 40 = .ok (.bipush 99, 2) := by decide +kernel
theorem dX5_onMoreWax_42 : decode cX5_onMoreWax 42 = .ok (.invokevirtual 89, 3) := by decide +kernel
theorem dX5_onMoreWax_45 : decode cX5_onMoreWax 45 = .ok (.goto 4, 3) := by decide +kernel
theorem dX5_onMoreWax_48 : decode cX5_onMoreWax 48 = .ok (.iconst 0, 1) := by decide +kernel
theorem dX5_onMoreWax_49 : decode cX5_onMoreWax 49 = .ok (.ireturn, 1) := by decide +kernel
theorem dX5_onWeaving_0 : decode cX5_onWeaving 0 = .ok (.iload_n 2, 1) := by decide +kernel
theorem dX5_onWeaving_1 : decode cX5_onWeaving 1 = .ok (.iconst 1, 1) := by decide +kernel
theorem dX5_onWeaving_2 : decode cX5_onWeaving 2 = .ok (.if_icmp .lt 9, 3) := by decide +kernel
theorem dX5_onWeaving_5 : decode cX5_onWeaving 5 = .ok (.iload_n 2, 1) := by decide +kernel
theorem dX5_onWeaving_6 : decode cX5_onWeaving 6 = .ok (.bipush 10, 2) := by decide +kernel
theorem dX5_onWeaving_8 : decode cX5_onWeaving 8 = .ok (.if_icmp .le 6, 3) := by decide +kernel
theorem dX5_onWeaving_11 : decode cX5_onWeaving 11 = .ok (.bipush 9, 2) := by decide +kernel
theorem dX5_onWeaving_13 : decode cX5_onWeaving 13 = .ok (.ireturn, 1) := by decide +kernel
theorem dX5_onWeaving_14 : decode cX5_onWeaving 14 = .ok (.aload_n 1, 1) := by decide +kernel
theorem dX5_onWeaving_15 : decode cX5_onWeaving 15 = .ok (.getfield 34, 3) := by decide +kernel
theorem dX5_onWeaving_18 : decode cX5_onWeaving 18 = .ok (.invokevirtual 104, 3) := by decide +kernel
theorem dX5_onWeaving_21 : decode cX5_onWeaving 21 = .ok (.ifCond .ne 16, 3) := by decide +kernel
theorem dX5_onWeaving_24 : decode cX5_onWeaving 24 = .ok (.aload_n 0, 1) := by decide +kernel
theorem dX5_onWeaving_25 : decode cX5_onWeaving 25 = .ok (.iconst 2, 1) := by decide +kernel
theorem dX5_onWeaving_26 : decode cX5_onWeaving 26 = .ok (.aload_n 1, 1) := by decide +kernel
theorem dX5_onWeaving_27 : decode cX5_onWeaving 27 = .ok (.getfield 34, 3) := by decide +kernel
theorem dX5_onWeaving_30 : decode cX5_onWeaving 30 = .ok (.getfield 84, 3) := by decide +kernel
theorem dX5_onWeaving_33 : decode cX5_onWeaving 33 = .ok (.invokevirtual 89, 3) := by decide +kernel
theorem dX5_onWeaving_36 : decode cX5_onWeaving 36 = .ok (.ireturn, 1) := by decide +kernel
theorem dX5_onWeaving_37 : decode cX5_onWeaving 37 = .ok (.aload_n 1, 1) := by decide +kernel
theorem dX5_onWeaving_38 : decode cX5_onWeaving 38 = .ok (.getfield 64, 3) := by decide +kernel
theorem dX5_onWeaving_41 : decode cX5_onWeaving 41 = .ok (.getfield 107, 3) := by decide +kernel
theorem dX5_onWeaving_44 : decode cX5_onWeaving 44 = .ok (.iload_n 2, 1) := by decide +kernel
theorem dX5_onWeaving_45 : decode cX5_onWeaving 45 = .ok (.iadd, 1) := by decide +kernel
theorem dX5_onWeaving_46 : decode cX5_onWeaving 46 = .ok (.bipush 40, 2) := by decide +kernel
theorem dX5_onWeaving_48 : decode cX5_onWeaving 48 = .ok (.if_icmp .le 13, 3) := by decide +kernel
theorem dX5_onWeaving_51 : decode cX5_onWeaving 51 = .ok (.aload_n 0, 1) := by decide +kernel
theorem dX5_onWeaving_52 : decode cX5_onWeaving 52 = .ok (.iconst 1, 1) := by decide +kernel
theorem dX5_onWeaving_53 : decode cX5_onWeaving 53 = .ok (.bipush 40, 2) := by decide +kernel
theorem dX5_onWeaving_55 : decode cX5_onWeaving 55 = .ok (.invokevirtual 89, 3) := by decide +kernel
theorem dX5_onWeaving_58 : decode cX5_onWeaving 58 = .ok (.goto 4, 3) := by decide +kernel
theorem dX5_onWeaving_61 : decode cX5_onWeaving 61 = .ok (.iconst 0, 1) := by decide +kernel
theorem dX5_onWeaving_62 : decode cX5_onWeaving 62 = .ok (.ireturn, 1) := by decide +kernel
theorem dX5_onRavelling_0 : decode cX5_onRavelling 0 = .ok (.iload_n 2, 1) := by decide +kernel
theorem dX5_onRavelling_1 : decode cX5_onRavelling 1 = .ok (.iconst 1, 1) := by decide +kernel
theorem dX5_onRavelling_2 : decode cX5_onRavelling 2 = .ok (.if_icmp .lt 9, 3) := by decide +kernel
theorem dX5_onRavelling_5 : decode cX5_onRavelling 5 = .ok (.iload_n 2, 1) := by decide +kernel
theorem dX5_onRavelling_6 : decode cX5_onRavelling 6 = .ok (.bipush 10, 2) := by decide +kernel
theorem dX5_onRavelling_8 : decode cX5_onRavelling 8 = .ok (.if_icmp .le 6, 3) := by decide +kernel
theorem dX5_onRavelling_11 : decode cX5_onRavelling 11 = .ok (.bipush 9, 2) := by decide +kernel
theorem dX5_onRavelling_13 : decode cX5_onRavelling 13 = .ok (.ireturn, 1) := by decide +kernel
theorem dX5_onRavelling_14 : decode cX5_onRavelling 14 = .ok (.iload_n 2, 1) := by decide +kernel
theorem dX5_onRavelling_15 : decode cX5_onRavelling 15 = .ok (.aload_n 1, 1) := by decide +kernel
theorem dX5_onRavelling_16 : decode cX5_onRavelling 16 = .ok (.getfield 107, 3) := by decide +kernel
theorem dX5_onRavelling_19 : decode cX5_onRavelling 19 = .ok (.if_icmp .le 13, 3) := by decide +kernel
theorem dX5_onRavelling_22 : decode cX5_onRavelling 22 = .ok (.aload_n 0, 1) := by decide +kernel
theorem dX5_onRavelling_23 : decode cX5_onRavelling 23 = .ok (.iconst 4, 1) := by decide +kernel
theorem dX5_onRavelling_24 : decode cX5_onRavelling 24 = .ok (.aload_n 1, 1) := by decide +kernel
theorem dX5_onRavelling_25 : decode cX5_onRavelling 25 = .ok (.getfield 107, 3) := by decide +kernel
theorem dX5_onRavelling_28 : decode cX5_onRavelling 28 = .ok (.invokevirtual 89, 3) := by decide +kernel
theorem dX5_onRavelling_31 : decode cX5_onRavelling 31 = .ok (.ireturn, 1) := by decide +kernel
theorem dX5_onRavelling_32 : decode cX5_onRavelling 32 = .ok (.aload_n 1, 1) := by decide +kernel
theorem dX5_onRavelling_33 : decode cX5_onRavelling 33 = .ok (.invokevirtual 110, 3) := by decide +kernel
theorem dX5_onRavelling_36 : decode cX5_onRavelling 36 = .ok (.istore_n 3, 1) := by decide +kernel
theorem dX5_onRavelling_37 : decode cX5_onRavelling 37 = .ok (.iload_n 3, 1) := by decide +kernel
theorem dX5_onRavelling_38 : decode cX5_onRavelling 38 = .ok (.aload_n 1, 1) := by decide +kernel
theorem dX5_onRavelling_39 : decode cX5_onRavelling 39 = .ok (.getfield 107, 3) := by decide +kernel
theorem dX5_onRavelling_42 : decode cX5_onRavelling 42 = .ok (.iload_n 2, 1) := by decide +kernel
theorem dX5_onRavelling_43 : decode cX5_onRavelling 43 = .ok (.isub, 1) := by decide +kernel
theorem dX5_onRavelling_44 : decode cX5_onRavelling 44 = .ok (.if_icmp .lt 12, 3) := by decide +kernel
theorem dX5_onRavelling_47 : decode cX5_onRavelling 47 = .ok (.aload_n 0, 1) := by decide +kernel
theorem dX5_onRavelling_48 : decode cX5_onRavelling 48 = .ok (.iconst 3, 1) := by decide +kernel
theorem dX5_onRavelling_49 : decode cX5_onRavelling 49 = .ok (.iload_n 3, 1) := by decide +kernel
theorem dX5_onRavelling_50 : decode cX5_onRavelling 50 = .ok (.invokevirtual 89, 3) := by decide +kernel
theorem dX5_onRavelling_53 : decode cX5_onRavelling 53 = .ok (.goto 4, 3) := by decide +kernel
theorem dX5_onRavelling_56 : decode cX5_onRavelling 56 = .ok (.iconst 0, 1) := by decide +kernel
theorem dX5_onRavelling_57 : decode cX5_onRavelling 57 = .ok (.ireturn, 1) := by decide +kernel
theorem dX5_onRepeating_0 : decode cX5_onRepeating 0 = .ok (.iload_n 2, 1) := by decide +kernel
theorem dX5_onRepeating_1 : decode cX5_onRepeating 1 = .ok (.iconst 1, 1) := by decide +kernel
theorem dX5_onRepeating_2 : decode cX5_onRepeating 2 = .ok (.if_icmp .lt 20, 3) := by decide +kernel
theorem dX5_onRepeating_5 : decode cX5_onRepeating 5 = .ok (.iload_n 2, 1) := by decide +kernel
theorem dX5_onRepeating_6 : decode cX5_onRepeating 6 = .ok (.bipush 20, 2) := by decide +kernel
theorem dX5_onRepeating_8 : decode cX5_onRepeating 8 = .ok (.if_icmp .gt 14, 3) := by decide +kernel
theorem dX5_onRepeating_11 : decode cX5_onRepeating 11 = .ok (.iload_n 3, 1) := by decide +kernel
theorem dX5_onRepeating_12 : decode cX5_onRepeating 12 = .ok (.iconst 1, 1) := by decide +kernel
theorem dX5_onRepeating_13 : decode cX5_onRepeating 13 = .ok (.if_icmp .lt 9, 3) := by decide +kernel
theorem dX5_onRepeating_16 : decode cX5_onRepeating 16 = .ok (.iload_n 3, 1) := by decide +kernel
theorem dX5_onRepeating_17 : decode cX5_onRepeating 17 = .ok (.bipush 9, 2) := by decide +kernel
theorem dX5_onRepeating_19 : decode cX5_onRepeating 19 = .ok (.if_icmp .le 6, 3) := by decide +kernel
theorem dX5_onRepeating_22 : decode cX5_onRepeating 22 = .ok (.bipush 9, 2) := by decide +kernel
theorem dX5_onRepeating_24 : decode cX5_onRepeating 24 = .ok (.ireturn, 1) := by decide +kernel
theorem dX5_onRepeating_25 : decode cX5_onRepeating 25 = .ok (.iload_n 2, 1) := by decide +kernel
theorem dX5_onRepeating_26 : decode cX5_onRepeating 26 = .ok (.aload_n 1, 1) := by decide +kernel
theorem dX5_onRepeating_27 : decode cX5_onRepeating 27 = .ok (.getfield 107, 3) := by decide +kernel
theorem dX5_onRepeating_30 : decode cX5_onRepeating 30 = .ok (.if_icmp .le 13, 3) := by decide +kernel
theorem dX5_onRepeating_33 : decode cX5_onRepeating 33 = .ok (.aload_n 0, 1) := by decide +kernel
theorem dX5_onRepeating_34 : decode cX5_onRepeating 34 = .ok (.iconst 4, 1) := by decide +kernel
theorem dX5_onRepeating_35 : decode cX5_onRepeating 35 = .ok (.aload_n 1, 1) := by decide +kernel
theorem dX5_onRepeating_36 : decode cX5_onRepeating 36 = .ok (.getfield 107, 3) := by decide +kernel
theorem dX5_onRepeating_39 : decode cX5_onRepeating 39 = .ok (.invokevirtual 89, 3) := by decide +kernel
theorem dX5_onRepeating_42 : decode cX5_onRepeating 42 = .ok (.ireturn, 1) := by decide +kernel
theorem dX5_onRepeating_43 : decode cX5_onRepeating 43 = .ok (.aload_n 1, 1) := by decide +kernel
theorem dX5_onRepeating_44 : decode cX5_onRepeating 44 = .ok (.getfield 107, 3) := by decide +kernel
theorem dX5_onRepeating_47 : decode cX5_onRepeating 47 = .ok (.iload_n 2, 1) := by decide +kernel
theorem dX5_onRepeating_48 : decode cX5_onRepeating 48 = .ok (.iload_n 3, 1) := by decide +kernel
theorem dX5_onRepeating_49 : decode cX5_onRepeating 49 = .ok (.imul, 1) := by decide +kernel
theorem dX5_onRepeating_50 : decode cX5_onRepeating 50 = .ok (.iadd, 1) := by decide +kernel
theorem dX5_onRepeating_51 : decode cX5_onRepeating 51 = .ok (.bipush 40, 2) := by decide +kernel
theorem dX5_onRepeating_53 : decode cX5_onRepeating 53 = .ok (.if_icmp .le 13, 3) := by decide +kernel
theorem dX5_onRepeating_56 : decode cX5_onRepeating 56 = .ok (.aload_n 0, 1) := by decide +kernel
theorem dX5_onRepeating_57 : decode cX5_onRepeating 57 = .ok (.iconst 1, 1) := by decide +kernel
theorem dX5_onRepeating_58 : decode cX5_onRepeating 58 = .ok (.bipush 40, 2) := by decide +kernel
theorem dX5_onRepeating_60 : decode cX5_onRepeating 60 = .ok (.invokevirtual 89, 3) := by decide +kernel
theorem dX5_onRepeating_63 : decode cX5_onRepeating 63 = .ok (.goto 4, 3) := by decide +kernel
theorem dX5_onRepeating_66 : decode cX5_onRepeating 66 = .ok (.iconst 0, 1) := by decide +kernel
theorem dX5_onRepeating_67 : decode cX5_onRepeating 67 = .ok (.ireturn, 1) := by decide +kernel
theorem dX5_onKnots_0 : decode cX5_onKnots 0 = .ok (.aload_n 1, 1) := by decide +kernel
theorem dX5_onKnots_1 : decode cX5_onKnots 1 = .ok (.iload_n 2, 1) := by decide +kernel
theorem dX5_onKnots_2 : decode cX5_onKnots 2 = .ok (.iload_n 3, 1) := by decide +kernel
theorem dX5_onKnots_3 : decode cX5_onKnots 3 = .ok (.invokevirtual 113, 3) := by decide +kernel
theorem dX5_onKnots_6 : decode cX5_onKnots 6 = .ok (.ifCond .ne 6, 3) := by decide +kernel
theorem dX5_onKnots_9 : decode cX5_onKnots 9 = .ok (.bipush 10, 2) := by decide +kernel
theorem dX5_onKnots_11 : decode cX5_onKnots 11 = .ok (.ireturn, 1) := by decide +kernel
theorem dX5_onKnots_12 : decode cX5_onKnots 12 = .ok (.aload_n 1, 1) := by decide +kernel
theorem dX5_onKnots_13 : decode cX5_onKnots 13 = .ok (.iload_n 2, 1) := by decide +kernel
theorem dX5_onKnots_14 : decode cX5_onKnots 14 = .ok (.iload_n 3, 1) := by decide +kernel
theorem dX5_onKnots_15 : decode cX5_onKnots 15 = .ok (.invokevirtual 117, 3) := by decide +kernel
theorem dX5_onKnots_18 : decode cX5_onKnots 18 = .ok (.iload 4, 2) := by decide +kernel
theorem dX5_onKnots_20 : decode cX5_onKnots 20 = .ok (.if_icmp .ne 21, 3) := by decide +kernel
theorem dX5_onKnots_23 : decode cX5_onKnots 23 = .ok (.aload_n 0, 1) := by decide +kernel
theorem dX5_onKnots_24 : decode cX5_onKnots 24 = .ok (.iconst 5, 1) := by decide +kernel
theorem dX5_onKnots_25 : decode cX5_onKnots 25 = .ok (.iload 4, 2) := by decide +kernel
theorem dX5_onKnots_27 : decode cX5_onKnots 27 = .ok (.ifCond .eq 7, 3) := by decide +kernel
theorem dX5_onKnots_30 : decode cX5_onKnots 30 = .ok (.iconst 1, 1) := by decide +kernel
theorem dX5_onKnots_31 : decode cX5_onKnots 31 = .ok (.goto 4, 3) := by decide +kernel
theorem dX5_onKnots_34 : decode cX5_onKnots 34 = .ok (.iconst 0, 1) := by decide +kernel
theorem dX5_onKnots_35 : decode cX5_onKnots 35 = .ok (.invokevirtual 89, 3) := by decide +kernel
theorem dX5_onKnots_38 : decode cX5_onKnots 38 = .ok (.goto 4, 3) := by decide +kernel
theorem dX5_onKnots_41 : decode cX5_onKnots 41 = .ok (.iconst 0, 1) := by decide +kernel
theorem dX5_onKnots_42 : decode cX5_onKnots 42 = .ok (.ireturn, 1) := by decide +kernel
theorem dX5_onMending_0 : decode cX5_onMending 0 = .ok (.iload_n 2, 1) := by decide +kernel
theorem dX5_onMending_1 : decode cX5_onMending 1 = .ok (.invokestatic 120, 3) := by decide +kernel
theorem dX5_onMending_4 : decode cX5_onMending 4 = .ok (.ifCond .ne 6, 3) := by decide +kernel
theorem dX5_onMending_7 : decode cX5_onMending 7 = .ok (.bipush 9, 2) := by decide +kernel
theorem dX5_onMending_9 : decode cX5_onMending 9 = .ok (.ireturn, 1) := by decide +kernel
theorem dX5_onMending_10 : decode cX5_onMending 10 = .ok (.aload_n 1, 1) := by decide +kernel
theorem dX5_onMending_11 : decode cX5_onMending 11 = .ok (.iload_n 2, 1) := by decide +kernel
theorem dX5_onMending_12 : decode cX5_onMending 12 = .ok (.invokevirtual 123, 3) := by decide +kernel
theorem dX5_onMending_15 : decode cX5_onMending 15 = .ok (.getfield 127, 3) := by decide +kernel
theorem dX5_onMending_18 : decode cX5_onMending 18 = .ok (.ifCond .ne 12, 3) := by decide +kernel
theorem dX5_onMending_21 : decode cX5_onMending 21 = .ok (.aload_n 0, 1) := by decide +kernel
theorem dX5_onMending_22 : decode cX5_onMending 22 = .ok (.iconst 5, 1) := by decide +kernel
theorem dX5_onMending_23 : decode cX5_onMending 23 = .ok (.iconst 0, 1) := by decide +kernel
theorem dX5_onMending_24 : decode cX5_onMending 24 = .ok (.invokevirtual 89, 3) := by decide +kernel
theorem dX5_onMending_27 : decode cX5_onMending 27 = .ok (.goto 4, 3) := by decide +kernel
theorem dX5_onMending_30 : decode cX5_onMending 30 = .ok (.iconst 0, 1) := by decide +kernel
theorem dX5_onMending_31 : decode cX5_onMending 31 = .ok (.ireturn, 1) := by decide +kernel
theorem dX5_deny_0 : decode cX5_deny 0 = .ok (.aload_n 0, 1) := by decide +kernel
theorem dX5_deny_1 : decode cX5_deny 1 = .ok (.iload_n 2, 1) := by decide +kernel
theorem dX5_deny_2 : decode cX5_deny 2 = .ok (.putfield 132, 3) := by decide +kernel
theorem dX5_deny_5 : decode cX5_deny 5 = .ok (.iload_n 1, 1) := by decide +kernel
theorem dX5_deny_6 : decode cX5_deny 6 = .ok (.ireturn, 1) := by decide +kernel
theorem dX7_init_0 : decode cX7_init 0 = .ok (.aload_n 0, 1) := by decide +kernel
theorem dX7_init_1 : decode cX7_init 1 = .ok (.invokespecial 3, 3) := by decide +kernel
theorem dX7_init_4 : decode cX7_init 4 = .ok (.aload_n 0, 1) := by decide +kernel
theorem dX7_init_5 : decode cX7_init 5 = .ok (.bipush 48, 2) := by decide +kernel
theorem dX7_init_7 : decode cX7_init 7 = .ok (.newarray .char, 2) := by decide +kernel
theorem dX7_init_9 : decode cX7_init 9 = .ok (.putfield 9, 3) := by decide +kernel
theorem dX7_init_12 : decode cX7_init 12 = .ok (.return_, 1) := by decide +kernel
theorem dX7_showRow_0 : decode cX7_showRow 0 = .ok (.aload_n 0, 1) := by decide +kernel
theorem dX7_showRow_1 : decode cX7_showRow 1 = .ok (.iconst 0, 1) := by decide +kernel
theorem dX7_showRow_2 : decode cX7_showRow 2 = .ok (.putfield 15, 3) := by decide +kernel
theorem dX7_showRow_5 : decode cX7_showRow 5 = .ok (.aload_n 0, 1) := by decide +kernel
theorem dX7_showRow_6 : decode cX7_showRow 6 = .ok (.aload_n 1, 1) := by decide +kernel
theorem dX7_showRow_7 : decode cX7_showRow 7 = .ok (.getfield 19, 3) := by decide +kernel
theorem dX7_showRow_10 : decode cX7_showRow 10 = .ok (.iload_n 2, 1) := by decide +kernel
theorem dX7_showRow_11 : decode cX7_showRow 11 = .ok (.iaload, 1) := by decide +kernel
theorem dX7_showRow_12 : decode cX7_showRow 12 = .ok (.invokevirtual 25, 3) := by decide +kernel
theorem dX7_showRow_15 : decode cX7_showRow 15 = .ok (.aload_n 0, 1) := by decide +kernel
theorem dX7_showRow_16 : decode cX7_showRow 16 = .ok (.bipush 58, 2) := by decide +kernel
theorem dX7_showRow_18 : decode cX7_showRow 18 = .ok (.invokevirtual 29, 3) := by decide +kernel
theorem dX7_showRow_21 : decode cX7_showRow 21 = .ok (.iconst 0, 1) := by decide +kernel
theorem dX7_showRow_22 : decode cX7_showRow 22 = .ok (.istore_n 3, 1) := by decide +kernel
theorem dX7_showRow_23 : decode cX7_showRow 23 = .ok (.iload_n 3, 1) := by decide +kernel
theorem dX7_showRow_24 : decode cX7_showRow 24 = .ok (.bipush 16, 2) := by decide +kernel
theorem dX7_showRow_26 : decode cX7_showRow 26 = .ok (.if_icmp .ge 28, 3) := by decide +kernel
theorem dX7_showRow_29 : decode cX7_showRow 29 = .ok (.aload_n 0, 1) := by decide +kernel
theorem dX7_showRow_30 : decode cX7_showRow 30 = .ok (.aload_n 1, 1) := by decide +kernel
theorem dX7_showRow_31 : decode cX7_showRow 31 = .ok (.iload_n 2, 1) := by decide +kernel
theorem dX7_showRow_32 : decode cX7_showRow 32 = .ok (.iload_n 3, 1) := by decide +kernel
theorem dX7_showRow_33 : decode cX7_showRow 33 = .ok (.invokevirtual 33, 3) := by decide +kernel
theorem dX7_showRow_36 : decode cX7_showRow 36 = .ok (.aload_n 1, 1) := by decide +kernel
theorem dX7_showRow_37 : decode cX7_showRow 37 = .ok (.iload_n 2, 1) := by decide +kernel
theorem dX7_showRow_38 : decode cX7_showRow 38 = .ok (.iload_n 3, 1) := by decide +kernel
theorem dX7_showRow_39 : decode cX7_showRow 39 = .ok (.invokevirtual 37, 3) := by decide +kernel
theorem dX7_showRow_42 : decode cX7_showRow 42 = .ok (.invokestatic 40, 3) := by decide +kernel
theorem dX7_showRow_45 : decode cX7_showRow 45 = .ok (.invokevirtual 29, 3) := by decide +kernel
theorem dX7_showRow_48 : decode cX7_showRow 48 = .ok (.iinc 3 1, 3) := by decide +kernel
theorem dX7_showRow_51 : decode cX7_showRow 51 = .ok (.goto (-28), 3) := by decide +kernel
theorem dX7_showRow_54 : decode cX7_showRow 54 = .ok (.return_, 1) := by decide +kernel
theorem dX7_cellSign_0 : decode cX7_cellSign 0 = .ok (.iload_n 0, 1) := by decide +kernel
theorem dX7_cellSign_1 : decode cX7_cellSign 1 = .ok (.ifCond .eq 15, 3) := by decide +kernel
theorem dX7_cellSign_4 : decode cX7_cellSign 4 = .ok (.iload_n 1, 1) := by decide +kernel
theorem dX7_cellSign_5 : decode cX7_cellSign 5 = .ok (.ifCond .eq 8, 3) := by decide +kernel
theorem dX7_cellSign_8 : decode cX7_cellSign 8 = .ok (.bipush 88, 2) := by decide +kernel
theorem dX7_cellSign_10 : decode cX7_cellSign 10 = .ok (.goto 5, 3) := by decide +kernel
theorem dX7_cellSign_13 : decode cX7_cellSign 13 = .ok (.bipush 120, 2) := by decide +kernel
theorem dX7_cellSign_15 : decode cX7_cellSign 15 = .ok (.ireturn, 1) := by decide +kernel
theorem dX7_cellSign_16 : decode cX7_cellSign 16 = .ok (.iload_n 1, 1) := by decide +kernel
theorem dX7_cellSign_17 : decode cX7_cellSign 17 = .ok (.ifCond .eq 8, 3) := by decide +kernel
theorem dX7_cellSign_20 : decode cX7_cellSign 20 = .ok (.bipush 111, 2) := by decide +kernel
theorem dX7_cellSign_22 : decode cX7_cellSign 22 = .ok (.goto 5, 3) := by decide +kernel
theorem dX7_cellSign_25 : decode cX7_cellSign 25 = .ok (.bipush 46, 2) := by decide +kernel
theorem dX7_cellSign_27 : decode cX7_cellSign 27 = .ok (.ireturn, 1) := by decide +kernel
theorem dX7_addDigit_0 : decode cX7_addDigit 0 = .ok (.aload_n 0, 1) := by decide +kernel
theorem dX7_addDigit_1 : decode cX7_addDigit 1 = .ok (.bipush 48, 2) := by decide +kernel
theorem dX7_addDigit_3 : decode cX7_addDigit 3 = .ok (.iload_n 1, 1) := by decide +kernel
theorem dX7_addDigit_4 : decode cX7_addDigit 4 = .ok (.iadd, 1) := by decide +kernel
theorem dX7_addDigit_5 : decode cX7_addDigit 5 = .ok (.i2c, 1) := by decide +kernel
theorem dX7_addDigit_6 : decode cX7_addDigit 6 = .ok (.invokevirtual 29, 3) := by decide +kernel
theorem dX7_addDigit_9 : decode cX7_addDigit 9 = .ok (.return_, 1) := by decide +kernel
theorem dX7_add_0 : decode cX7_add 0 = .ok (.aload_n 0, 1) := by decide +kernel
theorem dX7_add_1 : decode cX7_add 1 = .ok (.getfield 15, 3) := by decide +kernel
theorem dX7_add_4 : decode cX7_add 4 = .ok (.bipush 48, 2) := by decide +kernel
theorem dX7_add_6 : decode cX7_add 6 = .ok (.if_icmp .ge 23, 3) := by decide +kernel
theorem dX7_add_9 : decode cX7_add 9 = .ok (.aload_n 0, 1) := by decide +kernel
theorem dX7_add_10 : decode cX7_add 10 = .ok (.getfield 9, 3) := by decide +kernel
theorem dX7_add_13 : decode cX7_add 13 = .ok (.aload_n 0, 1) := by decide +kernel
theorem dX7_add_14 : decode cX7_add 14 = .ok (.getfield 15, 3) := by decide +kernel
theorem dX7_add_17 : decode cX7_add 17 = .ok (.iload_n 1, 1) := by decide +kernel
theorem dX7_add_18 : decode cX7_add 18 = .ok (.castore, 1) := by decide +kernel
theorem dX7_add_19 : decode cX7_add 19 = .ok (.aload_n 0, 1) := by decide +kernel
theorem dX7_add_20 : decode cX7_add 20 = .ok (.dup, 1) := by decide +kernel
theorem dX7_add_21 : decode cX7_add 21 = .ok (.getfield 15, 3) := by decide +kernel
theorem dX7_add_24 : decode cX7_add 24 = .ok (.iconst 1, 1) := by decide +kernel
theorem dX7_add_25 : decode cX7_add 25 = .ok (.iadd, 1) := by decide +kernel
theorem dX7_add_26 : decode cX7_add 26 = .ok (.putfield 15, 3) := by decide +kernel
theorem dX7_add_29 : decode cX7_add 29 = .ok (.return_, 1) := by decide +kernel
theorem dX8_init_0 : decode cX8_init 0 = .ok (.aload_n 0, 1) := by decide +kernel
theorem dX8_init_1 : decode cX8_init 1 = .ok (.invokespecial 3, 3) := by decide +kernel
theorem dX8_init_4 : decode cX8_init 4 = .ok (.aload_n 0, 1) := by decide +kernel
theorem dX8_init_5 : decode cX8_init 5 = .ok (.new 9, 3) := by decide +kernel
theorem dX8_init_8 : decode cX8_init 8 = .ok (.dup, 1) := by decide +kernel
theorem dX8_init_9 : decode cX8_init 9 = .ok (.invokespecial 11, 3) := by decide +kernel
theorem dX8_init_12 : decode cX8_init 12 = .ok (.putfield 12, 3) := by decide +kernel
theorem dX8_init_15 : decode cX8_init 15 = .ok (.aload_n 0, 1) := by decide +kernel
theorem dX8_init_16 : decode cX8_init 16 = .ok (.new 18, 3) := by decide +kernel
theorem dX8_init_19 : decode cX8_init 19 = .ok (.dup, 1) := by decide +kernel
theorem dX8_init_20 : decode cX8_init 20 = .ok (.invokespecial 20, 3) := by decide +kernel
theorem dX8_init_23 : decode cX8_init 23 = .ok (.putfield 21, 3) := by decide +kernel
theorem dX8_init_26 : decode cX8_init 26 = .ok (.aload_n 0, 1) := by decide +kernel
theorem dX8_init_27 : decode cX8_init 27 = .ok (.new 25, 3) := by decide +kernel
theorem dX8_init_30 : decode cX8_init 30 = .ok (.dup, 1) := by decide +kernel
theorem dX8_init_31 : decode cX8_init 31 = .ok (.invokespecial 27, 3) := by decide +kernel
theorem dX8_init_34 : decode cX8_init 34 = .ok (.putfield 28, 3) := by decide +kernel
theorem dX8_init_37 : decode cX8_init 37 = .ok (.aload_n 0, 1) := by decide +kernel
theorem dX8_init_38 : decode cX8_init 38 = .ok (.new 25, 3) := by decide +kernel
theorem dX8_init_41 : decode cX8_init 41 = .ok (.dup, 1) := by decide +kernel
theorem dX8_init_42 : decode cX8_init 42 = .ok (.invokespecial 27, 3) := by decide +kernel
theorem dX8_init_45 : decode cX8_init 45 = .ok (.putfield 32, 3) := by decide +kernel
theorem dX8_init_48 : decode cX8_init 48 = .ok (.return_, 1) := by decide +kernel
theorem dX8_isSide_0 : decode cX8_isSide 0 = .ok (.iload_n 0, 1) := by decide +kernel
theorem dX8_isSide_1 : decode cX8_isSide 1 = .ok (.bipush 108, 2) := by decide +kernel
theorem dX8_isSide_3 : decode cX8_isSide 3 = .ok (.if_icmp .eq 9, 3) := by decide +kernel
theorem dX8_isSide_6 : decode cX8_isSide 6 = .ok (.iload_n 0, 1) := by decide +kernel
theorem dX8_isSide_7 : decode cX8_isSide 7 = .ok (.bipush 114, 2) := by decide +kernel
theorem dX8_isSide_9 : decode cX8_isSide 9 = .ok (.if_icmp .ne 7, 3) := by decide +kernel
theorem dX8_isSide_12 : decode cX8_isSide 12 = .ok (.iconst 1, 1) := by decide +kernel
theorem dX8_isSide_13 : decode cX8_isSide 13 = .ok (.goto 4, 3) := by decide +kernel
theorem dX8_isSide_16 : decode cX8_isSide 16 = .ok (.iconst 0, 1) := by decide +kernel
theorem dX8_isSide_17 : decode cX8_isSide 17 = .ok (.ireturn, 1) := by decide +kernel
theorem dX8_edgeAt_0 : decode cX8_edgeAt 0 = .ok (.iload_n 1, 1) := by decide +kernel
theorem dX8_edgeAt_1 : decode cX8_edgeAt 1 = .ok (.bipush 108, 2) := by decide +kernel
theorem dX8_edgeAt_3 : decode cX8_edgeAt 3 = .ok (.if_icmp .ne 10, 3) := by decide +kernel
theorem dX8_edgeAt_6 : decode cX8_edgeAt 6 = .ok (.aload_n 0, 1) := by decide +kernel
theorem dX8_edgeAt_7 : decode cX8_edgeAt 7 = .ok (.getfield 28, 3) := by decide +kernel
theorem dX8_edgeAt_10 : decode cX8_edgeAt 10 = .ok (.goto 7, 3) := by decide +kernel
theorem dX8_edgeAt_13 : decode cX8_edgeAt 13 = .ok (.aload_n 0, 1) := by decide +kernel
theorem dX8_edgeAt_14 : decode cX8_edgeAt 14 = .ok (.getfield 32, 3) := by decide +kernel
theorem dX8_edgeAt_17 : decode cX8_edgeAt 17 = .ok (.areturn, 1) := by decide +kernel
theorem dX8_copyFrom_0 : decode cX8_copyFrom 0 = .ok (.aload_n 0, 1) := by decide +kernel
theorem dX8_copyFrom_1 : decode cX8_copyFrom 1 = .ok (.getfield 12, 3) := by decide +kernel
theorem dX8_copyFrom_4 : decode cX8_copyFrom 4 = .ok (.aload_n 1, 1) := by decide +kernel
theorem dX8_copyFrom_5 : decode cX8_copyFrom 5 = .ok (.getfield 12, 3) := by decide +kernel
theorem dX8_copyFrom_8 : decode cX8_copyFrom 8 = .ok (.invokevirtual 35, 3) := by decide +kernel
theorem dX8_copyFrom_11 : decode cX8_copyFrom 11 = .ok (.aload_n 0, 1) := by decide +kernel
theorem dX8_copyFrom_12 : decode cX8_copyFrom 12 = .ok (.getfield 21, 3) := by decide +kernel
theorem dX8_copyFrom_15 : decode cX8_copyFrom 15 = .ok (.aload_n 1, 1) := by decide +kernel
theorem dX8_copyFrom_16 : decode cX8_copyFrom 16 = .ok (.getfield 21, 3) := by decide +kernel
theorem dX8_copyFrom_19 : decode cX8_copyFrom 19 = .ok (.invokevirtual 39, 3) := by decide +kernel
theorem dX8_copyFrom_22 : decode cX8_copyFrom 22 = .ok (.aload_n 0, 1) := by decide +kernel
theorem dX8_copyFrom_23 : decode cX8_copyFrom 23 = .ok (.getfield 28, 3) := by decide +kernel
theorem dX8_copyFrom_26 : decode cX8_copyFrom 26 = .ok (.aload_n 1, 1) := by decide +kernel
theorem dX8_copyFrom_27 : decode cX8_copyFrom 27 = .ok (.getfield 28, 3) := by decide +kernel
theorem dX8_copyFrom_30 : decode cX8_copyFrom 30 = .ok (.invokevirtual 42, 3) := by decide +kernel
theorem dX8_copyFrom_33 : decode cX8_copyFrom 33 = .ok (.aload_n 0, 1) := by decide +kernel
theorem dX8_copyFrom_34 : decode cX8_copyFrom 34 = .ok (.getfield 32, 3) := by decide +kernel
theorem dX8_copyFrom_37 : decode cX8_copyFrom 37 = .ok (.aload_n 1, 1) := by decide +kernel
theorem dX8_copyFrom_38 : decode cX8_copyFrom 38 = .ok (.getfield 32, 3) := by decide +kernel
theorem dX8_copyFrom_41 : decode cX8_copyFrom 41 = .ok (.invokevirtual 42, 3) := by decide +kernel
theorem dX8_copyFrom_44 : decode cX8_copyFrom 44 = .ok (.aload_n 0, 1) := by decide +kernel
theorem dX8_copyFrom_45 : decode cX8_copyFrom 45 = .ok (.aload_n 1, 1) := by decide +kernel
theorem dX8_copyFrom_46 : decode cX8_copyFrom 46 = .ok (.getfield 45, 3) := by decide +kernel
theorem dX8_copyFrom_49 : decode cX8_copyFrom 49 = .ok (.putfield 45, 3) := by decide +kernel
theorem dX8_copyFrom_52 : decode cX8_copyFrom 52 = .ok (.aload_n 0, 1) := by decide +kernel
theorem dX8_copyFrom_53 : decode cX8_copyFrom 53 = .ok (.aload_n 1, 1) := by decide +kernel
theorem dX8_copyFrom_54 : decode cX8_copyFrom 54 = .ok (.getfield 49, 3) := by decide +kernel
theorem dX8_copyFrom_57 : decode cX8_copyFrom 57 = .ok (.putfield 49, 3) := by decide +kernel
theorem dX8_copyFrom_60 : decode cX8_copyFrom 60 = .ok (.return_, 1) := by decide +kernel
theorem dX8_perform_0 : decode cX8_perform 0 = .ok (.aload_n 1, 1) := by decide +kernel
theorem dX8_perform_1 : decode cX8_perform 1 = .ok (.getfield 52, 3) := by decide +kernel
theorem dX8_perform_4 : decode cX8_perform 4 = .ok (.istore_n 2, 1) := by decide +kernel
theorem dX8_perform_5 : decode cX8_perform 5 = .ok (.aload_n 1, 1) := by decide +kernel
theorem dX8_perform_6 : decode cX8_perform 6 = .ok (.getfield 57, 3) := by decide +kernel
theorem dX8_perform_9 : decode cX8_perform 9 = .ok (.istore_n 3, 1) := by decide +kernel
theorem dX8_perform_10 : decode cX8_perform 10 = .ok (.getstatic 60, 3) := by decide +kernel
theorem dX8_perform_13 : decode cX8_perform 13 = .ok (.aload_n 1, 1) := by decide +kernel
theorem dX8_perform_14 : decode cX8_perform 14 = .ok (.getfield 66, 3) := by decide +kernel
theorem dX8_perform_17 : decode cX8_perform 17 = .ok (.invokevirtual 70, 3) := by decide +kernel
theorem dX8_perform_20 : decode cX8_perform 20 = .ok (.iaload, 1) := by decide +kernel
theorem dX8_perform_21 : decode cX8_perform 21 = .ok (.tableswitch 130 1 9 #[51, 65, 75, 85, 95, 101, 110, 120, 120], 51) := by decide +kernel
theorem dX8_perform_72 : decode cX8_perform 72 = .ok (.aload_n 0, 1) := by decide +kernel
theorem dX8_perform_73 : decode cX8_perform 73 = .ok (.getfield 12, 3) := by decide +kernel
theorem dX8_perform_76 : decode cX8_perform 76 = .ok (.iload_n 2, 1) := by decide +kernel
theorem dX8_perform_77 : decode cX8_perform 77 = .ok (.iload_n 3, 1) := by decide +kernel
theorem dX8_perform_78 : decode cX8_perform 78 = .ok (.aload_n 1, 1) := by decide +kernel
theorem dX8_perform_79 : decode cX8_perform 79 = .ok (.getfield 76, 3) := by decide +kernel
theorem dX8_perform_82 : decode cX8_perform 82 = .ok (.invokevirtual 79, 3) := by decide +kernel
theorem dX8_perform_85 : decode cX8_perform 85 = .ok (.ireturn, 1) := by decide +kernel
theorem dX8_perform_86 : decode cX8_perform 86 = .ok (.aload_n 0, 1) := by decide +kernel
theorem dX8_perform_87 : decode cX8_perform 87 = .ok (.getfield 12, 3) := by decide +kernel
theorem dX8_perform_90 : decode cX8_perform 90 = .ok (.iload_n 2, 1) := by decide +kernel
theorem dX8_perform_91 : decode cX8_perform 91 = .ok (.iconst 1, 1) := by decide +kernel
theorem dX8_perform_92 : decode cX8_perform 92 = .ok (.invokevirtual 83, 3) := by decide +kernel
theorem dX8_perform_95 : decode cX8_perform 95 = .ok (.ireturn, 1) := by decide +kernel
theorem dX8_perform_96 : decode cX8_perform 96 = .ok (.aload_n 0, 1) := by decide +kernel
theorem dX8_perform_97 : decode cX8_perform 97 = .ok (.getfield 12, 3) := by decide +kernel
theorem dX8_perform_100 : decode cX8_perform 100 = .ok (.iload_n 2, 1) := by decide +kernel
theorem dX8_perform_101 : decode cX8_perform 101 = .ok (.iconst 0, 1) := by decide +kernel
theorem dX8_perform_102 : decode cX8_perform 102 = .ok (.invokevirtual 83, 3) := by decide +kernel
theorem dX8_perform_105 : decode cX8_perform 105 = .ok (.ireturn, 1) := by decide +kernel
theorem dX8_perform_106 : decode cX8_perform 106 = .ok (.aload_n 0, 1) := by decide +kernel
theorem dX8_perform_107 : decode cX8_perform 107 = .ok (.getfield 12, 3) := by decide +kernel
theorem dX8_perform_110 : decode cX8_perform 110 = .ok (.iload_n 2, 1) := by decide +kernel
theorem dX8_perform_111 : decode cX8_perform 111 = .ok (.iload_n 3, 1) := by decide +kernel
theorem dX8_perform_112 : decode cX8_perform 112 = .ok (.invokevirtual 87, 3) := by decide +kernel
theorem dX8_perform_115 : decode cX8_perform 115 = .ok (.ireturn, 1) := by decide +kernel
theorem dX8_perform_116 : decode cX8_perform 116 = .ok (.aload_n 0, 1) := by decide +kernel
theorem dX8_perform_117 : decode cX8_perform 117 = .ok (.iload_n 2, 1) := by decide +kernel
theorem dX8_perform_118 : decode cX8_perform 118 = .ok (.invokevirtual 91, 3) := by decide +kernel
theorem dX8_perform_121 : decode cX8_perform 121 = .ok (.ireturn, 1) := by decide +kernel
theorem dX8_perform_122 : decode cX8_perform 122 = .ok (.aload_n 0, 1) := by decide +kernel
theorem dX8_perform_123 : decode cX8_perform 123 = .ok (.getfield 21, 3) := by decide +kernel
theorem dX8_perform_126 : decode cX8_perform 126 = .ok (.iload_n 2, 1) := by decide +kernel
theorem dX8_perform_127 : decode cX8_perform 127 = .ok (.invokevirtual 95, 3) := by decide +kernel
theorem dX8_perform_130 : decode cX8_perform 130 = .ok (.ireturn, 1) := by decide +kernel
theorem dX8_perform_131 : decode cX8_perform 131 = .ok (.aload_n 0, 1) := by decide +kernel
theorem dX8_perform_132 : decode cX8_perform 132 = .ok (.getfield 21, 3) := by decide +kernel
theorem dX8_perform_135 : decode cX8_perform 135 = .ok (.iload_n 2, 1) := by decide +kernel
theorem dX8_perform_136 : decode cX8_perform 136 = .ok (.iload_n 3, 1) := by decide +kernel
theorem dX8_perform_137 : decode cX8_perform 137 = .ok (.invokevirtual 98, 3) := by decide +kernel
theorem dX8_perform_140 : decode cX8_perform 140 = .ok (.ireturn, 1) := by decide +kernel
theorem dX8_perform_141 : decode cX8_perform 141 = .ok (.aload_n 0, 1) := by decide +kernel
theorem dX8_perform_142 : decode cX8_perform 142 = .ok (.getfield 21, 3) := by decide +kernel
theorem dX8_perform_145 : decode cX8_perform 145 = .ok (.iload_n 2, 1) := by decide +kernel
theorem dX8_perform_146 : decode cX8_perform 146 = .ok (.iload_n 3, 1) := by decide +kernel
theorem dX8_perform_147 : decode cX8_perform 147 = .ok (.invokevirtual 101, 3) := by decide +kernel
theorem dX8_perform_150 : decode cX8_perform 150 = .ok (.ireturn, 1) := by decide +kernel
theorem dX8_perform_151 : decode cX8_perform 151 = .ok (.aload_n 0, 1) := by decide +kernel
theorem dX8_perform_152 : decode cX8_perform 152 = .ok (.iload_n 2, 1) := by decide +kernel
theorem dX8_perform_153 : decode cX8_perform 153 = .ok (.invokevirtual 104, 3) := by decide +kernel
theorem dX8_perform_156 : decode cX8_perform 156 = .ok (.invokevirtual 108, 3) := by decide +kernel
theorem dX8_perform_159 : decode cX8_perform 159 = .ok (.ireturn, 1) := by decide +kernel
theorem dX8_unburnt_0 : decode cX8_unburnt 0 = .ok (.iconst 1, 1) := by decide +kernel
theorem dX8_unburnt_1 : decode cX8_unburnt 1 = .ok (.aload_n 0, 1) := by decide +kernel
theorem dX8_unburnt_2 : decode cX8_unburnt 2 = .ok (.getfield 28, 3) := by decide +kernel
theorem dX8_unburnt_5 : decode cX8_unburnt 5 = .ok (.getfield 111, 3) := by decide +kernel
theorem dX8_unburnt_8 : decode cX8_unburnt 8 = .ok (.ishl, 1) := by decide +kernel
theorem dX8_unburnt_9 : decode cX8_unburnt 9 = .ok (.iconst 1, 1) := by decide +kernel
theorem dX8_unburnt_10 : decode cX8_unburnt 10 = .ok (.isub, 1) := by decide +kernel
theorem dX8_unburnt_11 : decode cX8_unburnt 11 = .ok (.istore_n 2, 1) := by decide +kernel
theorem dX8_unburnt_12 : decode cX8_unburnt 12 = .ok (.iconst 1, 1) := by decide +kernel
theorem dX8_unburnt_13 : decode cX8_unburnt 13 = .ok (.bipush 16, 2) := by decide +kernel
theorem dX8_unburnt_15 : decode cX8_unburnt 15 = .ok (.aload_n 0, 1) := by decide +kernel
theorem dX8_unburnt_16 : decode cX8_unburnt 16 = .ok (.getfield 32, 3) := by decide +kernel
theorem dX8_unburnt_19 : decode cX8_unburnt 19 = .ok (.getfield 111, 3) := by decide +kernel
theorem dX8_unburnt_22 : decode cX8_unburnt 22 = .ok (.isub, 1) := by decide +kernel
theorem dX8_unburnt_23 : decode cX8_unburnt 23 = .ok (.ishl, 1) := by decide +kernel
theorem dX8_unburnt_24 : decode cX8_unburnt 24 = .ok (.iconst 1, 1) := by decide +kernel
theorem dX8_unburnt_25 : decode cX8_unburnt 25 = .ok (.isub, 1) := by decide +kernel
theorem dX8_unburnt_26 : decode cX8_unburnt 26 = .ok (.istore_n 3, 1) := by decide +kernel
theorem dX8_unburnt_27 : decode cX8_unburnt 27 = .ok (.iload_n 1, 1) := by decide +kernel
theorem dX8_unburnt_28 : decode cX8_unburnt 28 = .ok (.iload_n 2, 1) := by decide +kernel
theorem dX8_unburnt_29 : decode cX8_unburnt 29 = .ok (.iconst (-1), 1) := by decide +kernel
theorem dX8_unburnt_30 : decode cX8_unburnt 30 = .ok (.ixor, 1) := by decide +kernel
theorem dX8_unburnt_31 : decode cX8_unburnt 31 = .ok (.iand, 1) := by decide +kernel
theorem dX8_unburnt_32 : decode cX8_unburnt 32 = .ok (.iload_n 3, 1) := by decide +kernel
theorem dX8_unburnt_33 : decode cX8_unburnt 33 = .ok (.iand, 1) := by decide +kernel
theorem dX8_unburnt_34 : decode cX8_unburnt 34 = .ok (.ireturn, 1) := by decide +kernel
theorem dX8_weaveRows_0 : decode cX8_weaveRows 0 = .ok (.iconst 0, 1) := by decide +kernel
theorem dX8_weaveRows_1 : decode cX8_weaveRows 1 = .ok (.istore_n 2, 1) := by decide +kernel
theorem dX8_weaveRows_2 : decode cX8_weaveRows 2 = .ok (.iload_n 2, 1) := by decide +kernel
theorem dX8_weaveRows_3 : decode cX8_weaveRows 3 = .ok (.iload_n 1, 1) := by decide +kernel
theorem dX8_weaveRows_4 : decode cX8_weaveRows 4 = .ok (.if_icmp .ge 23, 3) := by decide +kernel
theorem dX8_weaveRows_7 : decode cX8_weaveRows 7 = .ok (.aload_n 0, 1) := by decide +kernel
theorem dX8_weaveRows_8 : decode cX8_weaveRows 8 = .ok (.getfield 12, 3) := by decide +kernel
theorem dX8_weaveRows_11 : decode cX8_weaveRows 11 = .ok (.invokevirtual 114, 3) := by decide +kernel
theorem dX8_weaveRows_14 : decode cX8_weaveRows 14 = .ok (.ifCond .le 13, 3) := by decide +kernel
theorem dX8_weaveRows_17 : decode cX8_weaveRows 17 = .ok (.aload_n 0, 1) := by decide +kernel
theorem dX8_weaveRows_18 : decode cX8_weaveRows 18 = .ok (.invokevirtual 117, 3) := by decide +kernel
theorem dX8_weaveRows_21 : decode cX8_weaveRows 21 = .ok (.iinc 2 1, 3) := by decide +kernel
theorem dX8_weaveRows_24 : decode cX8_weaveRows 24 = .ok (.goto (-22), 3) := by decide +kernel
theorem dX8_weaveRows_27 : decode cX8_weaveRows 27 = .ok (.iload_n 2, 1) := by decide +kernel
theorem dX8_weaveRows_28 : decode cX8_weaveRows 28 = .ok (.ireturn, 1) := by decide +kernel
theorem dX8_weaveRow_0 : decode cX8_weaveRow 0 = .ok (.aload_n 0, 1) := by decide +kernel
theorem dX8_weaveRow_1 : decode cX8_weaveRow 1 = .ok (.getfield 12, 3) := by decide +kernel
theorem dX8_weaveRow_4 : decode cX8_weaveRow 4 = .ok (.invokevirtual 120, 3) := by decide +kernel
theorem dX8_weaveRow_7 : decode cX8_weaveRow 7 = .ok (.istore_n 1, 1) := by decide +kernel
theorem dX8_weaveRow_8 : decode cX8_weaveRow 8 = .ok (.aload_n 0, 1) := by decide +kernel
theorem dX8_weaveRow_9 : decode cX8_weaveRow 9 = .ok (.getfield 21, 3) := by decide +kernel
theorem dX8_weaveRow_12 : decode cX8_weaveRow 12 = .ok (.aload_n 0, 1) := by decide +kernel
theorem dX8_weaveRow_13 : decode cX8_weaveRow 13 = .ok (.iload_n 1, 1) := by decide +kernel
theorem dX8_weaveRow_14 : decode cX8_weaveRow 14 = .ok (.invokevirtual 123, 3) := by decide +kernel
theorem dX8_weaveRow_17 : decode cX8_weaveRow 17 = .ok (.aload_n 0, 1) := by decide +kernel
theorem dX8_weaveRow_18 : decode cX8_weaveRow 18 = .ok (.getfield 12, 3) := by decide +kernel
theorem dX8_weaveRow_21 : decode cX8_weaveRow 21 = .ok (.invokevirtual 126, 3) := by decide +kernel
theorem dX8_weaveRow_24 : decode cX8_weaveRow 24 = .ok (.invokevirtual 129, 3) := by decide +kernel
theorem dX8_weaveRow_27 : decode cX8_weaveRow 27 = .ok (.aload_n 0, 1) := by decide +kernel
theorem dX8_weaveRow_28 : decode cX8_weaveRow 28 = .ok (.dup, 1) := by decide +kernel
theorem dX8_weaveRow_29 : decode cX8_weaveRow 29 = .ok (.getfield 45, 3) := by decide +kernel
theorem dX8_weaveRow_32 : decode cX8_weaveRow 32 = .ok (.iconst 1, 1) := by decide +kernel
theorem dX8_weaveRow_33 : decode cX8_weaveRow 33 = .ok (.iadd, 1) := by decide +kernel
theorem dX8_weaveRow_34 : decode cX8_weaveRow 34 = .ok (.putfield 45, 3) := by decide +kernel
theorem dX8_weaveRow_37 : decode cX8_weaveRow 37 = .ok (.aload_n 0, 1) := by decide +kernel
theorem dX8_weaveRow_38 : decode cX8_weaveRow 38 = .ok (.dup, 1) := by decide +kernel
theorem dX8_weaveRow_39 : decode cX8_weaveRow 39 = .ok (.getfield 49, 3) := by decide +kernel
theorem dX8_weaveRow_42 : decode cX8_weaveRow 42 = .ok (.aload_n 0, 1) := by decide +kernel
theorem dX8_weaveRow_43 : decode cX8_weaveRow 43 = .ok (.getfield 12, 3) := by decide +kernel
theorem dX8_weaveRow_46 : decode cX8_weaveRow 46 = .ok (.invokevirtual 133, 3) := by decide +kernel
theorem dX8_weaveRow_49 : decode cX8_weaveRow 49 = .ok (.iadd, 1) := by decide +kernel
theorem dX8_weaveRow_50 : decode cX8_weaveRow 50 = .ok (.putfield 49, 3) := by decide +kernel
theorem dX8_weaveRow_53 : decode cX8_weaveRow 53 = .ok (.aload_n 0, 1) := by decide +kernel
theorem dX8_weaveRow_54 : decode cX8_weaveRow 54 = .ok (.getfield 28, 3) := by decide +kernel
theorem dX8_weaveRow_57 : decode cX8_weaveRow 57 = .ok (.iload_n 1, 1) := by decide +kernel
theorem dX8_weaveRow_58 : decode cX8_weaveRow 58 = .ok (.iconst 1, 1) := by decide +kernel
theorem dX8_weaveRow_59 : decode cX8_weaveRow 59 = .ok (.iand, 1) := by decide +kernel
theorem dX8_weaveRow_60 : decode cX8_weaveRow 60 = .ok (.ifCond .eq 7, 3) := by decide +kernel
theorem dX8_weaveRow_63 : decode cX8_weaveRow 63 = .ok (.iconst 1, 1) := by decide +kernel
theorem dX8_weaveRow_64 : decode cX8_weaveRow 64 = .ok (.goto 4, 3) := by decide +kernel
theorem dX8_weaveRow_67 : decode cX8_weaveRow 67 = .ok (.iconst 0, 1) := by decide +kernel
theorem dX8_weaveRow_68 : decode cX8_weaveRow 68 = .ok (.invokevirtual 136, 3) := by decide +kernel
theorem dX8_weaveRow_71 : decode cX8_weaveRow 71 = .ok (.aload_n 0, 1) := by decide +kernel
theorem dX8_weaveRow_72 : decode cX8_weaveRow 72 = .ok (.getfield 32, 3) := by decide +kernel
theorem dX8_weaveRow_75 : decode cX8_weaveRow 75 = .ok (.iload_n 1, 1) := by decide +kernel
theorem dX8_weaveRow_76 : decode cX8_weaveRow 76 = .ok (.bipush 15, 2) := by decide +kernel
theorem dX8_weaveRow_78 : decode cX8_weaveRow 78 = .ok (.ishr, 1) := by decide +kernel
theorem dX8_weaveRow_79 : decode cX8_weaveRow 79 = .ok (.iconst 1, 1) := by decide +kernel
theorem dX8_weaveRow_80 : decode cX8_weaveRow 80 = .ok (.iand, 1) := by decide +kernel
theorem dX8_weaveRow_81 : decode cX8_weaveRow 81 = .ok (.ifCond .eq 7, 3) := by decide +kernel
theorem dX8_weaveRow_84 : decode cX8_weaveRow 84 = .ok (.iconst 1, 1) := by decide +kernel
theorem dX8_weaveRow_85 : decode cX8_weaveRow 85 = .ok (.goto 4, 3) := by decide +kernel
theorem dX8_weaveRow_88 : decode cX8_weaveRow 88 = .ok (.iconst 0, 1) := by decide +kernel
theorem dX8_weaveRow_89 : decode cX8_weaveRow 89 = .ok (.invokevirtual 136, 3) := by decide +kernel
theorem dX8_weaveRow_92 : decode cX8_weaveRow 92 = .ok (.return_, 1) := by decide +kernel
theorem dX9_init_0 : decode cX9_init 0 = .ok (.aload_n 0, 1) := by decide +kernel
theorem dX9_init_1 : decode cX9_init 1 = .ok (.invokespecial 3, 3) := by decide +kernel
theorem dX9_init_4 : decode cX9_init 4 = .ok (.aload_n 0, 1) := by decide +kernel
theorem dX9_init_5 : decode cX9_init 5 = .ok (.bipush 60, 2) := by decide +kernel
theorem dX9_init_7 : decode cX9_init 7 = .ok (.newarray .char, 2) := by decide +kernel
theorem dX9_init_9 : decode cX9_init 9 = .ok (.putfield 9, 3) := by decide +kernel
theorem dX9_init_12 : decode cX9_init 12 = .ok (.aload_n 0, 1) := by decide +kernel
theorem dX9_init_13 : decode cX9_init 13 = .ok (.bipush 10, 2) := by decide +kernel
theorem dX9_init_15 : decode cX9_init 15 = .ok (.anewarray 15, 3) := by decide +kernel
theorem dX9_init_18 : decode cX9_init 18 = .ok (.putfield 17, 3) := by decide +kernel
theorem dX9_init_21 : decode cX9_init 21 = .ok (.iconst 0, 1) := by decide +kernel
theorem dX9_init_22 : decode cX9_init 22 = .ok (.istore_n 1, 1) := by decide +kernel
theorem dX9_init_23 : decode cX9_init 23 = .ok (.iload_n 1, 1) := by decide +kernel
theorem dX9_init_24 : decode cX9_init 24 = .ok (.bipush 10, 2) := by decide +kernel
theorem dX9_init_26 : decode cX9_init 26 = .ok (.if_icmp .ge 22, 3) := by decide +kernel
theorem dX9_init_29 : decode cX9_init 29 = .ok (.aload_n 0, 1) := by decide +kernel
theorem dX9_init_30 : decode cX9_init 30 = .ok (.getfield 17, 3) := by decide +kernel
theorem dX9_init_33 : decode cX9_init 33 = .ok (.iload_n 1, 1) := by decide +kernel
theorem dX9_init_34 : decode cX9_init 34 = .ok (.new 15, 3) := by decide +kernel
theorem dX9_init_37 : decode cX9_init 37 = .ok (.dup, 1) := by decide +kernel
theorem dX9_init_38 : decode cX9_init 38 = .ok (.invokespecial 21, 3) := by decide +kernel
theorem dX9_init_41 : decode cX9_init 41 = .ok (.aastore, 1) := by decide +kernel
theorem dX9_init_42 : decode cX9_init 42 = .ok (.iinc 1 1, 3) := by decide +kernel
theorem dX9_init_45 : decode cX9_init 45 = .ok (.goto (-22), 3) := by decide +kernel
theorem dX9_init_48 : decode cX9_init 48 = .ok (.return_, 1) := by decide +kernel
theorem dX9_isFull_0 : decode cX9_isFull 0 = .ok (.aload_n 0, 1) := by decide +kernel
theorem dX9_isFull_1 : decode cX9_isFull 1 = .ok (.getfield 22, 3) := by decide +kernel
theorem dX9_isFull_4 : decode cX9_isFull 4 = .ok (.bipush 60, 2) := by decide +kernel
theorem dX9_isFull_6 : decode cX9_isFull 6 = .ok (.if_icmp .lt 7, 3) := by decide +kernel
theorem dX9_isFull_9 : decode cX9_isFull 9 = .ok (.iconst 1, 1) := by decide +kernel
theorem dX9_isFull_10 : decode cX9_isFull 10 = .ok (.goto 4, 3) := by decide +kernel
theorem dX9_isFull_13 : decode cX9_isFull 13 = .ok (.iconst 0, 1) := by decide +kernel
theorem dX9_isFull_14 : decode cX9_isFull 14 = .ok (.ireturn, 1) := by decide +kernel
theorem dX9_append_0 : decode cX9_append 0 = .ok (.aload_n 0, 1) := by decide +kernel
theorem dX9_append_1 : decode cX9_append 1 = .ok (.getfield 9, 3) := by decide +kernel
theorem dX9_append_4 : decode cX9_append 4 = .ok (.aload_n 0, 1) := by decide +kernel
theorem dX9_append_5 : decode cX9_append 5 = .ok (.getfield 22, 3) := by decide +kernel
theorem dX9_append_8 : decode cX9_append 8 = .ok (.iload_n 1, 1) := by decide +kernel
theorem dX9_append_9 : decode cX9_append 9 = .ok (.castore, 1) := by decide +kernel
theorem dX9_append_10 : decode cX9_append 10 = .ok (.aload_n 0, 1) := by decide +kernel
theorem dX9_append_11 : decode cX9_append 11 = .ok (.dup, 1) := by decide +kernel
theorem dX9_append_12 : decode cX9_append 12 = .ok (.getfield 22, 3) := by decide +kernel
theorem dX9_append_15 : decode cX9_append 15 = .ok (.iconst 1, 1) := by decide +kernel
theorem dX9_append_16 : decode cX9_append 16 = .ok (.iadd, 1) := by decide +kernel
theorem dX9_append_17 : decode cX9_append 17 = .ok (.putfield 22, 3) := by decide +kernel
theorem dX9_append_20 : decode cX9_append 20 = .ok (.aload_n 0, 1) := by decide +kernel
theorem dX9_append_21 : decode cX9_append 21 = .ok (.getfield 22, 3) := by decide +kernel
theorem dX9_append_24 : decode cX9_append 24 = .ok (.ireturn, 1) := by decide +kernel
theorem dX9_clear_0 : decode cX9_clear 0 = .ok (.aload_n 0, 1) := by decide +kernel
theorem dX9_clear_1 : decode cX9_clear 1 = .ok (.iconst 0, 1) := by decide +kernel
theorem dX9_clear_2 : decode cX9_clear 2 = .ok (.putfield 22, 3) := by decide +kernel
theorem dX9_clear_5 : decode cX9_clear 5 = .ok (.return_, 1) := by decide +kernel
theorem dX9_parse_0 : decode cX9_parse 0 = .ok (.aload_n 0, 1) := by decide +kernel
theorem dX9_parse_1 : decode cX9_parse 1 = .ok (.iconst 0, 1) := by decide +kernel
theorem dX9_parse_2 : decode cX9_parse 2 = .ok (.putfield 26, 3) := by decide +kernel
theorem dX9_parse_5 : decode cX9_parse 5 = .ok (.aload_n 0, 1) := by decide +kernel
theorem dX9_parse_6 : decode cX9_parse 6 = .ok (.iconst 0, 1) := by decide +kernel
theorem dX9_parse_7 : decode cX9_parse 7 = .ok (.putfield 29, 3) := by decide +kernel
theorem dX9_parse_10 : decode cX9_parse 10 = .ok (.iconst 1, 1) := by decide +kernel
theorem dX9_parse_11 : decode cX9_parse 11 = .ok (.istore_n 1, 1) := by decide +kernel
theorem dX9_parse_12 : decode cX9_parse 12 = .ok (.iload_n 1, 1) := by decide +kernel
theorem dX9_parse_13 : decode cX9_parse 13 = .ok (.ifCond .eq 50, 3) := by decide +kernel
theorem dX9_parse_16 : decode cX9_parse 16 = .ok (.aload_n 0, 1) := by decide +kernel
theorem dX9_parse_17 : decode cX9_parse 17 = .ok (.getfield 29, 3) := by decide +kernel
theorem dX9_parse_20 : decode cX9_parse 20 = .ok (.bipush 10, 2) := by decide +kernel
theorem dX9_parse_22 : decode cX9_parse 22 = .ok (.if_icmp .ge 41, 3) := by decide +kernel
theorem dX9_parse_25 : decode cX9_parse 25 = .ok (.aload_n 0, 1) := by decide +kernel
theorem dX9_parse_26 : decode cX9_parse 26 = .ok (.aload_n 0, 1) := by decide +kernel
theorem dX9_parse_27 : decode cX9_parse 27 = .ok (.getfield 17, 3) := by decide +kernel
theorem dX9_parse_30 : decode cX9_parse 30 = .ok (.aload_n 0, 1) := by decide +kernel
theorem dX9_parse_31 : decode cX9_parse 31 = .ok (.getfield 29, 3) := by decide +kernel
theorem dX9_parse_34 : decode cX9_parse 34 = .ok (.aaload, 1) := by decide +kernel
theorem dX9_parse_35 : decode cX9_parse 35 = .ok (.invokevirtual 32, 3) := by decide +kernel
theorem dX9_parse_38 : decode cX9_parse 38 = .ok (.ifCond .ne 5, 3) := by decide +kernel
theorem dX9_parse_41 : decode cX9_parse 41 = .ok (.iconst 0, 1) := by decide +kernel
theorem dX9_parse_42 : decode cX9_parse 42 = .ok (.ireturn, 1) := by decide +kernel
theorem dX9_parse_43 : decode cX9_parse 43 = .ok (.aload_n 0, 1) := by decide +kernel
theorem dX9_parse_44 : decode cX9_parse 44 = .ok (.dup, 1) := by decide +kernel
theorem dX9_parse_45 : decode cX9_parse 45 = .ok (.getfield 29, 3) := by decide +kernel
theorem dX9_parse_48 : decode cX9_parse 48 = .ok (.iconst 1, 1) := by decide +kernel
theorem dX9_parse_49 : decode cX9_parse 49 = .ok (.iadd, 1) := by decide +kernel
theorem dX9_parse_50 : decode cX9_parse 50 = .ok (.putfield 29, 3) := by decide +kernel
theorem dX9_parse_53 : decode cX9_parse 53 = .ok (.aload_n 0, 1) := by decide +kernel
theorem dX9_parse_54 : decode cX9_parse 54 = .ok (.bipush 59, 2) := by decide +kernel
theorem dX9_parse_56 : decode cX9_parse 56 = .ok (.invokevirtual 36, 3) := by decide +kernel
theorem dX9_parse_59 : decode cX9_parse 59 = .ok (.istore_n 1, 1) := by decide +kernel
theorem dX9_parse_60 : decode cX9_parse 60 = .ok (.goto (-48), 3) := by decide +kernel
theorem dX9_parse_63 : decode cX9_parse 63 = .ok (.iload_n 1, 1) := by decide +kernel
theorem dX9_parse_64 : decode cX9_parse 64 = .ok (.ifCond .ne 18, 3) := by decide +kernel
theorem dX9_parse_67 : decode cX9_parse 67 = .ok (.aload_n 0, 1) := by decide +kernel
theorem dX9_parse_68 : decode cX9_parse 68 = .ok (.getfield 26, 3) := by decide +kernel
theorem dX9_parse_71 : decode cX9_parse 71 = .ok (.aload_n 0, 1) := by decide +kernel
theorem dX9_parse_72 : decode cX9_parse 72 = .ok (.getfield 22, 3) := by decide +kernel
theorem dX9_parse_75 : decode cX9_parse 75 = .ok (.if_icmp .ne 7, 3) := by decide +kernel
theorem dX9_parse_78 : decode cX9_parse 78 = .ok (.iconst 1, 1) := by decide +kernel
theorem dX9_parse_79 : decode cX9_parse 79 = .ok (.goto 4, 3) := by decide +kernel
theorem dX9_parse_82 : decode cX9_parse 82 = .ok (.iconst 0, 1) := by decide +kernel
theorem dX9_parse_83 : decode cX9_parse 83 = .ok (.ireturn, 1) := by decide +kernel
theorem dX9_readCommand_0 : decode cX9_readCommand 0 = .ok (.aload_n 0, 1) := by decide +kernel
theorem dX9_readCommand_1 : decode cX9_readCommand 1 = .ok (.invokevirtual 40, 3) := by decide +kernel
theorem dX9_readCommand_4 : decode cX9_readCommand 4 = .ok (.astore_n 2, 1) := by decide +kernel
theorem dX9_readCommand_5 : decode cX9_readCommand 5 = .ok (.aload_n 2, 1) := by decide +kernel
theorem dX9_readCommand_6 : decode cX9_readCommand 6 = .ok (.ifnonnull 5, 3) := by decide +kernel
theorem dX9_readCommand_9 : decode cX9_readCommand 9 = .ok (.iconst 0, 1) := by decide +kernel
theorem dX9_readCommand_10 : decode cX9_readCommand 10 = .ok (.ireturn, 1) := by decide +kernel
theorem dX9_readCommand_11 : decode cX9_readCommand 11 = .ok (.aload_n 1, 1) := by decide +kernel
theorem dX9_readCommand_12 : decode cX9_readCommand 12 = .ok (.aload_n 2, 1) := by decide +kernel
theorem dX9_readCommand_13 : decode cX9_readCommand 13 = .ok (.iconst 0, 1) := by decide +kernel
theorem dX9_readCommand_14 : decode cX9_readCommand 14 = .ok (.iconst 0, 1) := by decide +kernel
theorem dX9_readCommand_15 : decode cX9_readCommand 15 = .ok (.iconst 0, 1) := by decide +kernel
theorem dX9_readCommand_16 : decode cX9_readCommand 16 = .ok (.invokevirtual 44, 3) := by decide +kernel
theorem dX9_readCommand_19 : decode cX9_readCommand 19 = .ok (.pop, 1) := by decide +kernel
theorem dX9_readCommand_20 : decode cX9_readCommand 20 = .ok (.iconst 0, 1) := by decide +kernel
theorem dX9_readCommand_21 : decode cX9_readCommand 21 = .ok (.istore_n 3, 1) := by decide +kernel
theorem dX9_readCommand_22 : decode cX9_readCommand 22 = .ok (.iconst 0, 1) := by decide +kernel
theorem dX9_readCommand_23 : decode cX9_readCommand 23 = .ok (.istore 4, 2) := by decide +kernel
theorem dX9_readCommand_25 : decode cX9_readCommand 25 = .ok (.iload 4, 2) := by decide +kernel
theorem dX9_readCommand_27 : decode cX9_readCommand 27 = .ok (.aload_n 2, 1) := by decide +kernel
theorem dX9_readCommand_28 : decode cX9_readCommand 28 = .ok (.getfield 48, 3) := by decide +kernel
theorem dX9_readCommand_31 : decode cX9_readCommand 31 = .ok (.invokevirtual 54, 3) := by decide +kernel
theorem dX9_readCommand_34 : decode cX9_readCommand 34 = .ok (.if_icmp .ge 80, 3) := by decide +kernel
theorem dX9_readCommand_37 : decode cX9_readCommand 37 = .ok (.aload_n 2, 1) := by decide +kernel
theorem dX9_readCommand_38 : decode cX9_readCommand 38 = .ok (.getfield 48, 3) := by decide +kernel
theorem dX9_readCommand_41 : decode cX9_readCommand 41 = .ok (.iload 4, 2) := by decide +kernel
theorem dX9_readCommand_43 : decode cX9_readCommand 43 = .ok (.invokevirtual 59, 3) := by decide +kernel
theorem dX9_readCommand_46 : decode cX9_readCommand 46 = .ok (.istore 5, 2) := by decide +kernel
theorem dX9_readCommand_48 : decode cX9_readCommand 48 = .ok (.iload 5, 2) := by decide +kernel
theorem dX9_readCommand_50 : decode cX9_readCommand 50 = .ok (.bipush 32, 2) := by decide +kernel
theorem dX9_readCommand_52 : decode cX9_readCommand 52 = .ok (.if_icmp .ne 14, 3) := by decide +kernel
theorem dX9_readCommand_55 : decode cX9_readCommand 55 = .ok (.aload_n 0, 1) := by decide +kernel
theorem dX9_readCommand_56 : decode cX9_readCommand 56 = .ok (.bipush 32, 2) := by decide +kernel
theorem dX9_readCommand_58 : decode cX9_readCommand 58 = .ok (.invokevirtual 36, 3) := by decide +kernel
theorem dX9_readCommand_61 : decode cX9_readCommand 61 = .ok (.ifCond .ne 47, 3) := by decide +kernel
theorem dX9_readCommand_64 : decode cX9_readCommand 64 = .ok (.iconst 0, 1) := by decide +kernel
theorem dX9_readCommand_65 : decode cX9_readCommand 65 = .ok (.ireturn, 1) := by decide +kernel
theorem dX9_readCommand_66 : decode cX9_readCommand 66 = .ok (.iload 5, 2) := by decide +kernel
theorem dX9_readCommand_68 : decode cX9_readCommand 68 = .ok (.bipush 115, 2) := by decide +kernel
theorem dX9_readCommand_70 : decode cX9_readCommand 70 = .ok (.if_icmp .ne 10, 3) := by decide +kernel
theorem dX9_readCommand_73 : decode cX9_readCommand 73 = .ok (.aload_n 0, 1) := by decide +kernel
theorem dX9_readCommand_74 : decode cX9_readCommand 74 = .ok (.invokevirtual 63, 3) := by decide +kernel
theorem dX9_readCommand_77 : decode cX9_readCommand 77 = .ok (.goto 12, 3) := by decide +kernel
theorem dX9_readCommand_80 : decode cX9_readCommand 80 = .ok (.aload_n 0, 1) := by decide +kernel
theorem dX9_readCommand_81 : decode cX9_readCommand 81 = .ok (.iload 5, 2) := by decide +kernel
theorem dX9_readCommand_83 : decode cX9_readCommand 83 = .ok (.bipush 48, 2) := by decide +kernel
theorem dX9_readCommand_85 : decode cX9_readCommand 85 = .ok (.isub, 1) := by decide +kernel
theorem dX9_readCommand_86 : decode cX9_readCommand 86 = .ok (.invokevirtual 66, 3) := by decide +kernel
theorem dX9_readCommand_89 : decode cX9_readCommand 89 = .ok (.istore 6, 2) := by decide +kernel
theorem dX9_readCommand_91 : decode cX9_readCommand 91 = .ok (.iload 6, 2) := by decide +kernel
theorem dX9_readCommand_93 : decode cX9_readCommand 93 = .ok (.ifCond .ge 5, 3) := by decide +kernel
theorem dX9_readCommand_96 : decode cX9_readCommand 96 = .ok (.iconst 0, 1) := by decide +kernel
theorem dX9_readCommand_97 : decode cX9_readCommand 97 = .ok (.ireturn, 1) := by decide +kernel
theorem dX9_readCommand_98 : decode cX9_readCommand 98 = .ok (.aload_n 1, 1) := by decide +kernel
theorem dX9_readCommand_99 : decode cX9_readCommand 99 = .ok (.iload_n 3, 1) := by decide +kernel
theorem dX9_readCommand_100 : decode cX9_readCommand 100 = .ok (.iload 6, 2) := by decide +kernel
theorem dX9_readCommand_102 : decode cX9_readCommand 102 = .ok (.invokevirtual 70, 3) := by decide +kernel
theorem dX9_readCommand_105 : decode cX9_readCommand 105 = .ok (.iinc 3 1, 3) := by decide +kernel
theorem dX9_readCommand_108 : decode cX9_readCommand 108 = .ok (.iinc 4 1, 3) := by decide +kernel
theorem dX9_readCommand_111 : decode cX9_readCommand 111 = .ok (.goto (-86), 3) := by decide +kernel
theorem dX9_readCommand_114 : decode cX9_readCommand 114 = .ok (.iconst 1, 1) := by decide +kernel
theorem dX9_readCommand_115 : decode cX9_readCommand 115 = .ok (.ireturn, 1) := by decide +kernel
theorem dX9_readWord_0 : decode cX9_readWord 0 = .ok (.iconst 0, 1) := by decide +kernel
theorem dX9_readWord_1 : decode cX9_readWord 1 = .ok (.istore_n 1, 1) := by decide +kernel
theorem dX9_readWord_2 : decode cX9_readWord 2 = .ok (.iconst 0, 1) := by decide +kernel
theorem dX9_readWord_3 : decode cX9_readWord 3 = .ok (.istore_n 2, 1) := by decide +kernel
theorem dX9_readWord_4 : decode cX9_readWord 4 = .ok (.iload_n 2, 1) := by decide +kernel
theorem dX9_readWord_5 : decode cX9_readWord 5 = .ok (.getstatic 74, 3) := by decide +kernel
theorem dX9_readWord_8 : decode cX9_readWord 8 = .ok (.arraylength, 1) := by decide +kernel
theorem dX9_readWord_9 : decode cX9_readWord 9 = .ok (.if_icmp .ge 59, 3) := by decide +kernel
theorem dX9_readWord_12 : decode cX9_readWord 12 = .ok (.aload_n 0, 1) := by decide +kernel
theorem dX9_readWord_13 : decode cX9_readWord 13 = .ok (.getstatic 74, 3) := by decide +kernel
theorem dX9_readWord_16 : decode cX9_readWord 16 = .ok (.iload_n 2, 1) := by decide +kernel
theorem dX9_readWord_17 : decode cX9_readWord 17 = .ok (.aaload, 1) := by decide +kernel
theorem dX9_readWord_18 : decode cX9_readWord 18 = .ok (.getfield 78, 3) := by decide +kernel
theorem dX9_readWord_21 : decode cX9_readWord 21 = .ok (.invokevirtual 81, 3) := by decide +kernel
theorem dX9_readWord_24 : decode cX9_readWord 24 = .ok (.istore_n 3, 1) := by decide +kernel
theorem dX9_readWord_25 : decode cX9_readWord 25 = .ok (.iload_n 3, 1) := by decide +kernel
theorem dX9_readWord_26 : decode cX9_readWord 26 = .ok (.getstatic 74, 3) := by decide +kernel
theorem dX9_readWord_29 : decode cX9_readWord 29 = .ok (.iload_n 2, 1) := by decide +kernel
theorem dX9_readWord_30 : decode cX9_readWord 30 = .ok (.aaload, 1) := by decide +kernel
theorem dX9_readWord_31 : decode cX9_readWord 31 = .ok (.getfield 78, 3) := by decide +kernel
theorem dX9_readWord_34 : decode cX9_readWord 34 = .ok (.invokevirtual 54, 3) := by decide +kernel
theorem dX9_readWord_37 : decode cX9_readWord 37 = .ok (.if_icmp .ne 19, 3) := by decide +kernel
theorem dX9_readWord_40 : decode cX9_readWord 40 = .ok (.aload_n 0, 1) := by decide +kernel
theorem dX9_readWord_41 : decode cX9_readWord 41 = .ok (.dup, 1) := by decide +kernel
theorem dX9_readWord_42 : decode cX9_readWord 42 = .ok (.getfield 26, 3) := by decide +kernel
theorem dX9_readWord_45 : decode cX9_readWord 45 = .ok (.iload_n 3, 1) := by decide +kernel
theorem dX9_readWord_46 : decode cX9_readWord 46 = .ok (.iadd, 1) := by decide +kernel
theorem dX9_readWord_47 : decode cX9_readWord 47 = .ok (.putfield 26, 3) := by decide +kernel
theorem dX9_readWord_50 : decode cX9_readWord 50 = .ok (.getstatic 74, 3) := by decide +kernel
theorem dX9_readWord_53 : decode cX9_readWord 53 = .ok (.iload_n 2, 1) := by decide +kernel
theorem dX9_readWord_54 : decode cX9_readWord 54 = .ok (.aaload, 1) := by decide +kernel
theorem dX9_readWord_55 : decode cX9_readWord 55 = .ok (.areturn, 1) := by decide +kernel
theorem dX9_readWord_56 : decode cX9_readWord 56 = .ok (.iload_n 1, 1) := by decide +kernel
theorem dX9_readWord_57 : decode cX9_readWord 57 = .ok (.iload_n 3, 1) := by decide +kernel
theorem dX9_readWord_58 : decode cX9_readWord 58 = .ok (.invokestatic 85, 3) := by decide +kernel
theorem dX9_readWord_61 : decode cX9_readWord 61 = .ok (.istore_n 1, 1) := by decide +kernel
theorem dX9_readWord_62 : decode cX9_readWord 62 = .ok (.iinc 2 1, 3) := by decide +kernel
theorem dX9_readWord_65 : decode cX9_readWord 65 = .ok (.goto (-61), 3) := by decide +kernel
theorem dX9_readWord_68 : decode cX9_readWord 68 = .ok (.aload_n 0, 1) := by decide +kernel
theorem dX9_readWord_69 : decode cX9_readWord 69 = .ok (.dup, 1) := by decide +kernel
theorem dX9_readWord_70 : decode cX9_readWord 70 = .ok (.getfield 26, 3) := by decide +kernel
theorem dX9_readWord_73 : decode cX9_readWord 73 = .ok (.iload_n 1, 1) := by decide +kernel
theorem dX9_readWord_74 : decode cX9_readWord 74 = .ok (.iadd, 1) := by decide +kernel
theorem dX9_readWord_75 : decode cX9_readWord 75 = .ok (.putfield 26, 3) := by decide +kernel
theorem dX9_readWord_78 : decode cX9_readWord 78 = .ok (.aconst_null, 1) := by decide +kernel
theorem dX9_readWord_79 : decode cX9_readWord 79 = .ok (.areturn, 1) := by decide +kernel
theorem dX9_countSame_0 : decode cX9_countSame 0 = .ok (.iconst 0, 1) := by decide +kernel
theorem dX9_countSame_1 : decode cX9_countSame 1 = .ok (.istore_n 2, 1) := by decide +kernel
theorem dX9_countSame_2 : decode cX9_countSame 2 = .ok (.iload_n 2, 1) := by decide +kernel
theorem dX9_countSame_3 : decode cX9_countSame 3 = .ok (.aload_n 1, 1) := by decide +kernel
theorem dX9_countSame_4 : decode cX9_countSame 4 = .ok (.invokevirtual 54, 3) := by decide +kernel
theorem dX9_countSame_7 : decode cX9_countSame 7 = .ok (.if_icmp .ge 41, 3) := by decide +kernel
theorem dX9_countSame_10 : decode cX9_countSame 10 = .ok (.aload_n 0, 1) := by decide +kernel
theorem dX9_countSame_11 : decode cX9_countSame 11 = .ok (.getfield 26, 3) := by decide +kernel
theorem dX9_countSame_14 : decode cX9_countSame 14 = .ok (.iload_n 2, 1) := by decide +kernel
theorem dX9_countSame_15 : decode cX9_countSame 15 = .ok (.iadd, 1) := by decide +kernel
theorem dX9_countSame_16 : decode cX9_countSame 16 = .ok (.aload_n 0, 1) := by decide +kernel
theorem dX9_countSame_17 : decode cX9_countSame 17 = .ok (.getfield 22, 3) := by decide +kernel
theorem dX9_countSame_20 : decode cX9_countSame 20 = .ok (.if_icmp .ge 28, 3) := by decide +kernel
theorem dX9_countSame_23 : decode cX9_countSame 23 = .ok (.aload_n 1, 1) := by decide +kernel
theorem dX9_countSame_24 : decode cX9_countSame 24 = .ok (.iload_n 2, 1) := by decide +kernel
theorem dX9_countSame_25 : decode cX9_countSame 25 = .ok (.invokevirtual 59, 3) := by decide +kernel
theorem dX9_countSame_28 : decode cX9_countSame 28 = .ok (.aload_n 0, 1) := by decide +kernel
theorem dX9_countSame_29 : decode cX9_countSame 29 = .ok (.getfield 9, 3) := by decide +kernel
theorem dX9_countSame_32 : decode cX9_countSame 32 = .ok (.aload_n 0, 1) := by decide +kernel
theorem dX9_countSame_33 : decode cX9_countSame 33 = .ok (.getfield 26, 3) := by decide +kernel
theorem dX9_countSame_36 : decode cX9_countSame 36 = .ok (.iload_n 2, 1) := by decide +kernel
theorem dX9_countSame_37 : decode cX9_countSame 37 = .ok (.iadd, 1) := by decide +kernel
theorem dX9_countSame_38 : decode cX9_countSame 38 = .ok (.caload, 1) := by decide +kernel
theorem dX9_countSame_39 : decode cX9_countSame 39 = .ok (.if_icmp .ne 9, 3) := by decide +kernel
theorem dX9_countSame_42 : decode cX9_countSame 42 = .ok (.iinc 2 1, 3) := by decide +kernel
theorem dX9_countSame_45 : decode cX9_countSame 45 = .ok (.goto (-43), 3) := by decide +kernel
theorem dX9_countSame_48 : decode cX9_countSame 48 = .ok (.iload_n 2, 1) := by decide +kernel
theorem dX9_countSame_49 : decode cX9_countSame 49 = .ok (.ireturn, 1) := by decide +kernel
theorem dX9_readDigits_0 : decode cX9_readDigits 0 = .ok (.iconst 0, 1) := by decide +kernel
theorem dX9_readDigits_1 : decode cX9_readDigits 1 = .ok (.istore_n 2, 1) := by decide +kernel
theorem dX9_readDigits_2 : decode cX9_readDigits 2 = .ok (.iconst 0, 1) := by decide +kernel
theorem dX9_readDigits_3 : decode cX9_readDigits 3 = .ok (.istore_n 3, 1) := by decide +kernel
theorem dX9_readDigits_4 : decode cX9_readDigits 4 = .ok (.iload_n 3, 1) := by decide +kernel
theorem dX9_readDigits_5 : decode cX9_readDigits 5 = .ok (.iload_n 1, 1) := by decide +kernel
theorem dX9_readDigits_6 : decode cX9_readDigits 6 = .ok (.if_icmp .ge 44, 3) := by decide +kernel
theorem dX9_readDigits_9 : decode cX9_readDigits 9 = .ok (.aload_n 0, 1) := by decide +kernel
theorem dX9_readDigits_10 : decode cX9_readDigits 10 = .ok (.invokevirtual 91, 3) := by decide +kernel
theorem dX9_readDigits_13 : decode cX9_readDigits 13 = .ok (.ifCond .eq 37, 3) := by decide +kernel
theorem dX9_readDigits_16 : decode cX9_readDigits 16 = .ok (.iload_n 2, 1) := by decide +kernel
theorem dX9_readDigits_17 : decode cX9_readDigits 17 = .ok (.bipush 10, 2) := by decide +kernel
theorem dX9_readDigits_19 : decode cX9_readDigits 19 = .ok (.imul, 1) := by decide +kernel
theorem dX9_readDigits_20 : decode cX9_readDigits 20 = .ok (.aload_n 0, 1) := by decide +kernel
theorem dX9_readDigits_21 : decode cX9_readDigits 21 = .ok (.getfield 9, 3) := by decide +kernel
theorem dX9_readDigits_24 : decode cX9_readDigits 24 = .ok (.aload_n 0, 1) := by decide +kernel
theorem dX9_readDigits_25 : decode cX9_readDigits 25 = .ok (.getfield 26, 3) := by decide +kernel
theorem dX9_readDigits_28 : decode cX9_readDigits 28 = .ok (.caload, 1) := by decide +kernel
theorem dX9_readDigits_29 : decode cX9_readDigits 29 = .ok (.bipush 48, 2) := by decide +kernel
theorem dX9_readDigits_31 : decode cX9_readDigits 31 = .ok (.isub, 1) := by decide +kernel
theorem dX9_readDigits_32 : decode cX9_readDigits 32 = .ok (.iadd, 1) := by decide +kernel
theorem dX9_readDigits_33 : decode cX9_readDigits 33 = .ok (.istore_n 2, 1) := by decide +kernel
theorem dX9_readDigits_34 : decode cX9_readDigits 34 = .ok (.aload_n 0, 1) := by decide +kernel
theorem dX9_readDigits_35 : decode cX9_readDigits 35 = .ok (.dup, 1) := by decide +kernel
theorem dX9_readDigits_36 : decode cX9_readDigits 36 = .ok (.getfield 26, 3) := by decide +kernel
theorem dX9_readDigits_39 : decode cX9_readDigits 39 = .ok (.iconst 1, 1) := by decide +kernel
theorem dX9_readDigits_40 : decode cX9_readDigits 40 = .ok (.iadd, 1) := by decide +kernel
theorem dX9_readDigits_41 : decode cX9_readDigits 41 = .ok (.putfield 26, 3) := by decide +kernel
theorem dX9_readDigits_44 : decode cX9_readDigits 44 = .ok (.iinc 3 1, 3) := by decide +kernel
theorem dX9_readDigits_47 : decode cX9_readDigits 47 = .ok (.goto (-43), 3) := by decide +kernel
theorem dX9_readDigits_50 : decode cX9_readDigits 50 = .ok (.iload_n 3, 1) := by decide +kernel
theorem dX9_readDigits_51 : decode cX9_readDigits 51 = .ok (.ifCond .ne 7, 3) := by decide +kernel
theorem dX9_readDigits_54 : decode cX9_readDigits 54 = .ok (.iconst (-1), 1) := by decide +kernel
theorem dX9_readDigits_55 : decode cX9_readDigits 55 = .ok (.goto 4, 3) := by decide +kernel
theorem dX9_readDigits_58 : decode cX9_readDigits 58 = .ok (.iload_n 2, 1) := by decide +kernel
theorem dX9_readDigits_59 : decode cX9_readDigits 59 = .ok (.ireturn, 1) := by decide +kernel
theorem dX9_digitIsNext_0 : decode cX9_digitIsNext 0 = .ok (.aload_n 0, 1) := by decide +kernel
theorem dX9_digitIsNext_1 : decode cX9_digitIsNext 1 = .ok (.getfield 26, 3) := by decide +kernel
theorem dX9_digitIsNext_4 : decode cX9_digitIsNext 4 = .ok (.aload_n 0, 1) := by decide +kernel
theorem dX9_digitIsNext_5 : decode cX9_digitIsNext 5 = .ok (.getfield 22, 3) := by decide +kernel
theorem dX9_digitIsNext_8 : decode cX9_digitIsNext 8 = .ok (.if_icmp .ge 35, 3) := by decide +kernel
theorem dX9_digitIsNext_11 : decode cX9_digitIsNext 11 = .ok (.aload_n 0, 1) := by decide +kernel
theorem dX9_digitIsNext_12 : decode cX9_digitIsNext 12 = .ok (.getfield 9, 3) := by decide +kernel
theorem dX9_digitIsNext_15 : decode cX9_digitIsNext 15 = .ok (.aload_n 0, 1) := by decide +kernel
theorem dX9_digitIsNext_16 : decode cX9_digitIsNext 16 = .ok (.getfield 26, 3) := by decide +kernel
theorem dX9_digitIsNext_19 : decode cX9_digitIsNext 19 = .ok (.caload, 1) := by decide +kernel
theorem dX9_digitIsNext_20 : decode cX9_digitIsNext 20 = .ok (.bipush 48, 2) := by decide +kernel
theorem dX9_digitIsNext_22 : decode cX9_digitIsNext 22 = .ok (.if_icmp .lt 21, 3) := by decide +kernel
theorem dX9_digitIsNext_25 : decode cX9_digitIsNext 25 = .ok (.aload_n 0, 1) := by decide +kernel
theorem dX9_digitIsNext_26 : decode cX9_digitIsNext 26 = .ok (.getfield 9, 3) := by decide +kernel
theorem dX9_digitIsNext_29 : decode cX9_digitIsNext 29 = .ok (.aload_n 0, 1) := by decide +kernel
theorem dX9_digitIsNext_30 : decode cX9_digitIsNext 30 = .ok (.getfield 26, 3) := by decide +kernel
theorem dX9_digitIsNext_33 : decode cX9_digitIsNext 33 = .ok (.caload, 1) := by decide +kernel
theorem dX9_digitIsNext_34 : decode cX9_digitIsNext 34 = .ok (.bipush 57, 2) := by decide +kernel
theorem dX9_digitIsNext_36 : decode cX9_digitIsNext 36 = .ok (.if_icmp .gt 7, 3) := by decide +kernel
theorem dX9_digitIsNext_39 : decode cX9_digitIsNext 39 = .ok (.iconst 1, 1) := by decide +kernel
theorem dX9_digitIsNext_40 : decode cX9_digitIsNext 40 = .ok (.goto 4, 3) := by decide +kernel
theorem dX9_digitIsNext_43 : decode cX9_digitIsNext 43 = .ok (.iconst 0, 1) := by decide +kernel
theorem dX9_digitIsNext_44 : decode cX9_digitIsNext 44 = .ok (.ireturn, 1) := by decide +kernel
theorem dX9_readSide_0 : decode cX9_readSide 0 = .ok (.aload_n 0, 1) := by decide +kernel
theorem dX9_readSide_1 : decode cX9_readSide 1 = .ok (.bipush 108, 2) := by decide +kernel
theorem dX9_readSide_3 : decode cX9_readSide 3 = .ok (.invokevirtual 36, 3) := by decide +kernel
theorem dX9_readSide_6 : decode cX9_readSide 6 = .ok (.ifCond .eq 6, 3) := by decide +kernel
theorem dX9_readSide_9 : decode cX9_readSide 9 = .ok (.bipush 108, 2) := by decide +kernel
theorem dX9_readSide_11 : decode cX9_readSide 11 = .ok (.ireturn, 1) := by decide +kernel
theorem dX9_readSide_12 : decode cX9_readSide 12 = .ok (.aload_n 0, 1) := by decide +kernel
theorem dX9_readSide_13 : decode cX9_readSide 13 = .ok (.bipush 114, 2) := by decide +kernel
theorem dX9_readSide_15 : decode cX9_readSide 15 = .ok (.invokevirtual 36, 3) := by decide +kernel
theorem dX9_readSide_18 : decode cX9_readSide 18 = .ok (.ifCond .eq 8, 3) := by decide +kernel
theorem dX9_readSide_21 : decode cX9_readSide 21 = .ok (.bipush 114, 2) := by decide +kernel
theorem dX9_readSide_23 : decode cX9_readSide 23 = .ok (.goto 4, 3) := by decide +kernel
theorem dX9_readSide_26 : decode cX9_readSide 26 = .ok (.iconst (-1), 1) := by decide +kernel
theorem dX9_readSide_27 : decode cX9_readSide 27 = .ok (.ireturn, 1) := by decide +kernel
theorem dX9_readSign_0 : decode cX9_readSign 0 = .ok (.aload_n 0, 1) := by decide +kernel
theorem dX9_readSign_1 : decode cX9_readSign 1 = .ok (.getfield 26, 3) := by decide +kernel
theorem dX9_readSign_4 : decode cX9_readSign 4 = .ok (.aload_n 0, 1) := by decide +kernel
theorem dX9_readSign_5 : decode cX9_readSign 5 = .ok (.getfield 22, 3) := by decide +kernel
theorem dX9_readSign_8 : decode cX9_readSign 8 = .ok (.if_icmp .ge 28, 3) := by decide +kernel
theorem dX9_readSign_11 : decode cX9_readSign 11 = .ok (.aload_n 0, 1) := by decide +kernel
theorem dX9_readSign_12 : decode cX9_readSign 12 = .ok (.getfield 9, 3) := by decide +kernel
theorem dX9_readSign_15 : decode cX9_readSign 15 = .ok (.aload_n 0, 1) := by decide +kernel
theorem dX9_readSign_16 : decode cX9_readSign 16 = .ok (.getfield 26, 3) := by decide +kernel
theorem dX9_readSign_19 : decode cX9_readSign 19 = .ok (.caload, 1) := by decide +kernel
theorem dX9_readSign_20 : decode cX9_readSign 20 = .ok (.iload_n 1, 1) := by decide +kernel
theorem dX9_readSign_21 : decode cX9_readSign 21 = .ok (.if_icmp .ne 15, 3) := by decide +kernel
theorem dX9_readSign_24 : decode cX9_readSign 24 = .ok (.aload_n 0, 1) := by decide +kernel
theorem dX9_readSign_25 : decode cX9_readSign 25 = .ok (.dup, 1) := by decide +kernel
theorem dX9_readSign_26 : decode cX9_readSign 26 = .ok (.getfield 26, 3) := by decide +kernel
theorem dX9_readSign_29 : decode cX9_readSign 29 = .ok (.iconst 1, 1) := by decide +kernel
theorem dX9_readSign_30 : decode cX9_readSign 30 = .ok (.iadd, 1) := by decide +kernel
theorem dX9_readSign_31 : decode cX9_readSign 31 = .ok (.putfield 26, 3) := by decide +kernel
theorem dX9_readSign_34 : decode cX9_readSign 34 = .ok (.iconst 1, 1) := by decide +kernel
theorem dX9_readSign_35 : decode cX9_readSign 35 = .ok (.ireturn, 1) := by decide +kernel
theorem dX9_readSign_36 : decode cX9_readSign 36 = .ok (.iconst 0, 1) := by decide +kernel
theorem dX9_readSign_37 : decode cX9_readSign 37 = .ok (.ireturn, 1) := by decide +kernel
theorem dX10_init_0 : decode cX10_init 0 = .ok (.aload_n 0, 1) := by decide +kernel
theorem dX10_init_1 : decode cX10_init 1 = .ok (.invokespecial 3, 3) := by decide +kernel
theorem dX10_init_4 : decode cX10_init 4 = .ok (.aload_n 0, 1) := by decide +kernel
theorem dX10_init_5 : decode cX10_init 5 = .ok (.bipush 8, 2) := by decide +kernel
theorem dX10_init_7 : decode cX10_init 7 = .ok (.newarray .int, 2) := by decide +kernel
theorem dX10_init_9 : decode cX10_init 9 = .ok (.putfield 9, 3) := by decide +kernel
theorem dX10_init_12 : decode cX10_init 12 = .ok (.aload_n 0, 1) := by decide +kernel
theorem dX10_init_13 : decode cX10_init 13 = .ok (.bipush 8, 2) := by decide +kernel
theorem dX10_init_15 : decode cX10_init 15 = .ok (.newarray .int, 2) := by decide +kernel
theorem dX10_init_17 : decode cX10_init 17 = .ok (.putfield 15, 3) := by decide +kernel
theorem dX10_init_20 : decode cX10_init 20 = .ok (.aload_n 0, 1) := by decide +kernel
theorem dX10_init_21 : decode cX10_init 21 = .ok (.bipush 8, 2) := by decide +kernel
theorem dX10_init_23 : decode cX10_init 23 = .ok (.newarray .int, 2) := by decide +kernel
theorem dX10_init_25 : decode cX10_init 25 = .ok (.putfield 18, 3) := by decide +kernel
theorem dX10_init_28 : decode cX10_init 28 = .ok (.aload_n 0, 1) := by decide +kernel
theorem dX10_init_29 : decode cX10_init 29 = .ok (.bipush 8, 2) := by decide +kernel
theorem dX10_init_31 : decode cX10_init 31 = .ok (.newarray .boolean, 2) := by decide +kernel
theorem dX10_init_33 : decode cX10_init 33 = .ok (.putfield 21, 3) := by decide +kernel
theorem dX10_init_36 : decode cX10_init 36 = .ok (.return_, 1) := by decide +kernel
theorem dX10_copyFrom_0 : decode cX10_copyFrom 0 = .ok (.iconst 0, 1) := by decide +kernel
theorem dX10_copyFrom_1 : decode cX10_copyFrom 1 = .ok (.istore_n 2, 1) := by decide +kernel
theorem dX10_copyFrom_2 : decode cX10_copyFrom 2 = .ok (.iload_n 2, 1) := by decide +kernel
theorem dX10_copyFrom_3 : decode cX10_copyFrom 3 = .ok (.bipush 8, 2) := by decide +kernel
theorem dX10_copyFrom_5 : decode cX10_copyFrom 5 = .ok (.if_icmp .ge 57, 3) := by decide +kernel
theorem dX10_copyFrom_8 : decode cX10_copyFrom 8 = .ok (.aload_n 0, 1) := by decide +kernel
theorem dX10_copyFrom_9 : decode cX10_copyFrom 9 = .ok (.getfield 9, 3) := by decide +kernel
theorem dX10_copyFrom_12 : decode cX10_copyFrom 12 = .ok (.iload_n 2, 1) := by decide +kernel
theorem dX10_copyFrom_13 : decode cX10_copyFrom 13 = .ok (.aload_n 1, 1) := by decide +kernel
theorem dX10_copyFrom_14 : decode cX10_copyFrom 14 = .ok (.getfield 9, 3) := by decide +kernel
theorem dX10_copyFrom_17 : decode cX10_copyFrom 17 = .ok (.iload_n 2, 1) := by decide +kernel
theorem dX10_copyFrom_18 : decode cX10_copyFrom 18 = .ok (.iaload, 1) := by decide +kernel
theorem dX10_copyFrom_19 : decode cX10_copyFrom 19 = .ok (.iastore, 1) := by decide +kernel
theorem dX10_copyFrom_20 : decode cX10_copyFrom 20 = .ok (.aload_n 0, 1) := by decide +kernel
theorem dX10_copyFrom_21 : decode cX10_copyFrom 21 = .ok (.getfield 15, 3) := by decide +kernel
theorem dX10_copyFrom_24 : decode cX10_copyFrom 24 = .ok (.iload_n 2, 1) := by decide +kernel
theorem dX10_copyFrom_25 : decode cX10_copyFrom 25 = .ok (.aload_n 1, 1) := by decide +kernel
theorem dX10_copyFrom_26 : decode cX10_copyFrom 26 = .ok (.getfield 15, 3) := by decide +kernel
theorem dX10_copyFrom_29 : decode cX10_copyFrom 29 = .ok (.iload_n 2, 1) := by decide +kernel
theorem dX10_copyFrom_30 : decode cX10_copyFrom 30 = .ok (.iaload, 1) := by decide +kernel
theorem dX10_copyFrom_31 : decode cX10_copyFrom 31 = .ok (.iastore, 1) := by decide +kernel
theorem dX10_copyFrom_32 : decode cX10_copyFrom 32 = .ok (.aload_n 0, 1) := by decide +kernel
theorem dX10_copyFrom_33 : decode cX10_copyFrom 33 = .ok (.getfield 18, 3) := by decide +kernel
theorem dX10_copyFrom_36 : decode cX10_copyFrom 36 = .ok (.iload_n 2, 1) := by decide +kernel
theorem dX10_copyFrom_37 : decode cX10_copyFrom 37 = .ok (.aload_n 1, 1) := by decide +kernel
theorem dX10_copyFrom_38 : decode cX10_copyFrom 38 = .ok (.getfield 18, 3) := by decide +kernel
theorem dX10_copyFrom_41 : decode cX10_copyFrom 41 = .ok (.iload_n 2, 1) := by decide +kernel
theorem dX10_copyFrom_42 : decode cX10_copyFrom 42 = .ok (.iaload, 1) := by decide +kernel
theorem dX10_copyFrom_43 : decode cX10_copyFrom 43 = .ok (.iastore, 1) := by decide +kernel
theorem dX10_copyFrom_44 : decode cX10_copyFrom 44 = .ok (.aload_n 0, 1) := by decide +kernel
theorem dX10_copyFrom_45 : decode cX10_copyFrom 45 = .ok (.getfield 21, 3) := by decide +kernel
theorem dX10_copyFrom_48 : decode cX10_copyFrom 48 = .ok (.iload_n 2, 1) := by decide +kernel
theorem dX10_copyFrom_49 : decode cX10_copyFrom 49 = .ok (.aload_n 1, 1) := by decide +kernel
theorem dX10_copyFrom_50 : decode cX10_copyFrom 50 = .ok (.getfield 21, 3) := by decide +kernel
theorem dX10_copyFrom_53 : decode cX10_copyFrom 53 = .ok (.iload_n 2, 1) := by decide +kernel
theorem dX10_copyFrom_54 : decode cX10_copyFrom 54 = .ok (.baload, 1) := by decide +kernel
theorem dX10_copyFrom_55 : decode cX10_copyFrom 55 = .ok (.bastore, 1) := by decide +kernel
theorem dX10_copyFrom_56 : decode cX10_copyFrom 56 = .ok (.iinc 2 1, 3) := by decide +kernel
theorem dX10_copyFrom_59 : decode cX10_copyFrom 59 = .ok (.goto (-57), 3) := by decide +kernel
theorem dX10_copyFrom_62 : decode cX10_copyFrom 62 = .ok (.aload_n 0, 1) := by decide +kernel
theorem dX10_copyFrom_63 : decode cX10_copyFrom 63 = .ok (.aload_n 1, 1) := by decide +kernel
theorem dX10_copyFrom_64 : decode cX10_copyFrom 64 = .ok (.getfield 25, 3) := by decide +kernel
theorem dX10_copyFrom_67 : decode cX10_copyFrom 67 = .ok (.putfield 25, 3) := by decide +kernel
theorem dX10_copyFrom_70 : decode cX10_copyFrom 70 = .ok (.return_, 1) := by decide +kernel
theorem dX10_has_0 : decode cX10_has 0 = .ok (.iload_n 1, 1) := by decide +kernel
theorem dX10_has_1 : decode cX10_has 1 = .ok (.ifCond .lt 15, 3) := by decide +kernel
theorem dX10_has_4 : decode cX10_has 4 = .ok (.iload_n 1, 1) := by decide +kernel
theorem dX10_has_5 : decode cX10_has 5 = .ok (.aload_n 0, 1) := by decide +kernel
theorem dX10_has_6 : decode cX10_has 6 = .ok (.getfield 25, 3) := by decide +kernel
theorem dX10_has_9 : decode cX10_has 9 = .ok (.if_icmp .ge 7, 3) := by decide +kernel
theorem dX10_has_12 : decode cX10_has 12 = .ok (.iconst 1, 1) := by decide +kernel
theorem dX10_has_13 : decode cX10_has 13 = .ok (.goto 4, 3) := by decide +kernel
theorem dX10_has_16 : decode cX10_has 16 = .ok (.iconst 0, 1) := by decide +kernel
theorem dX10_has_17 : decode cX10_has 17 = .ok (.ireturn, 1) := by decide +kernel
theorem dX10_place_0 : decode cX10_place 0 = .ok (.aload_n 0, 1) := by decide +kernel
theorem dX10_place_1 : decode cX10_place 1 = .ok (.getfield 9, 3) := by decide +kernel
theorem dX10_place_4 : decode cX10_place 4 = .ok (.aload_n 0, 1) := by decide +kernel
theorem dX10_place_5 : decode cX10_place 5 = .ok (.getfield 25, 3) := by decide +kernel
theorem dX10_place_8 : decode cX10_place 8 = .ok (.iload_n 1, 1) := by decide +kernel
theorem dX10_place_9 : decode cX10_place 9 = .ok (.iastore, 1) := by decide +kernel
theorem dX10_place_10 : decode cX10_place 10 = .ok (.aload_n 0, 1) := by decide +kernel
theorem dX10_place_11 : decode cX10_place 11 = .ok (.getfield 15, 3) := by decide +kernel
theorem dX10_place_14 : decode cX10_place 14 = .ok (.aload_n 0, 1) := by decide +kernel
theorem dX10_place_15 : decode cX10_place 15 = .ok (.getfield 25, 3) := by decide +kernel
theorem dX10_place_18 : decode cX10_place 18 = .ok (.iload_n 2, 1) := by decide +kernel
theorem dX10_place_19 : decode cX10_place 19 = .ok (.iastore, 1) := by decide +kernel
theorem dX10_place_20 : decode cX10_place 20 = .ok (.aload_n 0, 1) := by decide +kernel
theorem dX10_place_21 : decode cX10_place 21 = .ok (.getfield 18, 3) := by decide +kernel
theorem dX10_place_24 : decode cX10_place 24 = .ok (.aload_n 0, 1) := by decide +kernel
theorem dX10_place_25 : decode cX10_place 25 = .ok (.getfield 25, 3) := by decide +kernel
theorem dX10_place_28 : decode cX10_place 28 = .ok (.iload_n 3, 1) := by decide +kernel
theorem dX10_place_29 : decode cX10_place 29 = .ok (.iastore, 1) := by decide +kernel
theorem dX10_place_30 : decode cX10_place 30 = .ok (.aload_n 0, 1) := by decide +kernel
theorem dX10_place_31 : decode cX10_place 31 = .ok (.getfield 21, 3) := by decide +kernel
theorem dX10_place_34 : decode cX10_place 34 = .ok (.aload_n 0, 1) := by decide +kernel
theorem dX10_place_35 : decode cX10_place 35 = .ok (.getfield 25, 3) := by decide +kernel
theorem dX10_place_38 : decode cX10_place 38 = .ok (.iconst 0, 1) := by decide +kernel
theorem dX10_place_39 : decode cX10_place 39 = .ok (.bastore, 1) := by decide +kernel
theorem dX10_place_40 : decode cX10_place 40 = .ok (.aload_n 0, 1) := by decide +kernel
theorem dX10_place_41 : decode cX10_place 41 = .ok (.dup, 1) := by decide +kernel
theorem dX10_place_42 : decode cX10_place 42 = .ok (.getfield 25, 3) := by decide +kernel
theorem dX10_place_45 : decode cX10_place 45 = .ok (.iconst 1, 1) := by decide +kernel
theorem dX10_place_46 : decode cX10_place 46 = .ok (.iadd, 1) := by decide +kernel
theorem dX10_place_47 : decode cX10_place 47 = .ok (.putfield 25, 3) := by decide +kernel
theorem dX10_place_50 : decode cX10_place 50 = .ok (.aload_n 0, 1) := by decide +kernel
theorem dX10_place_51 : decode cX10_place 51 = .ok (.getfield 25, 3) := by decide +kernel
theorem dX10_place_54 : decode cX10_place 54 = .ok (.iconst 1, 1) := by decide +kernel
theorem dX10_place_55 : decode cX10_place 55 = .ok (.isub, 1) := by decide +kernel
theorem dX10_place_56 : decode cX10_place 56 = .ok (.ireturn, 1) := by decide +kernel
theorem dX10_setLit_0 : decode cX10_setLit 0 = .ok (.aload_n 0, 1) := by decide +kernel
theorem dX10_setLit_1 : decode cX10_setLit 1 = .ok (.getfield 21, 3) := by decide +kernel
theorem dX10_setLit_4 : decode cX10_setLit 4 = .ok (.iload_n 1, 1) := by decide +kernel
theorem dX10_setLit_5 : decode cX10_setLit 5 = .ok (.iload_n 2, 1) := by decide +kernel
theorem dX10_setLit_6 : decode cX10_setLit 6 = .ok (.bastore, 1) := by decide +kernel
theorem dX10_setLit_7 : decode cX10_setLit 7 = .ok (.aload_n 0, 1) := by decide +kernel
theorem dX10_setLit_8 : decode cX10_setLit 8 = .ok (.invokevirtual 29, 3) := by decide +kernel
theorem dX10_setLit_11 : decode cX10_setLit 11 = .ok (.ireturn, 1) := by decide +kernel
theorem dX10_pour_0 : decode cX10_pour 0 = .ok (.aload_n 0, 1) := by decide +kernel
theorem dX10_pour_1 : decode cX10_pour 1 = .ok (.getfield 18, 3) := by decide +kernel
theorem dX10_pour_4 : decode cX10_pour 4 = .ok (.iload_n 1, 1) := by decide +kernel
theorem dX10_pour_5 : decode cX10_pour 5 = .ok (.dup2, 1) := by decide +kernel
theorem dX10_pour_6 : decode cX10_pour 6 = .ok (.iaload, 1) := by decide +kernel
theorem dX10_pour_7 : decode cX10_pour 7 = .ok (.iload_n 2, 1) := by decide +kernel
theorem dX10_pour_8 : decode cX10_pour 8 = .ok (.iadd, 1) := by decide +kernel
theorem dX10_pour_9 : decode cX10_pour 9 = .ok (.iastore, 1) := by decide +kernel
theorem dX10_pour_10 : decode cX10_pour 10 = .ok (.aload_n 0, 1) := by decide +kernel
theorem dX10_pour_11 : decode cX10_pour 11 = .ok (.getfield 18, 3) := by decide +kernel
theorem dX10_pour_14 : decode cX10_pour 14 = .ok (.iload_n 1, 1) := by decide +kernel
theorem dX10_pour_15 : decode cX10_pour 15 = .ok (.iaload, 1) := by decide +kernel
theorem dX10_pour_16 : decode cX10_pour 16 = .ok (.ireturn, 1) := by decide +kernel
theorem dX10_countLit_0 : decode cX10_countLit 0 = .ok (.iconst 0, 1) := by decide +kernel
theorem dX10_countLit_1 : decode cX10_countLit 1 = .ok (.istore_n 1, 1) := by decide +kernel
theorem dX10_countLit_2 : decode cX10_countLit 2 = .ok (.iconst 0, 1) := by decide +kernel
theorem dX10_countLit_3 : decode cX10_countLit 3 = .ok (.istore_n 2, 1) := by decide +kernel
theorem dX10_countLit_4 : decode cX10_countLit 4 = .ok (.iload_n 2, 1) := by decide +kernel
theorem dX10_countLit_5 : decode cX10_countLit 5 = .ok (.aload_n 0, 1) := by decide +kernel
theorem dX10_countLit_6 : decode cX10_countLit 6 = .ok (.getfield 25, 3) := by decide +kernel
theorem dX10_countLit_9 : decode cX10_countLit 9 = .ok (.if_icmp .ge 21, 3) := by decide +kernel
theorem dX10_countLit_12 : decode cX10_countLit 12 = .ok (.aload_n 0, 1) := by decide +kernel
theorem dX10_countLit_13 : decode cX10_countLit 13 = .ok (.getfield 21, 3) := by decide +kernel
theorem dX10_countLit_16 : decode cX10_countLit 16 = .ok (.iload_n 2, 1) := by decide +kernel
theorem dX10_countLit_17 : decode cX10_countLit 17 = .ok (.baload, 1) := by decide +kernel
theorem dX10_countLit_18 : decode cX10_countLit 18 = .ok (.ifCond .eq 6, 3) := by decide +kernel
theorem dX10_countLit_21 : decode cX10_countLit 21 = .ok (.iinc 1 1, 3) := by decide +kernel
theorem dX10_countLit_24 : decode cX10_countLit 24 = .ok (.iinc 2 1, 3) := by decide +kernel
theorem dX10_countLit_27 : decode cX10_countLit 27 = .ok (.goto (-23), 3) := by decide +kernel
theorem dX10_countLit_30 : decode cX10_countLit 30 = .ok (.iload_n 1, 1) := by decide +kernel
theorem dX10_countLit_31 : decode cX10_countLit 31 = .ok (.ireturn, 1) := by decide +kernel
theorem dX10_pattern_0 : decode cX10_pattern 0 = .ok (.iconst 0, 1) := by decide +kernel
theorem dX10_pattern_1 : decode cX10_pattern 1 = .ok (.istore_n 1, 1) := by decide +kernel
theorem dX10_pattern_2 : decode cX10_pattern 2 = .ok (.iconst 0, 1) := by decide +kernel
theorem dX10_pattern_3 : decode cX10_pattern 3 = .ok (.istore_n 2, 1) := by decide +kernel
theorem dX10_pattern_4 : decode cX10_pattern 4 = .ok (.iload_n 2, 1) := by decide +kernel
theorem dX10_pattern_5 : decode cX10_pattern 5 = .ok (.aload_n 0, 1) := by decide +kernel
theorem dX10_pattern_6 : decode cX10_pattern 6 = .ok (.getfield 25, 3) := by decide +kernel
theorem dX10_pattern_9 : decode cX10_pattern 9 = .ok (.if_icmp .ge 27, 3) := by decide +kernel
theorem dX10_pattern_12 : decode cX10_pattern 12 = .ok (.aload_n 0, 1) := by decide +kernel
theorem dX10_pattern_13 : decode cX10_pattern 13 = .ok (.getfield 21, 3) := by decide +kernel
theorem dX10_pattern_16 : decode cX10_pattern 16 = .ok (.iload_n 2, 1) := by decide +kernel
theorem dX10_pattern_17 : decode cX10_pattern 17 = .ok (.baload, 1) := by decide +kernel
theorem dX10_pattern_18 : decode cX10_pattern 18 = .ok (.ifCond .eq 12, 3) := by decide +kernel
theorem dX10_pattern_21 : decode cX10_pattern 21 = .ok (.iload_n 1, 1) := by decide +kernel
theorem dX10_pattern_22 : decode cX10_pattern 22 = .ok (.aload_n 0, 1) := by decide +kernel
theorem dX10_pattern_23 : decode cX10_pattern 23 = .ok (.getfield 15, 3) := by decide +kernel
theorem dX10_pattern_26 : decode cX10_pattern 26 = .ok (.iload_n 2, 1) := by decide +kernel
theorem dX10_pattern_27 : decode cX10_pattern 27 = .ok (.iaload, 1) := by decide +kernel
theorem dX10_pattern_28 : decode cX10_pattern 28 = .ok (.ixor, 1) := by decide +kernel
theorem dX10_pattern_29 : decode cX10_pattern 29 = .ok (.istore_n 1, 1) := by decide +kernel
theorem dX10_pattern_30 : decode cX10_pattern 30 = .ok (.iinc 2 1, 3) := by decide +kernel
theorem dX10_pattern_33 : decode cX10_pattern 33 = .ok (.goto (-29), 3) := by decide +kernel
theorem dX10_pattern_36 : decode cX10_pattern 36 = .ok (.iload_n 1, 1) := by decide +kernel
theorem dX10_pattern_37 : decode cX10_pattern 37 = .ok (.ireturn, 1) := by decide +kernel
theorem dX10_atRank_0 : decode cX10_atRank 0 = .ok (.iconst 0, 1) := by decide +kernel
theorem dX10_atRank_1 : decode cX10_atRank 1 = .ok (.istore_n 2, 1) := by decide +kernel
theorem dX10_atRank_2 : decode cX10_atRank 2 = .ok (.iload_n 2, 1) := by decide +kernel
theorem dX10_atRank_3 : decode cX10_atRank 3 = .ok (.aload_n 0, 1) := by decide +kernel
theorem dX10_atRank_4 : decode cX10_atRank 4 = .ok (.getfield 25, 3) := by decide +kernel
theorem dX10_atRank_7 : decode cX10_atRank 7 = .ok (.if_icmp .ge 20, 3) := by decide +kernel
theorem dX10_atRank_10 : decode cX10_atRank 10 = .ok (.aload_n 0, 1) := by decide +kernel
theorem dX10_atRank_11 : decode cX10_atRank 11 = .ok (.iload_n 2, 1) := by decide +kernel
theorem dX10_atRank_12 : decode cX10_atRank 12 = .ok (.invokevirtual 33, 3) := by decide +kernel
theorem dX10_atRank_15 : decode cX10_atRank 15 = .ok (.iload_n 1, 1) := by decide +kernel
theorem dX10_atRank_16 : decode cX10_atRank 16 = .ok (.if_icmp .ne 5, 3) := by decide +kernel
theorem dX10_atRank_19 : decode cX10_atRank 19 = .ok (.iload_n 2, 1) := by decide +kernel
theorem dX10_atRank_20 : decode cX10_atRank 20 = .ok (.ireturn, 1) := by decide +kernel
theorem dX10_atRank_21 : decode cX10_atRank 21 = .ok (.iinc 2 1, 3) := by decide +kernel
theorem dX10_atRank_24 : decode cX10_atRank 24 = .ok (.goto (-22), 3) := by decide +kernel
theorem dX10_atRank_27 : decode cX10_atRank 27 = .ok (.iconst 0, 1) := by decide +kernel
theorem dX10_atRank_28 : decode cX10_atRank 28 = .ok (.ireturn, 1) := by decide +kernel
theorem dX10_rankOf_0 : decode cX10_rankOf 0 = .ok (.iconst 0, 1) := by decide +kernel
theorem dX10_rankOf_1 : decode cX10_rankOf 1 = .ok (.istore_n 2, 1) := by decide +kernel
theorem dX10_rankOf_2 : decode cX10_rankOf 2 = .ok (.iconst 0, 1) := by decide +kernel
theorem dX10_rankOf_3 : decode cX10_rankOf 3 = .ok (.istore_n 3, 1) := by decide +kernel
theorem dX10_rankOf_4 : decode cX10_rankOf 4 = .ok (.iload_n 3, 1) := by decide +kernel
theorem dX10_rankOf_5 : decode cX10_rankOf 5 = .ok (.aload_n 0, 1) := by decide +kernel
theorem dX10_rankOf_6 : decode cX10_rankOf 6 = .ok (.getfield 25, 3) := by decide +kernel
theorem dX10_rankOf_9 : decode cX10_rankOf 9 = .ok (.if_icmp .ge 21, 3) := by decide +kernel
theorem dX10_rankOf_12 : decode cX10_rankOf 12 = .ok (.aload_n 0, 1) := by decide +kernel
theorem dX10_rankOf_13 : decode cX10_rankOf 13 = .ok (.iload_n 3, 1) := by decide +kernel
theorem dX10_rankOf_14 : decode cX10_rankOf 14 = .ok (.iload_n 1, 1) := by decide +kernel
theorem dX10_rankOf_15 : decode cX10_rankOf 15 = .ok (.invokevirtual 37, 3) := by decide +kernel
theorem dX10_rankOf_18 : decode cX10_rankOf 18 = .ok (.ifCond .eq 6, 3) := by decide +kernel
theorem dX10_rankOf_21 : decode cX10_rankOf 21 = .ok (.iinc 2 1, 3) := by decide +kernel
theorem dX10_rankOf_24 : decode cX10_rankOf 24 = .ok (.iinc 3 1, 3) := by decide +kernel
theorem dX10_rankOf_27 : decode cX10_rankOf 27 = .ok (.goto (-23), 3) := by decide +kernel
theorem dX10_rankOf_30 : decode cX10_rankOf 30 = .ok (.iload_n 2, 1) := by decide +kernel
theorem dX10_rankOf_31 : decode cX10_rankOf 31 = .ok (.ireturn, 1) := by decide +kernel
theorem dX10_precedes_0 : decode cX10_precedes 0 = .ok (.aload_n 0, 1) := by decide +kernel
theorem dX10_precedes_1 : decode cX10_precedes 1 = .ok (.getfield 21, 3) := by decide +kernel
theorem dX10_precedes_4 : decode cX10_precedes 4 = .ok (.iload_n 1, 1) := by decide +kernel
theorem dX10_precedes_5 : decode cX10_precedes 5 = .ok (.baload, 1) := by decide +kernel
theorem dX10_precedes_6 : decode cX10_precedes 6 = .ok (.aload_n 0, 1) := by decide +kernel
theorem dX10_precedes_7 : decode cX10_precedes 7 = .ok (.getfield 21, 3) := by decide +kernel
theorem dX10_precedes_10 : decode cX10_precedes 10 = .ok (.iload_n 2, 1) := by decide +kernel
theorem dX10_precedes_11 : decode cX10_precedes 11 = .ok (.baload, 1) := by decide +kernel
theorem dX10_precedes_12 : decode cX10_precedes 12 = .ok (.if_icmp .eq 10, 3) := by decide +kernel
theorem dX10_precedes_15 : decode cX10_precedes 15 = .ok (.aload_n 0, 1) := by decide +kernel
theorem dX10_precedes_16 : decode cX10_precedes 16 = .ok (.getfield 21, 3) := by decide +kernel
theorem dX10_precedes_19 : decode cX10_precedes 19 = .ok (.iload_n 1, 1) := by decide +kernel
theorem dX10_precedes_20 : decode cX10_precedes 20 = .ok (.baload, 1) := by decide +kernel
theorem dX10_precedes_21 : decode cX10_precedes 21 = .ok (.ireturn, 1) := by decide +kernel
theorem dX10_precedes_22 : decode cX10_precedes 22 = .ok (.aload_n 0, 1) := by decide +kernel
theorem dX10_precedes_23 : decode cX10_precedes 23 = .ok (.getfield 18, 3) := by decide +kernel
theorem dX10_precedes_26 : decode cX10_precedes 26 = .ok (.iload_n 1, 1) := by decide +kernel
theorem dX10_precedes_27 : decode cX10_precedes 27 = .ok (.iaload, 1) := by decide +kernel
theorem dX10_precedes_28 : decode cX10_precedes 28 = .ok (.aload_n 0, 1) := by decide +kernel
theorem dX10_precedes_29 : decode cX10_precedes 29 = .ok (.getfield 18, 3) := by decide +kernel
theorem dX10_precedes_32 : decode cX10_precedes 32 = .ok (.iload_n 2, 1) := by decide +kernel
theorem dX10_precedes_33 : decode cX10_precedes 33 = .ok (.iaload, 1) := by decide +kernel
theorem dX10_precedes_34 : decode cX10_precedes 34 = .ok (.if_icmp .eq 24, 3) := by decide +kernel
theorem dX10_precedes_37 : decode cX10_precedes 37 = .ok (.aload_n 0, 1) := by decide +kernel
theorem dX10_precedes_38 : decode cX10_precedes 38 = .ok (.getfield 18, 3) := by decide +kernel
theorem dX10_precedes_41 : decode cX10_precedes 41 = .ok (.iload_n 1, 1) := by decide +kernel
theorem dX10_precedes_42 : decode cX10_precedes 42 = .ok (.iaload, 1) := by decide +kernel
theorem dX10_precedes_43 : decode cX10_precedes 43 = .ok (.aload_n 0, 1) := by decide +kernel
theorem dX10_precedes_44 : decode cX10_precedes 44 = .ok (.getfield 18, 3) := by decide +kernel
theorem dX10_precedes_47 : decode cX10_precedes 47 = .ok (.iload_n 2, 1) := by decide +kernel
theorem dX10_precedes_48 : decode cX10_precedes 48 = .ok (.iaload, 1) := by decide +kernel
theorem dX10_precedes_49 : decode cX10_precedes 49 = .ok (.if_icmp .le 7, 3) := by decide +kernel
theorem dX10_precedes_52 : decode cX10_precedes 52 = .ok (.iconst 1, 1) := by decide +kernel
theorem dX10_precedes_53 : decode cX10_precedes 53 = .ok (.goto 4, 3) := by decide +kernel
theorem dX10_precedes_56 : decode cX10_precedes 56 = .ok (.iconst 0, 1) := by decide +kernel
theorem dX10_precedes_57 : decode cX10_precedes 57 = .ok (.ireturn, 1) := by decide +kernel
theorem dX10_precedes_58 : decode cX10_precedes 58 = .ok (.iload_n 1, 1) := by decide +kernel
theorem dX10_precedes_59 : decode cX10_precedes 59 = .ok (.iload_n 2, 1) := by decide +kernel
theorem dX10_precedes_60 : decode cX10_precedes 60 = .ok (.if_icmp .ge 7, 3) := by decide +kernel
theorem dX10_precedes_63 : decode cX10_precedes 63 = .ok (.iconst 1, 1) := by decide +kernel
theorem dX10_precedes_64 : decode cX10_precedes 64 = .ok (.goto 4, 3) := by decide +kernel
theorem dX10_precedes_67 : decode cX10_precedes 67 = .ok (.iconst 0, 1) := by decide +kernel
theorem dX10_precedes_68 : decode cX10_precedes 68 = .ok (.ireturn, 1) := by decide +kernel
theorem dX10_leadingColour_0 : decode cX10_leadingColour 0 = .ok (.iconst 0, 1) := by decide +kernel
theorem dX10_leadingColour_1 : decode cX10_leadingColour 1 = .ok (.istore_n 1, 1) := by decide +kernel
theorem dX10_leadingColour_2 : decode cX10_leadingColour 2 = .ok (.iconst 0, 1) := by decide +kernel
theorem dX10_leadingColour_3 : decode cX10_leadingColour 3 = .ok (.istore_n 2, 1) := by decide +kernel
theorem dX10_leadingColour_4 : decode cX10_leadingColour 4 = .ok (.iconst 0, 1) := by decide +kernel
theorem dX10_leadingColour_5 : decode cX10_leadingColour 5 = .ok (.istore_n 3, 1) := by decide +kernel
theorem dX10_leadingColour_6 : decode cX10_leadingColour 6 = .ok (.iload_n 3, 1) := by decide +kernel
theorem dX10_leadingColour_7 : decode cX10_leadingColour 7 = .ok (.aload_n 0, 1) := by decide +kernel
theorem dX10_leadingColour_8 : decode cX10_leadingColour 8 = .ok (.getfield 25, 3) := by decide +kernel
theorem dX10_leadingColour_11 : decode cX10_leadingColour 11 = .ok (.if_icmp .ge 42, 3) := by decide +kernel
theorem dX10_leadingColour_14 : decode cX10_leadingColour 14 = .ok (.aload_n 0, 1) := by decide +kernel
theorem dX10_leadingColour_15 : decode cX10_leadingColour 15 = .ok (.getfield 21, 3) := by decide +kernel
theorem dX10_leadingColour_18 : decode cX10_leadingColour 18 = .ok (.iload_n 3, 1) := by decide +kernel
theorem dX10_leadingColour_19 : decode cX10_leadingColour 19 = .ok (.baload, 1) := by decide +kernel
theorem dX10_leadingColour_20 : decode cX10_leadingColour 20 = .ok (.ifCond .eq 27, 3) := by decide +kernel
theorem dX10_leadingColour_23 : decode cX10_leadingColour 23 = .ok (.aload_n 0, 1) := by decide +kernel
theorem dX10_leadingColour_24 : decode cX10_leadingColour 24 = .ok (.getfield 18, 3) := by decide +kernel
theorem dX10_leadingColour_27 : decode cX10_leadingColour 27 = .ok (.iload_n 3, 1) := by decide +kernel
theorem dX10_leadingColour_28 : decode cX10_leadingColour 28 = .ok (.iaload, 1) := by decide +kernel
theorem dX10_leadingColour_29 : decode cX10_leadingColour 29 = .ok (.iload_n 2, 1) := by decide +kernel
theorem dX10_leadingColour_30 : decode cX10_leadingColour 30 = .ok (.if_icmp .le 17, 3) := by decide +kernel
theorem dX10_leadingColour_33 : decode cX10_leadingColour 33 = .ok (.aload_n 0, 1) := by decide +kernel
theorem dX10_leadingColour_34 : decode cX10_leadingColour 34 = .ok (.getfield 18, 3) := by decide +kernel
theorem dX10_leadingColour_37 : decode cX10_leadingColour 37 = .ok (.iload_n 3, 1) := by decide +kernel
theorem dX10_leadingColour_38 : decode cX10_leadingColour 38 = .ok (.iaload, 1) := by decide +kernel
theorem dX10_leadingColour_39 : decode cX10_leadingColour 39 = .ok (.istore_n 2, 1) := by decide +kernel
theorem dX10_leadingColour_40 : decode cX10_leadingColour 40 = .ok (.aload_n 0, 1) := by decide +kernel
theorem dX10_leadingColour_41 : decode cX10_leadingColour 41 = .ok (.getfield 9, 3) := by decide +kernel
theorem dX10_leadingColour_44 : decode cX10_leadingColour 44 = .ok (.iload_n 3, 1) := by decide +kernel
theorem dX10_leadingColour_45 : decode cX10_leadingColour 45 = .ok (.iaload, 1) := by decide +kernel
theorem dX10_leadingColour_46 : decode cX10_leadingColour 46 = .ok (.istore_n 1, 1) := by decide +kernel
theorem dX10_leadingColour_47 : decode cX10_leadingColour 47 = .ok (.iinc 3 1, 3) := by decide +kernel
theorem dX10_leadingColour_50 : decode cX10_leadingColour 50 = .ok (.goto (-44), 3) := by decide +kernel
theorem dX10_leadingColour_53 : decode cX10_leadingColour 53 = .ok (.iload_n 1, 1) := by decide +kernel
theorem dX10_leadingColour_54 : decode cX10_leadingColour 54 = .ok (.ireturn, 1) := by decide +kernel
theorem dX10_burnDown_0 : decode cX10_burnDown 0 = .ok (.iconst 0, 1) := by decide +kernel
theorem dX10_burnDown_1 : decode cX10_burnDown 1 = .ok (.istore_n 1, 1) := by decide +kernel
theorem dX10_burnDown_2 : decode cX10_burnDown 2 = .ok (.iconst 0, 1) := by decide +kernel
theorem dX10_burnDown_3 : decode cX10_burnDown 3 = .ok (.istore_n 2, 1) := by decide +kernel
theorem dX10_burnDown_4 : decode cX10_burnDown 4 = .ok (.iload_n 2, 1) := by decide +kernel
theorem dX10_burnDown_5 : decode cX10_burnDown 5 = .ok (.aload_n 0, 1) := by decide +kernel
theorem dX10_burnDown_6 : decode cX10_burnDown 6 = .ok (.getfield 25, 3) := by decide +kernel
theorem dX10_burnDown_9 : decode cX10_burnDown 9 = .ok (.if_icmp .ge 51, 3) := by decide +kernel
theorem dX10_burnDown_12 : decode cX10_burnDown 12 = .ok (.aload_n 0, 1) := by decide +kernel
theorem dX10_burnDown_13 : decode cX10_burnDown 13 = .ok (.getfield 21, 3) := by decide +kernel
theorem dX10_burnDown_16 : decode cX10_burnDown 16 = .ok (.iload_n 2, 1) := by decide +kernel
theorem dX10_burnDown_17 : decode cX10_burnDown 17 = .ok (.baload, 1) := by decide +kernel
theorem dX10_burnDown_18 : decode cX10_burnDown 18 = .ok (.ifCond .eq 36, 3) := by decide +kernel
theorem dX10_burnDown_21 : decode cX10_burnDown 21 = .ok (.aload_n 0, 1) := by decide +kernel
theorem dX10_burnDown_22 : decode cX10_burnDown 22 = .ok (.getfield 18, 3) := by decide +kernel
theorem dX10_burnDown_25 : decode cX10_burnDown 25 = .ok (.iload_n 2, 1) := by decide +kernel
theorem dX10_burnDown_26 : decode cX10_burnDown 26 = .ok (.dup2, 1) := by decide +kernel
theorem dX10_burnDown_27 : decode cX10_burnDown 27 = .ok (.iaload, 1) := by decide +kernel
theorem dX10_burnDown_28 : decode cX10_burnDown 28 = .ok (.iconst 1, 1) := by decide +kernel
theorem dX10_burnDown_29 : decode cX10_burnDown 29 = .ok (.isub, 1) := by decide +kernel
theorem dX10_burnDown_30 : decode cX10_burnDown 30 = .ok (.iastore, 1) := by decide +kernel
theorem dX10_burnDown_31 : decode cX10_burnDown 31 = .ok (.aload_n 0, 1) := by decide +kernel
theorem dX10_burnDown_32 : decode cX10_burnDown 32 = .ok (.getfield 21, 3) := by decide +kernel
theorem dX10_burnDown_35 : decode cX10_burnDown 35 = .ok (.iload_n 2, 1) := by decide +kernel
theorem dX10_burnDown_36 : decode cX10_burnDown 36 = .ok (.aload_n 0, 1) := by decide +kernel
theorem dX10_burnDown_37 : decode cX10_burnDown 37 = .ok (.getfield 18, 3) := by decide +kernel
theorem dX10_burnDown_40 : decode cX10_burnDown 40 = .ok (.iload_n 2, 1) := by decide +kernel
theorem dX10_burnDown_41 : decode cX10_burnDown 41 = .ok (.iaload, 1) := by decide +kernel
theorem dX10_burnDown_42 : decode cX10_burnDown 42 = .ok (.ifCond .le 7, 3) := by decide +kernel
theorem dX10_burnDown_45 : decode cX10_burnDown 45 = .ok (.iconst 1, 1) := by decide +kernel
theorem dX10_burnDown_46 : decode cX10_burnDown 46 = .ok (.goto 4, 3) := by decide +kernel
theorem dX10_burnDown_49 : decode cX10_burnDown 49 = .ok (.iconst 0, 1) := by decide +kernel
theorem dX10_burnDown_50 : decode cX10_burnDown 50 = .ok (.bastore, 1) := by decide +kernel
theorem dX10_burnDown_51 : decode cX10_burnDown 51 = .ok (.iinc 1 1, 3) := by decide +kernel
theorem dX10_burnDown_54 : decode cX10_burnDown 54 = .ok (.iinc 2 1, 3) := by decide +kernel
theorem dX10_burnDown_57 : decode cX10_burnDown 57 = .ok (.goto (-53), 3) := by decide +kernel
theorem dX10_burnDown_60 : decode cX10_burnDown 60 = .ok (.iload_n 1, 1) := by decide +kernel
theorem dX10_burnDown_61 : decode cX10_burnDown 61 = .ok (.ireturn, 1) := by decide +kernel
theorem dX10_anyLitAfter_0 : decode cX10_anyLitAfter 0 = .ok (.iconst 0, 1) := by decide +kernel
theorem dX10_anyLitAfter_1 : decode cX10_anyLitAfter 1 = .ok (.istore_n 2, 1) := by decide +kernel
theorem dX10_anyLitAfter_2 : decode cX10_anyLitAfter 2 = .ok (.iload_n 2, 1) := by decide +kernel
theorem dX10_anyLitAfter_3 : decode cX10_anyLitAfter 3 = .ok (.aload_n 0, 1) := by decide +kernel
theorem dX10_anyLitAfter_4 : decode cX10_anyLitAfter 4 = .ok (.getfield 25, 3) := by decide +kernel
theorem dX10_anyLitAfter_7 : decode cX10_anyLitAfter 7 = .ok (.if_icmp .ge 30, 3) := by decide +kernel
theorem dX10_anyLitAfter_10 : decode cX10_anyLitAfter 10 = .ok (.aload_n 0, 1) := by decide +kernel
theorem dX10_anyLitAfter_11 : decode cX10_anyLitAfter 11 = .ok (.getfield 21, 3) := by decide +kernel
theorem dX10_anyLitAfter_14 : decode cX10_anyLitAfter 14 = .ok (.iload_n 2, 1) := by decide +kernel
theorem dX10_anyLitAfter_15 : decode cX10_anyLitAfter 15 = .ok (.baload, 1) := by decide +kernel
theorem dX10_anyLitAfter_16 : decode cX10_anyLitAfter 16 = .ok (.ifCond .eq 15, 3) := by decide +kernel
theorem dX10_anyLitAfter_19 : decode cX10_anyLitAfter 19 = .ok (.aload_n 0, 1) := by decide +kernel
theorem dX10_anyLitAfter_20 : decode cX10_anyLitAfter 20 = .ok (.getfield 18, 3) := by decide +kernel
theorem dX10_anyLitAfter_23 : decode cX10_anyLitAfter 23 = .ok (.iload_n 2, 1) := by decide +kernel
theorem dX10_anyLitAfter_24 : decode cX10_anyLitAfter 24 = .ok (.iaload, 1) := by decide +kernel
theorem dX10_anyLitAfter_25 : decode cX10_anyLitAfter 25 = .ok (.iload_n 1, 1) := by decide +kernel
theorem dX10_anyLitAfter_26 : decode cX10_anyLitAfter 26 = .ok (.if_icmp .le 5, 3) := by decide +kernel
theorem dX10_anyLitAfter_29 : decode cX10_anyLitAfter 29 = .ok (.iconst 1, 1) := by decide +kernel
theorem dX10_anyLitAfter_30 : decode cX10_anyLitAfter 30 = .ok (.ireturn, 1) := by decide +kernel
theorem dX10_anyLitAfter_31 : decode cX10_anyLitAfter 31 = .ok (.iinc 2 1, 3) := by decide +kernel
theorem dX10_anyLitAfter_34 : decode cX10_anyLitAfter 34 = .ok (.goto (-32), 3) := by decide +kernel
theorem dX10_anyLitAfter_37 : decode cX10_anyLitAfter 37 = .ok (.iconst 0, 1) := by decide +kernel
theorem dX10_anyLitAfter_38 : decode cX10_anyLitAfter 38 = .ok (.ireturn, 1) := by decide +kernel
theorem dX10_mostLitWax_0 : decode cX10_mostLitWax 0 = .ok (.iconst 0, 1) := by decide +kernel
theorem dX10_mostLitWax_1 : decode cX10_mostLitWax 1 = .ok (.istore_n 1, 1) := by decide +kernel
theorem dX10_mostLitWax_2 : decode cX10_mostLitWax 2 = .ok (.iconst 0, 1) := by decide +kernel
theorem dX10_mostLitWax_3 : decode cX10_mostLitWax 3 = .ok (.istore_n 2, 1) := by decide +kernel
theorem dX10_mostLitWax_4 : decode cX10_mostLitWax 4 = .ok (.iload_n 2, 1) := by decide +kernel
theorem dX10_mostLitWax_5 : decode cX10_mostLitWax 5 = .ok (.aload_n 0, 1) := by decide +kernel
theorem dX10_mostLitWax_6 : decode cX10_mostLitWax 6 = .ok (.getfield 25, 3) := by decide +kernel
theorem dX10_mostLitWax_9 : decode cX10_mostLitWax 9 = .ok (.if_icmp .ge 29, 3) := by decide +kernel
theorem dX10_mostLitWax_12 : decode cX10_mostLitWax 12 = .ok (.aload_n 0, 1) := by decide +kernel
theorem dX10_mostLitWax_13 : decode cX10_mostLitWax 13 = .ok (.getfield 21, 3) := by decide +kernel
theorem dX10_mostLitWax_16 : decode cX10_mostLitWax 16 = .ok (.iload_n 2, 1) := by decide +kernel
theorem dX10_mostLitWax_17 : decode cX10_mostLitWax 17 = .ok (.baload, 1) := by decide +kernel
theorem dX10_mostLitWax_18 : decode cX10_mostLitWax 18 = .ok (.ifCond .eq 14, 3) := by decide +kernel
theorem dX10_mostLitWax_21 : decode cX10_mostLitWax 21 = .ok (.iload_n 1, 1) := by decide +kernel
theorem dX10_mostLitWax_22 : decode cX10_mostLitWax 22 = .ok (.aload_n 0, 1) := by decide +kernel
theorem dX10_mostLitWax_23 : decode cX10_mostLitWax 23 = .ok (.getfield 18, 3) := by decide +kernel
theorem dX10_mostLitWax_26 : decode cX10_mostLitWax 26 = .ok (.iload_n 2, 1) := by decide +kernel
theorem dX10_mostLitWax_27 : decode cX10_mostLitWax 27 = .ok (.iaload, 1) := by decide +kernel
theorem dX10_mostLitWax_28 : decode cX10_mostLitWax 28 = .ok (.invokestatic 41, 3) := by decide +kernel
theorem dX10_mostLitWax_31 : decode cX10_mostLitWax 31 = .ok (.istore_n 1, 1) := by decide +kernel
theorem dX10_mostLitWax_32 : decode cX10_mostLitWax 32 = .ok (.iinc 2 1, 3) := by decide +kernel
theorem dX10_mostLitWax_35 : decode cX10_mostLitWax 35 = .ok (.goto (-31), 3) := by decide +kernel
theorem dX10_mostLitWax_38 : decode cX10_mostLitWax 38 = .ok (.iload_n 1, 1) := by decide +kernel
theorem dX10_mostLitWax_39 : decode cX10_mostLitWax 39 = .ok (.ireturn, 1) := by decide +kernel
theorem dX11_init_0 : decode cX11_init 0 = .ok (.aload_n 0, 1) := by decide +kernel
theorem dX11_init_1 : decode cX11_init 1 = .ok (.invokespecial 3, 3) := by decide +kernel
theorem dX11_init_4 : decode cX11_init 4 = .ok (.aload_n 0, 1) := by decide +kernel
theorem dX11_init_5 : decode cX11_init 5 = .ok (.new 9, 3) := by decide +kernel
theorem dX11_init_8 : decode cX11_init 8 = .ok (.dup, 1) := by decide +kernel
theorem dX11_init_9 : decode cX11_init 9 = .ok (.invokespecial 11, 3) := by decide +kernel
theorem dX11_init_12 : decode cX11_init 12 = .ok (.putfield 12, 3) := by decide +kernel
theorem dX11_init_15 : decode cX11_init 15 = .ok (.aload_n 0, 1) := by decide +kernel
theorem dX11_init_16 : decode cX11_init 16 = .ok (.new 9, 3) := by decide +kernel
theorem dX11_init_19 : decode cX11_init 19 = .ok (.dup, 1) := by decide +kernel
theorem dX11_init_20 : decode cX11_init 20 = .ok (.invokespecial 11, 3) := by decide +kernel
theorem dX11_init_23 : decode cX11_init 23 = .ok (.putfield 16, 3) := by decide +kernel
theorem dX11_init_26 : decode cX11_init 26 = .ok (.aload_n 0, 1) := by decide +kernel
theorem dX11_init_27 : decode cX11_init 27 = .ok (.new 9, 3) := by decide +kernel
theorem dX11_init_30 : decode cX11_init 30 = .ok (.dup, 1) := by decide +kernel
theorem dX11_init_31 : decode cX11_init 31 = .ok (.invokespecial 11, 3) := by decide +kernel
theorem dX11_init_34 : decode cX11_init 34 = .ok (.putfield 19, 3) := by decide +kernel
theorem dX11_init_37 : decode cX11_init 37 = .ok (.aload_n 0, 1) := by decide +kernel
theorem dX11_init_38 : decode cX11_init 38 = .ok (.new 22, 3) := by decide +kernel
theorem dX11_init_41 : decode cX11_init 41 = .ok (.dup, 1) := by decide +kernel
theorem dX11_init_42 : decode cX11_init 42 = .ok (.invokespecial 24, 3) := by decide +kernel
theorem dX11_init_45 : decode cX11_init 45 = .ok (.putfield 25, 3) := by decide +kernel
theorem dX11_init_48 : decode cX11_init 48 = .ok (.aload_n 0, 1) := by decide +kernel
theorem dX11_init_49 : decode cX11_init 49 = .ok (.new 29, 3) := by decide +kernel
theorem dX11_init_52 : decode cX11_init 52 = .ok (.dup, 1) := by decide +kernel
theorem dX11_init_53 : decode cX11_init 53 = .ok (.invokespecial 31, 3) := by decide +kernel
theorem dX11_init_56 : decode cX11_init 56 = .ok (.putfield 32, 3) := by decide +kernel
theorem dX11_init_59 : decode cX11_init 59 = .ok (.aload_n 0, 1) := by decide +kernel
theorem dX11_init_60 : decode cX11_init 60 = .ok (.new 36, 3) := by decide +kernel
theorem dX11_init_63 : decode cX11_init 63 = .ok (.dup, 1) := by decide +kernel
theorem dX11_init_64 : decode cX11_init 64 = .ok (.invokespecial 38, 3) := by decide +kernel
theorem dX11_init_67 : decode cX11_init 67 = .ok (.putfield 39, 3) := by decide +kernel
theorem dX11_init_70 : decode cX11_init 70 = .ok (.aload_n 0, 1) := by decide +kernel
theorem dX11_init_71 : decode cX11_init 71 = .ok (.new 43, 3) := by decide +kernel
theorem dX11_init_74 : decode cX11_init 74 = .ok (.dup, 1) := by decide +kernel
theorem dX11_init_75 : decode cX11_init 75 = .ok (.invokespecial 45, 3) := by decide +kernel
theorem dX11_init_78 : decode cX11_init 78 = .ok (.putfield 46, 3) := by decide +kernel
theorem dX11_init_81 : decode cX11_init 81 = .ok (.aload_n 0, 1) := by decide +kernel
theorem dX11_init_82 : decode cX11_init 82 = .ok (.new 50, 3) := by decide +kernel
theorem dX11_init_85 : decode cX11_init 85 = .ok (.dup, 1) := by decide +kernel
theorem dX11_init_86 : decode cX11_init 86 = .ok (.invokespecial 52, 3) := by decide +kernel
theorem dX11_init_89 : decode cX11_init 89 = .ok (.putfield 53, 3) := by decide +kernel
theorem dX11_init_92 : decode cX11_init 92 = .ok (.return_, 1) := by decide +kernel
theorem dX11_addWick_0 : decode cX11_addWick 0 = .ok (.aload_n 0, 1) := by decide +kernel
theorem dX11_addWick_1 : decode cX11_addWick 1 = .ok (.aload_n 0, 1) := by decide +kernel
theorem dX11_addWick_2 : decode cX11_addWick 2 = .ok (.getfield 39, 3) := by decide +kernel
theorem dX11_addWick_5 : decode cX11_addWick 5 = .ok (.getstatic 57, 3) := by decide +kernel
theorem dX11_addWick_8 : decode cX11_addWick 8 = .ok (.iload_n 1, 1) := by decide +kernel
theorem dX11_addWick_9 : decode cX11_addWick 9 = .ok (.iload_n 2, 1) := by decide +kernel
theorem dX11_addWick_10 : decode cX11_addWick 10 = .ok (.iload_n 3, 1) := by decide +kernel
theorem dX11_addWick_11 : decode cX11_addWick 11 = .ok (.invokevirtual 63, 3) := by decide +kernel
theorem dX11_addWick_14 : decode cX11_addWick 14 = .ok (.invokevirtual 67, 3) := by decide +kernel
theorem dX11_addWick_17 : decode cX11_addWick 17 = .ok (.ireturn, 1) := by decide +kernel
theorem dX11_light_0 : decode cX11_light 0 = .ok (.aload_n 0, 1) := by decide +kernel
theorem dX11_light_1 : decode cX11_light 1 = .ok (.aload_n 0, 1) := by decide +kernel
theorem dX11_light_2 : decode cX11_light 2 = .ok (.getfield 39, 3) := by decide +kernel
theorem dX11_light_5 : decode cX11_light 5 = .ok (.getstatic 71, 3) := by decide +kernel
theorem dX11_light_8 : decode cX11_light 8 = .ok (.iload_n 1, 1) := by decide +kernel
theorem dX11_light_9 : decode cX11_light 9 = .ok (.iconst 0, 1) := by decide +kernel
theorem dX11_light_10 : decode cX11_light 10 = .ok (.iconst 0, 1) := by decide +kernel
theorem dX11_light_11 : decode cX11_light 11 = .ok (.invokevirtual 63, 3) := by decide +kernel
theorem dX11_light_14 : decode cX11_light 14 = .ok (.invokevirtual 67, 3) := by decide +kernel
theorem dX11_light_17 : decode cX11_light 17 = .ok (.ireturn, 1) := by decide +kernel
theorem dX11_snuff_0 : decode cX11_snuff 0 = .ok (.aload_n 0, 1) := by decide +kernel
theorem dX11_snuff_1 : decode cX11_snuff 1 = .ok (.aload_n 0, 1) := by decide +kernel
theorem dX11_snuff_2 : decode cX11_snuff 2 = .ok (.getfield 39, 3) := by decide +kernel
theorem dX11_snuff_5 : decode cX11_snuff 5 = .ok (.getstatic 74, 3) := by decide +kernel
theorem dX11_snuff_8 : decode cX11_snuff 8 = .ok (.iload_n 1, 1) := by decide +kernel
theorem dX11_snuff_9 : decode cX11_snuff 9 = .ok (.iconst 0, 1) := by decide +kernel
theorem dX11_snuff_10 : decode cX11_snuff 10 = .ok (.iconst 0, 1) := by decide +kernel
theorem dX11_snuff_11 : decode cX11_snuff 11 = .ok (.invokevirtual 63, 3) := by decide +kernel
theorem dX11_snuff_14 : decode cX11_snuff 14 = .ok (.invokevirtual 67, 3) := by decide +kernel
theorem dX11_snuff_17 : decode cX11_snuff 17 = .ok (.ireturn, 1) := by decide +kernel
theorem dX11_addWax_0 : decode cX11_addWax 0 = .ok (.aload_n 0, 1) := by decide +kernel
theorem dX11_addWax_1 : decode cX11_addWax 1 = .ok (.aload_n 0, 1) := by decide +kernel
theorem dX11_addWax_2 : decode cX11_addWax 2 = .ok (.getfield 39, 3) := by decide +kernel
theorem dX11_addWax_5 : decode cX11_addWax 5 = .ok (.getstatic 77, 3) := by decide +kernel
theorem dX11_addWax_8 : decode cX11_addWax 8 = .ok (.iload_n 1, 1) := by decide +kernel
theorem dX11_addWax_9 : decode cX11_addWax 9 = .ok (.iload_n 2, 1) := by decide +kernel
theorem dX11_addWax_10 : decode cX11_addWax 10 = .ok (.iconst 0, 1) := by decide +kernel
theorem dX11_addWax_11 : decode cX11_addWax 11 = .ok (.invokevirtual 63, 3) := by decide +kernel
theorem dX11_addWax_14 : decode cX11_addWax 14 = .ok (.invokevirtual 67, 3) := by decide +kernel
theorem dX11_addWax_17 : decode cX11_addWax 17 = .ok (.ireturn, 1) := by decide +kernel
theorem dX11_wickCount_0 : decode cX11_wickCount 0 = .ok (.aload_n 0, 1) := by decide +kernel
theorem dX11_wickCount_1 : decode cX11_wickCount 1 = .ok (.getfield 12, 3) := by decide +kernel
theorem dX11_wickCount_4 : decode cX11_wickCount 4 = .ok (.getfield 80, 3) := by decide +kernel
theorem dX11_wickCount_7 : decode cX11_wickCount 7 = .ok (.getfield 84, 3) := by decide +kernel
theorem dX11_wickCount_10 : decode cX11_wickCount 10 = .ok (.ireturn, 1) := by decide +kernel
theorem dX11_litCount_0 : decode cX11_litCount 0 = .ok (.aload_n 0, 1) := by decide +kernel
theorem dX11_litCount_1 : decode cX11_litCount 1 = .ok (.getfield 12, 3) := by decide +kernel
theorem dX11_litCount_4 : decode cX11_litCount 4 = .ok (.getfield 80, 3) := by decide +kernel
theorem dX11_litCount_7 : decode cX11_litCount 7 = .ok (.invokevirtual 90, 3) := by decide +kernel
theorem dX11_litCount_10 : decode cX11_litCount 10 = .ok (.ireturn, 1) := by decide +kernel
theorem dX11_isLit_0 : decode cX11_isLit 0 = .ok (.aload_n 0, 1) := by decide +kernel
theorem dX11_isLit_1 : decode cX11_isLit 1 = .ok (.getfield 12, 3) := by decide +kernel
theorem dX11_isLit_4 : decode cX11_isLit 4 = .ok (.getfield 80, 3) := by decide +kernel
theorem dX11_isLit_7 : decode cX11_isLit 7 = .ok (.iload_n 1, 1) := by decide +kernel
theorem dX11_isLit_8 : decode cX11_isLit 8 = .ok (.invokevirtual 94, 3) := by decide +kernel
theorem dX11_isLit_11 : decode cX11_isLit 11 = .ok (.invokestatic 98, 3) := by decide +kernel
theorem dX11_isLit_14 : decode cX11_isLit 14 = .ok (.aload_n 0, 1) := by decide +kernel
theorem dX11_isLit_15 : decode cX11_isLit 15 = .ok (.getfield 12, 3) := by decide +kernel
theorem dX11_isLit_18 : decode cX11_isLit 18 = .ok (.getfield 80, 3) := by decide +kernel
theorem dX11_isLit_21 : decode cX11_isLit 21 = .ok (.getfield 102, 3) := by decide +kernel
theorem dX11_isLit_24 : decode cX11_isLit 24 = .ok (.iload_n 1, 1) := by decide +kernel
theorem dX11_isLit_25 : decode cX11_isLit 25 = .ok (.baload, 1) := by decide +kernel
theorem dX11_isLit_26 : decode cX11_isLit 26 = .ok (.ireturn, 1) := by decide +kernel
theorem dX11_wax_0 : decode cX11_wax 0 = .ok (.aload_n 0, 1) := by decide +kernel
theorem dX11_wax_1 : decode cX11_wax 1 = .ok (.getfield 12, 3) := by decide +kernel
theorem dX11_wax_4 : decode cX11_wax 4 = .ok (.getfield 80, 3) := by decide +kernel
theorem dX11_wax_7 : decode cX11_wax 7 = .ok (.iload_n 1, 1) := by decide +kernel
theorem dX11_wax_8 : decode cX11_wax 8 = .ok (.invokevirtual 94, 3) := by decide +kernel
theorem dX11_wax_11 : decode cX11_wax 11 = .ok (.invokestatic 98, 3) := by decide +kernel
theorem dX11_wax_14 : decode cX11_wax 14 = .ok (.aload_n 0, 1) := by decide +kernel
theorem dX11_wax_15 : decode cX11_wax 15 = .ok (.getfield 12, 3) := by decide +kernel
theorem dX11_wax_18 : decode cX11_wax 18 = .ok (.getfield 80, 3) := by decide +kernel
theorem dX11_wax_21 : decode cX11_wax 21 = .ok (.getfield 106, 3) := by decide +kernel
theorem dX11_wax_24 : decode cX11_wax 24 = .ok (.iload_n 1, 1) := by decide +kernel
theorem dX11_wax_25 : decode cX11_wax 25 = .ok (.iaload, 1) := by decide +kernel
theorem dX11_wax_26 : decode cX11_wax 26 = .ok (.ireturn, 1) := by decide +kernel
theorem dX11_wickByWax_0 : decode cX11_wickByWax 0 = .ok (.aload_n 0, 1) := by decide +kernel
theorem dX11_wickByWax_1 : decode cX11_wickByWax 1 = .ok (.getfield 12, 3) := by decide +kernel
theorem dX11_wickByWax_4 : decode cX11_wickByWax 4 = .ok (.getfield 80, 3) := by decide +kernel
theorem dX11_wickByWax_7 : decode cX11_wickByWax 7 = .ok (.iload_n 1, 1) := by decide +kernel
theorem dX11_wickByWax_8 : decode cX11_wickByWax 8 = .ok (.invokevirtual 94, 3) := by decide +kernel
theorem dX11_wickByWax_11 : decode cX11_wickByWax 11 = .ok (.invokestatic 110, 3) := by decide +kernel
theorem dX11_wickByWax_14 : decode cX11_wickByWax 14 = .ok (.aload_n 0, 1) := by decide +kernel
theorem dX11_wickByWax_15 : decode cX11_wickByWax 15 = .ok (.getfield 12, 3) := by decide +kernel
theorem dX11_wickByWax_18 : decode cX11_wickByWax 18 = .ok (.getfield 80, 3) := by decide +kernel
theorem dX11_wickByWax_21 : decode cX11_wickByWax 21 = .ok (.iload_n 1, 1) := by decide +kernel
theorem dX11_wickByWax_22 : decode cX11_wickByWax 22 = .ok (.invokevirtual 113, 3) := by decide +kernel
theorem dX11_wickByWax_25 : decode cX11_wickByWax 25 = .ok (.ireturn, 1) := by decide +kernel
theorem dX11_nextMask_0 : decode cX11_nextMask 0 = .ok (.aload_n 0, 1) := by decide +kernel
theorem dX11_nextMask_1 : decode cX11_nextMask 1 = .ok (.getfield 12, 3) := by decide +kernel
theorem dX11_nextMask_4 : decode cX11_nextMask 4 = .ok (.aload_n 0, 1) := by decide +kernel
theorem dX11_nextMask_5 : decode cX11_nextMask 5 = .ok (.getfield 12, 3) := by decide +kernel
theorem dX11_nextMask_8 : decode cX11_nextMask 8 = .ok (.getfield 80, 3) := by decide +kernel
theorem dX11_nextMask_11 : decode cX11_nextMask 11 = .ok (.invokevirtual 117, 3) := by decide +kernel
theorem dX11_nextMask_14 : decode cX11_nextMask 14 = .ok (.invokevirtual 120, 3) := by decide +kernel
theorem dX11_nextMask_17 : decode cX11_nextMask 17 = .ok (.ireturn, 1) := by decide +kernel
theorem dX11_rowsUntilDark_0 : decode cX11_rowsUntilDark 0 = .ok (.iconst 0, 1) := by decide +kernel
theorem dX11_rowsUntilDark_1 : decode cX11_rowsUntilDark 1 = .ok (.istore_n 1, 1) := by decide +kernel
theorem dX11_rowsUntilDark_2 : decode cX11_rowsUntilDark 2 = .ok (.iload_n 1, 1) := by decide +kernel
theorem dX11_rowsUntilDark_3 : decode cX11_rowsUntilDark 3 = .ok (.bipush 99, 2) := by decide +kernel
theorem dX11_rowsUntilDark_5 : decode cX11_rowsUntilDark 5 = .ok (.if_icmp .ge 23, 3) := by decide +kernel
theorem dX11_rowsUntilDark_8 : decode cX11_rowsUntilDark 8 = .ok (.aload_n 0, 1) := by decide +kernel
theorem dX11_rowsUntilDark_9 : decode cX11_rowsUntilDark 9 = .ok (.getfield 12, 3) := by decide +kernel
theorem dX11_rowsUntilDark_12 : decode cX11_rowsUntilDark 12 = .ok (.getfield 80, 3) := by decide +kernel
theorem dX11_rowsUntilDark_15 : decode cX11_rowsUntilDark 15 = .ok (.iload_n 1, 1) := by decide +kernel
theorem dX11_rowsUntilDark_16 : decode cX11_rowsUntilDark 16 = .ok (.invokevirtual 123, 3) := by decide +kernel
theorem dX11_rowsUntilDark_19 : decode cX11_rowsUntilDark 19 = .ok (.ifCond .eq 9, 3) := by decide +kernel
theorem dX11_rowsUntilDark_22 : decode cX11_rowsUntilDark 22 = .ok (.iinc 1 1, 3) := by decide +kernel
theorem dX11_rowsUntilDark_25 : decode cX11_rowsUntilDark 25 = .ok (.goto (-23), 3) := by decide +kernel
theorem dX11_rowsUntilDark_28 : decode cX11_rowsUntilDark 28 = .ok (.iload_n 1, 1) := by decide +kernel
theorem dX11_rowsUntilDark_29 : decode cX11_rowsUntilDark 29 = .ok (.ireturn, 1) := by decide +kernel
theorem dX11_rowsUntilDarkByWax_0 : decode cX11_rowsUntilDarkByWax 0 = .ok (.aload_n 0, 1) := by decide +kernel
theorem dX11_rowsUntilDarkByWax_1 : decode cX11_rowsUntilDarkByWax 1 = .ok (.getfield 12, 3) := by decide +kernel
theorem dX11_rowsUntilDarkByWax_4 : decode cX11_rowsUntilDarkByWax 4 = .ok (.getfield 80, 3) := by decide +kernel
theorem dX11_rowsUntilDarkByWax_7 : decode cX11_rowsUntilDarkByWax 7 = .ok (.invokevirtual 126, 3) := by decide +kernel
theorem dX11_rowsUntilDarkByWax_10 : decode cX11_rowsUntilDarkByWax 10 = .ok (.ireturn, 1) := by decide +kernel
theorem dX11_weave_0 : decode cX11_weave 0 = .ok (.aload_n 0, 1) := by decide +kernel
theorem dX11_weave_1 : decode cX11_weave 1 = .ok (.aload_n 0, 1) := by decide +kernel
theorem dX11_weave_2 : decode cX11_weave 2 = .ok (.getfield 39, 3) := by decide +kernel
theorem dX11_weave_5 : decode cX11_weave 5 = .ok (.getstatic 129, 3) := by decide +kernel
theorem dX11_weave_8 : decode cX11_weave 8 = .ok (.iload_n 1, 1) := by decide +kernel
theorem dX11_weave_9 : decode cX11_weave 9 = .ok (.iconst 0, 1) := by decide +kernel
theorem dX11_weave_10 : decode cX11_weave 10 = .ok (.iconst 0, 1) := by decide +kernel
theorem dX11_weave_11 : decode cX11_weave 11 = .ok (.invokevirtual 63, 3) := by decide +kernel
theorem dX11_weave_14 : decode cX11_weave 14 = .ok (.invokevirtual 67, 3) := by decide +kernel
theorem dX11_weave_17 : decode cX11_weave 17 = .ok (.ireturn, 1) := by decide +kernel
theorem dX11_ravel_0 : decode cX11_ravel 0 = .ok (.aload_n 0, 1) := by decide +kernel
theorem dX11_ravel_1 : decode cX11_ravel 1 = .ok (.aload_n 0, 1) := by decide +kernel
theorem dX11_ravel_2 : decode cX11_ravel 2 = .ok (.getfield 39, 3) := by decide +kernel
theorem dX11_ravel_5 : decode cX11_ravel 5 = .ok (.getstatic 132, 3) := by decide +kernel
theorem dX11_ravel_8 : decode cX11_ravel 8 = .ok (.iload_n 1, 1) := by decide +kernel
theorem dX11_ravel_9 : decode cX11_ravel 9 = .ok (.iconst 0, 1) := by decide +kernel
theorem dX11_ravel_10 : decode cX11_ravel 10 = .ok (.iconst 0, 1) := by decide +kernel
theorem dX11_ravel_11 : decode cX11_ravel 11 = .ok (.invokevirtual 63, 3) := by decide +kernel
theorem dX11_ravel_14 : decode cX11_ravel 14 = .ok (.invokevirtual 67, 3) := by decide +kernel
theorem dX11_ravel_17 : decode cX11_ravel 17 = .ok (.ireturn, 1) := by decide +kernel
theorem dX11_repeatLast_0 : decode cX11_repeatLast 0 = .ok (.aload_n 0, 1) := by decide +kernel
theorem dX11_repeatLast_1 : decode cX11_repeatLast 1 = .ok (.aload_n 0, 1) := by decide +kernel
theorem dX11_repeatLast_2 : decode cX11_repeatLast 2 = .ok (.getfield 39, 3) := by decide +kernel
theorem dX11_repeatLast_5 : decode cX11_repeatLast 5 = .ok (.getstatic 135, 3) := by decide +kernel
theorem dX11_repeatLast_8 : decode cX11_repeatLast 8 = .ok (.iload_n 1, 1) := by decide +kernel
theorem dX11_repeatLast_9 : decode cX11_repeatLast 9 = .ok (.iload_n 2, 1) := by decide +kernel
theorem dX11_repeatLast_10 : decode cX11_repeatLast 10 = .ok (.iconst 0, 1) := by decide +kernel
theorem dX11_repeatLast_11 : decode cX11_repeatLast 11 = .ok (.invokevirtual 63, 3) := by decide +kernel
theorem dX11_repeatLast_14 : decode cX11_repeatLast 14 = .ok (.invokevirtual 67, 3) := by decide +kernel
theorem dX11_repeatLast_17 : decode cX11_repeatLast 17 = .ok (.ireturn, 1) := by decide +kernel
theorem dX11_knot_0 : decode cX11_knot 0 = .ok (.aload_n 0, 1) := by decide +kernel
theorem dX11_knot_1 : decode cX11_knot 1 = .ok (.aload_n 0, 1) := by decide +kernel
theorem dX11_knot_2 : decode cX11_knot 2 = .ok (.getfield 39, 3) := by decide +kernel
theorem dX11_knot_5 : decode cX11_knot 5 = .ok (.getstatic 138, 3) := by decide +kernel
theorem dX11_knot_8 : decode cX11_knot 8 = .ok (.iload_n 1, 1) := by decide +kernel
theorem dX11_knot_9 : decode cX11_knot 9 = .ok (.iload_n 2, 1) := by decide +kernel
theorem dX11_knot_10 : decode cX11_knot 10 = .ok (.iconst 0, 1) := by decide +kernel
theorem dX11_knot_11 : decode cX11_knot 11 = .ok (.invokevirtual 63, 3) := by decide +kernel
theorem dX11_knot_14 : decode cX11_knot 14 = .ok (.invokevirtual 67, 3) := by decide +kernel
theorem dX11_knot_17 : decode cX11_knot 17 = .ok (.ireturn, 1) := by decide +kernel
theorem dX11_untie_0 : decode cX11_untie 0 = .ok (.aload_n 0, 1) := by decide +kernel
theorem dX11_untie_1 : decode cX11_untie 1 = .ok (.aload_n 0, 1) := by decide +kernel
theorem dX11_untie_2 : decode cX11_untie 2 = .ok (.getfield 39, 3) := by decide +kernel
theorem dX11_untie_5 : decode cX11_untie 5 = .ok (.getstatic 141, 3) := by decide +kernel
theorem dX11_untie_8 : decode cX11_untie 8 = .ok (.iload_n 1, 1) := by decide +kernel
theorem dX11_untie_9 : decode cX11_untie 9 = .ok (.iload_n 2, 1) := by decide +kernel
theorem dX11_untie_10 : decode cX11_untie 10 = .ok (.iconst 0, 1) := by decide +kernel
theorem dX11_untie_11 : decode cX11_untie 11 = .ok (.invokevirtual 63, 3) := by decide +kernel
theorem dX11_untie_14 : decode cX11_untie 14 = .ok (.invokevirtual 67, 3) := by decide +kernel
theorem dX11_untie_17 : decode cX11_untie 17 = .ok (.ireturn, 1) := by decide +kernel
theorem dX11_mend_0 : decode cX11_mend 0 = .ok (.aload_n 0, 1) := by decide +kernel
theorem dX11_mend_1 : decode cX11_mend 1 = .ok (.aload_n 0, 1) := by decide +kernel
theorem dX11_mend_2 : decode cX11_mend 2 = .ok (.getfield 39, 3) := by decide +kernel
theorem dX11_mend_5 : decode cX11_mend 5 = .ok (.getstatic 144, 3) := by decide +kernel
theorem dX11_mend_8 : decode cX11_mend 8 = .ok (.iload_n 1, 1) := by decide +kernel
theorem dX11_mend_9 : decode cX11_mend 9 = .ok (.iconst 0, 1) := by decide +kernel
theorem dX11_mend_10 : decode cX11_mend 10 = .ok (.iconst 0, 1) := by decide +kernel
theorem dX11_mend_11 : decode cX11_mend 11 = .ok (.invokevirtual 63, 3) := by decide +kernel
theorem dX11_mend_14 : decode cX11_mend 14 = .ok (.invokevirtual 67, 3) := by decide +kernel
theorem dX11_mend_17 : decode cX11_mend 17 = .ok (.ireturn, 1) := by decide +kernel
theorem dX11_rowCount_0 : decode cX11_rowCount 0 = .ok (.aload_n 0, 1) := by decide +kernel
theorem dX11_rowCount_1 : decode cX11_rowCount 1 = .ok (.getfield 12, 3) := by decide +kernel
theorem dX11_rowCount_4 : decode cX11_rowCount 4 = .ok (.getfield 147, 3) := by decide +kernel
theorem dX11_rowCount_7 : decode cX11_rowCount 7 = .ok (.getfield 151, 3) := by decide +kernel
theorem dX11_rowCount_10 : decode cX11_rowCount 10 = .ok (.ireturn, 1) := by decide +kernel
theorem dX11_rowMask_0 : decode cX11_rowMask 0 = .ok (.aload_n 0, 1) := by decide +kernel
theorem dX11_rowMask_1 : decode cX11_rowMask 1 = .ok (.getfield 12, 3) := by decide +kernel
theorem dX11_rowMask_4 : decode cX11_rowMask 4 = .ok (.getfield 147, 3) := by decide +kernel
theorem dX11_rowMask_7 : decode cX11_rowMask 7 = .ok (.iload_n 1, 1) := by decide +kernel
theorem dX11_rowMask_8 : decode cX11_rowMask 8 = .ok (.invokevirtual 154, 3) := by decide +kernel
theorem dX11_rowMask_11 : decode cX11_rowMask 11 = .ok (.invokestatic 98, 3) := by decide +kernel
theorem dX11_rowMask_14 : decode cX11_rowMask 14 = .ok (.aload_n 0, 1) := by decide +kernel
theorem dX11_rowMask_15 : decode cX11_rowMask 15 = .ok (.getfield 12, 3) := by decide +kernel
theorem dX11_rowMask_18 : decode cX11_rowMask 18 = .ok (.getfield 147, 3) := by decide +kernel
theorem dX11_rowMask_21 : decode cX11_rowMask 21 = .ok (.getfield 155, 3) := by decide +kernel
theorem dX11_rowMask_24 : decode cX11_rowMask 24 = .ok (.iload_n 1, 1) := by decide +kernel
theorem dX11_rowMask_25 : decode cX11_rowMask 25 = .ok (.iaload, 1) := by decide +kernel
theorem dX11_rowMask_26 : decode cX11_rowMask 26 = .ok (.ireturn, 1) := by decide +kernel
theorem dX11_rowColour_0 : decode cX11_rowColour 0 = .ok (.aload_n 0, 1) := by decide +kernel
theorem dX11_rowColour_1 : decode cX11_rowColour 1 = .ok (.getfield 12, 3) := by decide +kernel
theorem dX11_rowColour_4 : decode cX11_rowColour 4 = .ok (.getfield 147, 3) := by decide +kernel
theorem dX11_rowColour_7 : decode cX11_rowColour 7 = .ok (.iload_n 1, 1) := by decide +kernel
theorem dX11_rowColour_8 : decode cX11_rowColour 8 = .ok (.invokevirtual 154, 3) := by decide +kernel
theorem dX11_rowColour_11 : decode cX11_rowColour 11 = .ok (.invokestatic 98, 3) := by decide +kernel
theorem dX11_rowColour_14 : decode cX11_rowColour 14 = .ok (.aload_n 0, 1) := by decide +kernel
theorem dX11_rowColour_15 : decode cX11_rowColour 15 = .ok (.getfield 12, 3) := by decide +kernel
theorem dX11_rowColour_18 : decode cX11_rowColour 18 = .ok (.getfield 147, 3) := by decide +kernel
theorem dX11_rowColour_21 : decode cX11_rowColour 21 = .ok (.getfield 158, 3) := by decide +kernel
theorem dX11_rowColour_24 : decode cX11_rowColour 24 = .ok (.iload_n 1, 1) := by decide +kernel
theorem dX11_rowColour_25 : decode cX11_rowColour 25 = .ok (.iaload, 1) := by decide +kernel
theorem dX11_rowColour_26 : decode cX11_rowColour 26 = .ok (.ireturn, 1) := by decide +kernel
theorem dX11_isRaised_0 : decode cX11_isRaised 0 = .ok (.aload_n 0, 1) := by decide +kernel
theorem dX11_isRaised_1 : decode cX11_isRaised 1 = .ok (.getfield 12, 3) := by decide +kernel
theorem dX11_isRaised_4 : decode cX11_isRaised 4 = .ok (.getfield 147, 3) := by decide +kernel
theorem dX11_isRaised_7 : decode cX11_isRaised 7 = .ok (.iload_n 1, 1) := by decide +kernel
theorem dX11_isRaised_8 : decode cX11_isRaised 8 = .ok (.iload_n 2, 1) := by decide +kernel
theorem dX11_isRaised_9 : decode cX11_isRaised 9 = .ok (.invokevirtual 161, 3) := by decide +kernel
theorem dX11_isRaised_12 : decode cX11_isRaised 12 = .ok (.invokestatic 98, 3) := by decide +kernel
theorem dX11_isRaised_15 : decode cX11_isRaised 15 = .ok (.aload_n 0, 1) := by decide +kernel
theorem dX11_isRaised_16 : decode cX11_isRaised 16 = .ok (.getfield 12, 3) := by decide +kernel
theorem dX11_isRaised_19 : decode cX11_isRaised 19 = .ok (.getfield 147, 3) := by decide +kernel
theorem dX11_isRaised_22 : decode cX11_isRaised 22 = .ok (.iload_n 1, 1) := by decide +kernel
theorem dX11_isRaised_23 : decode cX11_isRaised 23 = .ok (.iload_n 2, 1) := by decide +kernel
theorem dX11_isRaised_24 : decode cX11_isRaised 24 = .ok (.invokevirtual 165, 3) := by decide +kernel
theorem dX11_isRaised_27 : decode cX11_isRaised 27 = .ok (.ireturn, 1) := by decide +kernel
theorem dX11_isKnotted_0 : decode cX11_isKnotted 0 = .ok (.aload_n 0, 1) := by decide +kernel
theorem dX11_isKnotted_1 : decode cX11_isKnotted 1 = .ok (.getfield 12, 3) := by decide +kernel
theorem dX11_isKnotted_4 : decode cX11_isKnotted 4 = .ok (.getfield 147, 3) := by decide +kernel
theorem dX11_isKnotted_7 : decode cX11_isKnotted 7 = .ok (.iload_n 1, 1) := by decide +kernel
theorem dX11_isKnotted_8 : decode cX11_isKnotted 8 = .ok (.iload_n 2, 1) := by decide +kernel
theorem dX11_isKnotted_9 : decode cX11_isKnotted 9 = .ok (.invokevirtual 161, 3) := by decide +kernel
theorem dX11_isKnotted_12 : decode cX11_isKnotted 12 = .ok (.invokestatic 98, 3) := by decide +kernel
theorem dX11_isKnotted_15 : decode cX11_isKnotted 15 = .ok (.aload_n 0, 1) := by decide +kernel
theorem dX11_isKnotted_16 : decode cX11_isKnotted 16 = .ok (.getfield 12, 3) := by decide +kernel
theorem dX11_isKnotted_19 : decode cX11_isKnotted 19 = .ok (.getfield 147, 3) := by decide +kernel
theorem dX11_isKnotted_22 : decode cX11_isKnotted 22 = .ok (.iload_n 1, 1) := by decide +kernel
theorem dX11_isKnotted_23 : decode cX11_isKnotted 23 = .ok (.iload_n 2, 1) := by decide +kernel
theorem dX11_isKnotted_24 : decode cX11_isKnotted 24 = .ok (.invokevirtual 168, 3) := by decide +kernel
theorem dX11_isKnotted_27 : decode cX11_isKnotted 27 = .ok (.ireturn, 1) := by decide +kernel
theorem dX11_knotCount_0 : decode cX11_knotCount 0 = .ok (.aload_n 0, 1) := by decide +kernel
theorem dX11_knotCount_1 : decode cX11_knotCount 1 = .ok (.getfield 12, 3) := by decide +kernel
theorem dX11_knotCount_4 : decode cX11_knotCount 4 = .ok (.getfield 147, 3) := by decide +kernel
theorem dX11_knotCount_7 : decode cX11_knotCount 7 = .ok (.invokevirtual 171, 3) := by decide +kernel
theorem dX11_knotCount_10 : decode cX11_knotCount 10 = .ok (.ireturn, 1) := by decide +kernel
theorem dX11_nextKnotRow_0 : decode cX11_nextKnotRow 0 = .ok (.aload_n 0, 1) := by decide +kernel
theorem dX11_nextKnotRow_1 : decode cX11_nextKnotRow 1 = .ok (.iload_n 1, 1) := by decide +kernel
theorem dX11_nextKnotRow_2 : decode cX11_nextKnotRow 2 = .ok (.invokevirtual 174, 3) := by decide +kernel
theorem dX11_nextKnotRow_5 : decode cX11_nextKnotRow 5 = .ok (.ireturn, 1) := by decide +kernel
theorem dX11_nextKnotColumn_0 : decode cX11_nextKnotColumn 0 = .ok (.aload_n 0, 1) := by decide +kernel
theorem dX11_nextKnotColumn_1 : decode cX11_nextKnotColumn 1 = .ok (.getfield 12, 3) := by decide +kernel
theorem dX11_nextKnotColumn_4 : decode cX11_nextKnotColumn 4 = .ok (.getfield 147, 3) := by decide +kernel
theorem dX11_nextKnotColumn_7 : decode cX11_nextKnotColumn 7 = .ok (.aload_n 0, 1) := by decide +kernel
theorem dX11_nextKnotColumn_8 : decode cX11_nextKnotColumn 8 = .ok (.iload_n 1, 1) := by decide +kernel
theorem dX11_nextKnotColumn_9 : decode cX11_nextKnotColumn 9 = .ok (.invokevirtual 174, 3) := by decide +kernel
theorem dX11_nextKnotColumn_12 : decode cX11_nextKnotColumn 12 = .ok (.invokevirtual 177, 3) := by decide +kernel
theorem dX11_nextKnotColumn_15 : decode cX11_nextKnotColumn 15 = .ok (.ireturn, 1) := by decide +kernel
theorem dX11_burn_0 : decode cX11_burn 0 = .ok (.iload_n 1, 1) := by decide +kernel
theorem dX11_burn_1 : decode cX11_burn 1 = .ok (.invokestatic 180, 3) := by decide +kernel
theorem dX11_burn_4 : decode cX11_burn 4 = .ok (.invokestatic 183, 3) := by decide +kernel
theorem dX11_burn_7 : decode cX11_burn 7 = .ok (.aload_n 0, 1) := by decide +kernel
theorem dX11_burn_8 : decode cX11_burn 8 = .ok (.getfield 12, 3) := by decide +kernel
theorem dX11_burn_11 : decode cX11_burn 11 = .ok (.iload_n 1, 1) := by decide +kernel
theorem dX11_burn_12 : decode cX11_burn 12 = .ok (.invokevirtual 186, 3) := by decide +kernel
theorem dX11_burn_15 : decode cX11_burn 15 = .ok (.getfield 190, 3) := by decide +kernel
theorem dX11_burn_18 : decode cX11_burn 18 = .ok (.ireturn, 1) := by decide +kernel
theorem dX11_heat_0 : decode cX11_heat 0 = .ok (.iload_n 1, 1) := by decide +kernel
theorem dX11_heat_1 : decode cX11_heat 1 = .ok (.invokestatic 180, 3) := by decide +kernel
theorem dX11_heat_4 : decode cX11_heat 4 = .ok (.invokestatic 183, 3) := by decide +kernel
theorem dX11_heat_7 : decode cX11_heat 7 = .ok (.aload_n 0, 1) := by decide +kernel
theorem dX11_heat_8 : decode cX11_heat 8 = .ok (.getfield 12, 3) := by decide +kernel
theorem dX11_heat_11 : decode cX11_heat 11 = .ok (.iload_n 1, 1) := by decide +kernel
theorem dX11_heat_12 : decode cX11_heat 12 = .ok (.invokevirtual 186, 3) := by decide +kernel
theorem dX11_heat_15 : decode cX11_heat 15 = .ok (.getfield 195, 3) := by decide +kernel
theorem dX11_heat_18 : decode cX11_heat 18 = .ok (.ireturn, 1) := by decide +kernel
theorem dX11_period_0 : decode cX11_period 0 = .ok (.aload_n 0, 1) := by decide +kernel
theorem dX11_period_1 : decode cX11_period 1 = .ok (.getfield 12, 3) := by decide +kernel
theorem dX11_period_4 : decode cX11_period 4 = .ok (.getfield 147, 3) := by decide +kernel
theorem dX11_period_7 : decode cX11_period 7 = .ok (.getfield 151, 3) := by decide +kernel
theorem dX11_period_10 : decode cX11_period 10 = .ok (.ifCond .le 7, 3) := by decide +kernel
theorem dX11_period_13 : decode cX11_period 13 = .ok (.iconst 1, 1) := by decide +kernel
theorem dX11_period_14 : decode cX11_period 14 = .ok (.goto 4, 3) := by decide +kernel
theorem dX11_period_17 : decode cX11_period 17 = .ok (.iconst 0, 1) := by decide +kernel
theorem dX11_period_18 : decode cX11_period 18 = .ok (.invokestatic 110, 3) := by decide +kernel
theorem dX11_period_21 : decode cX11_period 21 = .ok (.iconst 1, 1) := by decide +kernel
theorem dX11_period_22 : decode cX11_period 22 = .ok (.istore_n 1, 1) := by decide +kernel
theorem dX11_period_23 : decode cX11_period 23 = .ok (.iload_n 1, 1) := by decide +kernel
theorem dX11_period_24 : decode cX11_period 24 = .ok (.aload_n 0, 1) := by decide +kernel
theorem dX11_period_25 : decode cX11_period 25 = .ok (.getfield 12, 3) := by decide +kernel
theorem dX11_period_28 : decode cX11_period 28 = .ok (.getfield 147, 3) := by decide +kernel
theorem dX11_period_31 : decode cX11_period 31 = .ok (.getfield 151, 3) := by decide +kernel
theorem dX11_period_34 : decode cX11_period 34 = .ok (.if_icmp .ge 23, 3) := by decide +kernel
theorem dX11_period_37 : decode cX11_period 37 = .ok (.aload_n 0, 1) := by decide +kernel
theorem dX11_period_38 : decode cX11_period 38 = .ok (.getfield 12, 3) := by decide +kernel
theorem dX11_period_41 : decode cX11_period 41 = .ok (.getfield 147, 3) := by decide +kernel
theorem dX11_period_44 : decode cX11_period 44 = .ok (.iload_n 1, 1) := by decide +kernel
theorem dX11_period_45 : decode cX11_period 45 = .ok (.invokevirtual 198, 3) := by decide +kernel
theorem dX11_period_48 : decode cX11_period 48 = .ok (.ifCond .ne 9, 3) := by decide +kernel
theorem dX11_period_51 : decode cX11_period 51 = .ok (.iinc 1 1, 3) := by decide +kernel
theorem dX11_period_54 : decode cX11_period 54 = .ok (.goto (-31), 3) := by decide +kernel
theorem dX11_period_57 : decode cX11_period 57 = .ok (.iload_n 1, 1) := by decide +kernel
theorem dX11_period_58 : decode cX11_period 58 = .ok (.ireturn, 1) := by decide +kernel
theorem dX11_periodByBorders_0 : decode cX11_periodByBorders 0 = .ok (.aload_n 0, 1) := by decide +kernel
theorem dX11_periodByBorders_1 : decode cX11_periodByBorders 1 = .ok (.getfield 12, 3) := by decide +kernel
theorem dX11_periodByBorders_4 : decode cX11_periodByBorders 4 = .ok (.getfield 147, 3) := by decide +kernel
theorem dX11_periodByBorders_7 : decode cX11_periodByBorders 7 = .ok (.getfield 151, 3) := by decide +kernel
theorem dX11_periodByBorders_10 : decode cX11_periodByBorders 10 = .ok (.ifCond .le 7, 3) := by decide +kernel
theorem dX11_periodByBorders_13 : decode cX11_periodByBorders 13 = .ok (.iconst 1, 1) := by decide +kernel
theorem dX11_periodByBorders_14 : decode cX11_periodByBorders 14 = .ok (.goto 4, 3) := by decide +kernel
theorem dX11_periodByBorders_17 : decode cX11_periodByBorders 17 = .ok (.iconst 0, 1) := by decide +kernel
theorem dX11_periodByBorders_18 : decode cX11_periodByBorders 18 = .ok (.invokestatic 110, 3) := by decide +kernel
theorem dX11_periodByBorders_21 : decode cX11_periodByBorders 21 = .ok (.aload_n 0, 1) := by decide +kernel
theorem dX11_periodByBorders_22 : decode cX11_periodByBorders 22 = .ok (.getfield 12, 3) := by decide +kernel
theorem dX11_periodByBorders_25 : decode cX11_periodByBorders 25 = .ok (.getfield 147, 3) := by decide +kernel
theorem dX11_periodByBorders_28 : decode cX11_periodByBorders 28 = .ok (.getfield 151, 3) := by decide +kernel
theorem dX11_periodByBorders_31 : decode cX11_periodByBorders 31 = .ok (.aload_n 0, 1) := by decide +kernel
theorem dX11_periodByBorders_32 : decode cX11_periodByBorders 32 = .ok (.getfield 12, 3) := by decide +kernel
theorem dX11_periodByBorders_35 : decode cX11_periodByBorders 35 = .ok (.getfield 147, 3) := by decide +kernel
theorem dX11_periodByBorders_38 : decode cX11_periodByBorders 38 = .ok (.invokevirtual 201, 3) := by decide +kernel
theorem dX11_periodByBorders_41 : decode cX11_periodByBorders 41 = .ok (.isub, 1) := by decide +kernel
theorem dX11_periodByBorders_42 : decode cX11_periodByBorders 42 = .ok (.ireturn, 1) := by decide +kernel
theorem dX11_occurrences_0 : decode cX11_occurrences 0 = .ok (.iload_n 1, 1) := by decide +kernel
theorem dX11_occurrences_1 : decode cX11_occurrences 1 = .ok (.iconst 1, 1) := by decide +kernel
theorem dX11_occurrences_2 : decode cX11_occurrences 2 = .ok (.if_icmp .lt 21, 3) := by decide +kernel
theorem dX11_occurrences_5 : decode cX11_occurrences 5 = .ok (.iload_n 1, 1) := by decide +kernel
theorem dX11_occurrences_6 : decode cX11_occurrences 6 = .ok (.aload_n 0, 1) := by decide +kernel
theorem dX11_occurrences_7 : decode cX11_occurrences 7 = .ok (.getfield 12, 3) := by decide +kernel
theorem dX11_occurrences_10 : decode cX11_occurrences 10 = .ok (.getfield 147, 3) := by decide +kernel
theorem dX11_occurrences_13 : decode cX11_occurrences 13 = .ok (.getfield 151, 3) := by decide +kernel
theorem dX11_occurrences_16 : decode cX11_occurrences 16 = .ok (.if_icmp .gt 7, 3) := by decide +kernel
theorem dX11_occurrences_19 : decode cX11_occurrences 19 = .ok (.iconst 1, 1) := by decide +kernel
theorem dX11_occurrences_20 : decode cX11_occurrences 20 = .ok (.goto 4, 3) := by decide +kernel
theorem dX11_occurrences_23 : decode cX11_occurrences 23 = .ok (.iconst 0, 1) := by decide +kernel
theorem dX11_occurrences_24 : decode cX11_occurrences 24 = .ok (.invokestatic 183, 3) := by decide +kernel
theorem dX11_occurrences_27 : decode cX11_occurrences 27 = .ok (.aload_n 0, 1) := by decide +kernel
theorem dX11_occurrences_28 : decode cX11_occurrences 28 = .ok (.getfield 12, 3) := by decide +kernel
theorem dX11_occurrences_31 : decode cX11_occurrences 31 = .ok (.getfield 147, 3) := by decide +kernel
theorem dX11_occurrences_34 : decode cX11_occurrences 34 = .ok (.iload_n 1, 1) := by decide +kernel
theorem dX11_occurrences_35 : decode cX11_occurrences 35 = .ok (.invokevirtual 204, 3) := by decide +kernel
theorem dX11_occurrences_38 : decode cX11_occurrences 38 = .ok (.ireturn, 1) := by decide +kernel
theorem dX11_distinctRows_0 : decode cX11_distinctRows 0 = .ok (.aload_n 0, 1) := by decide +kernel
theorem dX11_distinctRows_1 : decode cX11_distinctRows 1 = .ok (.getfield 12, 3) := by decide +kernel
theorem dX11_distinctRows_4 : decode cX11_distinctRows 4 = .ok (.getfield 147, 3) := by decide +kernel
theorem dX11_distinctRows_7 : decode cX11_distinctRows 7 = .ok (.invokevirtual 207, 3) := by decide +kernel
theorem dX11_distinctRows_10 : decode cX11_distinctRows 10 = .ok (.ireturn, 1) := by decide +kernel
theorem dX11_distance_0 : decode cX11_distance 0 = .ok (.aload_n 0, 1) := by decide +kernel
theorem dX11_distance_1 : decode cX11_distance 1 = .ok (.getfield 12, 3) := by decide +kernel
theorem dX11_distance_4 : decode cX11_distance 4 = .ok (.getfield 147, 3) := by decide +kernel
theorem dX11_distance_7 : decode cX11_distance 7 = .ok (.iload_n 1, 1) := by decide +kernel
theorem dX11_distance_8 : decode cX11_distance 8 = .ok (.invokevirtual 154, 3) := by decide +kernel
theorem dX11_distance_11 : decode cX11_distance 11 = .ok (.ifCond .eq 21, 3) := by decide +kernel
theorem dX11_distance_14 : decode cX11_distance 14 = .ok (.aload_n 0, 1) := by decide +kernel
theorem dX11_distance_15 : decode cX11_distance 15 = .ok (.getfield 12, 3) := by decide +kernel
theorem dX11_distance_18 : decode cX11_distance 18 = .ok (.getfield 147, 3) := by decide +kernel
theorem dX11_distance_21 : decode cX11_distance 21 = .ok (.iload_n 2, 1) := by decide +kernel
theorem dX11_distance_22 : decode cX11_distance 22 = .ok (.invokevirtual 154, 3) := by decide +kernel
theorem dX11_distance_25 : decode cX11_distance 25 = .ok (.ifCond .eq 7, 3) := by decide +kernel
theorem dX11_distance_28 : decode cX11_distance 28 = .ok (.iconst 1, 1) := by decide +kernel
theorem dX11_distance_29 : decode cX11_distance 29 = .ok (.goto 4, 3) := by decide +kernel
theorem dX11_distance_32 : decode cX11_distance 32 = .ok (.iconst 0, 1) := by decide +kernel
theorem dX11_distance_33 : decode cX11_distance 33 = .ok (.invokestatic 98, 3) := by decide +kernel
theorem dX11_distance_36 : decode cX11_distance 36 = .ok (.aload_n 0, 1) := by decide +kernel
theorem dX11_distance_37 : decode cX11_distance 37 = .ok (.getfield 12, 3) := by decide +kernel
theorem dX11_distance_40 : decode cX11_distance 40 = .ok (.getfield 147, 3) := by decide +kernel
theorem dX11_distance_43 : decode cX11_distance 43 = .ok (.getfield 155, 3) := by decide +kernel
theorem dX11_distance_46 : decode cX11_distance 46 = .ok (.iload_n 1, 1) := by decide +kernel
theorem dX11_distance_47 : decode cX11_distance 47 = .ok (.iaload, 1) := by decide +kernel
theorem dX11_distance_48 : decode cX11_distance 48 = .ok (.aload_n 0, 1) := by decide +kernel
theorem dX11_distance_49 : decode cX11_distance 49 = .ok (.getfield 12, 3) := by decide +kernel
theorem dX11_distance_52 : decode cX11_distance 52 = .ok (.getfield 147, 3) := by decide +kernel
theorem dX11_distance_55 : decode cX11_distance 55 = .ok (.getfield 155, 3) := by decide +kernel
theorem dX11_distance_58 : decode cX11_distance 58 = .ok (.iload_n 2, 1) := by decide +kernel
theorem dX11_distance_59 : decode cX11_distance 59 = .ok (.iaload, 1) := by decide +kernel
theorem dX11_distance_60 : decode cX11_distance 60 = .ok (.ixor, 1) := by decide +kernel
theorem dX11_distance_61 : decode cX11_distance 61 = .ok (.invokestatic 210, 3) := by decide +kernel
theorem dX11_distance_64 : decode cX11_distance 64 = .ok (.ireturn, 1) := by decide +kernel
theorem dX11_longestFloat_0 : decode cX11_longestFloat 0 = .ok (.iload_n 1, 1) := by decide +kernel
theorem dX11_longestFloat_1 : decode cX11_longestFloat 1 = .ok (.invokestatic 215, 3) := by decide +kernel
theorem dX11_longestFloat_4 : decode cX11_longestFloat 4 = .ok (.invokestatic 98, 3) := by decide +kernel
theorem dX11_longestFloat_7 : decode cX11_longestFloat 7 = .ok (.aload_n 0, 1) := by decide +kernel
theorem dX11_longestFloat_8 : decode cX11_longestFloat 8 = .ok (.getfield 12, 3) := by decide +kernel
theorem dX11_longestFloat_11 : decode cX11_longestFloat 11 = .ok (.getfield 147, 3) := by decide +kernel
theorem dX11_longestFloat_14 : decode cX11_longestFloat 14 = .ok (.iload_n 1, 1) := by decide +kernel
theorem dX11_longestFloat_15 : decode cX11_longestFloat 15 = .ok (.invokevirtual 218, 3) := by decide +kernel
theorem dX11_longestFloat_18 : decode cX11_longestFloat 18 = .ok (.ireturn, 1) := by decide +kernel
theorem dX11_isSymmetric_0 : decode cX11_isSymmetric 0 = .ok (.aload_n 0, 1) := by decide +kernel
theorem dX11_isSymmetric_1 : decode cX11_isSymmetric 1 = .ok (.getfield 12, 3) := by decide +kernel
theorem dX11_isSymmetric_4 : decode cX11_isSymmetric 4 = .ok (.getfield 147, 3) := by decide +kernel
theorem dX11_isSymmetric_7 : decode cX11_isSymmetric 7 = .ok (.invokevirtual 221, 3) := by decide +kernel
theorem dX11_isSymmetric_10 : decode cX11_isSymmetric 10 = .ok (.ireturn, 1) := by decide +kernel
theorem dX11_wovenTotal_0 : decode cX11_wovenTotal 0 = .ok (.aload_n 0, 1) := by decide +kernel
theorem dX11_wovenTotal_1 : decode cX11_wovenTotal 1 = .ok (.getfield 12, 3) := by decide +kernel
theorem dX11_wovenTotal_4 : decode cX11_wovenTotal 4 = .ok (.getfield 225, 3) := by decide +kernel
theorem dX11_wovenTotal_7 : decode cX11_wovenTotal 7 = .ok (.ireturn, 1) := by decide +kernel
theorem dX11_waxUsed_0 : decode cX11_waxUsed 0 = .ok (.aload_n 0, 1) := by decide +kernel
theorem dX11_waxUsed_1 : decode cX11_waxUsed 1 = .ok (.getfield 12, 3) := by decide +kernel
theorem dX11_waxUsed_4 : decode cX11_waxUsed 4 = .ok (.getfield 228, 3) := by decide +kernel
theorem dX11_waxUsed_7 : decode cX11_waxUsed 7 = .ok (.ireturn, 1) := by decide +kernel
theorem dX11_meanRaised_0 : decode cX11_meanRaised 0 = .ok (.aload_n 0, 1) := by decide +kernel
theorem dX11_meanRaised_1 : decode cX11_meanRaised 1 = .ok (.getfield 12, 3) := by decide +kernel
theorem dX11_meanRaised_4 : decode cX11_meanRaised 4 = .ok (.getfield 147, 3) := by decide +kernel
theorem dX11_meanRaised_7 : decode cX11_meanRaised 7 = .ok (.getfield 151, 3) := by decide +kernel
theorem dX11_meanRaised_10 : decode cX11_meanRaised 10 = .ok (.invokestatic 231, 3) := by decide +kernel
theorem dX11_meanRaised_13 : decode cX11_meanRaised 13 = .ok (.aload_n 0, 1) := by decide +kernel
theorem dX11_meanRaised_14 : decode cX11_meanRaised 14 = .ok (.getfield 12, 3) := by decide +kernel
theorem dX11_meanRaised_17 : decode cX11_meanRaised 17 = .ok (.getfield 147, 3) := by decide +kernel
theorem dX11_meanRaised_20 : decode cX11_meanRaised 20 = .ok (.invokevirtual 235, 3) := by decide +kernel
theorem dX11_meanRaised_23 : decode cX11_meanRaised 23 = .ok (.i2d, 1) := by decide +kernel
theorem dX11_meanRaised_24 : decode cX11_meanRaised 24 = .ok (.aload_n 0, 1) := by decide +kernel
theorem dX11_meanRaised_25 : decode cX11_meanRaised 25 = .ok (.getfield 12, 3) := by decide +kernel
theorem dX11_meanRaised_28 : decode cX11_meanRaised 28 = .ok (.getfield 147, 3) := by decide +kernel
theorem dX11_meanRaised_31 : decode cX11_meanRaised 31 = .ok (.getfield 151, 3) := by decide +kernel
theorem dX11_meanRaised_34 : decode cX11_meanRaised 34 = .ok (.i2d, 1) := by decide +kernel
theorem dX11_meanRaised_35 : decode cX11_meanRaised 35 = .ok (.ddiv, 1) := by decide +kernel
theorem dX11_meanRaised_36 : decode cX11_meanRaised 36 = .ok (.dreturn, 1) := by decide +kernel
theorem dX11_knotShare_0 : decode cX11_knotShare 0 = .ok (.aload_n 0, 1) := by decide +kernel
theorem dX11_knotShare_1 : decode cX11_knotShare 1 = .ok (.getfield 12, 3) := by decide +kernel
theorem dX11_knotShare_4 : decode cX11_knotShare 4 = .ok (.getfield 147, 3) := by decide +kernel
theorem dX11_knotShare_7 : decode cX11_knotShare 7 = .ok (.getfield 151, 3) := by decide +kernel
theorem dX11_knotShare_10 : decode cX11_knotShare 10 = .ok (.invokestatic 231, 3) := by decide +kernel
theorem dX11_knotShare_13 : decode cX11_knotShare 13 = .ok (.aload_n 0, 1) := by decide +kernel
theorem dX11_knotShare_14 : decode cX11_knotShare 14 = .ok (.getfield 12, 3) := by decide +kernel
theorem dX11_knotShare_17 : decode cX11_knotShare 17 = .ok (.getfield 147, 3) := by decide +kernel
theorem dX11_knotShare_20 : decode cX11_knotShare 20 = .ok (.invokevirtual 171, 3) := by decide +kernel
theorem dX11_knotShare_23 : decode cX11_knotShare 23 = .ok (.i2f, 1) := by decide +kernel
theorem dX11_knotShare_24 : decode cX11_knotShare 24 = .ok (.aload_n 0, 1) := by decide +kernel
theorem dX11_knotShare_25 : decode cX11_knotShare 25 = .ok (.getfield 12, 3) := by decide +kernel
theorem dX11_knotShare_28 : decode cX11_knotShare 28 = .ok (.getfield 147, 3) := by decide +kernel
theorem dX11_knotShare_31 : decode cX11_knotShare 31 = .ok (.getfield 151, 3) := by decide +kernel
theorem dX11_knotShare_34 : decode cX11_knotShare 34 = .ok (.bipush 16, 2) := by decide +kernel
theorem dX11_knotShare_36 : decode cX11_knotShare 36 = .ok (.imul, 1) := by decide +kernel
theorem dX11_knotShare_37 : decode cX11_knotShare 37 = .ok (.i2f, 1) := by decide +kernel
theorem dX11_knotShare_38 : decode cX11_knotShare 38 = .ok (.fdiv, 1) := by decide +kernel
theorem dX11_knotShare_39 : decode cX11_knotShare 39 = .ok (.freturn, 1) := by decide +kernel
theorem dX11_feed_0 : decode cX11_feed 0 = .ok (.aload_n 0, 1) := by decide +kernel
theorem dX11_feed_1 : decode cX11_feed 1 = .ok (.getfield 46, 3) := by decide +kernel
theorem dX11_feed_4 : decode cX11_feed 4 = .ok (.invokevirtual 238, 3) := by decide +kernel
theorem dX11_feed_7 : decode cX11_feed 7 = .ok (.ifCond .ne 7, 3) := by decide +kernel
theorem dX11_feed_10 : decode cX11_feed 10 = .ok (.iconst 1, 1) := by decide +kernel
theorem dX11_feed_11 : decode cX11_feed 11 = .ok (.goto 4, 3) := by decide +kernel
theorem dX11_feed_14 : decode cX11_feed 14 = .ok (.iconst 0, 1) := by decide +kernel
theorem dX11_feed_15 : decode cX11_feed 15 = .ok (.invokestatic 241, 3) := by decide +kernel
theorem dX11_feed_18 : decode cX11_feed 18 = .ok (.aload_n 0, 1) := by decide +kernel
theorem dX11_feed_19 : decode cX11_feed 19 = .ok (.getfield 46, 3) := by decide +kernel
theorem dX11_feed_22 : decode cX11_feed 22 = .ok (.iload_n 1, 1) := by decide +kernel
theorem dX11_feed_23 : decode cX11_feed 23 = .ok (.invokevirtual 244, 3) := by decide +kernel
theorem dX11_feed_26 : decode cX11_feed 26 = .ok (.ireturn, 1) := by decide +kernel
theorem dX11_execute_0 : decode cX11_execute 0 = .ok (.aload_n 0, 1) := by decide +kernel
theorem dX11_execute_1 : decode cX11_execute 1 = .ok (.getfield 46, 3) := by decide +kernel
theorem dX11_execute_4 : decode cX11_execute 4 = .ok (.invokevirtual 248, 3) := by decide +kernel
theorem dX11_execute_7 : decode cX11_execute 7 = .ok (.istore_n 1, 1) := by decide +kernel
theorem dX11_execute_8 : decode cX11_execute 8 = .ok (.aload_n 0, 1) := by decide +kernel
theorem dX11_execute_9 : decode cX11_execute 9 = .ok (.getfield 46, 3) := by decide +kernel
theorem dX11_execute_12 : decode cX11_execute 12 = .ok (.invokevirtual 251, 3) := by decide +kernel
theorem dX11_execute_15 : decode cX11_execute 15 = .ok (.iload_n 1, 1) := by decide +kernel
theorem dX11_execute_16 : decode cX11_execute 16 = .ok (.ifCond .ne 19, 3) := by decide +kernel
theorem dX11_execute_19 : decode cX11_execute 19 = .ok (.aload_n 0, 1) := by decide +kernel
theorem dX11_execute_20 : decode cX11_execute 20 = .ok (.iconst 1, 1) := by decide +kernel
theorem dX11_execute_21 : decode cX11_execute 21 = .ok (.putfield 254, 3) := by decide +kernel
theorem dX11_execute_24 : decode cX11_execute 24 = .ok (.aload_n 0, 1) := by decide +kernel
theorem dX11_execute_25 : decode cX11_execute 25 = .ok (.aload_n 0, 1) := by decide +kernel
theorem dX11_execute_26 : decode cX11_execute 26 = .ok (.getfield 46, 3) := by decide +kernel
theorem dX11_execute_29 : decode cX11_execute 29 = .ok (.getfield 258, 3) := by decide +kernel
theorem dX11_execute_32 : decode cX11_execute 32 = .ok (.putfield 261, 3) := by decide +kernel
theorem dX11_execute_35 : decode cX11_execute 35 = .ok (.iload_n 1, 1) := by decide +kernel
theorem dX11_execute_36 : decode cX11_execute 36 = .ok (.invokestatic 183, 3) := by decide +kernel
theorem dX11_execute_39 : decode cX11_execute 39 = .ok (.aload_n 0, 1) := by decide +kernel
theorem dX11_execute_40 : decode cX11_execute 40 = .ok (.getfield 16, 3) := by decide +kernel
theorem dX11_execute_43 : decode cX11_execute 43 = .ok (.aload_n 0, 1) := by decide +kernel
theorem dX11_execute_44 : decode cX11_execute 44 = .ok (.getfield 12, 3) := by decide +kernel
theorem dX11_execute_47 : decode cX11_execute 47 = .ok (.invokevirtual 264, 3) := by decide +kernel
theorem dX11_execute_50 : decode cX11_execute 50 = .ok (.aload_n 0, 1) := by decide +kernel
theorem dX11_execute_51 : decode cX11_execute 51 = .ok (.invokevirtual 268, 3) := by decide +kernel
theorem dX11_execute_54 : decode cX11_execute 54 = .ok (.istore_n 2, 1) := by decide +kernel
theorem dX11_execute_55 : decode cX11_execute 55 = .ok (.iload_n 2, 1) := by decide +kernel
theorem dX11_execute_56 : decode cX11_execute 56 = .ok (.ifCond .lt 21, 3) := by decide +kernel
theorem dX11_execute_59 : decode cX11_execute 59 = .ok (.aload_n 0, 1) := by decide +kernel
theorem dX11_execute_60 : decode cX11_execute 60 = .ok (.getfield 12, 3) := by decide +kernel
theorem dX11_execute_63 : decode cX11_execute 63 = .ok (.aload_n 0, 1) := by decide +kernel
theorem dX11_execute_64 : decode cX11_execute 64 = .ok (.getfield 16, 3) := by decide +kernel
theorem dX11_execute_67 : decode cX11_execute 67 = .ok (.invokevirtual 264, 3) := by decide +kernel
theorem dX11_execute_70 : decode cX11_execute 70 = .ok (.aload_n 0, 1) := by decide +kernel
theorem dX11_execute_71 : decode cX11_execute 71 = .ok (.bipush 7, 2) := by decide +kernel
theorem dX11_execute_73 : decode cX11_execute 73 = .ok (.iload_n 2, 1) := by decide +kernel
theorem dX11_execute_74 : decode cX11_execute 74 = .ok (.invokevirtual 271, 3) := by decide +kernel
theorem dX11_execute_77 : decode cX11_execute 77 = .ok (.aload_n 0, 1) := by decide +kernel
theorem dX11_execute_78 : decode cX11_execute 78 = .ok (.getfield 25, 3) := by decide +kernel
theorem dX11_execute_81 : decode cX11_execute 81 = .ok (.aload_n 0, 1) := by decide +kernel
theorem dX11_execute_82 : decode cX11_execute 82 = .ok (.getfield 16, 3) := by decide +kernel
theorem dX11_execute_85 : decode cX11_execute 85 = .ok (.invokevirtual 275, 3) := by decide +kernel
theorem dX11_execute_88 : decode cX11_execute 88 = .ok (.aload_n 0, 1) := by decide +kernel
theorem dX11_execute_89 : decode cX11_execute 89 = .ok (.getfield 46, 3) := by decide +kernel
theorem dX11_execute_92 : decode cX11_execute 92 = .ok (.getfield 278, 3) := by decide +kernel
theorem dX11_execute_95 : decode cX11_execute 95 = .ok (.ireturn, 1) := by decide +kernel
theorem dX11_writeRow_0 : decode cX11_writeRow 0 = .ok (.aload_n 0, 1) := by decide +kernel
theorem dX11_writeRow_1 : decode cX11_writeRow 1 = .ok (.getfield 12, 3) := by decide +kernel
theorem dX11_writeRow_4 : decode cX11_writeRow 4 = .ok (.getfield 147, 3) := by decide +kernel
theorem dX11_writeRow_7 : decode cX11_writeRow 7 = .ok (.iload_n 1, 1) := by decide +kernel
theorem dX11_writeRow_8 : decode cX11_writeRow 8 = .ok (.invokevirtual 154, 3) := by decide +kernel
theorem dX11_writeRow_11 : decode cX11_writeRow 11 = .ok (.invokestatic 98, 3) := by decide +kernel
theorem dX11_writeRow_14 : decode cX11_writeRow 14 = .ok (.aload_n 0, 1) := by decide +kernel
theorem dX11_writeRow_15 : decode cX11_writeRow 15 = .ok (.getfield 53, 3) := by decide +kernel
theorem dX11_writeRow_18 : decode cX11_writeRow 18 = .ok (.aload_n 0, 1) := by decide +kernel
theorem dX11_writeRow_19 : decode cX11_writeRow 19 = .ok (.getfield 12, 3) := by decide +kernel
theorem dX11_writeRow_22 : decode cX11_writeRow 22 = .ok (.getfield 147, 3) := by decide +kernel
theorem dX11_writeRow_25 : decode cX11_writeRow 25 = .ok (.iload_n 1, 1) := by decide +kernel
theorem dX11_writeRow_26 : decode cX11_writeRow 26 = .ok (.invokevirtual 281, 3) := by decide +kernel
theorem dX11_writeRow_29 : decode cX11_writeRow 29 = .ok (.aload_n 0, 1) := by decide +kernel
theorem dX11_writeRow_30 : decode cX11_writeRow 30 = .ok (.getfield 53, 3) := by decide +kernel
theorem dX11_writeRow_33 : decode cX11_writeRow 33 = .ok (.getfield 285, 3) := by decide +kernel
theorem dX11_writeRow_36 : decode cX11_writeRow 36 = .ok (.ireturn, 1) := by decide +kernel
theorem dX11_lineCharacter_0 : decode cX11_lineCharacter 0 = .ok (.iload_n 1, 1) := by decide +kernel
theorem dX11_lineCharacter_1 : decode cX11_lineCharacter 1 = .ok (.ifCond .lt 18, 3) := by decide +kernel
theorem dX11_lineCharacter_4 : decode cX11_lineCharacter 4 = .ok (.iload_n 1, 1) := by decide +kernel
theorem dX11_lineCharacter_5 : decode cX11_lineCharacter 5 = .ok (.aload_n 0, 1) := by decide +kernel
theorem dX11_lineCharacter_6 : decode cX11_lineCharacter 6 = .ok (.getfield 53, 3) := by decide +kernel
theorem dX11_lineCharacter_9 : decode cX11_lineCharacter 9 = .ok (.getfield 285, 3) := by decide +kernel
theorem dX11_lineCharacter_12 : decode cX11_lineCharacter 12 = .ok (.if_icmp .ge 7, 3) := by decide +kernel
theorem dX11_lineCharacter_15 : decode cX11_lineCharacter 15 = .ok (.iconst 1, 1) := by decide +kernel
theorem dX11_lineCharacter_16 : decode cX11_lineCharacter 16 = .ok (.goto 4, 3) := by decide +kernel
theorem dX11_lineCharacter_19 : decode cX11_lineCharacter 19 = .ok (.iconst 0, 1) := by decide +kernel
theorem dX11_lineCharacter_20 : decode cX11_lineCharacter 20 = .ok (.invokestatic 98, 3) := by decide +kernel
theorem dX11_lineCharacter_23 : decode cX11_lineCharacter 23 = .ok (.aload_n 0, 1) := by decide +kernel
theorem dX11_lineCharacter_24 : decode cX11_lineCharacter 24 = .ok (.getfield 53, 3) := by decide +kernel
theorem dX11_lineCharacter_27 : decode cX11_lineCharacter 27 = .ok (.getfield 292, 3) := by decide +kernel
theorem dX11_lineCharacter_30 : decode cX11_lineCharacter 30 = .ok (.iload_n 1, 1) := by decide +kernel
theorem dX11_lineCharacter_31 : decode cX11_lineCharacter 31 = .ok (.caload, 1) := by decide +kernel
theorem dX11_lineCharacter_32 : decode cX11_lineCharacter 32 = .ok (.ireturn, 1) := by decide +kernel
theorem dX11_denial_0 : decode cX11_denial 0 = .ok (.aload_n 0, 1) := by decide +kernel
theorem dX11_denial_1 : decode cX11_denial 1 = .ok (.getfield 296, 3) := by decide +kernel
theorem dX11_denial_4 : decode cX11_denial 4 = .ok (.ifCond .eq 7, 3) := by decide +kernel
theorem dX11_denial_7 : decode cX11_denial 7 = .ok (.iconst 1, 1) := by decide +kernel
theorem dX11_denial_8 : decode cX11_denial 8 = .ok (.goto 4, 3) := by decide +kernel
theorem dX11_denial_11 : decode cX11_denial 11 = .ok (.iconst 0, 1) := by decide +kernel
theorem dX11_denial_12 : decode cX11_denial 12 = .ok (.invokestatic 110, 3) := by decide +kernel
theorem dX11_denial_15 : decode cX11_denial 15 = .ok (.aload_n 0, 1) := by decide +kernel
theorem dX11_denial_16 : decode cX11_denial 16 = .ok (.getfield 296, 3) := by decide +kernel
theorem dX11_denial_19 : decode cX11_denial 19 = .ok (.ireturn, 1) := by decide +kernel
theorem dX11_denialCause_0 : decode cX11_denialCause 0 = .ok (.aload_n 0, 1) := by decide +kernel
theorem dX11_denialCause_1 : decode cX11_denialCause 1 = .ok (.getfield 296, 3) := by decide +kernel
theorem dX11_denialCause_4 : decode cX11_denialCause 4 = .ok (.bipush 7, 2) := by decide +kernel
theorem dX11_denialCause_6 : decode cX11_denialCause 6 = .ok (.if_icmp .ne 7, 3) := by decide +kernel
theorem dX11_denialCause_9 : decode cX11_denialCause 9 = .ok (.iconst 1, 1) := by decide +kernel
theorem dX11_denialCause_10 : decode cX11_denialCause 10 = .ok (.goto 4, 3) := by decide +kernel
theorem dX11_denialCause_13 : decode cX11_denialCause 13 = .ok (.iconst 0, 1) := by decide +kernel
theorem dX11_denialCause_14 : decode cX11_denialCause 14 = .ok (.invokestatic 110, 3) := by decide +kernel
theorem dX11_denialCause_17 : decode cX11_denialCause 17 = .ok (.aload_n 0, 1) := by decide +kernel
theorem dX11_denialCause_18 : decode cX11_denialCause 18 = .ok (.getfield 302, 3) := by decide +kernel
theorem dX11_denialCause_21 : decode cX11_denialCause 21 = .ok (.ireturn, 1) := by decide +kernel
theorem dX11_undo_0 : decode cX11_undo 0 = .ok (.aload_n 0, 1) := by decide +kernel
theorem dX11_undo_1 : decode cX11_undo 1 = .ok (.getfield 25, 3) := by decide +kernel
theorem dX11_undo_4 : decode cX11_undo 4 = .ok (.getfield 305, 3) := by decide +kernel
theorem dX11_undo_7 : decode cX11_undo 7 = .ok (.ifCond .le 7, 3) := by decide +kernel
theorem dX11_undo_10 : decode cX11_undo 10 = .ok (.iconst 1, 1) := by decide +kernel
theorem dX11_undo_11 : decode cX11_undo 11 = .ok (.goto 4, 3) := by decide +kernel
theorem dX11_undo_14 : decode cX11_undo 14 = .ok (.iconst 0, 1) := by decide +kernel
theorem dX11_undo_15 : decode cX11_undo 15 = .ok (.invokestatic 241, 3) := by decide +kernel
theorem dX11_undo_18 : decode cX11_undo 18 = .ok (.aload_n 0, 1) := by decide +kernel
theorem dX11_undo_19 : decode cX11_undo 19 = .ok (.getfield 25, 3) := by decide +kernel
theorem dX11_undo_22 : decode cX11_undo 22 = .ok (.aload_n 0, 1) := by decide +kernel
theorem dX11_undo_23 : decode cX11_undo 23 = .ok (.getfield 12, 3) := by decide +kernel
theorem dX11_undo_26 : decode cX11_undo 26 = .ok (.invokevirtual 306, 3) := by decide +kernel
theorem dX11_undo_29 : decode cX11_undo 29 = .ok (.aload_n 0, 1) := by decide +kernel
theorem dX11_undo_30 : decode cX11_undo 30 = .ok (.getfield 25, 3) := by decide +kernel
theorem dX11_undo_33 : decode cX11_undo 33 = .ok (.getfield 305, 3) := by decide +kernel
theorem dX11_undo_36 : decode cX11_undo 36 = .ok (.ireturn, 1) := by decide +kernel
theorem dX11_undoCount_0 : decode cX11_undoCount 0 = .ok (.aload_n 0, 1) := by decide +kernel
theorem dX11_undoCount_1 : decode cX11_undoCount 1 = .ok (.getfield 25, 3) := by decide +kernel
theorem dX11_undoCount_4 : decode cX11_undoCount 4 = .ok (.getfield 305, 3) := by decide +kernel
theorem dX11_undoCount_7 : decode cX11_undoCount 7 = .ok (.ireturn, 1) := by decide +kernel
theorem dX11_saveSnapshot_0 : decode cX11_saveSnapshot 0 = .ok (.aload_n 0, 1) := by decide +kernel
theorem dX11_saveSnapshot_1 : decode cX11_saveSnapshot 1 = .ok (.getfield 19, 3) := by decide +kernel
theorem dX11_saveSnapshot_4 : decode cX11_saveSnapshot 4 = .ok (.aload_n 0, 1) := by decide +kernel
theorem dX11_saveSnapshot_5 : decode cX11_saveSnapshot 5 = .ok (.getfield 12, 3) := by decide +kernel
theorem dX11_saveSnapshot_8 : decode cX11_saveSnapshot 8 = .ok (.invokevirtual 264, 3) := by decide +kernel
theorem dX11_saveSnapshot_11 : decode cX11_saveSnapshot 11 = .ok (.aload_n 0, 1) := by decide +kernel
theorem dX11_saveSnapshot_12 : decode cX11_saveSnapshot 12 = .ok (.iconst 1, 1) := by decide +kernel
theorem dX11_saveSnapshot_13 : decode cX11_saveSnapshot 13 = .ok (.putfield 309, 3) := by decide +kernel
theorem dX11_saveSnapshot_16 : decode cX11_saveSnapshot 16 = .ok (.aload_n 0, 1) := by decide +kernel
theorem dX11_saveSnapshot_17 : decode cX11_saveSnapshot 17 = .ok (.getfield 12, 3) := by decide +kernel
theorem dX11_saveSnapshot_20 : decode cX11_saveSnapshot 20 = .ok (.getfield 147, 3) := by decide +kernel
theorem dX11_saveSnapshot_23 : decode cX11_saveSnapshot 23 = .ok (.getfield 151, 3) := by decide +kernel
theorem dX11_saveSnapshot_26 : decode cX11_saveSnapshot 26 = .ok (.ireturn, 1) := by decide +kernel
theorem dX11_restoreSnapshot_0 : decode cX11_restoreSnapshot 0 = .ok (.aload_n 0, 1) := by decide +kernel
theorem dX11_restoreSnapshot_1 : decode cX11_restoreSnapshot 1 = .ok (.getfield 309, 3) := by decide +kernel
theorem dX11_restoreSnapshot_4 : decode cX11_restoreSnapshot 4 = .ok (.invokestatic 241, 3) := by decide +kernel
theorem dX11_restoreSnapshot_7 : decode cX11_restoreSnapshot 7 = .ok (.aload_n 0, 1) := by decide +kernel
theorem dX11_restoreSnapshot_8 : decode cX11_restoreSnapshot 8 = .ok (.getfield 12, 3) := by decide +kernel
theorem dX11_restoreSnapshot_11 : decode cX11_restoreSnapshot 11 = .ok (.aload_n 0, 1) := by decide +kernel
theorem dX11_restoreSnapshot_12 : decode cX11_restoreSnapshot 12 = .ok (.getfield 19, 3) := by decide +kernel
theorem dX11_restoreSnapshot_15 : decode cX11_restoreSnapshot 15 = .ok (.invokevirtual 264, 3) := by decide +kernel
theorem dX11_restoreSnapshot_18 : decode cX11_restoreSnapshot 18 = .ok (.aload_n 0, 1) := by decide +kernel
theorem dX11_restoreSnapshot_19 : decode cX11_restoreSnapshot 19 = .ok (.getfield 25, 3) := by decide +kernel
theorem dX11_restoreSnapshot_22 : decode cX11_restoreSnapshot 22 = .ok (.invokevirtual 312, 3) := by decide +kernel
theorem dX11_restoreSnapshot_25 : decode cX11_restoreSnapshot 25 = .ok (.aload_n 0, 1) := by decide +kernel
theorem dX11_restoreSnapshot_26 : decode cX11_restoreSnapshot 26 = .ok (.getfield 12, 3) := by decide +kernel
theorem dX11_restoreSnapshot_29 : decode cX11_restoreSnapshot 29 = .ok (.getfield 147, 3) := by decide +kernel
theorem dX11_restoreSnapshot_32 : decode cX11_restoreSnapshot 32 = .ok (.getfield 151, 3) := by decide +kernel
theorem dX11_restoreSnapshot_35 : decode cX11_restoreSnapshot 35 = .ok (.ireturn, 1) := by decide +kernel
theorem dX11_change_0 : decode cX11_change 0 = .ok (.aload_n 0, 1) := by decide +kernel
theorem dX11_change_1 : decode cX11_change 1 = .ok (.getfield 32, 3) := by decide +kernel
theorem dX11_change_4 : decode cX11_change 4 = .ok (.aload_n 1, 1) := by decide +kernel
theorem dX11_change_5 : decode cX11_change 5 = .ok (.aload_n 0, 1) := by decide +kernel
theorem dX11_change_6 : decode cX11_change 6 = .ok (.getfield 12, 3) := by decide +kernel
theorem dX11_change_9 : decode cX11_change 9 = .ok (.invokevirtual 315, 3) := by decide +kernel
theorem dX11_change_12 : decode cX11_change 12 = .ok (.istore_n 2, 1) := by decide +kernel
theorem dX11_change_13 : decode cX11_change 13 = .ok (.iload_n 2, 1) := by decide +kernel
theorem dX11_change_14 : decode cX11_change 14 = .ok (.bipush 9, 2) := by decide +kernel
theorem dX11_change_16 : decode cX11_change 16 = .ok (.if_icmp .eq 7, 3) := by decide +kernel
theorem dX11_change_19 : decode cX11_change 19 = .ok (.iconst 1, 1) := by decide +kernel
theorem dX11_change_20 : decode cX11_change 20 = .ok (.goto 4, 3) := by decide +kernel
theorem dX11_change_23 : decode cX11_change 23 = .ok (.iconst 0, 1) := by decide +kernel
theorem dX11_change_24 : decode cX11_change 24 = .ok (.invokestatic 183, 3) := by decide +kernel
theorem dX11_change_27 : decode cX11_change 27 = .ok (.iload_n 2, 1) := by decide +kernel
theorem dX11_change_28 : decode cX11_change 28 = .ok (.bipush 10, 2) := by decide +kernel
theorem dX11_change_30 : decode cX11_change 30 = .ok (.if_icmp .eq 7, 3) := by decide +kernel
theorem dX11_change_33 : decode cX11_change 33 = .ok (.iconst 1, 1) := by decide +kernel
theorem dX11_change_34 : decode cX11_change 34 = .ok (.goto 4, 3) := by decide +kernel
theorem dX11_change_37 : decode cX11_change 37 = .ok (.iconst 0, 1) := by decide +kernel
theorem dX11_change_38 : decode cX11_change 38 = .ok (.invokestatic 98, 3) := by decide +kernel
theorem dX11_change_41 : decode cX11_change 41 = .ok (.iload_n 2, 1) := by decide +kernel
theorem dX11_change_42 : decode cX11_change 42 = .ok (.ifCond .eq 15, 3) := by decide +kernel
theorem dX11_change_45 : decode cX11_change 45 = .ok (.aload_n 0, 1) := by decide +kernel
theorem dX11_change_46 : decode cX11_change 46 = .ok (.iload_n 2, 1) := by decide +kernel
theorem dX11_change_47 : decode cX11_change 47 = .ok (.aload_n 0, 1) := by decide +kernel
theorem dX11_change_48 : decode cX11_change 48 = .ok (.getfield 32, 3) := by decide +kernel
theorem dX11_change_51 : decode cX11_change 51 = .ok (.getfield 319, 3) := by decide +kernel
theorem dX11_change_54 : decode cX11_change 54 = .ok (.invokevirtual 271, 3) := by decide +kernel
theorem dX11_change_57 : decode cX11_change 57 = .ok (.aload_n 0, 1) := by decide +kernel
theorem dX11_change_58 : decode cX11_change 58 = .ok (.getfield 25, 3) := by decide +kernel
theorem dX11_change_61 : decode cX11_change 61 = .ok (.aload_n 0, 1) := by decide +kernel
theorem dX11_change_62 : decode cX11_change 62 = .ok (.getfield 12, 3) := by decide +kernel
theorem dX11_change_65 : decode cX11_change 65 = .ok (.invokevirtual 275, 3) := by decide +kernel
theorem dX11_change_68 : decode cX11_change 68 = .ok (.aload_n 0, 1) := by decide +kernel
theorem dX11_change_69 : decode cX11_change 69 = .ok (.getfield 12, 3) := by decide +kernel
theorem dX11_change_72 : decode cX11_change 72 = .ok (.aload_n 1, 1) := by decide +kernel
theorem dX11_change_73 : decode cX11_change 73 = .ok (.invokevirtual 322, 3) := by decide +kernel
theorem dX11_change_76 : decode cX11_change 76 = .ok (.ireturn, 1) := by decide +kernel
theorem dX11_firstFailingCommand_0 : decode cX11_firstFailingCommand 0 = .ok (.iconst 0, 1) := by decide +kernel
theorem dX11_firstFailingCommand_1 : decode cX11_firstFailingCommand 1 = .ok (.istore_n 1, 1) := by decide +kernel
theorem dX11_firstFailingCommand_2 : decode cX11_firstFailingCommand 2 = .ok (.iload_n 1, 1) := by decide +kernel
theorem dX11_firstFailingCommand_3 : decode cX11_firstFailingCommand 3 = .ok (.aload_n 0, 1) := by decide +kernel
theorem dX11_firstFailingCommand_4 : decode cX11_firstFailingCommand 4 = .ok (.getfield 46, 3) := by decide +kernel
theorem dX11_firstFailingCommand_7 : decode cX11_firstFailingCommand 7 = .ok (.getfield 278, 3) := by decide +kernel
theorem dX11_firstFailingCommand_10 : decode cX11_firstFailingCommand 10 = .ok (.if_icmp .ge 63, 3) := by decide +kernel
theorem dX11_firstFailingCommand_13 : decode cX11_firstFailingCommand 13 = .ok (.aload_n 0, 1) := by decide +kernel
theorem dX11_firstFailingCommand_14 : decode cX11_firstFailingCommand 14 = .ok (.getfield 46, 3) := by decide +kernel
theorem dX11_firstFailingCommand_17 : decode cX11_firstFailingCommand 17 = .ok (.getfield 325, 3) := by decide +kernel
theorem dX11_firstFailingCommand_20 : decode cX11_firstFailingCommand 20 = .ok (.iload_n 1, 1) := by decide +kernel
theorem dX11_firstFailingCommand_21 : decode cX11_firstFailingCommand 21 = .ok (.aaload, 1) := by decide +kernel
theorem dX11_firstFailingCommand_22 : decode cX11_firstFailingCommand 22 = .ok (.astore_n 2, 1) := by decide +kernel
theorem dX11_firstFailingCommand_23 : decode cX11_firstFailingCommand 23 = .ok (.aload_n 0, 1) := by decide +kernel
theorem dX11_firstFailingCommand_24 : decode cX11_firstFailingCommand 24 = .ok (.getfield 32, 3) := by decide +kernel
theorem dX11_firstFailingCommand_27 : decode cX11_firstFailingCommand 27 = .ok (.aload_n 2, 1) := by decide +kernel
theorem dX11_firstFailingCommand_28 : decode cX11_firstFailingCommand 28 = .ok (.aload_n 0, 1) := by decide +kernel
theorem dX11_firstFailingCommand_29 : decode cX11_firstFailingCommand 29 = .ok (.getfield 12, 3) := by decide +kernel
theorem dX11_firstFailingCommand_32 : decode cX11_firstFailingCommand 32 = .ok (.invokevirtual 315, 3) := by decide +kernel
theorem dX11_firstFailingCommand_35 : decode cX11_firstFailingCommand 35 = .ok (.istore_n 3, 1) := by decide +kernel
theorem dX11_firstFailingCommand_36 : decode cX11_firstFailingCommand 36 = .ok (.iload_n 3, 1) := by decide +kernel
theorem dX11_firstFailingCommand_37 : decode cX11_firstFailingCommand 37 = .ok (.ifCond .eq 21, 3) := by decide +kernel
theorem dX11_firstFailingCommand_40 : decode cX11_firstFailingCommand 40 = .ok (.aload_n 0, 1) := by decide +kernel
theorem dX11_firstFailingCommand_41 : decode cX11_firstFailingCommand 41 = .ok (.iload_n 3, 1) := by decide +kernel
theorem dX11_firstFailingCommand_42 : decode cX11_firstFailingCommand 42 = .ok (.bipush 6, 2) := by decide +kernel
theorem dX11_firstFailingCommand_44 : decode cX11_firstFailingCommand 44 = .ok (.if_icmp .gt 7, 3) := by decide +kernel
theorem dX11_firstFailingCommand_47 : decode cX11_firstFailingCommand 47 = .ok (.iload_n 3, 1) := by decide +kernel
theorem dX11_firstFailingCommand_48 : decode cX11_firstFailingCommand 48 = .ok (.goto 5, 3) := by decide +kernel
theorem dX11_firstFailingCommand_51 : decode cX11_firstFailingCommand 51 = .ok (.bipush 8, 2) := by decide +kernel
theorem dX11_firstFailingCommand_53 : decode cX11_firstFailingCommand 53 = .ok (.putfield 302, 3) := by decide +kernel
theorem dX11_firstFailingCommand_56 : decode cX11_firstFailingCommand 56 = .ok (.iload_n 1, 1) := by decide +kernel
theorem dX11_firstFailingCommand_57 : decode cX11_firstFailingCommand 57 = .ok (.ireturn, 1) := by decide +kernel
theorem dX11_firstFailingCommand_58 : decode cX11_firstFailingCommand 58 = .ok (.aload_n 0, 1) := by decide +kernel
theorem dX11_firstFailingCommand_59 : decode cX11_firstFailingCommand 59 = .ok (.getfield 12, 3) := by decide +kernel
theorem dX11_firstFailingCommand_62 : decode cX11_firstFailingCommand 62 = .ok (.aload_n 2, 1) := by decide +kernel
theorem dX11_firstFailingCommand_63 : decode cX11_firstFailingCommand 63 = .ok (.invokevirtual 322, 3) := by decide +kernel
theorem dX11_firstFailingCommand_66 : decode cX11_firstFailingCommand 66 = .ok (.pop, 1) := by decide +kernel
theorem dX11_firstFailingCommand_67 : decode cX11_firstFailingCommand 67 = .ok (.iinc 1 1, 3) := by decide +kernel
theorem dX11_firstFailingCommand_70 : decode cX11_firstFailingCommand 70 = .ok (.goto (-68), 3) := by decide +kernel
theorem dX11_firstFailingCommand_73 : decode cX11_firstFailingCommand 73 = .ok (.iconst (-1), 1) := by decide +kernel
theorem dX11_firstFailingCommand_74 : decode cX11_firstFailingCommand 74 = .ok (.ireturn, 1) := by decide +kernel
theorem dX11_knottedRowFrom_0 : decode cX11_knottedRowFrom 0 = .ok (.aload_n 0, 1) := by decide +kernel
theorem dX11_knottedRowFrom_1 : decode cX11_knottedRowFrom 1 = .ok (.getfield 12, 3) := by decide +kernel
theorem dX11_knottedRowFrom_4 : decode cX11_knottedRowFrom 4 = .ok (.getfield 147, 3) := by decide +kernel
theorem dX11_knottedRowFrom_7 : decode cX11_knottedRowFrom 7 = .ok (.iload_n 1, 1) := by decide +kernel
theorem dX11_knottedRowFrom_8 : decode cX11_knottedRowFrom 8 = .ok (.invokevirtual 154, 3) := by decide +kernel
theorem dX11_knottedRowFrom_11 : decode cX11_knottedRowFrom 11 = .ok (.invokestatic 98, 3) := by decide +kernel
theorem dX11_knottedRowFrom_14 : decode cX11_knottedRowFrom 14 = .ok (.aload_n 0, 1) := by decide +kernel
theorem dX11_knottedRowFrom_15 : decode cX11_knottedRowFrom 15 = .ok (.getfield 12, 3) := by decide +kernel
theorem dX11_knottedRowFrom_18 : decode cX11_knottedRowFrom 18 = .ok (.getfield 147, 3) := by decide +kernel
theorem dX11_knottedRowFrom_21 : decode cX11_knottedRowFrom 21 = .ok (.iload_n 1, 1) := by decide +kernel
theorem dX11_knottedRowFrom_22 : decode cX11_knottedRowFrom 22 = .ok (.invokevirtual 329, 3) := by decide +kernel
theorem dX11_knottedRowFrom_25 : decode cX11_knottedRowFrom 25 = .ok (.istore_n 2, 1) := by decide +kernel
theorem dX11_knottedRowFrom_26 : decode cX11_knottedRowFrom 26 = .ok (.iload_n 2, 1) := by decide +kernel
theorem dX11_knottedRowFrom_27 : decode cX11_knottedRowFrom 27 = .ok (.ifCond .lt 7, 3) := by decide +kernel
theorem dX11_knottedRowFrom_30 : decode cX11_knottedRowFrom 30 = .ok (.iconst 1, 1) := by decide +kernel
theorem dX11_knottedRowFrom_31 : decode cX11_knottedRowFrom 31 = .ok (.goto 4, 3) := by decide +kernel
theorem dX11_knottedRowFrom_34 : decode cX11_knottedRowFrom 34 = .ok (.iconst 0, 1) := by decide +kernel
theorem dX11_knottedRowFrom_35 : decode cX11_knottedRowFrom 35 = .ok (.invokestatic 110, 3) := by decide +kernel
theorem dX11_knottedRowFrom_38 : decode cX11_knottedRowFrom 38 = .ok (.iload_n 2, 1) := by decide +kernel
theorem dX11_knottedRowFrom_39 : decode cX11_knottedRowFrom 39 = .ok (.ireturn, 1) := by decide +kernel
theorem dX11_throwDenial_0 : decode cX11_throwDenial 0 = .ok (.aload_n 0, 1) := by decide +kernel
theorem dX11_throwDenial_1 : decode cX11_throwDenial 1 = .ok (.iload_n 1, 1) := by decide +kernel
theorem dX11_throwDenial_2 : decode cX11_throwDenial 2 = .ok (.putfield 296, 3) := by decide +kernel
theorem dX11_throwDenial_5 : decode cX11_throwDenial 5 = .ok (.aload_n 0, 1) := by decide +kernel
theorem dX11_throwDenial_6 : decode cX11_throwDenial 6 = .ok (.iload_n 2, 1) := by decide +kernel
theorem dX11_throwDenial_7 : decode cX11_throwDenial 7 = .ok (.putfield 299, 3) := by decide +kernel
theorem dX11_throwDenial_10 : decode cX11_throwDenial 10 = .ok (.new 332, 3) := by decide +kernel
theorem dX11_throwDenial_13 : decode cX11_throwDenial 13 = .ok (.dup, 1) := by decide +kernel
theorem dX11_throwDenial_14 : decode cX11_throwDenial 14 = .ok (.ldc_w 334, 3) := by decide +kernel
theorem dX11_throwDenial_17 : decode cX11_throwDenial 17 = .ok (.invokespecial 336, 3) := by decide +kernel
theorem dX11_throwDenial_20 : decode cX11_throwDenial 20 = .ok (.athrow, 1) := by decide +kernel
theorem dX11_requireRange_0 : decode cX11_requireRange 0 = .ok (.iload_n 0, 1) := by decide +kernel
theorem dX11_requireRange_1 : decode cX11_requireRange 1 = .ok (.ifCond .ne 14, 3) := by decide +kernel
theorem dX11_requireRange_4 : decode cX11_requireRange 4 = .ok (.new 339, 3) := by decide +kernel
theorem dX11_requireRange_7 : decode cX11_requireRange 7 = .ok (.dup, 1) := by decide +kernel
theorem dX11_requireRange_8 : decode cX11_requireRange 8 = .ok (.ldc_w 341, 3) := by decide +kernel
theorem dX11_requireRange_11 : decode cX11_requireRange 11 = .ok (.invokespecial 343, 3) := by decide +kernel
theorem dX11_requireRange_14 : decode cX11_requireRange 14 = .ok (.athrow, 1) := by decide +kernel
theorem dX11_requireRange_15 : decode cX11_requireRange 15 = .ok (.return_, 1) := by decide +kernel
theorem dX11_requireIndex_0 : decode cX11_requireIndex 0 = .ok (.iload_n 0, 1) := by decide +kernel
theorem dX11_requireIndex_1 : decode cX11_requireIndex 1 = .ok (.ifCond .ne 14, 3) := by decide +kernel
theorem dX11_requireIndex_4 : decode cX11_requireIndex 4 = .ok (.new 344, 3) := by decide +kernel
theorem dX11_requireIndex_7 : decode cX11_requireIndex 7 = .ok (.dup, 1) := by decide +kernel
theorem dX11_requireIndex_8 : decode cX11_requireIndex 8 = .ok (.ldc_w 346, 3) := by decide +kernel
theorem dX11_requireIndex_11 : decode cX11_requireIndex 11 = .ok (.invokespecial 348, 3) := by decide +kernel
theorem dX11_requireIndex_14 : decode cX11_requireIndex 14 = .ok (.athrow, 1) := by decide +kernel
theorem dX11_requireIndex_15 : decode cX11_requireIndex 15 = .ok (.return_, 1) := by decide +kernel
theorem dX11_requireElement_0 : decode cX11_requireElement 0 = .ok (.iload_n 0, 1) := by decide +kernel
theorem dX11_requireElement_1 : decode cX11_requireElement 1 = .ok (.ifCond .ne 14, 3) := by decide +kernel
theorem dX11_requireElement_4 : decode cX11_requireElement 4 = .ok (.new 349, 3) := by decide +kernel
theorem dX11_requireElement_7 : decode cX11_requireElement 7 = .ok (.dup, 1) := by decide +kernel
theorem dX11_requireElement_8 : decode cX11_requireElement 8 = .ok (.ldc_w 351, 3) := by decide +kernel
theorem dX11_requireElement_11 : decode cX11_requireElement 11 = .ok (.invokespecial 353, 3) := by decide +kernel
theorem dX11_requireElement_14 : decode cX11_requireElement 14 = .ok (.athrow, 1) := by decide +kernel
theorem dX11_requireElement_15 : decode cX11_requireElement 15 = .ok (.return_, 1) := by decide +kernel
theorem dX11_requireState_0 : decode cX11_requireState 0 = .ok (.iload_n 0, 1) := by decide +kernel
theorem dX11_requireState_1 : decode cX11_requireState 1 = .ok (.ifCond .ne 14, 3) := by decide +kernel
theorem dX11_requireState_4 : decode cX11_requireState 4 = .ok (.new 354, 3) := by decide +kernel
theorem dX11_requireState_7 : decode cX11_requireState 7 = .ok (.dup, 1) := by decide +kernel
theorem dX11_requireState_8 : decode cX11_requireState 8 = .ok (.ldc_w 356, 3) := by decide +kernel
theorem dX11_requireState_11 : decode cX11_requireState 11 = .ok (.invokespecial 358, 3) := by decide +kernel
theorem dX11_requireState_14 : decode cX11_requireState 14 = .ok (.athrow, 1) := by decide +kernel
theorem dX11_requireState_15 : decode cX11_requireState 15 = .ok (.return_, 1) := by decide +kernel
theorem dX11_requireDivisor_0 : decode cX11_requireDivisor 0 = .ok (.iload_n 0, 1) := by decide +kernel
theorem dX11_requireDivisor_1 : decode cX11_requireDivisor 1 = .ok (.ifCond .ne 14, 3) := by decide +kernel
theorem dX11_requireDivisor_4 : decode cX11_requireDivisor 4 = .ok (.new 359, 3) := by decide +kernel
theorem dX11_requireDivisor_7 : decode cX11_requireDivisor 7 = .ok (.dup, 1) := by decide +kernel
theorem dX11_requireDivisor_8 : decode cX11_requireDivisor 8 = .ok (.ldc_w 361, 3) := by decide +kernel
theorem dX11_requireDivisor_11 : decode cX11_requireDivisor 11 = .ok (.invokespecial 363, 3) := by decide +kernel
theorem dX11_requireDivisor_14 : decode cX11_requireDivisor 14 = .ok (.athrow, 1) := by decide +kernel
theorem dX11_requireDivisor_15 : decode cX11_requireDivisor 15 = .ok (.return_, 1) := by decide +kernel
end
section
theorem dL_cell_0 : decode cL_cell 0 = .ok (.aload_n 0, 1) := by decide +kernel
theorem dL_cell_1 : decode cL_cell 1 = .ok (.arraylength, 1) := by decide +kernel
theorem dL_cell_2 : decode cL_cell 2 = .ok (.ifCond .ne 11, 3) := by decide +kernel
theorem dL_cell_5 : decode cL_cell 5 = .ok (.sipush 577, 3) := by decide +kernel
theorem dL_cell_8 : decode cL_cell 8 = .ok (.iload_n 1, 1) := by decide +kernel
theorem dL_cell_9 : decode cL_cell 9 = .ok (.imul, 1) := by decide +kernel
theorem dL_cell_10 : decode cL_cell 10 = .ok (.goto 12, 3) := by decide +kernel
theorem dL_cell_13 : decode cL_cell 13 = .ok (.aload_n 0, 1) := by decide +kernel
theorem dL_cell_14 : decode cL_cell 14 = .ok (.iload_n 1, 1) := by decide +kernel
theorem dL_cell_15 : decode cL_cell 15 = .ok (.ldc 7, 2) := by decide +kernel
theorem dL_cell_17 : decode cL_cell 17 = .ok (.iand, 1) := by decide +kernel
theorem dL_cell_18 : decode cL_cell 18 = .ok (.aload_n 0, 1) := by decide +kernel
theorem dL_cell_19 : decode cL_cell 19 = .ok (.arraylength, 1) := by decide +kernel
theorem dL_cell_20 : decode cL_cell 20 = .ok (.irem, 1) := by decide +kernel
theorem dL_cell_21 : decode cL_cell 21 = .ok (.iaload, 1) := by decide +kernel
theorem dL_cell_22 : decode cL_cell 22 = .ok (.ireturn, 1) := by decide +kernel
theorem dL_addWick_0 : decode cL_addWick 0 = .ok (.ldc 10, 2) := by decide +kernel
theorem dL_addWick_2 : decode cL_addWick 2 = .ok (.istore 4, 2) := by decide +kernel
theorem dL_addWick_4 : decode cL_addWick 4 = .ok (.aload_n 0, 1) := by decide +kernel
theorem dL_addWick_5 : decode cL_addWick 5 = .ok (.iload_n 1, 1) := by decide +kernel
theorem dL_addWick_6 : decode cL_addWick 6 = .ok (.iload_n 2, 1) := by decide +kernel
theorem dL_addWick_7 : decode cL_addWick 7 = .ok (.iload_n 3, 1) := by decide +kernel
theorem dL_addWick_8 : decode cL_addWick 8 = .ok (.invokevirtual 11, 3) := by decide +kernel
theorem dL_addWick_11 : decode cL_addWick 11 = .ok (.istore 4, 2) := by decide +kernel
theorem dL_addWick_13 : decode cL_addWick 13 = .ok (.goto 13, 3) := by decide +kernel
theorem dL_addWick_16 : decode cL_addWick 16 = .ok (.astore 5, 2) := by decide +kernel
theorem dL_addWick_18 : decode cL_addWick 18 = .ok (.ldc 10, 2) := by decide +kernel
theorem dL_addWick_20 : decode cL_addWick 20 = .ok (.ireturn, 1) := by decide +kernel
theorem dL_addWick_21 : decode cL_addWick 21 = .ok (.astore 5, 2) := by decide +kernel
theorem dL_addWick_23 : decode cL_addWick 23 = .ok (.ldc 10, 2) := by decide +kernel
theorem dL_addWick_25 : decode cL_addWick 25 = .ok (.ireturn, 1) := by decide +kernel
theorem dL_addWick_26 : decode cL_addWick 26 = .ok (.iload 4, 2) := by decide +kernel
theorem dL_addWick_28 : decode cL_addWick 28 = .ok (.ireturn, 1) := by decide +kernel
theorem dL_light_0 : decode cL_light 0 = .ok (.ldc 10, 2) := by decide +kernel
theorem dL_light_2 : decode cL_light 2 = .ok (.istore_n 2, 1) := by decide +kernel
theorem dL_light_3 : decode cL_light 3 = .ok (.aload_n 0, 1) := by decide +kernel
theorem dL_light_4 : decode cL_light 4 = .ok (.iload_n 1, 1) := by decide +kernel
theorem dL_light_5 : decode cL_light 5 = .ok (.invokevirtual 21, 3) := by decide +kernel
theorem dL_light_8 : decode cL_light 8 = .ok (.istore_n 2, 1) := by decide +kernel
theorem dL_light_9 : decode cL_light 9 = .ok (.goto 11, 3) := by decide +kernel
theorem dL_light_12 : decode cL_light 12 = .ok (.astore_n 3, 1) := by decide +kernel
theorem dL_light_13 : decode cL_light 13 = .ok (.ldc 10, 2) := by decide +kernel
theorem dL_light_15 : decode cL_light 15 = .ok (.ireturn, 1) := by decide +kernel
theorem dL_light_16 : decode cL_light 16 = .ok (.astore_n 3, 1) := by decide +kernel
theorem dL_light_17 : decode cL_light 17 = .ok (.ldc 10, 2) := by decide +kernel
theorem dL_light_19 : decode cL_light 19 = .ok (.ireturn, 1) := by decide +kernel
theorem dL_light_20 : decode cL_light 20 = .ok (.iload_n 2, 1) := by decide +kernel
theorem dL_light_21 : decode cL_light 21 = .ok (.ireturn, 1) := by decide +kernel
theorem dL_snuff_0 : decode cL_snuff 0 = .ok (.ldc 10, 2) := by decide +kernel
theorem dL_snuff_2 : decode cL_snuff 2 = .ok (.istore_n 2, 1) := by decide +kernel
theorem dL_snuff_3 : decode cL_snuff 3 = .ok (.aload_n 0, 1) := by decide +kernel
theorem dL_snuff_4 : decode cL_snuff 4 = .ok (.iload_n 1, 1) := by decide +kernel
theorem dL_snuff_5 : decode cL_snuff 5 = .ok (.invokevirtual 27, 3) := by decide +kernel
theorem dL_snuff_8 : decode cL_snuff 8 = .ok (.istore_n 2, 1) := by decide +kernel
theorem dL_snuff_9 : decode cL_snuff 9 = .ok (.goto 11, 3) := by decide +kernel
theorem dL_snuff_12 : decode cL_snuff 12 = .ok (.astore_n 3, 1) := by decide +kernel
theorem dL_snuff_13 : decode cL_snuff 13 = .ok (.ldc 10, 2) := by decide +kernel
theorem dL_snuff_15 : decode cL_snuff 15 = .ok (.ireturn, 1) := by decide +kernel
theorem dL_snuff_16 : decode cL_snuff 16 = .ok (.astore_n 3, 1) := by decide +kernel
theorem dL_snuff_17 : decode cL_snuff 17 = .ok (.ldc 10, 2) := by decide +kernel
theorem dL_snuff_19 : decode cL_snuff 19 = .ok (.ireturn, 1) := by decide +kernel
theorem dL_snuff_20 : decode cL_snuff 20 = .ok (.iload_n 2, 1) := by decide +kernel
theorem dL_snuff_21 : decode cL_snuff 21 = .ok (.ireturn, 1) := by decide +kernel
theorem dL_addWax_0 : decode cL_addWax 0 = .ok (.ldc 10, 2) := by decide +kernel
theorem dL_addWax_2 : decode cL_addWax 2 = .ok (.istore_n 3, 1) := by decide +kernel
theorem dL_addWax_3 : decode cL_addWax 3 = .ok (.aload_n 0, 1) := by decide +kernel
theorem dL_addWax_4 : decode cL_addWax 4 = .ok (.iload_n 1, 1) := by decide +kernel
theorem dL_addWax_5 : decode cL_addWax 5 = .ok (.iload_n 2, 1) := by decide +kernel
theorem dL_addWax_6 : decode cL_addWax 6 = .ok (.invokevirtual 30, 3) := by decide +kernel
theorem dL_addWax_9 : decode cL_addWax 9 = .ok (.istore_n 3, 1) := by decide +kernel
theorem dL_addWax_10 : decode cL_addWax 10 = .ok (.goto 18, 3) := by decide +kernel
theorem dL_addWax_13 : decode cL_addWax 13 = .ok (.astore 4, 2) := by decide +kernel
theorem dL_addWax_15 : decode cL_addWax 15 = .ok (.ldc 10, 2) := by decide +kernel
theorem dL_addWax_17 : decode cL_addWax 17 = .ok (.ireturn, 1) := by decide +kernel
theorem dL_addWax_18 : decode cL_addWax 18 = .ok (.astore 4, 2) := by decide +kernel
theorem dL_addWax_20 : decode cL_addWax 20 = .ok (.ldc 10, 2) := by decide +kernel
theorem dL_addWax_22 : decode cL_addWax 22 = .ok (.ireturn, 1) := by decide +kernel
theorem dL_addWax_23 : decode cL_addWax 23 = .ok (.astore 4, 2) := by decide +kernel
theorem dL_addWax_25 : decode cL_addWax 25 = .ok (.ldc 10, 2) := by decide +kernel
theorem dL_addWax_27 : decode cL_addWax 27 = .ok (.ireturn, 1) := by decide +kernel
theorem dL_addWax_28 : decode cL_addWax 28 = .ok (.iload_n 3, 1) := by decide +kernel
theorem dL_addWax_29 : decode cL_addWax 29 = .ok (.ireturn, 1) := by decide +kernel
theorem dL_weave_0 : decode cL_weave 0 = .ok (.ldc 10, 2) := by decide +kernel
theorem dL_weave_2 : decode cL_weave 2 = .ok (.istore_n 2, 1) := by decide +kernel
theorem dL_weave_3 : decode cL_weave 3 = .ok (.aload_n 0, 1) := by decide +kernel
theorem dL_weave_4 : decode cL_weave 4 = .ok (.iload_n 1, 1) := by decide +kernel
theorem dL_weave_5 : decode cL_weave 5 = .ok (.invokevirtual 34, 3) := by decide +kernel
theorem dL_weave_8 : decode cL_weave 8 = .ok (.istore_n 2, 1) := by decide +kernel
theorem dL_weave_9 : decode cL_weave 9 = .ok (.goto 11, 3) := by decide +kernel
theorem dL_weave_12 : decode cL_weave 12 = .ok (.astore_n 3, 1) := by decide +kernel
theorem dL_weave_13 : decode cL_weave 13 = .ok (.ldc 10, 2) := by decide +kernel
theorem dL_weave_15 : decode cL_weave 15 = .ok (.ireturn, 1) := by decide +kernel
theorem dL_weave_16 : decode cL_weave 16 = .ok (.astore_n 3, 1) := by decide +kernel
theorem dL_weave_17 : decode cL_weave 17 = .ok (.ldc 10, 2) := by decide +kernel
theorem dL_weave_19 : decode cL_weave 19 = .ok (.ireturn, 1) := by decide +kernel
theorem dL_weave_20 : decode cL_weave 20 = .ok (.iload_n 2, 1) := by decide +kernel
theorem dL_weave_21 : decode cL_weave 21 = .ok (.ireturn, 1) := by decide +kernel
theorem dL_ravel_0 : decode cL_ravel 0 = .ok (.ldc 10, 2) := by decide +kernel
theorem dL_ravel_2 : decode cL_ravel 2 = .ok (.istore_n 2, 1) := by decide +kernel
theorem dL_ravel_3 : decode cL_ravel 3 = .ok (.aload_n 0, 1) := by decide +kernel
theorem dL_ravel_4 : decode cL_ravel 4 = .ok (.iload_n 1, 1) := by decide +kernel
theorem dL_ravel_5 : decode cL_ravel 5 = .ok (.invokevirtual 37, 3) := by decide +kernel
theorem dL_ravel_8 : decode cL_ravel 8 = .ok (.istore_n 2, 1) := by decide +kernel
theorem dL_ravel_9 : decode cL_ravel 9 = .ok (.goto 11, 3) := by decide +kernel
theorem dL_ravel_12 : decode cL_ravel 12 = .ok (.astore_n 3, 1) := by decide +kernel
theorem dL_ravel_13 : decode cL_ravel 13 = .ok (.ldc 10, 2) := by decide +kernel
theorem dL_ravel_15 : decode cL_ravel 15 = .ok (.ireturn, 1) := by decide +kernel
theorem dL_ravel_16 : decode cL_ravel 16 = .ok (.astore_n 3, 1) := by decide +kernel
theorem dL_ravel_17 : decode cL_ravel 17 = .ok (.ldc 10, 2) := by decide +kernel
theorem dL_ravel_19 : decode cL_ravel 19 = .ok (.ireturn, 1) := by decide +kernel
theorem dL_ravel_20 : decode cL_ravel 20 = .ok (.iload_n 2, 1) := by decide +kernel
theorem dL_ravel_21 : decode cL_ravel 21 = .ok (.ireturn, 1) := by decide +kernel
theorem dL_repeatLast_0 : decode cL_repeatLast 0 = .ok (.ldc 10, 2) := by decide +kernel
theorem dL_repeatLast_2 : decode cL_repeatLast 2 = .ok (.istore_n 3, 1) := by decide +kernel
theorem dL_repeatLast_3 : decode cL_repeatLast 3 = .ok (.aload_n 0, 1) := by decide +kernel
theorem dL_repeatLast_4 : decode cL_repeatLast 4 = .ok (.iload_n 1, 1) := by decide +kernel
theorem dL_repeatLast_5 : decode cL_repeatLast 5 = .ok (.iload_n 2, 1) := by decide +kernel
theorem dL_repeatLast_6 : decode cL_repeatLast 6 = .ok (.invokevirtual 40, 3) := by decide +kernel
theorem dL_repeatLast_9 : decode cL_repeatLast 9 = .ok (.istore_n 3, 1) := by decide +kernel
theorem dL_repeatLast_10 : decode cL_repeatLast 10 = .ok (.goto 13, 3) := by decide +kernel
theorem dL_repeatLast_13 : decode cL_repeatLast 13 = .ok (.astore 4, 2) := by decide +kernel
theorem dL_repeatLast_15 : decode cL_repeatLast 15 = .ok (.ldc 10, 2) := by decide +kernel
theorem dL_repeatLast_17 : decode cL_repeatLast 17 = .ok (.ireturn, 1) := by decide +kernel
theorem dL_repeatLast_18 : decode cL_repeatLast 18 = .ok (.astore 4, 2) := by decide +kernel
theorem dL_repeatLast_20 : decode cL_repeatLast 20 = .ok (.ldc 10, 2) := by decide +kernel
theorem dL_repeatLast_22 : decode cL_repeatLast 22 = .ok (.ireturn, 1) := by decide +kernel
theorem dL_repeatLast_23 : decode cL_repeatLast 23 = .ok (.iload_n 3, 1) := by decide +kernel
theorem dL_repeatLast_24 : decode cL_repeatLast 24 = .ok (.ireturn, 1) := by decide +kernel
theorem dL_knot_0 : decode cL_knot 0 = .ok (.ldc 10, 2) := by decide +kernel
theorem dL_knot_2 : decode cL_knot 2 = .ok (.istore_n 3, 1) := by decide +kernel
theorem dL_knot_3 : decode cL_knot 3 = .ok (.aload_n 0, 1) := by decide +kernel
theorem dL_knot_4 : decode cL_knot 4 = .ok (.iload_n 1, 1) := by decide +kernel
theorem dL_knot_5 : decode cL_knot 5 = .ok (.iload_n 2, 1) := by decide +kernel
theorem dL_knot_6 : decode cL_knot 6 = .ok (.invokevirtual 43, 3) := by decide +kernel
theorem dL_knot_9 : decode cL_knot 9 = .ok (.istore_n 3, 1) := by decide +kernel
theorem dL_knot_10 : decode cL_knot 10 = .ok (.goto 13, 3) := by decide +kernel
theorem dL_knot_13 : decode cL_knot 13 = .ok (.astore 4, 2) := by decide +kernel
theorem dL_knot_15 : decode cL_knot 15 = .ok (.ldc 10, 2) := by decide +kernel
theorem dL_knot_17 : decode cL_knot 17 = .ok (.ireturn, 1) := by decide +kernel
theorem dL_knot_18 : decode cL_knot 18 = .ok (.astore 4, 2) := by decide +kernel
theorem dL_knot_20 : decode cL_knot 20 = .ok (.ldc 10, 2) := by decide +kernel
theorem dL_knot_22 : decode cL_knot 22 = .ok (.ireturn, 1) := by decide +kernel
theorem dL_knot_23 : decode cL_knot 23 = .ok (.iload_n 3, 1) := by decide +kernel
theorem dL_knot_24 : decode cL_knot 24 = .ok (.ireturn, 1) := by decide +kernel
theorem dL_untie_0 : decode cL_untie 0 = .ok (.ldc 10, 2) := by decide +kernel
theorem dL_untie_2 : decode cL_untie 2 = .ok (.istore_n 3, 1) := by decide +kernel
theorem dL_untie_3 : decode cL_untie 3 = .ok (.aload_n 0, 1) := by decide +kernel
theorem dL_untie_4 : decode cL_untie 4 = .ok (.iload_n 1, 1) := by decide +kernel
theorem dL_untie_5 : decode cL_untie 5 = .ok (.iload_n 2, 1) := by decide +kernel
theorem dL_untie_6 : decode cL_untie 6 = .ok (.invokevirtual 46, 3) := by decide +kernel
theorem dL_untie_9 : decode cL_untie 9 = .ok (.istore_n 3, 1) := by decide +kernel
theorem dL_untie_10 : decode cL_untie 10 = .ok (.goto 13, 3) := by decide +kernel
theorem dL_untie_13 : decode cL_untie 13 = .ok (.astore 4, 2) := by decide +kernel
theorem dL_untie_15 : decode cL_untie 15 = .ok (.ldc 10, 2) := by decide +kernel
theorem dL_untie_17 : decode cL_untie 17 = .ok (.ireturn, 1) := by decide +kernel
theorem dL_untie_18 : decode cL_untie 18 = .ok (.astore 4, 2) := by decide +kernel
theorem dL_untie_20 : decode cL_untie 20 = .ok (.ldc 10, 2) := by decide +kernel
theorem dL_untie_22 : decode cL_untie 22 = .ok (.ireturn, 1) := by decide +kernel
theorem dL_untie_23 : decode cL_untie 23 = .ok (.iload_n 3, 1) := by decide +kernel
theorem dL_untie_24 : decode cL_untie 24 = .ok (.ireturn, 1) := by decide +kernel
theorem dL_mend_0 : decode cL_mend 0 = .ok (.ldc 10, 2) := by decide +kernel
theorem dL_mend_2 : decode cL_mend 2 = .ok (.istore_n 2, 1) := by decide +kernel
theorem dL_mend_3 : decode cL_mend 3 = .ok (.aload_n 0, 1) := by decide +kernel
theorem dL_mend_4 : decode cL_mend 4 = .ok (.iload_n 1, 1) := by decide +kernel
theorem dL_mend_5 : decode cL_mend 5 = .ok (.invokevirtual 49, 3) := by decide +kernel
theorem dL_mend_8 : decode cL_mend 8 = .ok (.istore_n 2, 1) := by decide +kernel
theorem dL_mend_9 : decode cL_mend 9 = .ok (.goto 11, 3) := by decide +kernel
theorem dL_mend_12 : decode cL_mend 12 = .ok (.astore_n 3, 1) := by decide +kernel
theorem dL_mend_13 : decode cL_mend 13 = .ok (.ldc 10, 2) := by decide +kernel
theorem dL_mend_15 : decode cL_mend 15 = .ok (.ireturn, 1) := by decide +kernel
theorem dL_mend_16 : decode cL_mend 16 = .ok (.astore_n 3, 1) := by decide +kernel
theorem dL_mend_17 : decode cL_mend 17 = .ok (.ldc 10, 2) := by decide +kernel
theorem dL_mend_19 : decode cL_mend 19 = .ok (.ireturn, 1) := by decide +kernel
theorem dL_mend_20 : decode cL_mend 20 = .ok (.iload_n 2, 1) := by decide +kernel
theorem dL_mend_21 : decode cL_mend 21 = .ok (.ireturn, 1) := by decide +kernel
theorem dL_wickByWax_0 : decode cL_wickByWax 0 = .ok (.sipush (-1000), 3) := by decide +kernel
theorem dL_wickByWax_3 : decode cL_wickByWax 3 = .ok (.istore_n 2, 1) := by decide +kernel
theorem dL_wickByWax_4 : decode cL_wickByWax 4 = .ok (.aload_n 0, 1) := by decide +kernel
theorem dL_wickByWax_5 : decode cL_wickByWax 5 = .ok (.iload_n 1, 1) := by decide +kernel
theorem dL_wickByWax_6 : decode cL_wickByWax 6 = .ok (.invokevirtual 53, 3) := by decide +kernel
theorem dL_wickByWax_9 : decode cL_wickByWax 9 = .ok (.istore_n 2, 1) := by decide +kernel
theorem dL_wickByWax_10 : decode cL_wickByWax 10 = .ok (.goto 8, 3) := by decide +kernel
theorem dL_wickByWax_13 : decode cL_wickByWax 13 = .ok (.astore_n 3, 1) := by decide +kernel
theorem dL_wickByWax_14 : decode cL_wickByWax 14 = .ok (.sipush (-1000), 3) := by decide +kernel
theorem dL_wickByWax_17 : decode cL_wickByWax 17 = .ok (.ireturn, 1) := by decide +kernel
theorem dL_wickByWax_18 : decode cL_wickByWax 18 = .ok (.iload_n 2, 1) := by decide +kernel
theorem dL_wickByWax_19 : decode cL_wickByWax 19 = .ok (.ireturn, 1) := by decide +kernel
theorem dL_nextKnotRow_0 : decode cL_nextKnotRow 0 = .ok (.sipush (-1000), 3) := by decide +kernel
theorem dL_nextKnotRow_3 : decode cL_nextKnotRow 3 = .ok (.istore_n 2, 1) := by decide +kernel
theorem dL_nextKnotRow_4 : decode cL_nextKnotRow 4 = .ok (.aload_n 0, 1) := by decide +kernel
theorem dL_nextKnotRow_5 : decode cL_nextKnotRow 5 = .ok (.iload_n 1, 1) := by decide +kernel
theorem dL_nextKnotRow_6 : decode cL_nextKnotRow 6 = .ok (.invokevirtual 58, 3) := by decide +kernel
theorem dL_nextKnotRow_9 : decode cL_nextKnotRow 9 = .ok (.istore_n 2, 1) := by decide +kernel
theorem dL_nextKnotRow_10 : decode cL_nextKnotRow 10 = .ok (.goto 13, 3) := by decide +kernel
theorem dL_nextKnotRow_13 : decode cL_nextKnotRow 13 = .ok (.astore_n 3, 1) := by decide +kernel
theorem dL_nextKnotRow_14 : decode cL_nextKnotRow 14 = .ok (.sipush (-1000), 3) := by decide +kernel
theorem dL_nextKnotRow_17 : decode cL_nextKnotRow 17 = .ok (.ireturn, 1) := by decide +kernel
theorem dL_nextKnotRow_18 : decode cL_nextKnotRow 18 = .ok (.astore_n 3, 1) := by decide +kernel
theorem dL_nextKnotRow_19 : decode cL_nextKnotRow 19 = .ok (.sipush (-1000), 3) := by decide +kernel
theorem dL_nextKnotRow_22 : decode cL_nextKnotRow 22 = .ok (.ireturn, 1) := by decide +kernel
theorem dL_nextKnotRow_23 : decode cL_nextKnotRow 23 = .ok (.iload_n 2, 1) := by decide +kernel
theorem dL_nextKnotRow_24 : decode cL_nextKnotRow 24 = .ok (.ireturn, 1) := by decide +kernel
theorem dL_nextKnotColumn_0 : decode cL_nextKnotColumn 0 = .ok (.sipush (-1000), 3) := by decide +kernel
theorem dL_nextKnotColumn_3 : decode cL_nextKnotColumn 3 = .ok (.istore_n 2, 1) := by decide +kernel
theorem dL_nextKnotColumn_4 : decode cL_nextKnotColumn 4 = .ok (.aload_n 0, 1) := by decide +kernel
theorem dL_nextKnotColumn_5 : decode cL_nextKnotColumn 5 = .ok (.iload_n 1, 1) := by decide +kernel
theorem dL_nextKnotColumn_6 : decode cL_nextKnotColumn 6 = .ok (.invokevirtual 61, 3) := by decide +kernel
theorem dL_nextKnotColumn_9 : decode cL_nextKnotColumn 9 = .ok (.istore_n 2, 1) := by decide +kernel
theorem dL_nextKnotColumn_10 : decode cL_nextKnotColumn 10 = .ok (.goto 13, 3) := by decide +kernel
theorem dL_nextKnotColumn_13 : decode cL_nextKnotColumn 13 = .ok (.astore_n 3, 1) := by decide +kernel
theorem dL_nextKnotColumn_14 : decode cL_nextKnotColumn 14 = .ok (.sipush (-1000), 3) := by decide +kernel
theorem dL_nextKnotColumn_17 : decode cL_nextKnotColumn 17 = .ok (.ireturn, 1) := by decide +kernel
theorem dL_nextKnotColumn_18 : decode cL_nextKnotColumn 18 = .ok (.astore_n 3, 1) := by decide +kernel
theorem dL_nextKnotColumn_19 : decode cL_nextKnotColumn 19 = .ok (.sipush (-1000), 3) := by decide +kernel
theorem dL_nextKnotColumn_22 : decode cL_nextKnotColumn 22 = .ok (.ireturn, 1) := by decide +kernel
theorem dL_nextKnotColumn_23 : decode cL_nextKnotColumn 23 = .ok (.iload_n 2, 1) := by decide +kernel
theorem dL_nextKnotColumn_24 : decode cL_nextKnotColumn 24 = .ok (.ireturn, 1) := by decide +kernel
theorem dL_period_0 : decode cL_period 0 = .ok (.sipush (-1000), 3) := by decide +kernel
theorem dL_period_3 : decode cL_period 3 = .ok (.istore_n 1, 1) := by decide +kernel
theorem dL_period_4 : decode cL_period 4 = .ok (.aload_n 0, 1) := by decide +kernel
theorem dL_period_5 : decode cL_period 5 = .ok (.invokevirtual 64, 3) := by decide +kernel
theorem dL_period_8 : decode cL_period 8 = .ok (.istore_n 1, 1) := by decide +kernel
theorem dL_period_9 : decode cL_period 9 = .ok (.goto 8, 3) := by decide +kernel
theorem dL_period_12 : decode cL_period 12 = .ok (.astore_n 2, 1) := by decide +kernel
theorem dL_period_13 : decode cL_period 13 = .ok (.sipush (-1000), 3) := by decide +kernel
theorem dL_period_16 : decode cL_period 16 = .ok (.ireturn, 1) := by decide +kernel
theorem dL_period_17 : decode cL_period 17 = .ok (.iload_n 1, 1) := by decide +kernel
theorem dL_period_18 : decode cL_period 18 = .ok (.ireturn, 1) := by decide +kernel
theorem dL_periodByBorders_0 : decode cL_periodByBorders 0 = .ok (.sipush (-1000), 3) := by decide +kernel
theorem dL_periodByBorders_3 : decode cL_periodByBorders 3 = .ok (.istore_n 1, 1) := by decide +kernel
theorem dL_periodByBorders_4 : decode cL_periodByBorders 4 = .ok (.aload_n 0, 1) := by decide +kernel
theorem dL_periodByBorders_5 : decode cL_periodByBorders 5 = .ok (.invokevirtual 68, 3) := by decide +kernel
theorem dL_periodByBorders_8 : decode cL_periodByBorders 8 = .ok (.istore_n 1, 1) := by decide +kernel
theorem dL_periodByBorders_9 : decode cL_periodByBorders 9 = .ok (.goto 8, 3) := by decide +kernel
theorem dL_periodByBorders_12 : decode cL_periodByBorders 12 = .ok (.astore_n 2, 1) := by decide +kernel
theorem dL_periodByBorders_13 : decode cL_periodByBorders 13 = .ok (.sipush (-1000), 3) := by decide +kernel
theorem dL_periodByBorders_16 : decode cL_periodByBorders 16 = .ok (.ireturn, 1) := by decide +kernel
theorem dL_periodByBorders_17 : decode cL_periodByBorders 17 = .ok (.iload_n 1, 1) := by decide +kernel
theorem dL_periodByBorders_18 : decode cL_periodByBorders 18 = .ok (.ireturn, 1) := by decide +kernel
theorem dL_occurrences_0 : decode cL_occurrences 0 = .ok (.sipush (-1000), 3) := by decide +kernel
theorem dL_occurrences_3 : decode cL_occurrences 3 = .ok (.istore_n 2, 1) := by decide +kernel
theorem dL_occurrences_4 : decode cL_occurrences 4 = .ok (.aload_n 0, 1) := by decide +kernel
theorem dL_occurrences_5 : decode cL_occurrences 5 = .ok (.iload_n 1, 1) := by decide +kernel
theorem dL_occurrences_6 : decode cL_occurrences 6 = .ok (.invokevirtual 71, 3) := by decide +kernel
theorem dL_occurrences_9 : decode cL_occurrences 9 = .ok (.istore_n 2, 1) := by decide +kernel
theorem dL_occurrences_10 : decode cL_occurrences 10 = .ok (.goto 8, 3) := by decide +kernel
theorem dL_occurrences_13 : decode cL_occurrences 13 = .ok (.astore_n 3, 1) := by decide +kernel
theorem dL_occurrences_14 : decode cL_occurrences 14 = .ok (.sipush (-1000), 3) := by decide +kernel
theorem dL_occurrences_17 : decode cL_occurrences 17 = .ok (.ireturn, 1) := by decide +kernel
theorem dL_occurrences_18 : decode cL_occurrences 18 = .ok (.iload_n 2, 1) := by decide +kernel
theorem dL_occurrences_19 : decode cL_occurrences 19 = .ok (.ireturn, 1) := by decide +kernel
theorem dL_meanRaised_0 : decode cL_meanRaised 0 = .ok (.ldc2_w 74, 3) := by decide +kernel
theorem dL_meanRaised_3 : decode cL_meanRaised 3 = .ok (.dstore_n 1, 1) := by decide +kernel
theorem dL_meanRaised_4 : decode cL_meanRaised 4 = .ok (.aload_n 0, 1) := by decide +kernel
theorem dL_meanRaised_5 : decode cL_meanRaised 5 = .ok (.invokevirtual 76, 3) := by decide +kernel
theorem dL_meanRaised_8 : decode cL_meanRaised 8 = .ok (.dstore_n 1, 1) := by decide +kernel
theorem dL_meanRaised_9 : decode cL_meanRaised 9 = .ok (.goto 8, 3) := by decide +kernel
theorem dL_meanRaised_12 : decode cL_meanRaised 12 = .ok (.astore_n 3, 1) := by decide +kernel
theorem dL_meanRaised_13 : decode cL_meanRaised 13 = .ok (.ldc2_w 74, 3) := by decide +kernel
theorem dL_meanRaised_16 : decode cL_meanRaised 16 = .ok (.dreturn, 1) := by decide +kernel
theorem dL_meanRaised_17 : decode cL_meanRaised 17 = .ok (.dload_n 1, 1) := by decide +kernel
theorem dL_meanRaised_18 : decode cL_meanRaised 18 = .ok (.dreturn, 1) := by decide +kernel
theorem dL_knotShare_0 : decode cL_knotShare 0 = .ok (.ldc 82, 2) := by decide +kernel
theorem dL_knotShare_2 : decode cL_knotShare 2 = .ok (.fstore_n 1, 1) := by decide +kernel
theorem dL_knotShare_3 : decode cL_knotShare 3 = .ok (.aload_n 0, 1) := by decide +kernel
theorem dL_knotShare_4 : decode cL_knotShare 4 = .ok (.invokevirtual 83, 3) := by decide +kernel
theorem dL_knotShare_7 : decode cL_knotShare 7 = .ok (.fstore_n 1, 1) := by decide +kernel
theorem dL_knotShare_8 : decode cL_knotShare 8 = .ok (.goto 7, 3) := by decide +kernel
theorem dL_knotShare_11 : decode cL_knotShare 11 = .ok (.astore_n 2, 1) := by decide +kernel
theorem dL_knotShare_12 : decode cL_knotShare 12 = .ok (.ldc 82, 2) := by decide +kernel
theorem dL_knotShare_14 : decode cL_knotShare 14 = .ok (.freturn, 1) := by decide +kernel
theorem dL_knotShare_15 : decode cL_knotShare 15 = .ok (.fload_n 1, 1) := by decide +kernel
theorem dL_knotShare_16 : decode cL_knotShare 16 = .ok (.freturn, 1) := by decide +kernel
theorem dL_execute_0 : decode cL_execute 0 = .ok (.ldc 10, 2) := by decide +kernel
theorem dL_execute_2 : decode cL_execute 2 = .ok (.istore_n 1, 1) := by decide +kernel
theorem dL_execute_3 : decode cL_execute 3 = .ok (.aload_n 0, 1) := by decide +kernel
theorem dL_execute_4 : decode cL_execute 4 = .ok (.invokevirtual 87, 3) := by decide +kernel
theorem dL_execute_7 : decode cL_execute 7 = .ok (.istore_n 1, 1) := by decide +kernel
theorem dL_execute_8 : decode cL_execute 8 = .ok (.goto 11, 3) := by decide +kernel
theorem dL_execute_11 : decode cL_execute 11 = .ok (.astore_n 2, 1) := by decide +kernel
theorem dL_execute_12 : decode cL_execute 12 = .ok (.ldc 10, 2) := by decide +kernel
theorem dL_execute_14 : decode cL_execute 14 = .ok (.ireturn, 1) := by decide +kernel
theorem dL_execute_15 : decode cL_execute 15 = .ok (.astore_n 2, 1) := by decide +kernel
theorem dL_execute_16 : decode cL_execute 16 = .ok (.ldc 10, 2) := by decide +kernel
theorem dL_execute_18 : decode cL_execute 18 = .ok (.ireturn, 1) := by decide +kernel
theorem dL_execute_19 : decode cL_execute 19 = .ok (.iload_n 1, 1) := by decide +kernel
theorem dL_execute_20 : decode cL_execute 20 = .ok (.ireturn, 1) := by decide +kernel
theorem dL_denial_0 : decode cL_denial 0 = .ok (.sipush (-1000), 3) := by decide +kernel
theorem dL_denial_3 : decode cL_denial 3 = .ok (.istore_n 1, 1) := by decide +kernel
theorem dL_denial_4 : decode cL_denial 4 = .ok (.aload_n 0, 1) := by decide +kernel
theorem dL_denial_5 : decode cL_denial 5 = .ok (.invokevirtual 90, 3) := by decide +kernel
theorem dL_denial_8 : decode cL_denial 8 = .ok (.istore_n 1, 1) := by decide +kernel
theorem dL_denial_9 : decode cL_denial 9 = .ok (.goto 8, 3) := by decide +kernel
theorem dL_denial_12 : decode cL_denial 12 = .ok (.astore_n 2, 1) := by decide +kernel
theorem dL_denial_13 : decode cL_denial 13 = .ok (.sipush (-1000), 3) := by decide +kernel
theorem dL_denial_16 : decode cL_denial 16 = .ok (.ireturn, 1) := by decide +kernel
theorem dL_denial_17 : decode cL_denial 17 = .ok (.iload_n 1, 1) := by decide +kernel
theorem dL_denial_18 : decode cL_denial 18 = .ok (.ireturn, 1) := by decide +kernel
theorem dL_denialCause_0 : decode cL_denialCause 0 = .ok (.sipush (-1000), 3) := by decide +kernel
theorem dL_denialCause_3 : decode cL_denialCause 3 = .ok (.istore_n 1, 1) := by decide +kernel
theorem dL_denialCause_4 : decode cL_denialCause 4 = .ok (.aload_n 0, 1) := by decide +kernel
theorem dL_denialCause_5 : decode cL_denialCause 5 = .ok (.invokevirtual 93, 3) := by decide +kernel
theorem dL_denialCause_8 : decode cL_denialCause 8 = .ok (.istore_n 1, 1) := by decide +kernel
theorem dL_denialCause_9 : decode cL_denialCause 9 = .ok (.goto 8, 3) := by decide +kernel
theorem dL_denialCause_12 : decode cL_denialCause 12 = .ok (.astore_n 2, 1) := by decide +kernel
theorem dL_denialCause_13 : decode cL_denialCause 13 = .ok (.sipush (-1000), 3) := by decide +kernel
theorem dL_denialCause_16 : decode cL_denialCause 16 = .ok (.ireturn, 1) := by decide +kernel
theorem dL_denialCause_17 : decode cL_denialCause 17 = .ok (.iload_n 1, 1) := by decide +kernel
theorem dL_denialCause_18 : decode cL_denialCause 18 = .ok (.ireturn, 1) := by decide +kernel
theorem dL_undo_0 : decode cL_undo 0 = .ok (.ldc 10, 2) := by decide +kernel
theorem dL_undo_2 : decode cL_undo 2 = .ok (.istore_n 1, 1) := by decide +kernel
theorem dL_undo_3 : decode cL_undo 3 = .ok (.aload_n 0, 1) := by decide +kernel
theorem dL_undo_4 : decode cL_undo 4 = .ok (.invokevirtual 96, 3) := by decide +kernel
theorem dL_undo_7 : decode cL_undo 7 = .ok (.istore_n 1, 1) := by decide +kernel
theorem dL_undo_8 : decode cL_undo 8 = .ok (.goto 7, 3) := by decide +kernel
theorem dL_undo_11 : decode cL_undo 11 = .ok (.astore_n 2, 1) := by decide +kernel
theorem dL_undo_12 : decode cL_undo 12 = .ok (.ldc 10, 2) := by decide +kernel
theorem dL_undo_14 : decode cL_undo 14 = .ok (.ireturn, 1) := by decide +kernel
theorem dL_undo_15 : decode cL_undo 15 = .ok (.iload_n 1, 1) := by decide +kernel
theorem dL_undo_16 : decode cL_undo 16 = .ok (.ireturn, 1) := by decide +kernel
theorem dL_restore_0 : decode cL_restore 0 = .ok (.ldc 10, 2) := by decide +kernel
theorem dL_restore_2 : decode cL_restore 2 = .ok (.istore_n 1, 1) := by decide +kernel
theorem dL_restore_3 : decode cL_restore 3 = .ok (.aload_n 0, 1) := by decide +kernel
theorem dL_restore_4 : decode cL_restore 4 = .ok (.invokevirtual 101, 3) := by decide +kernel
theorem dL_restore_7 : decode cL_restore 7 = .ok (.istore_n 1, 1) := by decide +kernel
theorem dL_restore_8 : decode cL_restore 8 = .ok (.goto 7, 3) := by decide +kernel
theorem dL_restore_11 : decode cL_restore 11 = .ok (.astore_n 2, 1) := by decide +kernel
theorem dL_restore_12 : decode cL_restore 12 = .ok (.ldc 10, 2) := by decide +kernel
theorem dL_restore_14 : decode cL_restore 14 = .ok (.ireturn, 1) := by decide +kernel
theorem dL_restore_15 : decode cL_restore 15 = .ok (.iload_n 1, 1) := by decide +kernel
theorem dL_restore_16 : decode cL_restore 16 = .ok (.ireturn, 1) := by decide +kernel
theorem dL_put_0 : decode cL_put 0 = .ok (.aload_n 0, 1) := by decide +kernel
theorem dL_put_1 : decode cL_put 1 = .ok (.iload_n 1, 1) := by decide +kernel
theorem dL_put_2 : decode cL_put 2 = .ok (.invokevirtual 104, 3) := by decide +kernel
theorem dL_put_5 : decode cL_put 5 = .ok (.pop, 1) := by decide +kernel
theorem dL_put_6 : decode cL_put 6 = .ok (.goto 6, 3) := by decide +kernel
theorem dL_put_9 : decode cL_put 9 = .ok (.astore_n 2, 1) := by decide +kernel
theorem dL_put_10 : decode cL_put 10 = .ok (.iconst 0, 1) := by decide +kernel
theorem dL_put_11 : decode cL_put 11 = .ok (.ireturn, 1) := by decide +kernel
theorem dL_put_12 : decode cL_put 12 = .ok (.iconst 1, 1) := by decide +kernel
theorem dL_put_13 : decode cL_put 13 = .ok (.ireturn, 1) := by decide +kernel
theorem dL_write_0 : decode cL_write 0 = .ok (.iconst 0, 1) := by decide +kernel
theorem dL_write_1 : decode cL_write 1 = .ok (.istore_n 2, 1) := by decide +kernel
theorem dL_write_2 : decode cL_write 2 = .ok (.iload_n 2, 1) := by decide +kernel
theorem dL_write_3 : decode cL_write 3 = .ok (.aload_n 1, 1) := by decide +kernel
theorem dL_write_4 : decode cL_write 4 = .ok (.invokevirtual 107, 3) := by decide +kernel
theorem dL_write_7 : decode cL_write 7 = .ok (.if_icmp .ge 19, 3) := by decide +kernel
theorem dL_write_10 : decode cL_write 10 = .ok (.aload_n 0, 1) := by decide +kernel
theorem dL_write_11 : decode cL_write 11 = .ok (.aload_n 1, 1) := by decide +kernel
theorem dL_write_12 : decode cL_write 12 = .ok (.iload_n 2, 1) := by decide +kernel
theorem dL_write_13 : decode cL_write 13 = .ok (.invokevirtual 112, 3) := by decide +kernel
theorem dL_write_16 : decode cL_write 16 = .ok (.invokestatic 116, 3) := by decide +kernel
theorem dL_write_19 : decode cL_write 19 = .ok (.pop, 1) := by decide +kernel
theorem dL_write_20 : decode cL_write 20 = .ok (.iinc 2 1, 3) := by decide +kernel
theorem dL_write_23 : decode cL_write 23 = .ok (.goto (-21), 3) := by decide +kernel
theorem dL_write_26 : decode cL_write 26 = .ok (.aload_n 0, 1) := by decide +kernel
theorem dL_write_27 : decode cL_write 27 = .ok (.areturn, 1) := by decide +kernel
theorem dL_act_0 : decode cL_act 0 = .ok (.iload_n 1, 1) := by decide +kernel
theorem dL_act_1 : decode cL_act 1 = .ok (.iconst 4, 1) := by decide +kernel
theorem dL_act_2 : decode cL_act 2 = .ok (.ishr, 1) := by decide +kernel
theorem dL_act_3 : decode cL_act 3 = .ok (.ldc 7, 2) := by decide +kernel
theorem dL_act_5 : decode cL_act 5 = .ok (.iand, 1) := by decide +kernel
theorem dL_act_6 : decode cL_act 6 = .ok (.istore_n 2, 1) := by decide +kernel
theorem dL_act_7 : decode cL_act 7 = .ok (.iload_n 2, 1) := by decide +kernel
theorem dL_act_8 : decode cL_act 8 = .ok (.iconst 4, 1) := by decide +kernel
theorem dL_act_9 : decode cL_act 9 = .ok (.irem, 1) := by decide +kernel
theorem dL_act_10 : decode cL_act 10 = .ok (.istore_n 3, 1) := by decide +kernel
theorem dL_act_11 : decode cL_act 11 = .ok (.iload_n 1, 1) := by decide +kernel
theorem dL_act_12 : decode cL_act 12 = .ok (.bipush 15, 2) := by decide +kernel
theorem dL_act_14 : decode cL_act 14 = .ok (.iand, 1) := by decide +kernel
theorem dL_act_15 : decode cL_act 15 = .ok (.tableswitch 232 0 14 #[73, 89, 89, 89, 95, 122, 122, 122, 133, 143, 158, 175, 214, 214, 214], 73) := by decide +kernel
theorem dL_act_88 : decode cL_act 88 = .ok (.aload_n 0, 1) := by decide +kernel
theorem dL_act_89 : decode cL_act 89 = .ok (.iload_n 2, 1) := by decide +kernel
theorem dL_act_90 : decode cL_act 90 = .ok (.bipush 9, 2) := by decide +kernel
theorem dL_act_92 : decode cL_act 92 = .ok (.irem, 1) := by decide +kernel
theorem dL_act_93 : decode cL_act 93 = .ok (.iload_n 2, 1) := by decide +kernel
theorem dL_act_94 : decode cL_act 94 = .ok (.iload_n 2, 1) := by decide +kernel
theorem dL_act_95 : decode cL_act 95 = .ok (.iconst 3, 1) := by decide +kernel
theorem dL_act_96 : decode cL_act 96 = .ok (.ishr, 1) := by decide +kernel
theorem dL_act_97 : decode cL_act 97 = .ok (.bipush 30, 2) := by decide +kernel
theorem dL_act_99 : decode cL_act 99 = .ok (.irem, 1) := by decide +kernel
theorem dL_act_100 : decode cL_act 100 = .ok (.invokestatic 120, 3) := by decide +kernel
theorem dL_act_103 : decode cL_act 103 = .ok (.ireturn, 1) := by decide +kernel
theorem dL_act_104 : decode cL_act 104 = .ok (.aload_n 0, 1) := by decide +kernel
theorem dL_act_105 : decode cL_act 105 = .ok (.iload_n 3, 1) := by decide +kernel
theorem dL_act_106 : decode cL_act 106 = .ok (.invokestatic 123, 3) := by decide +kernel
theorem dL_act_109 : decode cL_act 109 = .ok (.ireturn, 1) := by decide +kernel
theorem dL_act_110 : decode cL_act 110 = .ok (.iload_n 2, 1) := by decide +kernel
theorem dL_act_111 : decode cL_act 111 = .ok (.bipush 64, 2) := by decide +kernel
theorem dL_act_113 : decode cL_act 113 = .ok (.iand, 1) := by decide +kernel
theorem dL_act_114 : decode cL_act 114 = .ok (.ifCond .ne 11, 3) := by decide +kernel
theorem dL_act_117 : decode cL_act 117 = .ok (.aload_n 0, 1) := by decide +kernel
theorem dL_act_118 : decode cL_act 118 = .ok (.iload_n 3, 1) := by decide +kernel
theorem dL_act_119 : decode cL_act 119 = .ok (.invokestatic 126, 3) := by decide +kernel
theorem dL_act_122 : decode cL_act 122 = .ok (.goto 14, 3) := by decide +kernel
theorem dL_act_125 : decode cL_act 125 = .ok (.aload_n 0, 1) := by decide +kernel
theorem dL_act_126 : decode cL_act 126 = .ok (.iload_n 3, 1) := by decide +kernel
theorem dL_act_127 : decode cL_act 127 = .ok (.iload_n 2, 1) := by decide +kernel
theorem dL_act_128 : decode cL_act 128 = .ok (.iconst 3, 1) := by decide +kernel
theorem dL_act_129 : decode cL_act 129 = .ok (.ishr, 1) := by decide +kernel
theorem dL_act_130 : decode cL_act 130 = .ok (.bipush 40, 2) := by decide +kernel
theorem dL_act_132 : decode cL_act 132 = .ok (.irem, 1) := by decide +kernel
theorem dL_act_133 : decode cL_act 133 = .ok (.invokestatic 128, 3) := by decide +kernel
theorem dL_act_136 : decode cL_act 136 = .ok (.ireturn, 1) := by decide +kernel
theorem dL_act_137 : decode cL_act 137 = .ok (.aload_n 0, 1) := by decide +kernel
theorem dL_act_138 : decode cL_act 138 = .ok (.iload_n 2, 1) := by decide +kernel
theorem dL_act_139 : decode cL_act 139 = .ok (.iconst 2, 1) := by decide +kernel
theorem dL_act_140 : decode cL_act 140 = .ok (.ishr, 1) := by decide +kernel
theorem dL_act_141 : decode cL_act 141 = .ok (.bipush 8, 2) := by decide +kernel
theorem dL_act_143 : decode cL_act 143 = .ok (.irem, 1) := by decide +kernel
theorem dL_act_144 : decode cL_act 144 = .ok (.invokestatic 131, 3) := by decide +kernel
theorem dL_act_147 : decode cL_act 147 = .ok (.ireturn, 1) := by decide +kernel
theorem dL_act_148 : decode cL_act 148 = .ok (.aload_n 0, 1) := by decide +kernel
theorem dL_act_149 : decode cL_act 149 = .ok (.iload_n 2, 1) := by decide +kernel
theorem dL_act_150 : decode cL_act 150 = .ok (.iconst 2, 1) := by decide +kernel
theorem dL_act_151 : decode cL_act 151 = .ok (.ishr, 1) := by decide +kernel
theorem dL_act_152 : decode cL_act 152 = .ok (.iconst 5, 1) := by decide +kernel
theorem dL_act_153 : decode cL_act 153 = .ok (.irem, 1) := by decide +kernel
theorem dL_act_154 : decode cL_act 154 = .ok (.invokestatic 133, 3) := by decide +kernel
theorem dL_act_157 : decode cL_act 157 = .ok (.ireturn, 1) := by decide +kernel
theorem dL_act_158 : decode cL_act 158 = .ok (.aload_n 0, 1) := by decide +kernel
theorem dL_act_159 : decode cL_act 159 = .ok (.iload_n 2, 1) := by decide +kernel
theorem dL_act_160 : decode cL_act 160 = .ok (.iconst 2, 1) := by decide +kernel
theorem dL_act_161 : decode cL_act 161 = .ok (.ishr, 1) := by decide +kernel
theorem dL_act_162 : decode cL_act 162 = .ok (.iconst 5, 1) := by decide +kernel
theorem dL_act_163 : decode cL_act 163 = .ok (.irem, 1) := by decide +kernel
theorem dL_act_164 : decode cL_act 164 = .ok (.iload_n 2, 1) := by decide +kernel
theorem dL_act_165 : decode cL_act 165 = .ok (.iconst 4, 1) := by decide +kernel
theorem dL_act_166 : decode cL_act 166 = .ok (.ishr, 1) := by decide +kernel
theorem dL_act_167 : decode cL_act 167 = .ok (.iconst 4, 1) := by decide +kernel
theorem dL_act_168 : decode cL_act 168 = .ok (.irem, 1) := by decide +kernel
theorem dL_act_169 : decode cL_act 169 = .ok (.invokestatic 135, 3) := by decide +kernel
theorem dL_act_172 : decode cL_act 172 = .ok (.ireturn, 1) := by decide +kernel
theorem dL_act_173 : decode cL_act 173 = .ok (.aload_n 0, 1) := by decide +kernel
theorem dL_act_174 : decode cL_act 174 = .ok (.iload_n 2, 1) := by decide +kernel
theorem dL_act_175 : decode cL_act 175 = .ok (.iconst 2, 1) := by decide +kernel
theorem dL_act_176 : decode cL_act 176 = .ok (.ishr, 1) := by decide +kernel
theorem dL_act_177 : decode cL_act 177 = .ok (.bipush 12, 2) := by decide +kernel
theorem dL_act_179 : decode cL_act 179 = .ok (.irem, 1) := by decide +kernel
theorem dL_act_180 : decode cL_act 180 = .ok (.iload_n 2, 1) := by decide +kernel
theorem dL_act_181 : decode cL_act 181 = .ok (.iconst 5, 1) := by decide +kernel
theorem dL_act_182 : decode cL_act 182 = .ok (.ishr, 1) := by decide +kernel
theorem dL_act_183 : decode cL_act 183 = .ok (.bipush 17, 2) := by decide +kernel
theorem dL_act_185 : decode cL_act 185 = .ok (.irem, 1) := by decide +kernel
theorem dL_act_186 : decode cL_act 186 = .ok (.invokestatic 137, 3) := by decide +kernel
theorem dL_act_189 : decode cL_act 189 = .ok (.ireturn, 1) := by decide +kernel
theorem dL_act_190 : decode cL_act 190 = .ok (.iload_n 2, 1) := by decide +kernel
theorem dL_act_191 : decode cL_act 191 = .ok (.bipush 64, 2) := by decide +kernel
theorem dL_act_193 : decode cL_act 193 = .ok (.iand, 1) := by decide +kernel
theorem dL_act_194 : decode cL_act 194 = .ok (.ifCond .ne 22, 3) := by decide +kernel
theorem dL_act_197 : decode cL_act 197 = .ok (.aload_n 0, 1) := by decide +kernel
theorem dL_act_198 : decode cL_act 198 = .ok (.iload_n 2, 1) := by decide +kernel
theorem dL_act_199 : decode cL_act 199 = .ok (.iconst 2, 1) := by decide +kernel
theorem dL_act_200 : decode cL_act 200 = .ok (.ishr, 1) := by decide +kernel
theorem dL_act_201 : decode cL_act 201 = .ok (.bipush 12, 2) := by decide +kernel
theorem dL_act_203 : decode cL_act 203 = .ok (.irem, 1) := by decide +kernel
theorem dL_act_204 : decode cL_act 204 = .ok (.iload_n 2, 1) := by decide +kernel
theorem dL_act_205 : decode cL_act 205 = .ok (.iconst 5, 1) := by decide +kernel
theorem dL_act_206 : decode cL_act 206 = .ok (.ishr, 1) := by decide +kernel
theorem dL_act_207 : decode cL_act 207 = .ok (.bipush 16, 2) := by decide +kernel
theorem dL_act_209 : decode cL_act 209 = .ok (.irem, 1) := by decide +kernel
theorem dL_act_210 : decode cL_act 210 = .ok (.invokestatic 139, 3) := by decide +kernel
theorem dL_act_213 : decode cL_act 213 = .ok (.goto 15, 3) := by decide +kernel
theorem dL_act_216 : decode cL_act 216 = .ok (.aload_n 0, 1) := by decide +kernel
theorem dL_act_217 : decode cL_act 217 = .ok (.ldc 141, 2) := by decide +kernel
theorem dL_act_219 : decode cL_act 219 = .ok (.iload_n 2, 1) := by decide +kernel
theorem dL_act_220 : decode cL_act 220 = .ok (.iconst 3, 1) := by decide +kernel
theorem dL_act_221 : decode cL_act 221 = .ok (.irem, 1) := by decide +kernel
theorem dL_act_222 : decode cL_act 222 = .ok (.invokevirtual 112, 3) := by decide +kernel
theorem dL_act_225 : decode cL_act 225 = .ok (.invokestatic 143, 3) := by decide +kernel
theorem dL_act_228 : decode cL_act 228 = .ok (.ireturn, 1) := by decide +kernel
theorem dL_act_229 : decode cL_act 229 = .ok (.aload_n 0, 1) := by decide +kernel
theorem dL_act_230 : decode cL_act 230 = .ok (.getstatic 146, 3) := by decide +kernel
theorem dL_act_233 : decode cL_act 233 = .ok (.iload_n 2, 1) := by decide +kernel
theorem dL_act_234 : decode cL_act 234 = .ok (.getstatic 146, 3) := by decide +kernel
theorem dL_act_237 : decode cL_act 237 = .ok (.arraylength, 1) := by decide +kernel
theorem dL_act_238 : decode cL_act 238 = .ok (.irem, 1) := by decide +kernel
theorem dL_act_239 : decode cL_act 239 = .ok (.aaload, 1) := by decide +kernel
theorem dL_act_240 : decode cL_act 240 = .ok (.invokestatic 150, 3) := by decide +kernel
theorem dL_act_243 : decode cL_act 243 = .ok (.invokestatic 154, 3) := by decide +kernel
theorem dL_act_246 : decode cL_act 246 = .ok (.ireturn, 1) := by decide +kernel
theorem dL_act_247 : decode cL_act 247 = .ok (.iload_n 2, 1) := by decide +kernel
theorem dL_act_248 : decode cL_act 248 = .ok (.iconst 3, 1) := by decide +kernel
theorem dL_act_249 : decode cL_act 249 = .ok (.iand, 1) := by decide +kernel
theorem dL_act_250 : decode cL_act 250 = .ok (.ifCond .ne 10, 3) := by decide +kernel
theorem dL_act_253 : decode cL_act 253 = .ok (.aload_n 0, 1) := by decide +kernel
theorem dL_act_254 : decode cL_act 254 = .ok (.invokevirtual 157, 3) := by decide +kernel
theorem dL_act_257 : decode cL_act 257 = .ok (.goto 21, 3) := by decide +kernel
theorem dL_act_260 : decode cL_act 260 = .ok (.iload_n 2, 1) := by decide +kernel
theorem dL_act_261 : decode cL_act 261 = .ok (.iconst 3, 1) := by decide +kernel
theorem dL_act_262 : decode cL_act 262 = .ok (.iand, 1) := by decide +kernel
theorem dL_act_263 : decode cL_act 263 = .ok (.iconst 1, 1) := by decide +kernel
theorem dL_act_264 : decode cL_act 264 = .ok (.if_icmp .ne 10, 3) := by decide +kernel
theorem dL_act_267 : decode cL_act 267 = .ok (.aload_n 0, 1) := by decide +kernel
theorem dL_act_268 : decode cL_act 268 = .ok (.invokestatic 160, 3) := by decide +kernel
theorem dL_act_271 : decode cL_act 271 = .ok (.goto 7, 3) := by decide +kernel
theorem dL_act_274 : decode cL_act 274 = .ok (.aload_n 0, 1) := by decide +kernel
theorem dL_act_275 : decode cL_act 275 = .ok (.invokestatic 163, 3) := by decide +kernel
theorem dL_act_278 : decode cL_act 278 = .ok (.ireturn, 1) := by decide +kernel
theorem dL_digest_0 : decode cL_digest 0 = .ok (.ldc2_w 165, 3) := by decide +kernel
theorem dL_digest_3 : decode cL_digest 3 = .ok (.aload_n 0, 1) := by decide +kernel
theorem dL_digest_4 : decode cL_digest 4 = .ok (.invokevirtual 167, 3) := by decide +kernel
theorem dL_digest_7 : decode cL_digest 7 = .ok (.i2l, 1) := by decide +kernel
theorem dL_digest_8 : decode cL_digest 8 = .ok (.lmul, 1) := by decide +kernel
theorem dL_digest_9 : decode cL_digest 9 = .ok (.ldc2_w 170, 3) := by decide +kernel
theorem dL_digest_12 : decode cL_digest 12 = .ok (.aload_n 0, 1) := by decide +kernel
theorem dL_digest_13 : decode cL_digest 13 = .ok (.invokevirtual 172, 3) := by decide +kernel
theorem dL_digest_16 : decode cL_digest 16 = .ok (.i2l, 1) := by decide +kernel
theorem dL_digest_17 : decode cL_digest 17 = .ok (.lmul, 1) := by decide +kernel
theorem dL_digest_18 : decode cL_digest 18 = .ok (.ladd, 1) := by decide +kernel
theorem dL_digest_19 : decode cL_digest 19 = .ok (.ldc2_w 175, 3) := by decide +kernel
theorem dL_digest_22 : decode cL_digest 22 = .ok (.aload_n 0, 1) := by decide +kernel
theorem dL_digest_23 : decode cL_digest 23 = .ok (.bipush 108, 2) := by decide +kernel
theorem dL_digest_25 : decode cL_digest 25 = .ok (.invokevirtual 177, 3) := by decide +kernel
theorem dL_digest_28 : decode cL_digest 28 = .ok (.i2l, 1) := by decide +kernel
theorem dL_digest_29 : decode cL_digest 29 = .ok (.lmul, 1) := by decide +kernel
theorem dL_digest_30 : decode cL_digest 30 = .ok (.ladd, 1) := by decide +kernel
theorem dL_digest_31 : decode cL_digest 31 = .ok (.ldc2_w 180, 3) := by decide +kernel
theorem dL_digest_34 : decode cL_digest 34 = .ok (.aload_n 0, 1) := by decide +kernel
theorem dL_digest_35 : decode cL_digest 35 = .ok (.bipush 114, 2) := by decide +kernel
theorem dL_digest_37 : decode cL_digest 37 = .ok (.invokevirtual 177, 3) := by decide +kernel
theorem dL_digest_40 : decode cL_digest 40 = .ok (.i2l, 1) := by decide +kernel
theorem dL_digest_41 : decode cL_digest 41 = .ok (.lmul, 1) := by decide +kernel
theorem dL_digest_42 : decode cL_digest 42 = .ok (.ladd, 1) := by decide +kernel
theorem dL_digest_43 : decode cL_digest 43 = .ok (.ldc2_w 182, 3) := by decide +kernel
theorem dL_digest_46 : decode cL_digest 46 = .ok (.aload_n 0, 1) := by decide +kernel
theorem dL_digest_47 : decode cL_digest 47 = .ok (.bipush 108, 2) := by decide +kernel
theorem dL_digest_49 : decode cL_digest 49 = .ok (.invokevirtual 184, 3) := by decide +kernel
theorem dL_digest_52 : decode cL_digest 52 = .ok (.i2l, 1) := by decide +kernel
theorem dL_digest_53 : decode cL_digest 53 = .ok (.lmul, 1) := by decide +kernel
theorem dL_digest_54 : decode cL_digest 54 = .ok (.ladd, 1) := by decide +kernel
theorem dL_digest_55 : decode cL_digest 55 = .ok (.ldc2_w 187, 3) := by decide +kernel
theorem dL_digest_58 : decode cL_digest 58 = .ok (.aload_n 0, 1) := by decide +kernel
theorem dL_digest_59 : decode cL_digest 59 = .ok (.bipush 114, 2) := by decide +kernel
theorem dL_digest_61 : decode cL_digest 61 = .ok (.invokevirtual 184, 3) := by decide +kernel
theorem dL_digest_64 : decode cL_digest 64 = .ok (.i2l, 1) := by decide +kernel
theorem dL_digest_65 : decode cL_digest 65 = .ok (.lmul, 1) := by decide +kernel
theorem dL_digest_66 : decode cL_digest 66 = .ok (.ladd, 1) := by decide +kernel
theorem dL_digest_67 : decode cL_digest 67 = .ok (.aload_n 0, 1) := by decide +kernel
theorem dL_digest_68 : decode cL_digest 68 = .ok (.invokevirtual 189, 3) := by decide +kernel
theorem dL_digest_71 : decode cL_digest 71 = .ok (.i2l, 1) := by decide +kernel
theorem dL_digest_72 : decode cL_digest 72 = .ok (.ladd, 1) := by decide +kernel
theorem dL_digest_73 : decode cL_digest 73 = .ok (.lstore_n 1, 1) := by decide +kernel
theorem dL_digest_74 : decode cL_digest 74 = .ok (.iconst 0, 1) := by decide +kernel
theorem dL_digest_75 : decode cL_digest 75 = .ok (.istore_n 3, 1) := by decide +kernel
theorem dL_digest_76 : decode cL_digest 76 = .ok (.iload_n 3, 1) := by decide +kernel
theorem dL_digest_77 : decode cL_digest 77 = .ok (.aload_n 0, 1) := by decide +kernel
theorem dL_digest_78 : decode cL_digest 78 = .ok (.invokevirtual 189, 3) := by decide +kernel
theorem dL_digest_81 : decode cL_digest 81 = .ok (.if_icmp .ge 41, 3) := by decide +kernel
theorem dL_digest_84 : decode cL_digest 84 = .ok (.ldc2_w 192, 3) := by decide +kernel
theorem dL_digest_87 : decode cL_digest 87 = .ok (.ldc2_w 192, 3) := by decide +kernel
theorem dL_digest_90 : decode cL_digest 90 = .ok (.lload_n 1, 1) := by decide +kernel
theorem dL_digest_91 : decode cL_digest 91 = .ok (.lmul, 1) := by decide +kernel
theorem dL_digest_92 : decode cL_digest 92 = .ok (.aload_n 0, 1) := by decide +kernel
theorem dL_digest_93 : decode cL_digest 93 = .ok (.iload_n 3, 1) := by decide +kernel
theorem dL_digest_94 : decode cL_digest 94 = .ok (.invokevirtual 194, 3) := by decide +kernel
theorem dL_digest_97 : decode cL_digest 97 = .ok (.i2l, 1) := by decide +kernel
theorem dL_digest_98 : decode cL_digest 98 = .ok (.ladd, 1) := by decide +kernel
theorem dL_digest_99 : decode cL_digest 99 = .ok (.lmul, 1) := by decide +kernel
theorem dL_digest_100 : decode cL_digest 100 = .ok (.aload_n 0, 1) := by decide +kernel
theorem dL_digest_101 : decode cL_digest 101 = .ok (.iload_n 3, 1) := by decide +kernel
theorem dL_digest_102 : decode cL_digest 102 = .ok (.invokevirtual 197, 3) := by decide +kernel
theorem dL_digest_105 : decode cL_digest 105 = .ok (.ifCond .eq 7, 3) := by decide +kernel
theorem dL_digest_108 : decode cL_digest 108 = .ok (.iconst 1, 1) := by decide +kernel
theorem dL_digest_109 : decode cL_digest 109 = .ok (.goto 4, 3) := by decide +kernel
theorem dL_digest_112 : decode cL_digest 112 = .ok (.iconst 0, 1) := by decide +kernel
theorem dL_digest_113 : decode cL_digest 113 = .ok (.i2l, 1) := by decide +kernel
theorem dL_digest_114 : decode cL_digest 114 = .ok (.ladd, 1) := by decide +kernel
theorem dL_digest_115 : decode cL_digest 115 = .ok (.lstore_n 1, 1) := by decide +kernel
theorem dL_digest_116 : decode cL_digest 116 = .ok (.iinc 3 1, 3) := by decide +kernel
theorem dL_digest_119 : decode cL_digest 119 = .ok (.goto (-43), 3) := by decide +kernel
theorem dL_digest_122 : decode cL_digest 122 = .ok (.ldc2_w 192, 3) := by decide +kernel
theorem dL_digest_125 : decode cL_digest 125 = .ok (.ldc2_w 192, 3) := by decide +kernel
theorem dL_digest_128 : decode cL_digest 128 = .ok (.lload_n 1, 1) := by decide +kernel
theorem dL_digest_129 : decode cL_digest 129 = .ok (.lmul, 1) := by decide +kernel
theorem dL_digest_130 : decode cL_digest 130 = .ok (.aload_n 0, 1) := by decide +kernel
theorem dL_digest_131 : decode cL_digest 131 = .ok (.invokevirtual 201, 3) := by decide +kernel
theorem dL_digest_134 : decode cL_digest 134 = .ok (.i2l, 1) := by decide +kernel
theorem dL_digest_135 : decode cL_digest 135 = .ok (.ladd, 1) := by decide +kernel
theorem dL_digest_136 : decode cL_digest 136 = .ok (.lmul, 1) := by decide +kernel
theorem dL_digest_137 : decode cL_digest 137 = .ok (.aload_n 0, 1) := by decide +kernel
theorem dL_digest_138 : decode cL_digest 138 = .ok (.invokevirtual 204, 3) := by decide +kernel
theorem dL_digest_141 : decode cL_digest 141 = .ok (.i2l, 1) := by decide +kernel
theorem dL_digest_142 : decode cL_digest 142 = .ok (.ladd, 1) := by decide +kernel
theorem dL_digest_143 : decode cL_digest 143 = .ok (.lstore_n 1, 1) := by decide +kernel
theorem dL_digest_144 : decode cL_digest 144 = .ok (.iconst 0, 1) := by decide +kernel
theorem dL_digest_145 : decode cL_digest 145 = .ok (.istore_n 3, 1) := by decide +kernel
theorem dL_digest_146 : decode cL_digest 146 = .ok (.iload_n 3, 1) := by decide +kernel
theorem dL_digest_147 : decode cL_digest 147 = .ok (.aload_n 0, 1) := by decide +kernel
theorem dL_digest_148 : decode cL_digest 148 = .ok (.invokevirtual 201, 3) := by decide +kernel
theorem dL_digest_151 : decode cL_digest 151 = .ok (.if_icmp .ge 72, 3) := by decide +kernel
theorem dL_digest_154 : decode cL_digest 154 = .ok (.ldc2_w 192, 3) := by decide +kernel
theorem dL_digest_157 : decode cL_digest 157 = .ok (.ldc2_w 192, 3) := by decide +kernel
theorem dL_digest_160 : decode cL_digest 160 = .ok (.lload_n 1, 1) := by decide +kernel
theorem dL_digest_161 : decode cL_digest 161 = .ok (.lmul, 1) := by decide +kernel
theorem dL_digest_162 : decode cL_digest 162 = .ok (.aload_n 0, 1) := by decide +kernel
theorem dL_digest_163 : decode cL_digest 163 = .ok (.iload_n 3, 1) := by decide +kernel
theorem dL_digest_164 : decode cL_digest 164 = .ok (.invokevirtual 207, 3) := by decide +kernel
theorem dL_digest_167 : decode cL_digest 167 = .ok (.i2l, 1) := by decide +kernel
theorem dL_digest_168 : decode cL_digest 168 = .ok (.ladd, 1) := by decide +kernel
theorem dL_digest_169 : decode cL_digest 169 = .ok (.lmul, 1) := by decide +kernel
theorem dL_digest_170 : decode cL_digest 170 = .ok (.aload_n 0, 1) := by decide +kernel
theorem dL_digest_171 : decode cL_digest 171 = .ok (.iload_n 3, 1) := by decide +kernel
theorem dL_digest_172 : decode cL_digest 172 = .ok (.invokevirtual 210, 3) := by decide +kernel
theorem dL_digest_175 : decode cL_digest 175 = .ok (.i2l, 1) := by decide +kernel
theorem dL_digest_176 : decode cL_digest 176 = .ok (.ladd, 1) := by decide +kernel
theorem dL_digest_177 : decode cL_digest 177 = .ok (.lstore_n 1, 1) := by decide +kernel
theorem dL_digest_178 : decode cL_digest 178 = .ok (.iconst 0, 1) := by decide +kernel
theorem dL_digest_179 : decode cL_digest 179 = .ok (.istore 4, 2) := by decide +kernel
theorem dL_digest_181 : decode cL_digest 181 = .ok (.iload 4, 2) := by decide +kernel
theorem dL_digest_183 : decode cL_digest 183 = .ok (.bipush 16, 2) := by decide +kernel
theorem dL_digest_185 : decode cL_digest 185 = .ok (.if_icmp .ge 32, 3) := by decide +kernel
theorem dL_digest_188 : decode cL_digest 188 = .ok (.ldc2_w 192, 3) := by decide +kernel
theorem dL_digest_191 : decode cL_digest 191 = .ok (.lload_n 1, 1) := by decide +kernel
theorem dL_digest_192 : decode cL_digest 192 = .ok (.lmul, 1) := by decide +kernel
theorem dL_digest_193 : decode cL_digest 193 = .ok (.aload_n 0, 1) := by decide +kernel
theorem dL_digest_194 : decode cL_digest 194 = .ok (.iload_n 3, 1) := by decide +kernel
theorem dL_digest_195 : decode cL_digest 195 = .ok (.iload 4, 2) := by decide +kernel
theorem dL_digest_197 : decode cL_digest 197 = .ok (.invokevirtual 213, 3) := by decide +kernel
theorem dL_digest_200 : decode cL_digest 200 = .ok (.ifCond .eq 7, 3) := by decide +kernel
theorem dL_digest_203 : decode cL_digest 203 = .ok (.iconst 1, 1) := by decide +kernel
theorem dL_digest_204 : decode cL_digest 204 = .ok (.goto 4, 3) := by decide +kernel
theorem dL_digest_207 : decode cL_digest 207 = .ok (.iconst 0, 1) := by decide +kernel
theorem dL_digest_208 : decode cL_digest 208 = .ok (.i2l, 1) := by decide +kernel
theorem dL_digest_209 : decode cL_digest 209 = .ok (.ladd, 1) := by decide +kernel
theorem dL_digest_210 : decode cL_digest 210 = .ok (.lstore_n 1, 1) := by decide +kernel
theorem dL_digest_211 : decode cL_digest 211 = .ok (.iinc 4 1, 3) := by decide +kernel
theorem dL_digest_214 : decode cL_digest 214 = .ok (.goto (-33), 3) := by decide +kernel
theorem dL_digest_217 : decode cL_digest 217 = .ok (.iinc 3 1, 3) := by decide +kernel
theorem dL_digest_220 : decode cL_digest 220 = .ok (.goto (-74), 3) := by decide +kernel
theorem dL_digest_223 : decode cL_digest 223 = .ok (.lload_n 1, 1) := by decide +kernel
theorem dL_digest_224 : decode cL_digest 224 = .ok (.lreturn, 1) := by decide +kernel
theorem dL_areEqual_0 : decode cL_areEqual 0 = .ok (.aload_n 0, 1) := by decide +kernel
theorem dL_areEqual_1 : decode cL_areEqual 1 = .ok (.iload_n 1, 1) := by decide +kernel
theorem dL_areEqual_2 : decode cL_areEqual 2 = .ok (.invokevirtual 207, 3) := by decide +kernel
theorem dL_areEqual_5 : decode cL_areEqual 5 = .ok (.aload_n 0, 1) := by decide +kernel
theorem dL_areEqual_6 : decode cL_areEqual 6 = .ok (.iload_n 2, 1) := by decide +kernel
theorem dL_areEqual_7 : decode cL_areEqual 7 = .ok (.invokevirtual 207, 3) := by decide +kernel
theorem dL_areEqual_10 : decode cL_areEqual 10 = .ok (.if_icmp .ne 20, 3) := by decide +kernel
theorem dL_areEqual_13 : decode cL_areEqual 13 = .ok (.aload_n 0, 1) := by decide +kernel
theorem dL_areEqual_14 : decode cL_areEqual 14 = .ok (.iload_n 1, 1) := by decide +kernel
theorem dL_areEqual_15 : decode cL_areEqual 15 = .ok (.invokevirtual 210, 3) := by decide +kernel
theorem dL_areEqual_18 : decode cL_areEqual 18 = .ok (.aload_n 0, 1) := by decide +kernel
theorem dL_areEqual_19 : decode cL_areEqual 19 = .ok (.iload_n 2, 1) := by decide +kernel
theorem dL_areEqual_20 : decode cL_areEqual 20 = .ok (.invokevirtual 210, 3) := by decide +kernel
theorem dL_areEqual_23 : decode cL_areEqual 23 = .ok (.if_icmp .ne 7, 3) := by decide +kernel
theorem dL_areEqual_26 : decode cL_areEqual 26 = .ok (.iconst 1, 1) := by decide +kernel
theorem dL_areEqual_27 : decode cL_areEqual 27 = .ok (.goto 4, 3) := by decide +kernel
theorem dL_areEqual_30 : decode cL_areEqual 30 = .ok (.iconst 0, 1) := by decide +kernel
theorem dL_areEqual_31 : decode cL_areEqual 31 = .ok (.ireturn, 1) := by decide +kernel
theorem dL_areRows_0 : decode cL_areRows 0 = .ok (.aload_n 0, 1) := by decide +kernel
theorem dL_areRows_1 : decode cL_areRows 1 = .ok (.invokevirtual 201, 3) := by decide +kernel
theorem dL_areRows_4 : decode cL_areRows 4 = .ok (.istore_n 1, 1) := by decide +kernel
theorem dL_areRows_5 : decode cL_areRows 5 = .ok (.iconst 0, 1) := by decide +kernel
theorem dL_areRows_6 : decode cL_areRows 6 = .ok (.istore_n 2, 1) := by decide +kernel
theorem dL_areRows_7 : decode cL_areRows 7 = .ok (.iconst 0, 1) := by decide +kernel
theorem dL_areRows_8 : decode cL_areRows 8 = .ok (.istore_n 3, 1) := by decide +kernel
theorem dL_areRows_9 : decode cL_areRows 9 = .ok (.iconst 0, 1) := by decide +kernel
theorem dL_areRows_10 : decode cL_areRows 10 = .ok (.istore 4, 2) := by decide +kernel
theorem dL_areRows_12 : decode cL_areRows 12 = .ok (.iconst 1, 1) := by decide +kernel
theorem dL_areRows_13 : decode cL_areRows 13 = .ok (.istore 5, 2) := by decide +kernel
theorem dL_areRows_15 : decode cL_areRows 15 = .ok (.iload_n 1, 1) := by decide +kernel
theorem dL_areRows_16 : decode cL_areRows 16 = .ok (.bipush 40, 2) := by decide +kernel
theorem dL_areRows_18 : decode cL_areRows 18 = .ok (.if_icmp .gt 7, 3) := by decide +kernel
theorem dL_areRows_21 : decode cL_areRows 21 = .ok (.iconst 1, 1) := by decide +kernel
theorem dL_areRows_22 : decode cL_areRows 22 = .ok (.goto 4, 3) := by decide +kernel
theorem dL_areRows_25 : decode cL_areRows 25 = .ok (.iconst 0, 1) := by decide +kernel
theorem dL_areRows_26 : decode cL_areRows 26 = .ok (.istore 6, 2) := by decide +kernel
theorem dL_areRows_28 : decode cL_areRows 28 = .ok (.iconst 0, 1) := by decide +kernel
theorem dL_areRows_29 : decode cL_areRows 29 = .ok (.istore 7, 2) := by decide +kernel
theorem dL_areRows_31 : decode cL_areRows 31 = .ok (.iload 6, 2) := by decide +kernel
theorem dL_areRows_33 : decode cL_areRows 33 = .ok (.ifCond .eq 264, 3) := by decide +kernel
theorem dL_areRows_36 : decode cL_areRows 36 = .ok (.iload 7, 2) := by decide +kernel
theorem dL_areRows_38 : decode cL_areRows 38 = .ok (.iload_n 1, 1) := by decide +kernel
theorem dL_areRows_39 : decode cL_areRows 39 = .ok (.if_icmp .ge 258, 3) := by decide +kernel
theorem dL_areRows_42 : decode cL_areRows 42 = .ok (.iconst 1, 1) := by decide +kernel
theorem dL_areRows_43 : decode cL_areRows 43 = .ok (.istore 8, 2) := by decide +kernel
theorem dL_areRows_45 : decode cL_areRows 45 = .ok (.aload_n 0, 1) := by decide +kernel
theorem dL_areRows_46 : decode cL_areRows 46 = .ok (.iload 7, 2) := by decide +kernel
theorem dL_areRows_48 : decode cL_areRows 48 = .ok (.invokevirtual 217, 3) := by decide +kernel
theorem dL_areRows_51 : decode cL_areRows 51 = .ok (.bipush 18, 2) := by decide +kernel
theorem dL_areRows_53 : decode cL_areRows 53 = .ok (.if_icmp .ne 24, 3) := by decide +kernel
theorem dL_areRows_56 : decode cL_areRows 56 = .ok (.aload_n 0, 1) := by decide +kernel
theorem dL_areRows_57 : decode cL_areRows 57 = .ok (.iconst 0, 1) := by decide +kernel
theorem dL_areRows_58 : decode cL_areRows 58 = .ok (.invokevirtual 220, 3) := by decide +kernel
theorem dL_areRows_61 : decode cL_areRows 61 = .ok (.bipush 48, 2) := by decide +kernel
theorem dL_areRows_63 : decode cL_areRows 63 = .ok (.aload_n 0, 1) := by decide +kernel
theorem dL_areRows_64 : decode cL_areRows 64 = .ok (.iload 7, 2) := by decide +kernel
theorem dL_areRows_66 : decode cL_areRows 66 = .ok (.invokevirtual 210, 3) := by decide +kernel
theorem dL_areRows_69 : decode cL_areRows 69 = .ok (.iadd, 1) := by decide +kernel
theorem dL_areRows_70 : decode cL_areRows 70 = .ok (.if_icmp .ne 7, 3) := by decide +kernel
theorem dL_areRows_73 : decode cL_areRows 73 = .ok (.iconst 1, 1) := by decide +kernel
theorem dL_areRows_74 : decode cL_areRows 74 = .ok (.goto 4, 3) := by decide +kernel
theorem dL_areRows_77 : decode cL_areRows 77 = .ok (.iconst 0, 1) := by decide +kernel
theorem dL_areRows_78 : decode cL_areRows 78 = .ok (.istore 6, 2) := by decide +kernel
theorem dL_areRows_80 : decode cL_areRows 80 = .ok (.iconst 0, 1) := by decide +kernel
theorem dL_areRows_81 : decode cL_areRows 81 = .ok (.istore 9, 2) := by decide +kernel
theorem dL_areRows_83 : decode cL_areRows 83 = .ok (.iload 6, 2) := by decide +kernel
theorem dL_areRows_85 : decode cL_areRows 85 = .ok (.ifCond .eq 137, 3) := by decide +kernel
theorem dL_areRows_88 : decode cL_areRows 88 = .ok (.iload 9, 2) := by decide +kernel
theorem dL_areRows_90 : decode cL_areRows 90 = .ok (.bipush 16, 2) := by decide +kernel
theorem dL_areRows_92 : decode cL_areRows 92 = .ok (.if_icmp .ge 130, 3) := by decide +kernel
theorem dL_areRows_95 : decode cL_areRows 95 = .ok (.aload_n 0, 1) := by decide +kernel
theorem dL_areRows_96 : decode cL_areRows 96 = .ok (.iload 7, 2) := by decide +kernel
theorem dL_areRows_98 : decode cL_areRows 98 = .ok (.invokevirtual 207, 3) := by decide +kernel
theorem dL_areRows_101 : decode cL_areRows 101 = .ok (.iload 9, 2) := by decide +kernel
theorem dL_areRows_103 : decode cL_areRows 103 = .ok (.ishr, 1) := by decide +kernel
theorem dL_areRows_104 : decode cL_areRows 104 = .ok (.iconst 1, 1) := by decide +kernel
theorem dL_areRows_105 : decode cL_areRows 105 = .ok (.iand, 1) := by decide +kernel
theorem dL_areRows_106 : decode cL_areRows 106 = .ok (.iconst 1, 1) := by decide +kernel
theorem dL_areRows_107 : decode cL_areRows 107 = .ok (.if_icmp .ne 7, 3) := by decide +kernel
theorem dL_areRows_110 : decode cL_areRows 110 = .ok (.iconst 1, 1) := by decide +kernel
theorem dL_areRows_111 : decode cL_areRows 111 = .ok (.goto 4, 3) := by decide +kernel
theorem dL_areRows_114 : decode cL_areRows 114 = .ok (.iconst 0, 1) := by decide +kernel
theorem dL_areRows_115 : decode cL_areRows 115 = .ok (.istore 10, 2) := by decide +kernel
theorem dL_areRows_117 : decode cL_areRows 117 = .ok (.aload_n 0, 1) := by decide +kernel
theorem dL_areRows_118 : decode cL_areRows 118 = .ok (.iload 7, 2) := by decide +kernel
theorem dL_areRows_120 : decode cL_areRows 120 = .ok (.iload 9, 2) := by decide +kernel
theorem dL_areRows_122 : decode cL_areRows 122 = .ok (.invokevirtual 213, 3) := by decide +kernel
theorem dL_areRows_125 : decode cL_areRows 125 = .ok (.istore 11, 2) := by decide +kernel
theorem dL_areRows_127 : decode cL_areRows 127 = .ok (.iload_n 2, 1) := by decide +kernel
theorem dL_areRows_128 : decode cL_areRows 128 = .ok (.iload 10, 2) := by decide +kernel
theorem dL_areRows_130 : decode cL_areRows 130 = .ok (.ifCond .eq 7, 3) := by decide +kernel
theorem dL_areRows_133 : decode cL_areRows 133 = .ok (.iconst 1, 1) := by decide +kernel
theorem dL_areRows_134 : decode cL_areRows 134 = .ok (.goto 4, 3) := by decide +kernel
theorem dL_areRows_137 : decode cL_areRows 137 = .ok (.iconst 0, 1) := by decide +kernel
theorem dL_areRows_138 : decode cL_areRows 138 = .ok (.iadd, 1) := by decide +kernel
theorem dL_areRows_139 : decode cL_areRows 139 = .ok (.istore_n 2, 1) := by decide +kernel
theorem dL_areRows_140 : decode cL_areRows 140 = .ok (.iload_n 3, 1) := by decide +kernel
theorem dL_areRows_141 : decode cL_areRows 141 = .ok (.iload 11, 2) := by decide +kernel
theorem dL_areRows_143 : decode cL_areRows 143 = .ok (.ifCond .eq 7, 3) := by decide +kernel
theorem dL_areRows_146 : decode cL_areRows 146 = .ok (.iconst 1, 1) := by decide +kernel
theorem dL_areRows_147 : decode cL_areRows 147 = .ok (.goto 4, 3) := by decide +kernel
theorem dL_areRows_150 : decode cL_areRows 150 = .ok (.iconst 0, 1) := by decide +kernel
theorem dL_areRows_151 : decode cL_areRows 151 = .ok (.iadd, 1) := by decide +kernel
theorem dL_areRows_152 : decode cL_areRows 152 = .ok (.istore_n 3, 1) := by decide +kernel
theorem dL_areRows_153 : decode cL_areRows 153 = .ok (.aload_n 0, 1) := by decide +kernel
theorem dL_areRows_154 : decode cL_areRows 154 = .ok (.iload 7, 2) := by decide +kernel
theorem dL_areRows_156 : decode cL_areRows 156 = .ok (.iload 9, 2) := by decide +kernel
theorem dL_areRows_158 : decode cL_areRows 158 = .ok (.invokevirtual 223, 3) := by decide +kernel
theorem dL_areRows_161 : decode cL_areRows 161 = .ok (.iload 10, 2) := by decide +kernel
theorem dL_areRows_163 : decode cL_areRows 163 = .ok (.if_icmp .ne 50, 3) := by decide +kernel
theorem dL_areRows_166 : decode cL_areRows 166 = .ok (.aload_n 0, 1) := by decide +kernel
theorem dL_areRows_167 : decode cL_areRows 167 = .ok (.iconst 2, 1) := by decide +kernel
theorem dL_areRows_168 : decode cL_areRows 168 = .ok (.iload 9, 2) := by decide +kernel
theorem dL_areRows_170 : decode cL_areRows 170 = .ok (.iadd, 1) := by decide +kernel
theorem dL_areRows_171 : decode cL_areRows 171 = .ok (.invokevirtual 220, 3) := by decide +kernel
theorem dL_areRows_174 : decode cL_areRows 174 = .ok (.iload 10, 2) := by decide +kernel
theorem dL_areRows_176 : decode cL_areRows 176 = .ok (.ifCond .eq 18, 3) := by decide +kernel
theorem dL_areRows_179 : decode cL_areRows 179 = .ok (.iload 11, 2) := by decide +kernel
theorem dL_areRows_181 : decode cL_areRows 181 = .ok (.ifCond .eq 8, 3) := by decide +kernel
theorem dL_areRows_184 : decode cL_areRows 184 = .ok (.bipush 88, 2) := by decide +kernel
theorem dL_areRows_186 : decode cL_areRows 186 = .ok (.goto 20, 3) := by decide +kernel
theorem dL_areRows_189 : decode cL_areRows 189 = .ok (.bipush 120, 2) := by decide +kernel
theorem dL_areRows_191 : decode cL_areRows 191 = .ok (.goto 15, 3) := by decide +kernel
theorem dL_areRows_194 : decode cL_areRows 194 = .ok (.iload 11, 2) := by decide +kernel
theorem dL_areRows_196 : decode cL_areRows 196 = .ok (.ifCond .eq 8, 3) := by decide +kernel
theorem dL_areRows_199 : decode cL_areRows 199 = .ok (.bipush 111, 2) := by decide +kernel
theorem dL_areRows_201 : decode cL_areRows 201 = .ok (.goto 5, 3) := by decide +kernel
theorem dL_areRows_204 : decode cL_areRows 204 = .ok (.bipush 46, 2) := by decide +kernel
theorem dL_areRows_206 : decode cL_areRows 206 = .ok (.if_icmp .ne 7, 3) := by decide +kernel
theorem dL_areRows_209 : decode cL_areRows 209 = .ok (.iconst 1, 1) := by decide +kernel
theorem dL_areRows_210 : decode cL_areRows 210 = .ok (.goto 4, 3) := by decide +kernel
theorem dL_areRows_213 : decode cL_areRows 213 = .ok (.iconst 0, 1) := by decide +kernel
theorem dL_areRows_214 : decode cL_areRows 214 = .ok (.istore 6, 2) := by decide +kernel
theorem dL_areRows_216 : decode cL_areRows 216 = .ok (.iinc 9 1, 3) := by decide +kernel
theorem dL_areRows_219 : decode cL_areRows 219 = .ok (.goto (-136), 3) := by decide +kernel
theorem dL_areRows_222 : decode cL_areRows 222 = .ok (.iconst 0, 1) := by decide +kernel
theorem dL_areRows_223 : decode cL_areRows 223 = .ok (.istore 9, 2) := by decide +kernel
theorem dL_areRows_225 : decode cL_areRows 225 = .ok (.iload 9, 2) := by decide +kernel
theorem dL_areRows_227 : decode cL_areRows 227 = .ok (.iload 7, 2) := by decide +kernel
theorem dL_areRows_229 : decode cL_areRows 229 = .ok (.if_icmp .ge 30, 3) := by decide +kernel
theorem dL_areRows_232 : decode cL_areRows 232 = .ok (.iload 8, 2) := by decide +kernel
theorem dL_areRows_234 : decode cL_areRows 234 = .ok (.aload_n 0, 1) := by decide +kernel
theorem dL_areRows_235 : decode cL_areRows 235 = .ok (.iload 7, 2) := by decide +kernel
theorem dL_areRows_237 : decode cL_areRows 237 = .ok (.iload 9, 2) := by decide +kernel
theorem dL_areRows_239 : decode cL_areRows 239 = .ok (.invokestatic 226, 3) := by decide +kernel
theorem dL_areRows_242 : decode cL_areRows 242 = .ok (.ifCond .ne 7, 3) := by decide +kernel
theorem dL_areRows_245 : decode cL_areRows 245 = .ok (.iconst 1, 1) := by decide +kernel
theorem dL_areRows_246 : decode cL_areRows 246 = .ok (.goto 4, 3) := by decide +kernel
theorem dL_areRows_249 : decode cL_areRows 249 = .ok (.iconst 0, 1) := by decide +kernel
theorem dL_areRows_250 : decode cL_areRows 250 = .ok (.iand, 1) := by decide +kernel
theorem dL_areRows_251 : decode cL_areRows 251 = .ok (.istore 8, 2) := by decide +kernel
theorem dL_areRows_253 : decode cL_areRows 253 = .ok (.iinc 9 1, 3) := by decide +kernel
theorem dL_areRows_256 : decode cL_areRows 256 = .ok (.goto (-31), 3) := by decide +kernel
theorem dL_areRows_259 : decode cL_areRows 259 = .ok (.iload 4, 2) := by decide +kernel
theorem dL_areRows_261 : decode cL_areRows 261 = .ok (.iload 8, 2) := by decide +kernel
theorem dL_areRows_263 : decode cL_areRows 263 = .ok (.ifCond .eq 7, 3) := by decide +kernel
theorem dL_areRows_266 : decode cL_areRows 266 = .ok (.iconst 1, 1) := by decide +kernel
theorem dL_areRows_267 : decode cL_areRows 267 = .ok (.goto 4, 3) := by decide +kernel
theorem dL_areRows_270 : decode cL_areRows 270 = .ok (.iconst 0, 1) := by decide +kernel
theorem dL_areRows_271 : decode cL_areRows 271 = .ok (.iadd, 1) := by decide +kernel
theorem dL_areRows_272 : decode cL_areRows 272 = .ok (.istore 4, 2) := by decide +kernel
theorem dL_areRows_274 : decode cL_areRows 274 = .ok (.iload 5, 2) := by decide +kernel
theorem dL_areRows_276 : decode cL_areRows 276 = .ok (.aload_n 0, 1) := by decide +kernel
theorem dL_areRows_277 : decode cL_areRows 277 = .ok (.iload 7, 2) := by decide +kernel
theorem dL_areRows_279 : decode cL_areRows 279 = .ok (.iload_n 1, 1) := by decide +kernel
theorem dL_areRows_280 : decode cL_areRows 280 = .ok (.iconst 1, 1) := by decide +kernel
theorem dL_areRows_281 : decode cL_areRows 281 = .ok (.isub, 1) := by decide +kernel
theorem dL_areRows_282 : decode cL_areRows 282 = .ok (.iload 7, 2) := by decide +kernel
theorem dL_areRows_284 : decode cL_areRows 284 = .ok (.isub, 1) := by decide +kernel
theorem dL_areRows_285 : decode cL_areRows 285 = .ok (.invokestatic 226, 3) := by decide +kernel
theorem dL_areRows_288 : decode cL_areRows 288 = .ok (.iand, 1) := by decide +kernel
theorem dL_areRows_289 : decode cL_areRows 289 = .ok (.istore 5, 2) := by decide +kernel
theorem dL_areRows_291 : decode cL_areRows 291 = .ok (.iinc 7 1, 3) := by decide +kernel
theorem dL_areRows_294 : decode cL_areRows 294 = .ok (.goto (-263), 3) := by decide +kernel
theorem dL_areRows_297 : decode cL_areRows 297 = .ok (.iload 6, 2) := by decide +kernel
theorem dL_areRows_299 : decode cL_areRows 299 = .ok (.ifCond .eq 81, 3) := by decide +kernel
theorem dL_areRows_302 : decode cL_areRows 302 = .ok (.aload_n 0, 1) := by decide +kernel
theorem dL_areRows_303 : decode cL_areRows 303 = .ok (.invokevirtual 230, 3) := by decide +kernel
theorem dL_areRows_306 : decode cL_areRows 306 = .ok (.iload_n 3, 1) := by decide +kernel
theorem dL_areRows_307 : decode cL_areRows 307 = .ok (.if_icmp .ne 73, 3) := by decide +kernel
theorem dL_areRows_310 : decode cL_areRows 310 = .ok (.aload_n 0, 1) := by decide +kernel
theorem dL_areRows_311 : decode cL_areRows 311 = .ok (.invokevirtual 233, 3) := by decide +kernel
theorem dL_areRows_314 : decode cL_areRows 314 = .ok (.iload 4, 2) := by decide +kernel
theorem dL_areRows_316 : decode cL_areRows 316 = .ok (.if_icmp .ne 64, 3) := by decide +kernel
theorem dL_areRows_319 : decode cL_areRows 319 = .ok (.aload_n 0, 1) := by decide +kernel
theorem dL_areRows_320 : decode cL_areRows 320 = .ok (.invokevirtual 236, 3) := by decide +kernel
theorem dL_areRows_323 : decode cL_areRows 323 = .ok (.iload 5, 2) := by decide +kernel
theorem dL_areRows_325 : decode cL_areRows 325 = .ok (.if_icmp .ne 55, 3) := by decide +kernel
theorem dL_areRows_328 : decode cL_areRows 328 = .ok (.aload_n 0, 1) := by decide +kernel
theorem dL_areRows_329 : decode cL_areRows 329 = .ok (.invokestatic 240, 3) := by decide +kernel
theorem dL_areRows_332 : decode cL_areRows 332 = .ok (.iload_n 1, 1) := by decide +kernel
theorem dL_areRows_333 : decode cL_areRows 333 = .ok (.ifCond .ne 9, 3) := by decide +kernel
theorem dL_areRows_336 : decode cL_areRows 336 = .ok (.ldc2_w 74, 3) := by decide +kernel
theorem dL_areRows_339 : decode cL_areRows 339 = .ok (.goto 8, 3) := by decide +kernel
theorem dL_areRows_342 : decode cL_areRows 342 = .ok (.iload_n 2, 1) := by decide +kernel
theorem dL_areRows_343 : decode cL_areRows 343 = .ok (.i2d, 1) := by decide +kernel
theorem dL_areRows_344 : decode cL_areRows 344 = .ok (.iload_n 1, 1) := by decide +kernel
theorem dL_areRows_345 : decode cL_areRows 345 = .ok (.i2d, 1) := by decide +kernel
theorem dL_areRows_346 : decode cL_areRows 346 = .ok (.ddiv, 1) := by decide +kernel
theorem dL_areRows_347 : decode cL_areRows 347 = .ok (.dcmp .l, 1) := by decide +kernel
theorem dL_areRows_348 : decode cL_areRows 348 = .ok (.ifCond .ne 32, 3) := by decide +kernel
theorem dL_areRows_351 : decode cL_areRows 351 = .ok (.aload_n 0, 1) := by decide +kernel
theorem dL_areRows_352 : decode cL_areRows 352 = .ok (.invokestatic 243, 3) := by decide +kernel
theorem dL_areRows_355 : decode cL_areRows 355 = .ok (.iload_n 1, 1) := by decide +kernel
theorem dL_areRows_356 : decode cL_areRows 356 = .ok (.ifCond .ne 8, 3) := by decide +kernel
theorem dL_areRows_359 : decode cL_areRows 359 = .ok (.ldc 82, 2) := by decide +kernel
theorem dL_areRows_361 : decode cL_areRows 361 = .ok (.goto 11, 3) := by decide +kernel
theorem dL_areRows_364 : decode cL_areRows 364 = .ok (.iload_n 3, 1) := by decide +kernel
theorem dL_areRows_365 : decode cL_areRows 365 = .ok (.i2f, 1) := by decide +kernel
theorem dL_areRows_366 : decode cL_areRows 366 = .ok (.bipush 16, 2) := by decide +kernel
theorem dL_areRows_368 : decode cL_areRows 368 = .ok (.iload_n 1, 1) := by decide +kernel
theorem dL_areRows_369 : decode cL_areRows 369 = .ok (.imul, 1) := by decide +kernel
theorem dL_areRows_370 : decode cL_areRows 370 = .ok (.i2f, 1) := by decide +kernel
theorem dL_areRows_371 : decode cL_areRows 371 = .ok (.fdiv, 1) := by decide +kernel
theorem dL_areRows_372 : decode cL_areRows 372 = .ok (.fcmp .l, 1) := by decide +kernel
theorem dL_areRows_373 : decode cL_areRows 373 = .ok (.ifCond .ne 7, 3) := by decide +kernel
theorem dL_areRows_376 : decode cL_areRows 376 = .ok (.iconst 1, 1) := by decide +kernel
theorem dL_areRows_377 : decode cL_areRows 377 = .ok (.goto 4, 3) := by decide +kernel
theorem dL_areRows_380 : decode cL_areRows 380 = .ok (.iconst 0, 1) := by decide +kernel
theorem dL_areRows_381 : decode cL_areRows 381 = .ok (.ireturn, 1) := by decide +kernel
theorem dL_isPeriod_0 : decode cL_isPeriod 0 = .ok (.iconst 1, 1) := by decide +kernel
theorem dL_isPeriod_1 : decode cL_isPeriod 1 = .ok (.istore_n 2, 1) := by decide +kernel
theorem dL_isPeriod_2 : decode cL_isPeriod 2 = .ok (.iload_n 1, 1) := by decide +kernel
theorem dL_isPeriod_3 : decode cL_isPeriod 3 = .ok (.istore_n 3, 1) := by decide +kernel
theorem dL_isPeriod_4 : decode cL_isPeriod 4 = .ok (.iload_n 2, 1) := by decide +kernel
theorem dL_isPeriod_5 : decode cL_isPeriod 5 = .ok (.ifCond .eq 26, 3) := by decide +kernel
theorem dL_isPeriod_8 : decode cL_isPeriod 8 = .ok (.iload_n 3, 1) := by decide +kernel
theorem dL_isPeriod_9 : decode cL_isPeriod 9 = .ok (.aload_n 0, 1) := by decide +kernel
theorem dL_isPeriod_10 : decode cL_isPeriod 10 = .ok (.invokevirtual 201, 3) := by decide +kernel
theorem dL_isPeriod_13 : decode cL_isPeriod 13 = .ok (.if_icmp .ge 18, 3) := by decide +kernel
theorem dL_isPeriod_16 : decode cL_isPeriod 16 = .ok (.aload_n 0, 1) := by decide +kernel
theorem dL_isPeriod_17 : decode cL_isPeriod 17 = .ok (.iload_n 3, 1) := by decide +kernel
theorem dL_isPeriod_18 : decode cL_isPeriod 18 = .ok (.iload_n 3, 1) := by decide +kernel
theorem dL_isPeriod_19 : decode cL_isPeriod 19 = .ok (.iload_n 1, 1) := by decide +kernel
theorem dL_isPeriod_20 : decode cL_isPeriod 20 = .ok (.isub, 1) := by decide +kernel
theorem dL_isPeriod_21 : decode cL_isPeriod 21 = .ok (.invokestatic 226, 3) := by decide +kernel
theorem dL_isPeriod_24 : decode cL_isPeriod 24 = .ok (.istore_n 2, 1) := by decide +kernel
theorem dL_isPeriod_25 : decode cL_isPeriod 25 = .ok (.iinc 3 1, 3) := by decide +kernel
theorem dL_isPeriod_28 : decode cL_isPeriod 28 = .ok (.goto (-24), 3) := by decide +kernel
theorem dL_isPeriod_31 : decode cL_isPeriod 31 = .ok (.iload_n 2, 1) := by decide +kernel
theorem dL_isPeriod_32 : decode cL_isPeriod 32 = .ok (.ireturn, 1) := by decide +kernel
theorem dL_arePeriods_0 : decode cL_arePeriods 0 = .ok (.aload_n 0, 1) := by decide +kernel
theorem dL_arePeriods_1 : decode cL_arePeriods 1 = .ok (.invokevirtual 201, 3) := by decide +kernel
theorem dL_arePeriods_4 : decode cL_arePeriods 4 = .ok (.istore_n 1, 1) := by decide +kernel
theorem dL_arePeriods_5 : decode cL_arePeriods 5 = .ok (.aload_n 0, 1) := by decide +kernel
theorem dL_arePeriods_6 : decode cL_arePeriods 6 = .ok (.invokestatic 246, 3) := by decide +kernel
theorem dL_arePeriods_9 : decode cL_arePeriods 9 = .ok (.istore_n 2, 1) := by decide +kernel
theorem dL_arePeriods_10 : decode cL_arePeriods 10 = .ok (.aload_n 0, 1) := by decide +kernel
theorem dL_arePeriods_11 : decode cL_arePeriods 11 = .ok (.invokestatic 248, 3) := by decide +kernel
theorem dL_arePeriods_14 : decode cL_arePeriods 14 = .ok (.iload_n 2, 1) := by decide +kernel
theorem dL_arePeriods_15 : decode cL_arePeriods 15 = .ok (.if_icmp .ne 55, 3) := by decide +kernel
theorem dL_arePeriods_18 : decode cL_arePeriods 18 = .ok (.iload_n 2, 1) := by decide +kernel
theorem dL_arePeriods_19 : decode cL_arePeriods 19 = .ok (.sipush (-1000), 3) := by decide +kernel
theorem dL_arePeriods_22 : decode cL_arePeriods 22 = .ok (.if_icmp .ne 7, 3) := by decide +kernel
theorem dL_arePeriods_25 : decode cL_arePeriods 25 = .ok (.iconst 1, 1) := by decide +kernel
theorem dL_arePeriods_26 : decode cL_arePeriods 26 = .ok (.goto 4, 3) := by decide +kernel
theorem dL_arePeriods_29 : decode cL_arePeriods 29 = .ok (.iconst 0, 1) := by decide +kernel
theorem dL_arePeriods_30 : decode cL_arePeriods 30 = .ok (.iload_n 1, 1) := by decide +kernel
theorem dL_arePeriods_31 : decode cL_arePeriods 31 = .ok (.ifCond .ne 7, 3) := by decide +kernel
theorem dL_arePeriods_34 : decode cL_arePeriods 34 = .ok (.iconst 1, 1) := by decide +kernel
theorem dL_arePeriods_35 : decode cL_arePeriods 35 = .ok (.goto 4, 3) := by decide +kernel
theorem dL_arePeriods_38 : decode cL_arePeriods 38 = .ok (.iconst 0, 1) := by decide +kernel
theorem dL_arePeriods_39 : decode cL_arePeriods 39 = .ok (.if_icmp .ne 31, 3) := by decide +kernel
theorem dL_arePeriods_42 : decode cL_arePeriods 42 = .ok (.aload_n 0, 1) := by decide +kernel
theorem dL_arePeriods_43 : decode cL_arePeriods 43 = .ok (.iconst 0, 1) := by decide +kernel
theorem dL_arePeriods_44 : decode cL_arePeriods 44 = .ok (.invokestatic 250, 3) := by decide +kernel
theorem dL_arePeriods_47 : decode cL_arePeriods 47 = .ok (.sipush (-1000), 3) := by decide +kernel
theorem dL_arePeriods_50 : decode cL_arePeriods 50 = .ok (.if_icmp .ne 20, 3) := by decide +kernel
theorem dL_arePeriods_53 : decode cL_arePeriods 53 = .ok (.aload_n 0, 1) := by decide +kernel
theorem dL_arePeriods_54 : decode cL_arePeriods 54 = .ok (.iload_n 1, 1) := by decide +kernel
theorem dL_arePeriods_55 : decode cL_arePeriods 55 = .ok (.iconst 1, 1) := by decide +kernel
theorem dL_arePeriods_56 : decode cL_arePeriods 56 = .ok (.iadd, 1) := by decide +kernel
theorem dL_arePeriods_57 : decode cL_arePeriods 57 = .ok (.invokestatic 250, 3) := by decide +kernel
theorem dL_arePeriods_60 : decode cL_arePeriods 60 = .ok (.sipush (-1000), 3) := by decide +kernel
theorem dL_arePeriods_63 : decode cL_arePeriods 63 = .ok (.if_icmp .ne 7, 3) := by decide +kernel
theorem dL_arePeriods_66 : decode cL_arePeriods 66 = .ok (.iconst 1, 1) := by decide +kernel
theorem dL_arePeriods_67 : decode cL_arePeriods 67 = .ok (.goto 4, 3) := by decide +kernel
theorem dL_arePeriods_70 : decode cL_arePeriods 70 = .ok (.iconst 0, 1) := by decide +kernel
theorem dL_arePeriods_71 : decode cL_arePeriods 71 = .ok (.istore_n 3, 1) := by decide +kernel
theorem dL_arePeriods_72 : decode cL_arePeriods 72 = .ok (.iload_n 1, 1) := by decide +kernel
theorem dL_arePeriods_73 : decode cL_arePeriods 73 = .ok (.ifCond .ne 5, 3) := by decide +kernel
theorem dL_arePeriods_76 : decode cL_arePeriods 76 = .ok (.iload_n 3, 1) := by decide +kernel
theorem dL_arePeriods_77 : decode cL_arePeriods 77 = .ok (.ireturn, 1) := by decide +kernel
theorem dL_arePeriods_78 : decode cL_arePeriods 78 = .ok (.iload_n 3, 1) := by decide +kernel
theorem dL_arePeriods_79 : decode cL_arePeriods 79 = .ok (.ifCond .eq 37, 3) := by decide +kernel
theorem dL_arePeriods_82 : decode cL_arePeriods 82 = .ok (.aload_n 0, 1) := by decide +kernel
theorem dL_arePeriods_83 : decode cL_arePeriods 83 = .ok (.iload_n 2, 1) := by decide +kernel
theorem dL_arePeriods_84 : decode cL_arePeriods 84 = .ok (.invokestatic 252, 3) := by decide +kernel
theorem dL_arePeriods_87 : decode cL_arePeriods 87 = .ok (.ifCond .eq 29, 3) := by decide +kernel
theorem dL_arePeriods_90 : decode cL_arePeriods 90 = .ok (.iload_n 2, 1) := by decide +kernel
theorem dL_arePeriods_91 : decode cL_arePeriods 91 = .ok (.iload_n 1, 1) := by decide +kernel
theorem dL_arePeriods_92 : decode cL_arePeriods 92 = .ok (.if_icmp .gt 24, 3) := by decide +kernel
theorem dL_arePeriods_95 : decode cL_arePeriods 95 = .ok (.aload_n 0, 1) := by decide +kernel
theorem dL_arePeriods_96 : decode cL_arePeriods 96 = .ok (.iload_n 1, 1) := by decide +kernel
theorem dL_arePeriods_97 : decode cL_arePeriods 97 = .ok (.invokevirtual 71, 3) := by decide +kernel
theorem dL_arePeriods_100 : decode cL_arePeriods 100 = .ok (.iconst 1, 1) := by decide +kernel
theorem dL_arePeriods_101 : decode cL_arePeriods 101 = .ok (.if_icmp .ne 15, 3) := by decide +kernel
theorem dL_arePeriods_104 : decode cL_arePeriods 104 = .ok (.aload_n 0, 1) := by decide +kernel
theorem dL_arePeriods_105 : decode cL_arePeriods 105 = .ok (.invokevirtual 233, 3) := by decide +kernel
theorem dL_arePeriods_108 : decode cL_arePeriods 108 = .ok (.iload_n 2, 1) := by decide +kernel
theorem dL_arePeriods_109 : decode cL_arePeriods 109 = .ok (.if_icmp .gt 7, 3) := by decide +kernel
theorem dL_arePeriods_112 : decode cL_arePeriods 112 = .ok (.iconst 1, 1) := by decide +kernel
theorem dL_arePeriods_113 : decode cL_arePeriods 113 = .ok (.goto 4, 3) := by decide +kernel
theorem dL_arePeriods_116 : decode cL_arePeriods 116 = .ok (.iconst 0, 1) := by decide +kernel
theorem dL_arePeriods_117 : decode cL_arePeriods 117 = .ok (.istore_n 3, 1) := by decide +kernel
theorem dL_arePeriods_118 : decode cL_arePeriods 118 = .ok (.iconst 1, 1) := by decide +kernel
theorem dL_arePeriods_119 : decode cL_arePeriods 119 = .ok (.istore 4, 2) := by decide +kernel
theorem dL_arePeriods_121 : decode cL_arePeriods 121 = .ok (.iload_n 3, 1) := by decide +kernel
theorem dL_arePeriods_122 : decode cL_arePeriods 122 = .ok (.ifCond .eq 30, 3) := by decide +kernel
theorem dL_arePeriods_125 : decode cL_arePeriods 125 = .ok (.iload 4, 2) := by decide +kernel
theorem dL_arePeriods_127 : decode cL_arePeriods 127 = .ok (.iload_n 2, 1) := by decide +kernel
theorem dL_arePeriods_128 : decode cL_arePeriods 128 = .ok (.if_icmp .ge 24, 3) := by decide +kernel
theorem dL_arePeriods_131 : decode cL_arePeriods 131 = .ok (.aload_n 0, 1) := by decide +kernel
theorem dL_arePeriods_132 : decode cL_arePeriods 132 = .ok (.iload 4, 2) := by decide +kernel
theorem dL_arePeriods_134 : decode cL_arePeriods 134 = .ok (.invokestatic 252, 3) := by decide +kernel
theorem dL_arePeriods_137 : decode cL_arePeriods 137 = .ok (.ifCond .ne 7, 3) := by decide +kernel
theorem dL_arePeriods_140 : decode cL_arePeriods 140 = .ok (.iconst 1, 1) := by decide +kernel
theorem dL_arePeriods_141 : decode cL_arePeriods 141 = .ok (.goto 4, 3) := by decide +kernel
theorem dL_arePeriods_144 : decode cL_arePeriods 144 = .ok (.iconst 0, 1) := by decide +kernel
theorem dL_arePeriods_145 : decode cL_arePeriods 145 = .ok (.istore_n 3, 1) := by decide +kernel
theorem dL_arePeriods_146 : decode cL_arePeriods 146 = .ok (.iinc 4 1, 3) := by decide +kernel
theorem dL_arePeriods_149 : decode cL_arePeriods 149 = .ok (.goto (-28), 3) := by decide +kernel
theorem dL_arePeriods_152 : decode cL_arePeriods 152 = .ok (.iconst 2, 1) := by decide +kernel
theorem dL_arePeriods_153 : decode cL_arePeriods 153 = .ok (.istore 4, 2) := by decide +kernel
theorem dL_arePeriods_155 : decode cL_arePeriods 155 = .ok (.iload_n 3, 1) := by decide +kernel
theorem dL_arePeriods_156 : decode cL_arePeriods 156 = .ok (.ifCond .eq 38, 3) := by decide +kernel
theorem dL_arePeriods_159 : decode cL_arePeriods 159 = .ok (.iload 4, 2) := by decide +kernel
theorem dL_arePeriods_161 : decode cL_arePeriods 161 = .ok (.iload_n 1, 1) := by decide +kernel
theorem dL_arePeriods_162 : decode cL_arePeriods 162 = .ok (.if_icmp .gt 32, 3) := by decide +kernel
theorem dL_arePeriods_165 : decode cL_arePeriods 165 = .ok (.aload_n 0, 1) := by decide +kernel
theorem dL_arePeriods_166 : decode cL_arePeriods 166 = .ok (.iload 4, 2) := by decide +kernel
theorem dL_arePeriods_168 : decode cL_arePeriods 168 = .ok (.invokevirtual 71, 3) := by decide +kernel
theorem dL_arePeriods_171 : decode cL_arePeriods 171 = .ok (.aload_n 0, 1) := by decide +kernel
theorem dL_arePeriods_172 : decode cL_arePeriods 172 = .ok (.iload 4, 2) := by decide +kernel
theorem dL_arePeriods_174 : decode cL_arePeriods 174 = .ok (.iconst 1, 1) := by decide +kernel
theorem dL_arePeriods_175 : decode cL_arePeriods 175 = .ok (.isub, 1) := by decide +kernel
theorem dL_arePeriods_176 : decode cL_arePeriods 176 = .ok (.invokevirtual 71, 3) := by decide +kernel
theorem dL_arePeriods_179 : decode cL_arePeriods 179 = .ok (.if_icmp .gt 7, 3) := by decide +kernel
theorem dL_arePeriods_182 : decode cL_arePeriods 182 = .ok (.iconst 1, 1) := by decide +kernel
theorem dL_arePeriods_183 : decode cL_arePeriods 183 = .ok (.goto 4, 3) := by decide +kernel
theorem dL_arePeriods_186 : decode cL_arePeriods 186 = .ok (.iconst 0, 1) := by decide +kernel
theorem dL_arePeriods_187 : decode cL_arePeriods 187 = .ok (.istore_n 3, 1) := by decide +kernel
theorem dL_arePeriods_188 : decode cL_arePeriods 188 = .ok (.iinc 4 1, 3) := by decide +kernel
theorem dL_arePeriods_191 : decode cL_arePeriods 191 = .ok (.goto (-36), 3) := by decide +kernel
theorem dL_arePeriods_194 : decode cL_arePeriods 194 = .ok (.iconst 0, 1) := by decide +kernel
theorem dL_arePeriods_195 : decode cL_arePeriods 195 = .ok (.istore 4, 2) := by decide +kernel
theorem dL_arePeriods_197 : decode cL_arePeriods 197 = .ok (.iload_n 3, 1) := by decide +kernel
theorem dL_arePeriods_198 : decode cL_arePeriods 198 = .ok (.ifCond .eq 84, 3) := by decide +kernel
theorem dL_arePeriods_201 : decode cL_arePeriods 201 = .ok (.iload 4, 2) := by decide +kernel
theorem dL_arePeriods_203 : decode cL_arePeriods 203 = .ok (.bipush 16, 2) := by decide +kernel
theorem dL_arePeriods_205 : decode cL_arePeriods 205 = .ok (.if_icmp .ge 77, 3) := by decide +kernel
theorem dL_arePeriods_208 : decode cL_arePeriods 208 = .ok (.iconst 0, 1) := by decide +kernel
theorem dL_arePeriods_209 : decode cL_arePeriods 209 = .ok (.istore 5, 2) := by decide +kernel
theorem dL_arePeriods_211 : decode cL_arePeriods 211 = .ok (.iconst 0, 1) := by decide +kernel
theorem dL_arePeriods_212 : decode cL_arePeriods 212 = .ok (.istore 6, 2) := by decide +kernel
theorem dL_arePeriods_214 : decode cL_arePeriods 214 = .ok (.iconst 0, 1) := by decide +kernel
theorem dL_arePeriods_215 : decode cL_arePeriods 215 = .ok (.istore 7, 2) := by decide +kernel
theorem dL_arePeriods_217 : decode cL_arePeriods 217 = .ok (.iload 7, 2) := by decide +kernel
theorem dL_arePeriods_219 : decode cL_arePeriods 219 = .ok (.iload_n 1, 1) := by decide +kernel
theorem dL_arePeriods_220 : decode cL_arePeriods 220 = .ok (.if_icmp .ge 39, 3) := by decide +kernel
theorem dL_arePeriods_223 : decode cL_arePeriods 223 = .ok (.aload_n 0, 1) := by decide +kernel
theorem dL_arePeriods_224 : decode cL_arePeriods 224 = .ok (.iload 7, 2) := by decide +kernel
theorem dL_arePeriods_226 : decode cL_arePeriods 226 = .ok (.iload 4, 2) := by decide +kernel
theorem dL_arePeriods_228 : decode cL_arePeriods 228 = .ok (.invokevirtual 223, 3) := by decide +kernel
theorem dL_arePeriods_231 : decode cL_arePeriods 231 = .ok (.ifCond .eq 10, 3) := by decide +kernel
theorem dL_arePeriods_234 : decode cL_arePeriods 234 = .ok (.iload 5, 2) := by decide +kernel
theorem dL_arePeriods_236 : decode cL_arePeriods 236 = .ok (.iconst 1, 1) := by decide +kernel
theorem dL_arePeriods_237 : decode cL_arePeriods 237 = .ok (.iadd, 1) := by decide +kernel
theorem dL_arePeriods_238 : decode cL_arePeriods 238 = .ok (.goto 4, 3) := by decide +kernel
theorem dL_arePeriods_241 : decode cL_arePeriods 241 = .ok (.iconst 0, 1) := by decide +kernel
theorem dL_arePeriods_242 : decode cL_arePeriods 242 = .ok (.istore 5, 2) := by decide +kernel
theorem dL_arePeriods_244 : decode cL_arePeriods 244 = .ok (.iload 6, 2) := by decide +kernel
theorem dL_arePeriods_246 : decode cL_arePeriods 246 = .ok (.iload 5, 2) := by decide +kernel
theorem dL_arePeriods_248 : decode cL_arePeriods 248 = .ok (.invokestatic 256, 3) := by decide +kernel
theorem dL_arePeriods_251 : decode cL_arePeriods 251 = .ok (.istore 6, 2) := by decide +kernel
theorem dL_arePeriods_253 : decode cL_arePeriods 253 = .ok (.iinc 7 1, 3) := by decide +kernel
theorem dL_arePeriods_256 : decode cL_arePeriods 256 = .ok (.goto (-39), 3) := by decide +kernel
theorem dL_arePeriods_259 : decode cL_arePeriods 259 = .ok (.aload_n 0, 1) := by decide +kernel
theorem dL_arePeriods_260 : decode cL_arePeriods 260 = .ok (.iload 4, 2) := by decide +kernel
theorem dL_arePeriods_262 : decode cL_arePeriods 262 = .ok (.invokevirtual 261, 3) := by decide +kernel
theorem dL_arePeriods_265 : decode cL_arePeriods 265 = .ok (.iload 6, 2) := by decide +kernel
theorem dL_arePeriods_267 : decode cL_arePeriods 267 = .ok (.if_icmp .ne 7, 3) := by decide +kernel
theorem dL_arePeriods_270 : decode cL_arePeriods 270 = .ok (.iconst 1, 1) := by decide +kernel
theorem dL_arePeriods_271 : decode cL_arePeriods 271 = .ok (.goto 4, 3) := by decide +kernel
theorem dL_arePeriods_274 : decode cL_arePeriods 274 = .ok (.iconst 0, 1) := by decide +kernel
theorem dL_arePeriods_275 : decode cL_arePeriods 275 = .ok (.istore_n 3, 1) := by decide +kernel
theorem dL_arePeriods_276 : decode cL_arePeriods 276 = .ok (.iinc 4 5, 3) := by decide +kernel
theorem dL_arePeriods_279 : decode cL_arePeriods 279 = .ok (.goto (-82), 3) := by decide +kernel
theorem dL_arePeriods_282 : decode cL_arePeriods 282 = .ok (.iload_n 3, 1) := by decide +kernel
theorem dL_arePeriods_283 : decode cL_arePeriods 283 = .ok (.ifCond .eq 34, 3) := by decide +kernel
theorem dL_arePeriods_286 : decode cL_arePeriods 286 = .ok (.aload_n 0, 1) := by decide +kernel
theorem dL_arePeriods_287 : decode cL_arePeriods 287 = .ok (.iconst 0, 1) := by decide +kernel
theorem dL_arePeriods_288 : decode cL_arePeriods 288 = .ok (.iload_n 1, 1) := by decide +kernel
theorem dL_arePeriods_289 : decode cL_arePeriods 289 = .ok (.iconst 1, 1) := by decide +kernel
theorem dL_arePeriods_290 : decode cL_arePeriods 290 = .ok (.isub, 1) := by decide +kernel
theorem dL_arePeriods_291 : decode cL_arePeriods 291 = .ok (.invokevirtual 264, 3) := by decide +kernel
theorem dL_arePeriods_294 : decode cL_arePeriods 294 = .ok (.aload_n 0, 1) := by decide +kernel
theorem dL_arePeriods_295 : decode cL_arePeriods 295 = .ok (.iconst 0, 1) := by decide +kernel
theorem dL_arePeriods_296 : decode cL_arePeriods 296 = .ok (.invokevirtual 207, 3) := by decide +kernel
theorem dL_arePeriods_299 : decode cL_arePeriods 299 = .ok (.aload_n 0, 1) := by decide +kernel
theorem dL_arePeriods_300 : decode cL_arePeriods 300 = .ok (.iload_n 1, 1) := by decide +kernel
theorem dL_arePeriods_301 : decode cL_arePeriods 301 = .ok (.iconst 1, 1) := by decide +kernel
theorem dL_arePeriods_302 : decode cL_arePeriods 302 = .ok (.isub, 1) := by decide +kernel
theorem dL_arePeriods_303 : decode cL_arePeriods 303 = .ok (.invokevirtual 207, 3) := by decide +kernel
theorem dL_arePeriods_306 : decode cL_arePeriods 306 = .ok (.ixor, 1) := by decide +kernel
theorem dL_arePeriods_307 : decode cL_arePeriods 307 = .ok (.invokestatic 267, 3) := by decide +kernel
theorem dL_arePeriods_310 : decode cL_arePeriods 310 = .ok (.if_icmp .ne 7, 3) := by decide +kernel
theorem dL_arePeriods_313 : decode cL_arePeriods 313 = .ok (.iconst 1, 1) := by decide +kernel
theorem dL_arePeriods_314 : decode cL_arePeriods 314 = .ok (.goto 4, 3) := by decide +kernel
theorem dL_arePeriods_317 : decode cL_arePeriods 317 = .ok (.iconst 0, 1) := by decide +kernel
theorem dL_arePeriods_318 : decode cL_arePeriods 318 = .ok (.ireturn, 1) := by decide +kernel
theorem dL_areWicks_0 : decode cL_areWicks 0 = .ok (.iconst 0, 1) := by decide +kernel
theorem dL_areWicks_1 : decode cL_areWicks 1 = .ok (.istore_n 1, 1) := by decide +kernel
theorem dL_areWicks_2 : decode cL_areWicks 2 = .ok (.iconst 0, 1) := by decide +kernel
theorem dL_areWicks_3 : decode cL_areWicks 3 = .ok (.istore_n 2, 1) := by decide +kernel
theorem dL_areWicks_4 : decode cL_areWicks 4 = .ok (.aload_n 0, 1) := by decide +kernel
theorem dL_areWicks_5 : decode cL_areWicks 5 = .ok (.invokevirtual 189, 3) := by decide +kernel
theorem dL_areWicks_8 : decode cL_areWicks 8 = .ok (.istore_n 3, 1) := by decide +kernel
theorem dL_areWicks_9 : decode cL_areWicks 9 = .ok (.aload_n 0, 1) := by decide +kernel
theorem dL_areWicks_10 : decode cL_areWicks 10 = .ok (.iload_n 3, 1) := by decide +kernel
theorem dL_areWicks_11 : decode cL_areWicks 11 = .ok (.invokestatic 272, 3) := by decide +kernel
theorem dL_areWicks_14 : decode cL_areWicks 14 = .ok (.sipush (-1000), 3) := by decide +kernel
theorem dL_areWicks_17 : decode cL_areWicks 17 = .ok (.if_icmp .ne 18, 3) := by decide +kernel
theorem dL_areWicks_20 : decode cL_areWicks 20 = .ok (.aload_n 0, 1) := by decide +kernel
theorem dL_areWicks_21 : decode cL_areWicks 21 = .ok (.iconst (-1), 1) := by decide +kernel
theorem dL_areWicks_22 : decode cL_areWicks 22 = .ok (.invokestatic 272, 3) := by decide +kernel
theorem dL_areWicks_25 : decode cL_areWicks 25 = .ok (.sipush (-1000), 3) := by decide +kernel
theorem dL_areWicks_28 : decode cL_areWicks 28 = .ok (.if_icmp .ne 7, 3) := by decide +kernel
theorem dL_areWicks_31 : decode cL_areWicks 31 = .ok (.iconst 1, 1) := by decide +kernel
theorem dL_areWicks_32 : decode cL_areWicks 32 = .ok (.goto 4, 3) := by decide +kernel
theorem dL_areWicks_35 : decode cL_areWicks 35 = .ok (.iconst 0, 1) := by decide +kernel
theorem dL_areWicks_36 : decode cL_areWicks 36 = .ok (.istore 4, 2) := by decide +kernel
theorem dL_areWicks_38 : decode cL_areWicks 38 = .ok (.iconst 0, 1) := by decide +kernel
theorem dL_areWicks_39 : decode cL_areWicks 39 = .ok (.istore 5, 2) := by decide +kernel
theorem dL_areWicks_41 : decode cL_areWicks 41 = .ok (.iload 4, 2) := by decide +kernel
theorem dL_areWicks_43 : decode cL_areWicks 43 = .ok (.ifCond .eq 81, 3) := by decide +kernel
theorem dL_areWicks_46 : decode cL_areWicks 46 = .ok (.iload 5, 2) := by decide +kernel
theorem dL_areWicks_48 : decode cL_areWicks 48 = .ok (.iload_n 3, 1) := by decide +kernel
theorem dL_areWicks_49 : decode cL_areWicks 49 = .ok (.if_icmp .ge 75, 3) := by decide +kernel
theorem dL_areWicks_52 : decode cL_areWicks 52 = .ok (.iload_n 1, 1) := by decide +kernel
theorem dL_areWicks_53 : decode cL_areWicks 53 = .ok (.aload_n 0, 1) := by decide +kernel
theorem dL_areWicks_54 : decode cL_areWicks 54 = .ok (.iload 5, 2) := by decide +kernel
theorem dL_areWicks_56 : decode cL_areWicks 56 = .ok (.invokevirtual 197, 3) := by decide +kernel
theorem dL_areWicks_59 : decode cL_areWicks 59 = .ok (.ifCond .eq 7, 3) := by decide +kernel
theorem dL_areWicks_62 : decode cL_areWicks 62 = .ok (.iconst 1, 1) := by decide +kernel
theorem dL_areWicks_63 : decode cL_areWicks 63 = .ok (.goto 4, 3) := by decide +kernel
theorem dL_areWicks_66 : decode cL_areWicks 66 = .ok (.iconst 0, 1) := by decide +kernel
theorem dL_areWicks_67 : decode cL_areWicks 67 = .ok (.iadd, 1) := by decide +kernel
theorem dL_areWicks_68 : decode cL_areWicks 68 = .ok (.istore_n 1, 1) := by decide +kernel
theorem dL_areWicks_69 : decode cL_areWicks 69 = .ok (.aload_n 0, 1) := by decide +kernel
theorem dL_areWicks_70 : decode cL_areWicks 70 = .ok (.iload 5, 2) := by decide +kernel
theorem dL_areWicks_72 : decode cL_areWicks 72 = .ok (.invokevirtual 197, 3) := by decide +kernel
theorem dL_areWicks_75 : decode cL_areWicks 75 = .ok (.ifCond .eq 16, 3) := by decide +kernel
theorem dL_areWicks_78 : decode cL_areWicks 78 = .ok (.iload_n 2, 1) := by decide +kernel
theorem dL_areWicks_79 : decode cL_areWicks 79 = .ok (.aload_n 0, 1) := by decide +kernel
theorem dL_areWicks_80 : decode cL_areWicks 80 = .ok (.iload 5, 2) := by decide +kernel
theorem dL_areWicks_82 : decode cL_areWicks 82 = .ok (.invokevirtual 194, 3) := by decide +kernel
theorem dL_areWicks_85 : decode cL_areWicks 85 = .ok (.invokestatic 256, 3) := by decide +kernel
theorem dL_areWicks_88 : decode cL_areWicks 88 = .ok (.goto 4, 3) := by decide +kernel
theorem dL_areWicks_91 : decode cL_areWicks 91 = .ok (.iload_n 2, 1) := by decide +kernel
theorem dL_areWicks_92 : decode cL_areWicks 92 = .ok (.istore_n 2, 1) := by decide +kernel
theorem dL_areWicks_93 : decode cL_areWicks 93 = .ok (.aload_n 0, 1) := by decide +kernel
theorem dL_areWicks_94 : decode cL_areWicks 94 = .ok (.iload 5, 2) := by decide +kernel
theorem dL_areWicks_96 : decode cL_areWicks 96 = .ok (.invokevirtual 197, 3) := by decide +kernel
theorem dL_areWicks_99 : decode cL_areWicks 99 = .ok (.ifCond .eq 12, 3) := by decide +kernel
theorem dL_areWicks_102 : decode cL_areWicks 102 = .ok (.aload_n 0, 1) := by decide +kernel
theorem dL_areWicks_103 : decode cL_areWicks 103 = .ok (.iload 5, 2) := by decide +kernel
theorem dL_areWicks_105 : decode cL_areWicks 105 = .ok (.invokevirtual 194, 3) := by decide +kernel
theorem dL_areWicks_108 : decode cL_areWicks 108 = .ok (.ifCond .le 7, 3) := by decide +kernel
theorem dL_areWicks_111 : decode cL_areWicks 111 = .ok (.iconst 1, 1) := by decide +kernel
theorem dL_areWicks_112 : decode cL_areWicks 112 = .ok (.goto 4, 3) := by decide +kernel
theorem dL_areWicks_115 : decode cL_areWicks 115 = .ok (.iconst 0, 1) := by decide +kernel
theorem dL_areWicks_116 : decode cL_areWicks 116 = .ok (.istore 4, 2) := by decide +kernel
theorem dL_areWicks_118 : decode cL_areWicks 118 = .ok (.iinc 5 1, 3) := by decide +kernel
theorem dL_areWicks_121 : decode cL_areWicks 121 = .ok (.goto (-80), 3) := by decide +kernel
theorem dL_areWicks_124 : decode cL_areWicks 124 = .ok (.iconst 1, 1) := by decide +kernel
theorem dL_areWicks_125 : decode cL_areWicks 125 = .ok (.istore 5, 2) := by decide +kernel
theorem dL_areWicks_127 : decode cL_areWicks 127 = .ok (.iload 4, 2) := by decide +kernel
theorem dL_areWicks_129 : decode cL_areWicks 129 = .ok (.ifCond .eq 113, 3) := by decide +kernel
theorem dL_areWicks_132 : decode cL_areWicks 132 = .ok (.iload 5, 2) := by decide +kernel
theorem dL_areWicks_134 : decode cL_areWicks 134 = .ok (.iload_n 3, 1) := by decide +kernel
theorem dL_areWicks_135 : decode cL_areWicks 135 = .ok (.if_icmp .ge 107, 3) := by decide +kernel
theorem dL_areWicks_138 : decode cL_areWicks 138 = .ok (.aload_n 0, 1) := by decide +kernel
theorem dL_areWicks_139 : decode cL_areWicks 139 = .ok (.iload 5, 2) := by decide +kernel
theorem dL_areWicks_141 : decode cL_areWicks 141 = .ok (.iconst 1, 1) := by decide +kernel
theorem dL_areWicks_142 : decode cL_areWicks 142 = .ok (.isub, 1) := by decide +kernel
theorem dL_areWicks_143 : decode cL_areWicks 143 = .ok (.invokestatic 272, 3) := by decide +kernel
theorem dL_areWicks_146 : decode cL_areWicks 146 = .ok (.istore 6, 2) := by decide +kernel
theorem dL_areWicks_148 : decode cL_areWicks 148 = .ok (.aload_n 0, 1) := by decide +kernel
theorem dL_areWicks_149 : decode cL_areWicks 149 = .ok (.iload 5, 2) := by decide +kernel
theorem dL_areWicks_151 : decode cL_areWicks 151 = .ok (.invokestatic 272, 3) := by decide +kernel
theorem dL_areWicks_154 : decode cL_areWicks 154 = .ok (.istore 7, 2) := by decide +kernel
theorem dL_areWicks_156 : decode cL_areWicks 156 = .ok (.aload_n 0, 1) := by decide +kernel
theorem dL_areWicks_157 : decode cL_areWicks 157 = .ok (.iload 6, 2) := by decide +kernel
theorem dL_areWicks_159 : decode cL_areWicks 159 = .ok (.invokevirtual 197, 3) := by decide +kernel
theorem dL_areWicks_162 : decode cL_areWicks 162 = .ok (.ifCond .eq 7, 3) := by decide +kernel
theorem dL_areWicks_165 : decode cL_areWicks 165 = .ok (.iconst 1, 1) := by decide +kernel
theorem dL_areWicks_166 : decode cL_areWicks 166 = .ok (.goto 4, 3) := by decide +kernel
theorem dL_areWicks_169 : decode cL_areWicks 169 = .ok (.iconst 0, 1) := by decide +kernel
theorem dL_areWicks_170 : decode cL_areWicks 170 = .ok (.aload_n 0, 1) := by decide +kernel
theorem dL_areWicks_171 : decode cL_areWicks 171 = .ok (.iload 7, 2) := by decide +kernel
theorem dL_areWicks_173 : decode cL_areWicks 173 = .ok (.invokevirtual 197, 3) := by decide +kernel
theorem dL_areWicks_176 : decode cL_areWicks 176 = .ok (.ifCond .eq 7, 3) := by decide +kernel
theorem dL_areWicks_179 : decode cL_areWicks 179 = .ok (.iconst 1, 1) := by decide +kernel
theorem dL_areWicks_180 : decode cL_areWicks 180 = .ok (.goto 4, 3) := by decide +kernel
theorem dL_areWicks_183 : decode cL_areWicks 183 = .ok (.iconst 0, 1) := by decide +kernel
theorem dL_areWicks_184 : decode cL_areWicks 184 = .ok (.isub, 1) := by decide +kernel
theorem dL_areWicks_185 : decode cL_areWicks 185 = .ok (.istore 8, 2) := by decide +kernel
theorem dL_areWicks_187 : decode cL_areWicks 187 = .ok (.aload_n 0, 1) := by decide +kernel
theorem dL_areWicks_188 : decode cL_areWicks 188 = .ok (.iload 6, 2) := by decide +kernel
theorem dL_areWicks_190 : decode cL_areWicks 190 = .ok (.invokevirtual 194, 3) := by decide +kernel
theorem dL_areWicks_193 : decode cL_areWicks 193 = .ok (.aload_n 0, 1) := by decide +kernel
theorem dL_areWicks_194 : decode cL_areWicks 194 = .ok (.iload 7, 2) := by decide +kernel
theorem dL_areWicks_196 : decode cL_areWicks 196 = .ok (.invokevirtual 194, 3) := by decide +kernel
theorem dL_areWicks_199 : decode cL_areWicks 199 = .ok (.isub, 1) := by decide +kernel
theorem dL_areWicks_200 : decode cL_areWicks 200 = .ok (.istore 9, 2) := by decide +kernel
theorem dL_areWicks_202 : decode cL_areWicks 202 = .ok (.iload 8, 2) := by decide +kernel
theorem dL_areWicks_204 : decode cL_areWicks 204 = .ok (.ifCond .gt 25, 3) := by decide +kernel
theorem dL_areWicks_207 : decode cL_areWicks 207 = .ok (.iload 8, 2) := by decide +kernel
theorem dL_areWicks_209 : decode cL_areWicks 209 = .ok (.ifCond .ne 24, 3) := by decide +kernel
theorem dL_areWicks_212 : decode cL_areWicks 212 = .ok (.iload 9, 2) := by decide +kernel
theorem dL_areWicks_214 : decode cL_areWicks 214 = .ok (.ifCond .gt 15, 3) := by decide +kernel
theorem dL_areWicks_217 : decode cL_areWicks 217 = .ok (.iload 9, 2) := by decide +kernel
theorem dL_areWicks_219 : decode cL_areWicks 219 = .ok (.ifCond .ne 14, 3) := by decide +kernel
theorem dL_areWicks_222 : decode cL_areWicks 222 = .ok (.iload 6, 2) := by decide +kernel
theorem dL_areWicks_224 : decode cL_areWicks 224 = .ok (.iload 7, 2) := by decide +kernel
theorem dL_areWicks_226 : decode cL_areWicks 226 = .ok (.if_icmp .ge 7, 3) := by decide +kernel
theorem dL_areWicks_229 : decode cL_areWicks 229 = .ok (.iconst 1, 1) := by decide +kernel
theorem dL_areWicks_230 : decode cL_areWicks 230 = .ok (.goto 4, 3) := by decide +kernel
theorem dL_areWicks_233 : decode cL_areWicks 233 = .ok (.iconst 0, 1) := by decide +kernel
theorem dL_areWicks_234 : decode cL_areWicks 234 = .ok (.istore 4, 2) := by decide +kernel
theorem dL_areWicks_236 : decode cL_areWicks 236 = .ok (.iinc 5 1, 3) := by decide +kernel
theorem dL_areWicks_239 : decode cL_areWicks 239 = .ok (.goto (-112), 3) := by decide +kernel
theorem dL_areWicks_242 : decode cL_areWicks 242 = .ok (.iload 4, 2) := by decide +kernel
theorem dL_areWicks_244 : decode cL_areWicks 244 = .ok (.ifCond .eq 62, 3) := by decide +kernel
theorem dL_areWicks_247 : decode cL_areWicks 247 = .ok (.aload_n 0, 1) := by decide +kernel
theorem dL_areWicks_248 : decode cL_areWicks 248 = .ok (.invokevirtual 274, 3) := by decide +kernel
theorem dL_areWicks_251 : decode cL_areWicks 251 = .ok (.iload_n 1, 1) := by decide +kernel
theorem dL_areWicks_252 : decode cL_areWicks 252 = .ok (.if_icmp .ne 54, 3) := by decide +kernel
theorem dL_areWicks_255 : decode cL_areWicks 255 = .ok (.aload_n 0, 1) := by decide +kernel
theorem dL_areWicks_256 : decode cL_areWicks 256 = .ok (.invokevirtual 277, 3) := by decide +kernel
theorem dL_areWicks_259 : decode cL_areWicks 259 = .ok (.iload_n 2, 1) := by decide +kernel
theorem dL_areWicks_260 : decode cL_areWicks 260 = .ok (.if_icmp .ne 46, 3) := by decide +kernel
theorem dL_areWicks_263 : decode cL_areWicks 263 = .ok (.aload_n 0, 1) := by decide +kernel
theorem dL_areWicks_264 : decode cL_areWicks 264 = .ok (.invokevirtual 280, 3) := by decide +kernel
theorem dL_areWicks_267 : decode cL_areWicks 267 = .ok (.iload_n 2, 1) := by decide +kernel
theorem dL_areWicks_268 : decode cL_areWicks 268 = .ok (.if_icmp .ne 38, 3) := by decide +kernel
theorem dL_areWicks_271 : decode cL_areWicks 271 = .ok (.iload_n 1, 1) := by decide +kernel
theorem dL_areWicks_272 : decode cL_areWicks 272 = .ok (.ifCond .gt 10, 3) := by decide +kernel
theorem dL_areWicks_275 : decode cL_areWicks 275 = .ok (.aload_n 0, 1) := by decide +kernel
theorem dL_areWicks_276 : decode cL_areWicks 276 = .ok (.invokevirtual 204, 3) := by decide +kernel
theorem dL_areWicks_279 : decode cL_areWicks 279 = .ok (.ifCond .ne 27, 3) := by decide +kernel
theorem dL_areWicks_282 : decode cL_areWicks 282 = .ok (.aload_n 0, 1) := by decide +kernel
theorem dL_areWicks_283 : decode cL_areWicks 283 = .ok (.bipush 108, 2) := by decide +kernel
theorem dL_areWicks_285 : decode cL_areWicks 285 = .ok (.invokevirtual 177, 3) := by decide +kernel
theorem dL_areWicks_288 : decode cL_areWicks 288 = .ok (.iconst 4, 1) := by decide +kernel
theorem dL_areWicks_289 : decode cL_areWicks 289 = .ok (.if_icmp .gt 17, 3) := by decide +kernel
theorem dL_areWicks_292 : decode cL_areWicks 292 = .ok (.aload_n 0, 1) := by decide +kernel
theorem dL_areWicks_293 : decode cL_areWicks 293 = .ok (.bipush 114, 2) := by decide +kernel
theorem dL_areWicks_295 : decode cL_areWicks 295 = .ok (.invokevirtual 184, 3) := by decide +kernel
theorem dL_areWicks_298 : decode cL_areWicks 298 = .ok (.iconst 5, 1) := by decide +kernel
theorem dL_areWicks_299 : decode cL_areWicks 299 = .ok (.if_icmp .ge 7, 3) := by decide +kernel
theorem dL_areWicks_302 : decode cL_areWicks 302 = .ok (.iconst 1, 1) := by decide +kernel
theorem dL_areWicks_303 : decode cL_areWicks 303 = .ok (.goto 4, 3) := by decide +kernel
theorem dL_areWicks_306 : decode cL_areWicks 306 = .ok (.iconst 0, 1) := by decide +kernel
theorem dL_areWicks_307 : decode cL_areWicks 307 = .ok (.ireturn, 1) := by decide +kernel
theorem dL_isWoven_0 : decode cL_isWoven 0 = .ok (.aload_n 0, 1) := by decide +kernel
theorem dL_isWoven_1 : decode cL_isWoven 1 = .ok (.invokestatic 283, 3) := by decide +kernel
theorem dL_isWoven_4 : decode cL_isWoven 4 = .ok (.lstore_n 1, 1) := by decide +kernel
theorem dL_isWoven_5 : decode cL_isWoven 5 = .ok (.aload_n 0, 1) := by decide +kernel
theorem dL_isWoven_6 : decode cL_isWoven 6 = .ok (.invokevirtual 204, 3) := by decide +kernel
theorem dL_isWoven_9 : decode cL_isWoven 9 = .ok (.istore_n 3, 1) := by decide +kernel
theorem dL_isWoven_10 : decode cL_isWoven 10 = .ok (.aload_n 0, 1) := by decide +kernel
theorem dL_isWoven_11 : decode cL_isWoven 11 = .ok (.invokevirtual 274, 3) := by decide +kernel
theorem dL_isWoven_14 : decode cL_isWoven 14 = .ok (.istore 4, 2) := by decide +kernel
theorem dL_isWoven_16 : decode cL_isWoven 16 = .ok (.aload_n 0, 1) := by decide +kernel
theorem dL_isWoven_17 : decode cL_isWoven 17 = .ok (.invokevirtual 172, 3) := by decide +kernel
theorem dL_isWoven_20 : decode cL_isWoven 20 = .ok (.istore 5, 2) := by decide +kernel
theorem dL_isWoven_22 : decode cL_isWoven 22 = .ok (.aload_n 0, 1) := by decide +kernel
theorem dL_isWoven_23 : decode cL_isWoven 23 = .ok (.invokevirtual 201, 3) := by decide +kernel
theorem dL_isWoven_26 : decode cL_isWoven 26 = .ok (.istore 6, 2) := by decide +kernel
theorem dL_isWoven_28 : decode cL_isWoven 28 = .ok (.aload_n 0, 1) := by decide +kernel
theorem dL_isWoven_29 : decode cL_isWoven 29 = .ok (.invokevirtual 277, 3) := by decide +kernel
theorem dL_isWoven_32 : decode cL_isWoven 32 = .ok (.istore 7, 2) := by decide +kernel
theorem dL_isWoven_34 : decode cL_isWoven 34 = .ok (.aload_n 0, 1) := by decide +kernel
theorem dL_isWoven_35 : decode cL_isWoven 35 = .ok (.iconst 1, 1) := by decide +kernel
theorem dL_isWoven_36 : decode cL_isWoven 36 = .ok (.invokestatic 131, 3) := by decide +kernel
theorem dL_isWoven_39 : decode cL_isWoven 39 = .ok (.istore 8, 2) := by decide +kernel
theorem dL_isWoven_41 : decode cL_isWoven 41 = .ok (.iload 8, 2) := by decide +kernel
theorem dL_isWoven_43 : decode cL_isWoven 43 = .ok (.ldc 10, 2) := by decide +kernel
theorem dL_isWoven_45 : decode cL_isWoven 45 = .ok (.if_icmp .ne 30, 3) := by decide +kernel
theorem dL_isWoven_48 : decode cL_isWoven 48 = .ok (.iload 4, 2) := by decide +kernel
theorem dL_isWoven_50 : decode cL_isWoven 50 = .ok (.ifCond .eq 10, 3) := by decide +kernel
theorem dL_isWoven_53 : decode cL_isWoven 53 = .ok (.iload 6, 2) := by decide +kernel
theorem dL_isWoven_55 : decode cL_isWoven 55 = .ok (.bipush 40, 2) := by decide +kernel
theorem dL_isWoven_57 : decode cL_isWoven 57 = .ok (.if_icmp .ne 16, 3) := by decide +kernel
theorem dL_isWoven_60 : decode cL_isWoven 60 = .ok (.aload_n 0, 1) := by decide +kernel
theorem dL_isWoven_61 : decode cL_isWoven 61 = .ok (.invokestatic 283, 3) := by decide +kernel
theorem dL_isWoven_64 : decode cL_isWoven 64 = .ok (.lload_n 1, 1) := by decide +kernel
theorem dL_isWoven_65 : decode cL_isWoven 65 = .ok (.lcmp, 1) := by decide +kernel
theorem dL_isWoven_66 : decode cL_isWoven 66 = .ok (.ifCond .ne 7, 3) := by decide +kernel
theorem dL_isWoven_69 : decode cL_isWoven 69 = .ok (.iconst 1, 1) := by decide +kernel
theorem dL_isWoven_70 : decode cL_isWoven 70 = .ok (.goto 4, 3) := by decide +kernel
theorem dL_isWoven_73 : decode cL_isWoven 73 = .ok (.iconst 0, 1) := by decide +kernel
theorem dL_isWoven_74 : decode cL_isWoven 74 = .ok (.ireturn, 1) := by decide +kernel
theorem dL_isWoven_75 : decode cL_isWoven 75 = .ok (.iload 4, 2) := by decide +kernel
theorem dL_isWoven_77 : decode cL_isWoven 77 = .ok (.ifCond .le 57, 3) := by decide +kernel
theorem dL_isWoven_80 : decode cL_isWoven 80 = .ok (.iload 8, 2) := by decide +kernel
theorem dL_isWoven_82 : decode cL_isWoven 82 = .ok (.iconst 1, 1) := by decide +kernel
theorem dL_isWoven_83 : decode cL_isWoven 83 = .ok (.if_icmp .ne 51, 3) := by decide +kernel
theorem dL_isWoven_86 : decode cL_isWoven 86 = .ok (.aload_n 0, 1) := by decide +kernel
theorem dL_isWoven_87 : decode cL_isWoven 87 = .ok (.invokevirtual 201, 3) := by decide +kernel
theorem dL_isWoven_90 : decode cL_isWoven 90 = .ok (.iload 6, 2) := by decide +kernel
theorem dL_isWoven_92 : decode cL_isWoven 92 = .ok (.iconst 1, 1) := by decide +kernel
theorem dL_isWoven_93 : decode cL_isWoven 93 = .ok (.iadd, 1) := by decide +kernel
theorem dL_isWoven_94 : decode cL_isWoven 94 = .ok (.if_icmp .ne 40, 3) := by decide +kernel
theorem dL_isWoven_97 : decode cL_isWoven 97 = .ok (.aload_n 0, 1) := by decide +kernel
theorem dL_isWoven_98 : decode cL_isWoven 98 = .ok (.iload 6, 2) := by decide +kernel
theorem dL_isWoven_100 : decode cL_isWoven 100 = .ok (.invokevirtual 207, 3) := by decide +kernel
theorem dL_isWoven_103 : decode cL_isWoven 103 = .ok (.iload_n 3, 1) := by decide +kernel
theorem dL_isWoven_104 : decode cL_isWoven 104 = .ok (.if_icmp .ne 30, 3) := by decide +kernel
theorem dL_isWoven_107 : decode cL_isWoven 107 = .ok (.aload_n 0, 1) := by decide +kernel
theorem dL_isWoven_108 : decode cL_isWoven 108 = .ok (.invokevirtual 172, 3) := by decide +kernel
theorem dL_isWoven_111 : decode cL_isWoven 111 = .ok (.iload 5, 2) := by decide +kernel
theorem dL_isWoven_113 : decode cL_isWoven 113 = .ok (.iload 4, 2) := by decide +kernel
theorem dL_isWoven_115 : decode cL_isWoven 115 = .ok (.iadd, 1) := by decide +kernel
theorem dL_isWoven_116 : decode cL_isWoven 116 = .ok (.if_icmp .ne 18, 3) := by decide +kernel
theorem dL_isWoven_119 : decode cL_isWoven 119 = .ok (.aload_n 0, 1) := by decide +kernel
theorem dL_isWoven_120 : decode cL_isWoven 120 = .ok (.invokevirtual 277, 3) := by decide +kernel
theorem dL_isWoven_123 : decode cL_isWoven 123 = .ok (.iload 7, 2) := by decide +kernel
theorem dL_isWoven_125 : decode cL_isWoven 125 = .ok (.iconst 1, 1) := by decide +kernel
theorem dL_isWoven_126 : decode cL_isWoven 126 = .ok (.isub, 1) := by decide +kernel
theorem dL_isWoven_127 : decode cL_isWoven 127 = .ok (.if_icmp .ne 7, 3) := by decide +kernel
theorem dL_isWoven_130 : decode cL_isWoven 130 = .ok (.iconst 1, 1) := by decide +kernel
theorem dL_isWoven_131 : decode cL_isWoven 131 = .ok (.goto 4, 3) := by decide +kernel
theorem dL_isWoven_134 : decode cL_isWoven 134 = .ok (.iconst 0, 1) := by decide +kernel
theorem dL_isWoven_135 : decode cL_isWoven 135 = .ok (.istore 9, 2) := by decide +kernel
theorem dL_isWoven_137 : decode cL_isWoven 137 = .ok (.iload 9, 2) := by decide +kernel
theorem dL_isWoven_139 : decode cL_isWoven 139 = .ok (.ifCond .eq 23, 3) := by decide +kernel
theorem dL_isWoven_142 : decode cL_isWoven 142 = .ok (.aload_n 0, 1) := by decide +kernel
theorem dL_isWoven_143 : decode cL_isWoven 143 = .ok (.invokestatic 163, 3) := by decide +kernel
theorem dL_isWoven_146 : decode cL_isWoven 146 = .ok (.ifCond .lt 16, 3) := by decide +kernel
theorem dL_isWoven_149 : decode cL_isWoven 149 = .ok (.aload_n 0, 1) := by decide +kernel
theorem dL_isWoven_150 : decode cL_isWoven 150 = .ok (.invokestatic 283, 3) := by decide +kernel
theorem dL_isWoven_153 : decode cL_isWoven 153 = .ok (.lload_n 1, 1) := by decide +kernel
theorem dL_isWoven_154 : decode cL_isWoven 154 = .ok (.lcmp, 1) := by decide +kernel
theorem dL_isWoven_155 : decode cL_isWoven 155 = .ok (.ifCond .ne 7, 3) := by decide +kernel
theorem dL_isWoven_158 : decode cL_isWoven 158 = .ok (.iconst 1, 1) := by decide +kernel
theorem dL_isWoven_159 : decode cL_isWoven 159 = .ok (.goto 4, 3) := by decide +kernel
theorem dL_isWoven_162 : decode cL_isWoven 162 = .ok (.iconst 0, 1) := by decide +kernel
theorem dL_isWoven_163 : decode cL_isWoven 163 = .ok (.istore 9, 2) := by decide +kernel
theorem dL_isWoven_165 : decode cL_isWoven 165 = .ok (.aload_n 0, 1) := by decide +kernel
theorem dL_isWoven_166 : decode cL_isWoven 166 = .ok (.bipush 10, 2) := by decide +kernel
theorem dL_isWoven_168 : decode cL_isWoven 168 = .ok (.invokestatic 131, 3) := by decide +kernel
theorem dL_isWoven_171 : decode cL_isWoven 171 = .ok (.istore 10, 2) := by decide +kernel
theorem dL_isWoven_173 : decode cL_isWoven 173 = .ok (.iload 9, 2) := by decide +kernel
theorem dL_isWoven_175 : decode cL_isWoven 175 = .ok (.ifCond .eq 62, 3) := by decide +kernel
theorem dL_isWoven_178 : decode cL_isWoven 178 = .ok (.iload 10, 2) := by decide +kernel
theorem dL_isWoven_180 : decode cL_isWoven 180 = .ok (.ldc 10, 2) := by decide +kernel
theorem dL_isWoven_182 : decode cL_isWoven 182 = .ok (.if_icmp .ne 13, 3) := by decide +kernel
theorem dL_isWoven_185 : decode cL_isWoven 185 = .ok (.iload 6, 2) := by decide +kernel
theorem dL_isWoven_187 : decode cL_isWoven 187 = .ok (.bipush 30, 2) := by decide +kernel
theorem dL_isWoven_189 : decode cL_isWoven 189 = .ok (.if_icmp .le 48, 3) := by decide +kernel
theorem dL_isWoven_192 : decode cL_isWoven 192 = .ok (.goto 41, 3) := by decide +kernel
theorem dL_isWoven_195 : decode cL_isWoven 195 = .ok (.iload 10, 2) := by decide +kernel
theorem dL_isWoven_197 : decode cL_isWoven 197 = .ok (.bipush 10, 2) := by decide +kernel
theorem dL_isWoven_199 : decode cL_isWoven 199 = .ok (.iload 7, 2) := by decide +kernel
theorem dL_isWoven_201 : decode cL_isWoven 201 = .ok (.invokestatic 287, 3) := by decide +kernel
theorem dL_isWoven_204 : decode cL_isWoven 204 = .ok (.if_icmp .ne 33, 3) := by decide +kernel
theorem dL_isWoven_207 : decode cL_isWoven 207 = .ok (.aload_n 0, 1) := by decide +kernel
theorem dL_isWoven_208 : decode cL_isWoven 208 = .ok (.invokevirtual 201, 3) := by decide +kernel
theorem dL_isWoven_211 : decode cL_isWoven 211 = .ok (.iload 6, 2) := by decide +kernel
theorem dL_isWoven_213 : decode cL_isWoven 213 = .ok (.iload 10, 2) := by decide +kernel
theorem dL_isWoven_215 : decode cL_isWoven 215 = .ok (.iadd, 1) := by decide +kernel
theorem dL_isWoven_216 : decode cL_isWoven 216 = .ok (.if_icmp .ne 21, 3) := by decide +kernel
theorem dL_isWoven_219 : decode cL_isWoven 219 = .ok (.aload_n 0, 1) := by decide +kernel
theorem dL_isWoven_220 : decode cL_isWoven 220 = .ok (.invokestatic 290, 3) := by decide +kernel
theorem dL_isWoven_223 : decode cL_isWoven 223 = .ok (.ifCond .eq 14, 3) := by decide +kernel
theorem dL_isWoven_226 : decode cL_isWoven 226 = .ok (.aload_n 0, 1) := by decide +kernel
theorem dL_isWoven_227 : decode cL_isWoven 227 = .ok (.invokestatic 163, 3) := by decide +kernel
theorem dL_isWoven_230 : decode cL_isWoven 230 = .ok (.ifCond .lt 7, 3) := by decide +kernel
theorem dL_isWoven_233 : decode cL_isWoven 233 = .ok (.iconst 1, 1) := by decide +kernel
theorem dL_isWoven_234 : decode cL_isWoven 234 = .ok (.goto 4, 3) := by decide +kernel
theorem dL_isWoven_237 : decode cL_isWoven 237 = .ok (.iconst 0, 1) := by decide +kernel
theorem dL_isWoven_238 : decode cL_isWoven 238 = .ok (.istore 9, 2) := by decide +kernel
theorem dL_isWoven_240 : decode cL_isWoven 240 = .ok (.iload 9, 2) := by decide +kernel
theorem dL_isWoven_242 : decode cL_isWoven 242 = .ok (.ifCond .eq 16, 3) := by decide +kernel
theorem dL_isWoven_245 : decode cL_isWoven 245 = .ok (.aload_n 0, 1) := by decide +kernel
theorem dL_isWoven_246 : decode cL_isWoven 246 = .ok (.invokestatic 283, 3) := by decide +kernel
theorem dL_isWoven_249 : decode cL_isWoven 249 = .ok (.lload_n 1, 1) := by decide +kernel
theorem dL_isWoven_250 : decode cL_isWoven 250 = .ok (.lcmp, 1) := by decide +kernel
theorem dL_isWoven_251 : decode cL_isWoven 251 = .ok (.ifCond .ne 7, 3) := by decide +kernel
theorem dL_isWoven_254 : decode cL_isWoven 254 = .ok (.iconst 1, 1) := by decide +kernel
theorem dL_isWoven_255 : decode cL_isWoven 255 = .ok (.goto 4, 3) := by decide +kernel
theorem dL_isWoven_258 : decode cL_isWoven 258 = .ok (.iconst 0, 1) := by decide +kernel
theorem dL_isWoven_259 : decode cL_isWoven 259 = .ok (.ireturn, 1) := by decide +kernel
theorem dL_isRepeated_0 : decode cL_isRepeated 0 = .ok (.aload_n 0, 1) := by decide +kernel
theorem dL_isRepeated_1 : decode cL_isRepeated 1 = .ok (.invokestatic 283, 3) := by decide +kernel
theorem dL_isRepeated_4 : decode cL_isRepeated 4 = .ok (.lstore_n 3, 1) := by decide +kernel
theorem dL_isRepeated_5 : decode cL_isRepeated 5 = .ok (.aload_n 0, 1) := by decide +kernel
theorem dL_isRepeated_6 : decode cL_isRepeated 6 = .ok (.invokevirtual 201, 3) := by decide +kernel
theorem dL_isRepeated_9 : decode cL_isRepeated 9 = .ok (.istore 5, 2) := by decide +kernel
theorem dL_isRepeated_11 : decode cL_isRepeated 11 = .ok (.aload_n 0, 1) := by decide +kernel
theorem dL_isRepeated_12 : decode cL_isRepeated 12 = .ok (.iload_n 1, 1) := by decide +kernel
theorem dL_isRepeated_13 : decode cL_isRepeated 13 = .ok (.iload_n 2, 1) := by decide +kernel
theorem dL_isRepeated_14 : decode cL_isRepeated 14 = .ok (.invokestatic 135, 3) := by decide +kernel
theorem dL_isRepeated_17 : decode cL_isRepeated 17 = .ok (.istore 6, 2) := by decide +kernel
theorem dL_isRepeated_19 : decode cL_isRepeated 19 = .ok (.iload 6, 2) := by decide +kernel
theorem dL_isRepeated_21 : decode cL_isRepeated 21 = .ok (.ldc 10, 2) := by decide +kernel
theorem dL_isRepeated_23 : decode cL_isRepeated 23 = .ok (.if_icmp .ne 35, 3) := by decide +kernel
theorem dL_isRepeated_26 : decode cL_isRepeated 26 = .ok (.iload 5, 2) := by decide +kernel
theorem dL_isRepeated_28 : decode cL_isRepeated 28 = .ok (.iload_n 1, 1) := by decide +kernel
theorem dL_isRepeated_29 : decode cL_isRepeated 29 = .ok (.if_icmp .lt 14, 3) := by decide +kernel
theorem dL_isRepeated_32 : decode cL_isRepeated 32 = .ok (.iload 5, 2) := by decide +kernel
theorem dL_isRepeated_34 : decode cL_isRepeated 34 = .ok (.iload_n 1, 1) := by decide +kernel
theorem dL_isRepeated_35 : decode cL_isRepeated 35 = .ok (.iload_n 2, 1) := by decide +kernel
theorem dL_isRepeated_36 : decode cL_isRepeated 36 = .ok (.imul, 1) := by decide +kernel
theorem dL_isRepeated_37 : decode cL_isRepeated 37 = .ok (.iadd, 1) := by decide +kernel
theorem dL_isRepeated_38 : decode cL_isRepeated 38 = .ok (.bipush 40, 2) := by decide +kernel
theorem dL_isRepeated_40 : decode cL_isRepeated 40 = .ok (.if_icmp .le 16, 3) := by decide +kernel
theorem dL_isRepeated_43 : decode cL_isRepeated 43 = .ok (.aload_n 0, 1) := by decide +kernel
theorem dL_isRepeated_44 : decode cL_isRepeated 44 = .ok (.invokestatic 283, 3) := by decide +kernel
theorem dL_isRepeated_47 : decode cL_isRepeated 47 = .ok (.lload_n 3, 1) := by decide +kernel
theorem dL_isRepeated_48 : decode cL_isRepeated 48 = .ok (.lcmp, 1) := by decide +kernel
theorem dL_isRepeated_49 : decode cL_isRepeated 49 = .ok (.ifCond .ne 7, 3) := by decide +kernel
theorem dL_isRepeated_52 : decode cL_isRepeated 52 = .ok (.iconst 1, 1) := by decide +kernel
theorem dL_isRepeated_53 : decode cL_isRepeated 53 = .ok (.goto 4, 3) := by decide +kernel
theorem dL_isRepeated_56 : decode cL_isRepeated 56 = .ok (.iconst 0, 1) := by decide +kernel
theorem dL_isRepeated_57 : decode cL_isRepeated 57 = .ok (.ireturn, 1) := by decide +kernel
theorem dL_isRepeated_58 : decode cL_isRepeated 58 = .ok (.iload 6, 2) := by decide +kernel
theorem dL_isRepeated_60 : decode cL_isRepeated 60 = .ok (.iload 5, 2) := by decide +kernel
theorem dL_isRepeated_62 : decode cL_isRepeated 62 = .ok (.iload_n 1, 1) := by decide +kernel
theorem dL_isRepeated_63 : decode cL_isRepeated 63 = .ok (.iload_n 2, 1) := by decide +kernel
theorem dL_isRepeated_64 : decode cL_isRepeated 64 = .ok (.imul, 1) := by decide +kernel
theorem dL_isRepeated_65 : decode cL_isRepeated 65 = .ok (.iadd, 1) := by decide +kernel
theorem dL_isRepeated_66 : decode cL_isRepeated 66 = .ok (.if_icmp .ne 16, 3) := by decide +kernel
theorem dL_isRepeated_69 : decode cL_isRepeated 69 = .ok (.aload_n 0, 1) := by decide +kernel
theorem dL_isRepeated_70 : decode cL_isRepeated 70 = .ok (.invokevirtual 201, 3) := by decide +kernel
theorem dL_isRepeated_73 : decode cL_isRepeated 73 = .ok (.iload 6, 2) := by decide +kernel
theorem dL_isRepeated_75 : decode cL_isRepeated 75 = .ok (.if_icmp .ne 7, 3) := by decide +kernel
theorem dL_isRepeated_78 : decode cL_isRepeated 78 = .ok (.iconst 1, 1) := by decide +kernel
theorem dL_isRepeated_79 : decode cL_isRepeated 79 = .ok (.goto 4, 3) := by decide +kernel
theorem dL_isRepeated_82 : decode cL_isRepeated 82 = .ok (.iconst 0, 1) := by decide +kernel
theorem dL_isRepeated_83 : decode cL_isRepeated 83 = .ok (.istore 7, 2) := by decide +kernel
theorem dL_isRepeated_85 : decode cL_isRepeated 85 = .ok (.iload 5, 2) := by decide +kernel
theorem dL_isRepeated_87 : decode cL_isRepeated 87 = .ok (.istore 8, 2) := by decide +kernel
theorem dL_isRepeated_89 : decode cL_isRepeated 89 = .ok (.iload 7, 2) := by decide +kernel
theorem dL_isRepeated_91 : decode cL_isRepeated 91 = .ok (.ifCond .eq 45, 3) := by decide +kernel
theorem dL_isRepeated_94 : decode cL_isRepeated 94 = .ok (.iload 8, 2) := by decide +kernel
theorem dL_isRepeated_96 : decode cL_isRepeated 96 = .ok (.iload 6, 2) := by decide +kernel
theorem dL_isRepeated_98 : decode cL_isRepeated 98 = .ok (.if_icmp .ge 38, 3) := by decide +kernel
theorem dL_isRepeated_101 : decode cL_isRepeated 101 = .ok (.aload_n 0, 1) := by decide +kernel
theorem dL_isRepeated_102 : decode cL_isRepeated 102 = .ok (.iload 8, 2) := by decide +kernel
theorem dL_isRepeated_104 : decode cL_isRepeated 104 = .ok (.iload 8, 2) := by decide +kernel
theorem dL_isRepeated_106 : decode cL_isRepeated 106 = .ok (.iload_n 1, 1) := by decide +kernel
theorem dL_isRepeated_107 : decode cL_isRepeated 107 = .ok (.isub, 1) := by decide +kernel
theorem dL_isRepeated_108 : decode cL_isRepeated 108 = .ok (.invokestatic 226, 3) := by decide +kernel
theorem dL_isRepeated_111 : decode cL_isRepeated 111 = .ok (.ifCond .eq 16, 3) := by decide +kernel
theorem dL_isRepeated_114 : decode cL_isRepeated 114 = .ok (.aload_n 0, 1) := by decide +kernel
theorem dL_isRepeated_115 : decode cL_isRepeated 115 = .ok (.iload_n 1, 1) := by decide +kernel
theorem dL_isRepeated_116 : decode cL_isRepeated 116 = .ok (.invokevirtual 71, 3) := by decide +kernel
theorem dL_isRepeated_119 : decode cL_isRepeated 119 = .ok (.iload_n 2, 1) := by decide +kernel
theorem dL_isRepeated_120 : decode cL_isRepeated 120 = .ok (.if_icmp .le 7, 3) := by decide +kernel
theorem dL_isRepeated_123 : decode cL_isRepeated 123 = .ok (.iconst 1, 1) := by decide +kernel
theorem dL_isRepeated_124 : decode cL_isRepeated 124 = .ok (.goto 4, 3) := by decide +kernel
theorem dL_isRepeated_127 : decode cL_isRepeated 127 = .ok (.iconst 0, 1) := by decide +kernel
theorem dL_isRepeated_128 : decode cL_isRepeated 128 = .ok (.istore 7, 2) := by decide +kernel
theorem dL_isRepeated_130 : decode cL_isRepeated 130 = .ok (.iinc 8 1, 3) := by decide +kernel
theorem dL_isRepeated_133 : decode cL_isRepeated 133 = .ok (.goto (-44), 3) := by decide +kernel
theorem dL_isRepeated_136 : decode cL_isRepeated 136 = .ok (.iload 7, 2) := by decide +kernel
theorem dL_isRepeated_138 : decode cL_isRepeated 138 = .ok (.ifCond .eq 40, 3) := by decide +kernel
theorem dL_isRepeated_141 : decode cL_isRepeated 141 = .ok (.aload_n 0, 1) := by decide +kernel
theorem dL_isRepeated_142 : decode cL_isRepeated 142 = .ok (.bipush 10, 2) := by decide +kernel
theorem dL_isRepeated_144 : decode cL_isRepeated 144 = .ok (.iload_n 1, 1) := by decide +kernel
theorem dL_isRepeated_145 : decode cL_isRepeated 145 = .ok (.iload_n 2, 1) := by decide +kernel
theorem dL_isRepeated_146 : decode cL_isRepeated 146 = .ok (.imul, 1) := by decide +kernel
theorem dL_isRepeated_147 : decode cL_isRepeated 147 = .ok (.invokestatic 287, 3) := by decide +kernel
theorem dL_isRepeated_150 : decode cL_isRepeated 150 = .ok (.invokestatic 133, 3) := by decide +kernel
theorem dL_isRepeated_153 : decode cL_isRepeated 153 = .ok (.iload 6, 2) := by decide +kernel
theorem dL_isRepeated_155 : decode cL_isRepeated 155 = .ok (.bipush 10, 2) := by decide +kernel
theorem dL_isRepeated_157 : decode cL_isRepeated 157 = .ok (.iload_n 1, 1) := by decide +kernel
theorem dL_isRepeated_158 : decode cL_isRepeated 158 = .ok (.iload_n 2, 1) := by decide +kernel
theorem dL_isRepeated_159 : decode cL_isRepeated 159 = .ok (.imul, 1) := by decide +kernel
theorem dL_isRepeated_160 : decode cL_isRepeated 160 = .ok (.invokestatic 287, 3) := by decide +kernel
theorem dL_isRepeated_163 : decode cL_isRepeated 163 = .ok (.isub, 1) := by decide +kernel
theorem dL_isRepeated_164 : decode cL_isRepeated 164 = .ok (.if_icmp .ne 14, 3) := by decide +kernel
theorem dL_isRepeated_167 : decode cL_isRepeated 167 = .ok (.aload_n 0, 1) := by decide +kernel
theorem dL_isRepeated_168 : decode cL_isRepeated 168 = .ok (.invokestatic 163, 3) := by decide +kernel
theorem dL_isRepeated_171 : decode cL_isRepeated 171 = .ok (.ifCond .lt 7, 3) := by decide +kernel
theorem dL_isRepeated_174 : decode cL_isRepeated 174 = .ok (.iconst 1, 1) := by decide +kernel
theorem dL_isRepeated_175 : decode cL_isRepeated 175 = .ok (.goto 4, 3) := by decide +kernel
theorem dL_isRepeated_178 : decode cL_isRepeated 178 = .ok (.iconst 0, 1) := by decide +kernel
theorem dL_isRepeated_179 : decode cL_isRepeated 179 = .ok (.istore 7, 2) := by decide +kernel
theorem dL_isRepeated_181 : decode cL_isRepeated 181 = .ok (.iload 7, 2) := by decide +kernel
theorem dL_isRepeated_183 : decode cL_isRepeated 183 = .ok (.ifCond .eq 23, 3) := by decide +kernel
theorem dL_isRepeated_186 : decode cL_isRepeated 186 = .ok (.aload_n 0, 1) := by decide +kernel
theorem dL_isRepeated_187 : decode cL_isRepeated 187 = .ok (.invokestatic 163, 3) := by decide +kernel
theorem dL_isRepeated_190 : decode cL_isRepeated 190 = .ok (.ifCond .lt 16, 3) := by decide +kernel
theorem dL_isRepeated_193 : decode cL_isRepeated 193 = .ok (.aload_n 0, 1) := by decide +kernel
theorem dL_isRepeated_194 : decode cL_isRepeated 194 = .ok (.invokestatic 283, 3) := by decide +kernel
theorem dL_isRepeated_197 : decode cL_isRepeated 197 = .ok (.lload_n 3, 1) := by decide +kernel
theorem dL_isRepeated_198 : decode cL_isRepeated 198 = .ok (.lcmp, 1) := by decide +kernel
theorem dL_isRepeated_199 : decode cL_isRepeated 199 = .ok (.ifCond .ne 7, 3) := by decide +kernel
theorem dL_isRepeated_202 : decode cL_isRepeated 202 = .ok (.iconst 1, 1) := by decide +kernel
theorem dL_isRepeated_203 : decode cL_isRepeated 203 = .ok (.goto 4, 3) := by decide +kernel
theorem dL_isRepeated_206 : decode cL_isRepeated 206 = .ok (.iconst 0, 1) := by decide +kernel
theorem dL_isRepeated_207 : decode cL_isRepeated 207 = .ok (.ireturn, 1) := by decide +kernel
theorem dL_areKnots_0 : decode cL_areKnots 0 = .ok (.sipush (-1000), 3) := by decide +kernel
theorem dL_areKnots_3 : decode cL_areKnots 3 = .ok (.istore_n 1, 1) := by decide +kernel
theorem dL_areKnots_4 : decode cL_areKnots 4 = .ok (.sipush (-1000), 3) := by decide +kernel
theorem dL_areKnots_7 : decode cL_areKnots 7 = .ok (.istore_n 2, 1) := by decide +kernel
theorem dL_areKnots_8 : decode cL_areKnots 8 = .ok (.aload_n 0, 1) := by decide +kernel
theorem dL_areKnots_9 : decode cL_areKnots 9 = .ok (.aload_n 0, 1) := by decide +kernel
theorem dL_areKnots_10 : decode cL_areKnots 10 = .ok (.invokevirtual 201, 3) := by decide +kernel
theorem dL_areKnots_13 : decode cL_areKnots 13 = .ok (.invokestatic 294, 3) := by decide +kernel
theorem dL_areKnots_16 : decode cL_areKnots 16 = .ok (.sipush (-1000), 3) := by decide +kernel
theorem dL_areKnots_19 : decode cL_areKnots 19 = .ok (.if_icmp .ne 18, 3) := by decide +kernel
theorem dL_areKnots_22 : decode cL_areKnots 22 = .ok (.aload_n 0, 1) := by decide +kernel
theorem dL_areKnots_23 : decode cL_areKnots 23 = .ok (.iconst (-1), 1) := by decide +kernel
theorem dL_areKnots_24 : decode cL_areKnots 24 = .ok (.invokestatic 296, 3) := by decide +kernel
theorem dL_areKnots_27 : decode cL_areKnots 27 = .ok (.sipush (-1000), 3) := by decide +kernel
theorem dL_areKnots_30 : decode cL_areKnots 30 = .ok (.if_icmp .ne 7, 3) := by decide +kernel
theorem dL_areKnots_33 : decode cL_areKnots 33 = .ok (.iconst 1, 1) := by decide +kernel
theorem dL_areKnots_34 : decode cL_areKnots 34 = .ok (.goto 4, 3) := by decide +kernel
theorem dL_areKnots_37 : decode cL_areKnots 37 = .ok (.iconst 0, 1) := by decide +kernel
theorem dL_areKnots_38 : decode cL_areKnots 38 = .ok (.istore_n 3, 1) := by decide +kernel
theorem dL_areKnots_39 : decode cL_areKnots 39 = .ok (.aload_n 0, 1) := by decide +kernel
theorem dL_areKnots_40 : decode cL_areKnots 40 = .ok (.invokevirtual 201, 3) := by decide +kernel
theorem dL_areKnots_43 : decode cL_areKnots 43 = .ok (.iconst 1, 1) := by decide +kernel
theorem dL_areKnots_44 : decode cL_areKnots 44 = .ok (.isub, 1) := by decide +kernel
theorem dL_areKnots_45 : decode cL_areKnots 45 = .ok (.istore 4, 2) := by decide +kernel
theorem dL_areKnots_47 : decode cL_areKnots 47 = .ok (.iload_n 3, 1) := by decide +kernel
theorem dL_areKnots_48 : decode cL_areKnots 48 = .ok (.ifCond .eq 89, 3) := by decide +kernel
theorem dL_areKnots_51 : decode cL_areKnots 51 = .ok (.iload 4, 2) := by decide +kernel
theorem dL_areKnots_53 : decode cL_areKnots 53 = .ok (.ifCond .lt 84, 3) := by decide +kernel
theorem dL_areKnots_56 : decode cL_areKnots 56 = .ok (.bipush 15, 2) := by decide +kernel
theorem dL_areKnots_58 : decode cL_areKnots 58 = .ok (.istore 5, 2) := by decide +kernel
theorem dL_areKnots_60 : decode cL_areKnots 60 = .ok (.iload 5, 2) := by decide +kernel
theorem dL_areKnots_62 : decode cL_areKnots 62 = .ok (.ifCond .lt 43, 3) := by decide +kernel
theorem dL_areKnots_65 : decode cL_areKnots 65 = .ok (.aload_n 0, 1) := by decide +kernel
theorem dL_areKnots_66 : decode cL_areKnots 66 = .ok (.iload 4, 2) := by decide +kernel
theorem dL_areKnots_68 : decode cL_areKnots 68 = .ok (.iload 5, 2) := by decide +kernel
theorem dL_areKnots_70 : decode cL_areKnots 70 = .ok (.invokevirtual 213, 3) := by decide +kernel
theorem dL_areKnots_73 : decode cL_areKnots 73 = .ok (.istore 6, 2) := by decide +kernel
theorem dL_areKnots_75 : decode cL_areKnots 75 = .ok (.iload 6, 2) := by decide +kernel
theorem dL_areKnots_77 : decode cL_areKnots 77 = .ok (.ifCond .eq 8, 3) := by decide +kernel
theorem dL_areKnots_80 : decode cL_areKnots 80 = .ok (.iload 4, 2) := by decide +kernel
theorem dL_areKnots_82 : decode cL_areKnots 82 = .ok (.goto 4, 3) := by decide +kernel
theorem dL_areKnots_85 : decode cL_areKnots 85 = .ok (.iload_n 1, 1) := by decide +kernel
theorem dL_areKnots_86 : decode cL_areKnots 86 = .ok (.istore_n 1, 1) := by decide +kernel
theorem dL_areKnots_87 : decode cL_areKnots 87 = .ok (.iload 6, 2) := by decide +kernel
theorem dL_areKnots_89 : decode cL_areKnots 89 = .ok (.ifCond .eq 8, 3) := by decide +kernel
theorem dL_areKnots_92 : decode cL_areKnots 92 = .ok (.iload 5, 2) := by decide +kernel
theorem dL_areKnots_94 : decode cL_areKnots 94 = .ok (.goto 4, 3) := by decide +kernel
theorem dL_areKnots_97 : decode cL_areKnots 97 = .ok (.iload_n 2, 1) := by decide +kernel
theorem dL_areKnots_98 : decode cL_areKnots 98 = .ok (.istore_n 2, 1) := by decide +kernel
theorem dL_areKnots_99 : decode cL_areKnots 99 = .ok (.iinc 5 (-1), 3) := by decide +kernel
theorem dL_areKnots_102 : decode cL_areKnots 102 = .ok (.goto (-42), 3) := by decide +kernel
theorem dL_areKnots_105 : decode cL_areKnots 105 = .ok (.aload_n 0, 1) := by decide +kernel
theorem dL_areKnots_106 : decode cL_areKnots 106 = .ok (.iload 4, 2) := by decide +kernel
theorem dL_areKnots_108 : decode cL_areKnots 108 = .ok (.invokestatic 294, 3) := by decide +kernel
theorem dL_areKnots_111 : decode cL_areKnots 111 = .ok (.iload_n 1, 1) := by decide +kernel
theorem dL_areKnots_112 : decode cL_areKnots 112 = .ok (.if_icmp .ne 17, 3) := by decide +kernel
theorem dL_areKnots_115 : decode cL_areKnots 115 = .ok (.aload_n 0, 1) := by decide +kernel
theorem dL_areKnots_116 : decode cL_areKnots 116 = .ok (.iload 4, 2) := by decide +kernel
theorem dL_areKnots_118 : decode cL_areKnots 118 = .ok (.invokestatic 296, 3) := by decide +kernel
theorem dL_areKnots_121 : decode cL_areKnots 121 = .ok (.iload_n 2, 1) := by decide +kernel
theorem dL_areKnots_122 : decode cL_areKnots 122 = .ok (.if_icmp .ne 7, 3) := by decide +kernel
theorem dL_areKnots_125 : decode cL_areKnots 125 = .ok (.iconst 1, 1) := by decide +kernel
theorem dL_areKnots_126 : decode cL_areKnots 126 = .ok (.goto 4, 3) := by decide +kernel
theorem dL_areKnots_129 : decode cL_areKnots 129 = .ok (.iconst 0, 1) := by decide +kernel
theorem dL_areKnots_130 : decode cL_areKnots 130 = .ok (.istore_n 3, 1) := by decide +kernel
theorem dL_areKnots_131 : decode cL_areKnots 131 = .ok (.iinc 4 (-1), 3) := by decide +kernel
theorem dL_areKnots_134 : decode cL_areKnots 134 = .ok (.goto (-87), 3) := by decide +kernel
theorem dL_areKnots_137 : decode cL_areKnots 137 = .ok (.iload_n 3, 1) := by decide +kernel
theorem dL_areKnots_138 : decode cL_areKnots 138 = .ok (.ireturn, 1) := by decide +kernel
theorem dL_isFit_0 : decode cL_isFit 0 = .ok (.aload_n 0, 1) := by decide +kernel
theorem dL_isFit_1 : decode cL_isFit 1 = .ok (.invokestatic 298, 3) := by decide +kernel
theorem dL_isFit_4 : decode cL_isFit 4 = .ok (.ifCond .eq 53, 3) := by decide +kernel
theorem dL_isFit_7 : decode cL_isFit 7 = .ok (.aload_n 0, 1) := by decide +kernel
theorem dL_isFit_8 : decode cL_isFit 8 = .ok (.invokestatic 301, 3) := by decide +kernel
theorem dL_isFit_11 : decode cL_isFit 11 = .ok (.ifCond .eq 46, 3) := by decide +kernel
theorem dL_isFit_14 : decode cL_isFit 14 = .ok (.aload_n 0, 1) := by decide +kernel
theorem dL_isFit_15 : decode cL_isFit 15 = .ok (.invokestatic 290, 3) := by decide +kernel
theorem dL_isFit_18 : decode cL_isFit 18 = .ok (.ifCond .eq 39, 3) := by decide +kernel
theorem dL_isFit_21 : decode cL_isFit 21 = .ok (.aload_n 0, 1) := by decide +kernel
theorem dL_isFit_22 : decode cL_isFit 22 = .ok (.invokestatic 304, 3) := by decide +kernel
theorem dL_isFit_25 : decode cL_isFit 25 = .ok (.ifCond .eq 32, 3) := by decide +kernel
theorem dL_isFit_28 : decode cL_isFit 28 = .ok (.aload_n 0, 1) := by decide +kernel
theorem dL_isFit_29 : decode cL_isFit 29 = .ok (.invokestatic 307, 3) := by decide +kernel
theorem dL_isFit_32 : decode cL_isFit 32 = .ok (.ifCond .eq 25, 3) := by decide +kernel
theorem dL_isFit_35 : decode cL_isFit 35 = .ok (.aload_n 0, 1) := by decide +kernel
theorem dL_isFit_36 : decode cL_isFit 36 = .ok (.iconst 1, 1) := by decide +kernel
theorem dL_isFit_37 : decode cL_isFit 37 = .ok (.iconst 2, 1) := by decide +kernel
theorem dL_isFit_38 : decode cL_isFit 38 = .ok (.invokestatic 310, 3) := by decide +kernel
theorem dL_isFit_41 : decode cL_isFit 41 = .ok (.ifCond .eq 16, 3) := by decide +kernel
theorem dL_isFit_44 : decode cL_isFit 44 = .ok (.aload_n 0, 1) := by decide +kernel
theorem dL_isFit_45 : decode cL_isFit 45 = .ok (.iconst 3, 1) := by decide +kernel
theorem dL_isFit_46 : decode cL_isFit 46 = .ok (.iconst 4, 1) := by decide +kernel
theorem dL_isFit_47 : decode cL_isFit 47 = .ok (.invokestatic 310, 3) := by decide +kernel
theorem dL_isFit_50 : decode cL_isFit 50 = .ok (.ifCond .eq 7, 3) := by decide +kernel
theorem dL_isFit_53 : decode cL_isFit 53 = .ok (.iconst 1, 1) := by decide +kernel
theorem dL_isFit_54 : decode cL_isFit 54 = .ok (.goto 4, 3) := by decide +kernel
theorem dL_isFit_57 : decode cL_isFit 57 = .ok (.iconst 0, 1) := by decide +kernel
theorem dL_isFit_58 : decode cL_isFit 58 = .ok (.ireturn, 1) := by decide +kernel
theorem dL_law_0 : decode cL_law 0 = .ok (.new 12, 3) := by decide +kernel
theorem dL_law_3 : decode cL_law 3 = .ok (.dup, 1) := by decide +kernel
theorem dL_law_4 : decode cL_law 4 = .ok (.invokespecial 313, 3) := by decide +kernel
theorem dL_law_7 : decode cL_law 7 = .ok (.astore_n 1, 1) := by decide +kernel
theorem dL_law_8 : decode cL_law 8 = .ok (.iconst 0, 1) := by decide +kernel
theorem dL_law_9 : decode cL_law 9 = .ok (.istore_n 2, 1) := by decide +kernel
theorem dL_law_10 : decode cL_law 10 = .ok (.iload_n 2, 1) := by decide +kernel
theorem dL_law_11 : decode cL_law 11 = .ok (.iconst 3, 1) := by decide +kernel
theorem dL_law_12 : decode cL_law 12 = .ok (.if_icmp .ge 56, 3) := by decide +kernel
theorem dL_law_15 : decode cL_law 15 = .ok (.aload_n 1, 1) := by decide +kernel
theorem dL_law_16 : decode cL_law 16 = .ok (.aload_n 0, 1) := by decide +kernel
theorem dL_law_17 : decode cL_law 17 = .ok (.iload_n 2, 1) := by decide +kernel
theorem dL_law_18 : decode cL_law 18 = .ok (.invokestatic 314, 3) := by decide +kernel
theorem dL_law_21 : decode cL_law 21 = .ok (.iconst 4, 1) := by decide +kernel
theorem dL_law_22 : decode cL_law 22 = .ok (.ishr, 1) := by decide +kernel
theorem dL_law_23 : decode cL_law 23 = .ok (.bipush 7, 2) := by decide +kernel
theorem dL_law_25 : decode cL_law 25 = .ok (.iand, 1) := by decide +kernel
theorem dL_law_26 : decode cL_law 26 = .ok (.iconst 1, 1) := by decide +kernel
theorem dL_law_27 : decode cL_law 27 = .ok (.aload_n 0, 1) := by decide +kernel
theorem dL_law_28 : decode cL_law 28 = .ok (.iload_n 2, 1) := by decide +kernel
theorem dL_law_29 : decode cL_law 29 = .ok (.invokestatic 314, 3) := by decide +kernel
theorem dL_law_32 : decode cL_law 32 = .ok (.iconst 3, 1) := by decide +kernel
theorem dL_law_33 : decode cL_law 33 = .ok (.ishr, 1) := by decide +kernel
theorem dL_law_34 : decode cL_law 34 = .ok (.sipush 32767, 3) := by decide +kernel
theorem dL_law_37 : decode cL_law 37 = .ok (.iand, 1) := by decide +kernel
theorem dL_law_38 : decode cL_law 38 = .ok (.iadd, 1) := by decide +kernel
theorem dL_law_39 : decode cL_law 39 = .ok (.iconst 3, 1) := by decide +kernel
theorem dL_law_40 : decode cL_law 40 = .ok (.aload_n 0, 1) := by decide +kernel
theorem dL_law_41 : decode cL_law 41 = .ok (.iload_n 2, 1) := by decide +kernel
theorem dL_law_42 : decode cL_law 42 = .ok (.invokestatic 314, 3) := by decide +kernel
theorem dL_law_45 : decode cL_law 45 = .ok (.bipush 6, 2) := by decide +kernel
theorem dL_law_47 : decode cL_law 47 = .ok (.ishr, 1) := by decide +kernel
theorem dL_law_48 : decode cL_law 48 = .ok (.bipush 15, 2) := by decide +kernel
theorem dL_law_50 : decode cL_law 50 = .ok (.iand, 1) := by decide +kernel
theorem dL_law_51 : decode cL_law 51 = .ok (.iadd, 1) := by decide +kernel
theorem dL_law_52 : decode cL_law 52 = .ok (.invokestatic 120, 3) := by decide +kernel
theorem dL_law_55 : decode cL_law 55 = .ok (.pop, 1) := by decide +kernel
theorem dL_law_56 : decode cL_law 56 = .ok (.aload_n 1, 1) := by decide +kernel
theorem dL_law_57 : decode cL_law 57 = .ok (.iload_n 2, 1) := by decide +kernel
theorem dL_law_58 : decode cL_law 58 = .ok (.invokestatic 123, 3) := by decide +kernel
theorem dL_law_61 : decode cL_law 61 = .ok (.pop, 1) := by decide +kernel
theorem dL_law_62 : decode cL_law 62 = .ok (.iinc 2 1, 3) := by decide +kernel
theorem dL_law_65 : decode cL_law 65 = .ok (.goto (-55), 3) := by decide +kernel
theorem dL_law_68 : decode cL_law 68 = .ok (.aload_n 1, 1) := by decide +kernel
theorem dL_law_69 : decode cL_law 69 = .ok (.iconst 1, 1) := by decide +kernel
theorem dL_law_70 : decode cL_law 70 = .ok (.aload_n 0, 1) := by decide +kernel
theorem dL_law_71 : decode cL_law 71 = .ok (.iconst 1, 1) := by decide +kernel
theorem dL_law_72 : decode cL_law 72 = .ok (.invokestatic 314, 3) := by decide +kernel
theorem dL_law_75 : decode cL_law 75 = .ok (.iconst 5, 1) := by decide +kernel
theorem dL_law_76 : decode cL_law 76 = .ok (.ishr, 1) := by decide +kernel
theorem dL_law_77 : decode cL_law 77 = .ok (.bipush 7, 2) := by decide +kernel
theorem dL_law_79 : decode cL_law 79 = .ok (.iand, 1) := by decide +kernel
theorem dL_law_80 : decode cL_law 80 = .ok (.iadd, 1) := by decide +kernel
theorem dL_law_81 : decode cL_law 81 = .ok (.invokestatic 131, 3) := by decide +kernel
theorem dL_law_84 : decode cL_law 84 = .ok (.pop, 1) := by decide +kernel
theorem dL_law_85 : decode cL_law 85 = .ok (.aload_n 0, 1) := by decide +kernel
theorem dL_law_86 : decode cL_law 86 = .ok (.arraylength, 1) := by decide +kernel
theorem dL_law_87 : decode cL_law 87 = .ok (.bipush 36, 2) := by decide +kernel
theorem dL_law_89 : decode cL_law 89 = .ok (.if_icmp .ge 8, 3) := by decide +kernel
theorem dL_law_92 : decode cL_law 92 = .ok (.aload_n 0, 1) := by decide +kernel
theorem dL_law_93 : decode cL_law 93 = .ok (.arraylength, 1) := by decide +kernel
theorem dL_law_94 : decode cL_law 94 = .ok (.goto 5, 3) := by decide +kernel
theorem dL_law_97 : decode cL_law 97 = .ok (.bipush 36, 2) := by decide +kernel
theorem dL_law_99 : decode cL_law 99 = .ok (.istore_n 2, 1) := by decide +kernel
theorem dL_law_100 : decode cL_law 100 = .ok (.iconst 0, 1) := by decide +kernel
theorem dL_law_101 : decode cL_law 101 = .ok (.istore_n 3, 1) := by decide +kernel
theorem dL_law_102 : decode cL_law 102 = .ok (.iload_n 3, 1) := by decide +kernel
theorem dL_law_103 : decode cL_law 103 = .ok (.iload_n 2, 1) := by decide +kernel
theorem dL_law_104 : decode cL_law 104 = .ok (.if_icmp .ge 41, 3) := by decide +kernel
theorem dL_law_107 : decode cL_law 107 = .ok (.aload_n 1, 1) := by decide +kernel
theorem dL_law_108 : decode cL_law 108 = .ok (.invokestatic 283, 3) := by decide +kernel
theorem dL_law_111 : decode cL_law 111 = .ok (.lstore 4, 2) := by decide +kernel
theorem dL_law_113 : decode cL_law 113 = .ok (.aload_n 1, 1) := by decide +kernel
theorem dL_law_114 : decode cL_law 114 = .ok (.aload_n 0, 1) := by decide +kernel
theorem dL_law_115 : decode cL_law 115 = .ok (.iload_n 3, 1) := by decide +kernel
theorem dL_law_116 : decode cL_law 116 = .ok (.invokestatic 314, 3) := by decide +kernel
theorem dL_law_119 : decode cL_law 119 = .ok (.invokestatic 318, 3) := by decide +kernel
theorem dL_law_122 : decode cL_law 122 = .ok (.ldc 10, 2) := by decide +kernel
theorem dL_law_124 : decode cL_law 124 = .ok (.if_icmp .ne 15, 3) := by decide +kernel
theorem dL_law_127 : decode cL_law 127 = .ok (.aload_n 1, 1) := by decide +kernel
theorem dL_law_128 : decode cL_law 128 = .ok (.invokestatic 283, 3) := by decide +kernel
theorem dL_law_131 : decode cL_law 131 = .ok (.lload 4, 2) := by decide +kernel
theorem dL_law_133 : decode cL_law 133 = .ok (.lcmp, 1) := by decide +kernel
theorem dL_law_134 : decode cL_law 134 = .ok (.ifCond .eq 5, 3) := by decide +kernel
theorem dL_law_137 : decode cL_law 137 = .ok (.iconst 0, 1) := by decide +kernel
theorem dL_law_138 : decode cL_law 138 = .ok (.ireturn, 1) := by decide +kernel
theorem dL_law_139 : decode cL_law 139 = .ok (.iinc 3 1, 3) := by decide +kernel
theorem dL_law_142 : decode cL_law 142 = .ok (.goto (-40), 3) := by decide +kernel
theorem dL_law_145 : decode cL_law 145 = .ok (.aload_n 1, 1) := by decide +kernel
theorem dL_law_146 : decode cL_law 146 = .ok (.invokestatic 321, 3) := by decide +kernel
theorem dL_law_149 : decode cL_law 149 = .ok (.istore_n 3, 1) := by decide +kernel
theorem dL_law_150 : decode cL_law 150 = .ok (.aload_n 1, 1) := by decide +kernel
theorem dL_law_151 : decode cL_law 151 = .ok (.invokestatic 154, 3) := by decide +kernel
theorem dL_law_154 : decode cL_law 154 = .ok (.pop, 1) := by decide +kernel
theorem dL_law_155 : decode cL_law 155 = .ok (.aload_n 1, 1) := by decide +kernel
theorem dL_law_156 : decode cL_law 156 = .ok (.invokestatic 283, 3) := by decide +kernel
theorem dL_law_159 : decode cL_law 159 = .ok (.lstore 4, 2) := by decide +kernel
theorem dL_law_161 : decode cL_law 161 = .ok (.aload_n 1, 1) := by decide +kernel
theorem dL_law_162 : decode cL_law 162 = .ok (.invokevirtual 157, 3) := by decide +kernel
theorem dL_law_165 : decode cL_law 165 = .ok (.istore 6, 2) := by decide +kernel
theorem dL_law_167 : decode cL_law 167 = .ok (.iconst 0, 1) := by decide +kernel
theorem dL_law_168 : decode cL_law 168 = .ok (.istore 7, 2) := by decide +kernel
theorem dL_law_170 : decode cL_law 170 = .ok (.iload_n 3, 1) := by decide +kernel
theorem dL_law_171 : decode cL_law 171 = .ok (.ifCond .eq 89, 3) := by decide +kernel
theorem dL_law_174 : decode cL_law 174 = .ok (.iload 7, 2) := by decide +kernel
theorem dL_law_176 : decode cL_law 176 = .ok (.getstatic 146, 3) := by decide +kernel
theorem dL_law_179 : decode cL_law 179 = .ok (.arraylength, 1) := by decide +kernel
theorem dL_law_180 : decode cL_law 180 = .ok (.if_icmp .ge 80, 3) := by decide +kernel
theorem dL_law_183 : decode cL_law 183 = .ok (.aload_n 1, 1) := by decide +kernel
theorem dL_law_184 : decode cL_law 184 = .ok (.getstatic 146, 3) := by decide +kernel
theorem dL_law_187 : decode cL_law 187 = .ok (.iload 7, 2) := by decide +kernel
theorem dL_law_189 : decode cL_law 189 = .ok (.aaload, 1) := by decide +kernel
theorem dL_law_190 : decode cL_law 190 = .ok (.invokestatic 150, 3) := by decide +kernel
theorem dL_law_193 : decode cL_law 193 = .ok (.invokestatic 154, 3) := by decide +kernel
theorem dL_law_196 : decode cL_law 196 = .ok (.istore 8, 2) := by decide +kernel
theorem dL_law_198 : decode cL_law 198 = .ok (.iload 8, 2) := by decide +kernel
theorem dL_law_200 : decode cL_law 200 = .ok (.ldc 10, 2) := by decide +kernel
theorem dL_law_202 : decode cL_law 202 = .ok (.if_icmp .ne 22, 3) := by decide +kernel
theorem dL_law_205 : decode cL_law 205 = .ok (.aload_n 1, 1) := by decide +kernel
theorem dL_law_206 : decode cL_law 206 = .ok (.invokestatic 324, 3) := by decide +kernel
theorem dL_law_209 : decode cL_law 209 = .ok (.bipush 7, 2) := by decide +kernel
theorem dL_law_211 : decode cL_law 211 = .ok (.if_icmp .ne 41, 3) := by decide +kernel
theorem dL_law_214 : decode cL_law 214 = .ok (.aload_n 1, 1) := by decide +kernel
theorem dL_law_215 : decode cL_law 215 = .ok (.invokestatic 326, 3) := by decide +kernel
theorem dL_law_218 : decode cL_law 218 = .ok (.ifCond .le 34, 3) := by decide +kernel
theorem dL_law_221 : decode cL_law 221 = .ok (.goto 17, 3) := by decide +kernel
theorem dL_law_224 : decode cL_law 224 = .ok (.aload_n 1, 1) := by decide +kernel
theorem dL_law_225 : decode cL_law 225 = .ok (.invokestatic 290, 3) := by decide +kernel
theorem dL_law_228 : decode cL_law 228 = .ok (.ifCond .eq 24, 3) := by decide +kernel
theorem dL_law_231 : decode cL_law 231 = .ok (.aload_n 1, 1) := by decide +kernel
theorem dL_law_232 : decode cL_law 232 = .ok (.invokestatic 163, 3) := by decide +kernel
theorem dL_law_235 : decode cL_law 235 = .ok (.ifCond .lt 17, 3) := by decide +kernel
theorem dL_law_238 : decode cL_law 238 = .ok (.aload_n 1, 1) := by decide +kernel
theorem dL_law_239 : decode cL_law 239 = .ok (.invokestatic 283, 3) := by decide +kernel
theorem dL_law_242 : decode cL_law 242 = .ok (.lload 4, 2) := by decide +kernel
theorem dL_law_244 : decode cL_law 244 = .ok (.lcmp, 1) := by decide +kernel
theorem dL_law_245 : decode cL_law 245 = .ok (.ifCond .ne 7, 3) := by decide +kernel
theorem dL_law_248 : decode cL_law 248 = .ok (.iconst 1, 1) := by decide +kernel
theorem dL_law_249 : decode cL_law 249 = .ok (.goto 4, 3) := by decide +kernel
theorem dL_law_252 : decode cL_law 252 = .ok (.iconst 0, 1) := by decide +kernel
theorem dL_law_253 : decode cL_law 253 = .ok (.istore_n 3, 1) := by decide +kernel
theorem dL_law_254 : decode cL_law 254 = .ok (.iinc 7 1, 3) := by decide +kernel
theorem dL_law_257 : decode cL_law 257 = .ok (.goto (-87), 3) := by decide +kernel
theorem dL_law_260 : decode cL_law 260 = .ok (.iconst 0, 1) := by decide +kernel
theorem dL_law_261 : decode cL_law 261 = .ok (.istore 7, 2) := by decide +kernel
theorem dL_law_263 : decode cL_law 263 = .ok (.iload_n 3, 1) := by decide +kernel
theorem dL_law_264 : decode cL_law 264 = .ok (.ifCond .eq 63, 3) := by decide +kernel
theorem dL_law_267 : decode cL_law 267 = .ok (.iload 7, 2) := by decide +kernel
theorem dL_law_269 : decode cL_law 269 = .ok (.iconst 2, 1) := by decide +kernel
theorem dL_law_270 : decode cL_law 270 = .ok (.if_icmp .ge 57, 3) := by decide +kernel
theorem dL_law_273 : decode cL_law 273 = .ok (.aload_n 1, 1) := by decide +kernel
theorem dL_law_274 : decode cL_law 274 = .ok (.iload 7, 2) := by decide +kernel
theorem dL_law_276 : decode cL_law 276 = .ok (.bipush 20, 2) := by decide +kernel
theorem dL_law_278 : decode cL_law 278 = .ok (.invokestatic 128, 3) := by decide +kernel
theorem dL_law_281 : decode cL_law 281 = .ok (.pop, 1) := by decide +kernel
theorem dL_law_282 : decode cL_law 282 = .ok (.aload_n 1, 1) := by decide +kernel
theorem dL_law_283 : decode cL_law 283 = .ok (.iload 7, 2) := by decide +kernel
theorem dL_law_285 : decode cL_law 285 = .ok (.invokestatic 123, 3) := by decide +kernel
theorem dL_law_288 : decode cL_law 288 = .ok (.pop, 1) := by decide +kernel
theorem dL_law_289 : decode cL_law 289 = .ok (.aload_n 1, 1) := by decide +kernel
theorem dL_law_290 : decode cL_law 290 = .ok (.bipush 6, 2) := by decide +kernel
theorem dL_law_292 : decode cL_law 292 = .ok (.iload 7, 2) := by decide +kernel
theorem dL_law_294 : decode cL_law 294 = .ok (.isub, 1) := by decide +kernel
theorem dL_law_295 : decode cL_law 295 = .ok (.invokestatic 131, 3) := by decide +kernel
theorem dL_law_298 : decode cL_law 298 = .ok (.pop, 1) := by decide +kernel
theorem dL_law_299 : decode cL_law 299 = .ok (.aload_n 1, 1) := by decide +kernel
theorem dL_law_300 : decode cL_law 300 = .ok (.iconst 2, 1) := by decide +kernel
theorem dL_law_301 : decode cL_law 301 = .ok (.iload 7, 2) := by decide +kernel
theorem dL_law_303 : decode cL_law 303 = .ok (.imul, 1) := by decide +kernel
theorem dL_law_304 : decode cL_law 304 = .ok (.iconst 3, 1) := by decide +kernel
theorem dL_law_305 : decode cL_law 305 = .ok (.invokestatic 137, 3) := by decide +kernel
theorem dL_law_308 : decode cL_law 308 = .ok (.pop, 1) := by decide +kernel
theorem dL_law_309 : decode cL_law 309 = .ok (.aload_n 1, 1) := by decide +kernel
theorem dL_law_310 : decode cL_law 310 = .ok (.iconst 2, 1) := by decide +kernel
theorem dL_law_311 : decode cL_law 311 = .ok (.iconst 1, 1) := by decide +kernel
theorem dL_law_312 : decode cL_law 312 = .ok (.invokestatic 135, 3) := by decide +kernel
theorem dL_law_315 : decode cL_law 315 = .ok (.pop, 1) := by decide +kernel
theorem dL_law_316 : decode cL_law 316 = .ok (.aload_n 1, 1) := by decide +kernel
theorem dL_law_317 : decode cL_law 317 = .ok (.invokestatic 321, 3) := by decide +kernel
theorem dL_law_320 : decode cL_law 320 = .ok (.istore_n 3, 1) := by decide +kernel
theorem dL_law_321 : decode cL_law 321 = .ok (.iinc 7 1, 3) := by decide +kernel
theorem dL_law_324 : decode cL_law 324 = .ok (.goto (-61), 3) := by decide +kernel
theorem dL_law_327 : decode cL_law 327 = .ok (.iload_n 3, 1) := by decide +kernel
theorem dL_law_328 : decode cL_law 328 = .ok (.ifCond .eq 42, 3) := by decide +kernel
theorem dL_law_331 : decode cL_law 331 = .ok (.aload_n 1, 1) := by decide +kernel
theorem dL_law_332 : decode cL_law 332 = .ok (.invokestatic 160, 3) := by decide +kernel
theorem dL_law_335 : decode cL_law 335 = .ok (.iload 6, 2) := by decide +kernel
theorem dL_law_337 : decode cL_law 337 = .ok (.if_icmp .ne 33, 3) := by decide +kernel
theorem dL_law_340 : decode cL_law 340 = .ok (.aload_n 1, 1) := by decide +kernel
theorem dL_law_341 : decode cL_law 341 = .ok (.invokestatic 283, 3) := by decide +kernel
theorem dL_law_344 : decode cL_law 344 = .ok (.lload 4, 2) := by decide +kernel
theorem dL_law_346 : decode cL_law 346 = .ok (.lcmp, 1) := by decide +kernel
theorem dL_law_347 : decode cL_law 347 = .ok (.ifCond .ne 23, 3) := by decide +kernel
theorem dL_law_350 : decode cL_law 350 = .ok (.aload_n 1, 1) := by decide +kernel
theorem dL_law_351 : decode cL_law 351 = .ok (.invokestatic 163, 3) := by decide +kernel
theorem dL_law_354 : decode cL_law 354 = .ok (.ldc 10, 2) := by decide +kernel
theorem dL_law_356 : decode cL_law 356 = .ok (.if_icmp .ne 14, 3) := by decide +kernel
theorem dL_law_359 : decode cL_law 359 = .ok (.aload_n 1, 1) := by decide +kernel
theorem dL_law_360 : decode cL_law 360 = .ok (.invokevirtual 328, 3) := by decide +kernel
theorem dL_law_363 : decode cL_law 363 = .ok (.ifCond .ne 7, 3) := by decide +kernel
theorem dL_law_366 : decode cL_law 366 = .ok (.iconst 1, 1) := by decide +kernel
theorem dL_law_367 : decode cL_law 367 = .ok (.goto 4, 3) := by decide +kernel
theorem dL_law_370 : decode cL_law 370 = .ok (.iconst 0, 1) := by decide +kernel
theorem dL_law_371 : decode cL_law 371 = .ok (.ireturn, 1) := by decide +kernel
theorem dJx00060_init_a7421_0 : decode cJx00060_init_a7421 0 = .ok (.aload_n 0, 1) := by decide +kernel
theorem dJx00060_init_a7421_1 : decode cJx00060_init_a7421 1 = .ok (.aload_n 1, 1) := by decide +kernel
theorem dJx00060_init_a7421_2 : decode cJx00060_init_a7421 2 = .ok (.invokespecial 7, 3) := by decide +kernel
theorem dJx00060_init_a7421_5 : decode cJx00060_init_a7421 5 = .ok (.return_, 1) := by decide +kernel
theorem dJx29ce0_ordinal_8abf5_0 : decode cJx29ce0_ordinal_8abf5 0 = .ok (.aload_n 0, 1) := by decide +kernel
theorem dJx29ce0_ordinal_8abf5_1 : decode cJx29ce0_ordinal_8abf5 1 = .ok (.getfield 7, 3) := by decide +kernel
theorem dJx29ce0_ordinal_8abf5_4 : decode cJx29ce0_ordinal_8abf5 4 = .ok (.ireturn, 1) := by decide +kernel
theorem dJ6_bitCount_0f7a4_0 : decode cJ6_bitCount_0f7a4 0 = .ok (.iload_n 0, 1) := by decide +kernel
theorem dJ6_bitCount_0f7a4_1 : decode cJ6_bitCount_0f7a4 1 = .ok (.iload_n 0, 1) := by decide +kernel
theorem dJ6_bitCount_0f7a4_2 : decode cJ6_bitCount_0f7a4 2 = .ok (.iconst 1, 1) := by decide +kernel
theorem dJ6_bitCount_0f7a4_3 : decode cJ6_bitCount_0f7a4 3 = .ok (.iushr, 1) := by decide +kernel
theorem dJ6_bitCount_0f7a4_4 : decode cJ6_bitCount_0f7a4 4 = .ok (.ldc_w 265, 3) := by decide +kernel
theorem dJ6_bitCount_0f7a4_7 : decode cJ6_bitCount_0f7a4 7 = .ok (.iand, 1) := by decide +kernel
theorem dJ6_bitCount_0f7a4_8 : decode cJ6_bitCount_0f7a4 8 = .ok (.isub, 1) := by decide +kernel
theorem dJ6_bitCount_0f7a4_9 : decode cJ6_bitCount_0f7a4 9 = .ok (.istore_n 0, 1) := by decide +kernel
theorem dJ6_bitCount_0f7a4_10 : decode cJ6_bitCount_0f7a4 10 = .ok (.iload_n 0, 1) := by decide +kernel
theorem dJ6_bitCount_0f7a4_11 : decode cJ6_bitCount_0f7a4 11 = .ok (.ldc_w 266, 3) := by decide +kernel
theorem dJ6_bitCount_0f7a4_14 : decode cJ6_bitCount_0f7a4 14 = .ok (.iand, 1) := by decide +kernel
theorem dJ6_bitCount_0f7a4_15 : decode cJ6_bitCount_0f7a4 15 = .ok (.iload_n 0, 1) := by decide +kernel
theorem dJ6_bitCount_0f7a4_16 : decode cJ6_bitCount_0f7a4 16 = .ok (.iconst 2, 1) := by decide +kernel
theorem dJ6_bitCount_0f7a4_17 : decode cJ6_bitCount_0f7a4 17 = .ok (.iushr, 1) := by decide +kernel
theorem dJ6_bitCount_0f7a4_18 : decode cJ6_bitCount_0f7a4 18 = .ok (.ldc_w 266, 3) := by decide +kernel
theorem dJ6_bitCount_0f7a4_21 : decode cJ6_bitCount_0f7a4 21 = .ok (.iand, 1) := by decide +kernel
theorem dJ6_bitCount_0f7a4_22 : decode cJ6_bitCount_0f7a4 22 = .ok (.iadd, 1) := by decide +kernel
theorem dJ6_bitCount_0f7a4_23 : decode cJ6_bitCount_0f7a4 23 = .ok (.istore_n 0, 1) := by decide +kernel
theorem dJ6_bitCount_0f7a4_24 : decode cJ6_bitCount_0f7a4 24 = .ok (.iload_n 0, 1) := by decide +kernel
theorem dJ6_bitCount_0f7a4_25 : decode cJ6_bitCount_0f7a4 25 = .ok (.iload_n 0, 1) := by decide +kernel
theorem dJ6_bitCount_0f7a4_26 : decode cJ6_bitCount_0f7a4 26 = .ok (.iconst 4, 1) := by decide +kernel
theorem dJ6_bitCount_0f7a4_27 : decode cJ6_bitCount_0f7a4 27 = .ok (.iushr, 1) := by decide +kernel
theorem dJ6_bitCount_0f7a4_28 : decode cJ6_bitCount_0f7a4 28 = .ok (.iadd, 1) := by decide +kernel
theorem dJ6_bitCount_0f7a4_29 : decode cJ6_bitCount_0f7a4 29 = .ok (.ldc_w 267, 3) := by decide +kernel
theorem dJ6_bitCount_0f7a4_32 : decode cJ6_bitCount_0f7a4 32 = .ok (.iand, 1) := by decide +kernel
theorem dJ6_bitCount_0f7a4_33 : decode cJ6_bitCount_0f7a4 33 = .ok (.istore_n 0, 1) := by decide +kernel
theorem dJ6_bitCount_0f7a4_34 : decode cJ6_bitCount_0f7a4 34 = .ok (.iload_n 0, 1) := by decide +kernel
theorem dJ6_bitCount_0f7a4_35 : decode cJ6_bitCount_0f7a4 35 = .ok (.iload_n 0, 1) := by decide +kernel
theorem dJ6_bitCount_0f7a4_36 : decode cJ6_bitCount_0f7a4 36 = .ok (.bipush 8, 2) := by decide +kernel
theorem dJ6_bitCount_0f7a4_38 : decode cJ6_bitCount_0f7a4 38 = .ok (.iushr, 1) := by decide +kernel
theorem dJ6_bitCount_0f7a4_39 : decode cJ6_bitCount_0f7a4 39 = .ok (.iadd, 1) := by decide +kernel
theorem dJ6_bitCount_0f7a4_40 : decode cJ6_bitCount_0f7a4 40 = .ok (.istore_n 0, 1) := by decide +kernel
theorem dJ6_bitCount_0f7a4_41 : decode cJ6_bitCount_0f7a4 41 = .ok (.iload_n 0, 1) := by decide +kernel
theorem dJ6_bitCount_0f7a4_42 : decode cJ6_bitCount_0f7a4 42 = .ok (.iload_n 0, 1) := by decide +kernel
theorem dJ6_bitCount_0f7a4_43 : decode cJ6_bitCount_0f7a4 43 = .ok (.bipush 16, 2) := by decide +kernel
theorem dJ6_bitCount_0f7a4_45 : decode cJ6_bitCount_0f7a4 45 = .ok (.iushr, 1) := by decide +kernel
theorem dJ6_bitCount_0f7a4_46 : decode cJ6_bitCount_0f7a4 46 = .ok (.iadd, 1) := by decide +kernel
theorem dJ6_bitCount_0f7a4_47 : decode cJ6_bitCount_0f7a4 47 = .ok (.istore_n 0, 1) := by decide +kernel
theorem dJ6_bitCount_0f7a4_48 : decode cJ6_bitCount_0f7a4 48 = .ok (.iload_n 0, 1) := by decide +kernel
theorem dJ6_bitCount_0f7a4_49 : decode cJ6_bitCount_0f7a4 49 = .ok (.bipush 63, 2) := by decide +kernel
theorem dJ6_bitCount_0f7a4_51 : decode cJ6_bitCount_0f7a4 51 = .ok (.iand, 1) := by decide +kernel
theorem dJ6_bitCount_0f7a4_52 : decode cJ6_bitCount_0f7a4 52 = .ok (.ireturn, 1) := by decide +kernel
theorem dJ9_max_7cf53_0 : decode cJ9_max_7cf53 0 = .ok (.iload_n 0, 1) := by decide +kernel
theorem dJ9_max_7cf53_1 : decode cJ9_max_7cf53 1 = .ok (.iload_n 1, 1) := by decide +kernel
theorem dJ9_max_7cf53_2 : decode cJ9_max_7cf53 2 = .ok (.if_icmp .lt 7, 3) := by decide +kernel
theorem dJ9_max_7cf53_5 : decode cJ9_max_7cf53 5 = .ok (.iload_n 0, 1) := by decide +kernel
theorem dJ9_max_7cf53_6 : decode cJ9_max_7cf53 6 = .ok (.goto 4, 3) := by decide +kernel
theorem dJ9_max_7cf53_9 : decode cJ9_max_7cf53 9 = .ok (.iload_n 1, 1) := by decide +kernel
theorem dJ9_max_7cf53_10 : decode cJ9_max_7cf53 10 = .ok (.ireturn, 1) := by decide +kernel
theorem dJ9_min_7cf53_0 : decode cJ9_min_7cf53 0 = .ok (.iload_n 0, 1) := by decide +kernel
theorem dJ9_min_7cf53_1 : decode cJ9_min_7cf53 1 = .ok (.iload_n 1, 1) := by decide +kernel
theorem dJ9_min_7cf53_2 : decode cJ9_min_7cf53 2 = .ok (.if_icmp .gt 7, 3) := by decide +kernel
theorem dJ9_min_7cf53_5 : decode cJ9_min_7cf53 5 = .ok (.iload_n 0, 1) := by decide +kernel
theorem dJ9_min_7cf53_6 : decode cJ9_min_7cf53 6 = .ok (.goto 4, 3) := by decide +kernel
theorem dJ9_min_7cf53_9 : decode cJ9_min_7cf53 9 = .ok (.iload_n 1, 1) := by decide +kernel
theorem dJ9_min_7cf53_10 : decode cJ9_min_7cf53 10 = .ok (.ireturn, 1) := by decide +kernel
theorem dJ0_length_8abf5_0 : decode cJ0_length_8abf5 0 = .ok (.aload_n 0, 1) := by decide +kernel
theorem dJ0_length_8abf5_1 : decode cJ0_length_8abf5 1 = .ok (.getfield 9, 3) := by decide +kernel
theorem dJ0_length_8abf5_4 : decode cJ0_length_8abf5 4 = .ok (.arraylength, 1) := by decide +kernel
theorem dJ0_length_8abf5_5 : decode cJ0_length_8abf5 5 = .ok (.aload_n 0, 1) := by decide +kernel
theorem dJ0_length_8abf5_6 : decode cJ0_length_8abf5 6 = .ok (.invokevirtual 335, 3) := by decide +kernel
theorem dJ0_length_8abf5_9 : decode cJ0_length_8abf5 9 = .ok (.ishr, 1) := by decide +kernel
theorem dJ0_length_8abf5_10 : decode cJ0_length_8abf5 10 = .ok (.ireturn, 1) := by decide +kernel
theorem dJ0_charAt_5068e_0 : decode cJ0_charAt_5068e 0 = .ok (.aload_n 0, 1) := by decide +kernel
theorem dJ0_charAt_5068e_1 : decode cJ0_charAt_5068e 1 = .ok (.invokevirtual 492, 3) := by decide +kernel
theorem dJ0_charAt_5068e_4 : decode cJ0_charAt_5068e 4 = .ok (.ifCond .eq 12, 3) := by decide +kernel
theorem dJ0_charAt_5068e_7 : decode cJ0_charAt_5068e 7 = .ok (.aload_n 0, 1) := by decide +kernel
theorem dJ0_charAt_5068e_8 : decode cJ0_charAt_5068e 8 = .ok (.getfield 9, 3) := by decide +kernel
theorem dJ0_charAt_5068e_11 : decode cJ0_charAt_5068e 11 = .ok (.iload_n 1, 1) := by decide +kernel
theorem dJ0_charAt_5068e_12 : decode cJ0_charAt_5068e 12 = .ok (.invokestatic 495, 3) := by decide +kernel
theorem dJ0_charAt_5068e_15 : decode cJ0_charAt_5068e 15 = .ok (.ireturn, 1) := by decide +kernel
theorem dJ0_charAt_5068e_16 : decode cJ0_charAt_5068e 16 = .ok (.aload_n 0, 1) := by decide +kernel
theorem dJ0_charAt_5068e_17 : decode cJ0_charAt_5068e 17 = .ok (.getfield 9, 3) := by decide +kernel
theorem dJ0_charAt_5068e_20 : decode cJ0_charAt_5068e 20 = .ok (.iload_n 1, 1) := by decide +kernel
theorem dJ0_charAt_5068e_21 : decode cJ0_charAt_5068e 21 = .ok (.invokestatic 498, 3) := by decide +kernel
theorem dJ0_charAt_5068e_24 : decode cJ0_charAt_5068e 24 = .ok (.ireturn, 1) := by decide +kernel
theorem dJ0_coder_7d493_0 : decode cJ0_coder_7d493 0 = .ok (.getstatic 38, 3) := by decide +kernel
theorem dJ0_coder_7d493_3 : decode cJ0_coder_7d493 3 = .ok (.ifCond .eq 10, 3) := by decide +kernel
theorem dJ0_coder_7d493_6 : decode cJ0_coder_7d493 6 = .ok (.aload_n 0, 1) := by decide +kernel
theorem dJ0_coder_7d493_7 : decode cJ0_coder_7d493 7 = .ok (.getfield 15, 3) := by decide +kernel
theorem dJ0_coder_7d493_10 : decode cJ0_coder_7d493 10 = .ok (.goto 4, 3) := by decide +kernel
theorem dJ0_coder_7d493_13 : decode cJ0_coder_7d493 13 = .ok (.iconst 1, 1) := by decide +kernel
theorem dJ0_coder_7d493_14 : decode cJ0_coder_7d493 14 = .ok (.ireturn, 1) := by decide +kernel
theorem dJ0_isLatin1_aae02_0 : decode cJ0_isLatin1_aae02 0 = .ok (.getstatic 38, 3) := by decide +kernel
theorem dJ0_isLatin1_aae02_3 : decode cJ0_isLatin1_aae02 3 = .ok (.ifCond .eq 14, 3) := by decide +kernel
theorem dJ0_isLatin1_aae02_6 : decode cJ0_isLatin1_aae02 6 = .ok (.aload_n 0, 1) := by decide +kernel
theorem dJ0_isLatin1_aae02_7 : decode cJ0_isLatin1_aae02 7 = .ok (.getfield 15, 3) := by decide +kernel
theorem dJ0_isLatin1_aae02_10 : decode cJ0_isLatin1_aae02 10 = .ok (.ifCond .ne 7, 3) := by decide +kernel
theorem dJ0_isLatin1_aae02_13 : decode cJ0_isLatin1_aae02 13 = .ok (.iconst 1, 1) := by decide +kernel
theorem dJ0_isLatin1_aae02_14 : decode cJ0_isLatin1_aae02 14 = .ok (.goto 4, 3) := by decide +kernel
theorem dJ0_isLatin1_aae02_17 : decode cJ0_isLatin1_aae02 17 = .ok (.iconst 0, 1) := by decide +kernel
theorem dJ0_isLatin1_aae02_18 : decode cJ0_isLatin1_aae02 18 = .ok (.ireturn, 1) := by decide +kernel
theorem dJ0_checkIndex_df160_0 : decode cJ0_checkIndex_df160 0 = .ok (.iload_n 0, 1) := by decide +kernel
theorem dJ0_checkIndex_df160_1 : decode cJ0_checkIndex_df160 1 = .ok (.iload_n 1, 1) := by decide +kernel
theorem dJ0_checkIndex_df160_2 : decode cJ0_checkIndex_df160 2 = .ok (.getstatic 1053, 3) := by decide +kernel
theorem dJ0_checkIndex_df160_5 : decode cJ0_checkIndex_df160 5 = .ok (.invokestatic 1059, 3) := by decide +kernel
theorem dJ0_checkIndex_df160_8 : decode cJ0_checkIndex_df160 8 = .ok (.pop, 1) := by decide +kernel
theorem dJ0_checkIndex_df160_9 : decode cJ0_checkIndex_df160 9 = .ok (.return_, 1) := by decide +kernel
theorem dJ1_charAt_3b067_0 : decode cJ1_charAt_3b067 0 = .ok (.iload_n 1, 1) := by decide +kernel
theorem dJ1_charAt_3b067_1 : decode cJ1_charAt_3b067 1 = .ok (.aload_n 0, 1) := by decide +kernel
theorem dJ1_charAt_3b067_2 : decode cJ1_charAt_3b067 2 = .ok (.arraylength, 1) := by decide +kernel
theorem dJ1_charAt_3b067_3 : decode cJ1_charAt_3b067 3 = .ok (.invokestatic 9, 3) := by decide +kernel
theorem dJ1_charAt_3b067_6 : decode cJ1_charAt_3b067 6 = .ok (.aload_n 0, 1) := by decide +kernel
theorem dJ1_charAt_3b067_7 : decode cJ1_charAt_3b067 7 = .ok (.iload_n 1, 1) := by decide +kernel
theorem dJ1_charAt_3b067_8 : decode cJ1_charAt_3b067 8 = .ok (.baload, 1) := by decide +kernel
theorem dJ1_charAt_3b067_9 : decode cJ1_charAt_3b067 9 = .ok (.sipush 255, 3) := by decide +kernel
theorem dJ1_charAt_3b067_12 : decode cJ1_charAt_3b067 12 = .ok (.iand, 1) := by decide +kernel
theorem dJ1_charAt_3b067_13 : decode cJ1_charAt_3b067 13 = .ok (.i2c, 1) := by decide +kernel
theorem dJ1_charAt_3b067_14 : decode cJ1_charAt_3b067 14 = .ok (.ireturn, 1) := by decide +kernel
theorem dJ2_getChar_3b067_0 : decode cJ2_getChar_3b067 0 = .ok (.getstatic 44, 3) := by decide +kernel
theorem dJ2_getChar_3b067_3 : decode cJ2_getChar_3b067 3 = .ok (.ifCond .ne 25, 3) := by decide +kernel
theorem dJ2_getChar_3b067_6 : decode cJ2_getChar_3b067 6 = .ok (.iload_n 1, 1) := by decide +kernel
theorem dJ2_getChar_3b067_7 : decode cJ2_getChar_3b067 7 = .ok (.ifCond .lt 11, 3) := by decide +kernel
theorem dJ2_getChar_3b067_10 : decode cJ2_getChar_3b067 10 = .ok (.iload_n 1, 1) := by decide +kernel
theorem dJ2_getChar_3b067_11 : decode cJ2_getChar_3b067 11 = .ok (.aload_n 0, 1) := by decide +kernel
theorem dJ2_getChar_3b067_12 : decode cJ2_getChar_3b067 12 = .ok (.invokestatic 48, 3) := by decide +kernel
theorem dJ2_getChar_3b067_15 : decode cJ2_getChar_3b067 15 = .ok (.if_icmp .lt 13, 3) := by decide +kernel
theorem dJ2_getChar_3b067_18 : decode cJ2_getChar_3b067 18 = .ok (.new 52, 3) := by decide +kernel
theorem dJ2_getChar_3b067_21 : decode cJ2_getChar_3b067 21 = .ok (.dup, 1) := by decide +kernel
theorem dJ2_getChar_3b067_22 : decode cJ2_getChar_3b067 22 = .ok (.ldc 54, 2) := by decide +kernel
theorem dJ2_getChar_3b067_24 : decode cJ2_getChar_3b067 24 = .ok (.invokespecial 56, 3) := by decide +kernel
theorem dJ2_getChar_3b067_27 : decode cJ2_getChar_3b067 27 = .ok (.athrow, 1) := by decide +kernel
theorem dJ2_getChar_3b067_28 : decode cJ2_getChar_3b067 28 = .ok (.iload_n 1, 1) := by decide +kernel
theorem dJ2_getChar_3b067_29 : decode cJ2_getChar_3b067 29 = .ok (.iconst 1, 1) := by decide +kernel
theorem dJ2_getChar_3b067_30 : decode cJ2_getChar_3b067 30 = .ok (.ishl, 1) := by decide +kernel
theorem dJ2_getChar_3b067_31 : decode cJ2_getChar_3b067 31 = .ok (.istore_n 1, 1) := by decide +kernel
theorem dJ2_getChar_3b067_32 : decode cJ2_getChar_3b067 32 = .ok (.aload_n 0, 1) := by decide +kernel
theorem dJ2_getChar_3b067_33 : decode cJ2_getChar_3b067 33 = .ok (.iload_n 1, 1) := by decide +kernel
theorem dJ2_getChar_3b067_34 : decode cJ2_getChar_3b067 34 = .ok (.iinc 1 1, 3) := by decide +kernel
theorem dJ2_getChar_3b067_37 : decode cJ2_getChar_3b067 37 = .ok (.baload, 1) := by decide +kernel
theorem dJ2_getChar_3b067_38 : decode cJ2_getChar_3b067 38 = .ok (.sipush 255, 3) := by decide +kernel
theorem dJ2_getChar_3b067_41 : decode cJ2_getChar_3b067 41 = .ok (.iand, 1) := by decide +kernel
theorem dJ2_getChar_3b067_42 : decode cJ2_getChar_3b067 42 = .ok (.getstatic 59, 3) := by decide +kernel
theorem dJ2_getChar_3b067_45 : decode cJ2_getChar_3b067 45 = .ok (.ishl, 1) := by decide +kernel
theorem dJ2_getChar_3b067_46 : decode cJ2_getChar_3b067 46 = .ok (.aload_n 0, 1) := by decide +kernel
theorem dJ2_getChar_3b067_47 : decode cJ2_getChar_3b067 47 = .ok (.iload_n 1, 1) := by decide +kernel
theorem dJ2_getChar_3b067_48 : decode cJ2_getChar_3b067 48 = .ok (.baload, 1) := by decide +kernel
theorem dJ2_getChar_3b067_49 : decode cJ2_getChar_3b067 49 = .ok (.sipush 255, 3) := by decide +kernel
theorem dJ2_getChar_3b067_52 : decode cJ2_getChar_3b067 52 = .ok (.iand, 1) := by decide +kernel
theorem dJ2_getChar_3b067_53 : decode cJ2_getChar_3b067 53 = .ok (.getstatic 63, 3) := by decide +kernel
theorem dJ2_getChar_3b067_56 : decode cJ2_getChar_3b067 56 = .ok (.ishl, 1) := by decide +kernel
theorem dJ2_getChar_3b067_57 : decode cJ2_getChar_3b067 57 = .ok (.ior, 1) := by decide +kernel
theorem dJ2_getChar_3b067_58 : decode cJ2_getChar_3b067 58 = .ok (.i2c, 1) := by decide +kernel
theorem dJ2_getChar_3b067_59 : decode cJ2_getChar_3b067 59 = .ok (.ireturn, 1) := by decide +kernel
theorem dJ2_length_9d52b_0 : decode cJ2_length_9d52b 0 = .ok (.aload_n 0, 1) := by decide +kernel
theorem dJ2_length_9d52b_1 : decode cJ2_length_9d52b 1 = .ok (.arraylength, 1) := by decide +kernel
theorem dJ2_length_9d52b_2 : decode cJ2_length_9d52b 2 = .ok (.iconst 1, 1) := by decide +kernel
theorem dJ2_length_9d52b_3 : decode cJ2_length_9d52b 3 = .ok (.ishr, 1) := by decide +kernel
theorem dJ2_length_9d52b_4 : decode cJ2_length_9d52b 4 = .ok (.ireturn, 1) := by decide +kernel
theorem dJ2_charAt_3b067_0 : decode cJ2_charAt_3b067 0 = .ok (.iload_n 1, 1) := by decide +kernel
theorem dJ2_charAt_3b067_1 : decode cJ2_charAt_3b067 1 = .ok (.aload_n 0, 1) := by decide +kernel
theorem dJ2_charAt_3b067_2 : decode cJ2_charAt_3b067 2 = .ok (.invokestatic 67, 3) := by decide +kernel
theorem dJ2_charAt_3b067_5 : decode cJ2_charAt_3b067 5 = .ok (.aload_n 0, 1) := by decide +kernel
theorem dJ2_charAt_3b067_6 : decode cJ2_charAt_3b067 6 = .ok (.iload_n 1, 1) := by decide +kernel
theorem dJ2_charAt_3b067_7 : decode cJ2_charAt_3b067 7 = .ok (.invokestatic 71, 3) := by decide +kernel
theorem dJ2_charAt_3b067_10 : decode cJ2_charAt_3b067 10 = .ok (.ireturn, 1) := by decide +kernel
theorem dJ2_checkIndex_2214a_0 : decode cJ2_checkIndex_2214a 0 = .ok (.iload_n 0, 1) := by decide +kernel
theorem dJ2_checkIndex_2214a_1 : decode cJ2_checkIndex_2214a 1 = .ok (.aload_n 1, 1) := by decide +kernel
theorem dJ2_checkIndex_2214a_2 : decode cJ2_checkIndex_2214a 2 = .ok (.invokestatic 48, 3) := by decide +kernel
theorem dJ2_checkIndex_2214a_5 : decode cJ2_checkIndex_2214a 5 = .ok (.invokestatic 414, 3) := by decide +kernel
theorem dJ2_checkIndex_2214a_8 : decode cJ2_checkIndex_2214a 8 = .ok (.return_, 1) := by decide +kernel
theorem dJ3_checkIndex_8e157_0 : decode cJ3_checkIndex_8e157 0 = .ok (.iload_n 0, 1) := by decide +kernel
theorem dJ3_checkIndex_8e157_1 : decode cJ3_checkIndex_8e157 1 = .ok (.ifCond .lt 8, 3) := by decide +kernel
theorem dJ3_checkIndex_8e157_4 : decode cJ3_checkIndex_8e157 4 = .ok (.iload_n 0, 1) := by decide +kernel
theorem dJ3_checkIndex_8e157_5 : decode cJ3_checkIndex_8e157 5 = .ok (.iload_n 1, 1) := by decide +kernel
theorem dJ3_checkIndex_8e157_6 : decode cJ3_checkIndex_8e157 6 = .ok (.if_icmp .lt 10, 3) := by decide +kernel
theorem dJ3_checkIndex_8e157_9 : decode cJ3_checkIndex_8e157 9 = .ok (.aload_n 2, 1) := by decide +kernel
theorem dJ3_checkIndex_8e157_10 : decode cJ3_checkIndex_8e157 10 = .ok (.iload_n 0, 1) := by decide +kernel
theorem dJ3_checkIndex_8e157_11 : decode cJ3_checkIndex_8e157 11 = .ok (.iload_n 1, 1) := by decide +kernel
theorem dJ3_checkIndex_8e157_12 : decode cJ3_checkIndex_8e157 12 = .ok (.invokestatic 95, 3) := by decide +kernel
theorem dJ3_checkIndex_8e157_15 : decode cJ3_checkIndex_8e157 15 = .ok (.athrow, 1) := by decide +kernel
theorem dJ3_checkIndex_8e157_16 : decode cJ3_checkIndex_8e157 16 = .ok (.iload_n 0, 1) := by decide +kernel
theorem dJ3_checkIndex_8e157_17 : decode cJ3_checkIndex_8e157 17 = .ok (.ireturn, 1) := by decide +kernel
end
section
/-! THE WORDS: one list for every method: the tables' words, the good ones -/
def GW : List Cond := lw_tbl.filter goodWord
theorem gw (i : Nat) {w : Cond} (h : lw_tbl[i]? = some w) (hg : goodWord w = true) : w ∈ GW := List.mem_filter.mpr ⟨List.mem_of_getElem? h, hg⟩
theorem gws (ws : List Cond) (ps : List Nat) (hp : ws = ps.filterMap (fun i => lw_tbl[i]?)) (h : ws.all goodWord = true) : ∀ w ∈ ws, w ∈ GW := by
  intro w hw
  have h1 := List.all_eq_true.mp h w hw
  rw [hp] at hw
  obtain ⟨i, -, hi⟩ := List.mem_filterMap.mp hw
  exact gw i hi h1
theorem gIn {c2 : Cond} (h : c2 ∈ GW) : GoodIn GW (c2 :: GW) := fun w hw => by
  have hw2 : w ∈ GW := by
    rcases List.mem_cons.mp hw with e | e
    · rw [e]; exact h
    · exact e
  exact ⟨hw2, good_of_word (List.mem_filter.mp hw2).2⟩
theorem gTbl : ∀ w ∈ GW, w ∈ lw_tbl := fun w h => (List.mem_filter.mp h).1
theorem k0 : (Cond.initialized "CandleLoomLaw") ∈ GW := gw 31 (by decide +kernel) (by decide +kernel)
theorem k1 : (Cond.initialized "CandleLoom") ∈ GW := gw 32 (by decide +kernel) (by decide +kernel)
theorem k2 : (Cond.initialized "CandleLoom$Loom") ∈ GW := gw 33 (by decide +kernel) (by decide +kernel)
theorem k3 : (Cond.initialized "CandleLoom$Wicks") ∈ GW := gw 34 (by decide +kernel) (by decide +kernel)
theorem k4 : (Cond.initialized "CandleLoom$Cloth") ∈ GW := gw 35 (by decide +kernel) (by decide +kernel)
theorem k5 : (Cond.initialized "CandleLoom$Edge") ∈ GW := gw 36 (by decide +kernel) (by decide +kernel)
theorem k6 : (Cond.initialized "CandleLoom$History") ∈ GW := gw 37 (by decide +kernel) (by decide +kernel)
theorem k7 : (Cond.initialized "CandleLoom$Judge") ∈ GW := gw 38 (by decide +kernel) (by decide +kernel)
theorem k8 : (Cond.initialized "CandleLoom$Command") ∈ GW := gw 39 (by decide +kernel) (by decide +kernel)
theorem k9 : (Cond.initialized "java/lang/Enum") ∈ GW := gw 40 (by decide +kernel) (by decide +kernel)
theorem k10 : (Cond.initialized "CandleLoom$Kind") ∈ GW := gw 41 (by decide +kernel) (by decide +kernel)
theorem k11 : (Cond.initialized "CandleLoom$Script") ∈ GW := gw 42 (by decide +kernel) (by decide +kernel)
theorem k12 : (Cond.initialized "CandleLoom$Line") ∈ GW := gw 43 (by decide +kernel) (by decide +kernel)
theorem k13 : (Cond.initialized "CandleLoom$1") ∈ GW := gw 44 (by decide +kernel) (by decide +kernel)
theorem k14 : (Cond.initialized "java/lang/Throwable") ∈ GW := gw 45 (by decide +kernel) (by decide +kernel)
theorem k15 : (Cond.initialized "java/lang/Exception") ∈ GW := gw 46 (by decide +kernel) (by decide +kernel)
theorem k16 : (Cond.initialized "java/lang/RuntimeException") ∈ GW := gw 47 (by decide +kernel) (by decide +kernel)
theorem k17 : (Cond.initialized "java/lang/IllegalArgumentException") ∈ GW := gw 48 (by decide +kernel) (by decide +kernel)
theorem k18 : (Cond.initialized "java/lang/IndexOutOfBoundsException") ∈ GW := gw 49 (by decide +kernel) (by decide +kernel)
theorem k19 : (Cond.initialized "java/lang/UnsupportedOperationException") ∈ GW := gw 50 (by decide +kernel) (by decide +kernel)
theorem k20 : (Cond.initialized "java/lang/System") ∈ GW := gw 51 (by decide +kernel) (by decide +kernel)
theorem k21 : (Cond.initialized "java/lang/Math") ∈ GW := gw 52 (by decide +kernel) (by decide +kernel)
theorem k22 : (Cond.initialized "java/lang/Integer") ∈ GW := gw 53 (by decide +kernel) (by decide +kernel)
theorem k23 : (Cond.initialized "java/lang/ArrayIndexOutOfBoundsException") ∈ GW := gw 54 (by decide +kernel) (by decide +kernel)
theorem k24 : (Cond.initialized "java/lang/String") ∈ GW := gw 55 (by decide +kernel) (by decide +kernel)
theorem k25 : (Cond.initialized "java/lang/StringLatin1") ∈ GW := gw 56 (by decide +kernel) (by decide +kernel)
theorem k26 : (Cond.initialized "jdk/internal/util/Preconditions") ∈ GW := gw 57 (by decide +kernel) (by decide +kernel)
theorem k27 : (Cond.initialized "java/lang/StringUTF16") ∈ GW := gw 58 (by decide +kernel) (by decide +kernel)
theorem k28 : (Cond.initialized "java/lang/IllegalStateException") ∈ GW := gw 59 (by decide +kernel) (by decide +kernel)
theorem k29 : (Cond.initialized "java/lang/ArithmeticException") ∈ GW := gw 60 (by decide +kernel) (by decide +kernel)
theorem k30 : (Cond.initialized "java/util/NoSuchElementException") ∈ GW := gw 61 (by decide +kernel) (by decide +kernel)
theorem k31 : (Cond.classLink "CandleLoomLaw" 12 "CandleLoom") ∈ GW := gw 62 (by decide +kernel) (by decide +kernel)
theorem k32 : (Cond.instantiable "CandleLoom" 14) ∈ GW := gw 63 (by decide +kernel) (by decide +kernel)
theorem k33 : (Cond.methodLink "CandleLoomLaw" 313 yX11_init) ∈ GW := gw 64 (by decide +kernel) (by decide +kernel)
theorem k34 : (Cond.instanceMethod yX11_init) ∈ GW := gw 65 (by decide +kernel) (by decide +kernel)
theorem k35 : (Cond.code yX11_init prog_1_method_1_code 1 (none)) ∈ GW := gw 66 (by decide +kernel) (by decide +kernel)
theorem k36 : (Cond.methodLink "CandleLoom" 3 ⟨"java/lang/Object", "<init>", "()V"⟩) ∈ GW := gw 67 (by decide +kernel) (by decide +kernel)
theorem k37 : (Cond.instanceMethod ⟨"java/lang/Object", "<init>", "()V"⟩) ∈ GW := gw 68 (by decide +kernel) (by decide +kernel)
theorem k38 : (Cond.code ⟨"java/lang/Object", "<init>", "()V"⟩ object_method_1_code 1 (none)) ∈ GW := gw 69 (by decide +kernel) (by decide +kernel)
theorem k39 : (Cond.classLink "CandleLoom" 9 "CandleLoom$Loom") ∈ GW := gw 70 (by decide +kernel) (by decide +kernel)
theorem k40 : (Cond.instantiable "CandleLoom$Loom" 6) ∈ GW := gw 71 (by decide +kernel) (by decide +kernel)
theorem k42 : (Cond.instanceMethod yX8_init) ∈ GW := gw 73 (by decide +kernel) (by decide +kernel)
theorem k43 : (Cond.code yX8_init prog_10_method_1_code 1 (none)) ∈ GW := gw 74 (by decide +kernel) (by decide +kernel)
theorem k44 : (Cond.methodLink "CandleLoom$Loom" 3 ⟨"java/lang/Object", "<init>", "()V"⟩) ∈ GW := gw 75 (by decide +kernel) (by decide +kernel)
theorem k45 : (Cond.classLink "CandleLoom$Loom" 9 "CandleLoom$Wicks") ∈ GW := gw 76 (by decide +kernel) (by decide +kernel)
theorem k46 : (Cond.instantiable "CandleLoom$Wicks" 5) ∈ GW := gw 77 (by decide +kernel) (by decide +kernel)
theorem k48 : (Cond.instanceMethod yX10_init) ∈ GW := gw 79 (by decide +kernel) (by decide +kernel)
theorem k49 : (Cond.code yX10_init prog_12_method_1_code 1 (none)) ∈ GW := gw 80 (by decide +kernel) (by decide +kernel)
theorem k50 : (Cond.methodLink "CandleLoom$Wicks" 3 ⟨"java/lang/Object", "<init>", "()V"⟩) ∈ GW := gw 81 (by decide +kernel) (by decide +kernel)
theorem k51 : (Cond.fieldLink "CandleLoom$Wicks" 9 "CandleLoom$Wicks" "colours" "[I") ∈ GW := gw 82 (by decide +kernel) (by decide +kernel)
theorem k52 : (Cond.fieldLink "CandleLoom$Wicks" 15 "CandleLoom$Wicks" "masks" "[I") ∈ GW := gw 83 (by decide +kernel) (by decide +kernel)
theorem k53 : (Cond.fieldLink "CandleLoom$Wicks" 18 "CandleLoom$Wicks" "waxes" "[I") ∈ GW := gw 84 (by decide +kernel) (by decide +kernel)
theorem k54 : (Cond.fieldLink "CandleLoom$Judge" 101 "CandleLoom$Wicks" "waxes" "[I") ∈ GW := gw 85 (by decide +kernel) (by decide +kernel)
theorem k55 : (Cond.fieldLink "CandleLoom" 106 "CandleLoom$Wicks" "waxes" "[I") ∈ GW := gw 86 (by decide +kernel) (by decide +kernel)
theorem k56 : (Cond.fieldLink "CandleLoom$Wicks" 21 "CandleLoom$Wicks" "lit" "[Z") ∈ GW := gw 87 (by decide +kernel) (by decide +kernel)
theorem k57 : (Cond.fieldLink "CandleLoom$Judge" 97 "CandleLoom$Wicks" "lit" "[Z") ∈ GW := gw 88 (by decide +kernel) (by decide +kernel)
theorem k58 : (Cond.fieldLink "CandleLoom" 102 "CandleLoom$Wicks" "lit" "[Z") ∈ GW := gw 89 (by decide +kernel) (by decide +kernel)
theorem k59 : (Cond.fieldLink "CandleLoom$Wicks" 25 "CandleLoom$Wicks" "count" "I") ∈ GW := gw 90 (by decide +kernel) (by decide +kernel)
theorem k60 : (Cond.fieldLink "CandleLoom$Judge" 84 "CandleLoom$Wicks" "count" "I") ∈ GW := gw 91 (by decide +kernel) (by decide +kernel)
theorem k61 : (Cond.fieldLink "CandleLoom" 84 "CandleLoom$Wicks" "count" "I") ∈ GW := gw 92 (by decide +kernel) (by decide +kernel)
theorem k73 : (Cond.arrayClass (FieldType.int)) ∈ GW := gw 104 (by decide +kernel) (by decide +kernel)
theorem k74 : (Cond.arrayClass (FieldType.boolean)) ∈ GW := gw 105 (by decide +kernel) (by decide +kernel)
theorem k75 : (Cond.classLink "CandleLoom$Loom" 18 "CandleLoom$Cloth") ∈ GW := gw 106 (by decide +kernel) (by decide +kernel)
theorem k76 : (Cond.instantiable "CandleLoom$Cloth" 4) ∈ GW := gw 107 (by decide +kernel) (by decide +kernel)
theorem k78 : (Cond.instanceMethod yX1_init) ∈ GW := gw 109 (by decide +kernel) (by decide +kernel)
theorem k79 : (Cond.code yX1_init prog_3_method_1_code 1 (none)) ∈ GW := gw 110 (by decide +kernel) (by decide +kernel)
theorem k80 : (Cond.methodLink "CandleLoom$Cloth" 3 ⟨"java/lang/Object", "<init>", "()V"⟩) ∈ GW := gw 111 (by decide +kernel) (by decide +kernel)
theorem k81 : (Cond.fieldLink "CandleLoom$Cloth" 9 "CandleLoom$Cloth" "masks" "[I") ∈ GW := gw 112 (by decide +kernel) (by decide +kernel)
theorem k82 : (Cond.fieldLink "CandleLoom" 155 "CandleLoom$Cloth" "masks" "[I") ∈ GW := gw 113 (by decide +kernel) (by decide +kernel)
theorem k83 : (Cond.fieldLink "CandleLoom$Cloth" 15 "CandleLoom$Cloth" "colours" "[I") ∈ GW := gw 114 (by decide +kernel) (by decide +kernel)
theorem k84 : (Cond.fieldLink "CandleLoom$Line" 19 "CandleLoom$Cloth" "colours" "[I") ∈ GW := gw 115 (by decide +kernel) (by decide +kernel)
theorem k85 : (Cond.fieldLink "CandleLoom" 158 "CandleLoom$Cloth" "colours" "[I") ∈ GW := gw 116 (by decide +kernel) (by decide +kernel)
theorem k86 : (Cond.fieldLink "CandleLoom$Cloth" 18 "CandleLoom$Cloth" "knots" "[I") ∈ GW := gw 117 (by decide +kernel) (by decide +kernel)
theorem k87 : (Cond.fieldLink "CandleLoom$Cloth" 27 "CandleLoom$Cloth" "count" "I") ∈ GW := gw 118 (by decide +kernel) (by decide +kernel)
theorem k88 : (Cond.fieldLink "CandleLoom$Judge" 107 "CandleLoom$Cloth" "count" "I") ∈ GW := gw 119 (by decide +kernel) (by decide +kernel)
theorem k89 : (Cond.fieldLink "CandleLoom" 151 "CandleLoom$Cloth" "count" "I") ∈ GW := gw 120 (by decide +kernel) (by decide +kernel)
theorem k99 : (Cond.classLink "CandleLoom$Loom" 25 "CandleLoom$Edge") ∈ GW := gw 130 (by decide +kernel) (by decide +kernel)
theorem k100 : (Cond.instantiable "CandleLoom$Edge" 2) ∈ GW := gw 131 (by decide +kernel) (by decide +kernel)
theorem k102 : (Cond.instanceMethod yX3_init) ∈ GW := gw 133 (by decide +kernel) (by decide +kernel)
theorem k103 : (Cond.code yX3_init prog_5_method_1_code 1 (none)) ∈ GW := gw 134 (by decide +kernel) (by decide +kernel)
theorem k104 : (Cond.methodLink "CandleLoom$Edge" 3 ⟨"java/lang/Object", "<init>", "()V"⟩) ∈ GW := gw 135 (by decide +kernel) (by decide +kernel)
theorem k105 : (Cond.fieldLink "CandleLoom$Edge" 9 "CandleLoom$Edge" "warmth" "I") ∈ GW := gw 136 (by decide +kernel) (by decide +kernel)
theorem k106 : (Cond.fieldLink "CandleLoom" 195 "CandleLoom$Edge" "warmth" "I") ∈ GW := gw 137 (by decide +kernel) (by decide +kernel)
theorem k107 : (Cond.fieldLink "CandleLoom$Edge" 15 "CandleLoom$Edge" "burnt" "I") ∈ GW := gw 138 (by decide +kernel) (by decide +kernel)
theorem k108 : (Cond.fieldLink "CandleLoom$Loom" 111 "CandleLoom$Edge" "burnt" "I") ∈ GW := gw 139 (by decide +kernel) (by decide +kernel)
theorem k109 : (Cond.fieldLink "CandleLoom$Judge" 127 "CandleLoom$Edge" "burnt" "I") ∈ GW := gw 140 (by decide +kernel) (by decide +kernel)
theorem k110 : (Cond.fieldLink "CandleLoom" 190 "CandleLoom$Edge" "burnt" "I") ∈ GW := gw 141 (by decide +kernel) (by decide +kernel)
theorem k116 : (Cond.fieldLink "CandleLoom$Loom" 12 "CandleLoom$Loom" "wicks" "LCandleLoom$Wicks;") ∈ GW := gw 147 (by decide +kernel) (by decide +kernel)
theorem k117 : (Cond.fieldLink "CandleLoom$Judge" 34 "CandleLoom$Loom" "wicks" "LCandleLoom$Wicks;") ∈ GW := gw 148 (by decide +kernel) (by decide +kernel)
theorem k118 : (Cond.fieldLink "CandleLoom" 80 "CandleLoom$Loom" "wicks" "LCandleLoom$Wicks;") ∈ GW := gw 149 (by decide +kernel) (by decide +kernel)
theorem k119 : (Cond.fieldLink "CandleLoom$Loom" 21 "CandleLoom$Loom" "cloth" "LCandleLoom$Cloth;") ∈ GW := gw 150 (by decide +kernel) (by decide +kernel)
theorem k120 : (Cond.fieldLink "CandleLoom$Judge" 64 "CandleLoom$Loom" "cloth" "LCandleLoom$Cloth;") ∈ GW := gw 151 (by decide +kernel) (by decide +kernel)
theorem k121 : (Cond.fieldLink "CandleLoom" 147 "CandleLoom$Loom" "cloth" "LCandleLoom$Cloth;") ∈ GW := gw 152 (by decide +kernel) (by decide +kernel)
theorem k122 : (Cond.fieldLink "CandleLoom$Loom" 28 "CandleLoom$Loom" "left" "LCandleLoom$Edge;") ∈ GW := gw 153 (by decide +kernel) (by decide +kernel)
theorem k123 : (Cond.fieldLink "CandleLoom$Loom" 32 "CandleLoom$Loom" "right" "LCandleLoom$Edge;") ∈ GW := gw 154 (by decide +kernel) (by decide +kernel)
theorem k124 : (Cond.fieldLink "CandleLoom$Loom" 45 "CandleLoom$Loom" "rowsWoven" "I") ∈ GW := gw 155 (by decide +kernel) (by decide +kernel)
theorem k125 : (Cond.fieldLink "CandleLoom" 225 "CandleLoom$Loom" "rowsWoven" "I") ∈ GW := gw 156 (by decide +kernel) (by decide +kernel)
theorem k126 : (Cond.fieldLink "CandleLoom$Loom" 49 "CandleLoom$Loom" "waxBurnt" "I") ∈ GW := gw 157 (by decide +kernel) (by decide +kernel)
theorem k127 : (Cond.fieldLink "CandleLoom" 228 "CandleLoom$Loom" "waxBurnt" "I") ∈ GW := gw 158 (by decide +kernel) (by decide +kernel)
theorem k141 : (Cond.classLink "CandleLoom" 22 "CandleLoom$History") ∈ GW := gw 172 (by decide +kernel) (by decide +kernel)
theorem k142 : (Cond.instantiable "CandleLoom$History" 3) ∈ GW := gw 173 (by decide +kernel) (by decide +kernel)
theorem k143 : (Cond.methodLink "CandleLoom" 24 yX4_init) ∈ GW := gw 174 (by decide +kernel) (by decide +kernel)
theorem k144 : (Cond.instanceMethod yX4_init) ∈ GW := gw 175 (by decide +kernel) (by decide +kernel)
theorem k145 : (Cond.code yX4_init prog_6_method_1_code 2 (none)) ∈ GW := gw 176 (by decide +kernel) (by decide +kernel)
theorem k146 : (Cond.methodLink "CandleLoom$History" 3 ⟨"java/lang/Object", "<init>", "()V"⟩) ∈ GW := gw 177 (by decide +kernel) (by decide +kernel)
theorem k147 : (Cond.classLink "CandleLoom$History" 9 "CandleLoom$Loom") ∈ GW := gw 178 (by decide +kernel) (by decide +kernel)
theorem k150 : (Cond.fieldLink "CandleLoom$History" 11 "CandleLoom$History" "kept" "[LCandleLoom$Loom;") ∈ GW := gw 181 (by decide +kernel) (by decide +kernel)
theorem k151 : (Cond.fieldLink "CandleLoom$History" 18 "CandleLoom$History" "oldest" "I") ∈ GW := gw 182 (by decide +kernel) (by decide +kernel)
theorem k152 : (Cond.fieldLink "CandleLoom$History" 22 "CandleLoom$History" "count" "I") ∈ GW := gw 183 (by decide +kernel) (by decide +kernel)
theorem k153 : (Cond.fieldLink "CandleLoom" 305 "CandleLoom$History" "count" "I") ∈ GW := gw 184 (by decide +kernel) (by decide +kernel)
theorem k161 : (Cond.classLink "CandleLoom" 29 "CandleLoom$Judge") ∈ GW := gw 192 (by decide +kernel) (by decide +kernel)
theorem k162 : (Cond.instantiable "CandleLoom$Judge" 1) ∈ GW := gw 193 (by decide +kernel) (by decide +kernel)
theorem k164 : (Cond.instanceMethod yX5_init) ∈ GW := gw 195 (by decide +kernel) (by decide +kernel)
theorem k165 : (Cond.code yX5_init prog_7_method_1_code 1 (none)) ∈ GW := gw 196 (by decide +kernel) (by decide +kernel)
theorem k166 : (Cond.methodLink "CandleLoom$Judge" 3 ⟨"java/lang/Object", "<init>", "()V"⟩) ∈ GW := gw 197 (by decide +kernel) (by decide +kernel)
theorem k167 : (Cond.fieldLink "CandleLoom$Judge" 132 "CandleLoom$Judge" "detail" "I") ∈ GW := gw 198 (by decide +kernel) (by decide +kernel)
theorem k168 : (Cond.fieldLink "CandleLoom" 319 "CandleLoom$Judge" "detail" "I") ∈ GW := gw 199 (by decide +kernel) (by decide +kernel)
theorem k172 : (Cond.classLink "CandleLoom" 36 "CandleLoom$Command") ∈ GW := gw 203 (by decide +kernel) (by decide +kernel)
theorem k173 : (Cond.instantiable "CandleLoom$Command" 4) ∈ GW := gw 204 (by decide +kernel) (by decide +kernel)
theorem k175 : (Cond.instanceMethod yX2_init) ∈ GW := gw 206 (by decide +kernel) (by decide +kernel)
theorem k176 : (Cond.code yX2_init prog_4_method_1_code 1 (none)) ∈ GW := gw 207 (by decide +kernel) (by decide +kernel)
theorem k177 : (Cond.methodLink "CandleLoom$Command" 1 ⟨"java/lang/Object", "<init>", "()V"⟩) ∈ GW := gw 208 (by decide +kernel) (by decide +kernel)
theorem k178 : (Cond.fieldLink "CandleLoom$Command" 7 "CandleLoom$Kind" "WICK" "LCandleLoom$Kind;") ∈ GW := gw 209 (by decide +kernel) (by decide +kernel)
theorem k180 : (Cond.fieldLink "CandleLoom$Command" 13 "CandleLoom$Command" "kind" "LCandleLoom$Kind;") ∈ GW := gw 211 (by decide +kernel) (by decide +kernel)
theorem k181 : (Cond.fieldLink "CandleLoom$Judge" 24 "CandleLoom$Command" "kind" "LCandleLoom$Kind;") ∈ GW := gw 212 (by decide +kernel) (by decide +kernel)
theorem k182 : (Cond.fieldLink "CandleLoom$Loom" 66 "CandleLoom$Command" "kind" "LCandleLoom$Kind;") ∈ GW := gw 213 (by decide +kernel) (by decide +kernel)
theorem k183 : (Cond.fieldLink "CandleLoom$Judge" 9 "CandleLoom$Command" "first" "I") ∈ GW := gw 214 (by decide +kernel) (by decide +kernel)
theorem k184 : (Cond.fieldLink "CandleLoom$Command" 18 "CandleLoom$Command" "first" "I") ∈ GW := gw 215 (by decide +kernel) (by decide +kernel)
theorem k185 : (Cond.fieldLink "CandleLoom$Loom" 52 "CandleLoom$Command" "first" "I") ∈ GW := gw 216 (by decide +kernel) (by decide +kernel)
theorem k186 : (Cond.fieldLink "CandleLoom$Judge" 15 "CandleLoom$Command" "second" "I") ∈ GW := gw 217 (by decide +kernel) (by decide +kernel)
theorem k187 : (Cond.fieldLink "CandleLoom$Command" 22 "CandleLoom$Command" "second" "I") ∈ GW := gw 218 (by decide +kernel) (by decide +kernel)
theorem k188 : (Cond.fieldLink "CandleLoom$Loom" 57 "CandleLoom$Command" "second" "I") ∈ GW := gw 219 (by decide +kernel) (by decide +kernel)
theorem k189 : (Cond.fieldLink "CandleLoom$Command" 25 "CandleLoom$Command" "third" "I") ∈ GW := gw 220 (by decide +kernel) (by decide +kernel)
theorem k190 : (Cond.fieldLink "CandleLoom$Judge" 40 "CandleLoom$Command" "third" "I") ∈ GW := gw 221 (by decide +kernel) (by decide +kernel)
theorem k191 : (Cond.fieldLink "CandleLoom$Loom" 76 "CandleLoom$Command" "third" "I") ∈ GW := gw 222 (by decide +kernel) (by decide +kernel)
theorem k201 : (Cond.classLink "CandleLoom" 43 "CandleLoom$Script") ∈ GW := gw 232 (by decide +kernel) (by decide +kernel)
theorem k202 : (Cond.instantiable "CandleLoom$Script" 5) ∈ GW := gw 233 (by decide +kernel) (by decide +kernel)
theorem k203 : (Cond.methodLink "CandleLoom" 45 yX9_init) ∈ GW := gw 234 (by decide +kernel) (by decide +kernel)
theorem k204 : (Cond.instanceMethod yX9_init) ∈ GW := gw 235 (by decide +kernel) (by decide +kernel)
theorem k205 : (Cond.code yX9_init prog_11_method_1_code 2 (none)) ∈ GW := gw 236 (by decide +kernel) (by decide +kernel)
theorem k206 : (Cond.methodLink "CandleLoom$Script" 3 ⟨"java/lang/Object", "<init>", "()V"⟩) ∈ GW := gw 237 (by decide +kernel) (by decide +kernel)
theorem k207 : (Cond.classLink "CandleLoom$Script" 15 "CandleLoom$Command") ∈ GW := gw 238 (by decide +kernel) (by decide +kernel)
theorem k210 : (Cond.fieldLink "CandleLoom$Script" 9 "CandleLoom$Script" "signs" "[C") ∈ GW := gw 241 (by decide +kernel) (by decide +kernel)
theorem k211 : (Cond.fieldLink "CandleLoom$Script" 22 "CandleLoom$Script" "length" "I") ∈ GW := gw 242 (by decide +kernel) (by decide +kernel)
theorem k212 : (Cond.fieldLink "CandleLoom$Script" 17 "CandleLoom$Script" "commands" "[LCandleLoom$Command;") ∈ GW := gw 243 (by decide +kernel) (by decide +kernel)
theorem k213 : (Cond.fieldLink "CandleLoom" 325 "CandleLoom$Script" "commands" "[LCandleLoom$Command;") ∈ GW := gw 244 (by decide +kernel) (by decide +kernel)
theorem k214 : (Cond.fieldLink "CandleLoom$Script" 29 "CandleLoom$Script" "found" "I") ∈ GW := gw 245 (by decide +kernel) (by decide +kernel)
theorem k215 : (Cond.fieldLink "CandleLoom" 278 "CandleLoom$Script" "found" "I") ∈ GW := gw 246 (by decide +kernel) (by decide +kernel)
theorem k216 : (Cond.fieldLink "CandleLoom$Script" 26 "CandleLoom$Script" "position" "I") ∈ GW := gw 247 (by decide +kernel) (by decide +kernel)
theorem k217 : (Cond.fieldLink "CandleLoom" 258 "CandleLoom$Script" "position" "I") ∈ GW := gw 248 (by decide +kernel) (by decide +kernel)
theorem k229 : (Cond.arrayClass (FieldType.char)) ∈ GW := gw 260 (by decide +kernel) (by decide +kernel)
theorem k230 : (Cond.classLink "CandleLoom" 50 "CandleLoom$Line") ∈ GW := gw 261 (by decide +kernel) (by decide +kernel)
theorem k231 : (Cond.instantiable "CandleLoom$Line" 2) ∈ GW := gw 262 (by decide +kernel) (by decide +kernel)
theorem k233 : (Cond.instanceMethod yX7_init) ∈ GW := gw 264 (by decide +kernel) (by decide +kernel)
theorem k234 : (Cond.code yX7_init prog_9_method_1_code 1 (none)) ∈ GW := gw 265 (by decide +kernel) (by decide +kernel)
theorem k235 : (Cond.methodLink "CandleLoom$Line" 3 ⟨"java/lang/Object", "<init>", "()V"⟩) ∈ GW := gw 266 (by decide +kernel) (by decide +kernel)
theorem k236 : (Cond.fieldLink "CandleLoom$Line" 9 "CandleLoom$Line" "signs" "[C") ∈ GW := gw 267 (by decide +kernel) (by decide +kernel)
theorem k237 : (Cond.fieldLink "CandleLoom" 292 "CandleLoom$Line" "signs" "[C") ∈ GW := gw 268 (by decide +kernel) (by decide +kernel)
theorem k238 : (Cond.fieldLink "CandleLoom$Line" 15 "CandleLoom$Line" "length" "I") ∈ GW := gw 269 (by decide +kernel) (by decide +kernel)
theorem k239 : (Cond.fieldLink "CandleLoom" 285 "CandleLoom$Line" "length" "I") ∈ GW := gw 270 (by decide +kernel) (by decide +kernel)
theorem k245 : (Cond.fieldLink "CandleLoom" 12 "CandleLoom" "loom" "LCandleLoom$Loom;") ∈ GW := gw 276 (by decide +kernel) (by decide +kernel)
theorem k246 : (Cond.fieldLink "CandleLoom" 16 "CandleLoom" "beforeText" "LCandleLoom$Loom;") ∈ GW := gw 277 (by decide +kernel) (by decide +kernel)
theorem k247 : (Cond.fieldLink "CandleLoom" 19 "CandleLoom" "snapshot" "LCandleLoom$Loom;") ∈ GW := gw 278 (by decide +kernel) (by decide +kernel)
theorem k248 : (Cond.fieldLink "CandleLoom" 309 "CandleLoom" "snapshotTaken" "Z") ∈ GW := gw 279 (by decide +kernel) (by decide +kernel)
theorem k249 : (Cond.fieldLink "CandleLoom" 25 "CandleLoom" "history" "LCandleLoom$History;") ∈ GW := gw 280 (by decide +kernel) (by decide +kernel)
theorem k250 : (Cond.fieldLink "CandleLoom" 32 "CandleLoom" "judge" "LCandleLoom$Judge;") ∈ GW := gw 281 (by decide +kernel) (by decide +kernel)
theorem k251 : (Cond.fieldLink "CandleLoom" 39 "CandleLoom" "request" "LCandleLoom$Command;") ∈ GW := gw 282 (by decide +kernel) (by decide +kernel)
theorem k252 : (Cond.fieldLink "CandleLoom" 46 "CandleLoom" "script" "LCandleLoom$Script;") ∈ GW := gw 283 (by decide +kernel) (by decide +kernel)
theorem k253 : (Cond.fieldLink "CandleLoom" 254 "CandleLoom" "faultKept" "Z") ∈ GW := gw 284 (by decide +kernel) (by decide +kernel)
theorem k254 : (Cond.fieldLink "CandleLoom" 261 "CandleLoom" "keptFault" "I") ∈ GW := gw 285 (by decide +kernel) (by decide +kernel)
theorem k255 : (Cond.fieldLink "CandleLoom" 53 "CandleLoom" "line" "LCandleLoom$Line;") ∈ GW := gw 286 (by decide +kernel) (by decide +kernel)
theorem k256 : (Cond.fieldLink "CandleLoom" 296 "CandleLoom" "deniedNumber" "I") ∈ GW := gw 287 (by decide +kernel) (by decide +kernel)
theorem k257 : (Cond.fieldLink "CandleLoom" 299 "CandleLoom" "deniedDetail" "I") ∈ GW := gw 288 (by decide +kernel) (by decide +kernel)
theorem k258 : (Cond.fieldLink "CandleLoom" 302 "CandleLoom" "deniedCause" "I") ∈ GW := gw 289 (by decide +kernel) (by decide +kernel)
theorem k288 : (Cond.methodLink "CandleLoomLaw" 328 yX11_undoCount) ∈ GW := gw 319 (by decide +kernel) (by decide +kernel)
theorem k289 : (Cond.instanceMethod yX11_undoCount) ∈ GW := gw 320 (by decide +kernel) (by decide +kernel)
theorem k290 : (Cond.selects "CandleLoom" yX11_undoCount yX11_undoCount) ∈ GW := gw 321 (by decide +kernel) (by decide +kernel)
theorem k291 : (Cond.code yX11_undoCount prog_1_method_51_code 1 (Option.some FieldType.int)) ∈ GW := gw 322 (by decide +kernel) (by decide +kernel)
theorem k292 : (Cond.methodLink "CandleLoomLaw" 157 yX11_saveSnapshot) ∈ GW := gw 323 (by decide +kernel) (by decide +kernel)
theorem k293 : (Cond.instanceMethod yX11_saveSnapshot) ∈ GW := gw 324 (by decide +kernel) (by decide +kernel)
theorem k294 : (Cond.selects "CandleLoom" yX11_saveSnapshot yX11_saveSnapshot) ∈ GW := gw 325 (by decide +kernel) (by decide +kernel)
theorem k295 : (Cond.code yX11_saveSnapshot prog_1_method_52_code 1 (Option.some FieldType.int)) ∈ GW := gw 326 (by decide +kernel) (by decide +kernel)
theorem k296 : (Cond.methodLink "CandleLoom" 264 yX8_copyFrom) ∈ GW := gw 327 (by decide +kernel) (by decide +kernel)
theorem k297 : (Cond.instanceMethod yX8_copyFrom) ∈ GW := gw 328 (by decide +kernel) (by decide +kernel)
theorem k298 : (Cond.selects "CandleLoom$Loom" yX8_copyFrom yX8_copyFrom) ∈ GW := gw 329 (by decide +kernel) (by decide +kernel)
theorem k299 : (Cond.code yX8_copyFrom prog_10_method_4_code 2 (none)) ∈ GW := gw 330 (by decide +kernel) (by decide +kernel)
theorem k300 : (Cond.methodLink "CandleLoom$Loom" 35 yX10_copyFrom) ∈ GW := gw 331 (by decide +kernel) (by decide +kernel)
theorem k301 : (Cond.instanceMethod yX10_copyFrom) ∈ GW := gw 332 (by decide +kernel) (by decide +kernel)
theorem k302 : (Cond.selects "CandleLoom$Wicks" yX10_copyFrom yX10_copyFrom) ∈ GW := gw 333 (by decide +kernel) (by decide +kernel)
theorem k303 : (Cond.code yX10_copyFrom prog_12_method_2_code 3 (none)) ∈ GW := gw 334 (by decide +kernel) (by decide +kernel)
theorem k304 : (Cond.methodLink "CandleLoom$Loom" 39 yX1_copyFrom) ∈ GW := gw 335 (by decide +kernel) (by decide +kernel)
theorem k305 : (Cond.instanceMethod yX1_copyFrom) ∈ GW := gw 336 (by decide +kernel) (by decide +kernel)
theorem k306 : (Cond.selects "CandleLoom$Cloth" yX1_copyFrom yX1_copyFrom) ∈ GW := gw 337 (by decide +kernel) (by decide +kernel)
theorem k307 : (Cond.code yX1_copyFrom prog_3_method_3_code 2 (none)) ∈ GW := gw 338 (by decide +kernel) (by decide +kernel)
theorem k308 : (Cond.methodLink "CandleLoom$Cloth" 21 ⟨"java/lang/System", "arraycopy", "(Ljava/lang/Object;ILjava/lang/Object;II)V"⟩) ∈ GW := gw 339 (by decide +kernel) (by decide +kernel)
theorem k309 : (Cond.static ⟨"java/lang/System", "arraycopy", "(Ljava/lang/Object;ILjava/lang/Object;II)V"⟩) ∈ GW := gw 340 (by decide +kernel) (by decide +kernel)
theorem k310 : (Cond.native ⟨"java/lang/System", "arraycopy", "(Ljava/lang/Object;ILjava/lang/Object;II)V"⟩) ∈ GW := gw 341 (by decide +kernel) (by decide +kernel)
theorem k311 : (Cond.methodLink "CandleLoom$Loom" 42 yX3_copyFrom) ∈ GW := gw 342 (by decide +kernel) (by decide +kernel)
theorem k312 : (Cond.instanceMethod yX3_copyFrom) ∈ GW := gw 343 (by decide +kernel) (by decide +kernel)
theorem k313 : (Cond.selects "CandleLoom$Edge" yX3_copyFrom yX3_copyFrom) ∈ GW := gw 344 (by decide +kernel) (by decide +kernel)
theorem k314 : (Cond.code yX3_copyFrom prog_5_method_2_code 2 (none)) ∈ GW := gw 345 (by decide +kernel) (by decide +kernel)
theorem k315 : (Cond.methodLink "CandleLoomLaw" 314 yL_cell) ∈ GW := gw 346 (by decide +kernel) (by decide +kernel)
theorem k316 : (Cond.static yL_cell) ∈ GW := gw 347 (by decide +kernel) (by decide +kernel)
theorem k317 : (Cond.code yL_cell method_2_code 2 (Option.some FieldType.int)) ∈ GW := gw 348 (by decide +kernel) (by decide +kernel)
theorem k318 : (Cond.constant "CandleLoomLaw" 7 (65535)) ∈ GW := gw 349 (by decide +kernel) (by decide +kernel)
theorem k319 : (Cond.methodLink "CandleLoomLaw" 120 yL_addWick) ∈ GW := gw 350 (by decide +kernel) (by decide +kernel)
theorem k320 : (Cond.static yL_addWick) ∈ GW := gw 351 (by decide +kernel) (by decide +kernel)
theorem k321 : (Cond.codeWith yL_addWick method_3_code 6 (Option.some FieldType.int) [((4 : Nat), (13 : Nat), (16 : Nat), (17 : Nat)), ((4 : Nat), (13 : Nat), (21 : Nat), (19 : Nat))]) ∈ GW := gw 352 (by decide +kernel) (by decide +kernel)
theorem k322 : (Cond.classLink "CandleLoomLaw" 17 "java/lang/IllegalArgumentException") ∈ GW := gw 353 (by decide +kernel) (by decide +kernel)
theorem k323 : (Cond.classLink "CandleLoomLaw" 19 "java/lang/UnsupportedOperationException") ∈ GW := gw 354 (by decide +kernel) (by decide +kernel)
theorem k324 : (Cond.constant "CandleLoomLaw" 10 (-100000000)) ∈ GW := gw 355 (by decide +kernel) (by decide +kernel)
theorem k325 : (Cond.methodLink "CandleLoomLaw" 11 yX11_addWick) ∈ GW := gw 356 (by decide +kernel) (by decide +kernel)
theorem k326 : (Cond.instanceMethod yX11_addWick) ∈ GW := gw 357 (by decide +kernel) (by decide +kernel)
theorem k327 : (Cond.selects "CandleLoom" yX11_addWick yX11_addWick) ∈ GW := gw 358 (by decide +kernel) (by decide +kernel)
theorem k328 : (Cond.code yX11_addWick prog_1_method_2_code 4 (Option.some FieldType.int)) ∈ GW := gw 359 (by decide +kernel) (by decide +kernel)
theorem k329 : (Cond.fieldLink "CandleLoom" 57 "CandleLoom$Kind" "WICK" "LCandleLoom$Kind;") ∈ GW := gw 360 (by decide +kernel) (by decide +kernel)
theorem k330 : (Cond.methodLink "CandleLoom" 63 yX2_become) ∈ GW := gw 361 (by decide +kernel) (by decide +kernel)
theorem k331 : (Cond.instanceMethod yX2_become) ∈ GW := gw 362 (by decide +kernel) (by decide +kernel)
theorem k332 : (Cond.selects "CandleLoom$Command" yX2_become yX2_become) ∈ GW := gw 363 (by decide +kernel) (by decide +kernel)
theorem k333 : (Cond.code yX2_become prog_4_method_2_code 5 (Option.some (FieldType.object "CandleLoom$Command"))) ∈ GW := gw 364 (by decide +kernel) (by decide +kernel)
theorem k334 : (Cond.methodLink "CandleLoom" 67 yX11_change) ∈ GW := gw 365 (by decide +kernel) (by decide +kernel)
theorem k336 : (Cond.instanceMethod yX11_change) ∈ GW := gw 367 (by decide +kernel) (by decide +kernel)
theorem k337 : (Cond.code yX11_change prog_1_method_54_code 3 (Option.some FieldType.int)) ∈ GW := gw 368 (by decide +kernel) (by decide +kernel)
theorem k338 : (Cond.methodLink "CandleLoom" 315 yX5_verdictOn) ∈ GW := gw 369 (by decide +kernel) (by decide +kernel)
theorem k339 : (Cond.instanceMethod yX5_verdictOn) ∈ GW := gw 370 (by decide +kernel) (by decide +kernel)
theorem k340 : (Cond.selects "CandleLoom$Judge" yX5_verdictOn yX5_verdictOn) ∈ GW := gw 371 (by decide +kernel) (by decide +kernel)
theorem k341 : (Cond.code yX5_verdictOn prog_7_method_2_code 5 (Option.some FieldType.int)) ∈ GW := gw 372 (by decide +kernel) (by decide +kernel)
theorem k342 : (Cond.fieldLink "CandleLoom$Judge" 18 "CandleLoom$1" "$SwitchMap$CandleLoom$Kind" "[I") ∈ GW := gw 373 (by decide +kernel) (by decide +kernel)
theorem k344 : (Cond.methodLink "CandleLoom$Judge" 28 ⟨"CandleLoom$Kind", "ordinal", "()I"⟩) ∈ GW := gw 375 (by decide +kernel) (by decide +kernel)
theorem k345 : (Cond.sameMethod "CandleLoom$Kind" "java/lang/Enum" "ordinal" "()I") ∈ GW := gw 376 (by decide +kernel) (by decide +kernel)
theorem k347 : (Cond.selects "CandleLoom$Kind" ⟨"CandleLoom$Kind", "ordinal", "()I"⟩ yJx29ce0_ordinal_8abf5) ∈ GW := gw 378 (by decide +kernel) (by decide +kernel)
theorem k348 : (Cond.instanceMethod yJx29ce0_ordinal_8abf5) ∈ GW := gw 379 (by decide +kernel) (by decide +kernel)
theorem k349 : (Cond.code yJx29ce0_ordinal_8abf5 prog_20_method_2_code 1 (Option.some FieldType.int)) ∈ GW := gw 380 (by decide +kernel) (by decide +kernel)
theorem k350 : (Cond.methodLink "CandleLoom$Judge" 43 yX5_onNewWick) ∈ GW := gw 381 (by decide +kernel) (by decide +kernel)
theorem k352 : (Cond.instanceMethod yX5_onNewWick) ∈ GW := gw 383 (by decide +kernel) (by decide +kernel)
theorem k353 : (Cond.code yX5_onNewWick prog_7_method_3_code 5 (Option.some FieldType.int)) ∈ GW := gw 384 (by decide +kernel) (by decide +kernel)
theorem k354 : (Cond.constant "CandleLoom$Judge" 83 (65535)) ∈ GW := gw 385 (by decide +kernel) (by decide +kernel)
theorem k355 : (Cond.methodLink "CandleLoom$Judge" 89 yX5_deny) ∈ GW := gw 386 (by decide +kernel) (by decide +kernel)
theorem k357 : (Cond.instanceMethod yX5_deny) ∈ GW := gw 388 (by decide +kernel) (by decide +kernel)
theorem k358 : (Cond.code yX5_deny prog_7_method_12_code 3 (Option.some FieldType.int)) ∈ GW := gw 389 (by decide +kernel) (by decide +kernel)
theorem k359 : (Cond.methodLink "CandleLoom$Judge" 49 yX5_onLighting) ∈ GW := gw 390 (by decide +kernel) (by decide +kernel)
theorem k361 : (Cond.instanceMethod yX5_onLighting) ∈ GW := gw 392 (by decide +kernel) (by decide +kernel)
theorem k362 : (Cond.code yX5_onLighting prog_7_method_4_code 3 (Option.some FieldType.int)) ∈ GW := gw 393 (by decide +kernel) (by decide +kernel)
theorem k363 : (Cond.methodLink "CandleLoom$Judge" 93 yX10_has) ∈ GW := gw 394 (by decide +kernel) (by decide +kernel)
theorem k364 : (Cond.instanceMethod yX10_has) ∈ GW := gw 395 (by decide +kernel) (by decide +kernel)
theorem k365 : (Cond.selects "CandleLoom$Wicks" yX10_has yX10_has) ∈ GW := gw 396 (by decide +kernel) (by decide +kernel)
theorem k366 : (Cond.code yX10_has prog_12_method_3_code 2 (Option.some FieldType.boolean)) ∈ GW := gw 397 (by decide +kernel) (by decide +kernel)
theorem k367 : (Cond.methodLink "CandleLoom$Judge" 53 yX5_onSnuffing) ∈ GW := gw 398 (by decide +kernel) (by decide +kernel)
theorem k369 : (Cond.instanceMethod yX5_onSnuffing) ∈ GW := gw 400 (by decide +kernel) (by decide +kernel)
theorem k370 : (Cond.code yX5_onSnuffing prog_7_method_5_code 3 (Option.some FieldType.int)) ∈ GW := gw 401 (by decide +kernel) (by decide +kernel)
theorem k371 : (Cond.methodLink "CandleLoom$Judge" 56 yX5_onMoreWax) ∈ GW := gw 402 (by decide +kernel) (by decide +kernel)
theorem k373 : (Cond.instanceMethod yX5_onMoreWax) ∈ GW := gw 404 (by decide +kernel) (by decide +kernel)
theorem k374 : (Cond.code yX5_onMoreWax prog_7_method_6_code 4 (Option.some FieldType.int)) ∈ GW := gw 405 (by decide +kernel) (by decide +kernel)
theorem k375 : (Cond.methodLink "CandleLoom$Judge" 60 yX5_onWeaving) ∈ GW := gw 406 (by decide +kernel) (by decide +kernel)
theorem k377 : (Cond.instanceMethod yX5_onWeaving) ∈ GW := gw 408 (by decide +kernel) (by decide +kernel)
theorem k378 : (Cond.code yX5_onWeaving prog_7_method_7_code 3 (Option.some FieldType.int)) ∈ GW := gw 409 (by decide +kernel) (by decide +kernel)
theorem k379 : (Cond.methodLink "CandleLoom$Judge" 104 yX10_countLit) ∈ GW := gw 410 (by decide +kernel) (by decide +kernel)
theorem k380 : (Cond.instanceMethod yX10_countLit) ∈ GW := gw 411 (by decide +kernel) (by decide +kernel)
theorem k381 : (Cond.selects "CandleLoom$Wicks" yX10_countLit yX10_countLit) ∈ GW := gw 412 (by decide +kernel) (by decide +kernel)
theorem k382 : (Cond.code yX10_countLit prog_12_method_7_code 3 (Option.some FieldType.int)) ∈ GW := gw 413 (by decide +kernel) (by decide +kernel)
theorem k383 : (Cond.methodLink "CandleLoom$Judge" 68 yX5_onRavelling) ∈ GW := gw 414 (by decide +kernel) (by decide +kernel)
theorem k385 : (Cond.instanceMethod yX5_onRavelling) ∈ GW := gw 416 (by decide +kernel) (by decide +kernel)
theorem k386 : (Cond.code yX5_onRavelling prog_7_method_8_code 4 (Option.some FieldType.int)) ∈ GW := gw 417 (by decide +kernel) (by decide +kernel)
theorem k387 : (Cond.methodLink "CandleLoom$Judge" 110 yX1_lastKnottedRow) ∈ GW := gw 418 (by decide +kernel) (by decide +kernel)
theorem k388 : (Cond.instanceMethod yX1_lastKnottedRow) ∈ GW := gw 419 (by decide +kernel) (by decide +kernel)
theorem k389 : (Cond.selects "CandleLoom$Cloth" yX1_lastKnottedRow yX1_lastKnottedRow) ∈ GW := gw 420 (by decide +kernel) (by decide +kernel)
theorem k390 : (Cond.code yX1_lastKnottedRow prog_3_method_15_code 2 (Option.some FieldType.int)) ∈ GW := gw 421 (by decide +kernel) (by decide +kernel)
theorem k391 : (Cond.methodLink "CandleLoom$Judge" 72 yX5_onRepeating) ∈ GW := gw 422 (by decide +kernel) (by decide +kernel)
theorem k393 : (Cond.instanceMethod yX5_onRepeating) ∈ GW := gw 424 (by decide +kernel) (by decide +kernel)
theorem k394 : (Cond.code yX5_onRepeating prog_7_method_9_code 4 (Option.some FieldType.int)) ∈ GW := gw 425 (by decide +kernel) (by decide +kernel)
theorem k395 : (Cond.methodLink "CandleLoom$Judge" 76 yX5_onKnots) ∈ GW := gw 426 (by decide +kernel) (by decide +kernel)
theorem k397 : (Cond.instanceMethod yX5_onKnots) ∈ GW := gw 428 (by decide +kernel) (by decide +kernel)
theorem k398 : (Cond.code yX5_onKnots prog_7_method_10_code 5 (Option.some FieldType.int)) ∈ GW := gw 429 (by decide +kernel) (by decide +kernel)
theorem k399 : (Cond.methodLink "CandleLoom$Judge" 113 yX1_hasCell) ∈ GW := gw 430 (by decide +kernel) (by decide +kernel)
theorem k400 : (Cond.instanceMethod yX1_hasCell) ∈ GW := gw 431 (by decide +kernel) (by decide +kernel)
theorem k401 : (Cond.selects "CandleLoom$Cloth" yX1_hasCell yX1_hasCell) ∈ GW := gw 432 (by decide +kernel) (by decide +kernel)
theorem k402 : (Cond.code yX1_hasCell prog_3_method_5_code 3 (Option.some FieldType.boolean)) ∈ GW := gw 433 (by decide +kernel) (by decide +kernel)
theorem k403 : (Cond.methodLink "CandleLoom$Cloth" 31 yX1_has) ∈ GW := gw 434 (by decide +kernel) (by decide +kernel)
theorem k404 : (Cond.instanceMethod yX1_has) ∈ GW := gw 435 (by decide +kernel) (by decide +kernel)
theorem k405 : (Cond.selects "CandleLoom$Cloth" yX1_has yX1_has) ∈ GW := gw 436 (by decide +kernel) (by decide +kernel)
theorem k406 : (Cond.code yX1_has prog_3_method_4_code 2 (Option.some FieldType.boolean)) ∈ GW := gw 437 (by decide +kernel) (by decide +kernel)
theorem k407 : (Cond.methodLink "CandleLoom$Cloth" 35 yX1_isColumn) ∈ GW := gw 438 (by decide +kernel) (by decide +kernel)
theorem k408 : (Cond.static yX1_isColumn) ∈ GW := gw 439 (by decide +kernel) (by decide +kernel)
theorem k409 : (Cond.code yX1_isColumn prog_3_method_2_code 1 (Option.some FieldType.boolean)) ∈ GW := gw 440 (by decide +kernel) (by decide +kernel)
theorem k410 : (Cond.methodLink "CandleLoom$Judge" 117 yX1_knottedAt) ∈ GW := gw 441 (by decide +kernel) (by decide +kernel)
theorem k411 : (Cond.instanceMethod yX1_knottedAt) ∈ GW := gw 442 (by decide +kernel) (by decide +kernel)
theorem k412 : (Cond.selects "CandleLoom$Cloth" yX1_knottedAt yX1_knottedAt) ∈ GW := gw 443 (by decide +kernel) (by decide +kernel)
theorem k413 : (Cond.code yX1_knottedAt prog_3_method_7_code 3 (Option.some FieldType.boolean)) ∈ GW := gw 444 (by decide +kernel) (by decide +kernel)
theorem k414 : (Cond.methodLink "CandleLoom$Judge" 80 yX5_onMending) ∈ GW := gw 445 (by decide +kernel) (by decide +kernel)
theorem k416 : (Cond.instanceMethod yX5_onMending) ∈ GW := gw 447 (by decide +kernel) (by decide +kernel)
theorem k417 : (Cond.code yX5_onMending prog_7_method_11_code 3 (Option.some FieldType.int)) ∈ GW := gw 448 (by decide +kernel) (by decide +kernel)
theorem k418 : (Cond.methodLink "CandleLoom$Judge" 120 yX8_isSide) ∈ GW := gw 449 (by decide +kernel) (by decide +kernel)
theorem k419 : (Cond.static yX8_isSide) ∈ GW := gw 450 (by decide +kernel) (by decide +kernel)
theorem k420 : (Cond.code yX8_isSide prog_10_method_2_code 1 (Option.some FieldType.boolean)) ∈ GW := gw 451 (by decide +kernel) (by decide +kernel)
theorem k421 : (Cond.methodLink "CandleLoom$Judge" 123 yX8_edgeAt) ∈ GW := gw 452 (by decide +kernel) (by decide +kernel)
theorem k422 : (Cond.instanceMethod yX8_edgeAt) ∈ GW := gw 453 (by decide +kernel) (by decide +kernel)
theorem k423 : (Cond.selects "CandleLoom$Loom" yX8_edgeAt yX8_edgeAt) ∈ GW := gw 454 (by decide +kernel) (by decide +kernel)
theorem k424 : (Cond.code yX8_edgeAt prog_10_method_3_code 2 (Option.some (FieldType.object "CandleLoom$Edge"))) ∈ GW := gw 455 (by decide +kernel) (by decide +kernel)
theorem k425 : (Cond.methodLink "CandleLoom" 183 yX11_requireRange) ∈ GW := gw 456 (by decide +kernel) (by decide +kernel)
theorem k426 : (Cond.static yX11_requireRange) ∈ GW := gw 457 (by decide +kernel) (by decide +kernel)
theorem k427 : (Cond.code yX11_requireRange prog_1_method_58_code 1 (none)) ∈ GW := gw 458 (by decide +kernel) (by decide +kernel)
theorem k428 : (Cond.classLink "CandleLoom" 339 "java/lang/IllegalArgumentException") ∈ GW := gw 459 (by decide +kernel) (by decide +kernel)
theorem k429 : (Cond.instantiable "java/lang/IllegalArgumentException" 6) ∈ GW := gw 460 (by decide +kernel) (by decide +kernel)
theorem k437 : (Cond.selects "java/lang/IllegalArgumentException" ⟨"java/lang/Throwable", "fillInStackTrace", "(I)Ljava/lang/Throwable;"⟩ ⟨"java/lang/Throwable", "fillInStackTrace", "(I)Ljava/lang/Throwable;"⟩) ∈ GW := gw 468 (by decide +kernel) (by decide +kernel)
theorem k438 : (Cond.selects "java/lang/IllegalArgumentException" ⟨"java/lang/Throwable", "fillInStackTrace", "()Ljava/lang/Throwable;"⟩ ⟨"java/lang/Throwable", "fillInStackTrace", "()Ljava/lang/Throwable;"⟩) ∈ GW := gw 469 (by decide +kernel) (by decide +kernel)
theorem k449 : (Cond.fieldLink "java/lang/Throwable" 198 "java/lang/Throwable" "backtrace" "Ljava/lang/Object;") ∈ GW := gw 480 (by decide +kernel) (by decide +kernel)
theorem k451 : (Cond.instanceMethod ⟨"java/lang/Throwable", "<init>", "()V"⟩) ∈ GW := gw 482 (by decide +kernel) (by decide +kernel)
theorem k452 : (Cond.code ⟨"java/lang/Throwable", "<init>", "()V"⟩ prog_32_method_1_code 1 (none)) ∈ GW := gw 483 (by decide +kernel) (by decide +kernel)
theorem k453 : (Cond.methodLink "java/lang/Throwable" 1 ⟨"java/lang/Object", "<init>", "()V"⟩) ∈ GW := gw 484 (by decide +kernel) (by decide +kernel)
theorem k454 : (Cond.fieldLink "java/lang/Throwable" 13 "java/lang/Throwable" "UNASSIGNED_STACK" "[Ljava/lang/StackTraceElement;") ∈ GW := gw 485 (by decide +kernel) (by decide +kernel)
theorem k456 : (Cond.fieldLink "java/lang/Throwable" 20 "java/lang/Throwable" "SUPPRESSED_SENTINEL" "Ljava/util/List;") ∈ GW := gw 487 (by decide +kernel) (by decide +kernel)
theorem k458 : (Cond.methodLink "java/lang/Throwable" 27 ⟨"java/lang/Throwable", "fillInStackTrace", "()Ljava/lang/Throwable;"⟩) ∈ GW := gw 489 (by decide +kernel) (by decide +kernel)
theorem k459 : (Cond.instanceMethod ⟨"java/lang/Throwable", "fillInStackTrace", "()Ljava/lang/Throwable;"⟩) ∈ GW := gw 490 (by decide +kernel) (by decide +kernel)
theorem k460 : (Cond.sameMethod "java/lang/Throwable" "java/lang/Throwable" "fillInStackTrace" "()Ljava/lang/Throwable;") ∈ GW := gw 491 (by decide +kernel) (by decide +kernel)
theorem k461 : (Cond.selects "java/lang/ArithmeticException" ⟨"java/lang/Throwable", "fillInStackTrace", "()Ljava/lang/Throwable;"⟩ ⟨"java/lang/Throwable", "fillInStackTrace", "()Ljava/lang/Throwable;"⟩) ∈ GW := gw 492 (by decide +kernel) (by decide +kernel)
theorem k462 : (Cond.selects "java/lang/ArrayIndexOutOfBoundsException" ⟨"java/lang/Throwable", "fillInStackTrace", "()Ljava/lang/Throwable;"⟩ ⟨"java/lang/Throwable", "fillInStackTrace", "()Ljava/lang/Throwable;"⟩) ∈ GW := gw 493 (by decide +kernel) (by decide +kernel)
theorem k463 : (Cond.selects "java/lang/IllegalStateException" ⟨"java/lang/Throwable", "fillInStackTrace", "()Ljava/lang/Throwable;"⟩ ⟨"java/lang/Throwable", "fillInStackTrace", "()Ljava/lang/Throwable;"⟩) ∈ GW := gw 494 (by decide +kernel) (by decide +kernel)
theorem k464 : (Cond.selects "java/lang/IndexOutOfBoundsException" ⟨"java/lang/Throwable", "fillInStackTrace", "()Ljava/lang/Throwable;"⟩ ⟨"java/lang/Throwable", "fillInStackTrace", "()Ljava/lang/Throwable;"⟩) ∈ GW := gw 495 (by decide +kernel) (by decide +kernel)
theorem k465 : (Cond.selects "java/lang/UnsupportedOperationException" ⟨"java/lang/Throwable", "fillInStackTrace", "()Ljava/lang/Throwable;"⟩ ⟨"java/lang/Throwable", "fillInStackTrace", "()Ljava/lang/Throwable;"⟩) ∈ GW := gw 496 (by decide +kernel) (by decide +kernel)
theorem k466 : (Cond.selects "java/util/NoSuchElementException" ⟨"java/lang/Throwable", "fillInStackTrace", "()Ljava/lang/Throwable;"⟩ ⟨"java/lang/Throwable", "fillInStackTrace", "()Ljava/lang/Throwable;"⟩) ∈ GW := gw 497 (by decide +kernel) (by decide +kernel)
theorem k468 : (Cond.methodLink "java/lang/Throwable" 202 ⟨"java/lang/Throwable", "fillInStackTrace", "(I)Ljava/lang/Throwable;"⟩) ∈ GW := gw 499 (by decide +kernel) (by decide +kernel)
theorem k470 : (Cond.instanceMethod ⟨"java/lang/Throwable", "fillInStackTrace", "(I)Ljava/lang/Throwable;"⟩) ∈ GW := gw 501 (by decide +kernel) (by decide +kernel)
theorem k471 : (Cond.instantiable "java/lang/Throwable" 6) ∈ GW := gw 502 (by decide +kernel) (by decide +kernel)
theorem k472 : (Cond.native ⟨"java/lang/Throwable", "fillInStackTrace", "(I)Ljava/lang/Throwable;"⟩) ∈ GW := gw 503 (by decide +kernel) (by decide +kernel)
theorem k474 : (Cond.methodLink "CandleLoom" 343 ⟨"java/lang/IllegalArgumentException", "<init>", "(Ljava/lang/String;)V"⟩) ∈ GW := gw 505 (by decide +kernel) (by decide +kernel)
theorem k475 : (Cond.instanceMethod ⟨"java/lang/IllegalArgumentException", "<init>", "(Ljava/lang/String;)V"⟩) ∈ GW := gw 506 (by decide +kernel) (by decide +kernel)
theorem k476 : (Cond.code ⟨"java/lang/IllegalArgumentException", "<init>", "(Ljava/lang/String;)V"⟩ prog_22_method_2_code 2 (none)) ∈ GW := gw 507 (by decide +kernel) (by decide +kernel)
theorem k477 : (Cond.methodLink "java/lang/IllegalArgumentException" 7 ⟨"java/lang/RuntimeException", "<init>", "(Ljava/lang/String;)V"⟩) ∈ GW := gw 508 (by decide +kernel) (by decide +kernel)
theorem k478 : (Cond.instanceMethod ⟨"java/lang/RuntimeException", "<init>", "(Ljava/lang/String;)V"⟩) ∈ GW := gw 509 (by decide +kernel) (by decide +kernel)
theorem k479 : (Cond.code ⟨"java/lang/RuntimeException", "<init>", "(Ljava/lang/String;)V"⟩ prog_27_method_2_code 2 (none)) ∈ GW := gw 510 (by decide +kernel) (by decide +kernel)
theorem k480 : (Cond.methodLink "java/lang/RuntimeException" 7 ⟨"java/lang/Exception", "<init>", "(Ljava/lang/String;)V"⟩) ∈ GW := gw 511 (by decide +kernel) (by decide +kernel)
theorem k481 : (Cond.instanceMethod ⟨"java/lang/Exception", "<init>", "(Ljava/lang/String;)V"⟩) ∈ GW := gw 512 (by decide +kernel) (by decide +kernel)
theorem k482 : (Cond.code ⟨"java/lang/Exception", "<init>", "(Ljava/lang/String;)V"⟩ prog_21_method_2_code 2 (none)) ∈ GW := gw 513 (by decide +kernel) (by decide +kernel)
theorem k483 : (Cond.methodLink "java/lang/Exception" 7 ⟨"java/lang/Throwable", "<init>", "(Ljava/lang/String;)V"⟩) ∈ GW := gw 514 (by decide +kernel) (by decide +kernel)
theorem k484 : (Cond.instanceMethod ⟨"java/lang/Throwable", "<init>", "(Ljava/lang/String;)V"⟩) ∈ GW := gw 515 (by decide +kernel) (by decide +kernel)
theorem k485 : (Cond.code ⟨"java/lang/Throwable", "<init>", "(Ljava/lang/String;)V"⟩ prog_32_method_2_code 2 (none)) ∈ GW := gw 516 (by decide +kernel) (by decide +kernel)
theorem k487 : (Cond.fieldLink "java/lang/Throwable" 31 "java/lang/Throwable" "detailMessage" "Ljava/lang/String;") ∈ GW := gw 518 (by decide +kernel) (by decide +kernel)
theorem k488 : (Cond.fieldLink "java/lang/Throwable" 7 "java/lang/Throwable" "cause" "Ljava/lang/Throwable;") ∈ GW := gw 519 (by decide +kernel) (by decide +kernel)
theorem k489 : (Cond.fieldLink "java/lang/Throwable" 17 "java/lang/Throwable" "stackTrace" "[Ljava/lang/StackTraceElement;") ∈ GW := gw 520 (by decide +kernel) (by decide +kernel)
theorem k490 : (Cond.fieldLink "java/lang/Throwable" 24 "java/lang/Throwable" "suppressedExceptions" "Ljava/util/List;") ∈ GW := gw 521 (by decide +kernel) (by decide +kernel)
theorem k499 : (Cond.arrayClass (FieldType.byte)) ∈ GW := gw 530 (by decide +kernel) (by decide +kernel)
theorem k500 : (Cond.methodLink "CandleLoom" 98 yX11_requireIndex) ∈ GW := gw 531 (by decide +kernel) (by decide +kernel)
theorem k501 : (Cond.static yX11_requireIndex) ∈ GW := gw 532 (by decide +kernel) (by decide +kernel)
theorem k502 : (Cond.code yX11_requireIndex prog_1_method_59_code 1 (none)) ∈ GW := gw 533 (by decide +kernel) (by decide +kernel)
theorem k503 : (Cond.classLink "CandleLoom" 344 "java/lang/IndexOutOfBoundsException") ∈ GW := gw 534 (by decide +kernel) (by decide +kernel)
theorem k504 : (Cond.instantiable "java/lang/IndexOutOfBoundsException" 6) ∈ GW := gw 535 (by decide +kernel) (by decide +kernel)
theorem k506 : (Cond.selects "java/lang/IndexOutOfBoundsException" ⟨"java/lang/Throwable", "fillInStackTrace", "(I)Ljava/lang/Throwable;"⟩ ⟨"java/lang/Throwable", "fillInStackTrace", "(I)Ljava/lang/Throwable;"⟩) ∈ GW := gw 537 (by decide +kernel) (by decide +kernel)
theorem k513 : (Cond.methodLink "CandleLoom" 348 ⟨"java/lang/IndexOutOfBoundsException", "<init>", "(Ljava/lang/String;)V"⟩) ∈ GW := gw 544 (by decide +kernel) (by decide +kernel)
theorem k514 : (Cond.instanceMethod ⟨"java/lang/IndexOutOfBoundsException", "<init>", "(Ljava/lang/String;)V"⟩) ∈ GW := gw 545 (by decide +kernel) (by decide +kernel)
theorem k515 : (Cond.code ⟨"java/lang/IndexOutOfBoundsException", "<init>", "(Ljava/lang/String;)V"⟩ prog_24_method_2_code 2 (none)) ∈ GW := gw 546 (by decide +kernel) (by decide +kernel)
theorem k516 : (Cond.methodLink "java/lang/IndexOutOfBoundsException" 7 ⟨"java/lang/RuntimeException", "<init>", "(Ljava/lang/String;)V"⟩) ∈ GW := gw 547 (by decide +kernel) (by decide +kernel)
theorem k519 : (Cond.methodLink "CandleLoom" 271 yX11_throwDenial) ∈ GW := gw 550 (by decide +kernel) (by decide +kernel)
theorem k521 : (Cond.instanceMethod yX11_throwDenial) ∈ GW := gw 552 (by decide +kernel) (by decide +kernel)
theorem k522 : (Cond.code yX11_throwDenial prog_1_method_57_code 3 (none)) ∈ GW := gw 553 (by decide +kernel) (by decide +kernel)
theorem k523 : (Cond.classLink "CandleLoom" 332 "java/lang/UnsupportedOperationException") ∈ GW := gw 554 (by decide +kernel) (by decide +kernel)
theorem k524 : (Cond.instantiable "java/lang/UnsupportedOperationException" 6) ∈ GW := gw 555 (by decide +kernel) (by decide +kernel)
theorem k526 : (Cond.selects "java/lang/UnsupportedOperationException" ⟨"java/lang/Throwable", "fillInStackTrace", "(I)Ljava/lang/Throwable;"⟩ ⟨"java/lang/Throwable", "fillInStackTrace", "(I)Ljava/lang/Throwable;"⟩) ∈ GW := gw 557 (by decide +kernel) (by decide +kernel)
theorem k533 : (Cond.methodLink "CandleLoom" 336 ⟨"java/lang/UnsupportedOperationException", "<init>", "(Ljava/lang/String;)V"⟩) ∈ GW := gw 564 (by decide +kernel) (by decide +kernel)
theorem k534 : (Cond.instanceMethod ⟨"java/lang/UnsupportedOperationException", "<init>", "(Ljava/lang/String;)V"⟩) ∈ GW := gw 565 (by decide +kernel) (by decide +kernel)
theorem k535 : (Cond.code ⟨"java/lang/UnsupportedOperationException", "<init>", "(Ljava/lang/String;)V"⟩ prog_33_method_2_code 2 (none)) ∈ GW := gw 566 (by decide +kernel) (by decide +kernel)
theorem k536 : (Cond.methodLink "java/lang/UnsupportedOperationException" 7 ⟨"java/lang/RuntimeException", "<init>", "(Ljava/lang/String;)V"⟩) ∈ GW := gw 567 (by decide +kernel) (by decide +kernel)
theorem k539 : (Cond.methodLink "CandleLoom" 275 yX4_keep) ∈ GW := gw 570 (by decide +kernel) (by decide +kernel)
theorem k540 : (Cond.instanceMethod yX4_keep) ∈ GW := gw 571 (by decide +kernel) (by decide +kernel)
theorem k541 : (Cond.selects "CandleLoom$History" yX4_keep yX4_keep) ∈ GW := gw 572 (by decide +kernel) (by decide +kernel)
theorem k542 : (Cond.code yX4_keep prog_6_method_2_code 2 (none)) ∈ GW := gw 573 (by decide +kernel) (by decide +kernel)
theorem k543 : (Cond.methodLink "CandleLoom$History" 25 yX8_copyFrom) ∈ GW := gw 574 (by decide +kernel) (by decide +kernel)
theorem k544 : (Cond.methodLink "CandleLoom" 322 yX8_perform) ∈ GW := gw 575 (by decide +kernel) (by decide +kernel)
theorem k545 : (Cond.instanceMethod yX8_perform) ∈ GW := gw 576 (by decide +kernel) (by decide +kernel)
theorem k546 : (Cond.selects "CandleLoom$Loom" yX8_perform yX8_perform) ∈ GW := gw 577 (by decide +kernel) (by decide +kernel)
theorem k547 : (Cond.code yX8_perform prog_10_method_5_code 4 (Option.some FieldType.int)) ∈ GW := gw 578 (by decide +kernel) (by decide +kernel)
theorem k548 : (Cond.fieldLink "CandleLoom$Loom" 60 "CandleLoom$1" "$SwitchMap$CandleLoom$Kind" "[I") ∈ GW := gw 579 (by decide +kernel) (by decide +kernel)
theorem k549 : (Cond.methodLink "CandleLoom$Loom" 70 ⟨"CandleLoom$Kind", "ordinal", "()I"⟩) ∈ GW := gw 580 (by decide +kernel) (by decide +kernel)
theorem k550 : (Cond.methodLink "CandleLoom$Loom" 79 yX10_place) ∈ GW := gw 581 (by decide +kernel) (by decide +kernel)
theorem k551 : (Cond.instanceMethod yX10_place) ∈ GW := gw 582 (by decide +kernel) (by decide +kernel)
theorem k552 : (Cond.selects "CandleLoom$Wicks" yX10_place yX10_place) ∈ GW := gw 583 (by decide +kernel) (by decide +kernel)
theorem k553 : (Cond.code yX10_place prog_12_method_4_code 4 (Option.some FieldType.int)) ∈ GW := gw 584 (by decide +kernel) (by decide +kernel)
theorem k554 : (Cond.methodLink "CandleLoom$Loom" 83 yX10_setLit) ∈ GW := gw 585 (by decide +kernel) (by decide +kernel)
theorem k555 : (Cond.instanceMethod yX10_setLit) ∈ GW := gw 586 (by decide +kernel) (by decide +kernel)
theorem k556 : (Cond.selects "CandleLoom$Wicks" yX10_setLit yX10_setLit) ∈ GW := gw 587 (by decide +kernel) (by decide +kernel)
theorem k557 : (Cond.code yX10_setLit prog_12_method_5_code 3 (Option.some FieldType.int)) ∈ GW := gw 588 (by decide +kernel) (by decide +kernel)
theorem k558 : (Cond.methodLink "CandleLoom$Wicks" 29 yX10_countLit) ∈ GW := gw 589 (by decide +kernel) (by decide +kernel)
theorem k559 : (Cond.methodLink "CandleLoom$Loom" 87 yX10_pour) ∈ GW := gw 590 (by decide +kernel) (by decide +kernel)
theorem k560 : (Cond.instanceMethod yX10_pour) ∈ GW := gw 591 (by decide +kernel) (by decide +kernel)
theorem k561 : (Cond.selects "CandleLoom$Wicks" yX10_pour yX10_pour) ∈ GW := gw 592 (by decide +kernel) (by decide +kernel)
theorem k562 : (Cond.code yX10_pour prog_12_method_6_code 3 (Option.some FieldType.int)) ∈ GW := gw 593 (by decide +kernel) (by decide +kernel)
theorem k563 : (Cond.methodLink "CandleLoom$Loom" 91 yX8_weaveRows) ∈ GW := gw 594 (by decide +kernel) (by decide +kernel)
theorem k565 : (Cond.instanceMethod yX8_weaveRows) ∈ GW := gw 596 (by decide +kernel) (by decide +kernel)
theorem k566 : (Cond.code yX8_weaveRows prog_10_method_7_code 3 (Option.some FieldType.int)) ∈ GW := gw 597 (by decide +kernel) (by decide +kernel)
theorem k567 : (Cond.methodLink "CandleLoom$Loom" 114 yX10_countLit) ∈ GW := gw 598 (by decide +kernel) (by decide +kernel)
theorem k568 : (Cond.methodLink "CandleLoom$Loom" 117 yX8_weaveRow) ∈ GW := gw 599 (by decide +kernel) (by decide +kernel)
theorem k570 : (Cond.instanceMethod yX8_weaveRow) ∈ GW := gw 601 (by decide +kernel) (by decide +kernel)
theorem k571 : (Cond.code yX8_weaveRow prog_10_method_8_code 2 (none)) ∈ GW := gw 602 (by decide +kernel) (by decide +kernel)
theorem k572 : (Cond.methodLink "CandleLoom$Loom" 120 yX10_pattern) ∈ GW := gw 603 (by decide +kernel) (by decide +kernel)
theorem k573 : (Cond.instanceMethod yX10_pattern) ∈ GW := gw 604 (by decide +kernel) (by decide +kernel)
theorem k574 : (Cond.selects "CandleLoom$Wicks" yX10_pattern yX10_pattern) ∈ GW := gw 605 (by decide +kernel) (by decide +kernel)
theorem k575 : (Cond.code yX10_pattern prog_12_method_8_code 3 (Option.some FieldType.int)) ∈ GW := gw 606 (by decide +kernel) (by decide +kernel)
theorem k576 : (Cond.methodLink "CandleLoom$Loom" 123 yX8_unburnt) ∈ GW := gw 607 (by decide +kernel) (by decide +kernel)
theorem k577 : (Cond.instanceMethod yX8_unburnt) ∈ GW := gw 608 (by decide +kernel) (by decide +kernel)
theorem k578 : (Cond.selects "CandleLoom$Loom" yX8_unburnt yX8_unburnt) ∈ GW := gw 609 (by decide +kernel) (by decide +kernel)
theorem k579 : (Cond.code yX8_unburnt prog_10_method_6_code 4 (Option.some FieldType.int)) ∈ GW := gw 610 (by decide +kernel) (by decide +kernel)
theorem k580 : (Cond.methodLink "CandleLoom$Loom" 126 yX10_leadingColour) ∈ GW := gw 611 (by decide +kernel) (by decide +kernel)
theorem k581 : (Cond.instanceMethod yX10_leadingColour) ∈ GW := gw 612 (by decide +kernel) (by decide +kernel)
theorem k582 : (Cond.selects "CandleLoom$Wicks" yX10_leadingColour yX10_leadingColour) ∈ GW := gw 613 (by decide +kernel) (by decide +kernel)
theorem k583 : (Cond.code yX10_leadingColour prog_12_method_12_code 4 (Option.some FieldType.int)) ∈ GW := gw 614 (by decide +kernel) (by decide +kernel)
theorem k584 : (Cond.methodLink "CandleLoom$Loom" 129 yX1_append) ∈ GW := gw 615 (by decide +kernel) (by decide +kernel)
theorem k585 : (Cond.instanceMethod yX1_append) ∈ GW := gw 616 (by decide +kernel) (by decide +kernel)
theorem k586 : (Cond.selects "CandleLoom$Cloth" yX1_append yX1_append) ∈ GW := gw 617 (by decide +kernel) (by decide +kernel)
theorem k587 : (Cond.code yX1_append prog_3_method_8_code 3 (none)) ∈ GW := gw 618 (by decide +kernel) (by decide +kernel)
theorem k588 : (Cond.methodLink "CandleLoom$Loom" 133 yX10_burnDown) ∈ GW := gw 619 (by decide +kernel) (by decide +kernel)
theorem k589 : (Cond.instanceMethod yX10_burnDown) ∈ GW := gw 620 (by decide +kernel) (by decide +kernel)
theorem k590 : (Cond.selects "CandleLoom$Wicks" yX10_burnDown yX10_burnDown) ∈ GW := gw 621 (by decide +kernel) (by decide +kernel)
theorem k591 : (Cond.code yX10_burnDown prog_12_method_13_code 3 (Option.some FieldType.int)) ∈ GW := gw 622 (by decide +kernel) (by decide +kernel)
theorem k592 : (Cond.methodLink "CandleLoom$Loom" 136 yX3_feel) ∈ GW := gw 623 (by decide +kernel) (by decide +kernel)
theorem k593 : (Cond.instanceMethod yX3_feel) ∈ GW := gw 624 (by decide +kernel) (by decide +kernel)
theorem k594 : (Cond.selects "CandleLoom$Edge" yX3_feel yX3_feel) ∈ GW := gw 625 (by decide +kernel) (by decide +kernel)
theorem k595 : (Cond.code yX3_feel prog_5_method_3_code 2 (none)) ∈ GW := gw 626 (by decide +kernel) (by decide +kernel)
theorem k596 : (Cond.methodLink "CandleLoom$Edge" 18 yJ9_min_7cf53) ∈ GW := gw 627 (by decide +kernel) (by decide +kernel)
theorem k597 : (Cond.static yJ9_min_7cf53) ∈ GW := gw 628 (by decide +kernel) (by decide +kernel)
theorem k598 : (Cond.code yJ9_min_7cf53 prog_26_method_69_code 2 (Option.some FieldType.int)) ∈ GW := gw 629 (by decide +kernel) (by decide +kernel)
theorem k599 : (Cond.methodLink "CandleLoom$Loom" 95 yX1_removeLast) ∈ GW := gw 630 (by decide +kernel) (by decide +kernel)
theorem k600 : (Cond.instanceMethod yX1_removeLast) ∈ GW := gw 631 (by decide +kernel) (by decide +kernel)
theorem k601 : (Cond.selects "CandleLoom$Cloth" yX1_removeLast yX1_removeLast) ∈ GW := gw 632 (by decide +kernel) (by decide +kernel)
theorem k602 : (Cond.code yX1_removeLast prog_3_method_9_code 2 (Option.some FieldType.int)) ∈ GW := gw 633 (by decide +kernel) (by decide +kernel)
theorem k603 : (Cond.methodLink "CandleLoom$Loom" 98 yX1_copyLast) ∈ GW := gw 634 (by decide +kernel) (by decide +kernel)
theorem k604 : (Cond.instanceMethod yX1_copyLast) ∈ GW := gw 635 (by decide +kernel) (by decide +kernel)
theorem k605 : (Cond.selects "CandleLoom$Cloth" yX1_copyLast yX1_copyLast) ∈ GW := gw 636 (by decide +kernel) (by decide +kernel)
theorem k606 : (Cond.code yX1_copyLast prog_3_method_10_code 6 (Option.some FieldType.int)) ∈ GW := gw 637 (by decide +kernel) (by decide +kernel)
theorem k607 : (Cond.methodLink "CandleLoom$Cloth" 38 yX1_append) ∈ GW := gw 638 (by decide +kernel) (by decide +kernel)
theorem k608 : (Cond.methodLink "CandleLoom$Loom" 101 yX1_flipKnot) ∈ GW := gw 639 (by decide +kernel) (by decide +kernel)
theorem k609 : (Cond.instanceMethod yX1_flipKnot) ∈ GW := gw 640 (by decide +kernel) (by decide +kernel)
theorem k610 : (Cond.selects "CandleLoom$Cloth" yX1_flipKnot yX1_flipKnot) ∈ GW := gw 641 (by decide +kernel) (by decide +kernel)
theorem k611 : (Cond.code yX1_flipKnot prog_3_method_11_code 3 (Option.some FieldType.int)) ∈ GW := gw 642 (by decide +kernel) (by decide +kernel)
theorem k612 : (Cond.methodLink "CandleLoom$Cloth" 42 yX1_countKnots) ∈ GW := gw 643 (by decide +kernel) (by decide +kernel)
theorem k613 : (Cond.instanceMethod yX1_countKnots) ∈ GW := gw 644 (by decide +kernel) (by decide +kernel)
theorem k614 : (Cond.selects "CandleLoom$Cloth" yX1_countKnots yX1_countKnots) ∈ GW := gw 645 (by decide +kernel) (by decide +kernel)
theorem k615 : (Cond.code yX1_countKnots prog_3_method_12_code 3 (Option.some FieldType.int)) ∈ GW := gw 646 (by decide +kernel) (by decide +kernel)
theorem k616 : (Cond.methodLink "CandleLoom$Cloth" 46 yJ6_bitCount_0f7a4) ∈ GW := gw 647 (by decide +kernel) (by decide +kernel)
theorem k617 : (Cond.static yJ6_bitCount_0f7a4) ∈ GW := gw 648 (by decide +kernel) (by decide +kernel)
theorem k618 : (Cond.code yJ6_bitCount_0f7a4 prog_25_method_49_code 1 (Option.some FieldType.int)) ∈ GW := gw 649 (by decide +kernel) (by decide +kernel)
theorem k619 : (Cond.constant "java/lang/Integer" 265 (1431655765)) ∈ GW := gw 650 (by decide +kernel) (by decide +kernel)
theorem k620 : (Cond.constant "java/lang/Integer" 266 (858993459)) ∈ GW := gw 651 (by decide +kernel) (by decide +kernel)
theorem k621 : (Cond.constant "java/lang/Integer" 267 (252645135)) ∈ GW := gw 652 (by decide +kernel) (by decide +kernel)
theorem k622 : (Cond.methodLink "CandleLoom$Loom" 104 yX8_edgeAt) ∈ GW := gw 653 (by decide +kernel) (by decide +kernel)
theorem k623 : (Cond.methodLink "CandleLoom$Loom" 108 yX3_repair) ∈ GW := gw 654 (by decide +kernel) (by decide +kernel)
theorem k624 : (Cond.instanceMethod yX3_repair) ∈ GW := gw 655 (by decide +kernel) (by decide +kernel)
theorem k625 : (Cond.selects "CandleLoom$Edge" yX3_repair yX3_repair) ∈ GW := gw 656 (by decide +kernel) (by decide +kernel)
theorem k626 : (Cond.code yX3_repair prog_5_method_4_code 1 (Option.some FieldType.int)) ∈ GW := gw 657 (by decide +kernel) (by decide +kernel)
theorem k627 : (Cond.methodLink "CandleLoomLaw" 123 yL_light) ∈ GW := gw 658 (by decide +kernel) (by decide +kernel)
theorem k628 : (Cond.static yL_light) ∈ GW := gw 659 (by decide +kernel) (by decide +kernel)
theorem k629 : (Cond.codeWith yL_light method_4_code 4 (Option.some FieldType.int) [((3 : Nat), (9 : Nat), (12 : Nat), (25 : Nat)), ((3 : Nat), (9 : Nat), (16 : Nat), (19 : Nat))]) ∈ GW := gw 660 (by decide +kernel) (by decide +kernel)
theorem k630 : (Cond.classLink "CandleLoomLaw" 25 "java/lang/IndexOutOfBoundsException") ∈ GW := gw 661 (by decide +kernel) (by decide +kernel)
theorem k631 : (Cond.instantiable "java/lang/ArrayIndexOutOfBoundsException" 6) ∈ GW := gw 662 (by decide +kernel) (by decide +kernel)
theorem k632 : (Cond.instanceMethod yJx00060_init_a7421) ∈ GW := gw 663 (by decide +kernel) (by decide +kernel)
theorem k633 : (Cond.code yJx00060_init_a7421 prog_17_method_2_code 2 (none)) ∈ GW := gw 664 (by decide +kernel) (by decide +kernel)
theorem k634 : (Cond.methodLink "java/lang/ArrayIndexOutOfBoundsException" 7 ⟨"java/lang/IndexOutOfBoundsException", "<init>", "(Ljava/lang/String;)V"⟩) ∈ GW := gw 665 (by decide +kernel) (by decide +kernel)
theorem k645 : (Cond.selects "java/lang/ArrayIndexOutOfBoundsException" ⟨"java/lang/Throwable", "fillInStackTrace", "(I)Ljava/lang/Throwable;"⟩ ⟨"java/lang/Throwable", "fillInStackTrace", "(I)Ljava/lang/Throwable;"⟩) ∈ GW := gw 676 (by decide +kernel) (by decide +kernel)
theorem k646 : (Cond.instantiable "java/lang/String" 4) ∈ GW := gw 677 (by decide +kernel) (by decide +kernel)
theorem k651 : (Cond.methodLink "CandleLoomLaw" 21 yX11_light) ∈ GW := gw 682 (by decide +kernel) (by decide +kernel)
theorem k652 : (Cond.instanceMethod yX11_light) ∈ GW := gw 683 (by decide +kernel) (by decide +kernel)
theorem k653 : (Cond.selects "CandleLoom" yX11_light yX11_light) ∈ GW := gw 684 (by decide +kernel) (by decide +kernel)
theorem k654 : (Cond.code yX11_light prog_1_method_3_code 2 (Option.some FieldType.int)) ∈ GW := gw 685 (by decide +kernel) (by decide +kernel)
theorem k655 : (Cond.fieldLink "CandleLoom" 71 "CandleLoom$Kind" "LIGHT" "LCandleLoom$Kind;") ∈ GW := gw 686 (by decide +kernel) (by decide +kernel)
theorem k657 : (Cond.methodLink "CandleLoomLaw" 128 yL_addWax) ∈ GW := gw 688 (by decide +kernel) (by decide +kernel)
theorem k658 : (Cond.static yL_addWax) ∈ GW := gw 689 (by decide +kernel) (by decide +kernel)
theorem k659 : (Cond.codeWith yL_addWax method_6_code 5 (Option.some FieldType.int) [((3 : Nat), (10 : Nat), (13 : Nat), (25 : Nat)), ((3 : Nat), (10 : Nat), (18 : Nat), (17 : Nat)), ((3 : Nat), (10 : Nat), (23 : Nat), (19 : Nat))]) ∈ GW := gw 690 (by decide +kernel) (by decide +kernel)
theorem k660 : (Cond.methodLink "CandleLoomLaw" 30 yX11_addWax) ∈ GW := gw 691 (by decide +kernel) (by decide +kernel)
theorem k661 : (Cond.instanceMethod yX11_addWax) ∈ GW := gw 692 (by decide +kernel) (by decide +kernel)
theorem k662 : (Cond.selects "CandleLoom" yX11_addWax yX11_addWax) ∈ GW := gw 693 (by decide +kernel) (by decide +kernel)
theorem k663 : (Cond.code yX11_addWax prog_1_method_5_code 3 (Option.some FieldType.int)) ∈ GW := gw 694 (by decide +kernel) (by decide +kernel)
theorem k664 : (Cond.fieldLink "CandleLoom" 77 "CandleLoom$Kind" "WAX" "LCandleLoom$Kind;") ∈ GW := gw 695 (by decide +kernel) (by decide +kernel)
theorem k666 : (Cond.methodLink "CandleLoomLaw" 131 yL_weave) ∈ GW := gw 697 (by decide +kernel) (by decide +kernel)
theorem k667 : (Cond.static yL_weave) ∈ GW := gw 698 (by decide +kernel) (by decide +kernel)
theorem k668 : (Cond.codeWith yL_weave method_7_code 4 (Option.some FieldType.int) [((3 : Nat), (9 : Nat), (12 : Nat), (17 : Nat)), ((3 : Nat), (9 : Nat), (16 : Nat), (19 : Nat))]) ∈ GW := gw 699 (by decide +kernel) (by decide +kernel)
theorem k669 : (Cond.methodLink "CandleLoomLaw" 34 yX11_weave) ∈ GW := gw 700 (by decide +kernel) (by decide +kernel)
theorem k670 : (Cond.instanceMethod yX11_weave) ∈ GW := gw 701 (by decide +kernel) (by decide +kernel)
theorem k671 : (Cond.selects "CandleLoom" yX11_weave yX11_weave) ∈ GW := gw 702 (by decide +kernel) (by decide +kernel)
theorem k672 : (Cond.code yX11_weave prog_1_method_14_code 2 (Option.some FieldType.int)) ∈ GW := gw 703 (by decide +kernel) (by decide +kernel)
theorem k673 : (Cond.fieldLink "CandleLoom" 129 "CandleLoom$Kind" "WEAVE" "LCandleLoom$Kind;") ∈ GW := gw 704 (by decide +kernel) (by decide +kernel)
theorem k675 : (Cond.methodLink "CandleLoomLaw" 135 yL_repeatLast) ∈ GW := gw 706 (by decide +kernel) (by decide +kernel)
theorem k676 : (Cond.static yL_repeatLast) ∈ GW := gw 707 (by decide +kernel) (by decide +kernel)
theorem k677 : (Cond.codeWith yL_repeatLast method_9_code 5 (Option.some FieldType.int) [((3 : Nat), (10 : Nat), (13 : Nat), (17 : Nat)), ((3 : Nat), (10 : Nat), (18 : Nat), (19 : Nat))]) ∈ GW := gw 708 (by decide +kernel) (by decide +kernel)
theorem k678 : (Cond.methodLink "CandleLoomLaw" 40 yX11_repeatLast) ∈ GW := gw 709 (by decide +kernel) (by decide +kernel)
theorem k679 : (Cond.instanceMethod yX11_repeatLast) ∈ GW := gw 710 (by decide +kernel) (by decide +kernel)
theorem k680 : (Cond.selects "CandleLoom" yX11_repeatLast yX11_repeatLast) ∈ GW := gw 711 (by decide +kernel) (by decide +kernel)
theorem k681 : (Cond.code yX11_repeatLast prog_1_method_16_code 3 (Option.some FieldType.int)) ∈ GW := gw 712 (by decide +kernel) (by decide +kernel)
theorem k682 : (Cond.fieldLink "CandleLoom" 135 "CandleLoom$Kind" "REPEAT" "LCandleLoom$Kind;") ∈ GW := gw 713 (by decide +kernel) (by decide +kernel)
theorem k684 : (Cond.methodLink "CandleLoomLaw" 137 yL_knot) ∈ GW := gw 715 (by decide +kernel) (by decide +kernel)
theorem k685 : (Cond.static yL_knot) ∈ GW := gw 716 (by decide +kernel) (by decide +kernel)
theorem k686 : (Cond.codeWith yL_knot method_10_code 5 (Option.some FieldType.int) [((3 : Nat), (10 : Nat), (13 : Nat), (25 : Nat)), ((3 : Nat), (10 : Nat), (18 : Nat), (19 : Nat))]) ∈ GW := gw 717 (by decide +kernel) (by decide +kernel)
theorem k687 : (Cond.methodLink "CandleLoomLaw" 43 yX11_knot) ∈ GW := gw 718 (by decide +kernel) (by decide +kernel)
theorem k688 : (Cond.instanceMethod yX11_knot) ∈ GW := gw 719 (by decide +kernel) (by decide +kernel)
theorem k689 : (Cond.selects "CandleLoom" yX11_knot yX11_knot) ∈ GW := gw 720 (by decide +kernel) (by decide +kernel)
theorem k690 : (Cond.code yX11_knot prog_1_method_17_code 3 (Option.some FieldType.int)) ∈ GW := gw 721 (by decide +kernel) (by decide +kernel)
theorem k691 : (Cond.fieldLink "CandleLoom" 138 "CandleLoom$Kind" "KNOT" "LCandleLoom$Kind;") ∈ GW := gw 722 (by decide +kernel) (by decide +kernel)
theorem k693 : (Cond.methodLink "CandleLoomLaw" 154 yL_execute) ∈ GW := gw 724 (by decide +kernel) (by decide +kernel)
theorem k694 : (Cond.static yL_execute) ∈ GW := gw 725 (by decide +kernel) (by decide +kernel)
theorem k695 : (Cond.codeWith yL_execute method_21_code 3 (Option.some FieldType.int) [((3 : Nat), (8 : Nat), (11 : Nat), (17 : Nat)), ((3 : Nat), (8 : Nat), (15 : Nat), (19 : Nat))]) ∈ GW := gw 726 (by decide +kernel) (by decide +kernel)
theorem k696 : (Cond.methodLink "CandleLoomLaw" 87 yX11_execute) ∈ GW := gw 727 (by decide +kernel) (by decide +kernel)
theorem k697 : (Cond.instanceMethod yX11_execute) ∈ GW := gw 728 (by decide +kernel) (by decide +kernel)
theorem k698 : (Cond.selects "CandleLoom" yX11_execute yX11_execute) ∈ GW := gw 729 (by decide +kernel) (by decide +kernel)
theorem k699 : (Cond.code yX11_execute prog_1_method_42_code 3 (Option.some FieldType.int)) ∈ GW := gw 730 (by decide +kernel) (by decide +kernel)
theorem k700 : (Cond.methodLink "CandleLoom" 248 yX9_parse) ∈ GW := gw 731 (by decide +kernel) (by decide +kernel)
theorem k701 : (Cond.instanceMethod yX9_parse) ∈ GW := gw 732 (by decide +kernel) (by decide +kernel)
theorem k702 : (Cond.selects "CandleLoom$Script" yX9_parse yX9_parse) ∈ GW := gw 733 (by decide +kernel) (by decide +kernel)
theorem k703 : (Cond.code yX9_parse prog_11_method_5_code 2 (Option.some FieldType.boolean)) ∈ GW := gw 734 (by decide +kernel) (by decide +kernel)
theorem k704 : (Cond.methodLink "CandleLoom$Script" 32 yX9_readCommand) ∈ GW := gw 735 (by decide +kernel) (by decide +kernel)
theorem k706 : (Cond.instanceMethod yX9_readCommand) ∈ GW := gw 737 (by decide +kernel) (by decide +kernel)
theorem k707 : (Cond.code yX9_readCommand prog_11_method_6_code 7 (Option.some FieldType.boolean)) ∈ GW := gw 738 (by decide +kernel) (by decide +kernel)
theorem k708 : (Cond.methodLink "CandleLoom$Script" 40 yX9_readWord) ∈ GW := gw 739 (by decide +kernel) (by decide +kernel)
theorem k710 : (Cond.instanceMethod yX9_readWord) ∈ GW := gw 741 (by decide +kernel) (by decide +kernel)
theorem k711 : (Cond.code yX9_readWord prog_11_method_7_code 4 (Option.some (FieldType.object "CandleLoom$Kind"))) ∈ GW := gw 742 (by decide +kernel) (by decide +kernel)
theorem k714 : (Cond.methodLink "CandleLoom$Script" 81 yX9_countSame) ∈ GW := gw 745 (by decide +kernel) (by decide +kernel)
theorem k716 : (Cond.instanceMethod yX9_countSame) ∈ GW := gw 747 (by decide +kernel) (by decide +kernel)
theorem k717 : (Cond.code yX9_countSame prog_11_method_8_code 3 (Option.some FieldType.int)) ∈ GW := gw 748 (by decide +kernel) (by decide +kernel)
theorem k718 : (Cond.methodLink "CandleLoom$Script" 54 yJ0_length_8abf5) ∈ GW := gw 749 (by decide +kernel) (by decide +kernel)
theorem k719 : (Cond.instanceMethod yJ0_length_8abf5) ∈ GW := gw 750 (by decide +kernel) (by decide +kernel)
theorem k720 : (Cond.selects "java/lang/String" yJ0_length_8abf5 yJ0_length_8abf5) ∈ GW := gw 751 (by decide +kernel) (by decide +kernel)
theorem k721 : (Cond.code yJ0_length_8abf5 prog_28_method_54_code 1 (Option.some FieldType.int)) ∈ GW := gw 752 (by decide +kernel) (by decide +kernel)
theorem k722 : (Cond.methodLink "java/lang/String" 335 yJ0_coder_7d493) ∈ GW := gw 753 (by decide +kernel) (by decide +kernel)
theorem k723 : (Cond.instanceMethod yJ0_coder_7d493) ∈ GW := gw 754 (by decide +kernel) (by decide +kernel)
theorem k724 : (Cond.selects "java/lang/String" yJ0_coder_7d493 yJ0_coder_7d493) ∈ GW := gw 755 (by decide +kernel) (by decide +kernel)
theorem k725 : (Cond.code yJ0_coder_7d493 prog_28_method_152_code 1 (Option.some FieldType.byte)) ∈ GW := gw 756 (by decide +kernel) (by decide +kernel)
theorem k726 : (Cond.fieldLink "java/lang/String" 38 "java/lang/String" "COMPACT_STRINGS" "Z") ∈ GW := gw 757 (by decide +kernel) (by decide +kernel)
theorem k728 : (Cond.methodLink "CandleLoom$Script" 59 yJ0_charAt_5068e) ∈ GW := gw 759 (by decide +kernel) (by decide +kernel)
theorem k729 : (Cond.instanceMethod yJ0_charAt_5068e) ∈ GW := gw 760 (by decide +kernel) (by decide +kernel)
theorem k730 : (Cond.selects "java/lang/String" yJ0_charAt_5068e yJ0_charAt_5068e) ∈ GW := gw 761 (by decide +kernel) (by decide +kernel)
theorem k731 : (Cond.code yJ0_charAt_5068e prog_28_method_56_code 2 (Option.some FieldType.char)) ∈ GW := gw 762 (by decide +kernel) (by decide +kernel)
theorem k732 : (Cond.methodLink "java/lang/String" 492 yJ0_isLatin1_aae02) ∈ GW := gw 763 (by decide +kernel) (by decide +kernel)
theorem k733 : (Cond.instanceMethod yJ0_isLatin1_aae02) ∈ GW := gw 764 (by decide +kernel) (by decide +kernel)
theorem k734 : (Cond.selects "java/lang/String" yJ0_isLatin1_aae02 yJ0_isLatin1_aae02) ∈ GW := gw 765 (by decide +kernel) (by decide +kernel)
theorem k735 : (Cond.code yJ0_isLatin1_aae02 prog_28_method_154_code 1 (Option.some FieldType.boolean)) ∈ GW := gw 766 (by decide +kernel) (by decide +kernel)
theorem k736 : (Cond.methodLink "java/lang/String" 495 yJ1_charAt_3b067) ∈ GW := gw 767 (by decide +kernel) (by decide +kernel)
theorem k737 : (Cond.static yJ1_charAt_3b067) ∈ GW := gw 768 (by decide +kernel) (by decide +kernel)
theorem k738 : (Cond.code yJ1_charAt_3b067 prog_29_method_2_code 2 (Option.some FieldType.char)) ∈ GW := gw 769 (by decide +kernel) (by decide +kernel)
theorem k739 : (Cond.methodLink "java/lang/StringLatin1" 9 yJ0_checkIndex_df160) ∈ GW := gw 770 (by decide +kernel) (by decide +kernel)
theorem k740 : (Cond.static yJ0_checkIndex_df160) ∈ GW := gw 771 (by decide +kernel) (by decide +kernel)
theorem k741 : (Cond.code yJ0_checkIndex_df160 prog_28_method_155_code 2 (none)) ∈ GW := gw 772 (by decide +kernel) (by decide +kernel)
theorem k742 : (Cond.fieldLink "java/lang/String" 1053 "jdk/internal/util/Preconditions" "SIOOBE_FORMATTER" "Ljava/util/function/BiFunction;") ∈ GW := gw 773 (by decide +kernel) (by decide +kernel)
theorem k744 : (Cond.methodLink "java/lang/String" 1059 yJ3_checkIndex_8e157) ∈ GW := gw 775 (by decide +kernel) (by decide +kernel)
theorem k745 : (Cond.static yJ3_checkIndex_8e157) ∈ GW := gw 776 (by decide +kernel) (by decide +kernel)
theorem k746 : (Cond.code yJ3_checkIndex_8e157 prog_37_method_11_code 3 (Option.some FieldType.int)) ∈ GW := gw 777 (by decide +kernel) (by decide +kernel)
theorem k747 : (Cond.methodLink "java/lang/String" 498 yJ2_charAt_3b067) ∈ GW := gw 778 (by decide +kernel) (by decide +kernel)
theorem k748 : (Cond.static yJ2_charAt_3b067) ∈ GW := gw 779 (by decide +kernel) (by decide +kernel)
theorem k749 : (Cond.code yJ2_charAt_3b067 prog_30_method_83_code 2 (Option.some FieldType.char)) ∈ GW := gw 780 (by decide +kernel) (by decide +kernel)
theorem k750 : (Cond.methodLink "java/lang/StringUTF16" 67 yJ2_checkIndex_2214a) ∈ GW := gw 781 (by decide +kernel) (by decide +kernel)
theorem k751 : (Cond.static yJ2_checkIndex_2214a) ∈ GW := gw 782 (by decide +kernel) (by decide +kernel)
theorem k752 : (Cond.code yJ2_checkIndex_2214a prog_30_method_91_code 2 (none)) ∈ GW := gw 783 (by decide +kernel) (by decide +kernel)
theorem k753 : (Cond.methodLink "java/lang/StringUTF16" 48 yJ2_length_9d52b) ∈ GW := gw 784 (by decide +kernel) (by decide +kernel)
theorem k754 : (Cond.static yJ2_length_9d52b) ∈ GW := gw 785 (by decide +kernel) (by decide +kernel)
theorem k755 : (Cond.code yJ2_length_9d52b prog_30_method_6_code 1 (Option.some FieldType.int)) ∈ GW := gw 786 (by decide +kernel) (by decide +kernel)
theorem k756 : (Cond.methodLink "java/lang/StringUTF16" 414 yJ0_checkIndex_df160) ∈ GW := gw 787 (by decide +kernel) (by decide +kernel)
theorem k757 : (Cond.methodLink "java/lang/StringUTF16" 71 yJ2_getChar_3b067) ∈ GW := gw 788 (by decide +kernel) (by decide +kernel)
theorem k758 : (Cond.static yJ2_getChar_3b067) ∈ GW := gw 789 (by decide +kernel) (by decide +kernel)
theorem k759 : (Cond.code yJ2_getChar_3b067 prog_30_method_5_code 2 (Option.some FieldType.char)) ∈ GW := gw 790 (by decide +kernel) (by decide +kernel)
theorem k760 : (Cond.fieldLink "java/lang/StringUTF16" 44 "java/lang/StringUTF16" "$assertionsDisabled" "Z") ∈ GW := gw 791 (by decide +kernel) (by decide +kernel)
theorem k762 : (Cond.fieldLink "java/lang/StringUTF16" 59 "java/lang/StringUTF16" "HI_BYTE_SHIFT" "I") ∈ GW := gw 793 (by decide +kernel) (by decide +kernel)
theorem k764 : (Cond.fieldLink "java/lang/StringUTF16" 63 "java/lang/StringUTF16" "LO_BYTE_SHIFT" "I") ∈ GW := gw 795 (by decide +kernel) (by decide +kernel)
theorem k766 : (Cond.methodLink "CandleLoom$Script" 85 yJ9_max_7cf53) ∈ GW := gw 797 (by decide +kernel) (by decide +kernel)
theorem k767 : (Cond.static yJ9_max_7cf53) ∈ GW := gw 798 (by decide +kernel) (by decide +kernel)
theorem k768 : (Cond.code yJ9_max_7cf53 prog_26_method_65_code 2 (Option.some FieldType.int)) ∈ GW := gw 799 (by decide +kernel) (by decide +kernel)
theorem k769 : (Cond.methodLink "CandleLoom$Script" 44 yX2_become) ∈ GW := gw 800 (by decide +kernel) (by decide +kernel)
theorem k770 : (Cond.methodLink "CandleLoom$Script" 36 yX9_readSign) ∈ GW := gw 801 (by decide +kernel) (by decide +kernel)
theorem k772 : (Cond.instanceMethod yX9_readSign) ∈ GW := gw 803 (by decide +kernel) (by decide +kernel)
theorem k773 : (Cond.code yX9_readSign prog_11_method_12_code 2 (Option.some FieldType.boolean)) ∈ GW := gw 804 (by decide +kernel) (by decide +kernel)
theorem k774 : (Cond.methodLink "CandleLoom$Script" 63 yX9_readSide) ∈ GW := gw 805 (by decide +kernel) (by decide +kernel)
theorem k776 : (Cond.instanceMethod yX9_readSide) ∈ GW := gw 807 (by decide +kernel) (by decide +kernel)
theorem k777 : (Cond.code yX9_readSide prog_11_method_11_code 1 (Option.some FieldType.int)) ∈ GW := gw 808 (by decide +kernel) (by decide +kernel)
theorem k778 : (Cond.methodLink "CandleLoom$Script" 66 yX9_readDigits) ∈ GW := gw 809 (by decide +kernel) (by decide +kernel)
theorem k780 : (Cond.instanceMethod yX9_readDigits) ∈ GW := gw 811 (by decide +kernel) (by decide +kernel)
theorem k781 : (Cond.code yX9_readDigits prog_11_method_9_code 4 (Option.some FieldType.int)) ∈ GW := gw 812 (by decide +kernel) (by decide +kernel)
theorem k782 : (Cond.methodLink "CandleLoom$Script" 91 yX9_digitIsNext) ∈ GW := gw 813 (by decide +kernel) (by decide +kernel)
theorem k784 : (Cond.instanceMethod yX9_digitIsNext) ∈ GW := gw 815 (by decide +kernel) (by decide +kernel)
theorem k785 : (Cond.code yX9_digitIsNext prog_11_method_10_code 1 (Option.some FieldType.boolean)) ∈ GW := gw 816 (by decide +kernel) (by decide +kernel)
theorem k786 : (Cond.methodLink "CandleLoom$Script" 70 yX2_put) ∈ GW := gw 817 (by decide +kernel) (by decide +kernel)
theorem k787 : (Cond.instanceMethod yX2_put) ∈ GW := gw 818 (by decide +kernel) (by decide +kernel)
theorem k788 : (Cond.selects "CandleLoom$Command" yX2_put yX2_put) ∈ GW := gw 819 (by decide +kernel) (by decide +kernel)
theorem k789 : (Cond.code yX2_put prog_4_method_3_code 3 (none)) ∈ GW := gw 820 (by decide +kernel) (by decide +kernel)
theorem k790 : (Cond.methodLink "CandleLoom" 251 yX9_clear) ∈ GW := gw 821 (by decide +kernel) (by decide +kernel)
theorem k791 : (Cond.instanceMethod yX9_clear) ∈ GW := gw 822 (by decide +kernel) (by decide +kernel)
theorem k792 : (Cond.selects "CandleLoom$Script" yX9_clear yX9_clear) ∈ GW := gw 823 (by decide +kernel) (by decide +kernel)
theorem k793 : (Cond.code yX9_clear prog_11_method_4_code 1 (none)) ∈ GW := gw 824 (by decide +kernel) (by decide +kernel)
theorem k794 : (Cond.methodLink "CandleLoom" 268 yX11_firstFailingCommand) ∈ GW := gw 825 (by decide +kernel) (by decide +kernel)
theorem k796 : (Cond.instanceMethod yX11_firstFailingCommand) ∈ GW := gw 827 (by decide +kernel) (by decide +kernel)
theorem k797 : (Cond.code yX11_firstFailingCommand prog_1_method_55_code 4 (Option.some FieldType.int)) ∈ GW := gw 828 (by decide +kernel) (by decide +kernel)
theorem k798 : (Cond.methodLink "CandleLoomLaw" 324 yL_denial) ∈ GW := gw 829 (by decide +kernel) (by decide +kernel)
theorem k799 : (Cond.static yL_denial) ∈ GW := gw 830 (by decide +kernel) (by decide +kernel)
theorem k800 : (Cond.codeWith yL_denial method_22_code 3 (Option.some FieldType.int) [((4 : Nat), (9 : Nat), (12 : Nat), (56 : Nat))]) ∈ GW := gw 831 (by decide +kernel) (by decide +kernel)
theorem k801 : (Cond.classLink "CandleLoomLaw" 56 "java/util/NoSuchElementException") ∈ GW := gw 832 (by decide +kernel) (by decide +kernel)
theorem k802 : (Cond.methodLink "CandleLoomLaw" 90 yX11_denial) ∈ GW := gw 833 (by decide +kernel) (by decide +kernel)
theorem k803 : (Cond.instanceMethod yX11_denial) ∈ GW := gw 834 (by decide +kernel) (by decide +kernel)
theorem k804 : (Cond.selects "CandleLoom" yX11_denial yX11_denial) ∈ GW := gw 835 (by decide +kernel) (by decide +kernel)
theorem k805 : (Cond.code yX11_denial prog_1_method_47_code 1 (Option.some FieldType.int)) ∈ GW := gw 836 (by decide +kernel) (by decide +kernel)
theorem k806 : (Cond.methodLink "CandleLoom" 110 yX11_requireElement) ∈ GW := gw 837 (by decide +kernel) (by decide +kernel)
theorem k807 : (Cond.static yX11_requireElement) ∈ GW := gw 838 (by decide +kernel) (by decide +kernel)
theorem k808 : (Cond.code yX11_requireElement prog_1_method_60_code 1 (none)) ∈ GW := gw 839 (by decide +kernel) (by decide +kernel)
theorem k809 : (Cond.classLink "CandleLoom" 349 "java/util/NoSuchElementException") ∈ GW := gw 840 (by decide +kernel) (by decide +kernel)
theorem k810 : (Cond.instantiable "java/util/NoSuchElementException" 6) ∈ GW := gw 841 (by decide +kernel) (by decide +kernel)
theorem k812 : (Cond.selects "java/util/NoSuchElementException" ⟨"java/lang/Throwable", "fillInStackTrace", "(I)Ljava/lang/Throwable;"⟩ ⟨"java/lang/Throwable", "fillInStackTrace", "(I)Ljava/lang/Throwable;"⟩) ∈ GW := gw 843 (by decide +kernel) (by decide +kernel)
theorem k819 : (Cond.methodLink "CandleLoom" 353 ⟨"java/util/NoSuchElementException", "<init>", "(Ljava/lang/String;)V"⟩) ∈ GW := gw 850 (by decide +kernel) (by decide +kernel)
theorem k820 : (Cond.instanceMethod ⟨"java/util/NoSuchElementException", "<init>", "(Ljava/lang/String;)V"⟩) ∈ GW := gw 851 (by decide +kernel) (by decide +kernel)
theorem k821 : (Cond.code ⟨"java/util/NoSuchElementException", "<init>", "(Ljava/lang/String;)V"⟩ prog_36_method_4_code 2 (none)) ∈ GW := gw 852 (by decide +kernel) (by decide +kernel)
theorem k822 : (Cond.methodLink "java/util/NoSuchElementException" 13 ⟨"java/lang/RuntimeException", "<init>", "(Ljava/lang/String;)V"⟩) ∈ GW := gw 853 (by decide +kernel) (by decide +kernel)
theorem k825 : (Cond.methodLink "CandleLoomLaw" 326 yL_denialCause) ∈ GW := gw 856 (by decide +kernel) (by decide +kernel)
theorem k826 : (Cond.static yL_denialCause) ∈ GW := gw 857 (by decide +kernel) (by decide +kernel)
theorem k827 : (Cond.codeWith yL_denialCause method_23_code 3 (Option.some FieldType.int) [((4 : Nat), (9 : Nat), (12 : Nat), (56 : Nat))]) ∈ GW := gw 858 (by decide +kernel) (by decide +kernel)
theorem k828 : (Cond.methodLink "CandleLoomLaw" 93 yX11_denialCause) ∈ GW := gw 859 (by decide +kernel) (by decide +kernel)
theorem k829 : (Cond.instanceMethod yX11_denialCause) ∈ GW := gw 860 (by decide +kernel) (by decide +kernel)
theorem k830 : (Cond.selects "CandleLoom" yX11_denialCause yX11_denialCause) ∈ GW := gw 861 (by decide +kernel) (by decide +kernel)
theorem k831 : (Cond.code yX11_denialCause prog_1_method_49_code 1 (Option.some FieldType.int)) ∈ GW := gw 862 (by decide +kernel) (by decide +kernel)
theorem k832 : (Cond.methodLink "CandleLoomLaw" 163 yL_undo) ∈ GW := gw 863 (by decide +kernel) (by decide +kernel)
theorem k833 : (Cond.static yL_undo) ∈ GW := gw 864 (by decide +kernel) (by decide +kernel)
theorem k834 : (Cond.codeWith yL_undo method_24_code 3 (Option.some FieldType.int) [((3 : Nat), (8 : Nat), (11 : Nat), (99 : Nat))]) ∈ GW := gw 865 (by decide +kernel) (by decide +kernel)
theorem k835 : (Cond.classLink "CandleLoomLaw" 99 "java/lang/IllegalStateException") ∈ GW := gw 866 (by decide +kernel) (by decide +kernel)
theorem k836 : (Cond.methodLink "CandleLoomLaw" 96 yX11_undo) ∈ GW := gw 867 (by decide +kernel) (by decide +kernel)
theorem k837 : (Cond.instanceMethod yX11_undo) ∈ GW := gw 868 (by decide +kernel) (by decide +kernel)
theorem k838 : (Cond.selects "CandleLoom" yX11_undo yX11_undo) ∈ GW := gw 869 (by decide +kernel) (by decide +kernel)
theorem k839 : (Cond.code yX11_undo prog_1_method_50_code 1 (Option.some FieldType.int)) ∈ GW := gw 870 (by decide +kernel) (by decide +kernel)
theorem k840 : (Cond.methodLink "CandleLoom" 241 yX11_requireState) ∈ GW := gw 871 (by decide +kernel) (by decide +kernel)
theorem k841 : (Cond.static yX11_requireState) ∈ GW := gw 872 (by decide +kernel) (by decide +kernel)
theorem k842 : (Cond.code yX11_requireState prog_1_method_61_code 1 (none)) ∈ GW := gw 873 (by decide +kernel) (by decide +kernel)
theorem k843 : (Cond.classLink "CandleLoom" 354 "java/lang/IllegalStateException") ∈ GW := gw 874 (by decide +kernel) (by decide +kernel)
theorem k844 : (Cond.instantiable "java/lang/IllegalStateException" 6) ∈ GW := gw 875 (by decide +kernel) (by decide +kernel)
theorem k846 : (Cond.selects "java/lang/IllegalStateException" ⟨"java/lang/Throwable", "fillInStackTrace", "(I)Ljava/lang/Throwable;"⟩ ⟨"java/lang/Throwable", "fillInStackTrace", "(I)Ljava/lang/Throwable;"⟩) ∈ GW := gw 877 (by decide +kernel) (by decide +kernel)
theorem k853 : (Cond.methodLink "CandleLoom" 358 ⟨"java/lang/IllegalStateException", "<init>", "(Ljava/lang/String;)V"⟩) ∈ GW := gw 884 (by decide +kernel) (by decide +kernel)
theorem k854 : (Cond.instanceMethod ⟨"java/lang/IllegalStateException", "<init>", "(Ljava/lang/String;)V"⟩) ∈ GW := gw 885 (by decide +kernel) (by decide +kernel)
theorem k855 : (Cond.code ⟨"java/lang/IllegalStateException", "<init>", "(Ljava/lang/String;)V"⟩ prog_23_method_2_code 2 (none)) ∈ GW := gw 886 (by decide +kernel) (by decide +kernel)
theorem k856 : (Cond.methodLink "java/lang/IllegalStateException" 7 ⟨"java/lang/RuntimeException", "<init>", "(Ljava/lang/String;)V"⟩) ∈ GW := gw 887 (by decide +kernel) (by decide +kernel)
theorem k859 : (Cond.methodLink "CandleLoom" 306 yX4_takeBack) ∈ GW := gw 890 (by decide +kernel) (by decide +kernel)
theorem k860 : (Cond.instanceMethod yX4_takeBack) ∈ GW := gw 891 (by decide +kernel) (by decide +kernel)
theorem k861 : (Cond.selects "CandleLoom$History" yX4_takeBack yX4_takeBack) ∈ GW := gw 892 (by decide +kernel) (by decide +kernel)
theorem k862 : (Cond.code yX4_takeBack prog_6_method_3_code 2 (none)) ∈ GW := gw 893 (by decide +kernel) (by decide +kernel)
theorem k863 : (Cond.methodLink "CandleLoomLaw" 160 yL_restore) ∈ GW := gw 894 (by decide +kernel) (by decide +kernel)
theorem k864 : (Cond.static yL_restore) ∈ GW := gw 895 (by decide +kernel) (by decide +kernel)
theorem k865 : (Cond.codeWith yL_restore method_25_code 3 (Option.some FieldType.int) [((3 : Nat), (8 : Nat), (11 : Nat), (99 : Nat))]) ∈ GW := gw 896 (by decide +kernel) (by decide +kernel)
theorem k866 : (Cond.methodLink "CandleLoomLaw" 101 yX11_restoreSnapshot) ∈ GW := gw 897 (by decide +kernel) (by decide +kernel)
theorem k867 : (Cond.instanceMethod yX11_restoreSnapshot) ∈ GW := gw 898 (by decide +kernel) (by decide +kernel)
theorem k868 : (Cond.selects "CandleLoom" yX11_restoreSnapshot yX11_restoreSnapshot) ∈ GW := gw 899 (by decide +kernel) (by decide +kernel)
theorem k869 : (Cond.code yX11_restoreSnapshot prog_1_method_53_code 1 (Option.some FieldType.int)) ∈ GW := gw 900 (by decide +kernel) (by decide +kernel)
theorem k870 : (Cond.methodLink "CandleLoom" 312 yX4_forget) ∈ GW := gw 901 (by decide +kernel) (by decide +kernel)
theorem k871 : (Cond.instanceMethod yX4_forget) ∈ GW := gw 902 (by decide +kernel) (by decide +kernel)
theorem k872 : (Cond.selects "CandleLoom$History" yX4_forget yX4_forget) ∈ GW := gw 903 (by decide +kernel) (by decide +kernel)
theorem k873 : (Cond.code yX4_forget prog_6_method_4_code 1 (none)) ∈ GW := gw 904 (by decide +kernel) (by decide +kernel)
theorem k874 : (Cond.methodLink "CandleLoomLaw" 150 yL_write) ∈ GW := gw 905 (by decide +kernel) (by decide +kernel)
theorem k875 : (Cond.static yL_write) ∈ GW := gw 906 (by decide +kernel) (by decide +kernel)
theorem k876 : (Cond.code yL_write method_27_code 3 (Option.some (FieldType.object "CandleLoom"))) ∈ GW := gw 907 (by decide +kernel) (by decide +kernel)
theorem k877 : (Cond.methodLink "CandleLoomLaw" 107 yJ0_length_8abf5) ∈ GW := gw 908 (by decide +kernel) (by decide +kernel)
theorem k878 : (Cond.methodLink "CandleLoomLaw" 112 yJ0_charAt_5068e) ∈ GW := gw 909 (by decide +kernel) (by decide +kernel)
theorem k879 : (Cond.methodLink "CandleLoomLaw" 116 yL_put) ∈ GW := gw 910 (by decide +kernel) (by decide +kernel)
theorem k880 : (Cond.static yL_put) ∈ GW := gw 911 (by decide +kernel) (by decide +kernel)
theorem k881 : (Cond.codeWith yL_put method_26_code 3 (Option.some FieldType.boolean) [((0 : Nat), (6 : Nat), (9 : Nat), (99 : Nat))]) ∈ GW := gw 912 (by decide +kernel) (by decide +kernel)
theorem k882 : (Cond.methodLink "CandleLoomLaw" 104 yX11_feed) ∈ GW := gw 913 (by decide +kernel) (by decide +kernel)
theorem k883 : (Cond.instanceMethod yX11_feed) ∈ GW := gw 914 (by decide +kernel) (by decide +kernel)
theorem k884 : (Cond.selects "CandleLoom" yX11_feed yX11_feed) ∈ GW := gw 915 (by decide +kernel) (by decide +kernel)
theorem k885 : (Cond.code yX11_feed prog_1_method_41_code 2 (Option.some FieldType.int)) ∈ GW := gw 916 (by decide +kernel) (by decide +kernel)
theorem k886 : (Cond.methodLink "CandleLoom" 238 yX9_isFull) ∈ GW := gw 917 (by decide +kernel) (by decide +kernel)
theorem k887 : (Cond.instanceMethod yX9_isFull) ∈ GW := gw 918 (by decide +kernel) (by decide +kernel)
theorem k888 : (Cond.selects "CandleLoom$Script" yX9_isFull yX9_isFull) ∈ GW := gw 919 (by decide +kernel) (by decide +kernel)
theorem k889 : (Cond.code yX9_isFull prog_11_method_2_code 1 (Option.some FieldType.boolean)) ∈ GW := gw 920 (by decide +kernel) (by decide +kernel)
theorem k890 : (Cond.methodLink "CandleLoom" 244 yX9_append) ∈ GW := gw 921 (by decide +kernel) (by decide +kernel)
theorem k891 : (Cond.instanceMethod yX9_append) ∈ GW := gw 922 (by decide +kernel) (by decide +kernel)
theorem k892 : (Cond.selects "CandleLoom$Script" yX9_append yX9_append) ∈ GW := gw 923 (by decide +kernel) (by decide +kernel)
theorem k893 : (Cond.code yX9_append prog_11_method_3_code 2 (Option.some FieldType.int)) ∈ GW := gw 924 (by decide +kernel) (by decide +kernel)
theorem k894 : (Cond.methodLink "CandleLoomLaw" 318 yL_act) ∈ GW := gw 925 (by decide +kernel) (by decide +kernel)
theorem k895 : (Cond.static yL_act) ∈ GW := gw 926 (by decide +kernel) (by decide +kernel)
theorem k896 : (Cond.code yL_act method_28_code 4 (Option.some FieldType.int)) ∈ GW := gw 927 (by decide +kernel) (by decide +kernel)
theorem k897 : (Cond.methodLink "CandleLoomLaw" 126 yL_snuff) ∈ GW := gw 928 (by decide +kernel) (by decide +kernel)
theorem k898 : (Cond.static yL_snuff) ∈ GW := gw 929 (by decide +kernel) (by decide +kernel)
theorem k899 : (Cond.codeWith yL_snuff method_5_code 4 (Option.some FieldType.int) [((3 : Nat), (9 : Nat), (12 : Nat), (25 : Nat)), ((3 : Nat), (9 : Nat), (16 : Nat), (19 : Nat))]) ∈ GW := gw 930 (by decide +kernel) (by decide +kernel)
theorem k900 : (Cond.methodLink "CandleLoomLaw" 27 yX11_snuff) ∈ GW := gw 931 (by decide +kernel) (by decide +kernel)
theorem k901 : (Cond.instanceMethod yX11_snuff) ∈ GW := gw 932 (by decide +kernel) (by decide +kernel)
theorem k902 : (Cond.selects "CandleLoom" yX11_snuff yX11_snuff) ∈ GW := gw 933 (by decide +kernel) (by decide +kernel)
theorem k903 : (Cond.code yX11_snuff prog_1_method_4_code 2 (Option.some FieldType.int)) ∈ GW := gw 934 (by decide +kernel) (by decide +kernel)
theorem k904 : (Cond.fieldLink "CandleLoom" 74 "CandleLoom$Kind" "SNUFF" "LCandleLoom$Kind;") ∈ GW := gw 935 (by decide +kernel) (by decide +kernel)
theorem k906 : (Cond.methodLink "CandleLoomLaw" 133 yL_ravel) ∈ GW := gw 937 (by decide +kernel) (by decide +kernel)
theorem k907 : (Cond.static yL_ravel) ∈ GW := gw 938 (by decide +kernel) (by decide +kernel)
theorem k908 : (Cond.codeWith yL_ravel method_8_code 4 (Option.some FieldType.int) [((3 : Nat), (9 : Nat), (12 : Nat), (17 : Nat)), ((3 : Nat), (9 : Nat), (16 : Nat), (19 : Nat))]) ∈ GW := gw 939 (by decide +kernel) (by decide +kernel)
theorem k909 : (Cond.methodLink "CandleLoomLaw" 37 yX11_ravel) ∈ GW := gw 940 (by decide +kernel) (by decide +kernel)
theorem k910 : (Cond.instanceMethod yX11_ravel) ∈ GW := gw 941 (by decide +kernel) (by decide +kernel)
theorem k911 : (Cond.selects "CandleLoom" yX11_ravel yX11_ravel) ∈ GW := gw 942 (by decide +kernel) (by decide +kernel)
theorem k912 : (Cond.code yX11_ravel prog_1_method_15_code 2 (Option.some FieldType.int)) ∈ GW := gw 943 (by decide +kernel) (by decide +kernel)
theorem k913 : (Cond.fieldLink "CandleLoom" 132 "CandleLoom$Kind" "RAVEL" "LCandleLoom$Kind;") ∈ GW := gw 944 (by decide +kernel) (by decide +kernel)
theorem k915 : (Cond.methodLink "CandleLoomLaw" 139 yL_untie) ∈ GW := gw 946 (by decide +kernel) (by decide +kernel)
theorem k916 : (Cond.static yL_untie) ∈ GW := gw 947 (by decide +kernel) (by decide +kernel)
theorem k917 : (Cond.codeWith yL_untie method_11_code 5 (Option.some FieldType.int) [((3 : Nat), (10 : Nat), (13 : Nat), (25 : Nat)), ((3 : Nat), (10 : Nat), (18 : Nat), (19 : Nat))]) ∈ GW := gw 948 (by decide +kernel) (by decide +kernel)
theorem k918 : (Cond.methodLink "CandleLoomLaw" 46 yX11_untie) ∈ GW := gw 949 (by decide +kernel) (by decide +kernel)
theorem k919 : (Cond.instanceMethod yX11_untie) ∈ GW := gw 950 (by decide +kernel) (by decide +kernel)
theorem k920 : (Cond.selects "CandleLoom" yX11_untie yX11_untie) ∈ GW := gw 951 (by decide +kernel) (by decide +kernel)
theorem k921 : (Cond.code yX11_untie prog_1_method_18_code 3 (Option.some FieldType.int)) ∈ GW := gw 952 (by decide +kernel) (by decide +kernel)
theorem k922 : (Cond.fieldLink "CandleLoom" 141 "CandleLoom$Kind" "UNTIE" "LCandleLoom$Kind;") ∈ GW := gw 953 (by decide +kernel) (by decide +kernel)
theorem k925 : (Cond.methodLink "CandleLoomLaw" 143 yL_mend) ∈ GW := gw 956 (by decide +kernel) (by decide +kernel)
theorem k926 : (Cond.static yL_mend) ∈ GW := gw 957 (by decide +kernel) (by decide +kernel)
theorem k927 : (Cond.codeWith yL_mend method_12_code 4 (Option.some FieldType.int) [((3 : Nat), (9 : Nat), (12 : Nat), (17 : Nat)), ((3 : Nat), (9 : Nat), (16 : Nat), (19 : Nat))]) ∈ GW := gw 958 (by decide +kernel) (by decide +kernel)
theorem k928 : (Cond.methodLink "CandleLoomLaw" 49 yX11_mend) ∈ GW := gw 959 (by decide +kernel) (by decide +kernel)
theorem k929 : (Cond.instanceMethod yX11_mend) ∈ GW := gw 960 (by decide +kernel) (by decide +kernel)
theorem k930 : (Cond.selects "CandleLoom" yX11_mend yX11_mend) ∈ GW := gw 961 (by decide +kernel) (by decide +kernel)
theorem k931 : (Cond.code yX11_mend prog_1_method_19_code 2 (Option.some FieldType.int)) ∈ GW := gw 962 (by decide +kernel) (by decide +kernel)
theorem k932 : (Cond.fieldLink "CandleLoom" 144 "CandleLoom$Kind" "MEND" "LCandleLoom$Kind;") ∈ GW := gw 963 (by decide +kernel) (by decide +kernel)
theorem k934 : (Cond.fieldLink "CandleLoomLaw" 146 "CandleLoomLaw" "TEXTS" "[Ljava/lang/String;") ∈ GW := gw 965 (by decide +kernel) (by decide +kernel)
theorem k936 : (Cond.methodLink "CandleLoomLaw" 283 yL_digest) ∈ GW := gw 967 (by decide +kernel) (by decide +kernel)
theorem k937 : (Cond.static yL_digest) ∈ GW := gw 968 (by decide +kernel) (by decide +kernel)
theorem k938 : (Cond.code yL_digest method_29_code 5 (Option.some FieldType.long)) ∈ GW := gw 969 (by decide +kernel) (by decide +kernel)
theorem k939 : (Cond.constantLong "CandleLoomLaw" 165 (7)) ∈ GW := gw 970 (by decide +kernel) (by decide +kernel)
theorem k940 : (Cond.methodLink "CandleLoomLaw" 167 yX11_wovenTotal) ∈ GW := gw 971 (by decide +kernel) (by decide +kernel)
theorem k941 : (Cond.instanceMethod yX11_wovenTotal) ∈ GW := gw 972 (by decide +kernel) (by decide +kernel)
theorem k942 : (Cond.selects "CandleLoom" yX11_wovenTotal yX11_wovenTotal) ∈ GW := gw 973 (by decide +kernel) (by decide +kernel)
theorem k943 : (Cond.code yX11_wovenTotal prog_1_method_37_code 1 (Option.some FieldType.int)) ∈ GW := gw 974 (by decide +kernel) (by decide +kernel)
theorem k944 : (Cond.constantLong "CandleLoomLaw" 170 (11)) ∈ GW := gw 975 (by decide +kernel) (by decide +kernel)
theorem k945 : (Cond.methodLink "CandleLoomLaw" 172 yX11_waxUsed) ∈ GW := gw 976 (by decide +kernel) (by decide +kernel)
theorem k946 : (Cond.instanceMethod yX11_waxUsed) ∈ GW := gw 977 (by decide +kernel) (by decide +kernel)
theorem k947 : (Cond.selects "CandleLoom" yX11_waxUsed yX11_waxUsed) ∈ GW := gw 978 (by decide +kernel) (by decide +kernel)
theorem k948 : (Cond.code yX11_waxUsed prog_1_method_38_code 1 (Option.some FieldType.int)) ∈ GW := gw 979 (by decide +kernel) (by decide +kernel)
theorem k949 : (Cond.constantLong "CandleLoomLaw" 175 (13)) ∈ GW := gw 980 (by decide +kernel) (by decide +kernel)
theorem k950 : (Cond.methodLink "CandleLoomLaw" 177 yX11_burn) ∈ GW := gw 981 (by decide +kernel) (by decide +kernel)
theorem k951 : (Cond.instanceMethod yX11_burn) ∈ GW := gw 982 (by decide +kernel) (by decide +kernel)
theorem k952 : (Cond.selects "CandleLoom" yX11_burn yX11_burn) ∈ GW := gw 983 (by decide +kernel) (by decide +kernel)
theorem k953 : (Cond.code yX11_burn prog_1_method_28_code 2 (Option.some FieldType.int)) ∈ GW := gw 984 (by decide +kernel) (by decide +kernel)
theorem k954 : (Cond.methodLink "CandleLoom" 180 yX8_isSide) ∈ GW := gw 985 (by decide +kernel) (by decide +kernel)
theorem k955 : (Cond.methodLink "CandleLoom" 186 yX8_edgeAt) ∈ GW := gw 986 (by decide +kernel) (by decide +kernel)
theorem k956 : (Cond.constantLong "CandleLoomLaw" 180 (17)) ∈ GW := gw 987 (by decide +kernel) (by decide +kernel)
theorem k957 : (Cond.constantLong "CandleLoomLaw" 182 (19)) ∈ GW := gw 988 (by decide +kernel) (by decide +kernel)
theorem k958 : (Cond.methodLink "CandleLoomLaw" 184 yX11_heat) ∈ GW := gw 989 (by decide +kernel) (by decide +kernel)
theorem k959 : (Cond.instanceMethod yX11_heat) ∈ GW := gw 990 (by decide +kernel) (by decide +kernel)
theorem k960 : (Cond.selects "CandleLoom" yX11_heat yX11_heat) ∈ GW := gw 991 (by decide +kernel) (by decide +kernel)
theorem k961 : (Cond.code yX11_heat prog_1_method_29_code 2 (Option.some FieldType.int)) ∈ GW := gw 992 (by decide +kernel) (by decide +kernel)
theorem k962 : (Cond.constantLong "CandleLoomLaw" 187 (23)) ∈ GW := gw 993 (by decide +kernel) (by decide +kernel)
theorem k963 : (Cond.methodLink "CandleLoomLaw" 189 yX11_wickCount) ∈ GW := gw 994 (by decide +kernel) (by decide +kernel)
theorem k964 : (Cond.instanceMethod yX11_wickCount) ∈ GW := gw 995 (by decide +kernel) (by decide +kernel)
theorem k965 : (Cond.selects "CandleLoom" yX11_wickCount yX11_wickCount) ∈ GW := gw 996 (by decide +kernel) (by decide +kernel)
theorem k966 : (Cond.code yX11_wickCount prog_1_method_6_code 1 (Option.some FieldType.int)) ∈ GW := gw 997 (by decide +kernel) (by decide +kernel)
theorem k967 : (Cond.constantLong "CandleLoomLaw" 192 (31)) ∈ GW := gw 998 (by decide +kernel) (by decide +kernel)
theorem k968 : (Cond.methodLink "CandleLoomLaw" 194 yX11_wax) ∈ GW := gw 999 (by decide +kernel) (by decide +kernel)
theorem k969 : (Cond.instanceMethod yX11_wax) ∈ GW := gw 1000 (by decide +kernel) (by decide +kernel)
theorem k970 : (Cond.selects "CandleLoom" yX11_wax yX11_wax) ∈ GW := gw 1001 (by decide +kernel) (by decide +kernel)
theorem k971 : (Cond.code yX11_wax prog_1_method_9_code 2 (Option.some FieldType.int)) ∈ GW := gw 1002 (by decide +kernel) (by decide +kernel)
theorem k972 : (Cond.methodLink "CandleLoom" 94 yX10_has) ∈ GW := gw 1003 (by decide +kernel) (by decide +kernel)
theorem k973 : (Cond.methodLink "CandleLoomLaw" 197 yX11_isLit) ∈ GW := gw 1004 (by decide +kernel) (by decide +kernel)
theorem k974 : (Cond.instanceMethod yX11_isLit) ∈ GW := gw 1005 (by decide +kernel) (by decide +kernel)
theorem k975 : (Cond.selects "CandleLoom" yX11_isLit yX11_isLit) ∈ GW := gw 1006 (by decide +kernel) (by decide +kernel)
theorem k976 : (Cond.code yX11_isLit prog_1_method_8_code 2 (Option.some FieldType.boolean)) ∈ GW := gw 1007 (by decide +kernel) (by decide +kernel)
theorem k977 : (Cond.methodLink "CandleLoomLaw" 201 yX11_rowCount) ∈ GW := gw 1008 (by decide +kernel) (by decide +kernel)
theorem k978 : (Cond.instanceMethod yX11_rowCount) ∈ GW := gw 1009 (by decide +kernel) (by decide +kernel)
theorem k979 : (Cond.selects "CandleLoom" yX11_rowCount yX11_rowCount) ∈ GW := gw 1010 (by decide +kernel) (by decide +kernel)
theorem k980 : (Cond.code yX11_rowCount prog_1_method_20_code 1 (Option.some FieldType.int)) ∈ GW := gw 1011 (by decide +kernel) (by decide +kernel)
theorem k981 : (Cond.methodLink "CandleLoomLaw" 204 yX11_nextMask) ∈ GW := gw 1012 (by decide +kernel) (by decide +kernel)
theorem k982 : (Cond.instanceMethod yX11_nextMask) ∈ GW := gw 1013 (by decide +kernel) (by decide +kernel)
theorem k983 : (Cond.selects "CandleLoom" yX11_nextMask yX11_nextMask) ∈ GW := gw 1014 (by decide +kernel) (by decide +kernel)
theorem k984 : (Cond.code yX11_nextMask prog_1_method_11_code 1 (Option.some FieldType.int)) ∈ GW := gw 1015 (by decide +kernel) (by decide +kernel)
theorem k985 : (Cond.methodLink "CandleLoom" 117 yX10_pattern) ∈ GW := gw 1016 (by decide +kernel) (by decide +kernel)
theorem k986 : (Cond.methodLink "CandleLoom" 120 yX8_unburnt) ∈ GW := gw 1017 (by decide +kernel) (by decide +kernel)
theorem k987 : (Cond.methodLink "CandleLoomLaw" 207 yX11_rowMask) ∈ GW := gw 1018 (by decide +kernel) (by decide +kernel)
theorem k988 : (Cond.instanceMethod yX11_rowMask) ∈ GW := gw 1019 (by decide +kernel) (by decide +kernel)
theorem k989 : (Cond.selects "CandleLoom" yX11_rowMask yX11_rowMask) ∈ GW := gw 1020 (by decide +kernel) (by decide +kernel)
theorem k990 : (Cond.code yX11_rowMask prog_1_method_21_code 2 (Option.some FieldType.int)) ∈ GW := gw 1021 (by decide +kernel) (by decide +kernel)
theorem k991 : (Cond.methodLink "CandleLoom" 154 yX1_has) ∈ GW := gw 1022 (by decide +kernel) (by decide +kernel)
theorem k992 : (Cond.methodLink "CandleLoomLaw" 210 yX11_rowColour) ∈ GW := gw 1023 (by decide +kernel) (by decide +kernel)
theorem k993 : (Cond.instanceMethod yX11_rowColour) ∈ GW := gw 1024 (by decide +kernel) (by decide +kernel)
theorem k994 : (Cond.selects "CandleLoom" yX11_rowColour yX11_rowColour) ∈ GW := gw 1025 (by decide +kernel) (by decide +kernel)
theorem k995 : (Cond.code yX11_rowColour prog_1_method_22_code 2 (Option.some FieldType.int)) ∈ GW := gw 1026 (by decide +kernel) (by decide +kernel)
theorem k996 : (Cond.methodLink "CandleLoomLaw" 213 yX11_isKnotted) ∈ GW := gw 1027 (by decide +kernel) (by decide +kernel)
theorem k997 : (Cond.instanceMethod yX11_isKnotted) ∈ GW := gw 1028 (by decide +kernel) (by decide +kernel)
theorem k998 : (Cond.selects "CandleLoom" yX11_isKnotted yX11_isKnotted) ∈ GW := gw 1029 (by decide +kernel) (by decide +kernel)
theorem k999 : (Cond.code yX11_isKnotted prog_1_method_24_code 3 (Option.some FieldType.boolean)) ∈ GW := gw 1030 (by decide +kernel) (by decide +kernel)
theorem k1000 : (Cond.methodLink "CandleLoom" 161 yX1_hasCell) ∈ GW := gw 1031 (by decide +kernel) (by decide +kernel)
theorem k1001 : (Cond.methodLink "CandleLoom" 168 yX1_knottedAt) ∈ GW := gw 1032 (by decide +kernel) (by decide +kernel)
theorem k1002 : (Cond.methodLink "CandleLoomLaw" 290 yL_areWicks) ∈ GW := gw 1033 (by decide +kernel) (by decide +kernel)
theorem k1003 : (Cond.static yL_areWicks) ∈ GW := gw 1034 (by decide +kernel) (by decide +kernel)
theorem k1004 : (Cond.code yL_areWicks method_34_code 10 (Option.some FieldType.boolean)) ∈ GW := gw 1035 (by decide +kernel) (by decide +kernel)
theorem k1005 : (Cond.methodLink "CandleLoomLaw" 272 yL_wickByWax) ∈ GW := gw 1036 (by decide +kernel) (by decide +kernel)
theorem k1006 : (Cond.static yL_wickByWax) ∈ GW := gw 1037 (by decide +kernel) (by decide +kernel)
theorem k1007 : (Cond.codeWith yL_wickByWax method_13_code 4 (Option.some FieldType.int) [((4 : Nat), (10 : Nat), (13 : Nat), (56 : Nat))]) ∈ GW := gw 1038 (by decide +kernel) (by decide +kernel)
theorem k1008 : (Cond.methodLink "CandleLoomLaw" 53 yX11_wickByWax) ∈ GW := gw 1039 (by decide +kernel) (by decide +kernel)
theorem k1009 : (Cond.instanceMethod yX11_wickByWax) ∈ GW := gw 1040 (by decide +kernel) (by decide +kernel)
theorem k1010 : (Cond.selects "CandleLoom" yX11_wickByWax yX11_wickByWax) ∈ GW := gw 1041 (by decide +kernel) (by decide +kernel)
theorem k1011 : (Cond.code yX11_wickByWax prog_1_method_10_code 2 (Option.some FieldType.int)) ∈ GW := gw 1042 (by decide +kernel) (by decide +kernel)
theorem k1012 : (Cond.methodLink "CandleLoom" 113 yX10_atRank) ∈ GW := gw 1043 (by decide +kernel) (by decide +kernel)
theorem k1013 : (Cond.instanceMethod yX10_atRank) ∈ GW := gw 1044 (by decide +kernel) (by decide +kernel)
theorem k1014 : (Cond.selects "CandleLoom$Wicks" yX10_atRank yX10_atRank) ∈ GW := gw 1045 (by decide +kernel) (by decide +kernel)
theorem k1015 : (Cond.code yX10_atRank prog_12_method_9_code 3 (Option.some FieldType.int)) ∈ GW := gw 1046 (by decide +kernel) (by decide +kernel)
theorem k1016 : (Cond.methodLink "CandleLoom$Wicks" 33 yX10_rankOf) ∈ GW := gw 1047 (by decide +kernel) (by decide +kernel)
theorem k1018 : (Cond.instanceMethod yX10_rankOf) ∈ GW := gw 1049 (by decide +kernel) (by decide +kernel)
theorem k1019 : (Cond.code yX10_rankOf prog_12_method_10_code 4 (Option.some FieldType.int)) ∈ GW := gw 1050 (by decide +kernel) (by decide +kernel)
theorem k1020 : (Cond.methodLink "CandleLoom$Wicks" 37 yX10_precedes) ∈ GW := gw 1051 (by decide +kernel) (by decide +kernel)
theorem k1022 : (Cond.instanceMethod yX10_precedes) ∈ GW := gw 1053 (by decide +kernel) (by decide +kernel)
theorem k1023 : (Cond.code yX10_precedes prog_12_method_11_code 3 (Option.some FieldType.boolean)) ∈ GW := gw 1054 (by decide +kernel) (by decide +kernel)
theorem k1024 : (Cond.methodLink "CandleLoomLaw" 256 yJ9_max_7cf53) ∈ GW := gw 1055 (by decide +kernel) (by decide +kernel)
theorem k1025 : (Cond.methodLink "CandleLoomLaw" 274 yX11_litCount) ∈ GW := gw 1056 (by decide +kernel) (by decide +kernel)
theorem k1026 : (Cond.instanceMethod yX11_litCount) ∈ GW := gw 1057 (by decide +kernel) (by decide +kernel)
theorem k1027 : (Cond.selects "CandleLoom" yX11_litCount yX11_litCount) ∈ GW := gw 1058 (by decide +kernel) (by decide +kernel)
theorem k1028 : (Cond.code yX11_litCount prog_1_method_7_code 1 (Option.some FieldType.int)) ∈ GW := gw 1059 (by decide +kernel) (by decide +kernel)
theorem k1029 : (Cond.methodLink "CandleLoom" 90 yX10_countLit) ∈ GW := gw 1060 (by decide +kernel) (by decide +kernel)
theorem k1030 : (Cond.methodLink "CandleLoomLaw" 277 yX11_rowsUntilDark) ∈ GW := gw 1061 (by decide +kernel) (by decide +kernel)
theorem k1031 : (Cond.instanceMethod yX11_rowsUntilDark) ∈ GW := gw 1062 (by decide +kernel) (by decide +kernel)
theorem k1032 : (Cond.selects "CandleLoom" yX11_rowsUntilDark yX11_rowsUntilDark) ∈ GW := gw 1063 (by decide +kernel) (by decide +kernel)
theorem k1033 : (Cond.code yX11_rowsUntilDark prog_1_method_12_code 2 (Option.some FieldType.int)) ∈ GW := gw 1064 (by decide +kernel) (by decide +kernel)
theorem k1034 : (Cond.methodLink "CandleLoom" 123 yX10_anyLitAfter) ∈ GW := gw 1065 (by decide +kernel) (by decide +kernel)
theorem k1035 : (Cond.instanceMethod yX10_anyLitAfter) ∈ GW := gw 1066 (by decide +kernel) (by decide +kernel)
theorem k1036 : (Cond.selects "CandleLoom$Wicks" yX10_anyLitAfter yX10_anyLitAfter) ∈ GW := gw 1067 (by decide +kernel) (by decide +kernel)
theorem k1037 : (Cond.code yX10_anyLitAfter prog_12_method_14_code 3 (Option.some FieldType.boolean)) ∈ GW := gw 1068 (by decide +kernel) (by decide +kernel)
theorem k1038 : (Cond.methodLink "CandleLoomLaw" 280 yX11_rowsUntilDarkByWax) ∈ GW := gw 1069 (by decide +kernel) (by decide +kernel)
theorem k1039 : (Cond.instanceMethod yX11_rowsUntilDarkByWax) ∈ GW := gw 1070 (by decide +kernel) (by decide +kernel)
theorem k1040 : (Cond.selects "CandleLoom" yX11_rowsUntilDarkByWax yX11_rowsUntilDarkByWax) ∈ GW := gw 1071 (by decide +kernel) (by decide +kernel)
theorem k1041 : (Cond.code yX11_rowsUntilDarkByWax prog_1_method_13_code 1 (Option.some FieldType.int)) ∈ GW := gw 1072 (by decide +kernel) (by decide +kernel)
theorem k1042 : (Cond.methodLink "CandleLoom" 126 yX10_mostLitWax) ∈ GW := gw 1073 (by decide +kernel) (by decide +kernel)
theorem k1043 : (Cond.instanceMethod yX10_mostLitWax) ∈ GW := gw 1074 (by decide +kernel) (by decide +kernel)
theorem k1044 : (Cond.selects "CandleLoom$Wicks" yX10_mostLitWax yX10_mostLitWax) ∈ GW := gw 1075 (by decide +kernel) (by decide +kernel)
theorem k1045 : (Cond.code yX10_mostLitWax prog_12_method_15_code 3 (Option.some FieldType.int)) ∈ GW := gw 1076 (by decide +kernel) (by decide +kernel)
theorem k1046 : (Cond.methodLink "CandleLoom$Wicks" 41 yJ9_max_7cf53) ∈ GW := gw 1077 (by decide +kernel) (by decide +kernel)
theorem k1047 : (Cond.methodLink "CandleLoomLaw" 321 yL_isFit) ∈ GW := gw 1078 (by decide +kernel) (by decide +kernel)
theorem k1048 : (Cond.static yL_isFit) ∈ GW := gw 1079 (by decide +kernel) (by decide +kernel)
theorem k1049 : (Cond.code yL_isFit method_38_code 1 (Option.some FieldType.boolean)) ∈ GW := gw 1080 (by decide +kernel) (by decide +kernel)
theorem k1050 : (Cond.methodLink "CandleLoomLaw" 298 yL_areRows) ∈ GW := gw 1081 (by decide +kernel) (by decide +kernel)
theorem k1051 : (Cond.static yL_areRows) ∈ GW := gw 1082 (by decide +kernel) (by decide +kernel)
theorem k1052 : (Cond.code yL_areRows method_31_code 12 (Option.some FieldType.boolean)) ∈ GW := gw 1083 (by decide +kernel) (by decide +kernel)
theorem k1053 : (Cond.methodLink "CandleLoomLaw" 217 yX11_writeRow) ∈ GW := gw 1084 (by decide +kernel) (by decide +kernel)
theorem k1054 : (Cond.instanceMethod yX11_writeRow) ∈ GW := gw 1085 (by decide +kernel) (by decide +kernel)
theorem k1055 : (Cond.selects "CandleLoom" yX11_writeRow yX11_writeRow) ∈ GW := gw 1086 (by decide +kernel) (by decide +kernel)
theorem k1056 : (Cond.code yX11_writeRow prog_1_method_44_code 2 (Option.some FieldType.int)) ∈ GW := gw 1087 (by decide +kernel) (by decide +kernel)
theorem k1057 : (Cond.methodLink "CandleLoom" 281 yX7_showRow) ∈ GW := gw 1088 (by decide +kernel) (by decide +kernel)
theorem k1058 : (Cond.instanceMethod yX7_showRow) ∈ GW := gw 1089 (by decide +kernel) (by decide +kernel)
theorem k1059 : (Cond.selects "CandleLoom$Line" yX7_showRow yX7_showRow) ∈ GW := gw 1090 (by decide +kernel) (by decide +kernel)
theorem k1060 : (Cond.code yX7_showRow prog_9_method_2_code 4 (none)) ∈ GW := gw 1091 (by decide +kernel) (by decide +kernel)
theorem k1061 : (Cond.methodLink "CandleLoom$Line" 25 yX7_addDigit) ∈ GW := gw 1092 (by decide +kernel) (by decide +kernel)
theorem k1063 : (Cond.instanceMethod yX7_addDigit) ∈ GW := gw 1094 (by decide +kernel) (by decide +kernel)
theorem k1064 : (Cond.code yX7_addDigit prog_9_method_5_code 2 (none)) ∈ GW := gw 1095 (by decide +kernel) (by decide +kernel)
theorem k1065 : (Cond.methodLink "CandleLoom$Line" 29 yX7_add) ∈ GW := gw 1096 (by decide +kernel) (by decide +kernel)
theorem k1067 : (Cond.instanceMethod yX7_add) ∈ GW := gw 1098 (by decide +kernel) (by decide +kernel)
theorem k1068 : (Cond.code yX7_add prog_9_method_6_code 2 (none)) ∈ GW := gw 1099 (by decide +kernel) (by decide +kernel)
theorem k1069 : (Cond.methodLink "CandleLoom$Line" 33 yX1_raisedAt) ∈ GW := gw 1100 (by decide +kernel) (by decide +kernel)
theorem k1070 : (Cond.instanceMethod yX1_raisedAt) ∈ GW := gw 1101 (by decide +kernel) (by decide +kernel)
theorem k1071 : (Cond.selects "CandleLoom$Cloth" yX1_raisedAt yX1_raisedAt) ∈ GW := gw 1102 (by decide +kernel) (by decide +kernel)
theorem k1072 : (Cond.code yX1_raisedAt prog_3_method_6_code 3 (Option.some FieldType.boolean)) ∈ GW := gw 1103 (by decide +kernel) (by decide +kernel)
theorem k1073 : (Cond.methodLink "CandleLoom$Line" 37 yX1_knottedAt) ∈ GW := gw 1104 (by decide +kernel) (by decide +kernel)
theorem k1074 : (Cond.methodLink "CandleLoom$Line" 40 yX7_cellSign) ∈ GW := gw 1105 (by decide +kernel) (by decide +kernel)
theorem k1075 : (Cond.static yX7_cellSign) ∈ GW := gw 1106 (by decide +kernel) (by decide +kernel)
theorem k1076 : (Cond.code yX7_cellSign prog_9_method_4_code 2 (Option.some FieldType.char)) ∈ GW := gw 1107 (by decide +kernel) (by decide +kernel)
theorem k1077 : (Cond.methodLink "CandleLoomLaw" 220 yX11_lineCharacter) ∈ GW := gw 1108 (by decide +kernel) (by decide +kernel)
theorem k1078 : (Cond.instanceMethod yX11_lineCharacter) ∈ GW := gw 1109 (by decide +kernel) (by decide +kernel)
theorem k1079 : (Cond.selects "CandleLoom" yX11_lineCharacter yX11_lineCharacter) ∈ GW := gw 1110 (by decide +kernel) (by decide +kernel)
theorem k1080 : (Cond.code yX11_lineCharacter prog_1_method_46_code 2 (Option.some FieldType.char)) ∈ GW := gw 1111 (by decide +kernel) (by decide +kernel)
theorem k1081 : (Cond.methodLink "CandleLoomLaw" 223 yX11_isRaised) ∈ GW := gw 1112 (by decide +kernel) (by decide +kernel)
theorem k1082 : (Cond.instanceMethod yX11_isRaised) ∈ GW := gw 1113 (by decide +kernel) (by decide +kernel)
theorem k1083 : (Cond.selects "CandleLoom" yX11_isRaised yX11_isRaised) ∈ GW := gw 1114 (by decide +kernel) (by decide +kernel)
theorem k1084 : (Cond.code yX11_isRaised prog_1_method_23_code 3 (Option.some FieldType.boolean)) ∈ GW := gw 1115 (by decide +kernel) (by decide +kernel)
theorem k1085 : (Cond.methodLink "CandleLoom" 165 yX1_raisedAt) ∈ GW := gw 1116 (by decide +kernel) (by decide +kernel)
theorem k1086 : (Cond.methodLink "CandleLoomLaw" 226 yL_areEqual) ∈ GW := gw 1117 (by decide +kernel) (by decide +kernel)
theorem k1087 : (Cond.static yL_areEqual) ∈ GW := gw 1118 (by decide +kernel) (by decide +kernel)
theorem k1088 : (Cond.code yL_areEqual method_30_code 3 (Option.some FieldType.boolean)) ∈ GW := gw 1119 (by decide +kernel) (by decide +kernel)
theorem k1089 : (Cond.methodLink "CandleLoomLaw" 230 yX11_knotCount) ∈ GW := gw 1120 (by decide +kernel) (by decide +kernel)
theorem k1090 : (Cond.instanceMethod yX11_knotCount) ∈ GW := gw 1121 (by decide +kernel) (by decide +kernel)
theorem k1091 : (Cond.selects "CandleLoom" yX11_knotCount yX11_knotCount) ∈ GW := gw 1122 (by decide +kernel) (by decide +kernel)
theorem k1092 : (Cond.code yX11_knotCount prog_1_method_25_code 1 (Option.some FieldType.int)) ∈ GW := gw 1123 (by decide +kernel) (by decide +kernel)
theorem k1093 : (Cond.methodLink "CandleLoom" 171 yX1_countKnots) ∈ GW := gw 1124 (by decide +kernel) (by decide +kernel)
theorem k1094 : (Cond.methodLink "CandleLoomLaw" 233 yX11_distinctRows) ∈ GW := gw 1125 (by decide +kernel) (by decide +kernel)
theorem k1095 : (Cond.instanceMethod yX11_distinctRows) ∈ GW := gw 1126 (by decide +kernel) (by decide +kernel)
theorem k1096 : (Cond.selects "CandleLoom" yX11_distinctRows yX11_distinctRows) ∈ GW := gw 1127 (by decide +kernel) (by decide +kernel)
theorem k1097 : (Cond.code yX11_distinctRows prog_1_method_33_code 1 (Option.some FieldType.int)) ∈ GW := gw 1128 (by decide +kernel) (by decide +kernel)
theorem k1098 : (Cond.methodLink "CandleLoom" 207 yX1_countDifferent) ∈ GW := gw 1129 (by decide +kernel) (by decide +kernel)
theorem k1099 : (Cond.instanceMethod yX1_countDifferent) ∈ GW := gw 1130 (by decide +kernel) (by decide +kernel)
theorem k1100 : (Cond.selects "CandleLoom$Cloth" yX1_countDifferent yX1_countDifferent) ∈ GW := gw 1131 (by decide +kernel) (by decide +kernel)
theorem k1101 : (Cond.code yX1_countDifferent prog_3_method_22_code 3 (Option.some FieldType.int)) ∈ GW := gw 1132 (by decide +kernel) (by decide +kernel)
theorem k1102 : (Cond.methodLink "CandleLoom$Cloth" 63 yX1_isNew) ∈ GW := gw 1133 (by decide +kernel) (by decide +kernel)
theorem k1104 : (Cond.instanceMethod yX1_isNew) ∈ GW := gw 1135 (by decide +kernel) (by decide +kernel)
theorem k1105 : (Cond.code yX1_isNew prog_3_method_23_code 3 (Option.some FieldType.boolean)) ∈ GW := gw 1136 (by decide +kernel) (by decide +kernel)
theorem k1106 : (Cond.methodLink "CandleLoom$Cloth" 56 yX1_sameRows) ∈ GW := gw 1137 (by decide +kernel) (by decide +kernel)
theorem k1108 : (Cond.instanceMethod yX1_sameRows) ∈ GW := gw 1139 (by decide +kernel) (by decide +kernel)
theorem k1109 : (Cond.code yX1_sameRows prog_3_method_17_code 3 (Option.some FieldType.boolean)) ∈ GW := gw 1140 (by decide +kernel) (by decide +kernel)
theorem k1110 : (Cond.methodLink "CandleLoomLaw" 236 yX11_isSymmetric) ∈ GW := gw 1141 (by decide +kernel) (by decide +kernel)
theorem k1111 : (Cond.instanceMethod yX11_isSymmetric) ∈ GW := gw 1142 (by decide +kernel) (by decide +kernel)
theorem k1112 : (Cond.selects "CandleLoom" yX11_isSymmetric yX11_isSymmetric) ∈ GW := gw 1143 (by decide +kernel) (by decide +kernel)
theorem k1113 : (Cond.code yX11_isSymmetric prog_1_method_36_code 1 (Option.some FieldType.boolean)) ∈ GW := gw 1144 (by decide +kernel) (by decide +kernel)
theorem k1114 : (Cond.methodLink "CandleLoom" 221 yX1_sameReversed) ∈ GW := gw 1145 (by decide +kernel) (by decide +kernel)
theorem k1115 : (Cond.instanceMethod yX1_sameReversed) ∈ GW := gw 1146 (by decide +kernel) (by decide +kernel)
theorem k1116 : (Cond.selects "CandleLoom$Cloth" yX1_sameReversed yX1_sameReversed) ∈ GW := gw 1147 (by decide +kernel) (by decide +kernel)
theorem k1117 : (Cond.code yX1_sameReversed prog_3_method_25_code 2 (Option.some FieldType.boolean)) ∈ GW := gw 1148 (by decide +kernel) (by decide +kernel)
theorem k1118 : (Cond.methodLink "CandleLoomLaw" 240 yL_meanRaised) ∈ GW := gw 1149 (by decide +kernel) (by decide +kernel)
theorem k1119 : (Cond.static yL_meanRaised) ∈ GW := gw 1150 (by decide +kernel) (by decide +kernel)
theorem k1120 : (Cond.codeWith yL_meanRaised method_19_code 4 (Option.some FieldType.double) [((4 : Nat), (9 : Nat), (12 : Nat), (80 : Nat))]) ∈ GW := gw 1151 (by decide +kernel) (by decide +kernel)
theorem k1121 : (Cond.classLink "CandleLoomLaw" 80 "java/lang/ArithmeticException") ∈ GW := gw 1152 (by decide +kernel) (by decide +kernel)
theorem k1122 : (Cond.instantiable "java/lang/ArithmeticException" 6) ∈ GW := gw 1153 (by decide +kernel) (by decide +kernel)
theorem k1123 : (Cond.instanceMethod ⟨"java/lang/ArithmeticException", "<init>", "(Ljava/lang/String;)V"⟩) ∈ GW := gw 1154 (by decide +kernel) (by decide +kernel)
theorem k1124 : (Cond.code ⟨"java/lang/ArithmeticException", "<init>", "(Ljava/lang/String;)V"⟩ prog_16_method_2_code 2 (none)) ∈ GW := gw 1155 (by decide +kernel) (by decide +kernel)
theorem k1125 : (Cond.methodLink "java/lang/ArithmeticException" 7 ⟨"java/lang/RuntimeException", "<init>", "(Ljava/lang/String;)V"⟩) ∈ GW := gw 1156 (by decide +kernel) (by decide +kernel)
theorem k1134 : (Cond.selects "java/lang/ArithmeticException" ⟨"java/lang/Throwable", "fillInStackTrace", "(I)Ljava/lang/Throwable;"⟩ ⟨"java/lang/Throwable", "fillInStackTrace", "(I)Ljava/lang/Throwable;"⟩) ∈ GW := gw 1165 (by decide +kernel) (by decide +kernel)
theorem k1135 : (Cond.constantDouble "CandleLoomLaw" 74 (13830554455654793216 : UInt64)) ∈ GW := gw 1166 (by decide +kernel) (by decide +kernel)
theorem k1136 : (Cond.methodLink "CandleLoomLaw" 76 yX11_meanRaised) ∈ GW := gw 1167 (by decide +kernel) (by decide +kernel)
theorem k1137 : (Cond.instanceMethod yX11_meanRaised) ∈ GW := gw 1168 (by decide +kernel) (by decide +kernel)
theorem k1138 : (Cond.selects "CandleLoom" yX11_meanRaised yX11_meanRaised) ∈ GW := gw 1169 (by decide +kernel) (by decide +kernel)
theorem k1139 : (Cond.code yX11_meanRaised prog_1_method_39_code 1 (Option.some FieldType.double)) ∈ GW := gw 1170 (by decide +kernel) (by decide +kernel)
theorem k1140 : (Cond.methodLink "CandleLoom" 231 yX11_requireDivisor) ∈ GW := gw 1171 (by decide +kernel) (by decide +kernel)
theorem k1141 : (Cond.static yX11_requireDivisor) ∈ GW := gw 1172 (by decide +kernel) (by decide +kernel)
theorem k1142 : (Cond.code yX11_requireDivisor prog_1_method_62_code 1 (none)) ∈ GW := gw 1173 (by decide +kernel) (by decide +kernel)
theorem k1143 : (Cond.classLink "CandleLoom" 359 "java/lang/ArithmeticException") ∈ GW := gw 1174 (by decide +kernel) (by decide +kernel)
theorem k1145 : (Cond.methodLink "CandleLoom" 363 ⟨"java/lang/ArithmeticException", "<init>", "(Ljava/lang/String;)V"⟩) ∈ GW := gw 1176 (by decide +kernel) (by decide +kernel)
theorem k1146 : (Cond.methodLink "CandleLoom" 235 yX1_countRaised) ∈ GW := gw 1177 (by decide +kernel) (by decide +kernel)
theorem k1147 : (Cond.instanceMethod yX1_countRaised) ∈ GW := gw 1178 (by decide +kernel) (by decide +kernel)
theorem k1148 : (Cond.selects "CandleLoom$Cloth" yX1_countRaised yX1_countRaised) ∈ GW := gw 1179 (by decide +kernel) (by decide +kernel)
theorem k1149 : (Cond.code yX1_countRaised prog_3_method_13_code 3 (Option.some FieldType.int)) ∈ GW := gw 1180 (by decide +kernel) (by decide +kernel)
theorem k1150 : (Cond.methodLink "CandleLoomLaw" 243 yL_knotShare) ∈ GW := gw 1181 (by decide +kernel) (by decide +kernel)
theorem k1151 : (Cond.static yL_knotShare) ∈ GW := gw 1182 (by decide +kernel) (by decide +kernel)
theorem k1152 : (Cond.codeWith yL_knotShare method_20_code 3 (Option.some FieldType.float) [((3 : Nat), (8 : Nat), (11 : Nat), (80 : Nat))]) ∈ GW := gw 1183 (by decide +kernel) (by decide +kernel)
theorem k1153 : (Cond.constantFloat "CandleLoomLaw" 82 (3212836864 : UInt32)) ∈ GW := gw 1184 (by decide +kernel) (by decide +kernel)
theorem k1154 : (Cond.methodLink "CandleLoomLaw" 83 yX11_knotShare) ∈ GW := gw 1185 (by decide +kernel) (by decide +kernel)
theorem k1155 : (Cond.instanceMethod yX11_knotShare) ∈ GW := gw 1186 (by decide +kernel) (by decide +kernel)
theorem k1156 : (Cond.selects "CandleLoom" yX11_knotShare yX11_knotShare) ∈ GW := gw 1187 (by decide +kernel) (by decide +kernel)
theorem k1157 : (Cond.code yX11_knotShare prog_1_method_40_code 1 (Option.some FieldType.float)) ∈ GW := gw 1188 (by decide +kernel) (by decide +kernel)
theorem k1158 : (Cond.methodLink "CandleLoomLaw" 301 yL_arePeriods) ∈ GW := gw 1189 (by decide +kernel) (by decide +kernel)
theorem k1159 : (Cond.static yL_arePeriods) ∈ GW := gw 1190 (by decide +kernel) (by decide +kernel)
theorem k1160 : (Cond.code yL_arePeriods method_33_code 8 (Option.some FieldType.boolean)) ∈ GW := gw 1191 (by decide +kernel) (by decide +kernel)
theorem k1161 : (Cond.methodLink "CandleLoomLaw" 246 yL_period) ∈ GW := gw 1192 (by decide +kernel) (by decide +kernel)
theorem k1162 : (Cond.static yL_period) ∈ GW := gw 1193 (by decide +kernel) (by decide +kernel)
theorem k1163 : (Cond.codeWith yL_period method_16_code 3 (Option.some FieldType.int) [((4 : Nat), (9 : Nat), (12 : Nat), (56 : Nat))]) ∈ GW := gw 1194 (by decide +kernel) (by decide +kernel)
theorem k1164 : (Cond.methodLink "CandleLoomLaw" 64 yX11_period) ∈ GW := gw 1195 (by decide +kernel) (by decide +kernel)
theorem k1165 : (Cond.instanceMethod yX11_period) ∈ GW := gw 1196 (by decide +kernel) (by decide +kernel)
theorem k1166 : (Cond.selects "CandleLoom" yX11_period yX11_period) ∈ GW := gw 1197 (by decide +kernel) (by decide +kernel)
theorem k1167 : (Cond.code yX11_period prog_1_method_30_code 2 (Option.some FieldType.int)) ∈ GW := gw 1198 (by decide +kernel) (by decide +kernel)
theorem k1168 : (Cond.methodLink "CandleLoom" 198 yX1_overlapsItself) ∈ GW := gw 1199 (by decide +kernel) (by decide +kernel)
theorem k1169 : (Cond.instanceMethod yX1_overlapsItself) ∈ GW := gw 1200 (by decide +kernel) (by decide +kernel)
theorem k1170 : (Cond.selects "CandleLoom$Cloth" yX1_overlapsItself yX1_overlapsItself) ∈ GW := gw 1201 (by decide +kernel) (by decide +kernel)
theorem k1171 : (Cond.code yX1_overlapsItself prog_3_method_19_code 3 (Option.some FieldType.boolean)) ∈ GW := gw 1202 (by decide +kernel) (by decide +kernel)
theorem k1172 : (Cond.methodLink "CandleLoomLaw" 248 yL_periodByBorders) ∈ GW := gw 1203 (by decide +kernel) (by decide +kernel)
theorem k1173 : (Cond.static yL_periodByBorders) ∈ GW := gw 1204 (by decide +kernel) (by decide +kernel)
theorem k1174 : (Cond.codeWith yL_periodByBorders method_17_code 3 (Option.some FieldType.int) [((4 : Nat), (9 : Nat), (12 : Nat), (56 : Nat))]) ∈ GW := gw 1205 (by decide +kernel) (by decide +kernel)
theorem k1175 : (Cond.methodLink "CandleLoomLaw" 68 yX11_periodByBorders) ∈ GW := gw 1206 (by decide +kernel) (by decide +kernel)
theorem k1176 : (Cond.instanceMethod yX11_periodByBorders) ∈ GW := gw 1207 (by decide +kernel) (by decide +kernel)
theorem k1177 : (Cond.selects "CandleLoom" yX11_periodByBorders yX11_periodByBorders) ∈ GW := gw 1208 (by decide +kernel) (by decide +kernel)
theorem k1178 : (Cond.code yX11_periodByBorders prog_1_method_31_code 1 (Option.some FieldType.int)) ∈ GW := gw 1209 (by decide +kernel) (by decide +kernel)
theorem k1179 : (Cond.methodLink "CandleLoom" 201 yX1_longestBorder) ∈ GW := gw 1210 (by decide +kernel) (by decide +kernel)
theorem k1180 : (Cond.instanceMethod yX1_longestBorder) ∈ GW := gw 1211 (by decide +kernel) (by decide +kernel)
theorem k1181 : (Cond.selects "CandleLoom$Cloth" yX1_longestBorder yX1_longestBorder) ∈ GW := gw 1212 (by decide +kernel) (by decide +kernel)
theorem k1182 : (Cond.code yX1_longestBorder prog_3_method_20_code 2 (Option.some FieldType.int)) ∈ GW := gw 1213 (by decide +kernel) (by decide +kernel)
theorem k1183 : (Cond.methodLink "CandleLoom$Cloth" 59 yX1_sameRuns) ∈ GW := gw 1214 (by decide +kernel) (by decide +kernel)
theorem k1185 : (Cond.instanceMethod yX1_sameRuns) ∈ GW := gw 1216 (by decide +kernel) (by decide +kernel)
theorem k1186 : (Cond.code yX1_sameRuns prog_3_method_18_code 5 (Option.some FieldType.boolean)) ∈ GW := gw 1217 (by decide +kernel) (by decide +kernel)
theorem k1187 : (Cond.methodLink "CandleLoomLaw" 250 yL_occurrences) ∈ GW := gw 1218 (by decide +kernel) (by decide +kernel)
theorem k1188 : (Cond.static yL_occurrences) ∈ GW := gw 1219 (by decide +kernel) (by decide +kernel)
theorem k1189 : (Cond.codeWith yL_occurrences method_18_code 4 (Option.some FieldType.int) [((4 : Nat), (10 : Nat), (13 : Nat), (17 : Nat))]) ∈ GW := gw 1220 (by decide +kernel) (by decide +kernel)
theorem k1190 : (Cond.methodLink "CandleLoomLaw" 71 yX11_occurrences) ∈ GW := gw 1221 (by decide +kernel) (by decide +kernel)
theorem k1191 : (Cond.instanceMethod yX11_occurrences) ∈ GW := gw 1222 (by decide +kernel) (by decide +kernel)
theorem k1192 : (Cond.selects "CandleLoom" yX11_occurrences yX11_occurrences) ∈ GW := gw 1223 (by decide +kernel) (by decide +kernel)
theorem k1193 : (Cond.code yX11_occurrences prog_1_method_32_code 2 (Option.some FieldType.int)) ∈ GW := gw 1224 (by decide +kernel) (by decide +kernel)
theorem k1194 : (Cond.methodLink "CandleLoom" 204 yX1_countOfLast) ∈ GW := gw 1225 (by decide +kernel) (by decide +kernel)
theorem k1195 : (Cond.instanceMethod yX1_countOfLast) ∈ GW := gw 1226 (by decide +kernel) (by decide +kernel)
theorem k1196 : (Cond.selects "CandleLoom$Cloth" yX1_countOfLast yX1_countOfLast) ∈ GW := gw 1227 (by decide +kernel) (by decide +kernel)
theorem k1197 : (Cond.code yX1_countOfLast prog_3_method_21_code 5 (Option.some FieldType.int)) ∈ GW := gw 1228 (by decide +kernel) (by decide +kernel)
theorem k1198 : (Cond.methodLink "CandleLoomLaw" 252 yL_isPeriod) ∈ GW := gw 1229 (by decide +kernel) (by decide +kernel)
theorem k1199 : (Cond.static yL_isPeriod) ∈ GW := gw 1230 (by decide +kernel) (by decide +kernel)
theorem k1200 : (Cond.code yL_isPeriod method_32_code 4 (Option.some FieldType.boolean)) ∈ GW := gw 1231 (by decide +kernel) (by decide +kernel)
theorem k1201 : (Cond.methodLink "CandleLoomLaw" 261 yX11_longestFloat) ∈ GW := gw 1232 (by decide +kernel) (by decide +kernel)
theorem k1202 : (Cond.instanceMethod yX11_longestFloat) ∈ GW := gw 1233 (by decide +kernel) (by decide +kernel)
theorem k1203 : (Cond.selects "CandleLoom" yX11_longestFloat yX11_longestFloat) ∈ GW := gw 1234 (by decide +kernel) (by decide +kernel)
theorem k1204 : (Cond.code yX11_longestFloat prog_1_method_35_code 2 (Option.some FieldType.int)) ∈ GW := gw 1235 (by decide +kernel) (by decide +kernel)
theorem k1205 : (Cond.methodLink "CandleLoom" 215 yX1_isColumn) ∈ GW := gw 1236 (by decide +kernel) (by decide +kernel)
theorem k1206 : (Cond.methodLink "CandleLoom" 218 yX1_longestRaisedRun) ∈ GW := gw 1237 (by decide +kernel) (by decide +kernel)
theorem k1207 : (Cond.instanceMethod yX1_longestRaisedRun) ∈ GW := gw 1238 (by decide +kernel) (by decide +kernel)
theorem k1208 : (Cond.selects "CandleLoom$Cloth" yX1_longestRaisedRun yX1_longestRaisedRun) ∈ GW := gw 1239 (by decide +kernel) (by decide +kernel)
theorem k1209 : (Cond.code yX1_longestRaisedRun prog_3_method_24_code 5 (Option.some FieldType.int)) ∈ GW := gw 1240 (by decide +kernel) (by decide +kernel)
theorem k1210 : (Cond.methodLink "CandleLoom$Cloth" 66 yX1_raisedAt) ∈ GW := gw 1241 (by decide +kernel) (by decide +kernel)
theorem k1211 : (Cond.methodLink "CandleLoom$Cloth" 69 yJ9_max_7cf53) ∈ GW := gw 1242 (by decide +kernel) (by decide +kernel)
theorem k1212 : (Cond.methodLink "CandleLoomLaw" 264 yX11_distance) ∈ GW := gw 1243 (by decide +kernel) (by decide +kernel)
theorem k1213 : (Cond.instanceMethod yX11_distance) ∈ GW := gw 1244 (by decide +kernel) (by decide +kernel)
theorem k1214 : (Cond.selects "CandleLoom" yX11_distance yX11_distance) ∈ GW := gw 1245 (by decide +kernel) (by decide +kernel)
theorem k1215 : (Cond.code yX11_distance prog_1_method_34_code 3 (Option.some FieldType.int)) ∈ GW := gw 1246 (by decide +kernel) (by decide +kernel)
theorem k1216 : (Cond.methodLink "CandleLoom" 210 yJ6_bitCount_0f7a4) ∈ GW := gw 1247 (by decide +kernel) (by decide +kernel)
theorem k1217 : (Cond.methodLink "CandleLoomLaw" 267 yJ6_bitCount_0f7a4) ∈ GW := gw 1248 (by decide +kernel) (by decide +kernel)
theorem k1218 : (Cond.methodLink "CandleLoomLaw" 304 yL_areKnots) ∈ GW := gw 1249 (by decide +kernel) (by decide +kernel)
theorem k1219 : (Cond.static yL_areKnots) ∈ GW := gw 1250 (by decide +kernel) (by decide +kernel)
theorem k1220 : (Cond.code yL_areKnots method_37_code 7 (Option.some FieldType.boolean)) ∈ GW := gw 1251 (by decide +kernel) (by decide +kernel)
theorem k1221 : (Cond.methodLink "CandleLoomLaw" 294 yL_nextKnotRow) ∈ GW := gw 1252 (by decide +kernel) (by decide +kernel)
theorem k1222 : (Cond.static yL_nextKnotRow) ∈ GW := gw 1253 (by decide +kernel) (by decide +kernel)
theorem k1223 : (Cond.codeWith yL_nextKnotRow method_14_code 4 (Option.some FieldType.int) [((4 : Nat), (10 : Nat), (13 : Nat), (25 : Nat)), ((4 : Nat), (10 : Nat), (18 : Nat), (56 : Nat))]) ∈ GW := gw 1254 (by decide +kernel) (by decide +kernel)
theorem k1224 : (Cond.methodLink "CandleLoomLaw" 58 yX11_nextKnotRow) ∈ GW := gw 1255 (by decide +kernel) (by decide +kernel)
theorem k1225 : (Cond.instanceMethod yX11_nextKnotRow) ∈ GW := gw 1256 (by decide +kernel) (by decide +kernel)
theorem k1226 : (Cond.selects "CandleLoom" yX11_nextKnotRow yX11_nextKnotRow) ∈ GW := gw 1257 (by decide +kernel) (by decide +kernel)
theorem k1227 : (Cond.code yX11_nextKnotRow prog_1_method_26_code 2 (Option.some FieldType.int)) ∈ GW := gw 1258 (by decide +kernel) (by decide +kernel)
theorem k1228 : (Cond.methodLink "CandleLoom" 174 yX11_knottedRowFrom) ∈ GW := gw 1259 (by decide +kernel) (by decide +kernel)
theorem k1230 : (Cond.instanceMethod yX11_knottedRowFrom) ∈ GW := gw 1261 (by decide +kernel) (by decide +kernel)
theorem k1231 : (Cond.code yX11_knottedRowFrom prog_1_method_56_code 3 (Option.some FieldType.int)) ∈ GW := gw 1262 (by decide +kernel) (by decide +kernel)
theorem k1232 : (Cond.methodLink "CandleLoom" 329 yX1_firstKnottedRow) ∈ GW := gw 1263 (by decide +kernel) (by decide +kernel)
theorem k1233 : (Cond.instanceMethod yX1_firstKnottedRow) ∈ GW := gw 1264 (by decide +kernel) (by decide +kernel)
theorem k1234 : (Cond.selects "CandleLoom$Cloth" yX1_firstKnottedRow yX1_firstKnottedRow) ∈ GW := gw 1265 (by decide +kernel) (by decide +kernel)
theorem k1235 : (Cond.code yX1_firstKnottedRow prog_3_method_14_code 3 (Option.some FieldType.int)) ∈ GW := gw 1266 (by decide +kernel) (by decide +kernel)
theorem k1236 : (Cond.methodLink "CandleLoomLaw" 296 yL_nextKnotColumn) ∈ GW := gw 1267 (by decide +kernel) (by decide +kernel)
theorem k1237 : (Cond.static yL_nextKnotColumn) ∈ GW := gw 1268 (by decide +kernel) (by decide +kernel)
theorem k1238 : (Cond.codeWith yL_nextKnotColumn method_15_code 4 (Option.some FieldType.int) [((4 : Nat), (10 : Nat), (13 : Nat), (25 : Nat)), ((4 : Nat), (10 : Nat), (18 : Nat), (56 : Nat))]) ∈ GW := gw 1269 (by decide +kernel) (by decide +kernel)
theorem k1239 : (Cond.methodLink "CandleLoomLaw" 61 yX11_nextKnotColumn) ∈ GW := gw 1270 (by decide +kernel) (by decide +kernel)
theorem k1240 : (Cond.instanceMethod yX11_nextKnotColumn) ∈ GW := gw 1271 (by decide +kernel) (by decide +kernel)
theorem k1241 : (Cond.selects "CandleLoom" yX11_nextKnotColumn yX11_nextKnotColumn) ∈ GW := gw 1272 (by decide +kernel) (by decide +kernel)
theorem k1242 : (Cond.code yX11_nextKnotColumn prog_1_method_27_code 2 (Option.some FieldType.int)) ∈ GW := gw 1273 (by decide +kernel) (by decide +kernel)
theorem k1243 : (Cond.methodLink "CandleLoom" 177 yX1_firstKnottedColumn) ∈ GW := gw 1274 (by decide +kernel) (by decide +kernel)
theorem k1244 : (Cond.instanceMethod yX1_firstKnottedColumn) ∈ GW := gw 1275 (by decide +kernel) (by decide +kernel)
theorem k1245 : (Cond.selects "CandleLoom$Cloth" yX1_firstKnottedColumn yX1_firstKnottedColumn) ∈ GW := gw 1276 (by decide +kernel) (by decide +kernel)
theorem k1246 : (Cond.code yX1_firstKnottedColumn prog_3_method_16_code 3 (Option.some FieldType.int)) ∈ GW := gw 1277 (by decide +kernel) (by decide +kernel)
theorem k1247 : (Cond.methodLink "CandleLoom$Cloth" 52 yX1_knottedAt) ∈ GW := gw 1278 (by decide +kernel) (by decide +kernel)
theorem k1248 : (Cond.methodLink "CandleLoomLaw" 307 yL_isWoven) ∈ GW := gw 1279 (by decide +kernel) (by decide +kernel)
theorem k1249 : (Cond.static yL_isWoven) ∈ GW := gw 1280 (by decide +kernel) (by decide +kernel)
theorem k1250 : (Cond.code yL_isWoven method_35_code 11 (Option.some FieldType.boolean)) ∈ GW := gw 1281 (by decide +kernel) (by decide +kernel)
theorem k1251 : (Cond.methodLink "CandleLoomLaw" 287 yJ9_min_7cf53) ∈ GW := gw 1282 (by decide +kernel) (by decide +kernel)
theorem k1252 : (Cond.methodLink "CandleLoomLaw" 310 yL_isRepeated) ∈ GW := gw 1283 (by decide +kernel) (by decide +kernel)
theorem k1253 : (Cond.static yL_isRepeated) ∈ GW := gw 1284 (by decide +kernel) (by decide +kernel)
theorem k1254 : (Cond.code yL_isRepeated method_36_code 9 (Option.some FieldType.boolean)) ∈ GW := gw 1285 (by decide +kernel) (by decide +kernel)
theorem k1255 : (Cond.sameMethod "java/lang/Throwable" "java/lang/Throwable" "fillInStackTrace" "(I)Ljava/lang/Throwable;") ∈ GW := gw 1286 (by decide +kernel) (by decide +kernel)
theorem k1277 : (Cond.fieldLink "java/lang/Enum" 7 "java/lang/Enum" "ordinal" "I") ∈ GW := gw 1308 (by decide +kernel) (by decide +kernel)
theorem k1278 : (Cond.fieldLink "java/lang/String" 15 "java/lang/String" "coder" "B") ∈ GW := gw 1309 (by decide +kernel) (by decide +kernel)
theorem k1279 : (Cond.fieldLink "java/lang/String" 9 "java/lang/String" "value" "[B") ∈ GW := gw 1310 (by decide +kernel) (by decide +kernel)
theorem k1280 : (Cond.fieldLink "CandleLoom$Script" 78 "CandleLoom$Kind" "word" "Ljava/lang/String;") ∈ GW := gw 1311 (by decide +kernel) (by decide +kernel)
theorem k1281 : (Cond.fieldLink "CandleLoom$Script" 48 "CandleLoom$Kind" "form" "Ljava/lang/String;") ∈ GW := gw 1312 (by decide +kernel) (by decide +kernel)
theorem kp0 : (Cond.selects "CandleLoom" yX11_change yX11_change) ∈ GW := gw 0 (by decide +kernel) (by decide +kernel)
theorem kp1 : (Cond.selects "CandleLoom$Judge" yX5_onNewWick yX5_onNewWick) ∈ GW := gw 1 (by decide +kernel) (by decide +kernel)
theorem kp2 : (Cond.selects "CandleLoom$Judge" yX5_deny yX5_deny) ∈ GW := gw 2 (by decide +kernel) (by decide +kernel)
theorem kp3 : (Cond.selects "CandleLoom$Judge" yX5_onLighting yX5_onLighting) ∈ GW := gw 3 (by decide +kernel) (by decide +kernel)
theorem kp4 : (Cond.selects "CandleLoom$Judge" yX5_onSnuffing yX5_onSnuffing) ∈ GW := gw 4 (by decide +kernel) (by decide +kernel)
theorem kp5 : (Cond.selects "CandleLoom$Judge" yX5_onMoreWax yX5_onMoreWax) ∈ GW := gw 5 (by decide +kernel) (by decide +kernel)
theorem kp6 : (Cond.selects "CandleLoom$Judge" yX5_onWeaving yX5_onWeaving) ∈ GW := gw 6 (by decide +kernel) (by decide +kernel)
theorem kp7 : (Cond.selects "CandleLoom$Judge" yX5_onRavelling yX5_onRavelling) ∈ GW := gw 7 (by decide +kernel) (by decide +kernel)
theorem kp8 : (Cond.selects "CandleLoom$Judge" yX5_onRepeating yX5_onRepeating) ∈ GW := gw 8 (by decide +kernel) (by decide +kernel)
theorem kp9 : (Cond.selects "CandleLoom$Judge" yX5_onKnots yX5_onKnots) ∈ GW := gw 9 (by decide +kernel) (by decide +kernel)
theorem kp10 : (Cond.selects "CandleLoom$Judge" yX5_onMending yX5_onMending) ∈ GW := gw 10 (by decide +kernel) (by decide +kernel)
theorem kp11 : (Cond.selects "java/lang/Throwable" ⟨"java/lang/Throwable", "fillInStackTrace", "(I)Ljava/lang/Throwable;"⟩ ⟨"java/lang/Throwable", "fillInStackTrace", "(I)Ljava/lang/Throwable;"⟩) ∈ GW := gw 11 (by decide +kernel) (by decide +kernel)
theorem kp12 : (Cond.selects "CandleLoom" yX11_throwDenial yX11_throwDenial) ∈ GW := gw 12 (by decide +kernel) (by decide +kernel)
theorem kp13 : (Cond.selects "CandleLoom$Loom" yX8_weaveRows yX8_weaveRows) ∈ GW := gw 13 (by decide +kernel) (by decide +kernel)
theorem kp14 : (Cond.selects "CandleLoom$Loom" yX8_weaveRow yX8_weaveRow) ∈ GW := gw 14 (by decide +kernel) (by decide +kernel)
theorem kp15 : (Cond.selects "CandleLoom$Script" yX9_readCommand yX9_readCommand) ∈ GW := gw 15 (by decide +kernel) (by decide +kernel)
theorem kp16 : (Cond.selects "CandleLoom$Script" yX9_readWord yX9_readWord) ∈ GW := gw 16 (by decide +kernel) (by decide +kernel)
theorem kp17 : (Cond.selects "CandleLoom$Script" yX9_countSame yX9_countSame) ∈ GW := gw 17 (by decide +kernel) (by decide +kernel)
theorem kp18 : (Cond.selects "CandleLoom$Script" yX9_readSign yX9_readSign) ∈ GW := gw 18 (by decide +kernel) (by decide +kernel)
theorem kp19 : (Cond.selects "CandleLoom$Script" yX9_readSide yX9_readSide) ∈ GW := gw 19 (by decide +kernel) (by decide +kernel)
theorem kp20 : (Cond.selects "CandleLoom$Script" yX9_readDigits yX9_readDigits) ∈ GW := gw 20 (by decide +kernel) (by decide +kernel)
theorem kp21 : (Cond.selects "CandleLoom$Script" yX9_digitIsNext yX9_digitIsNext) ∈ GW := gw 21 (by decide +kernel) (by decide +kernel)
theorem kp22 : (Cond.selects "CandleLoom" yX11_firstFailingCommand yX11_firstFailingCommand) ∈ GW := gw 22 (by decide +kernel) (by decide +kernel)
theorem kp23 : (Cond.selects "CandleLoom$Wicks" yX10_rankOf yX10_rankOf) ∈ GW := gw 23 (by decide +kernel) (by decide +kernel)
theorem kp24 : (Cond.selects "CandleLoom$Wicks" yX10_precedes yX10_precedes) ∈ GW := gw 24 (by decide +kernel) (by decide +kernel)
theorem kp25 : (Cond.selects "CandleLoom$Line" yX7_addDigit yX7_addDigit) ∈ GW := gw 25 (by decide +kernel) (by decide +kernel)
theorem kp26 : (Cond.selects "CandleLoom$Line" yX7_add yX7_add) ∈ GW := gw 26 (by decide +kernel) (by decide +kernel)
theorem kp27 : (Cond.selects "CandleLoom$Cloth" yX1_isNew yX1_isNew) ∈ GW := gw 27 (by decide +kernel) (by decide +kernel)
theorem kp28 : (Cond.selects "CandleLoom$Cloth" yX1_sameRows yX1_sameRows) ∈ GW := gw 28 (by decide +kernel) (by decide +kernel)
theorem kp29 : (Cond.selects "CandleLoom$Cloth" yX1_sameRuns yX1_sameRuns) ∈ GW := gw 29 (by decide +kernel) (by decide +kernel)
theorem kp30 : (Cond.selects "CandleLoom" yX11_knottedRowFrom yX11_knottedRowFrom) ∈ GW := gw 30 (by decide +kernel) (by decide +kernel)
end
section
theorem inX1 : ∀ w ∈ u_ws RX1 TX1 4, w ∈ GW := gws _ [121, 123, 125, 127] (by decide +kernel) (by decide +kernel)
theorem inX2 : ∀ w ∈ u_ws RX2 TX2 4, w ∈ GW := gws _ [223, 225, 227, 229] (by decide +kernel) (by decide +kernel)
theorem inX3 : ∀ w ∈ u_ws RX3 TX3 2, w ∈ GW := gws _ [142, 144] (by decide +kernel) (by decide +kernel)
theorem inX4 : ∀ w ∈ u_ws RX4 TX4 3, w ∈ GW := gws _ [185, 187, 189] (by decide +kernel) (by decide +kernel)
theorem inX5 : ∀ w ∈ u_ws RX5 TX5 1, w ∈ GW := gws _ [200] (by decide +kernel) (by decide +kernel)
theorem inX7 : ∀ w ∈ u_ws RX7 TX7 2, w ∈ GW := gws _ [271, 273] (by decide +kernel) (by decide +kernel)
theorem inX8 : ∀ w ∈ u_ws RX8 TX8 6, w ∈ GW := gws _ [159, 161, 163, 165, 167, 169] (by decide +kernel) (by decide +kernel)
theorem inX9 : ∀ w ∈ u_ws RX9 TX9 5, w ∈ GW := gws _ [249, 251, 253, 255, 257] (by decide +kernel) (by decide +kernel)
theorem inX10 : ∀ w ∈ u_ws RX10 TX10 5, w ∈ GW := gws _ [93, 95, 97, 99, 101] (by decide +kernel) (by decide +kernel)
theorem inX11 : ∀ w ∈ u_ws RX11 TX11 14, w ∈ GW := gws _ [290, 292, 294, 296, 298, 300, 302, 304, 306, 308, 310, 312, 314, 316] (by decide +kernel) (by decide +kernel)
end
section
/-! THE SYSTEM'S CLASSES, told by their places: 0 Cloth, 1 Command, 2 Edge, 3 History, 4 Judge, 5 Line, 6 Loom, 7 Script, 8 Wicks, 9 CandleLoom -/
abbrev zC : List vw_C := [(RX1, TX1, 4), (RX2, TX2, 4), (RX3, TX3, 2), (RX4, TX4, 3), (RX5, TX5, 1), (RX7, TX7, 2), (RX8, TX8, 6), (RX9, TX9, 5), (RX10, TX10, 5), (RX11, TX11, 14)]
def zCok (q : vw_C) : Prop := (∀ w ∈ u_ws q.1 q.2.1 q.2.2, w ∈ GW) ∧ (∃ ty : Nat → FieldType, ∀ k, k < q.2.2 → parseFieldDescriptor (q.2.1 k).2.2.1 = some (ty k)) ∧ (∀ a, a < q.2.2 → ∀ b, b < q.2.2 → a ≠ b → (q.2.1 a).2.1 ≠ (q.2.1 b).2.1)
theorem zC_ok : ∀ q ∈ zC, zCok q := List.forall_mem_cons.mpr ⟨⟨inX1, ⟨tyX1, tyX1_ok⟩, nmX1⟩, List.forall_mem_cons.mpr ⟨⟨inX2, ⟨tyX2, tyX2_ok⟩, nmX2⟩, List.forall_mem_cons.mpr ⟨⟨inX3, ⟨tyX3, tyX3_ok⟩, nmX3⟩, List.forall_mem_cons.mpr ⟨⟨inX4, ⟨tyX4, tyX4_ok⟩, nmX4⟩, List.forall_mem_cons.mpr ⟨⟨inX5, ⟨tyX5, tyX5_ok⟩, nmX5⟩, List.forall_mem_cons.mpr ⟨⟨inX7, ⟨tyX7, tyX7_ok⟩, nmX7⟩, List.forall_mem_cons.mpr ⟨⟨inX8, ⟨tyX8, tyX8_ok⟩, nmX8⟩, List.forall_mem_cons.mpr ⟨⟨inX9, ⟨tyX9, tyX9_ok⟩, nmX9⟩, List.forall_mem_cons.mpr ⟨⟨inX10, ⟨tyX10, tyX10_ok⟩, nmX10⟩, List.forall_mem_cons.mpr ⟨⟨inX11, ⟨tyX11, tyX11_ok⟩, nmX11⟩, fun _ h => absurd h List.not_mem_nil⟩⟩⟩⟩⟩⟩⟩⟩⟩⟩
/-- what a walk knows by name: class ids and slots; g.2 0: array classes; g.2 1: the ten kinds; g.2 2, g.2 3: texts and their bytes; g.2 4: three static arrays -/
abbrev ZG : Type := va_G × (Nat → Nat → Nat)
abbrev zTy (g : ZG) : List (ClassId × FieldType) := [(g.2 0 0, .int), (g.2 0 1, .boolean), (g.2 0 2, .char), (g.2 0 3, .object RX8), (g.2 0 4, .object RX2)]
def zT (g : ZG) (U : State) : Prop := va_K g.1 zC (zTy g) U
def zA (B : Nat) : Nat → Prop := fun q => B ≤ q
/-- the texts: 0 to 9 the kinds' words, 10 to 16 their forms, 17 to 47 the law's texts, 48 the sides -/
def zTx : List (List Nat) := ["wick ", "light ", "snuff ", "wax ", "weave ", "ravel ", "repeat ", "knot ", "untie ", "mend ", "1 5 2", "1", "1 2", "2", "2 1", "2 2", "s", "wick 3 32769 12", "wick 0 6 99;light 0", "light 1", "light 0;light 0", "snuff 0", "snuff 1;light 1", "wax 0 50", "wax 1 1;wax 1 01", "weave 1", "weave 10;weave 3", "ravel 1", "ravel 2;ravel 2", "repeat 1 9", "repeat 3 2;ravel 05", "knot 0 0", "knot 1 15;untie 1 15", "untie 0 0", "mend l", "mend r;mend r", "wick 8 1 1", "wick 0 0 1", "wick 0 65536 1", "wax 0 0", "wax 0 51", "weave 0", "weave 11", "ravel 11", "repeat 21 1", "repeat 1 0", "knot 0 16", "light 9", "lrx"].map (fun t => t.toList.map Char.toNat)
def zLen (i : Nat) : Nat := (zTx.getD i []).length
def zCh (i j : Nat) : Nat := (zTx.getD i []).getD j 0
def zFm (i : Nat) : Nat := [10, 11, 11, 12, 13, 13, 14, 15, 15, 16].getD i 0
def zMsg : List (Nat × String) := [(341, "an argument or the text is not allowed"), (346, "there is no such index"), (334, "the call is denied"), (351, "there is none"), (356, "the call is not possible now"), (361, "the cloth has no rows")]
def zKn : List String := ["WICK", "LIGHT", "SNUFF", "WAX", "WEAVE", "RAVEL", "REPEAT", "KNOT", "UNTIE", "MEND"]
def zSw (i : Nat) : Nat := [1, 2, 3, 4, 5, 6, 7, 8, 9, 0].getD i 0
/-- members of a nest mate, pairs that may be cast, pairs that may not -/
def zNm : List (String × Nat × MethodName) := [("CandleLoom", 11, yX8_init), ("CandleLoom$Loom", 11, yX10_init), ("CandleLoom$Loom", 20, yX1_init), ("CandleLoom$Loom", 27, yX3_init), ("CandleLoom$History", 17, yX8_init), ("CandleLoom", 31, yX5_init), ("CandleLoom", 38, yX2_init), ("CandleLoom$Script", 21, yX2_init), ("CandleLoom", 52, yX7_init)]
def zEx : List String := ["java/lang/IllegalArgumentException", "java/lang/IndexOutOfBoundsException", "java/lang/UnsupportedOperationException", "java/util/NoSuchElementException", "java/lang/IllegalStateException", "java/lang/ArithmeticException"]
def zEn : List (String × String) := [("java/lang/UnsupportedOperationException", "java/lang/IllegalArgumentException"), ("java/lang/UnsupportedOperationException", "java/lang/IndexOutOfBoundsException"), ("java/lang/IllegalArgumentException", "java/lang/IndexOutOfBoundsException"), ("java/util/NoSuchElementException", "java/lang/IndexOutOfBoundsException")]
def zNx (U : State) : Prop := (∀ q ∈ zNm, va_Nw (.methodLinkNest q.1 q.2.1 q.2.2 "CandleLoom") U) ∧ va_Nw (.fieldLinkNest "CandleLoom$Script" 74 "CandleLoom" "KINDS" "[LCandleLoom$Kind;" "CandleLoom") U ∧ (∀ q ∈ zEx, va_Nw (.castable q q) U) ∧ ∀ q ∈ zEn, va_Nc q.1 q.2 U
theorem zNx.warm {s U : State} (hW : s.WarmedH U.vm) (h : zNx s) : zNx U := ⟨fun q hq => va_Nw.warmM hW (h.1 q hq), va_Nw.warmF hW h.2.1, fun q hq => va_Nw.same rfl (rfl : (s.setVm U.vm).vm = U.vm) (by
  show (Cond.castable q q).before #[] (s.setVm U.vm) = true
  rw [Cond.castable_setVm hW.alike]
  exact h.2.2.1 q hq), fun q hq => va_Nc.moved hW.alike (h.2.2.2 q hq)⟩
theorem zNx.same {u U : State} (hv : U.vm = u.vm) (h : zNx u) : zNx U := ⟨fun q hq => va_Nw.same rfl hv.symm (h.1 q hq), va_Nw.same rfl hv.symm h.2.1, fun q hq => va_Nw.same rfl hv.symm (h.2.2.1 q hq), fun q hq => va_Nc.moved (by rw [hv]; exact Vm.Alike.refl _) (h.2.2.2 q hq)⟩
def zStr (g : ZG) (A : Nat → Prop) (U : State) (H : Heap) : Prop := ∀ i : Nat, i < 49 → va_O "java/lang/String" (g.2 2 i) A U H ∧ va_OF "java/lang/String" "coder" "B" (.int 0) (g.2 2 i) A U H ∧ va_OF "java/lang/String" "value" "[B" (.ref (g.2 3 i)) (g.2 2 i) A U H ∧ va_T .byte (g.2 3 i) (zLen i) (fun j => .int (nI (zCh i j))) A U H
/-- what stands from the start and is never written: statics, the kinds, the texts -/
def zH (g : ZG) (B : Nat) (U : State) (H : Heap) : Prop :=
  vx_Zq Bundle.tN "UNASSIGNED_STACK" Bundle.steD (zA B) U H ∧ vx_Zq Bundle.tN "SUPPRESSED_SENTINEL" Bundle.listD (zA B) U H ∧ (∀ q ∈ zMsg, ∃ sa, vk_R "CandleLoom" q.1 q.2 sa U) ∧
  va_En "CandleLoom$Kind" "LCandleLoom$Kind;" zKn [("java/lang/Enum", "ordinal", "I", [0, 1, 2, 3, 4, 5, 6, 7, 8, 9])] (g.2 1) (zA B) U H ∧
  va_Ef 10 "CandleLoom$Kind" "word" "Ljava/lang/String;" (fun i => .ref (g.2 2 i)) (g.2 1) (zA B) U H ∧ va_Ef 10 "CandleLoom$Kind" "form" "Ljava/lang/String;" (fun i => .ref (g.2 2 (zFm i))) (g.2 1) (zA B) U H ∧
  zStr g (zA B) U H ∧
  va_Z "CandleLoom" "KINDS" "[LCandleLoom$Kind;" (.ref (g.2 4 0)) (zA B) U H ∧ va_T (.object "CandleLoom$Kind") (g.2 4 0) 10 (fun j => .ref (g.2 1 j)) (zA B) U H ∧
  va_Z "CandleLoom$1" "$SwitchMap$CandleLoom$Kind" "[I" (.ref (g.2 4 1)) (zA B) U H ∧ va_T .int (g.2 4 1) 10 (fun j => .int (nI (zSw j))) (zA B) U H ∧
  va_Z "CandleLoomLaw" "TEXTS" "[Ljava/lang/String;" (.ref (g.2 4 2)) (zA B) U H ∧ va_T (.object "java/lang/String") (g.2 4 2) 31 (fun j => .ref (g.2 2 (17 + j))) (zA B) U H ∧
  vk_R "CandleLoomLaw" 141 "lrx" (g.2 2 48) U ∧ va_Z "java/lang/String" "COMPACT_STRINGS" "Z" (.int 1) (zA B) U H ∧ va_Zq "jdk/internal/util/Preconditions" "SIOOBE_FORMATTER" "Ljava/util/function/BiFunction;" (zA B) U H
def zS (g : ZG) (B : Nat) (U : State) (H : Heap) : Prop := zT g U ∧ zH g B U H ∧ zNx U
theorem zT.moved {g : ZG} {u U : State} (hvm : u.vm.Alike U.vm) (h : zT g u) : zT g U := va_K.moved hvm h
theorem zStr.moved {g : ZG} {A : Nat → Prop} {u U : State} {H : Heap} (hvm : u.vm.Alike U.vm) (h : zStr g A u H) : zStr g A U H := fun i hi => ⟨va_O.moved hvm (h i hi).1, va_OF.moved hvm (h i hi).2.1, va_OF.moved hvm (h i hi).2.2.1, va_T.moved hvm (h i hi).2.2.2⟩
theorem zStr.kept {g : ZG} {A : Nat → Prop} {U : State} {H H1 : Heap} (h : zStr g A U H) (hq : ∀ a : Nat, a < H.size → ¬ A a → H1[a]? = H[a]?) : zStr g A U H1 := fun i hi => ⟨(h i hi).1.kept hq, (h i hi).2.1.kept hq, (h i hi).2.2.1.kept hq, (h i hi).2.2.2.kept hq⟩
theorem zH.kept {g : ZG} {B : Nat} {U : State} {H H1 : Heap} (h : zH g B U H) (hq : ∀ a : Nat, a < H.size → ¬ zA B a → H1[a]? = H[a]?) : zH g B U H1 := by
  obtain ⟨a1, a2, a3, a4, a5, a6, a7, a8, a9, b1, b2, b3, b4, b5, b6, b7⟩ := h
  exact ⟨a1.kept hq, a2.kept hq, a3, a4.kept hq, a5.kept hq, a6.kept hq, a7.kept hq, a8.kept hq, a9.kept hq, b1.kept hq, b2.kept hq, b3.kept hq, b4.kept hq, b5, b6.kept hq, b7.kept hq⟩
theorem zH.moved {g : ZG} {B : Nat} {u U : State} {H : Heap} (hvm : u.vm.Alike U.vm) (hr : ∀ own k tx a, vk_R own k tx a u → vk_R own k tx a U) (h : zH g B u H) : zH g B U H := by
  obtain ⟨a1, a2, a3, a4, a5, a6, a7, a8, a9, b1, b2, b3, b4, b5, b6, b7⟩ := h
  refine ⟨vx_Zq.moved hvm a1, vx_Zq.moved hvm a2, fun q hq => ?_, va_En.moved hvm a4, va_Ef.moved hvm a5, va_Ef.moved hvm a6, zStr.moved hvm a7, va_Z.moved hvm a8, va_T.moved hvm a9, va_Z.moved hvm b1, va_T.moved hvm b2, va_Z.moved hvm b3, va_T.moved hvm b4, hr _ _ _ _ b5, va_Z.moved hvm b6, va_Zq.moved hvm b7⟩
  obtain ⟨sa, hs⟩ := a3 q hq
  exact ⟨sa, hr _ _ _ _ hs⟩
theorem zS.warm {g : ZG} {B : Nat} {s U : State} {H : Heap} (hW : s.WarmedH U.vm) (h : zS g B s H) : zS g B U H := ⟨zT.moved hW.alike h.1, zH.moved hW.alike (fun _ _ _ _ => vk_R.warm hW) h.2.1, h.2.2.warm hW⟩
theorem zS.same {g : ZG} {B : Nat} {u U : State} {H : Heap} (hv : U.vm = u.vm) (h : zS g B u H) : zS g B U H := ⟨zT.moved (by rw [hv]; exact Vm.Alike.refl _) h.1, zH.moved (by rw [hv]; exact Vm.Alike.refl _) (fun _ _ _ _ => vk_R.same hv) h.2.1, h.2.2.same hv⟩
/-- at a later heap of the same method -/
theorem zS.at' {g : ZG} {B : Nat} {s : State} {H : Heap} {locs : List Loc} (h : zS g B s s.heap) (hS : va_S (zA B) s.heap H locs) : zS g B s H := ⟨h.1, h.2.1.kept hS.2.1, h.2.2⟩
/-! THE WORLD: n cells from o on, their kinds T, their numbers f (cell, slot) -/
abbrev ZD : Type := ZG → Nat → (Nat → Nat) → va_E
def zPm (g : ZG) (o n : Nat) (T : Nat → ZD) (f : Nat → Nat → Nat) (H : Heap) : Prop := ∀ k, k < n → va_at g.1 zC (o + k, T k g (o + k) (f k)) H
/-- from H to H1 nothing old has changed outside the n cells from a on -/
def zCh1 (a n : Nat) (H H1 : Heap) : Prop := H.size ≤ H1.size ∧ ∀ q, q < H.size → (q < a ∨ a + n ≤ q) → H1[q]? = H[q]?
theorem zCh1.rf {a n : Nat} {H : Heap} : zCh1 a n H H := ⟨Nat.le_refl _, fun _ _ _ => rfl⟩
theorem zCh1.tr {a n : Nat} {H H1 H2 : Heap} (h1 : zCh1 a n H H1) (h2 : zCh1 a n H1 H2) : zCh1 a n H H2 := ⟨Nat.le_trans h1.1 h2.1, fun q hq ho => (h2.2 q (Nat.lt_of_lt_of_le hq h1.1) ho).trans (h1.2 q hq ho)⟩
theorem zCh1.mono {a n b k : Nat} {H H1 : Heap} (h : zCh1 a n H H1) (h1 : b ≤ a) (h2 : a + n ≤ b + k) : zCh1 b k H H1 := ⟨h.1, fun q hq ho => h.2 q hq (by omega)⟩
theorem zCh1.va {a n B : Nat} {H0 H H1 : Heap} {locs : List Loc} (h : zCh1 a n H H1) (hB : B ≤ a) (hS : va_S (zA B) H0 H locs) {L : List Loc} (hL : ∀ l ∈ L, zA B l.base) : va_S (zA B) H0 H1 (locs ++ L) := by
  refine ⟨Nat.le_trans hS.1 h.1, fun q h1 h2 => ?_, fun l hl => ?_⟩
  · rw [h.2 q (Nat.lt_of_lt_of_le h1 hS.1) (Or.inl (by have : ¬ B ≤ q := h2; omega))]
    exact hS.2.1 q h1 h2
  · rcases List.mem_append.mp hl with z | z
    · exact hS.2.2 l z
    · exact hL l z
theorem zPm.lt {g : ZG} {o n : Nat} {T : Nat → ZD} {f : Nat → Nat → Nat} {H : Heap} (h : zPm g o n T f H) {k : Nat} (hk : k < n) : o + k < H.size := (h k hk).lt
theorem zPm.kept {g : ZG} {o n a z : Nat} {T : Nat → ZD} {f : Nat → Nat → Nat} {H H1 : Heap} (h : zPm g o n T f H) (hc : zCh1 a z H H1) (hd : o + n ≤ a ∨ a + z ≤ o) : zPm g o n T f H1 := fun k hk => (h k hk).kept (hc.2 _ (h.lt hk) (by show o + k < a ∨ a + z ≤ o + k; omega))
theorem zPm.eq {g : ZG} {o n : Nat} {T : Nat → ZD} {f f' : Nat → Nat → Nat} {H : Heap} (h : zPm g o n T f H) (he : f = f') : zPm g o n T f' H := he ▸ h
theorem zPm.sub {g : ZG} {o n o' n' d : Nat} {T T' : Nat → ZD} {f f' : Nat → Nat → Nat} {H : Heap} (h : zPm g o n T f H) (ho : o' = o + d) (hn : d + n' ≤ n) (hT : ∀ k, k < n' → T (d + k) = T' k) (hf : ∀ k, k < n' → f (d + k) = f' k) : zPm g o' n' T' f' H := fun k hk => by
  have h1 := h (d + k) (by omega)
  rw [hT k hk, hf k hk] at h1
  rw [ho, show o + d + k = o + (d + k) by omega]
  exact h1
theorem zPm.recv {g : ZG} {o n : Nat} {T : Nat → ZD} {f : Nat → Nat → Nat} {H : Heap} {s : State} (hK : zT g s) (h : zPm g o n T f H) (k : Nat) (hk : k < n) {a : Nat} (ha : o + k = a) {ci : Nat} {fs : List Value} (hT : T k g (o + k) (f k) = .inr (ci, fs)) {q : vw_C} (hc : zC[ci]? = some q) : ∃ cell : Cell, H[a]? = some cell ∧ cell.vm.isStatics = false ∧ s.vm.findClass q.1 = some cell.cls := by
  have h1 := h k hk
  rw [hT, ha] at h1
  exact va_recv (ws := [(a, .inr (ci, fs))]) (q0 := 0) hK (fun i x hx => by
    have : i < 1 := (List.getElem?_eq_some_iff.mp hx).1
    rw [show i = 0 by omega] at hx; cases hx; exact h1) hc rfl
theorem zOne {g : ZG} {a : Nat} {e : va_E} {H : Heap} (h : va_at g.1 zC (a, e) H) : va_P g.1 zC [(a, e)] H := fun i x hx => by
  have : i < 1 := (List.getElem?_eq_some_iff.mp hx).1
  rw [show i = 0 by omega] at hx; cases hx; exact h
theorem zOneD {a : Nat} {e : va_E} : va_D (fun _ => True) [(a, e)] := ⟨fun i j p q hi hj _ => by
  have h1 : i < 1 := (List.getElem?_eq_some_iff.mp hi).1
  have h2 : j < 1 := (List.getElem?_eq_some_iff.mp hj).1
  omega, fun _ _ _ => trivial⟩
/-- one cell has changed -/
theorem zPm.set {g : ZG} {o n : Nat} {T : Nat → ZD} {f : Nat → Nat → Nat} {H H1 : Heap} (h : zPm g o n T f H) {k : Nat} {r : Nat → Nat} (he : va_at g.1 zC (o + k, T k g (o + k) r) H1) (oq : ∀ q : Nat, q ≠ o + k → H1[q]? = H[q]?) : zPm g o n T (va_up f k r) H1 := fun j hj => by
  by_cases hjk : j = k
  · subst hjk
    rw [show va_up f j r j = r from if_pos rfl]
    exact he
  · rw [show va_up f k r j = f j from if_neg hjk]
    exact (h j hj).kept (oq _ (by show o + j ≠ o + k; omega))
/-! CONTRACTS: what holds ahead of a call: the cells (PH), the tables and what stands from the start -/
def zPre (g : ZG) (B : Nat) (PH : Heap → Prop) : State → Prop := fun U => PH U.heap ∧ zS g B U U.heap
/-- it only reads: its answer, and the same heap -/
def zR (v : Option Value) : Array Value → State → Outcome → State → Prop := fun _ st o t => o = .returned v ∧ t.heap = st.heap
/-- it writes: what holds of its answer and of the heap behind it, and which cells may have changed -/
def zX (PW : Option Value → Heap → Prop) (a n : Nat) : Array Value → State → Outcome → State → Prop := fun _ st o t => ∃ v, o = .returned v ∧ PW v t.heap ∧ zCh1 a n st.heap t.heap
/-- what holds where it has thrown E -/
def zXT (PW : String → Heap → Prop) (a n : Nat) : String → State → State → Prop := fun E st t => PW E t.heap ∧ zCh1 a n st.heap t.heap
theorem zPre.blind {g : ZG} {B : Nat} {PH : Heap → Prop} {av : List Value} : FrameBlind (va_Pc av (zPre g B PH)) := fun _ _ _ _ q => ⟨q.1, q.2.1, zS.same rfl q.2.2⟩
theorem zPre.at' {g : ZG} {B : Nat} {PH : Heap → Prop} {s U : State} {H : Heap} (hZ : zS g B s H) (hPH : PH H) (hU : U.heap = H) (hW : s.WarmedH U.vm) : zPre g B PH U := ⟨by rw [hU]; exact hPH, by rw [hU]; exact hZ.warm hW⟩
end
section
/-! ROWS of the kit, turned to the world of cells and to numbers nI n -/
theorem zn_and (a b : Nat) : nI a &&& nI b = nI (a &&& b) := by
  apply Int32.toBitVec_inj.mp
  show BitVec.ofNat 32 a &&& BitVec.ofNat 32 b = BitVec.ofNat 32 (a &&& b)
  apply BitVec.eq_of_toNat_eq
  simp [Nat.and_mod_two_pow]
theorem zn_xor (a b : Nat) : nI a ^^^ nI b = nI (a ^^^ b) := by
  apply Int32.toBitVec_inj.mp
  show BitVec.ofNat 32 a ^^^ BitVec.ofNat 32 b = BitVec.ofNat 32 (a ^^^ b)
  apply BitVec.eq_of_toNat_eq
  simp [Nat.xor_mod_two_pow]
theorem zn_bool (b : Bool) : narrow .boolean (.int (nI b.toNat)) = .int (nI b.toNat) := by cases b <;> rfl
theorem zn_b0 (b : Bool) : nI b.toNat = 0 ↔ b = false := by cases b <;> simp [nI]
theorem zn_bt {b : Bool} (h : ¬ b = false) : b = true := by cases b <;> simp_all
theorem zn_int (x : Int32) : narrow .int (.int x) = .int x := rfl
theorem zn_char {q : Nat} (h : q < 65536) : narrow .char (.int (nI q)) = .int (nI q) := (pk_charN h).1
theorem zn_0 {a : Nat} (h : a < 2 ^ 31) : nI a = 0 ↔ a = 0 := by
  have h0 : (0 : Int32) = nI 0 := rfl
  rw [h0]
  exact nI_eq h (by omega)
theorem zn_s : ∀ k, k < 32 → ((nI k &&& 31).toBitVec.smod 32).toNat = k := by decide +kernel
theorem zn_us : ∀ k, k < 32 → (((nI k).toUInt32 &&& Int32.toUInt32 31).toBitVec % 32).toNat = k := by decide +kernel
section ZR
variable {p : Program} {l : Launch} {e : Env} {R : Room} {s : State} {m : MethodId} {args : Array Value} {below : List Frame} {meth : Method} {c : Code} {H : Heap} {locs : List Loc} {cells slots : Nat} {Q : State → Prop}
variable {cc : ByteArray} {pc nL : Nat} {own : String} {ls : Array Slot} {rest : List Value} {g : ZG} {B o n : Nat} {T : Nat → ZD} {f : Nat → Nat → Nat}
theorem z_ic (S : CallFix p m c cc nL s args GW own) {k : Nat} {z : Int} (hdg : decode cc pc = .ok (.iconst z, 1)) (hv : Int32.ofInt z = nI k) (kk : W p l e R s m args below meth c H locs cells slots Q (F0 m (pc + 1) ls (.int (nI k) :: rest))) : W p l e R s m args below meth c H locs cells slots Q (F0 m pc ls rest) := lv_iconst S.1 S.2.1 hdg hv kk
theorem z_bi (S : CallFix p m c cc nL s args GW own) {k : Nat} {z : Int} (hdg : decode cc pc = .ok (.bipush z, 2)) (hv : (Int8.ofInt z).toInt32 = nI k) (kk : W p l e R s m args below meth c H locs cells slots Q (F0 m (pc + 2) ls (.int (nI k) :: rest))) : W p l e R s m args below meth c H locs cells slots Q (F0 m pc ls rest) := lv_bipush S.1 S.2.1 hdg hv kk
theorem z_si (S : CallFix p m c cc nL s args GW own) {k : Nat} {z : Int} (hdg : decode cc pc = .ok (.sipush z, 3)) (hv : (Int16.ofInt z).toInt32 = nI k) (kk : W p l e R s m args below meth c H locs cells slots Q (F0 m (pc + 3) ls (.int (nI k) :: rest))) : W p l e R s m args below meth c H locs cells slots Q (F0 m pc ls rest) := lv_sipush S.1 S.2.1 hdg hv kk
theorem z_add (S : CallFix p m c cc nL s args GW own) {a b : Nat} (hdg : decode cc pc = .ok (.iadd, 1)) (kk : W p l e R s m args below meth c H locs cells slots Q (F0 m (pc + 1) ls (.int (nI (a + b)) :: rest))) : W p l e R s m args below meth c H locs cells slots Q (F0 m pc ls (.int (nI b) :: .int (nI a) :: rest)) := lv_iadd S.1 S.2.1 hdg (by rw [nI_add]; exact kk)
theorem z_sub (S : CallFix p m c cc nL s args GW own) {a b : Nat} (h : b ≤ a) (hdg : decode cc pc = .ok (.isub, 1)) (kk : W p l e R s m args below meth c H locs cells slots Q (F0 m (pc + 1) ls (.int (nI (a - b)) :: rest))) : W p l e R s m args below meth c H locs cells slots Q (F0 m pc ls (.int (nI b) :: .int (nI a) :: rest)) := lv_isub S.1 S.2.1 hdg (by rw [pk_sub h]; exact kk)
theorem z_mul (S : CallFix p m c cc nL s args GW own) {a b : Nat} (hdg : decode cc pc = .ok (.imul, 1)) (kk : W p l e R s m args below meth c H locs cells slots Q (F0 m (pc + 1) ls (.int (nI (a * b)) :: rest))) : W p l e R s m args below meth c H locs cells slots Q (F0 m pc ls (.int (nI b) :: .int (nI a) :: rest)) := lv_imul S.1 S.2.1 hdg (by rw [pk_mul]; exact kk)
theorem z_rem (S : CallFix p m c cc nL s args GW own) {a b : Nat} (ha : a < 2 ^ 31) (h0 : 0 < b) (hb : b < 2 ^ 31) (hdg : decode cc pc = .ok (.irem, 1)) (kk : W p l e R s m args below meth c H locs cells slots Q (F0 m (pc + 1) ls (.int (nI (a % b)) :: rest))) : W p l e R s m args below meth c H locs cells slots Q (F0 m pc ls (.int (nI b) :: .int (nI a) :: rest)) := lv_irem S.1 S.2.1 hdg (fun h => by rw [zn_0 hb] at h; omega) (by rw [pk_rem ha h0 hb]; exact kk)
theorem z_and (S : CallFix p m c cc nL s args GW own) {a b : Nat} (hdg : decode cc pc = .ok (.iand, 1)) (kk : W p l e R s m args below meth c H locs cells slots Q (F0 m (pc + 1) ls (.int (nI (a &&& b)) :: rest))) : W p l e R s m args below meth c H locs cells slots Q (F0 m pc ls (.int (nI b) :: .int (nI a) :: rest)) := lv_iand S.1 S.2.1 hdg (by rw [zn_and]; exact kk)
theorem z_xor (S : CallFix p m c cc nL s args GW own) {a b : Nat} (hdg : decode cc pc = .ok (.ixor, 1)) (kk : W p l e R s m args below meth c H locs cells slots Q (F0 m (pc + 1) ls (.int (nI (a ^^^ b)) :: rest))) : W p l e R s m args below meth c H locs cells slots Q (F0 m pc ls (.int (nI b) :: .int (nI a) :: rest)) := lv_ixor S.1 S.2.1 hdg (by rw [zn_xor]; exact kk)
theorem z_shr (S : CallFix p m c cc nL s args GW own) {a b : Nat} (ha : a < 2 ^ 31) (hb : b < 32) (hdg : decode cc pc = .ok (.ishr, 1)) (kk : W p l e R s m args below meth c H locs cells slots Q (F0 m (pc + 1) ls (.int (nI (a / 2 ^ b)) :: rest))) : W p l e R s m args below meth c H locs cells slots Q (F0 m pc ls (.int (nI b) :: .int (nI a) :: rest)) := lv_ishr S.1 S.2.1 hdg (by rw [pk_shrN ha _ b (zn_s b hb)]; exact kk)
theorem z_shl (S : CallFix p m c cc nL s args GW own) {a b : Nat} (hb : b < 32) (h : a * 2 ^ b < 2 ^ 32) (hdg : decode cc pc = .ok (.ishl, 1)) (kk : W p l e R s m args below meth c H locs cells slots Q (F0 m (pc + 1) ls (.int (nI (a * 2 ^ b)) :: rest))) : W p l e R s m args below meth c H locs cells slots Q (F0 m pc ls (.int (nI b) :: .int (nI a) :: rest)) := lv_ishl S.1 S.2.1 hdg (by rw [pk_shlN _ b (zn_s b hb) h]; exact kk)
theorem z_ushr (S : CallFix p m c cc nL s args GW own) {a b : Nat} (ha : a < 2 ^ 32) (hb : b < 32) (hdg : decode cc pc = .ok (.iushr, 1)) (kk : W p l e R s m args below meth c H locs cells slots Q (F0 m (pc + 1) ls (.int (nI (a / 2 ^ b)) :: rest))) : W p l e R s m args below meth c H locs cells slots Q (F0 m pc ls (.int (nI b) :: .int (nI a) :: rest)) := lv_iushr S.1 S.2.1 hdg (pk_ushrN ha _ b (zn_us b hb)) kk
theorem z_inc (S : CallFix p m c cc nL s args GW own) {i k a b : Nat} {z : Int} {lv lv' : List (Nat × Value)} (hdg : decode cc pc = .ok (.iinc i z, 3)) (h : lv_has ls nL lv) (hk : lv[k]? = some (i, .int (nI a))) (hz : Int32.ofInt z = nI b) (hn : i < nL) (hl : (i, Value.int (nI (a + b))) :: lv.filter (fun q => !(q.1 == i) && !(q.1 + 1 == i && q.2.category == 2)) = lv')
    (kk : ∀ ls' : Array Slot, lv_has ls' nL lv' → W p l e R s m args below meth c H locs cells slots Q (F0 m (pc + 3) ls' rest)) : W p l e R s m args below meth c H locs cells slots Q (F0 m pc ls rest) := lv_iinc S.1 S.2.1 hdg h hk (by rw [hz, nI_add]) hn hl kk
theorem z_dec (S : CallFix p m c cc nL s args GW own) {i k a : Nat} {lv lv' : List (Nat × Value)} (hdg : decode cc pc = .ok (.iinc i (-1), 3)) (h : lv_has ls nL lv) (hk : lv[k]? = some (i, .int (nI (a + 1)))) (hn : i < nL) (hl : (i, Value.int (nI a)) :: lv.filter (fun q => !(q.1 == i) && !(q.1 + 1 == i && q.2.category == 2)) = lv')
    (kk : ∀ ls' : Array Slot, lv_has ls' nL lv' → W p l e R s m args below meth c H locs cells slots Q (F0 m (pc + 3) ls' rest)) : W p l e R s m args below meth c H locs cells slots Q (F0 m pc ls rest) := lv_iinc S.1 S.2.1 hdg h hk (pk_m1 a) hn hl kk
theorem z_clt (S : CallFix p m c cc nL s args GW own) {a b tgt : Nat} {off : Int} (ha : a < 2 ^ 31) (hb : b < 2 ^ 31) (hdg : decode cc pc = .ok (.if_icmp .lt off, 3)) (ht : (pc : Int) + off = (tgt : Int)) (kt : a < b → W p l e R s m args below meth c H locs cells slots Q (F0 m tgt ls rest)) (kf : b ≤ a → W p l e R s m args below meth c H locs cells slots Q (F0 m (pc + 3) ls rest)) : W p l e R s m args below meth c H locs cells slots Q (F0 m pc ls (.int (nI b) :: .int (nI a) :: rest)) :=
  lv_icmp_lt S.1 S.2.1 hdg ht (fun h => kt ((nI_ltI ha hb).mp h)) (fun h => kf (Nat.not_lt.mp (fun z => h ((nI_ltI ha hb).mpr z))))
theorem z_cge (S : CallFix p m c cc nL s args GW own) {a b tgt : Nat} {off : Int} (ha : a < 2 ^ 31) (hb : b < 2 ^ 31) (hdg : decode cc pc = .ok (.if_icmp .ge off, 3)) (ht : (pc : Int) + off = (tgt : Int)) (kt : b ≤ a → W p l e R s m args below meth c H locs cells slots Q (F0 m tgt ls rest)) (kf : a < b → W p l e R s m args below meth c H locs cells slots Q (F0 m (pc + 3) ls rest)) : W p l e R s m args below meth c H locs cells slots Q (F0 m pc ls (.int (nI b) :: .int (nI a) :: rest)) :=
  lv_icmp_ge S.1 S.2.1 hdg ht (fun h => kt ((nI_leI hb ha).mp h)) (fun h => kf (Nat.not_le.mp (fun z => h ((nI_leI hb ha).mpr z))))
theorem z_cgt (S : CallFix p m c cc nL s args GW own) {a b tgt : Nat} {off : Int} (ha : a < 2 ^ 31) (hb : b < 2 ^ 31) (hdg : decode cc pc = .ok (.if_icmp .gt off, 3)) (ht : (pc : Int) + off = (tgt : Int)) (kt : b < a → W p l e R s m args below meth c H locs cells slots Q (F0 m tgt ls rest)) (kf : a ≤ b → W p l e R s m args below meth c H locs cells slots Q (F0 m (pc + 3) ls rest)) : W p l e R s m args below meth c H locs cells slots Q (F0 m pc ls (.int (nI b) :: .int (nI a) :: rest)) :=
  lv_icmp_gt S.1 S.2.1 hdg ht (fun h => kt ((nI_ltI hb ha).mp h)) (fun h => kf (Nat.not_lt.mp (fun z => h ((nI_ltI hb ha).mpr z))))
theorem z_cle (S : CallFix p m c cc nL s args GW own) {a b tgt : Nat} {off : Int} (ha : a < 2 ^ 31) (hb : b < 2 ^ 31) (hdg : decode cc pc = .ok (.if_icmp .le off, 3)) (ht : (pc : Int) + off = (tgt : Int)) (kt : a ≤ b → W p l e R s m args below meth c H locs cells slots Q (F0 m tgt ls rest)) (kf : b < a → W p l e R s m args below meth c H locs cells slots Q (F0 m (pc + 3) ls rest)) : W p l e R s m args below meth c H locs cells slots Q (F0 m pc ls (.int (nI b) :: .int (nI a) :: rest)) :=
  lv_icmp_le S.1 S.2.1 hdg ht (fun h => kt ((nI_leI ha hb).mp h)) (fun h => kf (Nat.not_le.mp (fun z => h ((nI_leI ha hb).mpr z))))
theorem z_ceq (S : CallFix p m c cc nL s args GW own) {a b tgt : Nat} {off : Int} (ha : a < 2 ^ 31) (hb : b < 2 ^ 31) (hdg : decode cc pc = .ok (.if_icmp .eq off, 3)) (ht : (pc : Int) + off = (tgt : Int)) (kt : a = b → W p l e R s m args below meth c H locs cells slots Q (F0 m tgt ls rest)) (kf : ¬ a = b → W p l e R s m args below meth c H locs cells slots Q (F0 m (pc + 3) ls rest)) : W p l e R s m args below meth c H locs cells slots Q (F0 m pc ls (.int (nI b) :: .int (nI a) :: rest)) :=
  lv_icmp_eq S.1 S.2.1 hdg ht (fun h => kt ((nI_eq ha hb).mp h)) (fun h => kf (fun z => h ((nI_eq ha hb).mpr z)))
theorem z_cne (S : CallFix p m c cc nL s args GW own) {a b tgt : Nat} {off : Int} (ha : a < 2 ^ 31) (hb : b < 2 ^ 31) (hdg : decode cc pc = .ok (.if_icmp .ne off, 3)) (ht : (pc : Int) + off = (tgt : Int)) (kt : ¬ a = b → W p l e R s m args below meth c H locs cells slots Q (F0 m tgt ls rest)) (kf : a = b → W p l e R s m args below meth c H locs cells slots Q (F0 m (pc + 3) ls rest)) : W p l e R s m args below meth c H locs cells slots Q (F0 m pc ls (.int (nI b) :: .int (nI a) :: rest)) :=
  lv_icmp_ne S.1 S.2.1 hdg ht (fun h => kt (fun z => h ((nI_eq ha hb).mpr z))) (fun h => kf ((nI_eq ha hb).mp (Classical.byContradiction fun w => w h)))
theorem z_ilt (S : CallFix p m c cc nL s args GW own) {a tgt : Nat} {off : Int} (ha : a < 2 ^ 31) (hdg : decode cc pc = .ok (.ifCond .lt off, 3)) (ht : (pc : Int) + off = (tgt : Int)) (kf : W p l e R s m args below meth c H locs cells slots Q (F0 m (pc + 3) ls rest)) : W p l e R s m args below meth c H locs cells slots Q (F0 m pc ls (.int (nI a) :: rest)) :=
  lv_if_lt S.1 S.2.1 hdg ht (fun h => absurd h (nI_pos ha)) (fun _ => kf)
theorem z_ige (S : CallFix p m c cc nL s args GW own) {a tgt : Nat} {off : Int} (ha : a < 2 ^ 31) (hdg : decode cc pc = .ok (.ifCond .ge off, 3)) (ht : (pc : Int) + off = (tgt : Int)) (kt : W p l e R s m args below meth c H locs cells slots Q (F0 m tgt ls rest)) : W p l e R s m args below meth c H locs cells slots Q (F0 m pc ls (.int (nI a) :: rest)) :=
  lv_if_ge S.1 S.2.1 hdg ht (fun _ => kt) (fun h => absurd (nI_pos' ha) h)
theorem z_igt (S : CallFix p m c cc nL s args GW own) {a tgt : Nat} {off : Int} (ha : a < 2 ^ 31) (hdg : decode cc pc = .ok (.ifCond .gt off, 3)) (ht : (pc : Int) + off = (tgt : Int)) (kt : 0 < a → W p l e R s m args below meth c H locs cells slots Q (F0 m tgt ls rest)) (kf : a = 0 → W p l e R s m args below meth c H locs cells slots Q (F0 m (pc + 3) ls rest)) : W p l e R s m args below meth c H locs cells slots Q (F0 m pc ls (.int (nI a) :: rest)) :=
  lv_if_gt S.1 S.2.1 hdg ht (fun h => kt ((nI_ltI (by omega) ha).mp (show nI 0 < nI a from h))) (fun h => kf (by
    rcases Nat.eq_zero_or_pos a with z | z
    · exact z
    · exact absurd (show (0 : Int32) < nI a from (nI_ltI (a := 0) (by omega) ha).mpr z) h))
theorem z_ile (S : CallFix p m c cc nL s args GW own) {a tgt : Nat} {off : Int} (ha : a < 2 ^ 31) (hdg : decode cc pc = .ok (.ifCond .le off, 3)) (ht : (pc : Int) + off = (tgt : Int)) (kt : a = 0 → W p l e R s m args below meth c H locs cells slots Q (F0 m tgt ls rest)) (kf : 0 < a → W p l e R s m args below meth c H locs cells slots Q (F0 m (pc + 3) ls rest)) : W p l e R s m args below meth c H locs cells slots Q (F0 m pc ls (.int (nI a) :: rest)) :=
  lv_if_le S.1 S.2.1 hdg ht (fun h => kt (Nat.le_zero.mp ((nI_leI (b := 0) ha (by omega)).mp h))) (fun h => kf (by
    rcases Nat.eq_zero_or_pos a with z | z
    · subst z; exact absurd (Int32.le_refl _) h
    · exact z))
theorem z_ieq (S : CallFix p m c cc nL s args GW own) {a tgt : Nat} {off : Int} (ha : a < 2 ^ 31) (hdg : decode cc pc = .ok (.ifCond .eq off, 3)) (ht : (pc : Int) + off = (tgt : Int)) (kt : a = 0 → W p l e R s m args below meth c H locs cells slots Q (F0 m tgt ls rest)) (kf : ¬ a = 0 → W p l e R s m args below meth c H locs cells slots Q (F0 m (pc + 3) ls rest)) : W p l e R s m args below meth c H locs cells slots Q (F0 m pc ls (.int (nI a) :: rest)) :=
  lv_if_eq S.1 S.2.1 hdg ht (fun h => kt ((zn_0 ha).mp h)) (fun h => kf (fun z => h ((zn_0 ha).mpr z)))
theorem z_ine (S : CallFix p m c cc nL s args GW own) {a tgt : Nat} {off : Int} (ha : a < 2 ^ 31) (hdg : decode cc pc = .ok (.ifCond .ne off, 3)) (ht : (pc : Int) + off = (tgt : Int)) (kt : ¬ a = 0 → W p l e R s m args below meth c H locs cells slots Q (F0 m tgt ls rest)) (kf : a = 0 → W p l e R s m args below meth c H locs cells slots Q (F0 m (pc + 3) ls rest)) : W p l e R s m args below meth c H locs cells slots Q (F0 m pc ls (.int (nI a) :: rest)) :=
  lv_if_ne S.1 S.2.1 hdg ht (fun h => kt (fun z => h ((zn_0 ha).mpr z))) (fun h => kf ((zn_0 ha).mp (Classical.byContradiction fun w => w h)))
theorem z_beq (S : CallFix p m c cc nL s args GW own) {b : Bool} {tgt : Nat} {off : Int} (hdg : decode cc pc = .ok (.ifCond .eq off, 3)) (ht : (pc : Int) + off = (tgt : Int)) (kt : b = false → W p l e R s m args below meth c H locs cells slots Q (F0 m tgt ls rest)) (kf : b = true → W p l e R s m args below meth c H locs cells slots Q (F0 m (pc + 3) ls rest)) : W p l e R s m args below meth c H locs cells slots Q (F0 m pc ls (.int (nI b.toNat) :: rest)) :=
  lv_if_eq S.1 S.2.1 hdg ht (fun h => kt ((zn_b0 b).mp h)) (fun h => kf (zn_bt (fun z => h ((zn_b0 b).mpr z))))
theorem z_bne (S : CallFix p m c cc nL s args GW own) {b : Bool} {tgt : Nat} {off : Int} (hdg : decode cc pc = .ok (.ifCond .ne off, 3)) (ht : (pc : Int) + off = (tgt : Int)) (kt : b = true → W p l e R s m args below meth c H locs cells slots Q (F0 m tgt ls rest)) (kf : b = false → W p l e R s m args below meth c H locs cells slots Q (F0 m (pc + 3) ls rest)) : W p l e R s m args below meth c H locs cells slots Q (F0 m pc ls (.int (nI b.toNat) :: rest)) :=
  lv_if_ne S.1 S.2.1 hdg ht (fun h => kt (zn_bt (fun z => h ((zn_b0 b).mpr z)))) (fun h => kf ((zn_b0 b).mp (Classical.byContradiction fun w => w h)))
theorem z_get (S : CallFix p m c cc nL s args GW own) (hK : zT g s) (hP : zPm g o n T f H) (k : Nat) (hk : k < n) {a : Nat} (ha : o + k = a) {ci : Nat} {fs : List Value} (hT : T k g (o + k) (f k) = .inr (ci, fs)) {C : String} {Tt : u_T} {N : Nat} (hc : zC[ci]? = some (C, Tt, N)) (j : Nat) (hj : j < N) {v : Value} (hv : fs[j]? = some v) {index : Nat} (hlink : Cond.fieldLink own index (Tt j).1 (Tt j).2.1 (Tt j).2.2.1 ∈ GW) (hdg : decode cc pc = .ok (.getfield index, 3))
    (kk : W p l e R s m args below meth c H locs cells slots Q (F0 m (pc + 3) ls (v :: rest))) : W p l e R s m args below meth c H locs cells slots Q (F0 m pc ls (.ref a :: rest)) := by
  have h1 := hP k hk
  rw [hT, ha] at h1
  exact va_get S.1 S.2.1 S.2.2.2.2 (zC_ok _ (List.mem_of_getElem? hc)).1 S.2.2.2.1 hK (zOne h1) 0 rfl hc j hj (S.2.2.2.2 _ hlink) (fun _ h => h) hv hdg kk
theorem z_put (S : CallFix p m c cc nL s args GW own) (hK : zT g s) (hP : zPm g o n T f H) (hS0 : va_S (zA B) s.heap H locs) (hB : B ≤ o) (k : Nat) (hk : k < n) {a : Nat} (ha : o + k = a) {ci : Nat} {fs : List Value} (hT : T k g (o + k) (f k) = .inr (ci, fs)) {C : String} {Tt : u_T} {N : Nat} (hc : zC[ci]? = some (C, Tt, N)) (j : Nat) (hj : j < N) {v : Value} (r : Nat → Nat) (hT2 : T k g (o + k) r = .inr (ci, fs.set j v)) {index : Nat} (hlink : Cond.fieldLink own index (Tt j).1 (Tt j).2.1 (Tt j).2.2.1 ∈ GW) (hfin : (Tt j).2.2.2 = false) {ty : FieldType} (hd : parseFieldDescriptor (Tt j).2.2.1 = some ty) (hn : narrow ty v = v) (hfit : fits ty v = true) (hl : j < fs.length) (hdg : decode cc pc = .ok (.putfield index, 3))
    (kk : ∀ (H1 : Heap) (locs1 : List Loc), zPm g o n T (va_up f k r) H1 → zCh1 a 1 H H1 → va_S (zA B) s.heap H1 locs1 → W p l e R s m args below meth c H1 locs1 cells slots Q (F0 m (pc + 3) ls rest)) : W p l e R s m args below meth c H locs cells slots Q (F0 m pc ls (v :: .ref a :: rest)) := by
  obtain ⟨hin, ⟨ty0, hty⟩, hnm⟩ := zC_ok _ (List.mem_of_getElem? hc)
  have hap := va_apart (own := own) S.2.2.2.2 hin ty0 hty hnm hK hc
  have h0 := hP k hk
  rw [hT, ha] at h0
  obtain ⟨r0, h1, cell, q1, q2, q3, q4⟩ := h0
  have hr : r0 = (C, Tt, N) := Option.some.inj (h1.symm.trans hc)
  subst hr
  obtain ⟨hS, hfc, kC, hkC, hkind⟩ := hK.1 ci _ hc
  obtain ⟨cf, kf, fi, fd, hi, hsl⟩ := hS j hj
  have hlay := S.2.2.2.2 _ (hin _ (u_in_lay hj))
  unfold u_lay at hlay
  rw [if_neg (by rw [hfin]; decide)] at hlay
  have hst := (u_facts hfc hkC (u_lays S.2.2.2.2 hin hj) hi).1
  have h6 := u_store hfc hkC hkind hlay hi hd hn hfit
  refine W.putK S.1 S.2.1 (f := fd) ⟨S.2.2.2.1, S.2.2.2.2 _ hlink, ⟨_, _, _, hi⟩, hst⟩ (by rw [q2]; exact h6) q1 q3 (by rw [hsl]; exact k2_hasslot (q4 j hj)) rfl rfl hdg fun H' e1 e2 e3 => ?_
  rw [hsl] at e1 ⊢
  refine kk H' _ (hP.set (by rw [hT2, ha]; exact ⟨_, hc, t_OB.to (V := updV (vp_V fs) j v) ⟨_, e1, q2, q3, t_set q4 hap hj v⟩ (fun i _ => vp_updV_set hl v i)⟩) (by rw [ha]; exact e3)) ⟨Nat.le_of_eq e2.symm, fun q _ ho => e3 q (ho.elim Nat.ne_of_lt (fun h => Nat.ne_of_gt h))⟩ ?_
  exact hS0.put e2 e3 (show B ≤ a by omega)
theorem z_ald0 (S : CallFix p m c cc nL s args GW own) (hP : zPm g o n T f H) (k : Nat) (hk : k < n) {a : Nat} (ha : o + k = a) {cA N : Nat} {q : Nat → Nat} (hT : T k g (o + k) (f k) = .inl (cA, N, .inl (fun j => nI (q j)))) : va_P g.1 zC [(a, .inl (cA, N, .inl (fun j => nI (q j))))] H := by
  have h1 := hP k hk
  rw [hT, ha] at h1
  exact zOne h1
theorem z_iald (S : CallFix p m c cc nL s args GW own) (hK : zT g s) (hP : zPm g o n T f H) (k : Nat) (hk : k < n) {a : Nat} (ha : o + k = a) {N : Nat} {q : Nat → Nat} (hT : T k g (o + k) (f k) = .inl (g.2 0 0, N, .inl (fun j => nI (q j)))) {i : Nat} (hi : i < N) (hN : N < 2 ^ 31) (hdg : decode cc pc = .ok (.iaload, 1))
    (kk : W p l e R s m args below meth c H locs cells slots Q (F0 m (pc + 1) ls (.int (nI (q i)) :: rest))) : W p l e R s m args below meth c H locs cells slots Q (F0 m pc ls (.int (nI i) :: .ref a :: rest)) :=
  va_iald S.1 S.2.1 hK (z_ald0 S hP k hk ha hT) 0 0 rfl rfl (vp_in_nI hi hN) hdg (by rw [nI_clamp (by omega)]; exact kk)
theorem z_zald (S : CallFix p m c cc nL s args GW own) (hK : zT g s) (hP : zPm g o n T f H) (k : Nat) (hk : k < n) {a : Nat} (ha : o + k = a) {N : Nat} {q : Nat → Nat} (hT : T k g (o + k) (f k) = .inl (g.2 0 1, N, .inl (fun j => nI (q j)))) {i : Nat} (hi : i < N) (hN : N < 2 ^ 31) (hdg : decode cc pc = .ok (.baload, 1))
    (kk : W p l e R s m args below meth c H locs cells slots Q (F0 m (pc + 1) ls (.int (nI (q i)) :: rest))) : W p l e R s m args below meth c H locs cells slots Q (F0 m pc ls (.int (nI i) :: .ref a :: rest)) :=
  va_zald S.1 S.2.1 hK (z_ald0 S hP k hk ha hT) 0 1 rfl rfl (vp_in_nI hi hN) hdg (by rw [nI_clamp (by omega)]; exact kk)
theorem z_cald (S : CallFix p m c cc nL s args GW own) (hK : zT g s) (hP : zPm g o n T f H) (k : Nat) (hk : k < n) {a : Nat} (ha : o + k = a) {N : Nat} {q : Nat → Nat} (hT : T k g (o + k) (f k) = .inl (g.2 0 2, N, .inl (fun j => nI (q j)))) {i : Nat} (hi : i < N) (hN : N < 2 ^ 31) (hdg : decode cc pc = .ok (.caload, 1))
    (kk : W p l e R s m args below meth c H locs cells slots Q (F0 m (pc + 1) ls (.int (nI (q i)) :: rest))) : W p l e R s m args below meth c H locs cells slots Q (F0 m pc ls (.int (nI i) :: .ref a :: rest)) :=
  va_cald S.1 S.2.1 hK (z_ald0 S hP k hk ha hT) 0 2 rfl rfl (vp_in_nI hi hN) hdg (by rw [nI_clamp (by omega)]; exact kk)
theorem z_aald (S : CallFix p m c cc nL s args GW own) (hK : zT g s) (hP : zPm g o n T f H) (k : Nat) (hk : k < n) {a : Nat} (ha : o + k = a) (t0 : Nat) {C : String} {cA N : Nat} {q : Nat → Option Nat} (ht : (zTy g)[t0]? = some (cA, .object C)) (hT : T k g (o + k) (f k) = .inl (cA, N, .inr (.inr (.inr (.inr q))))) {i v : Nat} (hi : i < N) (hN : N < 2 ^ 31) (hv : q i = some v) (hdg : decode cc pc = .ok (.aaload, 1))
    (kk : W p l e R s m args below meth c H locs cells slots Q (F0 m (pc + 1) ls (.ref v :: rest))) : W p l e R s m args below meth c H locs cells slots Q (F0 m pc ls (.int (nI i) :: .ref a :: rest)) := by
  have h1 := hP k hk
  rw [hT, ha] at h1
  exact va_aldq S.1 S.2.1 hK (zOne h1) 0 t0 rfl ht (vp_in_nI hi hN) hdg (by rw [nI_clamp (by omega), hv]; exact kk)
theorem z_cellI {H1 : Heap} {a cA N i : Nat} {q : Nat → Nat} {x : Nat} (e : H1[a]? = some ((vp_cell cA (N, .inl (fun j => nI (q j)))).setSlot i (.int (nI x)))) : H1[a]? = some (vp_cell cA (N, .inl (fun j => nI (va_up q i x j)))) := by
  rw [e, vp_cell_i, vp_cell_i, arrV_store]
  congr 2
  funext j
  by_cases hq : j = i
  · subst hq; simp [updV, va_up]
  · simp [updV, va_up, hq]
theorem z_iast (S : CallFix p m c cc nL s args GW own) (hK : zT g s) (hP : zPm g o n T f H) (hS0 : va_S (zA B) s.heap H locs) (hB : B ≤ o) (k : Nat) (hk : k < n) {a : Nat} (ha : o + k = a) {N : Nat} {q : Nat → Nat} (hT : T k g (o + k) (f k) = .inl (g.2 0 0, N, .inl (fun j => nI (q j)))) {i x : Nat} (hT2 : T k g (o + k) (va_up (f k) i x) = .inl (g.2 0 0, N, .inl (fun j => nI (va_up q i x j)))) (hi : i < N) (hN : N < 2 ^ 31) (hdg : decode cc pc = .ok (.iastore, 1))
    (kk : ∀ (H1 : Heap) (locs1 : List Loc), zPm g o n T (va_up f k (va_up (f k) i x)) H1 → zCh1 a 1 H H1 → va_S (zA B) s.heap H1 locs1 → W p l e R s m args below meth c H1 locs1 cells slots Q (F0 m (pc + 1) ls rest)) : W p l e R s m args below meth c H locs cells slots Q (F0 m pc ls (.int (nI x) :: .int (nI i) :: .ref a :: rest)) := by
  have h0 := z_ald0 S hP k hk ha hT 0 _ rfl
  refine W.iast S.1 S.2.1 h0 ((hK.2 0 _ rfl).1 N (fun j => .int (nI (q j)))) (fun z => by cases z) (by show ¬ (nI i < 0 ∨ (arrV _ _ _).slots.size ≤ _); rw [arrV_size]; exact vp_in_nI hi hN) rfl rfl hdg fun H1 e1 e2 e3 => ?_
  rw [nI_clamp (by omega)] at e1 ⊢
  refine kk H1 _ (hP.set (by rw [hT2, ha]; exact z_cellI e1) (by rw [ha]; exact e3)) ⟨Nat.le_of_eq e2.symm, fun q _ ho => e3 q (ho.elim Nat.ne_of_lt (fun h => Nat.ne_of_gt h))⟩ ?_
  exact hS0.put e2 e3 (show B ≤ a by omega)
theorem z_zast (S : CallFix p m c cc nL s args GW own) (hK : zT g s) (hP : zPm g o n T f H) (hS0 : va_S (zA B) s.heap H locs) (hB : B ≤ o) (k : Nat) (hk : k < n) {a : Nat} (ha : o + k = a) {N : Nat} {q : Nat → Nat} (hT : T k g (o + k) (f k) = .inl (g.2 0 1, N, .inl (fun j => nI (q j)))) {i x : Nat} (hx : x < 2) (hT2 : T k g (o + k) (va_up (f k) i x) = .inl (g.2 0 1, N, .inl (fun j => nI (va_up q i x j)))) (hi : i < N) (hN : N < 2 ^ 31) (hdg : decode cc pc = .ok (.bastore, 1))
    (kk : ∀ (H1 : Heap) (locs1 : List Loc), zPm g o n T (va_up f k (va_up (f k) i x)) H1 → zCh1 a 1 H H1 → va_S (zA B) s.heap H1 locs1 → W p l e R s m args below meth c H1 locs1 cells slots Q (F0 m (pc + 1) ls rest)) : W p l e R s m args below meth c H locs cells slots Q (F0 m pc ls (.int (nI x) :: .int (nI i) :: .ref a :: rest)) := by
  have h0 := z_ald0 S hP k hk ha hT 0 _ rfl
  refine W.zast S.1 S.2.1 h0 ((hK.2 1 _ rfl).1 N (fun j => .int (nI (q j)))) (fun z => by cases z) (by show ¬ (nI i < 0 ∨ (arrV _ _ _).slots.size ≤ _); rw [arrV_size]; exact vp_in_nI hi hN) rfl rfl hdg fun H1 e1 e2 e3 => ?_
  rw [nI_clamp (by omega)] at e1 ⊢
  have hnx : narrow .boolean (.int (nI x)) = .int (nI x) := by
    rcases (show x = 0 ∨ x = 1 by omega) with z | z <;> subst z <;> rfl
  rw [hnx] at e1
  refine kk H1 _ (hP.set (by rw [hT2, ha]; exact z_cellI e1) (by rw [ha]; exact e3)) ⟨Nat.le_of_eq e2.symm, fun q _ ho => e3 q (ho.elim Nat.ne_of_lt (fun h => Nat.ne_of_gt h))⟩ ?_
  exact hS0.put e2 e3 (show B ≤ a by omega)
theorem z_cast (S : CallFix p m c cc nL s args GW own) (hK : zT g s) (hP : zPm g o n T f H) (hS0 : va_S (zA B) s.heap H locs) (hB : B ≤ o) (k : Nat) (hk : k < n) {a : Nat} (ha : o + k = a) {N : Nat} {q : Nat → Nat} (hT : T k g (o + k) (f k) = .inl (g.2 0 2, N, .inl (fun j => nI (q j)))) {i x : Nat} (hx : x < 65536) (hT2 : T k g (o + k) (va_up (f k) i x) = .inl (g.2 0 2, N, .inl (fun j => nI (va_up q i x j)))) (hi : i < N) (hN : N < 2 ^ 31) (hdg : decode cc pc = .ok (.castore, 1))
    (kk : ∀ (H1 : Heap) (locs1 : List Loc), zPm g o n T (va_up f k (va_up (f k) i x)) H1 → zCh1 a 1 H H1 → va_S (zA B) s.heap H1 locs1 → W p l e R s m args below meth c H1 locs1 cells slots Q (F0 m (pc + 1) ls rest)) : W p l e R s m args below meth c H locs cells slots Q (F0 m pc ls (.int (nI x) :: .int (nI i) :: .ref a :: rest)) := by
  have h0 := z_ald0 S hP k hk ha hT 0 _ rfl
  refine W.cast S.1 S.2.1 h0 ((hK.2 2 _ rfl).1 N (fun j => .int (nI (q j)))) (fun z => by cases z) (by show ¬ (nI i < 0 ∨ (arrV _ _ _).slots.size ≤ _); rw [arrV_size]; exact vp_in_nI hi hN) rfl rfl hdg fun H1 e1 e2 e3 => ?_
  rw [nI_clamp (by omega)] at e1 ⊢
  rw [zn_char hx] at e1
  refine kk H1 _ (hP.set (by rw [hT2, ha]; exact z_cellI e1) (by rw [ha]; exact e3)) ⟨Nat.le_of_eq e2.symm, fun q _ ho => e3 q (ho.elim Nat.ne_of_lt (fun h => Nat.ne_of_gt h))⟩ ?_
  exact hS0.put e2 e3 (show B ≤ a by omega)
theorem zn_bit {x : Nat} (h : x ≤ 1) : narrow .boolean (.int (nI x)) = .int (nI x) := by
  rcases (show x = 0 ∨ x = 1 by omega) with z | z <;> subst z <;> rfl
theorem z_max (S : CallFix p m c cc nL s args GW own) {a b index : Nat} (ha : a < 2 ^ 31) (hb : b < 2 ^ 31) (hsize : ls.size = nL) (hlink : Cond.methodLink own index Lib.Math.max.name ∈ GW) (hw : Cond.static Lib.Math.max.name ∈ GW ∧ Cond.initialized "java/lang/Math" ∈ GW ∧ Cond.code Lib.Math.max.name Lib.Math.max.code 2 (some .int) ∈ GW) (hframes : 1 ≤ R.frames) (hlocals : (rest.map fun v => v.category).sum + 13 ≤ R.locals) (hc : cells ≤ R.cells) (hs : slots ≤ R.slots) (hdg : decode cc pc = .ok (.invokestatic index, 3))
    (kk : W p l e R s m args below meth c H locs cells slots Q (F0 m (pc + 3) ls (.int (nI (max a b)) :: rest))) : W p l e R s m args below meth c H locs cells slots Q (F0 m pc ls (.int (nI b) :: .int (nI a) :: rest)) := by
  refine va_mmax S.1 S.2.1 (S.2.2.1.trans hsize.symm) S.2.2.2.1 (S.2.2.2.2 _ hlink) (S.2.2.2.2 _ hw.1) (S.2.2.2.2 _ hw.2.1) (S.2.2.2.2 _ hw.2.2) hframes hlocals hc hs hdg ?_
  have e : (if nI a < nI b then nI b else nI a) = nI (max a b) := by
    by_cases h : a < b
    · rw [if_pos ((nI_ltI ha hb).mpr h), Nat.max_eq_right (by omega)]
    · rw [if_neg (fun z => h ((nI_ltI ha hb).mp z)), Nat.max_eq_left (by omega)]
  rw [e]; exact kk
theorem z_min (S : CallFix p m c cc nL s args GW own) {a b index : Nat} (ha : a < 2 ^ 31) (hb : b < 2 ^ 31) (hsize : ls.size = nL) (hlink : Cond.methodLink own index Lib.Math.min.name ∈ GW) (hw : Cond.static Lib.Math.min.name ∈ GW ∧ Cond.initialized "java/lang/Math" ∈ GW ∧ Cond.code Lib.Math.min.name Lib.Math.min.code 2 (some .int) ∈ GW) (hframes : 1 ≤ R.frames) (hlocals : (rest.map fun v => v.category).sum + 13 ≤ R.locals) (hc : cells ≤ R.cells) (hs : slots ≤ R.slots) (hdg : decode cc pc = .ok (.invokestatic index, 3))
    (kk : W p l e R s m args below meth c H locs cells slots Q (F0 m (pc + 3) ls (.int (nI (min a b)) :: rest))) : W p l e R s m args below meth c H locs cells slots Q (F0 m pc ls (.int (nI b) :: .int (nI a) :: rest)) := by
  refine va_mmin S.1 S.2.1 (S.2.2.1.trans hsize.symm) S.2.2.2.1 (S.2.2.2.2 _ hlink) (S.2.2.2.2 _ hw.1) (S.2.2.2.2 _ hw.2.1) (S.2.2.2.2 _ hw.2.2) hframes hlocals hc hs hdg ?_
  have e : (if nI b < nI a then nI b else nI a) = nI (min a b) := by
    by_cases h : b < a
    · rw [if_pos ((nI_ltI hb ha).mpr h), Nat.min_eq_right (by omega)]
    · rw [if_neg (fun z => h ((nI_ltI hb ha).mp z)), Nat.min_eq_left (by omega)]
  rw [e]; exact kk
end ZR
end
section
/-! METHODS: how one is begun, called and left -/
/-- what the tables say of a method that is called by its name -/
abbrev zCI (y : MethodName) (bytes : ByteArray) (maxL : Nat) (ret : Option FieldType) (k : Nat) : Prop := Cond.code y bytes maxL ret ∈ GW ∧ Cond.initialized y.cls ∈ GW ∧ (y.cls ≠ "java/lang/invoke/MethodHandle" ∧ y.cls ≠ "java/lang/invoke/VarHandle" ∧ (parseMethodDescriptor y.desc).map (fun d => d.parameters.length) = some k)
abbrev zRm (rm R : Room) (maxL mc ms : Nat) : Prop := rm.cells = mc ∧ rm.slots = ms ∧ rm.frames + 1 ≤ R.frames ∧ 8 + (maxL + 11) + rm.locals ≤ R.locals
theorem zMet {l : Launch} {y : MethodName} {cc : ByteArray} {maxL : Nat} {ret : Option FieldType} {rm : Room} {av : List Value} {g : ZG} {B : Nat} {PH : Heap → Prop} {Qc : Array Value → State → Outcome → State → Prop} {mc ms : Nat} {free : Addr → Prop} (hy : plainName y.cls = true) (hL : (lg_sl av).length ≤ maxL)
    (body : ∀ (p : Program) (e : Env) (R : Room) (s : State) (m : MethodId) (args : Array Value) (below : List Frame) (meth : Method) (c : Code) (Q : State → Prop) (ls : Array Slot), R = rm → args = av.toArray → Q = MQ below Qc args s mc ms free → CallFix p m c cc maxL s args GW y.cls → meth.sig.returnType = ret → meth.locks = false → PH s.heap → zS g B s s.heap → va_S (zA B) s.heap s.heap [] → meth.name = y.name → lv_has ls maxL (lv_args 0 av) →
      W p l e R s m args below meth c s.heap [] 0 0 Q (F0 m 0 ls [])) : Met l y (.code y cc maxL ret :: GW) rm (va_Pc av (zPre g B PH)) Qc mc ms free := by
  refine Met.ofW hy rfl ?_
  intro p e s m args below meth c s₁ B0 hml hv
  obtain ⟨rfl, hPH, hZ⟩ := hv
  rw [lg_entry_eq]
  exact body p e rm s m _ below meth c _ _ rfl rfl rfl ⟨B0.exec, B0.bytes, hml, findClass_of_methodNamed B0.named, fun w h => atoms_spec (ws := .code y cc maxL ret :: GW) B0.pre w (List.mem_cons_of_mem _ h)⟩ B0.returns B0.notSynchronized hPH hZ va_S.rf (name_of_methodNamed B0.named B0.method).1 (lv_entry av hL)
/-- a method that may throw -/
theorem zMetX {l : Launch} {y : MethodName} {cc : ByteArray} {maxL : Nat} {ret : Option FieldType} {rm : Room} {av : List Value} {g : ZG} {B : Nat} {PH : Heap → Prop} {Qc : Array Value → State → Outcome → State → Prop} {XC : String → State → State → Prop} {mc ms : Nat} {free : Addr → Prop} (hy : plainName y.cls = true) (hL : (lg_sl av).length ≤ maxL)
    (body : ∀ (p : Program) (e : Env) (R : Room) (s : State) (m : MethodId) (args : Array Value) (below : List Frame) (meth : Method) (c : Code) (Q : State → Prop) (ls : Array Slot), R = rm → args = av.toArray → Q = vx_MQ below Qc XC args s mc ms free → CallFix p m c cc maxL s args GW y.cls → meth.sig.returnType = ret → meth.locks = false → (∀ x ∈ c.exceptionTable.toList, False) → PH s.heap → zS g B s s.heap → va_S (zA B) s.heap s.heap [] → lv_has ls maxL (lv_args 0 av) →
      W p l e R s m args below meth c s.heap [] 0 0 Q (F0 m 0 ls [])) : vx_Met l y (.code y cc maxL ret :: GW) rm (va_Pc av (zPre g B PH)) Qc XC mc ms free := by
  refine vx_ofW hy rfl ?_
  intro p e s m args below meth c s₁ B0 hml hex hv
  obtain ⟨rfl, hPH, hZ⟩ := hv
  rw [lg_entry_eq]
  exact body p e rm s m _ below meth c _ _ rfl rfl rfl ⟨B0.exec, B0.bytes, hml, findClass_of_methodNamed B0.named, fun w h => atoms_spec (ws := .code y cc maxL ret :: GW) B0.pre w (List.mem_cons_of_mem _ h)⟩ B0.returns B0.notSynchronized hex hPH hZ va_S.rf (lv_entry av hL)
section ZC
variable {p : Program} {l : Launch} {e : Env} {R : Room} {s : State} {m : MethodId} {args : Array Value} {below : List Frame} {meth : Method} {c : Code} {H : Heap} {locs : List Loc} {cells slots : Nat} {Q : State → Prop}
variable {cc bytes : ByteArray} {pc nL maxL index mc ms a n : Nat} {own : String} {ls : Array Slot} {rest st0 st1 : List Value} {g : ZG} {B : Nat} {y : MethodName} {ret : Option FieldType} {rm : Room} {PH : Heap → Prop} {v : Option Value} {b : Addr} {As : List Value} {PW : Option Value → Heap → Prop} {free : Addr → Prop} {Qc : Array Value → State → Outcome → State → Prop} {arr : Array Value}
theorem z_callB (S : CallFix p m c cc nL s args GW own) {k : Nat} (hI : zCI y bytes maxL ret k) (hlink : Cond.methodLink own index y ∈ GW) (hrm : zRm rm R maxL mc ms) : CallB R s args own index y bytes maxL ret (.code y bytes maxL ret :: GW) rm mc ms k :=
  callB_of k S.2.2.2.2 (gIn hI.1) rfl hrm.1 hrm.2.1 (S.2.2.2.2 _ hI.2.1) (S.2.2.2.2 _ hlink) hI.2.2 hrm.2.2
/-- goes on behind a call that only read -/
theorem z_ro {pc : Nat} (hr : va_Run p l e R s m args below meth c H locs cells slots 0 0 (F0 m pc ls st0) rest (zR v arr) (fun _ => False)) (hst : v.toList ++ rest = st1) (kk : W p l e R s m args below meth c H locs cells slots Q (F0 m (pc + 3) ls st1)) : W p l e R s m args below meth c H locs cells slots Q (F0 m pc ls st0) := by
  subst hst
  intro T hT X
  obtain ⟨v1, st₀, t, T', L, h0, X', hL, e1, e2, ⟨hv, hh⟩, st⟩ := hr T hT X
  cases hv
  obtain ⟨t2, a1, b1⟩ := kk T' (by rw [e1, hh, h0]) (Stand.forget X' (fun q h => (hL q h).elim))
  exact ⟨t2, st t2 a1, b1⟩
theorem z_rw {pc : Nat} (hr : va_Run p l e R s m args below meth c H locs cells slots mc ms (F0 m pc ls st0) rest (zX PW a n arr) (zA B)) (hS : va_S (zA B) s.heap H locs) (hB : B ≤ a)
    (kk : ∀ (v : Option Value) (H1 : Heap) (locs1 : List Loc), PW v H1 → zCh1 a n H H1 → va_S (zA B) s.heap H1 locs1 → W p l e R s m args below meth c H1 locs1 (cells + mc) (slots + ms) Q (F0 m (pc + 3) ls (v.toList ++ rest))) : W p l e R s m args below meth c H locs cells slots Q (F0 m pc ls st0) := by
  intro T hT X
  obtain ⟨v1, st₀, t, T', L, h0, X', hL, e1, e2, ⟨w, hv, hw, hc⟩, st⟩ := hr T hT X
  cases hv
  rw [h0, ← e1] at hc
  obtain ⟨t2, a1, b1⟩ := kk v1 T'.heap (locs ++ L) (by rw [e1]; exact hw) hc (hc.va hB hS hL) T' rfl X'
  exact ⟨t2, st t2 a1, b1⟩
theorem z_runV (S : CallFix p m c cc nL s args GW own) (hZ : zS g B s s.heap) (hS : va_S (zA B) s.heap H locs) (hM : Met l y (.code y bytes maxL ret :: GW) rm (va_Pc (.ref b :: As) (zPre g B PH)) Qc mc ms free) (hI : zCI y bytes maxL ret As.length) (hV : Cond.instanceMethod y ∈ GW ∧ Cond.selects y.cls y y ∈ GW) (hlink : Cond.methodLink own index y ∈ GW) (hrm : zRm rm R maxL mc ms) (hPH : PH H) (hrv : ∃ cell : Cell, H[b]? = some cell ∧ cell.vm.isStatics = false ∧ s.vm.findClass y.cls = some cell.cls) (hsize : ls.size = nL) (hst0 : st0 = As.reverse ++ .ref b :: rest) (hcat : (rest.map fun v => v.category).sum ≤ 8) (hdg : decode cc pc = .ok (.invokevirtual index, 3)) (hf : cells + mc ≤ R.cells ∧ slots + ms ≤ R.slots) :
    va_Run p l e R s m args below meth c H locs cells slots mc ms (F0 m pc ls st0) rest (Qc (Value.ref b :: As).toArray) free :=
  va_runV S hM ⟨z_callB S hI hlink hrm, S.2.2.2.2 _ hV.1, S.2.2.2.2 _ hV.2⟩ ⟨zPre.blind, hrv, fun _ hU hW => ⟨rfl, zPre.at' (hZ.at' hS) hPH hU hW⟩⟩ rfl rfl hsize hst0 (lv_room hcat) hdg hf
theorem z_runS (S : CallFix p m c cc nL s args GW own) (hZ : zS g B s s.heap) (hS : va_S (zA B) s.heap H locs) (hM : Met l y (.code y bytes maxL ret :: GW) rm (va_Pc As (zPre g B PH)) Qc mc ms free) (hI : zCI y bytes maxL ret As.length) (hV : Cond.static y ∈ GW) (hlink : Cond.methodLink own index y ∈ GW) (hrm : zRm rm R maxL mc ms) (hPH : PH H) (hsize : ls.size = nL) (hst0 : st0 = As.reverse ++ rest) (hcat : (rest.map fun v => v.category).sum ≤ 8) (hdg : decode cc pc = .ok (.invokestatic index, 3)) (hf : cells + mc ≤ R.cells ∧ slots + ms ≤ R.slots) :
    va_Run p l e R s m args below meth c H locs cells slots mc ms (F0 m pc ls st0) rest (Qc As.toArray) free :=
  va_runS S hM ⟨z_callB S hI hlink hrm, S.2.2.2.2 _ hV⟩ ⟨zPre.blind, fun _ hU hW => ⟨rfl, zPre.at' (hZ.at' hS) hPH hU hW⟩⟩ rfl rfl hsize hst0 (lv_room hcat) hdg hf
/-- a virtual call that only reads -/
theorem z_cV (S : CallFix p m c cc nL s args GW own) (hZ : zS g B s s.heap) (hS : va_S (zA B) s.heap H locs) (hM : Met l y (.code y bytes maxL ret :: GW) rm (va_Pc (.ref b :: As) (zPre g B PH)) (zR v) 0 0 (fun _ => False)) (hI : zCI y bytes maxL ret As.length) (hV : Cond.instanceMethod y ∈ GW ∧ Cond.selects y.cls y y ∈ GW) (hlink : Cond.methodLink own index y ∈ GW) (hrm : zRm rm R maxL 0 0) (hPH : PH H) (hrv : ∃ cell : Cell, H[b]? = some cell ∧ cell.vm.isStatics = false ∧ s.vm.findClass y.cls = some cell.cls) (hsize : ls.size = nL) (hst0 : st0 = As.reverse ++ .ref b :: rest) (hcat : (rest.map fun v => v.category).sum ≤ 8) (hdg : decode cc pc = .ok (.invokevirtual index, 3)) (hf : cells + 0 ≤ R.cells ∧ slots + 0 ≤ R.slots) (hst1 : v.toList ++ rest = st1)
    (kk : W p l e R s m args below meth c H locs cells slots Q (F0 m (pc + 3) ls st1)) : W p l e R s m args below meth c H locs cells slots Q (F0 m pc ls st0) := z_ro (z_runV S hZ hS hM hI hV hlink hrm hPH hrv hsize hst0 hcat hdg hf) hst1 kk
theorem z_cS (S : CallFix p m c cc nL s args GW own) (hZ : zS g B s s.heap) (hS : va_S (zA B) s.heap H locs) (hM : Met l y (.code y bytes maxL ret :: GW) rm (va_Pc As (zPre g B PH)) (zR v) 0 0 (fun _ => False)) (hI : zCI y bytes maxL ret As.length) (hV : Cond.static y ∈ GW) (hlink : Cond.methodLink own index y ∈ GW) (hrm : zRm rm R maxL 0 0) (hPH : PH H) (hsize : ls.size = nL) (hst0 : st0 = As.reverse ++ rest) (hcat : (rest.map fun v => v.category).sum ≤ 8) (hdg : decode cc pc = .ok (.invokestatic index, 3)) (hf : cells + 0 ≤ R.cells ∧ slots + 0 ≤ R.slots) (hst1 : v.toList ++ rest = st1)
    (kk : W p l e R s m args below meth c H locs cells slots Q (F0 m (pc + 3) ls st1)) : W p l e R s m args below meth c H locs cells slots Q (F0 m pc ls st0) := z_ro (z_runS S hZ hS hM hI hV hlink hrm hPH hsize hst0 hcat hdg hf) hst1 kk
/-- a virtual call that writes -/
theorem z_wV (S : CallFix p m c cc nL s args GW own) (hZ : zS g B s s.heap) (hS : va_S (zA B) s.heap H locs) (hM : Met l y (.code y bytes maxL ret :: GW) rm (va_Pc (.ref b :: As) (zPre g B PH)) (zX PW a n) mc ms (zA B)) (hB : B ≤ a) (hI : zCI y bytes maxL ret As.length) (hV : Cond.instanceMethod y ∈ GW ∧ Cond.selects y.cls y y ∈ GW) (hlink : Cond.methodLink own index y ∈ GW) (hrm : zRm rm R maxL mc ms) (hPH : PH H) (hrv : ∃ cell : Cell, H[b]? = some cell ∧ cell.vm.isStatics = false ∧ s.vm.findClass y.cls = some cell.cls) (hsize : ls.size = nL) (hst0 : st0 = As.reverse ++ .ref b :: rest) (hcat : (rest.map fun v => v.category).sum ≤ 8) (hdg : decode cc pc = .ok (.invokevirtual index, 3)) (hf : cells + mc ≤ R.cells ∧ slots + ms ≤ R.slots)
    (kk : ∀ (v : Option Value) (H1 : Heap) (locs1 : List Loc), PW v H1 → zCh1 a n H H1 → va_S (zA B) s.heap H1 locs1 → W p l e R s m args below meth c H1 locs1 (cells + mc) (slots + ms) Q (F0 m (pc + 3) ls (v.toList ++ rest))) : W p l e R s m args below meth c H locs cells slots Q (F0 m pc ls st0) := z_rw (z_runV S hZ hS hM hI hV hlink hrm hPH hrv hsize hst0 hcat hdg hf) hS hB kk
theorem z_wS (S : CallFix p m c cc nL s args GW own) (hZ : zS g B s s.heap) (hS : va_S (zA B) s.heap H locs) (hM : Met l y (.code y bytes maxL ret :: GW) rm (va_Pc As (zPre g B PH)) (zX PW a n) mc ms (zA B)) (hB : B ≤ a) (hI : zCI y bytes maxL ret As.length) (hV : Cond.static y ∈ GW) (hlink : Cond.methodLink own index y ∈ GW) (hrm : zRm rm R maxL mc ms) (hPH : PH H) (hsize : ls.size = nL) (hst0 : st0 = As.reverse ++ rest) (hcat : (rest.map fun v => v.category).sum ≤ 8) (hdg : decode cc pc = .ok (.invokestatic index, 3)) (hf : cells + mc ≤ R.cells ∧ slots + ms ≤ R.slots)
    (kk : ∀ (v : Option Value) (H1 : Heap) (locs1 : List Loc), PW v H1 → zCh1 a n H H1 → va_S (zA B) s.heap H1 locs1 → W p l e R s m args below meth c H1 locs1 (cells + mc) (slots + ms) Q (F0 m (pc + 3) ls (v.toList ++ rest))) : W p l e R s m args below meth c H locs cells slots Q (F0 m pc ls st0) := z_rw (z_runS S hZ hS hM hI hV hlink hrm hPH hsize hst0 hcat hdg hf) hS hB kk
/-- the end of a method that only read: an int, boolean or char -/
theorem z_ri (hQ : Q = MQ below (zR v) args s 0 0 (fun _ => False)) (S : CallFix p m c cc nL s args GW own) {ty : FieldType} {x : Int32} (hr : meth.sig.returnType = some ty) (hlk : meth.locks = false) (hn : narrow ty (.int x) = .int x) (hv : v = some (.int x)) (hdg : decode cc pc = .ok (.ireturn, 1)) : W p l e R s m args below meth c s.heap [] 0 0 Q (F0 m pc ls [.int x]) := by
  subst hQ
  exact W.zret S.1 S.2.1 hr hn (fun t ht _ => ⟨by rw [hv], ht⟩) (fun q h => by cases h) hdg hlk
theorem z_rv (hQ : Q = MQ below (zR none) args s 0 0 (fun _ => False)) (S : CallFix p m c cc nL s args GW own) (hr : meth.sig.returnType = none) (hlk : meth.locks = false) (hdg : decode cc pc = .ok (.return_, 1)) : W p l e R s m args below meth c s.heap [] 0 0 Q (F0 m pc ls []) := by
  subst hQ
  exact W.vret S.1 S.2.1 hr (fun t ht _ => ⟨rfl, ht⟩) (fun q h => by cases h) hdg hlk
theorem z_ra (hQ : Q = MQ below (zR v) args s 0 0 (fun _ => False)) (S : CallFix p m c cc nL s args GW own) {rt : FieldType} {x : Value} (hr : meth.sig.returnType = some rt) (hlk : meth.locks = false) (hrt : (∃ n, rt = .object n) ∨ ∃ t, rt = .array t) (hx : x = .null ∨ ∃ a, x = .ref a) (hv : v = some x) (hdg : decode cc pc = .ok (.areturn, 1)) : W p l e R s m args below meth c s.heap [] 0 0 Q (F0 m pc ls [x]) := by
  subst hQ
  exact W.aret S.1 S.2.1 hr hrt hx (fun t ht _ => ⟨by rw [hv], ht⟩) (fun q h => by cases h) hdg hlk
/-- the end of a method that wrote -/
theorem z_wi (hQ : Q = MQ below (zX PW a n) args s cells slots (zA B)) (S : CallFix p m c cc nL s args GW own) {ty : FieldType} {x : Int32} (hr : meth.sig.returnType = some ty) (hlk : meth.locks = false) (hn : narrow ty (.int x) = .int x) (hS : va_S (zA B) s.heap H locs) (hc : zCh1 a n s.heap H) (hw : PW (some (.int x)) H) (hdg : decode cc pc = .ok (.ireturn, 1)) : W p l e R s m args below meth c H locs cells slots Q (F0 m pc ls [.int x]) := by
  subst hQ
  exact W.zret S.1 S.2.1 hr hn (fun t ht _ => ⟨_, rfl, by rw [ht]; exact hw, by rw [ht]; exact hc⟩) hS.2.2 hdg hlk
theorem z_wv (hQ : Q = MQ below (zX PW a n) args s cells slots (zA B)) (S : CallFix p m c cc nL s args GW own) (hr : meth.sig.returnType = none) (hlk : meth.locks = false) (hS : va_S (zA B) s.heap H locs) (hc : zCh1 a n s.heap H) (hw : PW none H) (hdg : decode cc pc = .ok (.return_, 1)) : W p l e R s m args below meth c H locs cells slots Q (F0 m pc ls []) := by
  subst hQ
  exact W.vret S.1 S.2.1 hr (fun t ht _ => ⟨_, rfl, by rw [ht]; exact hw, by rw [ht]; exact hc⟩) hS.2.2 hdg hlk
theorem z_wa (hQ : Q = MQ below (zX PW a n) args s cells slots (zA B)) (S : CallFix p m c cc nL s args GW own) {rt : FieldType} {x : Value} (hr : meth.sig.returnType = some rt) (hlk : meth.locks = false) (hrt : (∃ n, rt = .object n) ∨ ∃ t, rt = .array t) (hx : x = .null ∨ ∃ a, x = .ref a) (hS : va_S (zA B) s.heap H locs) (hc : zCh1 a n s.heap H) (hw : PW (some x) H) (hdg : decode cc pc = .ok (.areturn, 1)) : W p l e R s m args below meth c H locs cells slots Q (F0 m pc ls [x]) := by
  subst hQ
  exact W.aret S.1 S.2.1 hr hrt hx (fun t ht _ => ⟨_, rfl, by rw [ht]; exact hw, by rw [ht]; exact hc⟩) hS.2.2 hdg hlk
end ZC
end
section
/-! THE CELLS of the system's objects -/
def dI (N : Nat) : ZD := fun g _ f => .inl (g.2 0 0, N, .inl (fun j => nI (f j)))
def dZ (N : Nat) : ZD := fun g _ f => .inl (g.2 0 1, N, .inl (fun j => nI (f j)))
def dC (N : Nat) : ZD := fun g _ f => .inl (g.2 0 2, N, .inl (fun j => nI (f j)))
def dWk : ZD := fun _ a f => .inr (8, [.ref (a + 1), .ref (a + 2), .ref (a + 3), .ref (a + 4), .int (nI (f 4))])
def dCl : ZD := fun _ a f => .inr (0, [.ref (a + 1), .ref (a + 2), .ref (a + 3), .int (nI (f 3))])
def dEd : ZD := fun _ _ f => .inr (2, [.int (nI (f 0)), .int (nI (f 1))])
def dLo : ZD := fun _ a f => .inr (6, [.ref (a + 1), .ref (a + 6), .ref (a + 10), .ref (a + 11), .int (nI (f 4)), .int (nI (f 5))])
/-- the wicks: the object, colours, masks, wax, lit -/
def TW : Nat → ZD := fun k => match k with
  | 0 => dWk
  | 1 => dI 8
  | 2 => dI 8
  | 3 => dI 8
  | _ => dZ 8
/-- the cloth: the object, masks, colours, knots -/
def TC : Nat → ZD := fun k => match k with
  | 0 => dCl
  | 1 => dI 40
  | 2 => dI 40
  | _ => dI 40
def TE : Nat → ZD := fun _ => dEd
def TLo : Nat → ZD := fun _ => dLo
/-- sums and first places -/
def zSum (q : Nat → Nat) : Nat → Nat
  | 0 => 0
  | n + 1 => zSum q n + q n
def zAll (q : Nat → Bool) : Nat → Bool
  | 0 => true
  | n + 1 => zAll q n && q n
def zXor (q : Nat → Nat) : Nat → Nat
  | 0 => 0
  | n + 1 => zXor q n ^^^ q n
theorem zSum_le {q : Nat → Nat} {b : Nat} (h : ∀ i, q i ≤ b) : ∀ n, zSum q n ≤ n * b
  | 0 => by simp [zSum]
  | n + 1 => by have := zSum_le h n; have := h n; rw [zSum, Nat.succ_mul]; omega
theorem zXor_lt {q : Nat → Nat} (h : ∀ i, q i < 65536) : ∀ n, zXor q n < 65536
  | 0 => by simp [zXor]
  | n + 1 => by
    have h1 := zXor_lt h n
    have h2 := h n
    rw [zXor]
    exact Nat.xor_lt_two_pow (n := 16) h1 h2
/-- what holds of the wicks at all times -/
def zWo (f : Nat → Nat → Nat) : Prop := f 0 4 ≤ 8 ∧ ∀ i, f 1 i ≤ 7 ∧ f 2 i < 65536 ∧ f 3 i ≤ 99 ∧ f 4 i ≤ 1 ∧ (f 4 i = 1 → 0 < f 3 i)
theorem zWo.c {f : Nat → Nat → Nat} (h : zWo f) : f 0 4 < 2 ^ 31 := by have := h.1; omega
theorem zWo.x {f : Nat → Nat → Nat} (h : zWo f) (i : Nat) : f 3 i < 2 ^ 31 := by have := (h.2 i).2.2.1; omega
theorem zWo.l {f : Nat → Nat → Nat} (h : zWo f) (i : Nat) : f 4 i < 2 ^ 31 := by have := (h.2 i).2.2.2.1; omega
theorem arrV_cg {c N : Nat} {f f' : Nat → Value} (h : ∀ j, j < N → f j = f' j) : arrV c N f = arrV c N f' := by
  unfold arrV
  congr 2
  funext j
  exact h j.val j.isLt
theorem zPm.cg {g : ZG} {o n : Nat} {T : Nat → ZD} {f f' : Nat → Nat → Nat} {H : Heap} (h : zPm g o n T f H) (he : ∀ k, k < n → ∀ a, va_at g.1 zC (a, T k g a (f k)) H → va_at g.1 zC (a, T k g a (f' k)) H) : zPm g o n T f' H := fun k hk => he k hk _ (h k hk)
theorem dI_cg {g : ZG} {a N : Nat} {q q' : Nat → Nat} {H : Heap} (h : ∀ j, j < N → q j = q' j) (hv : va_at g.1 zC (a, dI N g a q) H) : va_at g.1 zC (a, dI N g a q') H := by
  have e : vp_cell (g.2 0 0) (N, .inl (fun j => nI (q j))) = vp_cell (g.2 0 0) (N, .inl (fun j => nI (q' j))) := by
    rw [vp_cell_i, vp_cell_i]; exact arrV_cg (fun j hj => by rw [h j hj])
  show H[a]? = some (vp_cell (g.2 0 0) (N, .inl (fun j => nI (q' j))))
  rw [← e]; exact hv
theorem dZ_cg {g : ZG} {a N : Nat} {q q' : Nat → Nat} {H : Heap} (h : ∀ j, j < N → q j = q' j) (hv : va_at g.1 zC (a, dZ N g a q) H) : va_at g.1 zC (a, dZ N g a q') H := by
  have e : vp_cell (g.2 0 1) (N, .inl (fun j => nI (q j))) = vp_cell (g.2 0 1) (N, .inl (fun j => nI (q' j))) := by
    rw [vp_cell_i, vp_cell_i]; exact arrV_cg (fun j hj => by rw [h j hj])
  show H[a]? = some (vp_cell (g.2 0 1) (N, .inl (fun j => nI (q' j))))
  rw [← e]; exact hv
/-- the first place below n with p, n if there is none -/
def zFi (p : Nat → Bool) : Nat → Nat
  | 0 => 0
  | n + 1 => if zFi p n < n then zFi p n else if p n then n else n + 1
theorem zFi_le (p : Nat → Bool) : ∀ n, zFi p n ≤ n
  | 0 => Nat.le_refl 0
  | n + 1 => by have h := zFi_le p n; rw [zFi]; (repeat' split) <;> omega
theorem zFi_none {p : Nat → Bool} : ∀ {n : Nat}, (∀ k, k < n → p k = false) → zFi p n = n
  | 0, _ => rfl
  | n + 1, h => by rw [zFi, zFi_none (fun k hk => h k (by omega)), if_neg (Nat.lt_irrefl n), h n (by omega)]; rfl
theorem zFi_eq {p : Nat → Bool} {i : Nat} (h : ∀ k, k < i → p k = false) (hi : p i = true) : ∀ {n : Nat}, i < n → zFi p n = i
  | 0, h0 => absurd h0 (Nat.not_lt_zero i)
  | n + 1, hn => by
    rw [zFi]
    rcases Nat.lt_or_ge i n with q | q
    · rw [zFi_eq h hi q, if_pos q]
    · have e : i = n := by omega
      subst e
      rw [zFi_none h, if_neg (Nat.lt_irrefl i), if_pos hi]
theorem zFi_no {p : Nat → Bool} : ∀ {n k : Nat}, k < zFi p n → p k = false
  | 0, k, h => absurd h (Nat.not_lt_zero k)
  | n + 1, k, h => by
    rw [zFi] at h
    by_cases q : zFi p n < n
    · rw [if_pos q] at h; exact zFi_no h
    · rw [if_neg q] at h
      by_cases hk : k < zFi p n
      · exact zFi_no hk
      · have := zFi_le p n
        by_cases r : p n = true
        · rw [if_pos r] at h; omega
        · rw [if_neg r] at h
          have e : k = n := by omega
          subst e; cases hp : p k <;> simp_all
theorem zFi_lt {p : Nat → Bool} : ∀ {n : Nat}, zFi p n < n → p (zFi p n) = true ∧ ∀ k, k < zFi p n → p k = false
  | 0, h => absurd h (Nat.not_lt_zero _)
  | n + 1, h => by
    rw [zFi] at h ⊢
    by_cases q : zFi p n < n
    · rw [if_pos q] at h ⊢; exact zFi_lt q
    · rw [if_neg q] at h ⊢
      by_cases r : p n = true
      · rw [if_pos r]
        refine ⟨r, fun k hk => ?_⟩
        have e := zFi_le p n
        exact zFi_no (n := n) (by omega)
      · rw [if_neg r] at h; omega
def zAny (p : Nat → Bool) : Nat → Bool
  | 0 => false
  | n + 1 => zAny p n || p n
theorem zAny_t {p : Nat → Bool} {i : Nat} (hi : p i = true) : ∀ {n : Nat}, i < n → zAny p n = true
  | 0, h => absurd h (Nat.not_lt_zero i)
  | n + 1, h => by
    rw [zAny]
    rcases Nat.lt_or_ge i n with q | q
    · rw [zAny_t hi q]; rfl
    · have e : i = n := by omega
      subst e; rw [hi, Bool.or_true]
theorem zAny_f {p : Nat → Bool} : ∀ {n : Nat}, (∀ i, i < n → p i = false) → zAny p n = false
  | 0, _ => rfl
  | n + 1, h => by rw [zAny, zAny_f (fun i hi => h i (by omega)), h n (by omega)]; rfl
theorem zAny_iff {p : Nat → Bool} {n : Nat} : zAny p n = true ↔ ∃ i, i < n ∧ p i = true := by
  constructor
  · induction n with
    | zero => intro h; cases h
    | succ n ih =>
      intro h
      rw [zAny, Bool.or_eq_true] at h
      rcases h with h | h
      · obtain ⟨i, h1, h2⟩ := ih h; exact ⟨i, by omega, h2⟩
      · exact ⟨n, by omega, h⟩
  · rintro ⟨i, h1, h2⟩; exact zAny_t h2 h1
theorem zAll_f {p : Nat → Bool} {i : Nat} (hi : p i = false) : ∀ {n : Nat}, i < n → zAll p n = false
  | 0, h => absurd h (Nat.not_lt_zero i)
  | n + 1, h => by
    rw [zAll]
    rcases Nat.lt_or_ge i n with q | q
    · rw [zAll_f hi q]; rfl
    · have e : i = n := by omega
      subst e; rw [hi, Bool.and_false]
theorem zAll_t {p : Nat → Bool} : ∀ {n : Nat}, (∀ i, i < n → p i = true) → zAll p n = true
  | 0, _ => rfl
  | n + 1, h => by rw [zAll, zAll_t (fun i hi => h i (by omega)), h n (by omega)]; rfl
theorem zAll_iff {p : Nat → Bool} {n : Nat} : zAll p n = true ↔ ∀ i, i < n → p i = true := by
  constructor
  · intro h i hi
    cases hp : p i with
    | true => rfl
    | false => rw [zAll_f hp hi] at h; cases h
  · exact zAll_t
end
section
def zPr (f : Nat → Nat → Nat) (i j : Nat) : Bool := if f 4 i = f 4 j then (if f 3 i = f 3 j then decide (i < j) else decide (f 3 j < f 3 i)) else decide (f 4 i = 1)
def zRk (f : Nat → Nat → Nat) (w : Nat) : Nat := zSum (fun i => (zPr f i w).toNat) (f 0 4)

theorem ci_X10_has : zCI yX10_has cX10_has 2 (some .boolean) 1 := ⟨k366, k3, by decide +kernel⟩
theorem cv_X10_has : Cond.instanceMethod yX10_has ∈ GW ∧ Cond.selects (yX10_has).cls yX10_has yX10_has ∈ GW := ⟨k364, k365⟩
set_option maxRecDepth 20000 in
set_option maxHeartbeats 4000000 in
/-- Wicks.has(i) -/
theorem c_X10_has (l : Launch) (g : ZG) {B : Nat} {o : Nat} (f : Nat → Nat → Nat) (hw : zWo f) (i : Nat) (hi : i < 2 ^ 31) : Met l yX10_has (.code yX10_has cX10_has 2 (some .boolean) :: GW) { frames := 0, cells := 0, slots := 0, locals := 0 } (va_Pc [.ref o, .int (nI i)] (zPre g B (fun H => zPm g o 5 TW f H))) (zR (some (.int (nI (decide (i < f 0 4)).toNat)))) 0 0 (fun _ => False) := by
  refine zMet (by decide) (Nat.le_of_ble_eq_true rfl) ?_
  intro p e R s m args below meth c Q ls hR hargs hQ S hr hlk hP hZ hS hnm hl
  have hl : lv_has ls 2 [(0, .ref (o)), (1, .int (nI (i)))] := hl
  refine lv_iload_n S.1 S.2.1 dX10_has_0 rfl (lv_at hl 1 rfl) ?_
  refine z_ilt (tgt := 16) S hi dX10_has_1 (by decide) ?_
  refine lv_iload_n S.1 S.2.1 dX10_has_4 rfl (lv_at hl 1 rfl) ?_
  refine lv_aload_n S.1 S.2.1 dX10_has_5 rfl (lv_at hl 0 rfl) ?_
  refine z_get (v := .int (nI (f 0 4))) S hZ.1 hP 0 (by decide) rfl rfl rfl 4 (by decide) rfl k59 dX10_has_6 ?_
  refine z_cge (tgt := 16) S hi hw.c dX10_has_9 (by decide) (fun h => ?_) (fun h => ?_)
  · refine z_ic S (k := 0) dX10_has_16 (by decide) ?_
    exact z_ri hQ S hr hlk rfl (by rw [decide_eq_false (by omega)]; rfl) dX10_has_17
  · refine z_ic S (k := 1) dX10_has_12 (by decide) ?_
    refine lv_goto (tgt := 17) S.1 S.2.1 dX10_has_13 (by decide) ?_
    exact z_ri hQ S hr hlk rfl (by rw [decide_eq_true (by omega)]; rfl) dX10_has_17
theorem ci_X10_countLit : zCI yX10_countLit cX10_countLit 3 (some .int) 0 := ⟨k382, k3, by decide +kernel⟩
theorem cv_X10_countLit : Cond.instanceMethod yX10_countLit ∈ GW ∧ Cond.selects (yX10_countLit).cls yX10_countLit yX10_countLit ∈ GW := ⟨k380, k381⟩
set_option maxRecDepth 20000 in
set_option maxHeartbeats 4000000 in
/-- Wicks.countLit() -/
theorem c_X10_countLit (l : Launch) (g : ZG) {B : Nat} {o : Nat} (f : Nat → Nat → Nat) (hw : zWo f) : Met l yX10_countLit (.code yX10_countLit cX10_countLit 3 (some .int) :: GW) { frames := 0, cells := 0, slots := 0, locals := 0 } (va_Pc [.ref o] (zPre g B (fun H => zPm g o 5 TW f H))) (zR (some (.int (nI (zSum (f 4) (f 0 4)))))) 0 0 (fun _ => False) := by
  refine zMet (by decide) (Nat.le_of_ble_eq_true rfl) ?_
  intro p e R s m args below meth c Q ls hR hargs hQ S hr hlk hP hZ hS hnm hl
  have hl : lv_has ls 3 [(0, .ref (o))] := hl
  refine z_ic S (k := 0) dX10_countLit_0 (by decide) ?_
  refine lv_istore_n (lv' := [(1, .int (nI (0))), (0, .ref (o))]) S.1 S.2.1 dX10_countLit_1 rfl hl (by decide) rfl (fun ls hl => ?_)
  refine z_ic S (k := 0) dX10_countLit_2 (by decide) ?_
  refine lv_istore_n (lv' := [(2, .int (nI (0))), (1, .int (nI (0))), (0, .ref (o))]) S.1 S.2.1 dX10_countLit_3 rfl hl (by decide) rfl (fun ls hl => ?_)
  have loop : ∀ (n i x : Nat) (ls : Array Slot), (i ≤ f 0 4) → (f 0 4 < i + n) → (x = zSum (f 4) i) → lv_has ls 3 [(0, .ref (o)), (1, .int (nI (x))), (2, .int (nI (i)))] → W p l e R s m args below meth c s.heap [] 0 0 Q (F0 m 4 ls []) := by
    intro n
    induction n with
    | zero => intro i x ls h1 h2 hx hl; exact absurd h2 (by omega)
    | succ n ih =>
      intro i x ls h1 h2 hx hl
      refine lv_iload_n S.1 S.2.1 dX10_countLit_4 rfl (lv_at hl 2 rfl) ?_
      refine lv_aload_n S.1 S.2.1 dX10_countLit_5 rfl (lv_at hl 0 rfl) ?_
      refine z_get (v := .int (nI (f 0 4))) S hZ.1 hP 0 (by decide) rfl rfl rfl 4 (by decide) rfl k59 dX10_countLit_6 ?_
      refine z_cge (tgt := 30) S (by have := hw.1; omega) hw.c dX10_countLit_9 (by decide) (fun h4 => ?_) (fun h4 => ?_)
      · refine lv_iload_n S.1 S.2.1 dX10_countLit_30 rfl (lv_at hl 1 rfl) ?_
        obtain rfl : i = f 0 4 := by omega
        exact z_ri hQ S hr hlk (zn_int _) (by rw [hx]) dX10_countLit_31
      · refine lv_aload_n S.1 S.2.1 dX10_countLit_12 rfl (lv_at hl 0 rfl) ?_
        refine z_get (v := .ref (o + 4)) S hZ.1 hP 0 (by decide) rfl rfl rfl 3 (by decide) rfl k56 dX10_countLit_13 ?_
        refine lv_iload_n S.1 S.2.1 dX10_countLit_16 rfl (lv_at hl 2 rfl) ?_
        refine z_zald S hZ.1 hP 4 (by decide) rfl rfl (i := i) (by have := hw.1; omega) (by decide) dX10_countLit_17 ?_
        refine z_ieq (tgt := 24) S (hw.l i) dX10_countLit_18 (by decide) (fun h5 => ?_) (fun h5 => ?_)
        · refine z_inc S (lv' := [(2, .int (nI (i + 1))), (0, .ref (o)), (1, .int (nI (x)))]) (k := 2) (b := 1) dX10_countLit_24 hl rfl (by decide) (by decide) rfl (fun ls hl => ?_)
          refine lv_goto (tgt := 4) S.1 S.2.1 dX10_countLit_27 (by decide) ?_
          exact ih (i + 1) x ls (by omega) (by omega) (by rw [zSum, hx]; omega) (lv_sub hl [1, 2, 0] rfl)
        · refine z_inc S (lv' := [(1, .int (nI (x + 1))), (0, .ref (o)), (2, .int (nI (i)))]) (k := 1) (b := 1) dX10_countLit_21 hl rfl (by decide) (by decide) rfl (fun ls hl => ?_)
          refine z_inc S (lv' := [(2, .int (nI (i + 1))), (1, .int (nI (x + 1))), (0, .ref (o))]) (k := 2) (b := 1) dX10_countLit_24 hl rfl (by decide) (by decide) rfl (fun ls hl => ?_)
          refine lv_goto (tgt := 4) S.1 S.2.1 dX10_countLit_27 (by decide) ?_
          exact ih (i + 1) (x + 1) ls (by omega) (by omega) (by rw [zSum, hx]; have := (hw.2 i).2.2.2.1; omega) (lv_sub hl [2, 1, 0] rfl)
  exact loop (f 0 4 + 1) 0 0 ls (Nat.zero_le _) (by omega) rfl (lv_sub hl [2, 1, 0] rfl)
def zPt (f : Nat → Nat → Nat) : Nat → Nat := zXor (fun i => if f 4 i = 1 then f 2 i else 0)
def zLd (f : Nat → Nat → Nat) : Nat → Nat × Nat
  | 0 => (0, 0)
  | n + 1 => if f 4 n = 1 ∧ (zLd f n).2 < f 3 n then (f 1 n, f 3 n) else zLd f n
def zMx (f : Nat → Nat → Nat) : Nat → Nat
  | 0 => 0
  | n + 1 => if f 4 n = 1 then max (zMx f n) (f 3 n) else zMx f n
def zAf (f : Nat → Nat → Nat) (r : Nat) : Bool := zAny (fun i => decide (f 4 i = 1 ∧ r < f 3 i)) (f 0 4)
theorem zLd_le {f : Nat → Nat → Nat} (hw : zWo f) : ∀ n, (zLd f n).1 ≤ 7 ∧ (zLd f n).2 ≤ 99
  | 0 => by simp [zLd]
  | n + 1 => by
    have h := zLd_le hw n
    have h2 := hw.2 n
    rw [zLd]; split
    · exact ⟨h2.1, h2.2.2.1⟩
    · exact h
theorem zMx_le {f : Nat → Nat → Nat} (hw : zWo f) : ∀ n, zMx f n ≤ 99
  | 0 => by simp [zMx]
  | n + 1 => by
    have h := zMx_le hw n
    have h2 := (hw.2 n).2.2.1
    rw [zMx]; split
    · exact Nat.max_le.mpr ⟨h, h2⟩
    · exact h
theorem zPt_lt {f : Nat → Nat → Nat} (hw : zWo f) (n : Nat) : zPt f n < 65536 := zXor_lt (fun i => by
  show (if f 4 i = 1 then f 2 i else 0) < 65536
  split
  · exact (hw.2 i).2.1
  · omega) n
theorem ci_X10_pattern : zCI yX10_pattern cX10_pattern 3 (some .int) 0 := ⟨k575, k3, by decide +kernel⟩
theorem cv_X10_pattern : Cond.instanceMethod yX10_pattern ∈ GW ∧ Cond.selects (yX10_pattern).cls yX10_pattern yX10_pattern ∈ GW := ⟨k573, k574⟩
set_option maxRecDepth 20000 in
set_option maxHeartbeats 4000000 in
/-- Wicks.pattern() -/
theorem c_X10_pattern (l : Launch) (g : ZG) {B : Nat} {o : Nat} (f : Nat → Nat → Nat) (hw : zWo f) : Met l yX10_pattern (.code yX10_pattern cX10_pattern 3 (some .int) :: GW) { frames := 0, cells := 0, slots := 0, locals := 0 } (va_Pc [.ref o] (zPre g B (fun H => zPm g o 5 TW f H))) (zR (some (.int (nI (zPt f (f 0 4)))))) 0 0 (fun _ => False) := by
  refine zMet (by decide) (Nat.le_of_ble_eq_true rfl) ?_
  intro p e R s m args below meth c Q ls hR hargs hQ S hr hlk hP hZ hS hnm hl
  have hl : lv_has ls 3 [(0, .ref (o))] := hl
  refine z_ic S (k := 0) dX10_pattern_0 (by decide) ?_
  refine lv_istore_n (lv' := [(1, .int (nI (0))), (0, .ref (o))]) S.1 S.2.1 dX10_pattern_1 rfl hl (by decide) rfl (fun ls hl => ?_)
  refine z_ic S (k := 0) dX10_pattern_2 (by decide) ?_
  refine lv_istore_n (lv' := [(2, .int (nI (0))), (1, .int (nI (0))), (0, .ref (o))]) S.1 S.2.1 dX10_pattern_3 rfl hl (by decide) rfl (fun ls hl => ?_)
  have loop : ∀ (n i x : Nat) (ls : Array Slot), (i ≤ f 0 4) → (f 0 4 < i + n) → (x = zPt f i) → lv_has ls 3 [(0, .ref (o)), (1, .int (nI (x))), (2, .int (nI (i)))] → W p l e R s m args below meth c s.heap [] 0 0 Q (F0 m 4 ls []) := by
    intro n
    induction n with
    | zero => intro i x ls h1 h2 hx hl; exact absurd h2 (by omega)
    | succ n ih =>
      intro i x ls h1 h2 hx hl
      refine lv_iload_n S.1 S.2.1 dX10_pattern_4 rfl (lv_at hl 2 rfl) ?_
      refine lv_aload_n S.1 S.2.1 dX10_pattern_5 rfl (lv_at hl 0 rfl) ?_
      refine z_get (v := .int (nI (f 0 4))) S hZ.1 hP 0 (by decide) rfl rfl rfl 4 (by decide) rfl k59 dX10_pattern_6 ?_
      refine z_cge (tgt := 36) S (by have := hw.1; omega) hw.c dX10_pattern_9 (by decide) (fun h4 => ?_) (fun h4 => ?_)
      · refine lv_iload_n S.1 S.2.1 dX10_pattern_36 rfl (lv_at hl 1 rfl) ?_
        obtain rfl : i = f 0 4 := by omega
        exact z_ri hQ S hr hlk (zn_int _) (by rw [hx]) dX10_pattern_37
      · refine lv_aload_n S.1 S.2.1 dX10_pattern_12 rfl (lv_at hl 0 rfl) ?_
        refine z_get (v := .ref (o + 4)) S hZ.1 hP 0 (by decide) rfl rfl rfl 3 (by decide) rfl k56 dX10_pattern_13 ?_
        refine lv_iload_n S.1 S.2.1 dX10_pattern_16 rfl (lv_at hl 2 rfl) ?_
        refine z_zald S hZ.1 hP 4 (by decide) rfl rfl (i := i) (by have := hw.1; omega) (by decide) dX10_pattern_17 ?_
        refine z_ieq (tgt := 30) S (hw.l i) dX10_pattern_18 (by decide) (fun h5 => ?_) (fun h5 => ?_)
        · refine z_inc S (lv' := [(2, .int (nI (i + 1))), (0, .ref (o)), (1, .int (nI (x)))]) (k := 2) (b := 1) dX10_pattern_30 hl rfl (by decide) (by decide) rfl (fun ls hl => ?_)
          refine lv_goto (tgt := 4) S.1 S.2.1 dX10_pattern_33 (by decide) ?_
          exact ih (i + 1) x ls (by omega) (by omega) (by rw [zPt, zXor, hx, if_neg (by omega), Nat.xor_zero]; rfl) (lv_sub hl [1, 2, 0] rfl)
        · refine lv_iload_n S.1 S.2.1 dX10_pattern_21 rfl (lv_at hl 1 rfl) ?_
          refine lv_aload_n S.1 S.2.1 dX10_pattern_22 rfl (lv_at hl 0 rfl) ?_
          refine z_get (v := .ref (o + 2)) S hZ.1 hP 0 (by decide) rfl rfl rfl 1 (by decide) rfl k52 dX10_pattern_23 ?_
          refine lv_iload_n S.1 S.2.1 dX10_pattern_26 rfl (lv_at hl 2 rfl) ?_
          refine z_iald S hZ.1 hP 2 (by decide) rfl rfl (i := i) (by have := hw.1; omega) (by decide) dX10_pattern_27 ?_
          refine z_xor S dX10_pattern_28 ?_
          refine lv_istore_n (lv' := [(1, .int (nI (x ^^^ (f 2 i)))), (0, .ref (o)), (2, .int (nI (i)))]) S.1 S.2.1 dX10_pattern_29 rfl hl (by decide) rfl (fun ls hl => ?_)
          refine z_inc S (lv' := [(2, .int (nI (i + 1))), (1, .int (nI (x ^^^ (f 2 i)))), (0, .ref (o))]) (k := 2) (b := 1) dX10_pattern_30 hl rfl (by decide) (by decide) rfl (fun ls hl => ?_)
          refine lv_goto (tgt := 4) S.1 S.2.1 dX10_pattern_33 (by decide) ?_
          exact ih (i + 1) (x ^^^ f 2 i) ls (by omega) (by omega) (by rw [zPt, zXor, hx, if_pos (by have := (hw.2 i).2.2.2.1; omega)]; rfl) (lv_sub hl [2, 1, 0] rfl)
  exact loop (f 0 4 + 1) 0 0 ls (Nat.zero_le _) (by omega) rfl (lv_sub hl [2, 1, 0] rfl)
theorem ci_X10_precedes : zCI yX10_precedes cX10_precedes 3 (some .boolean) 2 := ⟨k1023, k3, by decide +kernel⟩
theorem cv_X10_precedes : Cond.instanceMethod yX10_precedes ∈ GW ∧ Cond.selects (yX10_precedes).cls yX10_precedes yX10_precedes ∈ GW := ⟨k1022, kp24⟩
set_option maxRecDepth 20000 in
set_option maxHeartbeats 4000000 in
/-- Wicks.precedes(i, j) -/
theorem c_X10_precedes (l : Launch) (g : ZG) {B : Nat} {o : Nat} (f : Nat → Nat → Nat) (hw : zWo f) (i j : Nat) (hi : i < f 0 4) (hj : j < f 0 4) : Met l yX10_precedes (.code yX10_precedes cX10_precedes 3 (some .boolean) :: GW) { frames := 0, cells := 0, slots := 0, locals := 0 } (va_Pc [.ref o, .int (nI i), .int (nI j)] (zPre g B (fun H => zPm g o 5 TW f H))) (zR (some (.int (nI (zPr f i j).toNat)))) 0 0 (fun _ => False) := by
  refine zMet (by decide) (Nat.le_of_ble_eq_true rfl) ?_
  intro p e R s m args below meth c Q ls hR hargs hQ S hr hlk hP hZ hS hnm hl
  have hl : lv_has ls 3 [(0, .ref (o)), (1, .int (nI (i))), (2, .int (nI (j)))] := hl
  refine lv_aload_n S.1 S.2.1 dX10_precedes_0 rfl (lv_at hl 0 rfl) ?_
  refine z_get (v := .ref (o + 4)) S hZ.1 hP 0 (by decide) rfl rfl rfl 3 (by decide) rfl k56 dX10_precedes_1 ?_
  refine lv_iload_n S.1 S.2.1 dX10_precedes_4 rfl (lv_at hl 1 rfl) ?_
  refine z_zald S hZ.1 hP 4 (by decide) rfl rfl (i := i) (by have := hw.1; omega) (by decide) dX10_precedes_5 ?_
  refine lv_aload_n S.1 S.2.1 dX10_precedes_6 rfl (lv_at hl 0 rfl) ?_
  refine z_get (v := .ref (o + 4)) S hZ.1 hP 0 (by decide) rfl rfl rfl 3 (by decide) rfl k56 dX10_precedes_7 ?_
  refine lv_iload_n S.1 S.2.1 dX10_precedes_10 rfl (lv_at hl 2 rfl) ?_
  refine z_zald S hZ.1 hP 4 (by decide) rfl rfl (i := j) (by have := hw.1; omega) (by decide) dX10_precedes_11 ?_
  refine z_ceq (tgt := 22) S (hw.l i) (hw.l j) dX10_precedes_12 (by decide) (fun h1 => ?_) (fun h1 => ?_)
  · refine lv_aload_n S.1 S.2.1 dX10_precedes_22 rfl (lv_at hl 0 rfl) ?_
    refine z_get (v := .ref (o + 3)) S hZ.1 hP 0 (by decide) rfl rfl rfl 2 (by decide) rfl k53 dX10_precedes_23 ?_
    refine lv_iload_n S.1 S.2.1 dX10_precedes_26 rfl (lv_at hl 1 rfl) ?_
    refine z_iald S hZ.1 hP 3 (by decide) rfl rfl (i := i) (by have := hw.1; omega) (by decide) dX10_precedes_27 ?_
    refine lv_aload_n S.1 S.2.1 dX10_precedes_28 rfl (lv_at hl 0 rfl) ?_
    refine z_get (v := .ref (o + 3)) S hZ.1 hP 0 (by decide) rfl rfl rfl 2 (by decide) rfl k53 dX10_precedes_29 ?_
    refine lv_iload_n S.1 S.2.1 dX10_precedes_32 rfl (lv_at hl 2 rfl) ?_
    refine z_iald S hZ.1 hP 3 (by decide) rfl rfl (i := j) (by have := hw.1; omega) (by decide) dX10_precedes_33 ?_
    refine z_ceq (tgt := 58) S (hw.x i) (hw.x j) dX10_precedes_34 (by decide) (fun h2 => ?_) (fun h2 => ?_)
    · refine lv_iload_n S.1 S.2.1 dX10_precedes_58 rfl (lv_at hl 1 rfl) ?_
      refine lv_iload_n S.1 S.2.1 dX10_precedes_59 rfl (lv_at hl 2 rfl) ?_
      refine z_cge (tgt := 67) S (by have := hw.1; omega) (by have := hw.1; omega) dX10_precedes_60 (by decide) (fun h3 => ?_) (fun h3 => ?_)
      · refine z_ic S (k := 0) dX10_precedes_67 (by decide) ?_
        exact z_ri hQ S hr hlk rfl (by unfold zPr; rw [if_pos h1, if_pos h2, decide_eq_false (by omega)]; rfl) dX10_precedes_68
      · refine z_ic S (k := 1) dX10_precedes_63 (by decide) ?_
        refine lv_goto (tgt := 68) S.1 S.2.1 dX10_precedes_64 (by decide) ?_
        exact z_ri hQ S hr hlk rfl (by unfold zPr; rw [if_pos h1, if_pos h2, decide_eq_true (by omega)]; rfl) dX10_precedes_68
    · refine lv_aload_n S.1 S.2.1 dX10_precedes_37 rfl (lv_at hl 0 rfl) ?_
      refine z_get (v := .ref (o + 3)) S hZ.1 hP 0 (by decide) rfl rfl rfl 2 (by decide) rfl k53 dX10_precedes_38 ?_
      refine lv_iload_n S.1 S.2.1 dX10_precedes_41 rfl (lv_at hl 1 rfl) ?_
      refine z_iald S hZ.1 hP 3 (by decide) rfl rfl (i := i) (by have := hw.1; omega) (by decide) dX10_precedes_42 ?_
      refine lv_aload_n S.1 S.2.1 dX10_precedes_43 rfl (lv_at hl 0 rfl) ?_
      refine z_get (v := .ref (o + 3)) S hZ.1 hP 0 (by decide) rfl rfl rfl 2 (by decide) rfl k53 dX10_precedes_44 ?_
      refine lv_iload_n S.1 S.2.1 dX10_precedes_47 rfl (lv_at hl 2 rfl) ?_
      refine z_iald S hZ.1 hP 3 (by decide) rfl rfl (i := j) (by have := hw.1; omega) (by decide) dX10_precedes_48 ?_
      refine z_cle (tgt := 56) S (hw.x i) (hw.x j) dX10_precedes_49 (by decide) (fun h3 => ?_) (fun h3 => ?_)
      · refine z_ic S (k := 0) dX10_precedes_56 (by decide) ?_
        exact z_ri hQ S hr hlk rfl (by unfold zPr; rw [if_pos h1, if_neg h2, decide_eq_false (by omega)]; rfl) dX10_precedes_57
      · refine z_ic S (k := 1) dX10_precedes_52 (by decide) ?_
        refine lv_goto (tgt := 57) S.1 S.2.1 dX10_precedes_53 (by decide) ?_
        exact z_ri hQ S hr hlk rfl (by unfold zPr; rw [if_pos h1, if_neg h2, decide_eq_true (by omega)]; rfl) dX10_precedes_57
  · refine lv_aload_n S.1 S.2.1 dX10_precedes_15 rfl (lv_at hl 0 rfl) ?_
    refine z_get (v := .ref (o + 4)) S hZ.1 hP 0 (by decide) rfl rfl rfl 3 (by decide) rfl k56 dX10_precedes_16 ?_
    refine lv_iload_n S.1 S.2.1 dX10_precedes_19 rfl (lv_at hl 1 rfl) ?_
    refine z_zald S hZ.1 hP 4 (by decide) rfl rfl (i := i) (by have := hw.1; omega) (by decide) dX10_precedes_20 ?_
    exact z_ri hQ S hr hlk (zn_bit (hw.2 i).2.2.2.1) (by unfold zPr; rw [if_neg h1]; rcases (show f 4 i = 0 ∨ f 4 i = 1 by have := (hw.2 i).2.2.2.1; omega) with e | e <;> rw [e] <;> rfl) dX10_precedes_21
theorem ci_X10_rankOf : zCI yX10_rankOf cX10_rankOf 4 (some .int) 1 := ⟨k1019, k3, by decide +kernel⟩
theorem cv_X10_rankOf : Cond.instanceMethod yX10_rankOf ∈ GW ∧ Cond.selects (yX10_rankOf).cls yX10_rankOf yX10_rankOf ∈ GW := ⟨k1018, kp23⟩
set_option maxRecDepth 20000 in
set_option maxHeartbeats 4000000 in
/-- Wicks.rankOf(r) -/
theorem c_X10_rankOf (l : Launch) (g : ZG) {B : Nat} {o : Nat} (f : Nat → Nat → Nat) (hw : zWo f) (r : Nat) (hr9 : r < f 0 4) : Met l yX10_rankOf (.code yX10_rankOf cX10_rankOf 4 (some .int) :: GW) { frames := 1, cells := 0, slots := 0, locals := 22 } (va_Pc [.ref o, .int (nI r)] (zPre g B (fun H => zPm g o 5 TW f H))) (zR (some (.int (nI (zRk f r))))) 0 0 (fun _ => False) := by
  refine zMet (by decide) (Nat.le_of_ble_eq_true rfl) ?_
  intro p e R s m args below meth c Q ls hR hargs hQ S hr hlk hP hZ hS hnm hl
  have hl : lv_has ls 4 [(0, .ref (o)), (1, .int (nI (r)))] := hl
  refine z_ic S (k := 0) dX10_rankOf_0 (by decide) ?_
  refine lv_istore_n (lv' := [(2, .int (nI (0))), (0, .ref (o)), (1, .int (nI (r)))]) S.1 S.2.1 dX10_rankOf_1 rfl hl (by decide) rfl (fun ls hl => ?_)
  refine z_ic S (k := 0) dX10_rankOf_2 (by decide) ?_
  refine lv_istore_n (lv' := [(3, .int (nI (0))), (2, .int (nI (0))), (0, .ref (o)), (1, .int (nI (r)))]) S.1 S.2.1 dX10_rankOf_3 rfl hl (by decide) rfl (fun ls hl => ?_)
  have loop : ∀ (n i x : Nat) (ls : Array Slot), (i ≤ f 0 4) → (f 0 4 < i + n) → (x = zSum (fun i => (zPr f i r).toNat) i) → lv_has ls 4 [(0, .ref (o)), (1, .int (nI (r))), (2, .int (nI (x))), (3, .int (nI (i)))] → W p l e R s m args below meth c s.heap [] 0 0 Q (F0 m 4 ls []) := by
    intro n
    induction n with
    | zero => intro i x ls h1 h2 hx hl; exact absurd h2 (by omega)
    | succ n ih =>
      intro i x ls h1 h2 hx hl
      refine lv_iload_n S.1 S.2.1 dX10_rankOf_4 rfl (lv_at hl 3 rfl) ?_
      refine lv_aload_n S.1 S.2.1 dX10_rankOf_5 rfl (lv_at hl 0 rfl) ?_
      refine z_get (v := .int (nI (f 0 4))) S hZ.1 hP 0 (by decide) rfl rfl rfl 4 (by decide) rfl k59 dX10_rankOf_6 ?_
      refine z_cge (tgt := 30) S (by have := hw.1; omega) hw.c dX10_rankOf_9 (by decide) (fun h4 => ?_) (fun h4 => ?_)
      · refine lv_iload_n S.1 S.2.1 dX10_rankOf_30 rfl (lv_at hl 2 rfl) ?_
        obtain rfl : i = f 0 4 := by omega
        exact z_ri hQ S hr hlk (zn_int _) (by rw [hx]; rfl) dX10_rankOf_31
      · refine lv_aload_n S.1 S.2.1 dX10_rankOf_12 rfl (lv_at hl 0 rfl) ?_
        refine lv_iload_n S.1 S.2.1 dX10_rankOf_13 rfl (lv_at hl 3 rfl) ?_
        refine lv_iload_n S.1 S.2.1 dX10_rankOf_14 rfl (lv_at hl 1 rfl) ?_
        refine z_cV (v := some (.int (nI (zPr f i r).toNat))) (rest := []) (As := [.int (nI (i)), .int (nI (r))]) S hZ hS (c_X10_precedes l g f hw i r h4 hr9) ci_X10_precedes cv_X10_precedes k1020 ⟨rfl, rfl, by rw [hR]; decide, by rw [hR]; decide⟩ hP (hP.recv hZ.1 0 (by decide) rfl rfl rfl) hl.1 rfl (Nat.le_of_ble_eq_true rfl) dX10_rankOf_15 ⟨by rw [hR]; decide, by rw [hR]; decide⟩ rfl ?_
        refine z_beq (tgt := 24) S dX10_rankOf_18 (by decide) (fun h5 => ?_) (fun h5 => ?_)
        · refine z_inc S (lv' := [(3, .int (nI (i + 1))), (0, .ref (o)), (1, .int (nI (r))), (2, .int (nI (x)))]) (k := 3) (b := 1) dX10_rankOf_24 hl rfl (by decide) (by decide) rfl (fun ls hl => ?_)
          refine lv_goto (tgt := 4) S.1 S.2.1 dX10_rankOf_27 (by decide) ?_
          exact ih (i + 1) x ls (by omega) (by omega) (by rw [zSum, hx, h5]; rfl) (lv_sub hl [1, 2, 3, 0] rfl)
        · refine z_inc S (lv' := [(2, .int (nI (x + 1))), (0, .ref (o)), (1, .int (nI (r))), (3, .int (nI (i)))]) (k := 2) (b := 1) dX10_rankOf_21 hl rfl (by decide) (by decide) rfl (fun ls hl => ?_)
          refine z_inc S (lv' := [(3, .int (nI (i + 1))), (2, .int (nI (x + 1))), (0, .ref (o)), (1, .int (nI (r)))]) (k := 3) (b := 1) dX10_rankOf_24 hl rfl (by decide) (by decide) rfl (fun ls hl => ?_)
          refine lv_goto (tgt := 4) S.1 S.2.1 dX10_rankOf_27 (by decide) ?_
          exact ih (i + 1) (x + 1) ls (by omega) (by omega) (by rw [zSum, hx, h5]; rfl) (lv_sub hl [2, 3, 1, 0] rfl)
  exact loop (f 0 4 + 1) 0 0 ls (Nat.zero_le _) (by omega) rfl (lv_sub hl [2, 3, 1, 0] rfl)
theorem zRk_le (f : Nat → Nat → Nat) (w : Nat) : zRk f w ≤ f 0 4 := by
  have h := zSum_le (q := fun i => (zPr f i w).toNat) (b := 1) (fun i => by show (zPr f i w).toNat ≤ 1; cases zPr f i w <;> simp) (f 0 4)
  show zSum _ _ ≤ _
  omega
/-- the wick at a rank, 0 if there is none -/
def zAt (f : Nat → Nat → Nat) (r : Nat) : Nat := if zFi (fun i => decide (zRk f i = r)) (f 0 4) < f 0 4 then zFi (fun i => decide (zRk f i = r)) (f 0 4) else 0
theorem ci_X10_atRank : zCI yX10_atRank cX10_atRank 3 (some .int) 1 := ⟨k1015, k3, by decide +kernel⟩
theorem cv_X10_atRank : Cond.instanceMethod yX10_atRank ∈ GW ∧ Cond.selects (yX10_atRank).cls yX10_atRank yX10_atRank ∈ GW := ⟨k1013, k1014⟩
set_option maxRecDepth 20000 in
set_option maxHeartbeats 4000000 in
/-- Wicks.atRank(r) -/
theorem c_X10_atRank (l : Launch) (g : ZG) {B : Nat} {o : Nat} (f : Nat → Nat → Nat) (hw : zWo f) (r : Nat) (hr9 : r < 2 ^ 31) : Met l yX10_atRank (.code yX10_atRank cX10_atRank 3 (some .int) :: GW) { frames := 2, cells := 0, slots := 0, locals := 45 } (va_Pc [.ref o, .int (nI r)] (zPre g B (fun H => zPm g o 5 TW f H))) (zR (some (.int (nI (zAt f r))))) 0 0 (fun _ => False) := by
  refine zMet (by decide) (Nat.le_of_ble_eq_true rfl) ?_
  intro p e R s m args below meth c Q ls hR hargs hQ S hr hlk hP hZ hS hnm hl
  have hl : lv_has ls 3 [(0, .ref (o)), (1, .int (nI (r)))] := hl
  refine z_ic S (k := 0) dX10_atRank_0 (by decide) ?_
  refine lv_istore_n (lv' := [(2, .int (nI (0))), (0, .ref (o)), (1, .int (nI (r)))]) S.1 S.2.1 dX10_atRank_1 rfl hl (by decide) rfl (fun ls hl => ?_)
  have loop : ∀ (n i : Nat) (ls : Array Slot), (i ≤ f 0 4) → (f 0 4 < i + n) → (∀ k, k < i → decide (zRk f k = r) = false) → lv_has ls 3 [(0, .ref (o)), (1, .int (nI (r))), (2, .int (nI (i)))] → W p l e R s m args below meth c s.heap [] 0 0 Q (F0 m 2 ls []) := by
    intro n
    induction n with
    | zero => intro i ls h1 h2 hx hl; exact absurd h2 (by omega)
    | succ n ih =>
      intro i ls h1 h2 hx hl
      refine lv_iload_n S.1 S.2.1 dX10_atRank_2 rfl (lv_at hl 2 rfl) ?_
      refine lv_aload_n S.1 S.2.1 dX10_atRank_3 rfl (lv_at hl 0 rfl) ?_
      refine z_get (v := .int (nI (f 0 4))) S hZ.1 hP 0 (by decide) rfl rfl rfl 4 (by decide) rfl k59 dX10_atRank_4 ?_
      refine z_cge (tgt := 27) S (by have := hw.1; omega) hw.c dX10_atRank_7 (by decide) (fun h4 => ?_) (fun h4 => ?_)
      · refine z_ic S (k := 0) dX10_atRank_27 (by decide) ?_
        exact z_ri hQ S hr hlk (zn_int _) (by unfold zAt; rw [zFi_none (fun k hk => hx k (by omega)), if_neg (Nat.lt_irrefl _)]) dX10_atRank_28
      · refine lv_aload_n S.1 S.2.1 dX10_atRank_10 rfl (lv_at hl 0 rfl) ?_
        refine lv_iload_n S.1 S.2.1 dX10_atRank_11 rfl (lv_at hl 2 rfl) ?_
        refine z_cV (v := some (.int (nI (zRk f i)))) (rest := []) (As := [.int (nI (i))]) S hZ hS (c_X10_rankOf l g f hw i h4) ci_X10_rankOf cv_X10_rankOf k1016 ⟨rfl, rfl, by rw [hR]; decide, by rw [hR]; decide⟩ hP (hP.recv hZ.1 0 (by decide) rfl rfl rfl) hl.1 rfl (Nat.le_of_ble_eq_true rfl) dX10_atRank_12 ⟨by rw [hR]; decide, by rw [hR]; decide⟩ rfl ?_
        refine lv_iload_n S.1 S.2.1 dX10_atRank_15 rfl (lv_at hl 1 rfl) ?_
        refine z_cne (tgt := 21) S (by have := zRk_le f i; have := hw.1; omega) hr9 dX10_atRank_16 (by decide) (fun h5 => ?_) (fun h5 => ?_)
        · refine z_inc S (lv' := [(2, .int (nI (i + 1))), (0, .ref (o)), (1, .int (nI (r)))]) (k := 2) (b := 1) dX10_atRank_21 hl rfl (by decide) (by decide) rfl (fun ls hl => ?_)
          refine lv_goto (tgt := 2) S.1 S.2.1 dX10_atRank_24 (by decide) ?_
          exact ih (i + 1) ls (by omega) (by omega) (fun k hk => by rcases (show k < i ∨ k = i by omega) with q | q; exact hx k q; subst q; exact decide_eq_false h5) (lv_sub hl [1, 2, 0] rfl)
        · refine lv_iload_n S.1 S.2.1 dX10_atRank_19 rfl (lv_at hl 2 rfl) ?_
          exact z_ri hQ S hr hlk (zn_int _) (by unfold zAt; rw [zFi_eq hx (decide_eq_true h5) h4, if_pos h4]) dX10_atRank_20
  exact loop (f 0 4 + 1) 0 ls (Nat.zero_le _) (by omega) (fun k hk => absurd hk (Nat.not_lt_zero k)) (lv_sub hl [1, 2, 0] rfl)
theorem ci_X10_leadingColour : zCI yX10_leadingColour cX10_leadingColour 4 (some .int) 0 := ⟨k583, k3, by decide +kernel⟩
theorem cv_X10_leadingColour : Cond.instanceMethod yX10_leadingColour ∈ GW ∧ Cond.selects (yX10_leadingColour).cls yX10_leadingColour yX10_leadingColour ∈ GW := ⟨k581, k582⟩
set_option maxRecDepth 20000 in
set_option maxHeartbeats 4000000 in
/-- Wicks.leadingColour() -/
theorem c_X10_leadingColour (l : Launch) (g : ZG) {B : Nat} {o : Nat} (f : Nat → Nat → Nat) (hw : zWo f) : Met l yX10_leadingColour (.code yX10_leadingColour cX10_leadingColour 4 (some .int) :: GW) { frames := 0, cells := 0, slots := 0, locals := 0 } (va_Pc [.ref o] (zPre g B (fun H => zPm g o 5 TW f H))) (zR (some (.int (nI (zLd f (f 0 4)).1)))) 0 0 (fun _ => False) := by
  refine zMet (by decide) (Nat.le_of_ble_eq_true rfl) ?_
  intro p e R s m args below meth c Q ls hR hargs hQ S hr hlk hP hZ hS hnm hl
  have hl : lv_has ls 4 [(0, .ref (o))] := hl
  refine z_ic S (k := 0) dX10_leadingColour_0 (by decide) ?_
  refine lv_istore_n (lv' := [(1, .int (nI (0))), (0, .ref (o))]) S.1 S.2.1 dX10_leadingColour_1 rfl hl (by decide) rfl (fun ls hl => ?_)
  refine z_ic S (k := 0) dX10_leadingColour_2 (by decide) ?_
  refine lv_istore_n (lv' := [(2, .int (nI (0))), (1, .int (nI (0))), (0, .ref (o))]) S.1 S.2.1 dX10_leadingColour_3 rfl hl (by decide) rfl (fun ls hl => ?_)
  refine z_ic S (k := 0) dX10_leadingColour_4 (by decide) ?_
  refine lv_istore_n (lv' := [(3, .int (nI (0))), (2, .int (nI (0))), (1, .int (nI (0))), (0, .ref (o))]) S.1 S.2.1 dX10_leadingColour_5 rfl hl (by decide) rfl (fun ls hl => ?_)
  have loop : ∀ (n i x y : Nat) (ls : Array Slot), (i ≤ f 0 4) → (f 0 4 < i + n) → (x = (zLd f i).1) → (y = (zLd f i).2) → lv_has ls 4 [(0, .ref (o)), (1, .int (nI (x))), (2, .int (nI (y))), (3, .int (nI (i)))] → W p l e R s m args below meth c s.heap [] 0 0 Q (F0 m 6 ls []) := by
    intro n
    induction n with
    | zero => intro i x y ls h1 h2 hx hy hl; exact absurd h2 (by omega)
    | succ n ih =>
      intro i x y ls h1 h2 hx hy hl
      refine lv_iload_n S.1 S.2.1 dX10_leadingColour_6 rfl (lv_at hl 3 rfl) ?_
      refine lv_aload_n S.1 S.2.1 dX10_leadingColour_7 rfl (lv_at hl 0 rfl) ?_
      refine z_get (v := .int (nI (f 0 4))) S hZ.1 hP 0 (by decide) rfl rfl rfl 4 (by decide) rfl k59 dX10_leadingColour_8 ?_
      refine z_cge (tgt := 53) S (by have := hw.1; omega) hw.c dX10_leadingColour_11 (by decide) (fun h4 => ?_) (fun h4 => ?_)
      · refine lv_iload_n S.1 S.2.1 dX10_leadingColour_53 rfl (lv_at hl 1 rfl) ?_
        obtain rfl : i = f 0 4 := by omega
        exact z_ri hQ S hr hlk (zn_int _) (by rw [hx]) dX10_leadingColour_54
      · refine lv_aload_n S.1 S.2.1 dX10_leadingColour_14 rfl (lv_at hl 0 rfl) ?_
        refine z_get (v := .ref (o + 4)) S hZ.1 hP 0 (by decide) rfl rfl rfl 3 (by decide) rfl k56 dX10_leadingColour_15 ?_
        refine lv_iload_n S.1 S.2.1 dX10_leadingColour_18 rfl (lv_at hl 3 rfl) ?_
        refine z_zald S hZ.1 hP 4 (by decide) rfl rfl (i := i) (by have := hw.1; omega) (by decide) dX10_leadingColour_19 ?_
        refine z_ieq (tgt := 47) S (hw.l i) dX10_leadingColour_20 (by decide) (fun h5 => ?_) (fun h5 => ?_)
        · refine z_inc S (lv' := [(3, .int (nI (i + 1))), (0, .ref (o)), (1, .int (nI (x))), (2, .int (nI (y)))]) (k := 3) (b := 1) dX10_leadingColour_47 hl rfl (by decide) (by decide) rfl (fun ls hl => ?_)
          refine lv_goto (tgt := 6) S.1 S.2.1 dX10_leadingColour_50 (by decide) ?_
          exact ih (i + 1) x y ls (by omega) (by omega) (by rw [zLd, if_neg (by omega)]; exact hx) (by rw [zLd, if_neg (by omega)]; exact hy) (lv_sub hl [1, 2, 3, 0] rfl)
        · have h6 : f 4 i = 1 := by have := (hw.2 i).2.2.2.1; omega
          refine lv_aload_n S.1 S.2.1 dX10_leadingColour_23 rfl (lv_at hl 0 rfl) ?_
          refine z_get (v := .ref (o + 3)) S hZ.1 hP 0 (by decide) rfl rfl rfl 2 (by decide) rfl k53 dX10_leadingColour_24 ?_
          refine lv_iload_n S.1 S.2.1 dX10_leadingColour_27 rfl (lv_at hl 3 rfl) ?_
          refine z_iald S hZ.1 hP 3 (by decide) rfl rfl (i := i) (by have := hw.1; omega) (by decide) dX10_leadingColour_28 ?_
          refine lv_iload_n S.1 S.2.1 dX10_leadingColour_29 rfl (lv_at hl 2 rfl) ?_
          refine z_cle (tgt := 47) S (hw.x i) (by rw [hy]; have := (zLd_le hw i).2; omega) dX10_leadingColour_30 (by decide) (fun h7 => ?_) (fun h7 => ?_)
          · refine z_inc S (lv' := [(3, .int (nI (i + 1))), (0, .ref (o)), (1, .int (nI (x))), (2, .int (nI (y)))]) (k := 3) (b := 1) dX10_leadingColour_47 hl rfl (by decide) (by decide) rfl (fun ls hl => ?_)
            refine lv_goto (tgt := 6) S.1 S.2.1 dX10_leadingColour_50 (by decide) ?_
            exact ih (i + 1) x y ls (by omega) (by omega) (by rw [zLd, if_neg (by omega)]; exact hx) (by rw [zLd, if_neg (by omega)]; exact hy) (lv_sub hl [1, 2, 3, 0] rfl)
          · refine lv_aload_n S.1 S.2.1 dX10_leadingColour_33 rfl (lv_at hl 0 rfl) ?_
            refine z_get (v := .ref (o + 3)) S hZ.1 hP 0 (by decide) rfl rfl rfl 2 (by decide) rfl k53 dX10_leadingColour_34 ?_
            refine lv_iload_n S.1 S.2.1 dX10_leadingColour_37 rfl (lv_at hl 3 rfl) ?_
            refine z_iald S hZ.1 hP 3 (by decide) rfl rfl (i := i) (by have := hw.1; omega) (by decide) dX10_leadingColour_38 ?_
            refine lv_istore_n (lv' := [(2, .int (nI (f 3 i))), (0, .ref (o)), (1, .int (nI (x))), (3, .int (nI (i)))]) S.1 S.2.1 dX10_leadingColour_39 rfl hl (by decide) rfl (fun ls hl => ?_)
            refine lv_aload_n S.1 S.2.1 dX10_leadingColour_40 rfl (lv_at hl 1 rfl) ?_
            refine z_get (v := .ref (o + 1)) S hZ.1 hP 0 (by decide) rfl rfl rfl 0 (by decide) rfl k51 dX10_leadingColour_41 ?_
            refine lv_iload_n S.1 S.2.1 dX10_leadingColour_44 rfl (lv_at hl 3 rfl) ?_
            refine z_iald S hZ.1 hP 1 (by decide) rfl rfl (i := i) (by have := hw.1; omega) (by decide) dX10_leadingColour_45 ?_
            refine lv_istore_n (lv' := [(1, .int (nI (f 1 i))), (2, .int (nI (f 3 i))), (0, .ref (o)), (3, .int (nI (i)))]) S.1 S.2.1 dX10_leadingColour_46 rfl hl (by decide) rfl (fun ls hl => ?_)
            refine z_inc S (lv' := [(3, .int (nI (i + 1))), (1, .int (nI (f 1 i))), (2, .int (nI (f 3 i))), (0, .ref (o))]) (k := 3) (b := 1) dX10_leadingColour_47 hl rfl (by decide) (by decide) rfl (fun ls hl => ?_)
            refine lv_goto (tgt := 6) S.1 S.2.1 dX10_leadingColour_50 (by decide) ?_
            exact ih (i + 1) (f 1 i) (f 3 i) ls (by omega) (by omega) (by rw [zLd, if_pos ⟨h6, by omega⟩]) (by rw [zLd, if_pos ⟨h6, by omega⟩]) (lv_sub hl [3, 1, 2, 0] rfl)
  exact loop (f 0 4 + 1) 0 0 0 ls (Nat.zero_le _) (by omega) rfl rfl (lv_sub hl [3, 2, 1, 0] rfl)
theorem ci_X10_anyLitAfter : zCI yX10_anyLitAfter cX10_anyLitAfter 3 (some .boolean) 1 := ⟨k1037, k3, by decide +kernel⟩
theorem cv_X10_anyLitAfter : Cond.instanceMethod yX10_anyLitAfter ∈ GW ∧ Cond.selects (yX10_anyLitAfter).cls yX10_anyLitAfter yX10_anyLitAfter ∈ GW := ⟨k1035, k1036⟩
set_option maxRecDepth 20000 in
set_option maxHeartbeats 4000000 in
/-- Wicks.anyLitAfter(q) -/
theorem c_X10_anyLitAfter (l : Launch) (g : ZG) {B : Nat} {o : Nat} (f : Nat → Nat → Nat) (hw : zWo f) (q : Nat) (hq9 : q < 2 ^ 31) : Met l yX10_anyLitAfter (.code yX10_anyLitAfter cX10_anyLitAfter 3 (some .boolean) :: GW) { frames := 0, cells := 0, slots := 0, locals := 0 } (va_Pc [.ref o, .int (nI q)] (zPre g B (fun H => zPm g o 5 TW f H))) (zR (some (.int (nI (zAf f q).toNat)))) 0 0 (fun _ => False) := by
  refine zMet (by decide) (Nat.le_of_ble_eq_true rfl) ?_
  intro p e R s m args below meth c Q ls hR hargs hQ S hr hlk hP hZ hS hnm hl
  have hl : lv_has ls 3 [(0, .ref (o)), (1, .int (nI (q)))] := hl
  refine z_ic S (k := 0) dX10_anyLitAfter_0 (by decide) ?_
  refine lv_istore_n (lv' := [(2, .int (nI (0))), (0, .ref (o)), (1, .int (nI (q)))]) S.1 S.2.1 dX10_anyLitAfter_1 rfl hl (by decide) rfl (fun ls hl => ?_)
  have loop : ∀ (n i : Nat) (ls : Array Slot), (i ≤ f 0 4) → (f 0 4 < i + n) → (∀ k, k < i → decide (f 4 k = 1 ∧ q < f 3 k) = false) → lv_has ls 3 [(0, .ref (o)), (1, .int (nI (q))), (2, .int (nI (i)))] → W p l e R s m args below meth c s.heap [] 0 0 Q (F0 m 2 ls []) := by
    intro n
    induction n with
    | zero => intro i ls h1 h2 hx hl; exact absurd h2 (by omega)
    | succ n ih =>
      intro i ls h1 h2 hx hl
      refine lv_iload_n S.1 S.2.1 dX10_anyLitAfter_2 rfl (lv_at hl 2 rfl) ?_
      refine lv_aload_n S.1 S.2.1 dX10_anyLitAfter_3 rfl (lv_at hl 0 rfl) ?_
      refine z_get (v := .int (nI (f 0 4))) S hZ.1 hP 0 (by decide) rfl rfl rfl 4 (by decide) rfl k59 dX10_anyLitAfter_4 ?_
      refine z_cge (tgt := 37) S (by have := hw.1; omega) hw.c dX10_anyLitAfter_7 (by decide) (fun h4 => ?_) (fun h4 => ?_)
      · refine z_ic S (k := 0) dX10_anyLitAfter_37 (by decide) ?_
        exact z_ri hQ S hr hlk rfl (by unfold zAf; rw [zAny_f (fun k hk => hx k (by omega))]; rfl) dX10_anyLitAfter_38
      · refine lv_aload_n S.1 S.2.1 dX10_anyLitAfter_10 rfl (lv_at hl 0 rfl) ?_
        refine z_get (v := .ref (o + 4)) S hZ.1 hP 0 (by decide) rfl rfl rfl 3 (by decide) rfl k56 dX10_anyLitAfter_11 ?_
        refine lv_iload_n S.1 S.2.1 dX10_anyLitAfter_14 rfl (lv_at hl 2 rfl) ?_
        refine z_zald S hZ.1 hP 4 (by decide) rfl rfl (i := i) (by have := hw.1; omega) (by decide) dX10_anyLitAfter_15 ?_
        refine z_ieq (tgt := 31) S (hw.l i) dX10_anyLitAfter_16 (by decide) (fun h5 => ?_) (fun h5 => ?_)
        · refine z_inc S (lv' := [(2, .int (nI (i + 1))), (0, .ref (o)), (1, .int (nI (q)))]) (k := 2) (b := 1) dX10_anyLitAfter_31 hl rfl (by decide) (by decide) rfl (fun ls hl => ?_)
          refine lv_goto (tgt := 2) S.1 S.2.1 dX10_anyLitAfter_34 (by decide) ?_
          exact ih (i + 1) ls (by omega) (by omega) (fun k hk => by rcases (show k < i ∨ k = i by omega) with z | z; exact hx k z; subst z; exact decide_eq_false (by omega)) (lv_sub hl [1, 2, 0] rfl)
        · refine lv_aload_n S.1 S.2.1 dX10_anyLitAfter_19 rfl (lv_at hl 0 rfl) ?_
          refine z_get (v := .ref (o + 3)) S hZ.1 hP 0 (by decide) rfl rfl rfl 2 (by decide) rfl k53 dX10_anyLitAfter_20 ?_
          refine lv_iload_n S.1 S.2.1 dX10_anyLitAfter_23 rfl (lv_at hl 2 rfl) ?_
          refine z_iald S hZ.1 hP 3 (by decide) rfl rfl (i := i) (by have := hw.1; omega) (by decide) dX10_anyLitAfter_24 ?_
          refine lv_iload_n S.1 S.2.1 dX10_anyLitAfter_25 rfl (lv_at hl 1 rfl) ?_
          refine z_cle (tgt := 31) S (hw.x i) hq9 dX10_anyLitAfter_26 (by decide) (fun h6 => ?_) (fun h6 => ?_)
          · refine z_inc S (lv' := [(2, .int (nI (i + 1))), (0, .ref (o)), (1, .int (nI (q)))]) (k := 2) (b := 1) dX10_anyLitAfter_31 hl rfl (by decide) (by decide) rfl (fun ls hl => ?_)
            refine lv_goto (tgt := 2) S.1 S.2.1 dX10_anyLitAfter_34 (by decide) ?_
            exact ih (i + 1) ls (by omega) (by omega) (fun k hk => by rcases (show k < i ∨ k = i by omega) with z | z; exact hx k z; subst z; exact decide_eq_false (by omega)) (lv_sub hl [1, 2, 0] rfl)
          · refine z_ic S (k := 1) dX10_anyLitAfter_29 (by decide) ?_
            exact z_ri hQ S hr hlk rfl (by unfold zAf; rw [zAny_t (i := i) (decide_eq_true ⟨by have := (hw.2 i).2.2.2.1; omega, h6⟩) h4]; rfl) dX10_anyLitAfter_30
  exact loop (f 0 4 + 1) 0 ls (Nat.zero_le _) (by omega) (fun k hk => absurd hk (Nat.not_lt_zero k)) (lv_sub hl [1, 2, 0] rfl)
theorem ci_X10_mostLitWax : zCI yX10_mostLitWax cX10_mostLitWax 3 (some .int) 0 := ⟨k1045, k3, by decide +kernel⟩
theorem cv_X10_mostLitWax : Cond.instanceMethod yX10_mostLitWax ∈ GW ∧ Cond.selects (yX10_mostLitWax).cls yX10_mostLitWax yX10_mostLitWax ∈ GW := ⟨k1043, k1044⟩
set_option maxRecDepth 20000 in
set_option maxHeartbeats 4000000 in
/-- Wicks.mostLitWax() -/
theorem c_X10_mostLitWax (l : Launch) (g : ZG) {B : Nat} {o : Nat} (f : Nat → Nat → Nat) (hw : zWo f) : Met l yX10_mostLitWax (.code yX10_mostLitWax cX10_mostLitWax 3 (some .int) :: GW) { frames := 1, cells := 0, slots := 0, locals := 21 } (va_Pc [.ref o] (zPre g B (fun H => zPm g o 5 TW f H))) (zR (some (.int (nI (zMx f (f 0 4)))))) 0 0 (fun _ => False) := by
  refine zMet (by decide) (Nat.le_of_ble_eq_true rfl) ?_
  intro p e R s m args below meth c Q ls hR hargs hQ S hr hlk hP hZ hS hnm hl
  have hl : lv_has ls 3 [(0, .ref (o))] := hl
  refine z_ic S (k := 0) dX10_mostLitWax_0 (by decide) ?_
  refine lv_istore_n (lv' := [(1, .int (nI (0))), (0, .ref (o))]) S.1 S.2.1 dX10_mostLitWax_1 rfl hl (by decide) rfl (fun ls hl => ?_)
  refine z_ic S (k := 0) dX10_mostLitWax_2 (by decide) ?_
  refine lv_istore_n (lv' := [(2, .int (nI (0))), (1, .int (nI (0))), (0, .ref (o))]) S.1 S.2.1 dX10_mostLitWax_3 rfl hl (by decide) rfl (fun ls hl => ?_)
  have loop : ∀ (n i x : Nat) (ls : Array Slot), (i ≤ f 0 4) → (f 0 4 < i + n) → (x = zMx f i) → lv_has ls 3 [(0, .ref (o)), (1, .int (nI (x))), (2, .int (nI (i)))] → W p l e R s m args below meth c s.heap [] 0 0 Q (F0 m 4 ls []) := by
    intro n
    induction n with
    | zero => intro i x ls h1 h2 hx hl; exact absurd h2 (by omega)
    | succ n ih =>
      intro i x ls h1 h2 hx hl
      refine lv_iload_n S.1 S.2.1 dX10_mostLitWax_4 rfl (lv_at hl 2 rfl) ?_
      refine lv_aload_n S.1 S.2.1 dX10_mostLitWax_5 rfl (lv_at hl 0 rfl) ?_
      refine z_get (v := .int (nI (f 0 4))) S hZ.1 hP 0 (by decide) rfl rfl rfl 4 (by decide) rfl k59 dX10_mostLitWax_6 ?_
      refine z_cge (tgt := 38) S (by have := hw.1; omega) hw.c dX10_mostLitWax_9 (by decide) (fun h4 => ?_) (fun h4 => ?_)
      · refine lv_iload_n S.1 S.2.1 dX10_mostLitWax_38 rfl (lv_at hl 1 rfl) ?_
        obtain rfl : i = f 0 4 := by omega
        exact z_ri hQ S hr hlk (zn_int _) (by rw [hx]) dX10_mostLitWax_39
      · refine lv_aload_n S.1 S.2.1 dX10_mostLitWax_12 rfl (lv_at hl 0 rfl) ?_
        refine z_get (v := .ref (o + 4)) S hZ.1 hP 0 (by decide) rfl rfl rfl 3 (by decide) rfl k56 dX10_mostLitWax_13 ?_
        refine lv_iload_n S.1 S.2.1 dX10_mostLitWax_16 rfl (lv_at hl 2 rfl) ?_
        refine z_zald S hZ.1 hP 4 (by decide) rfl rfl (i := i) (by have := hw.1; omega) (by decide) dX10_mostLitWax_17 ?_
        refine z_ieq (tgt := 32) S (hw.l i) dX10_mostLitWax_18 (by decide) (fun h5 => ?_) (fun h5 => ?_)
        · refine z_inc S (lv' := [(2, .int (nI (i + 1))), (0, .ref (o)), (1, .int (nI (x)))]) (k := 2) (b := 1) dX10_mostLitWax_32 hl rfl (by decide) (by decide) rfl (fun ls hl => ?_)
          refine lv_goto (tgt := 4) S.1 S.2.1 dX10_mostLitWax_35 (by decide) ?_
          exact ih (i + 1) x ls (by omega) (by omega) (by rw [zMx, if_neg (by omega)]; exact hx) (lv_sub hl [1, 2, 0] rfl)
        · refine lv_iload_n S.1 S.2.1 dX10_mostLitWax_21 rfl (lv_at hl 1 rfl) ?_
          refine lv_aload_n S.1 S.2.1 dX10_mostLitWax_22 rfl (lv_at hl 0 rfl) ?_
          refine z_get (v := .ref (o + 3)) S hZ.1 hP 0 (by decide) rfl rfl rfl 2 (by decide) rfl k53 dX10_mostLitWax_23 ?_
          refine lv_iload_n S.1 S.2.1 dX10_mostLitWax_26 rfl (lv_at hl 2 rfl) ?_
          refine z_iald S hZ.1 hP 3 (by decide) rfl rfl (i := i) (by have := hw.1; omega) (by decide) dX10_mostLitWax_27 ?_
          refine z_max S (by rw [hx]; have := zMx_le hw i; omega) (hw.x i) hl.1 k1046 ⟨k767, k21, k768⟩ (by rw [hR]; decide) (by rw [hR]; decide) (by rw [hR]; decide) (by rw [hR]; decide) dX10_mostLitWax_28 ?_
          refine lv_istore_n (lv' := [(1, .int (nI (max x (f 3 i)))), (0, .ref (o)), (2, .int (nI (i)))]) S.1 S.2.1 dX10_mostLitWax_31 rfl hl (by decide) rfl (fun ls hl => ?_)
          refine z_inc S (lv' := [(2, .int (nI (i + 1))), (1, .int (nI (max x (f 3 i)))), (0, .ref (o))]) (k := 2) (b := 1) dX10_mostLitWax_32 hl rfl (by decide) (by decide) rfl (fun ls hl => ?_)
          refine lv_goto (tgt := 4) S.1 S.2.1 dX10_mostLitWax_35 (by decide) ?_
          exact ih (i + 1) (max x (f 3 i)) ls (by omega) (by omega) (by rw [zMx, if_pos (by have := (hw.2 i).2.2.2.1; omega), hx]) (lv_sub hl [2, 1, 0] rfl)
  exact loop (f 0 4 + 1) 0 0 ls (Nat.zero_le _) (by omega) rfl (lv_sub hl [2, 1, 0] rfl)
/-- one row's wax is taken from the first n wicks -/
def zBd (f : Nat → Nat → Nat) (n : Nat) : Nat → Nat → Nat := fun c j => match c with
  | 3 => if j < n ∧ f 4 j = 1 then f 3 j - 1 else f 3 j
  | 4 => if j < n ∧ f 4 j = 1 then (if 1 < f 3 j then 1 else 0) else f 4 j
  | c => f c j
theorem zBd_0 (f : Nat → Nat → Nat) : zBd f 0 = f := by
  funext c j
  unfold zBd
  split <;> simp
theorem zBd_no {f : Nat → Nat → Nat} {i : Nat} (h : ¬ f 4 i = 1) : zBd f (i + 1) = zBd f i := by
  funext c j
  unfold zBd
  by_cases e : j = i
  · subst e; split <;> simp [h]
  · have e2 : (j < i + 1) = (j < i) := by apply propext; omega
    simp only [e2]
theorem zBd_yes {f : Nat → Nat → Nat} {i x y : Nat} (h : f 4 i = 1) (hx : x = f 3 i - 1) (hy : y = if 1 < f 3 i then 1 else 0) : va_up (va_up (zBd f i) 3 (va_up (zBd f i 3) i x)) 4 (va_up (va_up (zBd f i) 3 (va_up (zBd f i 3) i x) 4) i y) = zBd f (i + 1) := by
  subst hx; subst hy
  funext c j
  by_cases e : j = i
  · subst e
    by_cases c4 : c = 4
    · subst c4; simp [va_up, zBd, h]
    · by_cases c3 : c = 3
      · subst c3; simp [va_up, zBd, h]
      · simp [va_up, zBd, c3, c4]
  · have e2 : (j < i + 1) = (j < i) := by apply propext; omega
    by_cases c4 : c = 4
    · subst c4; simp [va_up, zBd, e, e2]
    · by_cases c3 : c = 3
      · subst c3; simp [va_up, zBd, e, e2]
      · simp [va_up, zBd, c3, c4]
/-- a wick is added -/
def zPl (f : Nat → Nat → Nat) (a b x : Nat) : Nat → Nat → Nat := va_up (va_up (va_up (va_up (va_up f 1 (va_up (f 1) (f 0 4) a)) 2 (va_up (f 2) (f 0 4) b)) 3 (va_up (f 3) (f 0 4) x)) 4 (va_up (f 4) (f 0 4) 0)) 0 (va_up (f 0) 4 (f 0 4 + 1))
theorem ci_X10_pour : zCI yX10_pour cX10_pour 3 (some .int) 2 := ⟨k562, k3, by decide +kernel⟩
theorem cv_X10_pour : Cond.instanceMethod yX10_pour ∈ GW ∧ Cond.selects (yX10_pour).cls yX10_pour yX10_pour ∈ GW := ⟨k560, k561⟩
set_option maxRecDepth 20000 in
set_option maxHeartbeats 4000000 in
/-- Wicks.pour(i, x) -/
theorem c_X10_pour (l : Launch) (g : ZG) {B : Nat} {o : Nat} (hB : B ≤ o) (f : Nat → Nat → Nat) (hw : zWo f) (i x : Nat) (hi : i < 8) : Met l yX10_pour (.code yX10_pour cX10_pour 3 (some .int) :: GW) { frames := 0, cells := 0, slots := 0, locals := 0 } (va_Pc [.ref o, .int (nI i), .int (nI x)] (zPre g B (fun H => zPm g o 5 TW f H))) (zX (fun v H => v = some (.int (nI (f 3 i + x))) ∧ zPm g o 5 TW (va_up f 3 (va_up (f 3) i (f 3 i + x))) H) o 5) 0 0 (zA B) := by
  refine zMet (by decide) (Nat.le_of_ble_eq_true rfl) ?_
  intro p e R s m args below meth c Q ls hR hargs hQ S hr hlk hP hZ hS hnm hl
  have hl : lv_has ls 3 [(0, .ref (o)), (1, .int (nI (i))), (2, .int (nI (x)))] := hl
  have hC : zCh1 o 5 s.heap s.heap := zCh1.rf
  refine lv_aload_n S.1 S.2.1 dX10_pour_0 rfl (lv_at hl 0 rfl) ?_
  refine z_get (v := .ref (o + 3)) S hZ.1 hP 0 (by decide) rfl rfl rfl 2 (by decide) rfl k53 dX10_pour_1 ?_
  refine lv_iload_n S.1 S.2.1 dX10_pour_4 rfl (lv_at hl 1 rfl) ?_
  refine lv_dup2_11 S.1 S.2.1 dX10_pour_5 rfl rfl ?_
  refine z_iald S hZ.1 hP 3 (by decide) rfl rfl (i := i) (by omega) (by decide) dX10_pour_6 ?_
  refine lv_iload_n S.1 S.2.1 dX10_pour_7 rfl (lv_at hl 2 rfl) ?_
  refine z_add S dX10_pour_8 ?_
  refine z_iast S hZ.1 hP hS hB 3 (by decide) rfl rfl (i := i) (x := ((f 3 i) + x)) rfl (by omega) (by decide) dX10_pour_9 (fun H1 locs1 hPn hCn hSn => ?_)
  have hP := hPn; have hS := hSn; have hC := hC.tr (hCn.mono (b := o) (k := 5) (by omega) (by omega))
  refine lv_aload_n S.1 S.2.1 dX10_pour_10 rfl (lv_at hl 0 rfl) ?_
  refine z_get (v := .ref (o + 3)) S hZ.1 hP 0 (by decide) rfl rfl rfl 2 (by decide) rfl k53 dX10_pour_11 ?_
  refine lv_iload_n S.1 S.2.1 dX10_pour_14 rfl (lv_at hl 1 rfl) ?_
  refine z_iald S hZ.1 hP 3 (by decide) rfl rfl (i := i) (by omega) (by decide) dX10_pour_15 ?_
  refine z_wi hQ S hr hlk (zn_int _) hS hC ⟨?_, hP⟩ dX10_pour_16
  rw [show va_up f 3 (va_up (f 3) i (f 3 i + x)) 3 i = f 3 i + x from by simp [va_up]]
theorem ci_X10_setLit : zCI yX10_setLit cX10_setLit 3 (some .int) 2 := ⟨k557, k3, by decide +kernel⟩
theorem cv_X10_setLit : Cond.instanceMethod yX10_setLit ∈ GW ∧ Cond.selects (yX10_setLit).cls yX10_setLit yX10_setLit ∈ GW := ⟨k555, k556⟩
set_option maxRecDepth 20000 in
set_option maxHeartbeats 4000000 in
/-- Wicks.setLit(i, b) -/
theorem c_X10_setLit (l : Launch) (g : ZG) {B : Nat} {o : Nat} (hB : B ≤ o) (f : Nat → Nat → Nat) (hw : zWo f) (i b : Nat) (hi : i < 8) (hb : b < 2) (hw2 : zWo (va_up f 4 (va_up (f 4) i b))) : Met l yX10_setLit (.code yX10_setLit cX10_setLit 3 (some .int) :: GW) { frames := 1, cells := 0, slots := 0, locals := 22 } (va_Pc [.ref o, .int (nI i), .int (nI b)] (zPre g B (fun H => zPm g o 5 TW f H))) (zX (fun v H => v = some (.int (nI (zSum (va_up (f 4) i b) (f 0 4)))) ∧ zPm g o 5 TW (va_up f 4 (va_up (f 4) i b)) H) o 5) 0 0 (zA B) := by
  refine zMet (by decide) (Nat.le_of_ble_eq_true rfl) ?_
  intro p e R s m args below meth c Q ls hR hargs hQ S hr hlk hP hZ hS hnm hl
  have hl : lv_has ls 3 [(0, .ref (o)), (1, .int (nI (i))), (2, .int (nI (b)))] := hl
  have hC : zCh1 o 5 s.heap s.heap := zCh1.rf
  refine lv_aload_n S.1 S.2.1 dX10_setLit_0 rfl (lv_at hl 0 rfl) ?_
  refine z_get (v := .ref (o + 4)) S hZ.1 hP 0 (by decide) rfl rfl rfl 3 (by decide) rfl k56 dX10_setLit_1 ?_
  refine lv_iload_n S.1 S.2.1 dX10_setLit_4 rfl (lv_at hl 1 rfl) ?_
  refine lv_iload_n S.1 S.2.1 dX10_setLit_5 rfl (lv_at hl 2 rfl) ?_
  refine z_zast S hZ.1 hP hS hB 4 (by decide) rfl rfl (i := i) (x := b) (by omega) rfl (by omega) (by decide) dX10_setLit_6 (fun H1 locs1 hPn hCn hSn => ?_)
  have hP := hPn; have hS := hSn; have hC := hC.tr (hCn.mono (b := o) (k := 5) (by omega) (by omega))
  refine lv_aload_n S.1 S.2.1 dX10_setLit_7 rfl (lv_at hl 0 rfl) ?_
  refine z_cV (v := some (.int (nI (zSum (va_up (f 4) i b) (f 0 4))))) (rest := []) (As := []) S hZ hS (c_X10_countLit l g (va_up f 4 (va_up (f 4) i b)) hw2) ci_X10_countLit cv_X10_countLit k558 ⟨rfl, rfl, by rw [hR]; decide, by rw [hR]; decide⟩ hP (hP.recv hZ.1 0 (by decide) rfl rfl rfl) hl.1 rfl (Nat.le_of_ble_eq_true rfl) dX10_setLit_8 ⟨by rw [hR]; decide, by rw [hR]; decide⟩ rfl ?_
  exact z_wi hQ S hr hlk (zn_int _) hS hC ⟨rfl, hP⟩ dX10_setLit_11
theorem ci_X10_place : zCI yX10_place cX10_place 4 (some .int) 3 := ⟨k553, k3, by decide +kernel⟩
theorem cv_X10_place : Cond.instanceMethod yX10_place ∈ GW ∧ Cond.selects (yX10_place).cls yX10_place yX10_place ∈ GW := ⟨k551, k552⟩
set_option maxRecDepth 20000 in
set_option maxHeartbeats 4000000 in
/-- Wicks.place(a, b, x) -/
theorem c_X10_place (l : Launch) (g : ZG) {B : Nat} {o : Nat} (hB : B ≤ o) (f : Nat → Nat → Nat) (hw : zWo f) (a b x : Nat) (h8 : f 0 4 < 8) : Met l yX10_place (.code yX10_place cX10_place 4 (some .int) :: GW) { frames := 0, cells := 0, slots := 0, locals := 0 } (va_Pc [.ref o, .int (nI a), .int (nI b), .int (nI x)] (zPre g B (fun H => zPm g o 5 TW f H))) (zX (fun v H => v = some (.int (nI (f 0 4))) ∧ zPm g o 5 TW (zPl f a b x) H) o 5) 0 0 (zA B) := by
  refine zMet (by decide) (Nat.le_of_ble_eq_true rfl) ?_
  intro p e R s m args below meth c Q ls hR hargs hQ S hr hlk hP hZ hS hnm hl
  have hl : lv_has ls 4 [(0, .ref (o)), (1, .int (nI (a))), (2, .int (nI (b))), (3, .int (nI (x)))] := hl
  have hC : zCh1 o 5 s.heap s.heap := zCh1.rf
  refine lv_aload_n S.1 S.2.1 dX10_place_0 rfl (lv_at hl 0 rfl) ?_
  refine z_get (v := .ref (o + 1)) S hZ.1 hP 0 (by decide) rfl rfl rfl 0 (by decide) rfl k51 dX10_place_1 ?_
  refine lv_aload_n S.1 S.2.1 dX10_place_4 rfl (lv_at hl 0 rfl) ?_
  refine z_get (v := .int (nI (f 0 4))) S hZ.1 hP 0 (by decide) rfl rfl rfl 4 (by decide) rfl k59 dX10_place_5 ?_
  refine lv_iload_n S.1 S.2.1 dX10_place_8 rfl (lv_at hl 1 rfl) ?_
  refine z_iast S hZ.1 hP hS hB 1 (by decide) rfl rfl (i := (f 0 4)) (x := a) rfl (by omega) (by decide) dX10_place_9 (fun H1 locs1 hPn hCn hSn => ?_)
  have hP := hPn; have hS := hSn; have hC := hC.tr (hCn.mono (b := o) (k := 5) (by omega) (by omega))
  refine lv_aload_n S.1 S.2.1 dX10_place_10 rfl (lv_at hl 0 rfl) ?_
  refine z_get (v := .ref (o + 2)) S hZ.1 hP 0 (by decide) rfl rfl rfl 1 (by decide) rfl k52 dX10_place_11 ?_
  refine lv_aload_n S.1 S.2.1 dX10_place_14 rfl (lv_at hl 0 rfl) ?_
  refine z_get (v := .int (nI (f 0 4))) S hZ.1 hP 0 (by decide) rfl rfl rfl 4 (by decide) rfl k59 dX10_place_15 ?_
  refine lv_iload_n S.1 S.2.1 dX10_place_18 rfl (lv_at hl 2 rfl) ?_
  refine z_iast S hZ.1 hP hS hB 2 (by decide) rfl rfl (i := (f 0 4)) (x := b) rfl (by omega) (by decide) dX10_place_19 (fun H1 locs1 hPn hCn hSn => ?_)
  have hP := hPn; have hS := hSn; have hC := hC.tr (hCn.mono (b := o) (k := 5) (by omega) (by omega))
  refine lv_aload_n S.1 S.2.1 dX10_place_20 rfl (lv_at hl 0 rfl) ?_
  refine z_get (v := .ref (o + 3)) S hZ.1 hP 0 (by decide) rfl rfl rfl 2 (by decide) rfl k53 dX10_place_21 ?_
  refine lv_aload_n S.1 S.2.1 dX10_place_24 rfl (lv_at hl 0 rfl) ?_
  refine z_get (v := .int (nI (f 0 4))) S hZ.1 hP 0 (by decide) rfl rfl rfl 4 (by decide) rfl k59 dX10_place_25 ?_
  refine lv_iload_n S.1 S.2.1 dX10_place_28 rfl (lv_at hl 3 rfl) ?_
  refine z_iast S hZ.1 hP hS hB 3 (by decide) rfl rfl (i := (f 0 4)) (x := x) rfl (by omega) (by decide) dX10_place_29 (fun H1 locs1 hPn hCn hSn => ?_)
  have hP := hPn; have hS := hSn; have hC := hC.tr (hCn.mono (b := o) (k := 5) (by omega) (by omega))
  refine lv_aload_n S.1 S.2.1 dX10_place_30 rfl (lv_at hl 0 rfl) ?_
  refine z_get (v := .ref (o + 4)) S hZ.1 hP 0 (by decide) rfl rfl rfl 3 (by decide) rfl k56 dX10_place_31 ?_
  refine lv_aload_n S.1 S.2.1 dX10_place_34 rfl (lv_at hl 0 rfl) ?_
  refine z_get (v := .int (nI (f 0 4))) S hZ.1 hP 0 (by decide) rfl rfl rfl 4 (by decide) rfl k59 dX10_place_35 ?_
  refine z_ic S (k := 0) dX10_place_38 (by decide) ?_
  refine z_zast S hZ.1 hP hS hB 4 (by decide) rfl rfl (i := (f 0 4)) (x := 0) (by omega) rfl (by omega) (by decide) dX10_place_39 (fun H1 locs1 hPn hCn hSn => ?_)
  have hP := hPn; have hS := hSn; have hC := hC.tr (hCn.mono (b := o) (k := 5) (by omega) (by omega))
  refine lv_aload_n S.1 S.2.1 dX10_place_40 rfl (lv_at hl 0 rfl) ?_
  refine lv_dup S.1 S.2.1 dX10_place_41 rfl ?_
  refine z_get (v := .int (nI (f 0 4))) S hZ.1 hP 0 (by decide) rfl rfl rfl 4 (by decide) rfl k59 dX10_place_42 ?_
  refine z_ic S (k := 1) dX10_place_45 (by decide) ?_
  refine z_add S dX10_place_46 ?_
  refine z_put (v := .int (nI ((f 0 4) + 1))) (ty := .int) S hZ.1 hP hS hB 0 (by decide) rfl rfl rfl 4 (by decide) (va_up ((va_up (va_up (va_up (va_up f 1 (va_up (f 1) (f 0 4) a)) 2 (va_up ((va_up f 1 (va_up (f 1) (f 0 4) a)) 2) (f 0 4) b)) 3 (va_up ((va_up (va_up f 1 (va_up (f 1) (f 0 4) a)) 2 (va_up ((va_up f 1 (va_up (f 1) (f 0 4) a)) 2) (f 0 4) b)) 3) (f 0 4) x)) 4 (va_up ((va_up (va_up (va_up f 1 (va_up (f 1) (f 0 4) a)) 2 (va_up ((va_up f 1 (va_up (f 1) (f 0 4) a)) 2) (f 0 4) b)) 3 (va_up ((va_up (va_up f 1 (va_up (f 1) (f 0 4) a)) 2 (va_up ((va_up f 1 (va_up (f 1) (f 0 4) a)) 2) (f 0 4) b)) 3) (f 0 4) x)) 4) (f 0 4) 0)) 0) 4 ((f 0 4) + 1)) rfl k59 rfl (by decide +kernel) rfl rfl (Nat.le_of_ble_eq_true rfl) dX10_place_47 (fun H1 locs1 hPn hCn hSn => ?_)
  have hP := hPn; have hS := hSn; have hC := hC.tr (hCn.mono (b := o) (k := 5) (by omega) (by omega))
  refine lv_aload_n S.1 S.2.1 dX10_place_50 rfl (lv_at hl 0 rfl) ?_
  refine z_get (v := .int (nI (f 0 4 + 1))) S hZ.1 hP 0 (by decide) rfl rfl rfl 4 (by decide) rfl k59 dX10_place_51 ?_
  refine z_ic S (k := 1) dX10_place_54 (by decide) ?_
  refine z_sub S (by omega) dX10_place_55 ?_
  exact z_wi hQ S hr hlk (zn_int _) hS hC ⟨rfl, hP⟩ dX10_place_56
theorem ci_X10_burnDown : zCI yX10_burnDown cX10_burnDown 3 (some .int) 0 := ⟨k591, k3, by decide +kernel⟩
theorem cv_X10_burnDown : Cond.instanceMethod yX10_burnDown ∈ GW ∧ Cond.selects (yX10_burnDown).cls yX10_burnDown yX10_burnDown ∈ GW := ⟨k589, k590⟩
set_option maxRecDepth 20000 in
set_option maxHeartbeats 4000000 in
/-- Wicks.burnDown() -/
theorem c_X10_burnDown (l : Launch) (g : ZG) {B : Nat} {o : Nat} (hB : B ≤ o) (f : Nat → Nat → Nat) (hw : zWo f) : Met l yX10_burnDown (.code yX10_burnDown cX10_burnDown 3 (some .int) :: GW) { frames := 0, cells := 0, slots := 0, locals := 0 } (va_Pc [.ref o] (zPre g B (fun H => zPm g o 5 TW f H))) (zX (fun v H => v = some (.int (nI (zSum (f 4) (f 0 4)))) ∧ zPm g o 5 TW (zBd f (f 0 4)) H) o 5) 0 0 (zA B) := by
  refine zMet (by decide) (Nat.le_of_ble_eq_true rfl) ?_
  intro p e R s m args below meth c Q ls hR hargs hQ S hr hlk hP hZ hS hnm hl
  have hl : lv_has ls 3 [(0, .ref (o))] := hl
  have hC : zCh1 o 5 s.heap s.heap := zCh1.rf
  refine z_ic S (k := 0) dX10_burnDown_0 (by decide) ?_
  refine lv_istore_n (lv' := [(1, .int (nI (0))), (0, .ref (o))]) S.1 S.2.1 dX10_burnDown_1 rfl hl (by decide) rfl (fun ls hl => ?_)
  refine z_ic S (k := 0) dX10_burnDown_2 (by decide) ?_
  refine lv_istore_n (lv' := [(2, .int (nI (0))), (1, .int (nI (0))), (0, .ref (o))]) S.1 S.2.1 dX10_burnDown_3 rfl hl (by decide) rfl (fun ls hl => ?_)
  have hP0 : zPm g o 5 TW (zBd f 0) s.heap := by rw [zBd_0]; exact hP
  have loop : ∀ (n i x : Nat) (ls : Array Slot) (H : Heap) (locs : List Loc), (i ≤ f 0 4) → (f 0 4 < i + n) → (x = zSum (f 4) i) → zPm g o 5 TW (zBd f i) H → va_S (zA B) s.heap H locs → zCh1 o 5 s.heap H → lv_has ls 3 [(0, .ref o), (1, .int (nI x)), (2, .int (nI i))] → W p l e R s m args below meth c H locs 0 0 Q (F0 m 4 ls []) := by
    intro n
    induction n with
    | zero => intro i x ls H locs h1 h2; exact absurd h2 (by omega)
    | succ n ih =>
      intro i x ls H locs h1 h2 hx hP hS hC hl
      have hli : zBd f i 4 i = f 4 i := by simp [zBd]
      have hxi : zBd f i 3 i = f 3 i := by simp [zBd]
      refine lv_iload_n S.1 S.2.1 dX10_burnDown_4 rfl (lv_at hl 2 rfl) ?_
      refine lv_aload_n S.1 S.2.1 dX10_burnDown_5 rfl (lv_at hl 0 rfl) ?_
      refine z_get (v := .int (nI (f 0 4))) S hZ.1 hP 0 (by decide) rfl rfl rfl 4 (by decide) rfl k59 dX10_burnDown_6 ?_
      refine z_cge (tgt := 60) S (by have := hw.1; omega) hw.c dX10_burnDown_9 (by decide) (fun h4 => ?_) (fun h4 => ?_)
      · refine lv_iload_n S.1 S.2.1 dX10_burnDown_60 rfl (lv_at hl 1 rfl) ?_
        obtain rfl : i = f 0 4 := by omega
        exact z_wi hQ S hr hlk (zn_int _) hS hC ⟨by rw [hx], hP⟩ dX10_burnDown_61
      · refine lv_aload_n S.1 S.2.1 dX10_burnDown_12 rfl (lv_at hl 0 rfl) ?_
        refine z_get (v := .ref (o + 4)) S hZ.1 hP 0 (by decide) rfl rfl rfl 3 (by decide) rfl k56 dX10_burnDown_13 ?_
        refine lv_iload_n S.1 S.2.1 dX10_burnDown_16 rfl (lv_at hl 2 rfl) ?_
        refine z_zald S hZ.1 hP 4 (by decide) rfl rfl (i := i) (by have := hw.1; omega) (by decide) dX10_burnDown_17 ?_
        rw [hli]
        refine z_ieq (tgt := 54) S (hw.l i) dX10_burnDown_18 (by decide) (fun h5 => ?_) (fun h5 => ?_)
        · refine z_inc S (lv' := [(2, .int (nI (i + 1))), (0, .ref (o)), (1, .int (nI (x)))]) (k := 2) (b := 1) dX10_burnDown_54 hl rfl (by decide) (by decide) rfl (fun ls hl => ?_)
          refine lv_goto (tgt := 4) S.1 S.2.1 dX10_burnDown_57 (by decide) ?_
          exact ih (i + 1) x ls H locs (by omega) (by omega) (by rw [zSum, hx]; omega) (hP.eq (zBd_no (by omega)).symm) hS hC (lv_sub hl [1, 2, 0] rfl)
        · have h6 : f 4 i = 1 := by have := (hw.2 i).2.2.2.1; omega
          have h7 : 0 < f 3 i := (hw.2 i).2.2.2.2 h6
          refine lv_aload_n S.1 S.2.1 dX10_burnDown_21 rfl (lv_at hl 0 rfl) ?_
          refine z_get (v := .ref (o + 3)) S hZ.1 hP 0 (by decide) rfl rfl rfl 2 (by decide) rfl k53 dX10_burnDown_22 ?_
          refine lv_iload_n S.1 S.2.1 dX10_burnDown_25 rfl (lv_at hl 2 rfl) ?_
          refine lv_dup2_11 S.1 S.2.1 dX10_burnDown_26 rfl rfl ?_
          refine z_iald S hZ.1 hP 3 (by decide) rfl rfl (i := i) (by have := hw.1; omega) (by decide) dX10_burnDown_27 ?_
          rw [hxi]
          refine z_ic S (k := 1) dX10_burnDown_28 (by decide) ?_
          refine z_sub S (by omega) dX10_burnDown_29 ?_
          refine z_iast S hZ.1 hP hS hB 3 (by decide) rfl rfl (i := i) (x := ((f 3 i) - 1)) rfl (by have := hw.1; omega) (by decide) dX10_burnDown_30 (fun H1 locs1 hPn hCn hSn => ?_)
          have hP := hPn; have hS := hSn; have hC := hC.tr (hCn.mono (b := o) (k := 5) (by omega) (by omega))
          have hy : va_up (zBd f i) 3 (va_up (zBd f i 3) i (f 3 i - 1)) 3 i = f 3 i - 1 := by simp [va_up]
          refine lv_aload_n S.1 S.2.1 dX10_burnDown_31 rfl (lv_at hl 0 rfl) ?_
          refine z_get (v := .ref (o + 4)) S hZ.1 hP 0 (by decide) rfl rfl rfl 3 (by decide) rfl k56 dX10_burnDown_32 ?_
          refine lv_iload_n S.1 S.2.1 dX10_burnDown_35 rfl (lv_at hl 2 rfl) ?_
          refine lv_aload_n S.1 S.2.1 dX10_burnDown_36 rfl (lv_at hl 0 rfl) ?_
          refine z_get (v := .ref (o + 3)) S hZ.1 hP 0 (by decide) rfl rfl rfl 2 (by decide) rfl k53 dX10_burnDown_37 ?_
          refine lv_iload_n S.1 S.2.1 dX10_burnDown_40 rfl (lv_at hl 2 rfl) ?_
          refine z_iald S hZ.1 hP 3 (by decide) rfl rfl (i := i) (by have := hw.1; omega) (by decide) dX10_burnDown_41 ?_
          rw [hy]
          refine z_ile (tgt := 49) S (by have := hw.x i; omega) dX10_burnDown_42 (by decide) (fun h8 => ?_) (fun h8 => ?_)
          · refine z_ic S (k := 0) dX10_burnDown_49 (by decide) ?_
            refine z_zast S hZ.1 hP hS hB 4 (by decide) rfl rfl (i := i) (x := 0) (by omega) rfl (by have := hw.1; omega) (by decide) dX10_burnDown_50 (fun H1 locs1 hPn hCn hSn => ?_)
            have hP := hPn; have hS := hSn; have hC := hC.tr (hCn.mono (b := o) (k := 5) (by omega) (by omega))
            have hP := hP.eq (zBd_yes h6 rfl (y := 0) (by rw [if_neg (by omega)]))
            refine z_inc S (lv' := [(1, .int (nI (x + 1))), (0, .ref (o)), (2, .int (nI (i)))]) (k := 1) (b := 1) dX10_burnDown_51 hl rfl (by decide) (by decide) rfl (fun ls hl => ?_)
            refine z_inc S (lv' := [(2, .int (nI (i + 1))), (1, .int (nI (x + 1))), (0, .ref (o))]) (k := 2) (b := 1) dX10_burnDown_54 hl rfl (by decide) (by decide) rfl (fun ls hl => ?_)
            refine lv_goto (tgt := 4) S.1 S.2.1 dX10_burnDown_57 (by decide) ?_
            exact ih (i + 1) (x + 1) ls H1 locs1 (by omega) (by omega) (by rw [zSum, hx]; omega) hP hS hC (lv_sub hl [2, 1, 0] rfl)
          · refine z_ic S (k := 1) dX10_burnDown_45 (by decide) ?_
            refine lv_goto (tgt := 50) S.1 S.2.1 dX10_burnDown_46 (by decide) ?_
            refine z_zast S hZ.1 hP hS hB 4 (by decide) rfl rfl (i := i) (x := 1) (by omega) rfl (by have := hw.1; omega) (by decide) dX10_burnDown_50 (fun H1 locs1 hPn hCn hSn => ?_)
            have hP := hPn; have hS := hSn; have hC := hC.tr (hCn.mono (b := o) (k := 5) (by omega) (by omega))
            have hP := hP.eq (zBd_yes h6 rfl (y := 1) (by rw [if_pos (by omega)]))
            refine z_inc S (lv' := [(1, .int (nI (x + 1))), (0, .ref (o)), (2, .int (nI (i)))]) (k := 1) (b := 1) dX10_burnDown_51 hl rfl (by decide) (by decide) rfl (fun ls hl => ?_)
            refine z_inc S (lv' := [(2, .int (nI (i + 1))), (1, .int (nI (x + 1))), (0, .ref (o))]) (k := 2) (b := 1) dX10_burnDown_54 hl rfl (by decide) (by decide) rfl (fun ls hl => ?_)
            refine lv_goto (tgt := 4) S.1 S.2.1 dX10_burnDown_57 (by decide) ?_
            exact ih (i + 1) (x + 1) ls H1 locs1 (by omega) (by omega) (by rw [zSum, hx]; omega) hP hS hC (lv_sub hl [2, 1, 0] rfl)
  exact loop (f 0 4 + 1) 0 0 ls _ _ (Nat.zero_le _) (by omega) rfl hP0 hS hC (lv_sub hl [2, 1, 0] rfl)
/-- the first n places are those of the other -/
def zCw (f f2 : Nat → Nat → Nat) (n : Nat) : Nat → Nat → Nat := fun c j => match c with
  | 0 => f 0 j
  | 1 => if j < n then f2 1 j else f 1 j
  | 2 => if j < n then f2 2 j else f 2 j
  | 3 => if j < n then f2 3 j else f 3 j
  | 4 => if j < n then f2 4 j else f 4 j
  | c => f c j
theorem zCw_0 (f f2 : Nat → Nat → Nat) : zCw f f2 0 = f := by
  funext c j
  unfold zCw
  split <;> simp
theorem zCw_s (f f2 : Nat → Nat → Nat) (i : Nat) : va_up (va_up (va_up (va_up (zCw f f2 i) 1 (va_up (zCw f f2 i 1) i (f2 1 i))) 2 (va_up (zCw f f2 i 2) i (f2 2 i))) 3 (va_up (zCw f f2 i 3) i (f2 3 i))) 4 (va_up (zCw f f2 i 4) i (f2 4 i)) = zCw f f2 (i + 1) := by
  funext c j
  by_cases e : j = i
  · subst e
    by_cases c1 : c = 1
    · subst c1; simp [va_up, zCw]
    by_cases c2 : c = 2
    · subst c2; simp [va_up, zCw]
    by_cases c3 : c = 3
    · subst c3; simp [va_up, zCw]
    by_cases c4 : c = 4
    · subst c4; simp [va_up, zCw]
    by_cases c0 : c = 0
    · subst c0; simp [va_up, zCw]
    simp [va_up, zCw, c1, c2, c3, c4, c0]
  · have e2 : (j < i + 1) = (j < i) := by apply propext; omega
    by_cases c1 : c = 1
    · subst c1; simp [va_up, zCw, e, e2]
    by_cases c2 : c = 2
    · subst c2; simp [va_up, zCw, e, e2]
    by_cases c3 : c = 3
    · subst c3; simp [va_up, zCw, e, e2]
    by_cases c4 : c = 4
    · subst c4; simp [va_up, zCw, e, e2]
    by_cases c0 : c = 0
    · subst c0; simp [va_up, zCw]
    simp [va_up, zCw, c1, c2, c3, c4, c0]
theorem zCw_end {g : ZG} {o : Nat} {f f2 : Nat → Nat → Nat} {H : Heap} (h : zPm g o 5 TW (va_up (zCw f f2 8) 0 (va_up (zCw f f2 8 0) 4 (f2 0 4))) H) : zPm g o 5 TW f2 H := by
  refine h.cg (fun k hk a hv => ?_)
  match k, hk with
  | 0, _ => exact hv
  | 1, _ => exact dI_cg (fun j hj => by simp [va_up, zCw, hj]) hv
  | 2, _ => exact dI_cg (fun j hj => by simp [va_up, zCw, hj]) hv
  | 3, _ => exact dI_cg (fun j hj => by simp [va_up, zCw, hj]) hv
  | 4, _ => exact dZ_cg (fun j hj => by simp [va_up, zCw, hj]) hv
  | k + 5, hk => exact absurd hk (by omega)
theorem ci_X10_copyFrom : zCI yX10_copyFrom cX10_copyFrom 3 none 1 := ⟨k303, k3, by decide +kernel⟩
theorem cv_X10_copyFrom : Cond.instanceMethod yX10_copyFrom ∈ GW ∧ Cond.selects (yX10_copyFrom).cls yX10_copyFrom yX10_copyFrom ∈ GW := ⟨k301, k302⟩
set_option maxRecDepth 20000 in
set_option maxHeartbeats 4000000 in
/-- Wicks.copyFrom(other) -/
theorem c_X10_copyFrom (l : Launch) (g : ZG) {B : Nat} {o o2 : Nat} (hB : B ≤ o) (hd : o2 + 5 ≤ o ∨ o + 5 ≤ o2) (f f2 : Nat → Nat → Nat) (hb2 : ∀ i, f2 4 i ≤ 1) : Met l yX10_copyFrom (.code yX10_copyFrom cX10_copyFrom 3 none :: GW) { frames := 0, cells := 0, slots := 0, locals := 0 } (va_Pc [.ref o, .ref o2] (zPre g B (fun H => zPm g o 5 TW f H ∧ zPm g o2 5 TW f2 H))) (zX (fun v H => v = none ∧ zPm g o 5 TW f2 H) o 5) 0 0 (zA B) := by
  refine zMet (by decide) (Nat.le_of_ble_eq_true rfl) ?_
  intro p e R s m args below meth c Q ls hR hargs hQ S hr hlk hP hZ hS hnm hl
  have hl : lv_has ls 3 [(0, .ref (o)), (1, .ref (o2))] := hl
  obtain ⟨hP, hP2⟩ := hP
  have hC : zCh1 o 5 s.heap s.heap := zCh1.rf
  refine z_ic S (k := 0) dX10_copyFrom_0 (by decide) ?_
  refine lv_istore_n (lv' := [(2, .int (nI (0))), (0, .ref (o)), (1, .ref (o2))]) S.1 S.2.1 dX10_copyFrom_1 rfl hl (by decide) rfl (fun ls hl => ?_)
  have hP0 : zPm g o 5 TW (zCw f f2 0) s.heap := by rw [zCw_0]; exact hP
  have loop : ∀ (n i : Nat) (ls : Array Slot) (H : Heap) (locs : List Loc), (i ≤ 8) → (8 < i + n) → zPm g o 5 TW (zCw f f2 i) H → zPm g o2 5 TW f2 H → va_S (zA B) s.heap H locs → zCh1 o 5 s.heap H → lv_has ls 3 [(0, .ref o), (1, .ref o2), (2, .int (nI i))] → W p l e R s m args below meth c H locs 0 0 Q (F0 m 2 ls []) := by
    intro n
    induction n with
    | zero => intro i ls H locs h1 h2; exact absurd h2 (by omega)
    | succ n ih =>
      intro i ls H locs h1 h2 hP hP2 hS hC hl
      refine lv_iload_n S.1 S.2.1 dX10_copyFrom_2 rfl (lv_at hl 2 rfl) ?_
      refine z_bi S (k := 8) dX10_copyFrom_3 (by decide) ?_
      refine z_cge (tgt := 62) S (by omega) (by omega) dX10_copyFrom_5 (by decide) (fun h4 => ?_) (fun h4 => ?_)
      · obtain rfl : i = 8 := by omega
        refine lv_aload_n S.1 S.2.1 dX10_copyFrom_62 rfl (lv_at hl 0 rfl) ?_
        refine lv_aload_n S.1 S.2.1 dX10_copyFrom_63 rfl (lv_at hl 1 rfl) ?_
        refine z_get (v := .int (nI (f2 0 4))) S hZ.1 hP2 0 (by decide) rfl rfl rfl 4 (by decide) rfl k59 dX10_copyFrom_64 ?_
        refine z_put (v := .int (nI (f2 0 4))) (ty := .int) S hZ.1 hP hS hB 0 (by decide) rfl rfl rfl 4 (by decide) (va_up ((zCw f f2 8) 0) 4 (f2 0 4)) rfl k59 rfl (by decide +kernel) rfl rfl (Nat.le_of_ble_eq_true rfl) dX10_copyFrom_67 (fun H1 locs1 hPn hCn hSn => ?_)
        have hP := hPn; have hS := hSn; have hC := hC.tr (hCn.mono (b := o) (k := 5) (by omega) (by omega))
        have hP2 := hP2.kept hCn (by omega)
        exact z_wv hQ S hr hlk hS hC ⟨rfl, zCw_end hP⟩ dX10_copyFrom_70
      · refine lv_aload_n S.1 S.2.1 dX10_copyFrom_8 rfl (lv_at hl 0 rfl) ?_
        refine z_get (v := .ref (o + 1)) S hZ.1 hP 0 (by decide) rfl rfl rfl 0 (by decide) rfl k51 dX10_copyFrom_9 ?_
        refine lv_iload_n S.1 S.2.1 dX10_copyFrom_12 rfl (lv_at hl 2 rfl) ?_
        refine lv_aload_n S.1 S.2.1 dX10_copyFrom_13 rfl (lv_at hl 1 rfl) ?_
        refine z_get (v := .ref (o2 + 1)) S hZ.1 hP2 0 (by decide) rfl rfl rfl 0 (by decide) rfl k51 dX10_copyFrom_14 ?_
        refine lv_iload_n S.1 S.2.1 dX10_copyFrom_17 rfl (lv_at hl 2 rfl) ?_
        refine z_iald S hZ.1 hP2 1 (by decide) rfl rfl (i := i) h4 (by decide) dX10_copyFrom_18 ?_
        refine z_iast S hZ.1 hP hS hB 1 (by decide) rfl rfl (i := i) (x := (f2 1 i)) rfl h4 (by decide) dX10_copyFrom_19 (fun H1 locs1 hPn hCn hSn => ?_)
        have hP := hPn; have hS := hSn; have hC := hC.tr (hCn.mono (b := o) (k := 5) (by omega) (by omega))
        have hP2 := hP2.kept hCn (by omega)
        refine lv_aload_n S.1 S.2.1 dX10_copyFrom_20 rfl (lv_at hl 0 rfl) ?_
        refine z_get (v := .ref (o + 2)) S hZ.1 hP 0 (by decide) rfl rfl rfl 1 (by decide) rfl k52 dX10_copyFrom_21 ?_
        refine lv_iload_n S.1 S.2.1 dX10_copyFrom_24 rfl (lv_at hl 2 rfl) ?_
        refine lv_aload_n S.1 S.2.1 dX10_copyFrom_25 rfl (lv_at hl 1 rfl) ?_
        refine z_get (v := .ref (o2 + 2)) S hZ.1 hP2 0 (by decide) rfl rfl rfl 1 (by decide) rfl k52 dX10_copyFrom_26 ?_
        refine lv_iload_n S.1 S.2.1 dX10_copyFrom_29 rfl (lv_at hl 2 rfl) ?_
        refine z_iald S hZ.1 hP2 2 (by decide) rfl rfl (i := i) h4 (by decide) dX10_copyFrom_30 ?_
        refine z_iast S hZ.1 hP hS hB 2 (by decide) rfl rfl (i := i) (x := (f2 2 i)) rfl h4 (by decide) dX10_copyFrom_31 (fun H1 locs1 hPn hCn hSn => ?_)
        have hP := hPn; have hS := hSn; have hC := hC.tr (hCn.mono (b := o) (k := 5) (by omega) (by omega))
        have hP2 := hP2.kept hCn (by omega)
        refine lv_aload_n S.1 S.2.1 dX10_copyFrom_32 rfl (lv_at hl 0 rfl) ?_
        refine z_get (v := .ref (o + 3)) S hZ.1 hP 0 (by decide) rfl rfl rfl 2 (by decide) rfl k53 dX10_copyFrom_33 ?_
        refine lv_iload_n S.1 S.2.1 dX10_copyFrom_36 rfl (lv_at hl 2 rfl) ?_
        refine lv_aload_n S.1 S.2.1 dX10_copyFrom_37 rfl (lv_at hl 1 rfl) ?_
        refine z_get (v := .ref (o2 + 3)) S hZ.1 hP2 0 (by decide) rfl rfl rfl 2 (by decide) rfl k53 dX10_copyFrom_38 ?_
        refine lv_iload_n S.1 S.2.1 dX10_copyFrom_41 rfl (lv_at hl 2 rfl) ?_
        refine z_iald S hZ.1 hP2 3 (by decide) rfl rfl (i := i) h4 (by decide) dX10_copyFrom_42 ?_
        refine z_iast S hZ.1 hP hS hB 3 (by decide) rfl rfl (i := i) (x := (f2 3 i)) rfl h4 (by decide) dX10_copyFrom_43 (fun H1 locs1 hPn hCn hSn => ?_)
        have hP := hPn; have hS := hSn; have hC := hC.tr (hCn.mono (b := o) (k := 5) (by omega) (by omega))
        have hP2 := hP2.kept hCn (by omega)
        refine lv_aload_n S.1 S.2.1 dX10_copyFrom_44 rfl (lv_at hl 0 rfl) ?_
        refine z_get (v := .ref (o + 4)) S hZ.1 hP 0 (by decide) rfl rfl rfl 3 (by decide) rfl k56 dX10_copyFrom_45 ?_
        refine lv_iload_n S.1 S.2.1 dX10_copyFrom_48 rfl (lv_at hl 2 rfl) ?_
        refine lv_aload_n S.1 S.2.1 dX10_copyFrom_49 rfl (lv_at hl 1 rfl) ?_
        refine z_get (v := .ref (o2 + 4)) S hZ.1 hP2 0 (by decide) rfl rfl rfl 3 (by decide) rfl k56 dX10_copyFrom_50 ?_
        refine lv_iload_n S.1 S.2.1 dX10_copyFrom_53 rfl (lv_at hl 2 rfl) ?_
        refine z_zald S hZ.1 hP2 4 (by decide) rfl rfl (i := i) h4 (by decide) dX10_copyFrom_54 ?_
        refine z_zast S hZ.1 hP hS hB 4 (by decide) rfl rfl (i := i) (x := (f2 4 i)) (by have := hb2 i; omega) rfl h4 (by decide) dX10_copyFrom_55 (fun H1 locs1 hPn hCn hSn => ?_)
        have hP := hPn; have hS := hSn; have hC := hC.tr (hCn.mono (b := o) (k := 5) (by omega) (by omega))
        have hP2 := hP2.kept hCn (by omega)
        have hP : zPm g o 5 TW (zCw f f2 (i + 1)) H1 := hP.eq (zCw_s f f2 i)
        refine z_inc S (lv' := [(2, .int (nI (i + 1))), (0, .ref (o)), (1, .ref (o2))]) (k := 2) (b := 1) dX10_copyFrom_56 hl rfl (by decide) (by decide) rfl (fun ls hl => ?_)
        refine lv_goto (tgt := 2) S.1 S.2.1 dX10_copyFrom_59 (by decide) ?_
        exact ih (i + 1) ls H1 locs1 (by omega) (by omega) hP hP2 hS hC (lv_sub hl [1, 2, 0] rfl)
  exact loop 9 0 ls _ _ (by omega) (by omega) hP0 hP2 hS hC (lv_sub hl [1, 2, 0] rfl)
end
section
/-! bits -/
def zBc (x : Nat) : Nat :=
  let a := x - (x / 2 ^ 1 &&& 1431655765)
  let b := (a &&& 858993459) + (a / 2 ^ 2 &&& 858993459)
  let c := (b + b / 2 ^ 4) &&& 252645135
  let d := c + c / 2 ^ 8
  (d + d / 2 ^ 16) &&& 63
theorem zBc_tab : (List.range 256).all (fun h => (List.range 256).all (fun l => zBc (256 * h + l) == zSum (fun c => l / 2 ^ c % 2) 8 + zSum (fun c => h / 2 ^ c % 2) 8)) = true := by decide +kernel
theorem zBc_sum {x : Nat} (hx : x < 65536) : zBc x = zSum (fun c => x / 2 ^ c % 2) 16 := by
  have h1 := List.all_eq_true.mp zBc_tab (x / 256) (List.mem_range.mpr (by omega))
  have h2 := List.all_eq_true.mp h1 (x % 256) (List.mem_range.mpr (by omega))
  rw [Nat.div_add_mod] at h2
  rw [beq_iff_eq.mp h2]
  have lo : ∀ c, c < 8 → x % 256 / 2 ^ c % 2 = x / 2 ^ c % 2 := by
    intro c hc
    have e : (256 : Nat) = 2 ^ 8 := rfl
    have t1 : x.testBit c = (x % 2 ^ 8).testBit c := by rw [Nat.testBit_mod_two_pow]; simp [hc]
    rw [Nat.testBit_eq_decide_div_mod_eq, Nat.testBit_eq_decide_div_mod_eq, decide_eq_decide] at t1
    rw [e]
    omega
  have hi : ∀ c, x / 256 / 2 ^ c % 2 = x / 2 ^ (8 + c) % 2 := by
    intro c
    rw [Nat.div_div_eq_div_mul, Nat.pow_add]
  have s1 : zSum (fun c => x % 256 / 2 ^ c % 2) 8 = zSum (fun c => x / 2 ^ c % 2) 8 := by
    simp only [zSum]
    rw [lo 0 (by omega), lo 1 (by omega), lo 2 (by omega), lo 3 (by omega), lo 4 (by omega), lo 5 (by omega), lo 6 (by omega), lo 7 (by omega)]
  rw [s1]
  simp only [zSum, hi]
  omega
/-- column c of x -/
def zBt (x c : Nat) : Bool := x.testBit c
theorem zBt_and (x c : Nat) : (x / 2 ^ c &&& 1) = (zBt x c).toNat := by
  rw [Nat.and_one_is_mod, zBt, Nat.testBit_eq_decide_div_mod_eq]
  rcases (show x / 2 ^ c % 2 = 0 ∨ x / 2 ^ c % 2 = 1 by omega) with h | h <;> rw [h] <;> rfl
theorem zBt_mod (x c : Nat) : x / 2 ^ c % 2 = (zBt x c).toNat := by rw [← zBt_and, Nat.and_one_is_mod]
end
section
/-! THE CLOTH -/
section ZCP
variable {p : Program} {l : Launch} {e : Env} {R : Room} {s : State} {m : MethodId} {args : Array Value} {below : List Frame} {meth : Method} {c : Code} {H : Heap} {locs : List Loc} {cells slots : Nat} {Q : State → Prop}
variable {cc : ByteArray} {pc nL : Nat} {own : String} {ls : Array Slot} {rest : List Value} {g : ZG} {B o n o2 n2 : Nat} {T T2 : Nat → ZD} {f f2 : Nat → Nat → Nat}
/-- System.arraycopy of one whole row of ints over another of the same length -/
theorem z_copy (S : CallFix p m c cc nL s args GW own) (hsize : ls.size = nL) (hK : zT g s) (hP : zPm g o n T f H) (hP2 : zPm g o2 n2 T2 f2 H) (hS : va_S (zA B) s.heap H locs) (hB : B ≤ o) (k : Nat) (hk : k < n) {a : Nat} (ha : o + k = a) (k2 : Nat) (hk2 : k2 < n2) {a2 : Nat} (ha2 : o2 + k2 = a2) {N : Nat} {q q2 : Nat → Nat} (hT : T k g (o + k) (f k) = .inl (g.2 0 0, N, .inl (fun j => nI (q j)))) (hT2 : T2 k2 g (o2 + k2) (f2 k2) = .inl (g.2 0 0, N, .inl (fun j => nI (q2 j)))) (r : Nat → Nat) (hTr : T k g (o + k) r = .inl (g.2 0 0, N, .inl (fun j => nI (q2 j)))) (hN : N < 2 ^ 31) {index : Nat} (hlink : Cond.methodLink own index arraycopyName ∈ GW) (hw : Cond.native arraycopyName ∈ GW ∧ Cond.static arraycopyName ∈ GW ∧ Cond.initialized "java/lang/System" ∈ GW) (hframes : 1 ≤ R.frames) (hlocals : (rest.map fun v => v.category).sum + (nativeFrameWords "java/lang/System" "arraycopy" 5 + 11) ≤ R.locals) (hdg : decode cc pc = .ok (.invokestatic index, 3))
    (kk : ∀ (H1 : Heap) (locs1 : List Loc), zPm g o n T (va_up f k r) H1 → zCh1 a 1 H H1 → va_S (zA B) s.heap H1 locs1 → W p l e R s m args below meth c H1 locs1 cells slots Q (F0 m (pc + 3) ls rest)) : W p l e R s m args below meth c H locs cells slots Q (F0 m pc ls (.int (nI N) :: .int (nI 0) :: .ref a :: .int (nI 0) :: .ref a2 :: rest)) := by
  have hc1 : H[a]? = some (vp_cell (g.2 0 0) (N, .inl (fun j => nI (q j)))) := by have h := hP k hk; rw [hT, ha] at h; exact h
  have hc0 : H[a2]? = some (vp_cell (g.2 0 0) (N, .inl (fun j => nI (q2 j)))) := by have h := hP2 k2 hk2; rw [hT2, ha2] at h; exact h
  obtain ⟨-, k0, hk0, cm0, hkk0⟩ := (hK.2 0 _ rfl).1 N (fun j => .int (nI (q2 j)))
  have z0 : ¬ nI 0 < 0 := nI_pos (by omega)
  have zN : ¬ nI N < 0 := nI_pos hN
  have c0 : (nI 0).toNatClampNeg = 0 := nI_clamp (by omega)
  have cN : (nI N).toNatClampNeg = N := nI_clamp hN
  intro T0 hT0 X
  obtain ⟨vm', X', step⟩ := X.arraycopy S.1 S.2.2.2.1 (S.2.2.2.2 _ hlink) (S.2.2.2.2 _ hw.1) (S.2.2.2.2 _ hw.2.1) (S.2.2.2.2 _ hw.2.2) (src := a2) (dst := a) (cs := vp_cell (g.2 0 0) (N, .inl (fun j => nI (q2 j)))) (cd := vp_cell (g.2 0 0) (N, .inl (fun j => nI (q j)))) (srcPos := nI 0) (destPos := nI 0) (n := nI N) (by rw [hT0]; exact hc0) (by rw [hT0]; exact hc1)
    (fun _ h => by cases h) (fun _ h => by cases h) (fun h => by cases h) (fun h => by cases h) hk0 hk0 hkk0 hkk0 (by simp [refKind]) z0 z0 zN
    (by rw [nI_toInt (by omega), nI_toInt hN]; show ¬ _ > ((arrV _ N _).slots.size : Int); rw [arrV_size]; omega)
    (by rw [nI_toInt (by omega), nI_toInt hN]; show ¬ _ > ((arrV _ N _).slots.size : Int); rw [arrV_size]; omega)
    (fun vm₁ _ i hi => by
      rw [cN] at hi
      have e : (vp_cell (g.2 0 0) (N, .inl (fun j => nI (q2 j)))).slots.getD ((nI 0).toNatClampNeg + i) .null = .int (nI (q2 i)) := by
        show (arrV (g.2 0 0) N (fun j => .int (nI (q2 j)))).slots.getD _ _ = _
        rw [c0, Nat.zero_add, Array.getD_eq_getD_getElem?, arrV_read _ _ hi]
        rfl
      refine ⟨?_, ?_⟩
      · rw [e]; rfl
      · rw [e]; exact trivial)
    (g := F0 m pc ls (.int (nI N) :: .int (nI 0) :: .ref a :: .int (nI 0) :: .ref a2 :: rest)) rfl (by rw [S.2.2.1]; exact hsize) (rest := rest) rfl (by rw [S.2.1]; exact hdg) hframes (by show 2 * 0 + _ + _ ≤ _; omega)
  have e1 : copied (vp_cell (g.2 0 0) (N, .inl (fun j => nI (q2 j)))) (vp_cell (g.2 0 0) (N, .inl (fun j => nI (q j)))) (nI 0) (nI 0) (nI N) = vp_cell (g.2 0 0) (N, .inl (fun j => nI (q2 j))) := by
    have e2 := va_copied (n0 := N) (n1 := N) (sp := (nI 0).toNatClampNeg) (dp := (nI 0).toNatClampNeg) (n := (nI N).toNatClampNeg) (fun z => .int z) (g.2 0 0) (g.2 0 0) (fun j => nI (q2 j)) (fun j => nI (q j)) (by rw [c0, cN]; omega)
    refine Eq.trans e2 ?_
    rw [vp_cell_i]
    refine arrV_cg (fun j hj => ?_)
    rw [c0, cN]
    simp only [va_cpy]
    rw [if_pos ⟨Nat.zero_le _, by omega⟩]
    simp
  rw [e1] at X' step
  have hl : a < H.size := (Array.getElem?_eq_some_iff.mp hc1).1
  have hheap : ((T0.setVm vm').setCell a (vp_cell (g.2 0 0) (N, .inl (fun j => nI (q2 j))))).heap = H.setIfInBounds a (vp_cell (g.2 0 0) (N, .inl (fun j => nI (q2 j)))) := by rw [← hT0]; rfl
  have oq : ∀ q9 : Nat, q9 ≠ a → (H.setIfInBounds a (vp_cell (g.2 0 0) (N, .inl (fun j => nI (q2 j)))))[q9]? = H[q9]? := fun q9 hq => by simp [Array.getElem?_setIfInBounds, Ne.symm hq]
  have hC : zCh1 a 1 H (H.setIfInBounds a (vp_cell (g.2 0 0) (N, .inl (fun j => nI (q2 j))))) := ⟨by simp, fun q9 _ ho => oq q9 (ho.elim Nat.ne_of_lt (fun h => Nat.ne_of_gt h))⟩
  obtain ⟨t, a1, b1⟩ := kk _ _ (hP.set (r := r) (by rw [hTr, ha]; show (H.setIfInBounds a _)[a]? = some _; simp [Array.getElem?_setIfInBounds, hl]) (by rw [ha]; exact oq)) hC (hC.va (by omega) hS (fun l9 hl9 => by
      obtain ⟨z, -, hz⟩ := List.mem_map.mp hl9
      rw [← hz]
      show B ≤ a
      omega)) _ hheap X'
  exact ⟨t, step t a1, b1⟩
end ZCP
/-- what holds of the cloth at all times -/
def zKo (f : Nat → Nat → Nat) : Prop := f 0 3 ≤ 40 ∧ ∀ i, f 1 i < 65536 ∧ f 2 i ≤ 7 ∧ f 3 i < 65536
theorem zKo.c {f : Nat → Nat → Nat} (h : zKo f) : f 0 3 < 2 ^ 31 := by have := h.1; omega
theorem zKo.m {f : Nat → Nat → Nat} (h : zKo f) (i : Nat) : f 1 i < 2 ^ 31 := by have := (h.2 i).1; omega
theorem zKo.l {f : Nat → Nat → Nat} (h : zKo f) (i : Nat) : f 2 i < 2 ^ 31 := by have := (h.2 i).2.1; omega
theorem zKo.k {f : Nat → Nat → Nat} (h : zKo f) (i : Nat) : f 3 i < 2 ^ 31 := by have := (h.2 i).2.2; omega
def zRw (f : Nat → Nat → Nat) (i j : Nat) : Bool := decide (f 1 i = f 1 j ∧ f 2 i = f 2 j)
def zRs (f : Nat → Nat → Nat) (s t n : Nat) : Bool := zAll (fun i => zRw f (s + i) (t + i)) n
def zOv (f : Nat → Nat → Nat) (q : Nat) : Bool := zAll (fun i => zRw f (q + i) i) (f 0 3 - q)
def zCl (f : Nat → Nat → Nat) (r : Nat) : Nat := zSum (fun i => (zRs f i (f 0 3 - r) r).toNat) (f 0 3 - r + 1)
def zNw (f : Nat → Nat → Nat) (i : Nat) : Bool := zAll (fun j => !zRw f j i) i
def zCd (f : Nat → Nat → Nat) : Nat := zSum (fun i => (zNw f i).toNat) (f 0 3)
def zLr (f : Nat → Nat → Nat) (c : Nat) : Nat → Nat × Nat
  | 0 => (0, 0)
  | n + 1 => let r := if zBt (f 1 n) c = true then (zLr f c n).2 + 1 else 0; (max (zLr f c n).1 r, r)
def zSy (f : Nat → Nat → Nat) : Bool := zAll (fun i => zRw f i (f 0 3 - 1 - i)) (f 0 3)
def zKc (f : Nat → Nat → Nat) : Nat := zSum (fun i => zBc (f 3 i)) (f 0 3)
def zRc (f : Nat → Nat → Nat) : Nat := zSum (fun i => zBc (f 1 i)) (f 0 3)
/-- a row is appended -/
def zAp (f : Nat → Nat → Nat) (a b : Nat) : Nat → Nat → Nat := va_up (va_up (va_up (va_up f 1 (va_up (f 1) (f 0 3) a)) 2 (va_up (f 2) (f 0 3) b)) 3 (va_up (f 3) (f 0 3) 0)) 0 (va_up (f 0) 3 (f 0 3 + 1))
/-- n rows are appended, each a copy of the one r above -/
def zCp (f : Nat → Nat → Nat) (r : Nat) : Nat → Nat → Nat → Nat
  | 0 => f
  | n + 1 => zAp (zCp f r n) (zCp f r n 1 (zCp f r n 0 3 - r)) (zCp f r n 2 (zCp f r n 0 3 - r))
theorem zAp_c (f : Nat → Nat → Nat) (a b : Nat) : zAp f a b 0 3 = f 0 3 + 1 := by simp [zAp, va_up]
theorem zCp_c (f : Nat → Nat → Nat) (r : Nat) : ∀ n, zCp f r n 0 3 = f 0 3 + n
  | 0 => rfl
  | n + 1 => by rw [zCp, zAp_c, zCp_c f r n]; omega
theorem zAp_ok {f : Nat → Nat → Nat} (h : zKo f) {a b : Nat} (ha : a < 65536) (hb : b ≤ 7) (hc : f 0 3 < 40) : zKo (zAp f a b) := by
  refine ⟨by rw [zAp_c]; omega, fun i => ?_⟩
  have h2 := h.2 i
  refine ⟨?_, ?_, ?_⟩
  · show (if i = f 0 3 then a else f 1 i) < 65536
    split <;> omega
  · show (if i = f 0 3 then b else f 2 i) ≤ 7
    split <;> omega
  · show (if i = f 0 3 then 0 else f 3 i) < 65536
    split <;> omega
theorem zCp_ok {f : Nat → Nat → Nat} (h : zKo f) (r : Nat) : ∀ n, f 0 3 + n ≤ 40 → zKo (zCp f r n)
  | 0, _ => h
  | n + 1, hn => by
    have h1 := zCp_ok h r n (by omega)
    exact zAp_ok h1 (h1.2 _).1 (h1.2 _).2.1 (by rw [zCp_c]; omega)
theorem zBc_le (x : Nat) : zBc x ≤ 63 := Nat.and_le_right
theorem zSum_mono {q : Nat → Nat} {i n : Nat} (h : i ≤ n) : zSum q i ≤ zSum q n := by
  induction n with
  | zero => rw [Nat.le_zero.mp h]; exact Nat.le_refl _
  | succ n ih =>
    rcases Nat.lt_or_ge i (n + 1) with z | z
    · have := ih (by omega); rw [zSum]; omega
    · rw [show i = n + 1 by omega]; exact Nat.le_refl _
theorem ci_J6_bitCount_0f7a4 : zCI yJ6_bitCount_0f7a4 cJ6_bitCount_0f7a4 1 (some .int) 1 := ⟨k618, k22, by decide +kernel⟩
theorem cv_J6_bitCount_0f7a4 : Cond.static yJ6_bitCount_0f7a4 ∈ GW := k617
set_option maxRecDepth 20000 in
set_option maxHeartbeats 4000000 in
/-- Integer.bitCount(x) -/
theorem c_bitCount (l : Launch) (g : ZG) {B : Nat} (x : Nat) (hx : x < 2 ^ 31) {PH : Heap → Prop} : Met l yJ6_bitCount_0f7a4 (.code yJ6_bitCount_0f7a4 cJ6_bitCount_0f7a4 1 (some .int) :: GW) { frames := 0, cells := 0, slots := 0, locals := 0 } (va_Pc [.int (nI x)] (zPre g B (fun H => PH H))) (zR (some (.int (nI (zBc x))))) 0 0 (fun _ => False) := by
  refine zMet (by decide) (Nat.le_of_ble_eq_true rfl) ?_
  intro p e R s m args below meth c Q ls hR hargs hQ S hr hlk hP hZ hS hnm hl
  have hl : lv_has ls 1 [(0, .int (nI (x)))] := hl
  have ea := @Nat.and_le_left
  refine lv_iload_n S.1 S.2.1 dJ6_bitCount_0f7a4_0 rfl (lv_at hl 0 rfl) ?_
  refine lv_iload_n S.1 S.2.1 dJ6_bitCount_0f7a4_1 rfl (lv_at hl 0 rfl) ?_
  refine z_ic S (k := 1) dJ6_bitCount_0f7a4_2 (by decide) ?_
  refine z_ushr S (by omega) (by omega) dJ6_bitCount_0f7a4_3 ?_
  refine lv_ldcw S.1 S.2.1 S.2.2.2.1 (S.2.2.2.2 _ k619) dJ6_bitCount_0f7a4_4 ?_
  rw [show (1431655765 : Int32) = nI 1431655765 from rfl]
  refine z_and S dJ6_bitCount_0f7a4_7 ?_
  refine z_sub S (Nat.le_trans Nat.and_le_left (Nat.div_le_self _ _)) dJ6_bitCount_0f7a4_8 ?_
  generalize hd_a : x - ((x / 2 ^ 1) &&& 1431655765) = a
  have hb_a : a ≤ x := by omega
  refine lv_istore_n (lv' := [(0, .int (nI (a)))]) S.1 S.2.1 dJ6_bitCount_0f7a4_9 rfl hl (by decide) rfl (fun ls hl => ?_)
  refine lv_iload_n S.1 S.2.1 dJ6_bitCount_0f7a4_10 rfl (lv_at hl 0 rfl) ?_
  refine lv_ldcw S.1 S.2.1 S.2.2.2.1 (S.2.2.2.2 _ k620) dJ6_bitCount_0f7a4_11 ?_
  rw [show (858993459 : Int32) = nI 858993459 from rfl]
  refine z_and S dJ6_bitCount_0f7a4_14 ?_
  refine lv_iload_n S.1 S.2.1 dJ6_bitCount_0f7a4_15 rfl (lv_at hl 0 rfl) ?_
  refine z_ic S (k := 2) dJ6_bitCount_0f7a4_16 (by decide) ?_
  refine z_ushr S (by omega) (by omega) dJ6_bitCount_0f7a4_17 ?_
  refine lv_ldcw S.1 S.2.1 S.2.2.2.1 (S.2.2.2.2 _ k620) dJ6_bitCount_0f7a4_18 ?_
  rw [show (858993459 : Int32) = nI 858993459 from rfl]
  refine z_and S dJ6_bitCount_0f7a4_21 ?_
  refine z_add S dJ6_bitCount_0f7a4_22 ?_
  generalize hd_b : (a &&& 858993459) + ((a / 2 ^ 2) &&& 858993459) = b
  have hb_b : b ≤ 1717986918 := by have h1 := @Nat.and_le_right a 858993459; have h2 := @Nat.and_le_right (a / 2 ^ 2) 858993459; omega
  refine lv_istore_n (lv' := [(0, .int (nI (b)))]) S.1 S.2.1 dJ6_bitCount_0f7a4_23 rfl hl (by decide) rfl (fun ls hl => ?_)
  refine lv_iload_n S.1 S.2.1 dJ6_bitCount_0f7a4_24 rfl (lv_at hl 0 rfl) ?_
  refine lv_iload_n S.1 S.2.1 dJ6_bitCount_0f7a4_25 rfl (lv_at hl 0 rfl) ?_
  refine z_ic S (k := 4) dJ6_bitCount_0f7a4_26 (by decide) ?_
  refine z_ushr S (by omega) (by omega) dJ6_bitCount_0f7a4_27 ?_
  refine z_add S dJ6_bitCount_0f7a4_28 ?_
  refine lv_ldcw S.1 S.2.1 S.2.2.2.1 (S.2.2.2.2 _ k621) dJ6_bitCount_0f7a4_29 ?_
  rw [show (252645135 : Int32) = nI 252645135 from rfl]
  refine z_and S dJ6_bitCount_0f7a4_32 ?_
  generalize hd_c1 : (b + (b / 2 ^ 4)) &&& 252645135 = c1
  have hb_c1 : c1 ≤ 252645135 := by rw [← hd_c1]; exact Nat.and_le_right
  refine lv_istore_n (lv' := [(0, .int (nI (c1)))]) S.1 S.2.1 dJ6_bitCount_0f7a4_33 rfl hl (by decide) rfl (fun ls hl => ?_)
  refine lv_iload_n S.1 S.2.1 dJ6_bitCount_0f7a4_34 rfl (lv_at hl 0 rfl) ?_
  refine lv_iload_n S.1 S.2.1 dJ6_bitCount_0f7a4_35 rfl (lv_at hl 0 rfl) ?_
  refine z_bi S (k := 8) dJ6_bitCount_0f7a4_36 (by decide) ?_
  refine z_ushr S (by omega) (by omega) dJ6_bitCount_0f7a4_38 ?_
  refine z_add S dJ6_bitCount_0f7a4_39 ?_
  generalize hd_d1 : c1 + (c1 / 2 ^ 8) = d1
  have hb_d1 : d1 ≤ 505290270 := by omega
  refine lv_istore_n (lv' := [(0, .int (nI (d1)))]) S.1 S.2.1 dJ6_bitCount_0f7a4_40 rfl hl (by decide) rfl (fun ls hl => ?_)
  refine lv_iload_n S.1 S.2.1 dJ6_bitCount_0f7a4_41 rfl (lv_at hl 0 rfl) ?_
  refine lv_iload_n S.1 S.2.1 dJ6_bitCount_0f7a4_42 rfl (lv_at hl 0 rfl) ?_
  refine z_bi S (k := 16) dJ6_bitCount_0f7a4_43 (by decide) ?_
  refine z_ushr S (by omega) (by omega) dJ6_bitCount_0f7a4_45 ?_
  refine z_add S dJ6_bitCount_0f7a4_46 ?_
  refine lv_istore_n (lv' := [(0, .int (nI (d1 + (d1 / 2 ^ 16))))]) S.1 S.2.1 dJ6_bitCount_0f7a4_47 rfl hl (by decide) rfl (fun ls hl => ?_)
  refine lv_iload_n S.1 S.2.1 dJ6_bitCount_0f7a4_48 rfl (lv_at hl 0 rfl) ?_
  refine z_bi S (k := 63) dJ6_bitCount_0f7a4_49 (by decide) ?_
  refine z_and S dJ6_bitCount_0f7a4_51 ?_
  exact z_ri hQ S hr hlk (zn_int _) (by rw [← hd_d1, ← hd_c1, ← hd_b, ← hd_a]; rfl) dJ6_bitCount_0f7a4_52
theorem ci_X1_isColumn : zCI yX1_isColumn cX1_isColumn 1 (some .boolean) 1 := ⟨k409, k4, by decide +kernel⟩
theorem cv_X1_isColumn : Cond.static yX1_isColumn ∈ GW := k408
set_option maxRecDepth 20000 in
set_option maxHeartbeats 4000000 in
/-- Cloth.isColumn(i) -/
theorem c_X1_isColumn (l : Launch) (g : ZG) {B : Nat} (i : Nat) (hi : i < 2 ^ 31) {PH : Heap → Prop} : Met l yX1_isColumn (.code yX1_isColumn cX1_isColumn 1 (some .boolean) :: GW) { frames := 0, cells := 0, slots := 0, locals := 0 } (va_Pc [.int (nI i)] (zPre g B (fun H => PH H))) (zR (some (.int (nI (decide (i < 16)).toNat)))) 0 0 (fun _ => False) := by
  refine zMet (by decide) (Nat.le_of_ble_eq_true rfl) ?_
  intro p e R s m args below meth c Q ls hR hargs hQ S hr hlk hP hZ hS hnm hl
  have hl : lv_has ls 1 [(0, .int (nI (i)))] := hl
  refine lv_iload_n S.1 S.2.1 dX1_isColumn_0 rfl (lv_at hl 0 rfl) ?_
  refine z_ilt (tgt := 14) S hi dX1_isColumn_1 (by decide) ?_
  refine lv_iload_n S.1 S.2.1 dX1_isColumn_4 rfl (lv_at hl 0 rfl) ?_
  refine z_bi S (k := 16) dX1_isColumn_5 (by decide) ?_
  refine z_cge (tgt := 14) S hi (by omega) dX1_isColumn_7 (by decide) (fun h => ?_) (fun h => ?_)
  · refine z_ic S (k := 0) dX1_isColumn_14 (by decide) ?_
    exact z_ri hQ S hr hlk rfl (by rw [decide_eq_false (by omega)]; rfl) dX1_isColumn_15
  · refine z_ic S (k := 1) dX1_isColumn_10 (by decide) ?_
    refine lv_goto (tgt := 15) S.1 S.2.1 dX1_isColumn_11 (by decide) ?_
    exact z_ri hQ S hr hlk rfl (by rw [decide_eq_true (by omega)]; rfl) dX1_isColumn_15
theorem ci_X1_has : zCI yX1_has cX1_has 2 (some .boolean) 1 := ⟨k406, k4, by decide +kernel⟩
theorem cv_X1_has : Cond.instanceMethod yX1_has ∈ GW ∧ Cond.selects (yX1_has).cls yX1_has yX1_has ∈ GW := ⟨k404, k405⟩
set_option maxRecDepth 20000 in
set_option maxHeartbeats 4000000 in
/-- Cloth.has(i) -/
theorem c_X1_has (l : Launch) (g : ZG) {B : Nat} {o : Nat} (f : Nat → Nat → Nat) (hw : zKo f) (i : Nat) (hi : i < 2 ^ 31) : Met l yX1_has (.code yX1_has cX1_has 2 (some .boolean) :: GW) { frames := 0, cells := 0, slots := 0, locals := 0 } (va_Pc [.ref o, .int (nI i)] (zPre g B (fun H => zPm g o 4 TC f H))) (zR (some (.int (nI (decide (i < f 0 3)).toNat)))) 0 0 (fun _ => False) := by
  refine zMet (by decide) (Nat.le_of_ble_eq_true rfl) ?_
  intro p e R s m args below meth c Q ls hR hargs hQ S hr hlk hP hZ hS hnm hl
  have hl : lv_has ls 2 [(0, .ref (o)), (1, .int (nI (i)))] := hl
  refine lv_iload_n S.1 S.2.1 dX1_has_0 rfl (lv_at hl 1 rfl) ?_
  refine z_ilt (tgt := 16) S hi dX1_has_1 (by decide) ?_
  refine lv_iload_n S.1 S.2.1 dX1_has_4 rfl (lv_at hl 1 rfl) ?_
  refine lv_aload_n S.1 S.2.1 dX1_has_5 rfl (lv_at hl 0 rfl) ?_
  refine z_get (v := .int (nI (f 0 3))) S hZ.1 hP 0 (by decide) rfl rfl rfl 3 (by decide) rfl k87 dX1_has_6 ?_
  refine z_cge (tgt := 16) S hi hw.c dX1_has_9 (by decide) (fun h => ?_) (fun h => ?_)
  · refine z_ic S (k := 0) dX1_has_16 (by decide) ?_
    exact z_ri hQ S hr hlk rfl (by rw [decide_eq_false (by omega)]; rfl) dX1_has_17
  · refine z_ic S (k := 1) dX1_has_12 (by decide) ?_
    refine lv_goto (tgt := 17) S.1 S.2.1 dX1_has_13 (by decide) ?_
    exact z_ri hQ S hr hlk rfl (by rw [decide_eq_true (by omega)]; rfl) dX1_has_17
theorem ci_X1_hasCell : zCI yX1_hasCell cX1_hasCell 3 (some .boolean) 2 := ⟨k402, k4, by decide +kernel⟩
theorem cv_X1_hasCell : Cond.instanceMethod yX1_hasCell ∈ GW ∧ Cond.selects (yX1_hasCell).cls yX1_hasCell yX1_hasCell ∈ GW := ⟨k400, k401⟩
set_option maxRecDepth 20000 in
set_option maxHeartbeats 4000000 in
/-- Cloth.hasCell(i, j) -/
theorem c_X1_hasCell (l : Launch) (g : ZG) {B : Nat} {o : Nat} (f : Nat → Nat → Nat) (hw : zKo f) (i j : Nat) (hi : i < 2 ^ 31) (hj : j < 2 ^ 31) : Met l yX1_hasCell (.code yX1_hasCell cX1_hasCell 3 (some .boolean) :: GW) { frames := 1, cells := 0, slots := 0, locals := 21 } (va_Pc [.ref o, .int (nI i), .int (nI j)] (zPre g B (fun H => zPm g o 4 TC f H))) (zR (some (.int (nI (decide (i < f 0 3 ∧ j < 16)).toNat)))) 0 0 (fun _ => False) := by
  refine zMet (by decide) (Nat.le_of_ble_eq_true rfl) ?_
  intro p e R s m args below meth c Q ls hR hargs hQ S hr hlk hP hZ hS hnm hl
  have hl : lv_has ls 3 [(0, .ref (o)), (1, .int (nI (i))), (2, .int (nI (j)))] := hl
  refine lv_aload_n S.1 S.2.1 dX1_hasCell_0 rfl (lv_at hl 0 rfl) ?_
  refine lv_iload_n S.1 S.2.1 dX1_hasCell_1 rfl (lv_at hl 1 rfl) ?_
  refine z_cV (v := some (.int (nI (decide (i < f 0 3)).toNat))) (rest := []) (As := [.int (nI (i))]) S hZ hS (c_X1_has l g f hw i hi) ci_X1_has cv_X1_has k403 ⟨rfl, rfl, by rw [hR]; decide, by rw [hR]; decide⟩ hP (hP.recv hZ.1 0 (by decide) rfl rfl rfl) hl.1 rfl (Nat.le_of_ble_eq_true rfl) dX1_hasCell_2 ⟨by rw [hR]; decide, by rw [hR]; decide⟩ rfl ?_
  refine z_beq (tgt := 19) S dX1_hasCell_5 (by decide) (fun h1 => ?_) (fun h1 => ?_)
  · refine z_ic S (k := 0) dX1_hasCell_19 (by decide) ?_
    exact z_ri hQ S hr hlk rfl (by rw [decide_eq_false (fun z => by have := of_decide_eq_false h1; omega)]; rfl) dX1_hasCell_20
  · refine lv_iload_n S.1 S.2.1 dX1_hasCell_8 rfl (lv_at hl 2 rfl) ?_
    refine z_cS (v := some (.int (nI (decide (j < 16)).toNat))) (rest := []) (As := [.int (nI (j))]) S hZ hS (c_X1_isColumn l g j hj (PH := fun H => zPm g o 4 TC f H)) ci_X1_isColumn cv_X1_isColumn k407 ⟨rfl, rfl, by rw [hR]; decide, by rw [hR]; decide⟩ hP hl.1 rfl (Nat.le_of_ble_eq_true rfl) dX1_hasCell_9 ⟨by rw [hR]; decide, by rw [hR]; decide⟩ rfl ?_
    refine z_beq (tgt := 19) S dX1_hasCell_12 (by decide) (fun h2 => ?_) (fun h2 => ?_)
    · refine z_ic S (k := 0) dX1_hasCell_19 (by decide) ?_
      exact z_ri hQ S hr hlk rfl (by rw [decide_eq_false (fun z => by have := of_decide_eq_false h2; omega)]; rfl) dX1_hasCell_20
    · refine z_ic S (k := 1) dX1_hasCell_15 (by decide) ?_
      refine lv_goto (tgt := 20) S.1 S.2.1 dX1_hasCell_16 (by decide) ?_
      exact z_ri hQ S hr hlk rfl (by rw [decide_eq_true ⟨of_decide_eq_true h1, of_decide_eq_true h2⟩]; rfl) dX1_hasCell_20
theorem ci_X1_raisedAt : zCI yX1_raisedAt cX1_raisedAt 3 (some .boolean) 2 := ⟨k1072, k4, by decide +kernel⟩
theorem cv_X1_raisedAt : Cond.instanceMethod yX1_raisedAt ∈ GW ∧ Cond.selects (yX1_raisedAt).cls yX1_raisedAt yX1_raisedAt ∈ GW := ⟨k1070, k1071⟩
set_option maxRecDepth 20000 in
set_option maxHeartbeats 4000000 in
/-- Cloth.raisedAt(i, j) -/
theorem c_X1_raisedAt (l : Launch) (g : ZG) {B : Nat} {o : Nat} (f : Nat → Nat → Nat) (hw : zKo f) (i j : Nat) (hi : i < f 0 3) (hj : j < 16) : Met l yX1_raisedAt (.code yX1_raisedAt cX1_raisedAt 3 (some .boolean) :: GW) { frames := 0, cells := 0, slots := 0, locals := 0 } (va_Pc [.ref o, .int (nI i), .int (nI j)] (zPre g B (fun H => zPm g o 4 TC f H))) (zR (some (.int (nI (zBt (f 1 i) j).toNat)))) 0 0 (fun _ => False) := by
  refine zMet (by decide) (Nat.le_of_ble_eq_true rfl) ?_
  intro p e R s m args below meth c Q ls hR hargs hQ S hr hlk hP hZ hS hnm hl
  have hl : lv_has ls 3 [(0, .ref (o)), (1, .int (nI (i))), (2, .int (nI (j)))] := hl
  refine lv_aload_n S.1 S.2.1 dX1_raisedAt_0 rfl (lv_at hl 0 rfl) ?_
  refine z_get (v := .ref (o + 1)) S hZ.1 hP 0 (by decide) rfl rfl rfl 0 (by decide) rfl k81 dX1_raisedAt_1 ?_
  refine lv_iload_n S.1 S.2.1 dX1_raisedAt_4 rfl (lv_at hl 1 rfl) ?_
  refine z_iald S hZ.1 hP 1 (by decide) rfl rfl (i := i) (by have := hw.1; omega) (by decide) dX1_raisedAt_5 ?_
  refine lv_iload_n S.1 S.2.1 dX1_raisedAt_6 rfl (lv_at hl 2 rfl) ?_
  refine z_shr S (hw.m i) (by omega) dX1_raisedAt_7 ?_
  refine z_ic S (k := 1) dX1_raisedAt_8 (by decide) ?_
  refine z_and S dX1_raisedAt_9 ?_
  rw [zBt_and]
  refine z_beq (tgt := 17) S dX1_raisedAt_10 (by decide) (fun h1 => ?_) (fun h1 => ?_)
  · refine z_ic S (k := 0) dX1_raisedAt_17 (by decide) ?_
    exact z_ri hQ S hr hlk rfl (by rw [h1]; rfl) dX1_raisedAt_18
  · refine z_ic S (k := 1) dX1_raisedAt_13 (by decide) ?_
    refine lv_goto (tgt := 18) S.1 S.2.1 dX1_raisedAt_14 (by decide) ?_
    exact z_ri hQ S hr hlk rfl (by rw [h1]; rfl) dX1_raisedAt_18
theorem ci_X1_knottedAt : zCI yX1_knottedAt cX1_knottedAt 3 (some .boolean) 2 := ⟨k413, k4, by decide +kernel⟩
theorem cv_X1_knottedAt : Cond.instanceMethod yX1_knottedAt ∈ GW ∧ Cond.selects (yX1_knottedAt).cls yX1_knottedAt yX1_knottedAt ∈ GW := ⟨k411, k412⟩
set_option maxRecDepth 20000 in
set_option maxHeartbeats 4000000 in
/-- Cloth.knottedAt(i, j) -/
theorem c_X1_knottedAt (l : Launch) (g : ZG) {B : Nat} {o : Nat} (f : Nat → Nat → Nat) (hw : zKo f) (i j : Nat) (hi : i < f 0 3) (hj : j < 16) : Met l yX1_knottedAt (.code yX1_knottedAt cX1_knottedAt 3 (some .boolean) :: GW) { frames := 0, cells := 0, slots := 0, locals := 0 } (va_Pc [.ref o, .int (nI i), .int (nI j)] (zPre g B (fun H => zPm g o 4 TC f H))) (zR (some (.int (nI (zBt (f 3 i) j).toNat)))) 0 0 (fun _ => False) := by
  refine zMet (by decide) (Nat.le_of_ble_eq_true rfl) ?_
  intro p e R s m args below meth c Q ls hR hargs hQ S hr hlk hP hZ hS hnm hl
  have hl : lv_has ls 3 [(0, .ref (o)), (1, .int (nI (i))), (2, .int (nI (j)))] := hl
  refine lv_aload_n S.1 S.2.1 dX1_knottedAt_0 rfl (lv_at hl 0 rfl) ?_
  refine z_get (v := .ref (o + 3)) S hZ.1 hP 0 (by decide) rfl rfl rfl 2 (by decide) rfl k86 dX1_knottedAt_1 ?_
  refine lv_iload_n S.1 S.2.1 dX1_knottedAt_4 rfl (lv_at hl 1 rfl) ?_
  refine z_iald S hZ.1 hP 3 (by decide) rfl rfl (i := i) (by have := hw.1; omega) (by decide) dX1_knottedAt_5 ?_
  refine lv_iload_n S.1 S.2.1 dX1_knottedAt_6 rfl (lv_at hl 2 rfl) ?_
  refine z_shr S (hw.k i) (by omega) dX1_knottedAt_7 ?_
  refine z_ic S (k := 1) dX1_knottedAt_8 (by decide) ?_
  refine z_and S dX1_knottedAt_9 ?_
  rw [zBt_and]
  refine z_beq (tgt := 17) S dX1_knottedAt_10 (by decide) (fun h1 => ?_) (fun h1 => ?_)
  · refine z_ic S (k := 0) dX1_knottedAt_17 (by decide) ?_
    exact z_ri hQ S hr hlk rfl (by rw [h1]; rfl) dX1_knottedAt_18
  · refine z_ic S (k := 1) dX1_knottedAt_13 (by decide) ?_
    refine lv_goto (tgt := 18) S.1 S.2.1 dX1_knottedAt_14 (by decide) ?_
    exact z_ri hQ S hr hlk rfl (by rw [h1]; rfl) dX1_knottedAt_18
theorem ci_X1_append : zCI yX1_append cX1_append 3 none 2 := ⟨k587, k4, by decide +kernel⟩
theorem cv_X1_append : Cond.instanceMethod yX1_append ∈ GW ∧ Cond.selects (yX1_append).cls yX1_append yX1_append ∈ GW := ⟨k585, k586⟩
set_option maxRecDepth 20000 in
set_option maxHeartbeats 4000000 in
/-- Cloth.append(a, b) -/
theorem c_X1_append (l : Launch) (g : ZG) {B : Nat} {o : Nat} (hB : B ≤ o) (f : Nat → Nat → Nat) (hw : zKo f) (a b : Nat) (hc : f 0 3 < 40) : Met l yX1_append (.code yX1_append cX1_append 3 none :: GW) { frames := 0, cells := 0, slots := 0, locals := 0 } (va_Pc [.ref o, .int (nI a), .int (nI b)] (zPre g B (fun H => zPm g o 4 TC f H))) (zX (fun v H => v = none ∧ zPm g o 4 TC (zAp f a b) H) o 4) 0 0 (zA B) := by
  refine zMet (by decide) (Nat.le_of_ble_eq_true rfl) ?_
  intro p e R s m args below meth c Q ls hR hargs hQ S hr hlk hP hZ hS hnm hl
  have hl : lv_has ls 3 [(0, .ref (o)), (1, .int (nI (a))), (2, .int (nI (b)))] := hl
  have hC : zCh1 o 4 s.heap s.heap := zCh1.rf
  refine lv_aload_n S.1 S.2.1 dX1_append_0 rfl (lv_at hl 0 rfl) ?_
  refine z_get (v := .ref (o + 1)) S hZ.1 hP 0 (by decide) rfl rfl rfl 0 (by decide) rfl k81 dX1_append_1 ?_
  refine lv_aload_n S.1 S.2.1 dX1_append_4 rfl (lv_at hl 0 rfl) ?_
  refine z_get (v := .int (nI (f 0 3))) S hZ.1 hP 0 (by decide) rfl rfl rfl 3 (by decide) rfl k87 dX1_append_5 ?_
  refine lv_iload_n S.1 S.2.1 dX1_append_8 rfl (lv_at hl 1 rfl) ?_
  refine z_iast S hZ.1 hP hS hB 1 (by decide) rfl rfl (i := (f 0 3)) (x := a) rfl (by omega) (by decide) dX1_append_9 (fun H1 locs1 hPn hCn hSn => ?_)
  have hP := hPn; have hS := hSn; have hC := hC.tr (hCn.mono (b := o) (k := 4) (by omega) (by omega))
  refine lv_aload_n S.1 S.2.1 dX1_append_10 rfl (lv_at hl 0 rfl) ?_
  refine z_get (v := .ref (o + 2)) S hZ.1 hP 0 (by decide) rfl rfl rfl 1 (by decide) rfl k83 dX1_append_11 ?_
  refine lv_aload_n S.1 S.2.1 dX1_append_14 rfl (lv_at hl 0 rfl) ?_
  refine z_get (v := .int (nI (f 0 3))) S hZ.1 hP 0 (by decide) rfl rfl rfl 3 (by decide) rfl k87 dX1_append_15 ?_
  refine lv_iload_n S.1 S.2.1 dX1_append_18 rfl (lv_at hl 2 rfl) ?_
  refine z_iast S hZ.1 hP hS hB 2 (by decide) rfl rfl (i := (f 0 3)) (x := b) rfl (by omega) (by decide) dX1_append_19 (fun H1 locs1 hPn hCn hSn => ?_)
  have hP := hPn; have hS := hSn; have hC := hC.tr (hCn.mono (b := o) (k := 4) (by omega) (by omega))
  refine lv_aload_n S.1 S.2.1 dX1_append_20 rfl (lv_at hl 0 rfl) ?_
  refine z_get (v := .ref (o + 3)) S hZ.1 hP 0 (by decide) rfl rfl rfl 2 (by decide) rfl k86 dX1_append_21 ?_
  refine lv_aload_n S.1 S.2.1 dX1_append_24 rfl (lv_at hl 0 rfl) ?_
  refine z_get (v := .int (nI (f 0 3))) S hZ.1 hP 0 (by decide) rfl rfl rfl 3 (by decide) rfl k87 dX1_append_25 ?_
  refine z_ic S (k := 0) dX1_append_28 (by decide) ?_
  refine z_iast S hZ.1 hP hS hB 3 (by decide) rfl rfl (i := (f 0 3)) (x := 0) rfl (by omega) (by decide) dX1_append_29 (fun H1 locs1 hPn hCn hSn => ?_)
  have hP := hPn; have hS := hSn; have hC := hC.tr (hCn.mono (b := o) (k := 4) (by omega) (by omega))
  refine lv_aload_n S.1 S.2.1 dX1_append_30 rfl (lv_at hl 0 rfl) ?_
  refine lv_dup S.1 S.2.1 dX1_append_31 rfl ?_
  refine z_get (v := .int (nI (f 0 3))) S hZ.1 hP 0 (by decide) rfl rfl rfl 3 (by decide) rfl k87 dX1_append_32 ?_
  refine z_ic S (k := 1) dX1_append_35 (by decide) ?_
  refine z_add S dX1_append_36 ?_
  refine z_put (v := .int (nI ((f 0 3) + 1))) (ty := .int) S hZ.1 hP hS hB 0 (by decide) rfl rfl rfl 3 (by decide) (va_up ((va_up (va_up (va_up f 1 (va_up (f 1) (f 0 3) a)) 2 (va_up ((va_up f 1 (va_up (f 1) (f 0 3) a)) 2) (f 0 3) b)) 3 (va_up ((va_up (va_up f 1 (va_up (f 1) (f 0 3) a)) 2 (va_up ((va_up f 1 (va_up (f 1) (f 0 3) a)) 2) (f 0 3) b)) 3) (f 0 3) 0)) 0) 3 ((f 0 3) + 1)) rfl k87 rfl (by decide +kernel) rfl rfl (Nat.le_of_ble_eq_true rfl) dX1_append_37 (fun H1 locs1 hPn hCn hSn => ?_)
  have hP := hPn; have hS := hSn; have hC := hC.tr (hCn.mono (b := o) (k := 4) (by omega) (by omega))
  exact z_wv hQ S hr hlk hS hC ⟨rfl, hP⟩ dX1_append_40
theorem ci_X1_removeLast : zCI yX1_removeLast cX1_removeLast 2 (some .int) 1 := ⟨k602, k4, by decide +kernel⟩
theorem cv_X1_removeLast : Cond.instanceMethod yX1_removeLast ∈ GW ∧ Cond.selects (yX1_removeLast).cls yX1_removeLast yX1_removeLast ∈ GW := ⟨k600, k601⟩
set_option maxRecDepth 20000 in
set_option maxHeartbeats 4000000 in
/-- Cloth.removeLast(r) -/
theorem c_X1_removeLast (l : Launch) (g : ZG) {B : Nat} {o : Nat} (hB : B ≤ o) (f : Nat → Nat → Nat) (hw : zKo f) (r : Nat) (h9 : r ≤ f 0 3) : Met l yX1_removeLast (.code yX1_removeLast cX1_removeLast 2 (some .int) :: GW) { frames := 0, cells := 0, slots := 0, locals := 0 } (va_Pc [.ref o, .int (nI r)] (zPre g B (fun H => zPm g o 4 TC f H))) (zX (fun v H => v = some (.int (nI (f 0 3 - r))) ∧ zPm g o 4 TC (va_up f 0 (va_up (f 0) 3 (f 0 3 - r))) H) o 4) 0 0 (zA B) := by
  refine zMet (by decide) (Nat.le_of_ble_eq_true rfl) ?_
  intro p e R s m args below meth c Q ls hR hargs hQ S hr hlk hP hZ hS hnm hl
  have hl : lv_has ls 2 [(0, .ref (o)), (1, .int (nI (r)))] := hl
  have hC : zCh1 o 4 s.heap s.heap := zCh1.rf
  refine lv_aload_n S.1 S.2.1 dX1_removeLast_0 rfl (lv_at hl 0 rfl) ?_
  refine lv_dup S.1 S.2.1 dX1_removeLast_1 rfl ?_
  refine z_get (v := .int (nI (f 0 3))) S hZ.1 hP 0 (by decide) rfl rfl rfl 3 (by decide) rfl k87 dX1_removeLast_2 ?_
  refine lv_iload_n S.1 S.2.1 dX1_removeLast_5 rfl (lv_at hl 1 rfl) ?_
  refine z_sub S h9 dX1_removeLast_6 ?_
  refine z_put (v := .int (nI ((f 0 3) - r))) (ty := .int) S hZ.1 hP hS hB 0 (by decide) rfl rfl rfl 3 (by decide) (va_up (f 0) 3 ((f 0 3) - r)) rfl k87 rfl (by decide +kernel) rfl rfl (Nat.le_of_ble_eq_true rfl) dX1_removeLast_7 (fun H1 locs1 hPn hCn hSn => ?_)
  have hP := hPn; have hS := hSn; have hC := hC.tr (hCn.mono (b := o) (k := 4) (by omega) (by omega))
  refine lv_aload_n S.1 S.2.1 dX1_removeLast_10 rfl (lv_at hl 0 rfl) ?_
  refine z_get (v := .int (nI (f 0 3 - r))) S hZ.1 hP 0 (by decide) rfl rfl rfl 3 (by decide) rfl k87 dX1_removeLast_11 ?_
  exact z_wi hQ S hr hlk (zn_int _) hS hC ⟨rfl, hP⟩ dX1_removeLast_14
theorem ci_X1_countKnots : zCI yX1_countKnots cX1_countKnots 3 (some .int) 0 := ⟨k615, k4, by decide +kernel⟩
theorem cv_X1_countKnots : Cond.instanceMethod yX1_countKnots ∈ GW ∧ Cond.selects (yX1_countKnots).cls yX1_countKnots yX1_countKnots ∈ GW := ⟨k613, k614⟩
set_option maxRecDepth 20000 in
set_option maxHeartbeats 4000000 in
/-- Cloth.countKnots() -/
theorem c_X1_countKnots (l : Launch) (g : ZG) {B : Nat} {o : Nat} (f : Nat → Nat → Nat) (hw : zKo f) : Met l yX1_countKnots (.code yX1_countKnots cX1_countKnots 3 (some .int) :: GW) { frames := 1, cells := 0, slots := 0, locals := 20 } (va_Pc [.ref o] (zPre g B (fun H => zPm g o 4 TC f H))) (zR (some (.int (nI (zKc f))))) 0 0 (fun _ => False) := by
  refine zMet (by decide) (Nat.le_of_ble_eq_true rfl) ?_
  intro p e R s m args below meth c Q ls hR hargs hQ S hr hlk hP hZ hS hnm hl
  have hl : lv_has ls 3 [(0, .ref (o))] := hl
  refine z_ic S (k := 0) dX1_countKnots_0 (by decide) ?_
  refine lv_istore_n (lv' := [(1, .int (nI (0))), (0, .ref (o))]) S.1 S.2.1 dX1_countKnots_1 rfl hl (by decide) rfl (fun ls hl => ?_)
  refine z_ic S (k := 0) dX1_countKnots_2 (by decide) ?_
  refine lv_istore_n (lv' := [(2, .int (nI (0))), (1, .int (nI (0))), (0, .ref (o))]) S.1 S.2.1 dX1_countKnots_3 rfl hl (by decide) rfl (fun ls hl => ?_)
  have loop : ∀ (n i x : Nat) (ls : Array Slot), (i ≤ f 0 3) → (f 0 3 < i + n) → (x = zSum (fun i => zBc (f 3 i)) i) → lv_has ls 3 [(0, .ref (o)), (1, .int (nI (x))), (2, .int (nI (i)))] → W p l e R s m args below meth c s.heap [] 0 0 Q (F0 m 4 ls []) := by
    intro n
    induction n with
    | zero => intro i x ls h1 h2 hx hl; exact absurd h2 (by omega)
    | succ n ih =>
      intro i x ls h1 h2 hx hl
      refine lv_iload_n S.1 S.2.1 dX1_countKnots_4 rfl (lv_at hl 2 rfl) ?_
      refine lv_aload_n S.1 S.2.1 dX1_countKnots_5 rfl (lv_at hl 0 rfl) ?_
      refine z_get (v := .int (nI (f 0 3))) S hZ.1 hP 0 (by decide) rfl rfl rfl 3 (by decide) rfl k87 dX1_countKnots_6 ?_
      refine z_cge (tgt := 30) S (by have := hw.1; omega) hw.c dX1_countKnots_9 (by decide) (fun h4 => ?_) (fun h4 => ?_)
      · refine lv_iload_n S.1 S.2.1 dX1_countKnots_30 rfl (lv_at hl 1 rfl) ?_
        obtain rfl : i = f 0 3 := by omega
        exact z_ri hQ S hr hlk (zn_int _) (by rw [hx]; rfl) dX1_countKnots_31
      · refine lv_iload_n S.1 S.2.1 dX1_countKnots_12 rfl (lv_at hl 1 rfl) ?_
        refine lv_aload_n S.1 S.2.1 dX1_countKnots_13 rfl (lv_at hl 0 rfl) ?_
        refine z_get (v := .ref (o + 3)) S hZ.1 hP 0 (by decide) rfl rfl rfl 2 (by decide) rfl k86 dX1_countKnots_14 ?_
        refine lv_iload_n S.1 S.2.1 dX1_countKnots_17 rfl (lv_at hl 2 rfl) ?_
        refine z_iald S hZ.1 hP 3 (by decide) rfl rfl (i := i) (by have := hw.1; omega) (by decide) dX1_countKnots_18 ?_
        refine z_cS (v := some (.int (nI (zBc (f 3 i))))) (rest := [.int (nI (x))]) (As := [.int (nI (f 3 i))]) S hZ hS (c_bitCount l g (f 3 i) (hw.k i) (PH := fun H => zPm g o 4 TC f H)) ci_J6_bitCount_0f7a4 cv_J6_bitCount_0f7a4 k616 ⟨rfl, rfl, by rw [hR]; decide, by rw [hR]; decide⟩ hP hl.1 rfl (Nat.le_of_ble_eq_true rfl) dX1_countKnots_19 ⟨by rw [hR]; decide, by rw [hR]; decide⟩ rfl ?_
        refine z_add S dX1_countKnots_22 ?_
        refine lv_istore_n (lv' := [(1, .int (nI (x + (zBc (f 3 i))))), (0, .ref (o)), (2, .int (nI (i)))]) S.1 S.2.1 dX1_countKnots_23 rfl hl (by decide) rfl (fun ls hl => ?_)
        refine z_inc S (lv' := [(2, .int (nI (i + 1))), (1, .int (nI (x + (zBc (f 3 i))))), (0, .ref (o))]) (k := 2) (b := 1) dX1_countKnots_24 hl rfl (by decide) (by decide) rfl (fun ls hl => ?_)
        refine lv_goto (tgt := 4) S.1 S.2.1 dX1_countKnots_27 (by decide) ?_
        exact ih (i + 1) (x + zBc (f 3 i)) ls (by omega) (by omega) (by rw [zSum, hx]) (lv_sub hl [2, 1, 0] rfl)
  exact loop (f 0 3 + 1) 0 0 ls (Nat.zero_le _) (by omega) rfl (lv_sub hl [2, 1, 0] rfl)
theorem ci_X1_countRaised : zCI yX1_countRaised cX1_countRaised 3 (some .int) 0 := ⟨k1149, k4, by decide +kernel⟩
theorem cv_X1_countRaised : Cond.instanceMethod yX1_countRaised ∈ GW ∧ Cond.selects (yX1_countRaised).cls yX1_countRaised yX1_countRaised ∈ GW := ⟨k1147, k1148⟩
set_option maxRecDepth 20000 in
set_option maxHeartbeats 4000000 in
/-- Cloth.countRaised() -/
theorem c_X1_countRaised (l : Launch) (g : ZG) {B : Nat} {o : Nat} (f : Nat → Nat → Nat) (hw : zKo f) : Met l yX1_countRaised (.code yX1_countRaised cX1_countRaised 3 (some .int) :: GW) { frames := 1, cells := 0, slots := 0, locals := 20 } (va_Pc [.ref o] (zPre g B (fun H => zPm g o 4 TC f H))) (zR (some (.int (nI (zRc f))))) 0 0 (fun _ => False) := by
  refine zMet (by decide) (Nat.le_of_ble_eq_true rfl) ?_
  intro p e R s m args below meth c Q ls hR hargs hQ S hr hlk hP hZ hS hnm hl
  have hl : lv_has ls 3 [(0, .ref (o))] := hl
  refine z_ic S (k := 0) dX1_countRaised_0 (by decide) ?_
  refine lv_istore_n (lv' := [(1, .int (nI (0))), (0, .ref (o))]) S.1 S.2.1 dX1_countRaised_1 rfl hl (by decide) rfl (fun ls hl => ?_)
  refine z_ic S (k := 0) dX1_countRaised_2 (by decide) ?_
  refine lv_istore_n (lv' := [(2, .int (nI (0))), (1, .int (nI (0))), (0, .ref (o))]) S.1 S.2.1 dX1_countRaised_3 rfl hl (by decide) rfl (fun ls hl => ?_)
  have loop : ∀ (n i x : Nat) (ls : Array Slot), (i ≤ f 0 3) → (f 0 3 < i + n) → (x = zSum (fun i => zBc (f 1 i)) i) → lv_has ls 3 [(0, .ref (o)), (1, .int (nI (x))), (2, .int (nI (i)))] → W p l e R s m args below meth c s.heap [] 0 0 Q (F0 m 4 ls []) := by
    intro n
    induction n with
    | zero => intro i x ls h1 h2 hx hl; exact absurd h2 (by omega)
    | succ n ih =>
      intro i x ls h1 h2 hx hl
      refine lv_iload_n S.1 S.2.1 dX1_countRaised_4 rfl (lv_at hl 2 rfl) ?_
      refine lv_aload_n S.1 S.2.1 dX1_countRaised_5 rfl (lv_at hl 0 rfl) ?_
      refine z_get (v := .int (nI (f 0 3))) S hZ.1 hP 0 (by decide) rfl rfl rfl 3 (by decide) rfl k87 dX1_countRaised_6 ?_
      refine z_cge (tgt := 30) S (by have := hw.1; omega) hw.c dX1_countRaised_9 (by decide) (fun h4 => ?_) (fun h4 => ?_)
      · refine lv_iload_n S.1 S.2.1 dX1_countRaised_30 rfl (lv_at hl 1 rfl) ?_
        obtain rfl : i = f 0 3 := by omega
        exact z_ri hQ S hr hlk (zn_int _) (by rw [hx]; rfl) dX1_countRaised_31
      · refine lv_iload_n S.1 S.2.1 dX1_countRaised_12 rfl (lv_at hl 1 rfl) ?_
        refine lv_aload_n S.1 S.2.1 dX1_countRaised_13 rfl (lv_at hl 0 rfl) ?_
        refine z_get (v := .ref (o + 1)) S hZ.1 hP 0 (by decide) rfl rfl rfl 0 (by decide) rfl k81 dX1_countRaised_14 ?_
        refine lv_iload_n S.1 S.2.1 dX1_countRaised_17 rfl (lv_at hl 2 rfl) ?_
        refine z_iald S hZ.1 hP 1 (by decide) rfl rfl (i := i) (by have := hw.1; omega) (by decide) dX1_countRaised_18 ?_
        refine z_cS (v := some (.int (nI (zBc (f 1 i))))) (rest := [.int (nI (x))]) (As := [.int (nI (f 1 i))]) S hZ hS (c_bitCount l g (f 1 i) (hw.m i) (PH := fun H => zPm g o 4 TC f H)) ci_J6_bitCount_0f7a4 cv_J6_bitCount_0f7a4 k616 ⟨rfl, rfl, by rw [hR]; decide, by rw [hR]; decide⟩ hP hl.1 rfl (Nat.le_of_ble_eq_true rfl) dX1_countRaised_19 ⟨by rw [hR]; decide, by rw [hR]; decide⟩ rfl ?_
        refine z_add S dX1_countRaised_22 ?_
        refine lv_istore_n (lv' := [(1, .int (nI (x + (zBc (f 1 i))))), (0, .ref (o)), (2, .int (nI (i)))]) S.1 S.2.1 dX1_countRaised_23 rfl hl (by decide) rfl (fun ls hl => ?_)
        refine z_inc S (lv' := [(2, .int (nI (i + 1))), (1, .int (nI (x + (zBc (f 1 i))))), (0, .ref (o))]) (k := 2) (b := 1) dX1_countRaised_24 hl rfl (by decide) (by decide) rfl (fun ls hl => ?_)
        refine lv_goto (tgt := 4) S.1 S.2.1 dX1_countRaised_27 (by decide) ?_
        exact ih (i + 1) (x + zBc (f 1 i)) ls (by omega) (by omega) (by rw [zSum, hx]) (lv_sub hl [2, 1, 0] rfl)
  exact loop (f 0 3 + 1) 0 0 ls (Nat.zero_le _) (by omega) rfl (lv_sub hl [2, 1, 0] rfl)
/-- a knot is tied or untied -/
def zFk (f : Nat → Nat → Nat) (i j : Nat) : Nat → Nat → Nat := va_up f 3 (va_up (f 3) i (f 3 i ^^^ 1 * 2 ^ j))
theorem zFk_ok {f : Nat → Nat → Nat} (h : zKo f) (i : Nat) {j : Nat} (hj : j < 16) : zKo (zFk f i j) := by
  refine ⟨h.1, fun k => ⟨(h.2 k).1, (h.2 k).2.1, ?_⟩⟩
  show (if k = i then f 3 i ^^^ 1 * 2 ^ j else f 3 k) < 65536
  split
  · rw [Nat.one_mul]
    exact Nat.xor_lt_two_pow (n := 16) (h.2 i).2.2 (Nat.pow_lt_pow_right (by omega) hj)
  · exact (h.2 k).2.2
theorem ci_X1_flipKnot : zCI yX1_flipKnot cX1_flipKnot 3 (some .int) 2 := ⟨k611, k4, by decide +kernel⟩
theorem cv_X1_flipKnot : Cond.instanceMethod yX1_flipKnot ∈ GW ∧ Cond.selects (yX1_flipKnot).cls yX1_flipKnot yX1_flipKnot ∈ GW := ⟨k609, k610⟩
set_option maxRecDepth 20000 in
set_option maxHeartbeats 4000000 in
/-- Cloth.flipKnot(i, j) -/
theorem c_X1_flipKnot (l : Launch) (g : ZG) {B : Nat} {o : Nat} (hB : B ≤ o) (f : Nat → Nat → Nat) (hw : zKo f) (i j : Nat) (hi : i < f 0 3) (hj : j < 16) : Met l yX1_flipKnot (.code yX1_flipKnot cX1_flipKnot 3 (some .int) :: GW) { frames := 2, cells := 0, slots := 0, locals := 42 } (va_Pc [.ref o, .int (nI i), .int (nI j)] (zPre g B (fun H => zPm g o 4 TC f H))) (zX (fun v H => v = some (.int (nI (zKc (zFk f i j)))) ∧ zPm g o 4 TC (zFk f i j) H) o 4) 0 0 (zA B) := by
  refine zMet (by decide) (Nat.le_of_ble_eq_true rfl) ?_
  intro p e R s m args below meth c Q ls hR hargs hQ S hr hlk hP hZ hS hnm hl
  have hl : lv_has ls 3 [(0, .ref (o)), (1, .int (nI (i))), (2, .int (nI (j)))] := hl
  have hC : zCh1 o 4 s.heap s.heap := zCh1.rf
  refine lv_aload_n S.1 S.2.1 dX1_flipKnot_0 rfl (lv_at hl 0 rfl) ?_
  refine z_get (v := .ref (o + 3)) S hZ.1 hP 0 (by decide) rfl rfl rfl 2 (by decide) rfl k86 dX1_flipKnot_1 ?_
  refine lv_iload_n S.1 S.2.1 dX1_flipKnot_4 rfl (lv_at hl 1 rfl) ?_
  refine lv_dup2_11 S.1 S.2.1 dX1_flipKnot_5 rfl rfl ?_
  refine z_iald S hZ.1 hP 3 (by decide) rfl rfl (i := i) (by have := hw.1; omega) (by decide) dX1_flipKnot_6 ?_
  refine z_ic S (k := 1) dX1_flipKnot_7 (by decide) ?_
  refine lv_iload_n S.1 S.2.1 dX1_flipKnot_8 rfl (lv_at hl 2 rfl) ?_
  refine z_shl S (by omega) (by have := Nat.pow_le_pow_right (n := 2) (by omega) (show j ≤ 15 by omega); omega) dX1_flipKnot_9 ?_
  refine z_xor S dX1_flipKnot_10 ?_
  refine z_iast S hZ.1 hP hS hB 3 (by decide) rfl rfl (i := i) (x := ((f 3 i) ^^^ (1 * 2 ^ j))) rfl (by have := hw.1; omega) (by decide) dX1_flipKnot_11 (fun H1 locs1 hPn hCn hSn => ?_)
  have hP := hPn; have hS := hSn; have hC := hC.tr (hCn.mono (b := o) (k := 4) (by omega) (by omega))
  refine lv_aload_n S.1 S.2.1 dX1_flipKnot_12 rfl (lv_at hl 0 rfl) ?_
  refine z_cV (v := some (.int (nI (zKc (zFk f i j))))) (rest := []) (As := []) S hZ hS (c_X1_countKnots l g (zFk f i j) (zFk_ok hw i hj)) ci_X1_countKnots cv_X1_countKnots k612 ⟨rfl, rfl, by rw [hR]; decide, by rw [hR]; decide⟩ hP (hP.recv hZ.1 0 (by decide) rfl rfl rfl) hl.1 rfl (Nat.le_of_ble_eq_true rfl) dX1_flipKnot_13 ⟨by rw [hR]; decide, by rw [hR]; decide⟩ rfl ?_
  exact z_wi hQ S hr hlk (zn_int _) hS hC ⟨rfl, hP⟩ dX1_flipKnot_16
theorem ci_X1_copyLast : zCI yX1_copyLast cX1_copyLast 6 (some .int) 2 := ⟨k606, k4, by decide +kernel⟩
theorem cv_X1_copyLast : Cond.instanceMethod yX1_copyLast ∈ GW ∧ Cond.selects (yX1_copyLast).cls yX1_copyLast yX1_copyLast ∈ GW := ⟨k604, k605⟩
set_option maxRecDepth 20000 in
set_option maxHeartbeats 4000000 in
/-- Cloth.copyLast(r, t) -/
theorem c_X1_copyLast (l : Launch) (g : ZG) {B : Nat} {o : Nat} (hB : B ≤ o) (f : Nat → Nat → Nat) (hw : zKo f) (r t : Nat) (h0 : r ≤ f 0 3) (h1r : 1 ≤ r) (h40 : f 0 3 + r * t ≤ 40) : Met l yX1_copyLast (.code yX1_copyLast cX1_copyLast 6 (some .int) :: GW) { frames := 1, cells := 0, slots := 0, locals := 22 } (va_Pc [.ref o, .int (nI r), .int (nI t)] (zPre g B (fun H => zPm g o 4 TC f H))) (zX (fun v H => v = some (.int (nI (f 0 3 + r * t))) ∧ zPm g o 4 TC (zCp f r (r * t)) H) o 4) 0 0 (zA B) := by
  refine zMet (by decide) (Nat.le_of_ble_eq_true rfl) ?_
  intro p e R s m args below meth c Q ls hR hargs hQ S hr hlk hP hZ hS hnm hl
  have hl : lv_has ls 6 [(0, .ref (o)), (1, .int (nI (r))), (2, .int (nI (t)))] := hl
  have hC : zCh1 o 4 s.heap s.heap := zCh1.rf
  refine lv_iload_n S.1 S.2.1 dX1_copyLast_0 rfl (lv_at hl 1 rfl) ?_
  refine lv_iload_n S.1 S.2.1 dX1_copyLast_1 rfl (lv_at hl 2 rfl) ?_
  refine z_mul S dX1_copyLast_2 ?_
  refine lv_istore_n (lv' := [(3, .int (nI (r * t))), (0, .ref (o)), (1, .int (nI (r))), (2, .int (nI (t)))]) S.1 S.2.1 dX1_copyLast_3 rfl hl (by decide) rfl (fun ls hl => ?_)
  refine z_ic S (k := 0) dX1_copyLast_4 (by decide) ?_
  refine lv_istore (lv' := [(4, .int (nI (0))), (3, .int (nI (r * t))), (0, .ref (o)), (1, .int (nI (r))), (2, .int (nI (t)))]) S.1 S.2.1 dX1_copyLast_5 hl (by decide) rfl (fun ls hl => ?_)
  have loop : ∀ (n i : Nat) (ls : Array Slot) (H : Heap) (locs : List Loc), (i ≤ r * t) → (r * t < i + n) → zPm g o 4 TC (zCp f r i) H → va_S (zA B) s.heap H locs → zCh1 o 4 s.heap H → lv_has ls 6 [(0, .ref o), (1, .int (nI r)), (3, .int (nI (r * t))), (4, .int (nI i))] → W p l e R s m args below meth c H locs 0 0 Q (F0 m 7 ls []) := by
    intro n
    induction n with
    | zero => intro i ls H locs h1 h2; exact absurd h2 (by omega)
    | succ n ih =>
      intro i ls H locs h1 h2 hP hS hC hl
      have hcn := zCp_c f r i
      have hwn := zCp_ok hw r i (by omega)
      refine lv_iload S.1 S.2.1 dX1_copyLast_7 (lv_at hl 3 rfl) ?_
      refine lv_iload_n S.1 S.2.1 dX1_copyLast_9 rfl (lv_at hl 2 rfl) ?_
      refine z_cge (tgt := 45) S (by omega) (by omega) dX1_copyLast_10 (by decide) (fun h4 => ?_) (fun h4 => ?_)
      · obtain rfl : i = r * t := by omega
        refine lv_aload_n S.1 S.2.1 dX1_copyLast_45 rfl (lv_at hl 0 rfl) ?_
        refine z_get (v := .int (nI (zCp f r (r * t) 0 3))) S hZ.1 hP 0 (by decide) rfl rfl rfl 3 (by decide) rfl k87 dX1_copyLast_46 ?_
        exact z_wi hQ S hr hlk (zn_int _) hS hC ⟨by rw [hcn], hP⟩ dX1_copyLast_49
      · refine lv_aload_n S.1 S.2.1 dX1_copyLast_13 rfl (lv_at hl 0 rfl) ?_
        refine z_get (v := .int (nI (zCp f r i 0 3))) S hZ.1 hP 0 (by decide) rfl rfl rfl 3 (by decide) rfl k87 dX1_copyLast_14 ?_
        refine lv_iload_n S.1 S.2.1 dX1_copyLast_17 rfl (lv_at hl 1 rfl) ?_
        refine z_sub S (by omega) dX1_copyLast_18 ?_
        refine lv_istore (lv' := [(5, .int (nI ((zCp f r i 0 3) - r))), (0, .ref (o)), (1, .int (nI (r))), (3, .int (nI (r * t))), (4, .int (nI (i)))]) S.1 S.2.1 dX1_copyLast_19 hl (by decide) rfl (fun ls hl => ?_)
        refine lv_aload_n S.1 S.2.1 dX1_copyLast_21 rfl (lv_at hl 1 rfl) ?_
        refine lv_aload_n S.1 S.2.1 dX1_copyLast_22 rfl (lv_at hl 1 rfl) ?_
        refine z_get (v := .ref (o + 1)) S hZ.1 hP 0 (by decide) rfl rfl rfl 0 (by decide) rfl k81 dX1_copyLast_23 ?_
        refine lv_iload S.1 S.2.1 dX1_copyLast_26 (lv_at hl 0 rfl) ?_
        refine z_iald S hZ.1 hP 1 (by decide) rfl rfl (i := ((zCp f r i 0 3) - r)) (by omega) (by decide) dX1_copyLast_28 ?_
        refine lv_aload_n S.1 S.2.1 dX1_copyLast_29 rfl (lv_at hl 1 rfl) ?_
        refine z_get (v := .ref (o + 2)) S hZ.1 hP 0 (by decide) rfl rfl rfl 1 (by decide) rfl k83 dX1_copyLast_30 ?_
        refine lv_iload S.1 S.2.1 dX1_copyLast_33 (lv_at hl 0 rfl) ?_
        refine z_iald S hZ.1 hP 2 (by decide) rfl rfl (i := ((zCp f r i 0 3) - r)) (by omega) (by decide) dX1_copyLast_35 ?_
        refine z_wV (rest := []) (As := [.int (nI ((zCp f r i) 1 ((zCp f r i 0 3) - r))), .int (nI ((zCp f r i) 2 ((zCp f r i 0 3) - r)))]) S hZ hS (c_X1_append l g hB (zCp f r i) hwn _ _ (by omega)) hB ci_X1_append cv_X1_append k607 ⟨rfl, rfl, by rw [hR]; decide, by rw [hR]; decide⟩ hP (hP.recv hZ.1 0 (by decide) rfl rfl rfl) hl.1 rfl (by decide) dX1_copyLast_36 ⟨by rw [hR]; decide, by rw [hR]; decide⟩ (fun v H1 locs1 hv hCn hSn => ?_)
        obtain ⟨rfl, hP⟩ := hv
        have hC := hC.tr hCn
        have hS := hSn
        refine z_inc S (lv' := [(4, .int (nI (i + 1))), (5, .int (nI ((zCp f r i 0 3) - r))), (0, .ref (o)), (1, .int (nI (r))), (3, .int (nI (r * t)))]) (k := 4) (b := 1) dX1_copyLast_39 hl rfl (by decide) (by decide) rfl (fun ls hl => ?_)
        refine lv_goto (tgt := 7) S.1 S.2.1 dX1_copyLast_42 (by decide) ?_
        exact ih (i + 1) ls H1 locs1 (by omega) (by omega) hP hS hC (lv_sub hl [2, 3, 4, 0] rfl)
  exact loop (r * t + 1) 0 ls _ _ (Nat.zero_le _) (by omega) hP hS hC (lv_sub hl [2, 3, 1, 0] rfl)
theorem ci_X1_sameRows : zCI yX1_sameRows cX1_sameRows 3 (some .boolean) 2 := ⟨k1109, k4, by decide +kernel⟩
theorem cv_X1_sameRows : Cond.instanceMethod yX1_sameRows ∈ GW ∧ Cond.selects (yX1_sameRows).cls yX1_sameRows yX1_sameRows ∈ GW := ⟨k1108, kp28⟩
set_option maxRecDepth 20000 in
set_option maxHeartbeats 4000000 in
/-- Cloth.sameRows(i, j) -/
theorem c_X1_sameRows (l : Launch) (g : ZG) {B : Nat} {o : Nat} (f : Nat → Nat → Nat) (hw : zKo f) (i j : Nat) (hi : i < f 0 3) (hj : j < f 0 3) : Met l yX1_sameRows (.code yX1_sameRows cX1_sameRows 3 (some .boolean) :: GW) { frames := 0, cells := 0, slots := 0, locals := 0 } (va_Pc [.ref o, .int (nI i), .int (nI j)] (zPre g B (fun H => zPm g o 4 TC f H))) (zR (some (.int (nI (zRw f i j).toNat)))) 0 0 (fun _ => False) := by
  refine zMet (by decide) (Nat.le_of_ble_eq_true rfl) ?_
  intro p e R s m args below meth c Q ls hR hargs hQ S hr hlk hP hZ hS hnm hl
  have hl : lv_has ls 3 [(0, .ref (o)), (1, .int (nI (i))), (2, .int (nI (j)))] := hl
  refine lv_aload_n S.1 S.2.1 dX1_sameRows_0 rfl (lv_at hl 0 rfl) ?_
  refine z_get (v := .ref (o + 1)) S hZ.1 hP 0 (by decide) rfl rfl rfl 0 (by decide) rfl k81 dX1_sameRows_1 ?_
  refine lv_iload_n S.1 S.2.1 dX1_sameRows_4 rfl (lv_at hl 1 rfl) ?_
  refine z_iald S hZ.1 hP 1 (by decide) rfl rfl (i := i) (by have := hw.1; omega) (by decide) dX1_sameRows_5 ?_
  refine lv_aload_n S.1 S.2.1 dX1_sameRows_6 rfl (lv_at hl 0 rfl) ?_
  refine z_get (v := .ref (o + 1)) S hZ.1 hP 0 (by decide) rfl rfl rfl 0 (by decide) rfl k81 dX1_sameRows_7 ?_
  refine lv_iload_n S.1 S.2.1 dX1_sameRows_10 rfl (lv_at hl 2 rfl) ?_
  refine z_iald S hZ.1 hP 1 (by decide) rfl rfl (i := j) (by have := hw.1; omega) (by decide) dX1_sameRows_11 ?_
  refine z_cne (tgt := 34) S (hw.m i) (hw.m j) dX1_sameRows_12 (by decide) (fun h1 => ?_) (fun h1 => ?_)
  · refine z_ic S (k := 0) dX1_sameRows_34 (by decide) ?_
    exact z_ri hQ S hr hlk rfl (by rw [zRw, decide_eq_false (fun z => h1 z.1)]; rfl) dX1_sameRows_35
  · refine lv_aload_n S.1 S.2.1 dX1_sameRows_15 rfl (lv_at hl 0 rfl) ?_
    refine z_get (v := .ref (o + 2)) S hZ.1 hP 0 (by decide) rfl rfl rfl 1 (by decide) rfl k83 dX1_sameRows_16 ?_
    refine lv_iload_n S.1 S.2.1 dX1_sameRows_19 rfl (lv_at hl 1 rfl) ?_
    refine z_iald S hZ.1 hP 2 (by decide) rfl rfl (i := i) (by have := hw.1; omega) (by decide) dX1_sameRows_20 ?_
    refine lv_aload_n S.1 S.2.1 dX1_sameRows_21 rfl (lv_at hl 0 rfl) ?_
    refine z_get (v := .ref (o + 2)) S hZ.1 hP 0 (by decide) rfl rfl rfl 1 (by decide) rfl k83 dX1_sameRows_22 ?_
    refine lv_iload_n S.1 S.2.1 dX1_sameRows_25 rfl (lv_at hl 2 rfl) ?_
    refine z_iald S hZ.1 hP 2 (by decide) rfl rfl (i := j) (by have := hw.1; omega) (by decide) dX1_sameRows_26 ?_
    refine z_cne (tgt := 34) S (hw.l i) (hw.l j) dX1_sameRows_27 (by decide) (fun h2 => ?_) (fun h2 => ?_)
    · refine z_ic S (k := 0) dX1_sameRows_34 (by decide) ?_
      exact z_ri hQ S hr hlk rfl (by rw [zRw, decide_eq_false (fun z => h2 z.2)]; rfl) dX1_sameRows_35
    · refine z_ic S (k := 1) dX1_sameRows_30 (by decide) ?_
      refine lv_goto (tgt := 35) S.1 S.2.1 dX1_sameRows_31 (by decide) ?_
      exact z_ri hQ S hr hlk rfl (by rw [zRw, decide_eq_true ⟨h1, h2⟩]; rfl) dX1_sameRows_35
theorem ci_X1_sameRuns : zCI yX1_sameRuns cX1_sameRuns 5 (some .boolean) 3 := ⟨k1186, k4, by decide +kernel⟩
theorem cv_X1_sameRuns : Cond.instanceMethod yX1_sameRuns ∈ GW ∧ Cond.selects (yX1_sameRuns).cls yX1_sameRuns yX1_sameRuns ∈ GW := ⟨k1185, kp29⟩
set_option maxRecDepth 20000 in
set_option maxHeartbeats 4000000 in
/-- Cloth.sameRuns(a, b, r) -/
theorem c_X1_sameRuns (l : Launch) (g : ZG) {B : Nat} {o : Nat} (f : Nat → Nat → Nat) (hw : zKo f) (a b r : Nat) (ha : a + r ≤ f 0 3) (hb : b + r ≤ f 0 3) : Met l yX1_sameRuns (.code yX1_sameRuns cX1_sameRuns 5 (some .boolean) :: GW) { frames := 1, cells := 0, slots := 0, locals := 22 } (va_Pc [.ref o, .int (nI a), .int (nI b), .int (nI r)] (zPre g B (fun H => zPm g o 4 TC f H))) (zR (some (.int (nI (zRs f a b r).toNat)))) 0 0 (fun _ => False) := by
  refine zMet (by decide) (Nat.le_of_ble_eq_true rfl) ?_
  intro p e R s m args below meth c Q ls hR hargs hQ S hr hlk hP hZ hS hnm hl
  have hl : lv_has ls 5 [(0, .ref (o)), (1, .int (nI (a))), (2, .int (nI (b))), (3, .int (nI (r)))] := hl
  refine z_ic S (k := 0) dX1_sameRuns_0 (by decide) ?_
  refine lv_istore (lv' := [(4, .int (nI (0))), (0, .ref (o)), (1, .int (nI (a))), (2, .int (nI (b))), (3, .int (nI (r)))]) S.1 S.2.1 dX1_sameRuns_1 hl (by decide) rfl (fun ls hl => ?_)
  have loop : ∀ (n i : Nat) (ls : Array Slot), (i ≤ r) → (r < i + n) → (∀ k, k < i → zRw f (a + k) (b + k) = true) → lv_has ls 5 [(0, .ref (o)), (1, .int (nI (a))), (2, .int (nI (b))), (3, .int (nI (r))), (4, .int (nI (i)))] → W p l e R s m args below meth c s.heap [] 0 0 Q (F0 m 3 ls []) := by
    intro n
    induction n with
    | zero => intro i ls h1 h2 hx hl; exact absurd h2 (by omega)
    | succ n ih =>
      intro i ls h1 h2 hx hl
      refine lv_iload S.1 S.2.1 dX1_sameRuns_3 (lv_at hl 4 rfl) ?_
      refine lv_iload_n S.1 S.2.1 dX1_sameRuns_5 rfl (lv_at hl 3 rfl) ?_
      refine z_cge (tgt := 32) S (by have := hw.1; omega) (by have := hw.1; omega) dX1_sameRuns_6 (by decide) (fun h4 => ?_) (fun h4 => ?_)
      · refine z_ic S (k := 1) dX1_sameRuns_32 (by decide) ?_
        exact z_ri hQ S hr hlk rfl (by rw [zRs, zAll_t (fun k hk => hx k (by omega))]; rfl) dX1_sameRuns_33
      · refine lv_aload_n S.1 S.2.1 dX1_sameRuns_9 rfl (lv_at hl 0 rfl) ?_
        refine lv_iload_n S.1 S.2.1 dX1_sameRuns_10 rfl (lv_at hl 1 rfl) ?_
        refine lv_iload S.1 S.2.1 dX1_sameRuns_11 (lv_at hl 4 rfl) ?_
        refine z_add S dX1_sameRuns_13 ?_
        refine lv_iload_n S.1 S.2.1 dX1_sameRuns_14 rfl (lv_at hl 2 rfl) ?_
        refine lv_iload S.1 S.2.1 dX1_sameRuns_15 (lv_at hl 4 rfl) ?_
        refine z_add S dX1_sameRuns_17 ?_
        refine z_cV (v := some (.int (nI (zRw f (a + i) (b + i)).toNat))) (rest := []) (As := [.int (nI (a + i)), .int (nI (b + i))]) S hZ hS (c_X1_sameRows l g f hw (a + i) (b + i) (by omega) (by omega)) ci_X1_sameRows cv_X1_sameRows k1106 ⟨rfl, rfl, by rw [hR]; decide, by rw [hR]; decide⟩ hP (hP.recv hZ.1 0 (by decide) rfl rfl rfl) hl.1 rfl (Nat.le_of_ble_eq_true rfl) dX1_sameRuns_18 ⟨by rw [hR]; decide, by rw [hR]; decide⟩ rfl ?_
        refine z_bne (tgt := 26) S dX1_sameRuns_21 (by decide) (fun h5 => ?_) (fun h5 => ?_)
        · refine z_inc S (lv' := [(4, .int (nI (i + 1))), (0, .ref (o)), (1, .int (nI (a))), (2, .int (nI (b))), (3, .int (nI (r)))]) (k := 4) (b := 1) dX1_sameRuns_26 hl rfl (by decide) (by decide) rfl (fun ls hl => ?_)
          refine lv_goto (tgt := 3) S.1 S.2.1 dX1_sameRuns_29 (by decide) ?_
          exact ih (i + 1) ls (by omega) (by omega) (fun k hk => by rcases (show k < i ∨ k = i by omega) with z | z; exact hx k z; subst z; exact h5) (lv_sub hl [1, 2, 3, 4, 0] rfl)
        · refine z_ic S (k := 0) dX1_sameRuns_24 (by decide) ?_
          exact z_ri hQ S hr hlk rfl (by rw [zRs, zAll_f (i := i) h5 h4]; rfl) dX1_sameRuns_25
  exact loop (r + 1) 0 ls (Nat.zero_le _) (by omega) (fun k hk => absurd hk (Nat.not_lt_zero k)) (lv_sub hl [1, 2, 3, 4, 0] rfl)
theorem ci_X1_overlapsItself : zCI yX1_overlapsItself cX1_overlapsItself 3 (some .boolean) 1 := ⟨k1171, k4, by decide +kernel⟩
theorem cv_X1_overlapsItself : Cond.instanceMethod yX1_overlapsItself ∈ GW ∧ Cond.selects (yX1_overlapsItself).cls yX1_overlapsItself yX1_overlapsItself ∈ GW := ⟨k1169, k1170⟩
set_option maxRecDepth 20000 in
set_option maxHeartbeats 4000000 in
/-- Cloth.overlapsItself(q) -/
theorem c_X1_overlapsItself (l : Launch) (g : ZG) {B : Nat} {o : Nat} (f : Nat → Nat → Nat) (hw : zKo f) (q : Nat) (hq : q ≤ f 0 3) : Met l yX1_overlapsItself (.code yX1_overlapsItself cX1_overlapsItself 3 (some .boolean) :: GW) { frames := 1, cells := 0, slots := 0, locals := 22 } (va_Pc [.ref o, .int (nI q)] (zPre g B (fun H => zPm g o 4 TC f H))) (zR (some (.int (nI (zOv f q).toNat)))) 0 0 (fun _ => False) := by
  refine zMet (by decide) (Nat.le_of_ble_eq_true rfl) ?_
  intro p e R s m args below meth c Q ls hR hargs hQ S hr hlk hP hZ hS hnm hl
  have hl : lv_has ls 3 [(0, .ref (o)), (1, .int (nI (q)))] := hl
  refine lv_iload_n S.1 S.2.1 dX1_overlapsItself_0 rfl (lv_at hl 1 rfl) ?_
  refine lv_istore_n (lv' := [(2, .int (nI (q))), (0, .ref (o)), (1, .int (nI (q)))]) S.1 S.2.1 dX1_overlapsItself_1 rfl hl (by decide) rfl (fun ls hl => ?_)
  have loop : ∀ (n i : Nat) (ls : Array Slot), (q + i ≤ f 0 3) → (f 0 3 < q + i + n) → (∀ k, k < i → zRw f (q + k) k = true) → lv_has ls 3 [(0, .ref (o)), (1, .int (nI (q))), (2, .int (nI (q + i)))] → W p l e R s m args below meth c s.heap [] 0 0 Q (F0 m 2 ls []) := by
    intro n
    induction n with
    | zero => intro i ls h1 h2 hx hl; exact absurd h2 (by omega)
    | succ n ih =>
      intro i ls h1 h2 hx hl
      refine lv_iload_n S.1 S.2.1 dX1_overlapsItself_2 rfl (lv_at hl 2 rfl) ?_
      refine lv_aload_n S.1 S.2.1 dX1_overlapsItself_3 rfl (lv_at hl 0 rfl) ?_
      refine z_get (v := .int (nI (f 0 3))) S hZ.1 hP 0 (by decide) rfl rfl rfl 3 (by decide) rfl k87 dX1_overlapsItself_4 ?_
      refine z_cge (tgt := 29) S (by have := hw.1; omega) hw.c dX1_overlapsItself_7 (by decide) (fun h4 => ?_) (fun h4 => ?_)
      · refine z_ic S (k := 1) dX1_overlapsItself_29 (by decide) ?_
        exact z_ri hQ S hr hlk rfl (by rw [zOv, zAll_t (fun k hk => hx k (by omega))]; rfl) dX1_overlapsItself_30
      · refine lv_aload_n S.1 S.2.1 dX1_overlapsItself_10 rfl (lv_at hl 0 rfl) ?_
        refine lv_iload_n S.1 S.2.1 dX1_overlapsItself_11 rfl (lv_at hl 2 rfl) ?_
        refine lv_iload_n S.1 S.2.1 dX1_overlapsItself_12 rfl (lv_at hl 2 rfl) ?_
        refine lv_iload_n S.1 S.2.1 dX1_overlapsItself_13 rfl (lv_at hl 1 rfl) ?_
        refine z_sub S (by omega) dX1_overlapsItself_14 ?_
        rw [show q + i - q = i by omega]
        refine z_cV (v := some (.int (nI (zRw f (q + i) i).toNat))) (rest := []) (As := [.int (nI (q + i)), .int (nI (i))]) S hZ hS (c_X1_sameRows l g f hw (q + i) i (by omega) (by omega)) ci_X1_sameRows cv_X1_sameRows k1106 ⟨rfl, rfl, by rw [hR]; decide, by rw [hR]; decide⟩ hP (hP.recv hZ.1 0 (by decide) rfl rfl rfl) hl.1 rfl (Nat.le_of_ble_eq_true rfl) dX1_overlapsItself_15 ⟨by rw [hR]; decide, by rw [hR]; decide⟩ rfl ?_
        refine z_bne (tgt := 23) S dX1_overlapsItself_18 (by decide) (fun h5 => ?_) (fun h5 => ?_)
        · refine z_inc S (lv' := [(2, .int (nI ((q + i) + 1))), (0, .ref (o)), (1, .int (nI (q)))]) (k := 2) (b := 1) dX1_overlapsItself_23 hl rfl (by decide) (by decide) rfl (fun ls hl => ?_)
          refine lv_goto (tgt := 2) S.1 S.2.1 dX1_overlapsItself_26 (by decide) ?_
          exact ih (i + 1) ls (by omega) (by omega) (fun k hk => by rcases (show k < i ∨ k = i by omega) with z | z; exact hx k z; subst z; exact h5) (lv_sub hl [1, 2, 0] rfl)
        · refine z_ic S (k := 0) dX1_overlapsItself_21 (by decide) ?_
          exact z_ri hQ S hr hlk rfl (by rw [zOv, zAll_f (p := fun i => zRw f (q + i) i) (i := i) h5 (by omega)]; rfl) dX1_overlapsItself_22
  exact loop (f 0 3 + 1) 0 ls (by omega) (by omega) (fun k hk => absurd hk (Nat.not_lt_zero k)) (lv_sub hl [1, 2, 0] rfl)
theorem ci_X1_longestBorder : zCI yX1_longestBorder cX1_longestBorder 2 (some .int) 0 := ⟨k1182, k4, by decide +kernel⟩
theorem cv_X1_longestBorder : Cond.instanceMethod yX1_longestBorder ∈ GW ∧ Cond.selects (yX1_longestBorder).cls yX1_longestBorder yX1_longestBorder ∈ GW := ⟨k1180, k1181⟩
set_option maxRecDepth 20000 in
set_option maxHeartbeats 4000000 in
/-- Cloth.longestBorder() -/
theorem c_X1_longestBorder (l : Launch) (g : ZG) {B : Nat} {o : Nat} (f : Nat → Nat → Nat) (hw : zKo f) (b : Nat) (hb : b < f 0 3) (hm : ∀ k, b < k → k < f 0 3 → zRs f 0 (f 0 3 - k) k = false) (he : b = 0 ∨ zRs f 0 (f 0 3 - b) b = true) : Met l yX1_longestBorder (.code yX1_longestBorder cX1_longestBorder 2 (some .int) :: GW) { frames := 2, cells := 0, slots := 0, locals := 46 } (va_Pc [.ref o] (zPre g B (fun H => zPm g o 4 TC f H))) (zR (some (.int (nI b)))) 0 0 (fun _ => False) := by
  refine zMet (by decide) (Nat.le_of_ble_eq_true rfl) ?_
  intro p e R s m args below meth c Q ls hR hargs hQ S hr hlk hP hZ hS hnm hl
  have hl : lv_has ls 2 [(0, .ref (o))] := hl
  refine lv_aload_n S.1 S.2.1 dX1_longestBorder_0 rfl (lv_at hl 0 rfl) ?_
  refine z_get (v := .int (nI (f 0 3))) S hZ.1 hP 0 (by decide) rfl rfl rfl 3 (by decide) rfl k87 dX1_longestBorder_1 ?_
  refine z_ic S (k := 1) dX1_longestBorder_4 (by decide) ?_
  refine z_sub S (by omega) dX1_longestBorder_5 ?_
  refine lv_istore_n (lv' := [(1, .int (nI ((f 0 3) - 1))), (0, .ref (o))]) S.1 S.2.1 dX1_longestBorder_6 rfl hl (by decide) rfl (fun ls hl => ?_)
  have loop : ∀ (n i : Nat) (ls : Array Slot), (b ≤ i) → (i < n) → (i < f 0 3) → lv_has ls 2 [(0, .ref (o)), (1, .int (nI (i)))] → W p l e R s m args below meth c s.heap [] 0 0 Q (F0 m 7 ls []) := by
    intro n
    induction n with
    | zero => intro i ls h1 h2 h3 hl; exact absurd h2 (by omega)
    | succ n ih =>
      intro i ls h1 h2 h3 hl
      refine lv_iload_n S.1 S.2.1 dX1_longestBorder_7 rfl (lv_at hl 1 rfl) ?_
      refine z_ile (tgt := 32) S (by have := hw.1; omega) dX1_longestBorder_8 (by decide) (fun h4 => ?_) (fun h4 => ?_)
      · refine lv_iload_n S.1 S.2.1 dX1_longestBorder_32 rfl (lv_at hl 1 rfl) ?_
        exact z_ri hQ S hr hlk (zn_int _) (by rw [show b = i by omega]) dX1_longestBorder_33
      · refine lv_aload_n S.1 S.2.1 dX1_longestBorder_11 rfl (lv_at hl 0 rfl) ?_
        refine z_ic S (k := 0) dX1_longestBorder_12 (by decide) ?_
        refine lv_aload_n S.1 S.2.1 dX1_longestBorder_13 rfl (lv_at hl 0 rfl) ?_
        refine z_get (v := .int (nI (f 0 3))) S hZ.1 hP 0 (by decide) rfl rfl rfl 3 (by decide) rfl k87 dX1_longestBorder_14 ?_
        refine lv_iload_n S.1 S.2.1 dX1_longestBorder_17 rfl (lv_at hl 1 rfl) ?_
        refine z_sub S (by omega) dX1_longestBorder_18 ?_
        refine lv_iload_n S.1 S.2.1 dX1_longestBorder_19 rfl (lv_at hl 1 rfl) ?_
        refine z_cV (v := some (.int (nI (zRs f 0 (f 0 3 - i) i).toNat))) (rest := []) (As := [.int (nI (0)), .int (nI ((f 0 3) - i)), .int (nI (i))]) S hZ hS (c_X1_sameRuns l g f hw 0 (f 0 3 - i) i (by omega) (by omega)) ci_X1_sameRuns cv_X1_sameRuns k1183 ⟨rfl, rfl, by rw [hR]; decide, by rw [hR]; decide⟩ hP (hP.recv hZ.1 0 (by decide) rfl rfl rfl) hl.1 rfl (Nat.le_of_ble_eq_true rfl) dX1_longestBorder_20 ⟨by rw [hR]; decide, by rw [hR]; decide⟩ rfl ?_
        refine z_bne (tgt := 32) S dX1_longestBorder_23 (by decide) (fun h5 => ?_) (fun h5 => ?_)
        · refine lv_iload_n S.1 S.2.1 dX1_longestBorder_32 rfl (lv_at hl 1 rfl) ?_
          exact z_ri hQ S hr hlk (zn_int _) (by rcases Nat.lt_or_ge b i with z | z; rw [hm i z (by omega)] at h5; cases h5; rw [show b = i by omega]) dX1_longestBorder_33
        · obtain ⟨j, rfl⟩ : ∃ j, i = j + 1 := ⟨i - 1, by omega⟩
          refine z_dec S (lv' := [(1, .int (nI (j))), (0, .ref (o))]) (k := 1) (a := j) dX1_longestBorder_26 hl rfl (by decide) rfl (fun ls hl => ?_)
          refine lv_goto (tgt := 7) S.1 S.2.1 dX1_longestBorder_29 (by decide) ?_
          exact ih j ls (by rcases Nat.lt_or_ge b (j + 1) with z | z; omega; rcases he with q | q; omega; rw [show b = j + 1 by omega, h5] at q; cases q) (by omega) (by omega) (lv_sub hl [1, 0] rfl)
  exact loop (f 0 3 + 1) (f 0 3 - 1) ls (by omega) (by omega) (by omega) (lv_sub hl [1, 0] rfl)
theorem ci_X1_countOfLast : zCI yX1_countOfLast cX1_countOfLast 5 (some .int) 1 := ⟨k1197, k4, by decide +kernel⟩
theorem cv_X1_countOfLast : Cond.instanceMethod yX1_countOfLast ∈ GW ∧ Cond.selects (yX1_countOfLast).cls yX1_countOfLast yX1_countOfLast ∈ GW := ⟨k1195, k1196⟩
set_option maxRecDepth 20000 in
set_option maxHeartbeats 4000000 in
/-- Cloth.countOfLast(r) -/
theorem c_X1_countOfLast (l : Launch) (g : ZG) {B : Nat} {o : Nat} (f : Nat → Nat → Nat) (hw : zKo f) (r : Nat) (h9 : r ≤ f 0 3) : Met l yX1_countOfLast (.code yX1_countOfLast cX1_countOfLast 5 (some .int) :: GW) { frames := 2, cells := 0, slots := 0, locals := 46 } (va_Pc [.ref o, .int (nI r)] (zPre g B (fun H => zPm g o 4 TC f H))) (zR (some (.int (nI (zCl f r))))) 0 0 (fun _ => False) := by
  refine zMet (by decide) (Nat.le_of_ble_eq_true rfl) ?_
  intro p e R s m args below meth c Q ls hR hargs hQ S hr hlk hP hZ hS hnm hl
  have hl : lv_has ls 5 [(0, .ref (o)), (1, .int (nI (r)))] := hl
  refine lv_aload_n S.1 S.2.1 dX1_countOfLast_0 rfl (lv_at hl 0 rfl) ?_
  refine z_get (v := .int (nI (f 0 3))) S hZ.1 hP 0 (by decide) rfl rfl rfl 3 (by decide) rfl k87 dX1_countOfLast_1 ?_
  refine lv_iload_n S.1 S.2.1 dX1_countOfLast_4 rfl (lv_at hl 1 rfl) ?_
  refine z_sub S h9 dX1_countOfLast_5 ?_
  refine lv_istore_n (lv' := [(2, .int (nI ((f 0 3) - r))), (0, .ref (o)), (1, .int (nI (r)))]) S.1 S.2.1 dX1_countOfLast_6 rfl hl (by decide) rfl (fun ls hl => ?_)
  refine z_ic S (k := 0) dX1_countOfLast_7 (by decide) ?_
  refine lv_istore_n (lv' := [(3, .int (nI (0))), (2, .int (nI ((f 0 3) - r))), (0, .ref (o)), (1, .int (nI (r)))]) S.1 S.2.1 dX1_countOfLast_8 rfl hl (by decide) rfl (fun ls hl => ?_)
  refine z_ic S (k := 0) dX1_countOfLast_9 (by decide) ?_
  refine lv_istore (lv' := [(4, .int (nI (0))), (3, .int (nI (0))), (2, .int (nI ((f 0 3) - r))), (0, .ref (o)), (1, .int (nI (r)))]) S.1 S.2.1 dX1_countOfLast_10 hl (by decide) rfl (fun ls hl => ?_)
  have loop : ∀ (n i x : Nat) (ls : Array Slot), (i ≤ f 0 3 - r + 1) → (f 0 3 - r + 1 < i + n) → (x = zSum (fun i => (zRs f i (f 0 3 - r) r).toNat) i) → lv_has ls 5 [(0, .ref (o)), (1, .int (nI (r))), (2, .int (nI ((f 0 3) - r))), (3, .int (nI (x))), (4, .int (nI (i)))] → W p l e R s m args below meth c s.heap [] 0 0 Q (F0 m 12 ls []) := by
    intro n
    induction n with
    | zero => intro i x ls h1 h2 hx hl; exact absurd h2 (by omega)
    | succ n ih =>
      intro i x ls h1 h2 hx hl
      refine lv_iload S.1 S.2.1 dX1_countOfLast_12 (lv_at hl 4 rfl) ?_
      refine lv_iload_n S.1 S.2.1 dX1_countOfLast_14 rfl (lv_at hl 2 rfl) ?_
      refine z_cgt (tgt := 38) S (by have := hw.1; omega) (by have := hw.1; omega) dX1_countOfLast_15 (by decide) (fun h4 => ?_) (fun h4 => ?_)
      · refine lv_iload_n S.1 S.2.1 dX1_countOfLast_38 rfl (lv_at hl 3 rfl) ?_
        exact z_ri hQ S hr hlk (zn_int _) (by rw [hx, zCl, show i = f 0 3 - r + 1 by omega]) dX1_countOfLast_39
      · refine lv_aload_n S.1 S.2.1 dX1_countOfLast_18 rfl (lv_at hl 0 rfl) ?_
        refine lv_iload S.1 S.2.1 dX1_countOfLast_19 (lv_at hl 4 rfl) ?_
        refine lv_iload_n S.1 S.2.1 dX1_countOfLast_21 rfl (lv_at hl 2 rfl) ?_
        refine lv_iload_n S.1 S.2.1 dX1_countOfLast_22 rfl (lv_at hl 1 rfl) ?_
        refine z_cV (v := some (.int (nI (zRs f i (f 0 3 - r) r).toNat))) (rest := []) (As := [.int (nI (i)), .int (nI ((f 0 3) - r)), .int (nI (r))]) S hZ hS (c_X1_sameRuns l g f hw i (f 0 3 - r) r (by omega) (by omega)) ci_X1_sameRuns cv_X1_sameRuns k1183 ⟨rfl, rfl, by rw [hR]; decide, by rw [hR]; decide⟩ hP (hP.recv hZ.1 0 (by decide) rfl rfl rfl) hl.1 rfl (Nat.le_of_ble_eq_true rfl) dX1_countOfLast_23 ⟨by rw [hR]; decide, by rw [hR]; decide⟩ rfl ?_
        refine z_beq (tgt := 32) S dX1_countOfLast_26 (by decide) (fun h5 => ?_) (fun h5 => ?_)
        · refine z_inc S (lv' := [(4, .int (nI (i + 1))), (0, .ref (o)), (1, .int (nI (r))), (2, .int (nI ((f 0 3) - r))), (3, .int (nI (x)))]) (k := 4) (b := 1) dX1_countOfLast_32 hl rfl (by decide) (by decide) rfl (fun ls hl => ?_)
          refine lv_goto (tgt := 12) S.1 S.2.1 dX1_countOfLast_35 (by decide) ?_
          exact ih (i + 1) x ls (by omega) (by omega) (by rw [zSum, hx, h5]; rfl) (lv_sub hl [1, 2, 3, 4, 0] rfl)
        · refine z_inc S (lv' := [(3, .int (nI (x + 1))), (0, .ref (o)), (1, .int (nI (r))), (2, .int (nI ((f 0 3) - r))), (4, .int (nI (i)))]) (k := 3) (b := 1) dX1_countOfLast_29 hl rfl (by decide) (by decide) rfl (fun ls hl => ?_)
          refine z_inc S (lv' := [(4, .int (nI (i + 1))), (3, .int (nI (x + 1))), (0, .ref (o)), (1, .int (nI (r))), (2, .int (nI ((f 0 3) - r)))]) (k := 4) (b := 1) dX1_countOfLast_32 hl rfl (by decide) (by decide) rfl (fun ls hl => ?_)
          refine lv_goto (tgt := 12) S.1 S.2.1 dX1_countOfLast_35 (by decide) ?_
          exact ih (i + 1) (x + 1) ls (by omega) (by omega) (by rw [zSum, hx, h5]; rfl) (lv_sub hl [2, 3, 4, 1, 0] rfl)
  exact loop (f 0 3 + 2) 0 0 ls (Nat.zero_le _) (by omega) rfl (lv_sub hl [3, 4, 2, 1, 0] rfl)
theorem ci_X1_isNew : zCI yX1_isNew cX1_isNew 3 (some .boolean) 1 := ⟨k1105, k4, by decide +kernel⟩
theorem cv_X1_isNew : Cond.instanceMethod yX1_isNew ∈ GW ∧ Cond.selects (yX1_isNew).cls yX1_isNew yX1_isNew ∈ GW := ⟨k1104, kp27⟩
set_option maxRecDepth 20000 in
set_option maxHeartbeats 4000000 in
/-- Cloth.isNew(r) -/
theorem c_X1_isNew (l : Launch) (g : ZG) {B : Nat} {o : Nat} (f : Nat → Nat → Nat) (hw : zKo f) (r : Nat) (h9 : r < f 0 3) : Met l yX1_isNew (.code yX1_isNew cX1_isNew 3 (some .boolean) :: GW) { frames := 1, cells := 0, slots := 0, locals := 22 } (va_Pc [.ref o, .int (nI r)] (zPre g B (fun H => zPm g o 4 TC f H))) (zR (some (.int (nI (zNw f r).toNat)))) 0 0 (fun _ => False) := by
  refine zMet (by decide) (Nat.le_of_ble_eq_true rfl) ?_
  intro p e R s m args below meth c Q ls hR hargs hQ S hr hlk hP hZ hS hnm hl
  have hl : lv_has ls 3 [(0, .ref (o)), (1, .int (nI (r)))] := hl
  refine z_ic S (k := 0) dX1_isNew_0 (by decide) ?_
  refine lv_istore_n (lv' := [(2, .int (nI (0))), (0, .ref (o)), (1, .int (nI (r)))]) S.1 S.2.1 dX1_isNew_1 rfl hl (by decide) rfl (fun ls hl => ?_)
  have loop : ∀ (n i : Nat) (ls : Array Slot), (i ≤ r) → (r < i + n) → (∀ k, k < i → (!zRw f k r) = true) → lv_has ls 3 [(0, .ref (o)), (1, .int (nI (r))), (2, .int (nI (i)))] → W p l e R s m args below meth c s.heap [] 0 0 Q (F0 m 2 ls []) := by
    intro n
    induction n with
    | zero => intro i ls h1 h2 hx hl; exact absurd h2 (by omega)
    | succ n ih =>
      intro i ls h1 h2 hx hl
      refine lv_iload_n S.1 S.2.1 dX1_isNew_2 rfl (lv_at hl 2 rfl) ?_
      refine lv_iload_n S.1 S.2.1 dX1_isNew_3 rfl (lv_at hl 1 rfl) ?_
      refine z_cge (tgt := 24) S (by have := hw.1; omega) (by have := hw.1; omega) dX1_isNew_4 (by decide) (fun h4 => ?_) (fun h4 => ?_)
      · refine z_ic S (k := 1) dX1_isNew_24 (by decide) ?_
        exact z_ri hQ S hr hlk rfl (by rw [zNw, zAll_t (fun k hk => hx k (by omega))]; rfl) dX1_isNew_25
      · refine lv_aload_n S.1 S.2.1 dX1_isNew_7 rfl (lv_at hl 0 rfl) ?_
        refine lv_iload_n S.1 S.2.1 dX1_isNew_8 rfl (lv_at hl 2 rfl) ?_
        refine lv_iload_n S.1 S.2.1 dX1_isNew_9 rfl (lv_at hl 1 rfl) ?_
        refine z_cV (v := some (.int (nI (zRw f i r).toNat))) (rest := []) (As := [.int (nI (i)), .int (nI (r))]) S hZ hS (c_X1_sameRows l g f hw i r (by omega) (by omega)) ci_X1_sameRows cv_X1_sameRows k1106 ⟨rfl, rfl, by rw [hR]; decide, by rw [hR]; decide⟩ hP (hP.recv hZ.1 0 (by decide) rfl rfl rfl) hl.1 rfl (Nat.le_of_ble_eq_true rfl) dX1_isNew_10 ⟨by rw [hR]; decide, by rw [hR]; decide⟩ rfl ?_
        refine z_beq (tgt := 18) S dX1_isNew_13 (by decide) (fun h5 => ?_) (fun h5 => ?_)
        · refine z_inc S (lv' := [(2, .int (nI (i + 1))), (0, .ref (o)), (1, .int (nI (r)))]) (k := 2) (b := 1) dX1_isNew_18 hl rfl (by decide) (by decide) rfl (fun ls hl => ?_)
          refine lv_goto (tgt := 2) S.1 S.2.1 dX1_isNew_21 (by decide) ?_
          exact ih (i + 1) ls (by omega) (by omega) (fun k hk => by rcases (show k < i ∨ k = i by omega) with z | z; exact hx k z; subst z; rw [h5]; rfl) (lv_sub hl [1, 2, 0] rfl)
        · refine z_ic S (k := 0) dX1_isNew_16 (by decide) ?_
          exact z_ri hQ S hr hlk rfl (by rw [zNw, zAll_f (i := i) (by rw [h5]; rfl) h4]; rfl) dX1_isNew_17
  exact loop (r + 1) 0 ls (Nat.zero_le _) (by omega) (fun k hk => absurd hk (Nat.not_lt_zero k)) (lv_sub hl [1, 2, 0] rfl)
theorem ci_X1_countDifferent : zCI yX1_countDifferent cX1_countDifferent 3 (some .int) 0 := ⟨k1101, k4, by decide +kernel⟩
theorem cv_X1_countDifferent : Cond.instanceMethod yX1_countDifferent ∈ GW ∧ Cond.selects (yX1_countDifferent).cls yX1_countDifferent yX1_countDifferent ∈ GW := ⟨k1099, k1100⟩
set_option maxRecDepth 20000 in
set_option maxHeartbeats 4000000 in
/-- Cloth.countDifferent() -/
theorem c_X1_countDifferent (l : Launch) (g : ZG) {B : Nat} {o : Nat} (f : Nat → Nat → Nat) (hw : zKo f) : Met l yX1_countDifferent (.code yX1_countDifferent cX1_countDifferent 3 (some .int) :: GW) { frames := 2, cells := 0, slots := 0, locals := 44 } (va_Pc [.ref o] (zPre g B (fun H => zPm g o 4 TC f H))) (zR (some (.int (nI (zCd f))))) 0 0 (fun _ => False) := by
  refine zMet (by decide) (Nat.le_of_ble_eq_true rfl) ?_
  intro p e R s m args below meth c Q ls hR hargs hQ S hr hlk hP hZ hS hnm hl
  have hl : lv_has ls 3 [(0, .ref (o))] := hl
  refine z_ic S (k := 0) dX1_countDifferent_0 (by decide) ?_
  refine lv_istore_n (lv' := [(1, .int (nI (0))), (0, .ref (o))]) S.1 S.2.1 dX1_countDifferent_1 rfl hl (by decide) rfl (fun ls hl => ?_)
  refine z_ic S (k := 0) dX1_countDifferent_2 (by decide) ?_
  refine lv_istore_n (lv' := [(2, .int (nI (0))), (1, .int (nI (0))), (0, .ref (o))]) S.1 S.2.1 dX1_countDifferent_3 rfl hl (by decide) rfl (fun ls hl => ?_)
  have loop : ∀ (n i x : Nat) (ls : Array Slot), (i ≤ f 0 3) → (f 0 3 < i + n) → (x = zSum (fun i => (zNw f i).toNat) i) → lv_has ls 3 [(0, .ref (o)), (1, .int (nI (x))), (2, .int (nI (i)))] → W p l e R s m args below meth c s.heap [] 0 0 Q (F0 m 4 ls []) := by
    intro n
    induction n with
    | zero => intro i x ls h1 h2 hx hl; exact absurd h2 (by omega)
    | succ n ih =>
      intro i x ls h1 h2 hx hl
      refine lv_iload_n S.1 S.2.1 dX1_countDifferent_4 rfl (lv_at hl 2 rfl) ?_
      refine lv_aload_n S.1 S.2.1 dX1_countDifferent_5 rfl (lv_at hl 0 rfl) ?_
      refine z_get (v := .int (nI (f 0 3))) S hZ.1 hP 0 (by decide) rfl rfl rfl 3 (by decide) rfl k87 dX1_countDifferent_6 ?_
      refine z_cge (tgt := 29) S (by have := hw.1; omega) hw.c dX1_countDifferent_9 (by decide) (fun h4 => ?_) (fun h4 => ?_)
      · refine lv_iload_n S.1 S.2.1 dX1_countDifferent_29 rfl (lv_at hl 1 rfl) ?_
        obtain rfl : i = f 0 3 := by omega
        exact z_ri hQ S hr hlk (zn_int _) (by rw [hx]; rfl) dX1_countDifferent_30
      · refine lv_aload_n S.1 S.2.1 dX1_countDifferent_12 rfl (lv_at hl 0 rfl) ?_
        refine lv_iload_n S.1 S.2.1 dX1_countDifferent_13 rfl (lv_at hl 2 rfl) ?_
        refine z_cV (v := some (.int (nI (zNw f i).toNat))) (rest := []) (As := [.int (nI (i))]) S hZ hS (c_X1_isNew l g f hw i h4) ci_X1_isNew cv_X1_isNew k1102 ⟨rfl, rfl, by rw [hR]; decide, by rw [hR]; decide⟩ hP (hP.recv hZ.1 0 (by decide) rfl rfl rfl) hl.1 rfl (Nat.le_of_ble_eq_true rfl) dX1_countDifferent_14 ⟨by rw [hR]; decide, by rw [hR]; decide⟩ rfl ?_
        refine z_beq (tgt := 23) S dX1_countDifferent_17 (by decide) (fun h5 => ?_) (fun h5 => ?_)
        · refine z_inc S (lv' := [(2, .int (nI (i + 1))), (0, .ref (o)), (1, .int (nI (x)))]) (k := 2) (b := 1) dX1_countDifferent_23 hl rfl (by decide) (by decide) rfl (fun ls hl => ?_)
          refine lv_goto (tgt := 4) S.1 S.2.1 dX1_countDifferent_26 (by decide) ?_
          exact ih (i + 1) x ls (by omega) (by omega) (by rw [zSum, hx, h5]; rfl) (lv_sub hl [1, 2, 0] rfl)
        · refine z_inc S (lv' := [(1, .int (nI (x + 1))), (0, .ref (o)), (2, .int (nI (i)))]) (k := 1) (b := 1) dX1_countDifferent_20 hl rfl (by decide) (by decide) rfl (fun ls hl => ?_)
          refine z_inc S (lv' := [(2, .int (nI (i + 1))), (1, .int (nI (x + 1))), (0, .ref (o))]) (k := 2) (b := 1) dX1_countDifferent_23 hl rfl (by decide) (by decide) rfl (fun ls hl => ?_)
          refine lv_goto (tgt := 4) S.1 S.2.1 dX1_countDifferent_26 (by decide) ?_
          exact ih (i + 1) (x + 1) ls (by omega) (by omega) (by rw [zSum, hx, h5]; rfl) (lv_sub hl [2, 1, 0] rfl)
  exact loop (f 0 3 + 1) 0 0 ls (Nat.zero_le _) (by omega) rfl (lv_sub hl [2, 1, 0] rfl)
theorem ci_X1_sameReversed : zCI yX1_sameReversed cX1_sameReversed 2 (some .boolean) 0 := ⟨k1117, k4, by decide +kernel⟩
theorem cv_X1_sameReversed : Cond.instanceMethod yX1_sameReversed ∈ GW ∧ Cond.selects (yX1_sameReversed).cls yX1_sameReversed yX1_sameReversed ∈ GW := ⟨k1115, k1116⟩
set_option maxRecDepth 20000 in
set_option maxHeartbeats 4000000 in
/-- Cloth.sameReversed() -/
theorem c_X1_sameReversed (l : Launch) (g : ZG) {B : Nat} {o : Nat} (f : Nat → Nat → Nat) (hw : zKo f) : Met l yX1_sameReversed (.code yX1_sameReversed cX1_sameReversed 2 (some .boolean) :: GW) { frames := 1, cells := 0, slots := 0, locals := 22 } (va_Pc [.ref o] (zPre g B (fun H => zPm g o 4 TC f H))) (zR (some (.int (nI (zSy f).toNat)))) 0 0 (fun _ => False) := by
  refine zMet (by decide) (Nat.le_of_ble_eq_true rfl) ?_
  intro p e R s m args below meth c Q ls hR hargs hQ S hr hlk hP hZ hS hnm hl
  have hl : lv_has ls 2 [(0, .ref (o))] := hl
  refine z_ic S (k := 0) dX1_sameReversed_0 (by decide) ?_
  refine lv_istore_n (lv' := [(1, .int (nI (0))), (0, .ref (o))]) S.1 S.2.1 dX1_sameReversed_1 rfl hl (by decide) rfl (fun ls hl => ?_)
  have loop : ∀ (n i : Nat) (ls : Array Slot), (i ≤ f 0 3) → (f 0 3 < i + n) → (∀ k, k < i → zRw f k (f 0 3 - 1 - k) = true) → lv_has ls 2 [(0, .ref (o)), (1, .int (nI (i)))] → W p l e R s m args below meth c s.heap [] 0 0 Q (F0 m 2 ls []) := by
    intro n
    induction n with
    | zero => intro i ls h1 h2 hx hl; exact absurd h2 (by omega)
    | succ n ih =>
      intro i ls h1 h2 hx hl
      refine lv_iload_n S.1 S.2.1 dX1_sameReversed_2 rfl (lv_at hl 1 rfl) ?_
      refine lv_aload_n S.1 S.2.1 dX1_sameReversed_3 rfl (lv_at hl 0 rfl) ?_
      refine z_get (v := .int (nI (f 0 3))) S hZ.1 hP 0 (by decide) rfl rfl rfl 3 (by decide) rfl k87 dX1_sameReversed_4 ?_
      refine z_cge (tgt := 34) S (by have := hw.1; omega) hw.c dX1_sameReversed_7 (by decide) (fun h4 => ?_) (fun h4 => ?_)
      · refine z_ic S (k := 1) dX1_sameReversed_34 (by decide) ?_
        exact z_ri hQ S hr hlk rfl (by rw [zSy, zAll_t (fun k hk => hx k (by omega))]; rfl) dX1_sameReversed_35
      · refine lv_aload_n S.1 S.2.1 dX1_sameReversed_10 rfl (lv_at hl 0 rfl) ?_
        refine lv_iload_n S.1 S.2.1 dX1_sameReversed_11 rfl (lv_at hl 1 rfl) ?_
        refine lv_aload_n S.1 S.2.1 dX1_sameReversed_12 rfl (lv_at hl 0 rfl) ?_
        refine z_get (v := .int (nI (f 0 3))) S hZ.1 hP 0 (by decide) rfl rfl rfl 3 (by decide) rfl k87 dX1_sameReversed_13 ?_
        refine z_ic S (k := 1) dX1_sameReversed_16 (by decide) ?_
        refine z_sub S (by omega) dX1_sameReversed_17 ?_
        refine lv_iload_n S.1 S.2.1 dX1_sameReversed_18 rfl (lv_at hl 1 rfl) ?_
        refine z_sub S (by omega) dX1_sameReversed_19 ?_
        refine z_cV (v := some (.int (nI (zRw f i (f 0 3 - 1 - i)).toNat))) (rest := []) (As := [.int (nI (i)), .int (nI (((f 0 3) - 1) - i))]) S hZ hS (c_X1_sameRows l g f hw i (f 0 3 - 1 - i) (by omega) (by omega)) ci_X1_sameRows cv_X1_sameRows k1106 ⟨rfl, rfl, by rw [hR]; decide, by rw [hR]; decide⟩ hP (hP.recv hZ.1 0 (by decide) rfl rfl rfl) hl.1 rfl (Nat.le_of_ble_eq_true rfl) dX1_sameReversed_20 ⟨by rw [hR]; decide, by rw [hR]; decide⟩ rfl ?_
        refine z_bne (tgt := 28) S dX1_sameReversed_23 (by decide) (fun h5 => ?_) (fun h5 => ?_)
        · refine z_inc S (lv' := [(1, .int (nI (i + 1))), (0, .ref (o))]) (k := 1) (b := 1) dX1_sameReversed_28 hl rfl (by decide) (by decide) rfl (fun ls hl => ?_)
          refine lv_goto (tgt := 2) S.1 S.2.1 dX1_sameReversed_31 (by decide) ?_
          exact ih (i + 1) ls (by omega) (by omega) (fun k hk => by rcases (show k < i ∨ k = i by omega) with z | z; exact hx k z; subst z; exact h5) (lv_sub hl [1, 0] rfl)
        · refine z_ic S (k := 0) dX1_sameReversed_26 (by decide) ?_
          exact z_ri hQ S hr hlk rfl (by rw [zSy, zAll_f (i := i) h5 h4]; rfl) dX1_sameReversed_27
  exact loop (f 0 3 + 1) 0 ls (Nat.zero_le _) (by omega) (fun k hk => absurd hk (Nat.not_lt_zero k)) (lv_sub hl [1, 0] rfl)
theorem zLr_le (f : Nat → Nat → Nat) (c : Nat) : ∀ n, (zLr f c n).1 ≤ n ∧ (zLr f c n).2 ≤ n
  | 0 => by simp [zLr]
  | n + 1 => by
    have h := zLr_le f c n
    simp only [zLr]
    refine ⟨Nat.max_le.mpr ⟨by omega, ?_⟩, ?_⟩ <;> split <;> omega
theorem ci_X1_longestRaisedRun : zCI yX1_longestRaisedRun cX1_longestRaisedRun 5 (some .int) 1 := ⟨k1209, k4, by decide +kernel⟩
theorem cv_X1_longestRaisedRun : Cond.instanceMethod yX1_longestRaisedRun ∈ GW ∧ Cond.selects (yX1_longestRaisedRun).cls yX1_longestRaisedRun yX1_longestRaisedRun ∈ GW := ⟨k1207, k1208⟩
set_option maxRecDepth 20000 in
set_option maxHeartbeats 4000000 in
/-- Cloth.longestRaisedRun(c0) -/
theorem c_X1_longestRaisedRun (l : Launch) (g : ZG) {B : Nat} {o : Nat} (f : Nat → Nat → Nat) (hw : zKo f) (c0 : Nat) (h9 : c0 < 16) : Met l yX1_longestRaisedRun (.code yX1_longestRaisedRun cX1_longestRaisedRun 5 (some .int) :: GW) { frames := 1, cells := 0, slots := 0, locals := 40 } (va_Pc [.ref o, .int (nI c0)] (zPre g B (fun H => zPm g o 4 TC f H))) (zR (some (.int (nI (zLr f c0 (f 0 3)).1)))) 0 0 (fun _ => False) := by
  refine zMet (by decide) (Nat.le_of_ble_eq_true rfl) ?_
  intro p e R s m args below meth c Q ls hR hargs hQ S hr hlk hP hZ hS hnm hl
  have hl : lv_has ls 5 [(0, .ref (o)), (1, .int (nI (c0)))] := hl
  refine z_ic S (k := 0) dX1_longestRaisedRun_0 (by decide) ?_
  refine lv_istore_n (lv' := [(2, .int (nI (0))), (0, .ref (o)), (1, .int (nI (c0)))]) S.1 S.2.1 dX1_longestRaisedRun_1 rfl hl (by decide) rfl (fun ls hl => ?_)
  refine z_ic S (k := 0) dX1_longestRaisedRun_2 (by decide) ?_
  refine lv_istore_n (lv' := [(3, .int (nI (0))), (2, .int (nI (0))), (0, .ref (o)), (1, .int (nI (c0)))]) S.1 S.2.1 dX1_longestRaisedRun_3 rfl hl (by decide) rfl (fun ls hl => ?_)
  refine z_ic S (k := 0) dX1_longestRaisedRun_4 (by decide) ?_
  refine lv_istore (lv' := [(4, .int (nI (0))), (3, .int (nI (0))), (2, .int (nI (0))), (0, .ref (o)), (1, .int (nI (c0)))]) S.1 S.2.1 dX1_longestRaisedRun_5 hl (by decide) rfl (fun ls hl => ?_)
  have loop : ∀ (n i x y : Nat) (ls : Array Slot), (i ≤ f 0 3) → (f 0 3 < i + n) → (x = (zLr f c0 i).1) → (y = (zLr f c0 i).2) → lv_has ls 5 [(0, .ref (o)), (1, .int (nI (c0))), (2, .int (nI (x))), (3, .int (nI (y))), (4, .int (nI (i)))] → W p l e R s m args below meth c s.heap [] 0 0 Q (F0 m 7 ls []) := by
    intro n
    induction n with
    | zero => intro i x y ls h1 h2 hx hy hl; exact absurd h2 (by omega)
    | succ n ih =>
      intro i x y ls h1 h2 hx hy hl
      refine lv_iload S.1 S.2.1 dX1_longestRaisedRun_7 (lv_at hl 4 rfl) ?_
      refine lv_aload_n S.1 S.2.1 dX1_longestRaisedRun_9 rfl (lv_at hl 0 rfl) ?_
      refine z_get (v := .int (nI (f 0 3))) S hZ.1 hP 0 (by decide) rfl rfl rfl 3 (by decide) rfl k87 dX1_longestRaisedRun_10 ?_
      refine z_cge (tgt := 46) S (by have := hw.1; omega) hw.c dX1_longestRaisedRun_13 (by decide) (fun h4 => ?_) (fun h4 => ?_)
      · refine lv_iload_n S.1 S.2.1 dX1_longestRaisedRun_46 rfl (lv_at hl 2 rfl) ?_
        obtain rfl : i = f 0 3 := by omega
        exact z_ri hQ S hr hlk (zn_int _) (by rw [hx]) dX1_longestRaisedRun_47
      · have hle := zLr_le f c0 i
        refine lv_aload_n S.1 S.2.1 dX1_longestRaisedRun_16 rfl (lv_at hl 0 rfl) ?_
        refine lv_iload S.1 S.2.1 dX1_longestRaisedRun_17 (lv_at hl 4 rfl) ?_
        refine lv_iload_n S.1 S.2.1 dX1_longestRaisedRun_19 rfl (lv_at hl 1 rfl) ?_
        refine z_cV (v := some (.int (nI (zBt (f 1 i) c0).toNat))) (rest := []) (As := [.int (nI (i)), .int (nI (c0))]) S hZ hS (c_X1_raisedAt l g f hw i c0 h4 h9) ci_X1_raisedAt cv_X1_raisedAt k1210 ⟨rfl, rfl, by rw [hR]; decide, by rw [hR]; decide⟩ hP (hP.recv hZ.1 0 (by decide) rfl rfl rfl) hl.1 rfl (Nat.le_of_ble_eq_true rfl) dX1_longestRaisedRun_20 ⟨by rw [hR]; decide, by rw [hR]; decide⟩ rfl ?_
        refine z_beq (tgt := 32) S dX1_longestRaisedRun_23 (by decide) (fun h5 => ?_) (fun h5 => ?_)
        · refine z_ic S (k := 0) dX1_longestRaisedRun_32 (by decide) ?_
          refine lv_istore_n (lv' := [(3, .int (nI (0))), (0, .ref (o)), (1, .int (nI (c0))), (2, .int (nI (x))), (4, .int (nI (i)))]) S.1 S.2.1 dX1_longestRaisedRun_33 rfl hl (by decide) rfl (fun ls hl => ?_)
          refine lv_iload_n S.1 S.2.1 dX1_longestRaisedRun_34 rfl (lv_at hl 3 rfl) ?_
          refine lv_iload_n S.1 S.2.1 dX1_longestRaisedRun_35 rfl (lv_at hl 0 rfl) ?_
          refine z_max S (by have := hw.1; omega) (by omega) hl.1 k1211 ⟨k767, k21, k768⟩ (by rw [hR]; decide) (by rw [hR]; decide) (by rw [hR]; decide) (by rw [hR]; decide) dX1_longestRaisedRun_36 ?_
          refine lv_istore_n (lv' := [(2, .int (nI (max x 0))), (3, .int (nI (0))), (0, .ref (o)), (1, .int (nI (c0))), (4, .int (nI (i)))]) S.1 S.2.1 dX1_longestRaisedRun_39 rfl hl (by decide) rfl (fun ls hl => ?_)
          refine z_inc S (lv' := [(4, .int (nI (i + 1))), (2, .int (nI (max x 0))), (3, .int (nI (0))), (0, .ref (o)), (1, .int (nI (c0)))]) (k := 4) (b := 1) dX1_longestRaisedRun_40 hl rfl (by decide) (by decide) rfl (fun ls hl => ?_)
          refine lv_goto (tgt := 7) S.1 S.2.1 dX1_longestRaisedRun_43 (by decide) ?_
          exact ih (i + 1) (max x 0) 0 ls (by omega) (by omega) (by simp only [zLr]; rw [hx, h5]; simp) (by simp only [zLr]; rw [h5]; simp) (lv_sub hl [3, 4, 1, 2, 0] rfl)
        · refine lv_iload_n S.1 S.2.1 dX1_longestRaisedRun_26 rfl (lv_at hl 3 rfl) ?_
          refine z_ic S (k := 1) dX1_longestRaisedRun_27 (by decide) ?_
          refine z_add S dX1_longestRaisedRun_28 ?_
          refine lv_goto (tgt := 33) S.1 S.2.1 dX1_longestRaisedRun_29 (by decide) ?_
          refine lv_istore_n (lv' := [(3, .int (nI (y + 1))), (0, .ref (o)), (1, .int (nI (c0))), (2, .int (nI (x))), (4, .int (nI (i)))]) S.1 S.2.1 dX1_longestRaisedRun_33 rfl hl (by decide) rfl (fun ls hl => ?_)
          refine lv_iload_n S.1 S.2.1 dX1_longestRaisedRun_34 rfl (lv_at hl 3 rfl) ?_
          refine lv_iload_n S.1 S.2.1 dX1_longestRaisedRun_35 rfl (lv_at hl 0 rfl) ?_
          refine z_max S (by have := hw.1; omega) (by have := hw.1; omega) hl.1 k1211 ⟨k767, k21, k768⟩ (by rw [hR]; decide) (by rw [hR]; decide) (by rw [hR]; decide) (by rw [hR]; decide) dX1_longestRaisedRun_36 ?_
          refine lv_istore_n (lv' := [(2, .int (nI (max x (y + 1)))), (3, .int (nI (y + 1))), (0, .ref (o)), (1, .int (nI (c0))), (4, .int (nI (i)))]) S.1 S.2.1 dX1_longestRaisedRun_39 rfl hl (by decide) rfl (fun ls hl => ?_)
          refine z_inc S (lv' := [(4, .int (nI (i + 1))), (2, .int (nI (max x (y + 1)))), (3, .int (nI (y + 1))), (0, .ref (o)), (1, .int (nI (c0)))]) (k := 4) (b := 1) dX1_longestRaisedRun_40 hl rfl (by decide) (by decide) rfl (fun ls hl => ?_)
          refine lv_goto (tgt := 7) S.1 S.2.1 dX1_longestRaisedRun_43 (by decide) ?_
          exact ih (i + 1) (max x (y + 1)) (y + 1) ls (by omega) (by omega) (by simp only [zLr]; rw [hx, hy, h5]; simp) (by simp only [zLr]; rw [hy, h5]; simp) (lv_sub hl [3, 4, 1, 2, 0] rfl)
  exact loop (f 0 3 + 1) 0 0 0 ls (Nat.zero_le _) (by omega) rfl rfl (lv_sub hl [3, 4, 2, 1, 0] rfl)
theorem ci_X1_firstKnottedRow : zCI yX1_firstKnottedRow cX1_firstKnottedRow 3 (some .int) 1 := ⟨k1235, k4, by decide +kernel⟩
theorem cv_X1_firstKnottedRow : Cond.instanceMethod yX1_firstKnottedRow ∈ GW ∧ Cond.selects (yX1_firstKnottedRow).cls yX1_firstKnottedRow yX1_firstKnottedRow ∈ GW := ⟨k1233, k1234⟩
set_option maxRecDepth 20000 in
set_option maxHeartbeats 4000000 in
/-- Cloth.firstKnottedRow(a), found -/
theorem c_X1_firstKnottedRow (l : Launch) (g : ZG) {B : Nat} {o : Nat} (f : Nat → Nat → Nat) (hw : zKo f) (a b : Nat) (hab : a ≤ b) (hb : b < f 0 3) (hno : ∀ k, a ≤ k → k < b → f 3 k = 0) (hyes : ¬ f 3 b = 0) : Met l yX1_firstKnottedRow (.code yX1_firstKnottedRow cX1_firstKnottedRow 3 (some .int) :: GW) { frames := 0, cells := 0, slots := 0, locals := 0 } (va_Pc [.ref o, .int (nI a)] (zPre g B (fun H => zPm g o 4 TC f H))) (zR (some (.int (nI b)))) 0 0 (fun _ => False) := by
  refine zMet (by decide) (Nat.le_of_ble_eq_true rfl) ?_
  intro p e R s m args below meth c Q ls hR hargs hQ S hr hlk hP hZ hS hnm hl
  have hl : lv_has ls 3 [(0, .ref (o)), (1, .int (nI (a)))] := hl
  refine lv_iload_n S.1 S.2.1 dX1_firstKnottedRow_0 rfl (lv_at hl 1 rfl) ?_
  refine lv_istore_n (lv' := [(2, .int (nI (a))), (0, .ref (o)), (1, .int (nI (a)))]) S.1 S.2.1 dX1_firstKnottedRow_1 rfl hl (by decide) rfl (fun ls hl => ?_)
  have loop : ∀ (n i : Nat) (ls : Array Slot), (a ≤ i) → (i ≤ b) → (b < i + n) → lv_has ls 3 [(0, .ref (o)), (1, .int (nI (a))), (2, .int (nI (i)))] → W p l e R s m args below meth c s.heap [] 0 0 Q (F0 m 2 ls []) := by
    intro n
    induction n with
    | zero => intro i ls h1 h3 h2 hl; exact absurd h2 (by omega)
    | succ n ih =>
      intro i ls h1 h3 h2 hl
      refine lv_iload_n S.1 S.2.1 dX1_firstKnottedRow_2 rfl (lv_at hl 2 rfl) ?_
      refine lv_aload_n S.1 S.2.1 dX1_firstKnottedRow_3 rfl (lv_at hl 0 rfl) ?_
      refine z_get (v := .int (nI (f 0 3))) S hZ.1 hP 0 (by decide) rfl rfl rfl 3 (by decide) rfl k87 dX1_firstKnottedRow_4 ?_
      refine z_cge (tgt := 27) S (by have := hw.1; omega) hw.c dX1_firstKnottedRow_7 (by decide) (fun h4 => ?_) (fun h4 => ?_)
      · exact absurd h4 (by omega)
      · refine lv_aload_n S.1 S.2.1 dX1_firstKnottedRow_10 rfl (lv_at hl 0 rfl) ?_
        refine z_get (v := .ref (o + 3)) S hZ.1 hP 0 (by decide) rfl rfl rfl 2 (by decide) rfl k86 dX1_firstKnottedRow_11 ?_
        refine lv_iload_n S.1 S.2.1 dX1_firstKnottedRow_14 rfl (lv_at hl 2 rfl) ?_
        refine z_iald S hZ.1 hP 3 (by decide) rfl rfl (i := i) (by have := hw.1; omega) (by decide) dX1_firstKnottedRow_15 ?_
        refine z_ieq (tgt := 21) S (hw.k i) dX1_firstKnottedRow_16 (by decide) (fun h5 => ?_) (fun h5 => ?_)
        · refine z_inc S (lv' := [(2, .int (nI (i + 1))), (0, .ref (o)), (1, .int (nI (a)))]) (k := 2) (b := 1) dX1_firstKnottedRow_21 hl rfl (by decide) (by decide) rfl (fun ls hl => ?_)
          refine lv_goto (tgt := 2) S.1 S.2.1 dX1_firstKnottedRow_24 (by decide) ?_
          exact ih (i + 1) ls (by omega) (by rcases (show i < b ∨ i = b by omega) with z | z; omega; subst z; exact absurd h5 hyes) (by omega) (lv_sub hl [1, 2, 0] rfl)
        · refine lv_iload_n S.1 S.2.1 dX1_firstKnottedRow_19 rfl (lv_at hl 2 rfl) ?_
          exact z_ri hQ S hr hlk (zn_int _) (by rw [show b = i by rcases (show i < b ∨ i = b by omega) with z | z; exact absurd (hno i (by omega) z) h5; exact z.symm]) dX1_firstKnottedRow_20
  exact loop (b + 1) a ls (Nat.le_refl _) hab (by omega) (lv_sub hl [1, 2, 0] rfl)
set_option maxRecDepth 20000 in
set_option maxHeartbeats 4000000 in
/-- Cloth.firstKnottedRow(a), none -/
theorem c_X1_firstKnottedRowN (l : Launch) (g : ZG) {B : Nat} {o : Nat} (f : Nat → Nat → Nat) (hw : zKo f) (a : Nat) (ha : a ≤ f 0 3) (hno : ∀ k, a ≤ k → k < f 0 3 → f 3 k = 0) : Met l yX1_firstKnottedRow (.code yX1_firstKnottedRow cX1_firstKnottedRow 3 (some .int) :: GW) { frames := 0, cells := 0, slots := 0, locals := 0 } (va_Pc [.ref o, .int (nI a)] (zPre g B (fun H => zPm g o 4 TC f H))) (zR (some (.int (-1)))) 0 0 (fun _ => False) := by
  refine zMet (by decide) (Nat.le_of_ble_eq_true rfl) ?_
  intro p e R s m args below meth c Q ls hR hargs hQ S hr hlk hP hZ hS hnm hl
  have hl : lv_has ls 3 [(0, .ref (o)), (1, .int (nI (a)))] := hl
  refine lv_iload_n S.1 S.2.1 dX1_firstKnottedRow_0 rfl (lv_at hl 1 rfl) ?_
  refine lv_istore_n (lv' := [(2, .int (nI (a))), (0, .ref (o)), (1, .int (nI (a)))]) S.1 S.2.1 dX1_firstKnottedRow_1 rfl hl (by decide) rfl (fun ls hl => ?_)
  have loop : ∀ (n i : Nat) (ls : Array Slot), (a ≤ i) → (i ≤ f 0 3) → (f 0 3 < i + n) → lv_has ls 3 [(0, .ref (o)), (1, .int (nI (a))), (2, .int (nI (i)))] → W p l e R s m args below meth c s.heap [] 0 0 Q (F0 m 2 ls []) := by
    intro n
    induction n with
    | zero => intro i ls h1 h3 h2 hl; exact absurd h2 (by omega)
    | succ n ih =>
      intro i ls h1 h3 h2 hl
      refine lv_iload_n S.1 S.2.1 dX1_firstKnottedRow_2 rfl (lv_at hl 2 rfl) ?_
      refine lv_aload_n S.1 S.2.1 dX1_firstKnottedRow_3 rfl (lv_at hl 0 rfl) ?_
      refine z_get (v := .int (nI (f 0 3))) S hZ.1 hP 0 (by decide) rfl rfl rfl 3 (by decide) rfl k87 dX1_firstKnottedRow_4 ?_
      refine z_cge (tgt := 27) S (by have := hw.1; omega) hw.c dX1_firstKnottedRow_7 (by decide) (fun h4 => ?_) (fun h4 => ?_)
      · refine lv_iconst (v := -1) S.1 S.2.1 dX1_firstKnottedRow_27 (by decide) ?_
        exact z_ri hQ S hr hlk (zn_int _) rfl dX1_firstKnottedRow_28
      · refine lv_aload_n S.1 S.2.1 dX1_firstKnottedRow_10 rfl (lv_at hl 0 rfl) ?_
        refine z_get (v := .ref (o + 3)) S hZ.1 hP 0 (by decide) rfl rfl rfl 2 (by decide) rfl k86 dX1_firstKnottedRow_11 ?_
        refine lv_iload_n S.1 S.2.1 dX1_firstKnottedRow_14 rfl (lv_at hl 2 rfl) ?_
        refine z_iald S hZ.1 hP 3 (by decide) rfl rfl (i := i) (by have := hw.1; omega) (by decide) dX1_firstKnottedRow_15 ?_
        refine z_ieq (tgt := 21) S (hw.k i) dX1_firstKnottedRow_16 (by decide) (fun h5 => ?_) (fun h5 => ?_)
        · refine z_inc S (lv' := [(2, .int (nI (i + 1))), (0, .ref (o)), (1, .int (nI (a)))]) (k := 2) (b := 1) dX1_firstKnottedRow_21 hl rfl (by decide) (by decide) rfl (fun ls hl => ?_)
          refine lv_goto (tgt := 2) S.1 S.2.1 dX1_firstKnottedRow_24 (by decide) ?_
          exact ih (i + 1) ls (by omega) (by omega) (by omega) (lv_sub hl [1, 2, 0] rfl)
        · exact absurd (hno i h1 h4) h5
  exact loop (f 0 3 + 1) a ls (Nat.le_refl _) ha (by omega) (lv_sub hl [1, 2, 0] rfl)
theorem ci_X1_firstKnottedColumn : zCI yX1_firstKnottedColumn cX1_firstKnottedColumn 3 (some .int) 1 := ⟨k1246, k4, by decide +kernel⟩
theorem cv_X1_firstKnottedColumn : Cond.instanceMethod yX1_firstKnottedColumn ∈ GW ∧ Cond.selects (yX1_firstKnottedColumn).cls yX1_firstKnottedColumn yX1_firstKnottedColumn ∈ GW := ⟨k1244, k1245⟩
set_option maxRecDepth 20000 in
set_option maxHeartbeats 4000000 in
/-- Cloth.firstKnottedColumn(r) -/
theorem c_X1_firstKnottedColumn (l : Launch) (g : ZG) {B : Nat} {o : Nat} (f : Nat → Nat → Nat) (hw : zKo f) (r b : Nat) (h9 : r < f 0 3) (hb : b ≤ 15) (hno : ∀ k, k < b → zBt (f 3 r) k = false) (hyes : b < 15 → zBt (f 3 r) b = true) : Met l yX1_firstKnottedColumn (.code yX1_firstKnottedColumn cX1_firstKnottedColumn 3 (some .int) :: GW) { frames := 1, cells := 0, slots := 0, locals := 22 } (va_Pc [.ref o, .int (nI r)] (zPre g B (fun H => zPm g o 4 TC f H))) (zR (some (.int (nI b)))) 0 0 (fun _ => False) := by
  refine zMet (by decide) (Nat.le_of_ble_eq_true rfl) ?_
  intro p e R s m args below meth c Q ls hR hargs hQ S hr hlk hP hZ hS hnm hl
  have hl : lv_has ls 3 [(0, .ref (o)), (1, .int (nI (r)))] := hl
  refine z_ic S (k := 0) dX1_firstKnottedColumn_0 (by decide) ?_
  refine lv_istore_n (lv' := [(2, .int (nI (0))), (0, .ref (o)), (1, .int (nI (r)))]) S.1 S.2.1 dX1_firstKnottedColumn_1 rfl hl (by decide) rfl (fun ls hl => ?_)
  have loop : ∀ (n i : Nat) (ls : Array Slot), (i ≤ b) → (b < i + n) → lv_has ls 3 [(0, .ref (o)), (1, .int (nI (r))), (2, .int (nI (i)))] → W p l e R s m args below meth c s.heap [] 0 0 Q (F0 m 2 ls []) := by
    intro n
    induction n with
    | zero => intro i ls h1 h2 hl; exact absurd h2 (by omega)
    | succ n ih =>
      intro i ls h1 h2 hl
      refine lv_iload_n S.1 S.2.1 dX1_firstKnottedColumn_2 rfl (lv_at hl 2 rfl) ?_
      refine z_bi S (k := 15) dX1_firstKnottedColumn_3 (by decide) ?_
      refine z_cge (tgt := 23) S (by omega) (by omega) dX1_firstKnottedColumn_5 (by decide) (fun h4 => ?_) (fun h4 => ?_)
      · refine lv_iload_n S.1 S.2.1 dX1_firstKnottedColumn_23 rfl (lv_at hl 2 rfl) ?_
        exact z_ri hQ S hr hlk (zn_int _) (by rw [show b = i by omega]) dX1_firstKnottedColumn_24
      · refine lv_aload_n S.1 S.2.1 dX1_firstKnottedColumn_8 rfl (lv_at hl 0 rfl) ?_
        refine lv_iload_n S.1 S.2.1 dX1_firstKnottedColumn_9 rfl (lv_at hl 1 rfl) ?_
        refine lv_iload_n S.1 S.2.1 dX1_firstKnottedColumn_10 rfl (lv_at hl 2 rfl) ?_
        refine z_cV (v := some (.int (nI (zBt (f 3 r) i).toNat))) (rest := []) (As := [.int (nI (r)), .int (nI (i))]) S hZ hS (c_X1_knottedAt l g f hw r i h9 (by omega)) ci_X1_knottedAt cv_X1_knottedAt k1247 ⟨rfl, rfl, by rw [hR]; decide, by rw [hR]; decide⟩ hP (hP.recv hZ.1 0 (by decide) rfl rfl rfl) hl.1 rfl (Nat.le_of_ble_eq_true rfl) dX1_firstKnottedColumn_11 ⟨by rw [hR]; decide, by rw [hR]; decide⟩ rfl ?_
        refine z_bne (tgt := 23) S dX1_firstKnottedColumn_14 (by decide) (fun h5 => ?_) (fun h5 => ?_)
        · refine lv_iload_n S.1 S.2.1 dX1_firstKnottedColumn_23 rfl (lv_at hl 2 rfl) ?_
          exact z_ri hQ S hr hlk (zn_int _) (by rw [show b = i by rcases (show i < b ∨ i = b by omega) with z | z; rw [hno i z] at h5; cases h5; exact z.symm]) dX1_firstKnottedColumn_24
        · refine z_inc S (lv' := [(2, .int (nI (i + 1))), (0, .ref (o)), (1, .int (nI (r)))]) (k := 2) (b := 1) dX1_firstKnottedColumn_17 hl rfl (by decide) (by decide) rfl (fun ls hl => ?_)
          refine lv_goto (tgt := 2) S.1 S.2.1 dX1_firstKnottedColumn_20 (by decide) ?_
          exact ih (i + 1) ls (by rcases (show i < b ∨ i = b by omega) with z | z; omega; subst z; rw [hyes h4] at h5; cases h5) (by omega) (lv_sub hl [1, 2, 0] rfl)
  exact loop (b + 1) 0 ls (Nat.zero_le _) (by omega) (lv_sub hl [1, 2, 0] rfl)
theorem zCk_end {g : ZG} {o : Nat} {f f2 : Nat → Nat → Nat} {H : Heap} (h : zPm g o 4 TC (va_up (va_up (va_up (va_up f 1 (f2 1)) 2 (f2 2)) 3 (f2 3)) 0 (va_up (f 0) 3 (f2 0 3))) H) : zPm g o 4 TC f2 H := by
  refine h.cg (fun k hk a hv => ?_)
  match k, hk with
  | 0, _ => exact hv
  | 1, _ => exact hv
  | 2, _ => exact hv
  | 3, _ => exact hv
  | k + 4, hk => exact absurd hk (by omega)
theorem ci_X1_copyFrom : zCI yX1_copyFrom cX1_copyFrom 2 none 1 := ⟨k307, k4, by decide +kernel⟩
theorem cv_X1_copyFrom : Cond.instanceMethod yX1_copyFrom ∈ GW ∧ Cond.selects (yX1_copyFrom).cls yX1_copyFrom yX1_copyFrom ∈ GW := ⟨k305, k306⟩
set_option maxRecDepth 20000 in
set_option maxHeartbeats 4000000 in
/-- Cloth.copyFrom(other) -/
theorem c_X1_copyFrom (l : Launch) (g : ZG) {B : Nat} {o o2 : Nat} (hB : B ≤ o) (hd : o2 + 4 ≤ o ∨ o + 4 ≤ o2) (f f2 : Nat → Nat → Nat) : Met l yX1_copyFrom (.code yX1_copyFrom cX1_copyFrom 2 none :: GW) { frames := 1, cells := 0, slots := 0, locals := 60 } (va_Pc [.ref o, .ref o2] (zPre g B (fun H => zPm g o 4 TC f H ∧ zPm g o2 4 TC f2 H))) (zX (fun v H => v = none ∧ zPm g o 4 TC f2 H) o 4) 0 0 (zA B) := by
  refine zMet (by decide) (Nat.le_of_ble_eq_true rfl) ?_
  intro p e R s m args below meth c Q ls hR hargs hQ S hr hlk hP hZ hS hnm hl
  have hl : lv_has ls 2 [(0, .ref (o)), (1, .ref (o2))] := hl
  obtain ⟨hP, hP2⟩ := hP
  have hC : zCh1 o 4 s.heap s.heap := zCh1.rf
  refine lv_aload_n S.1 S.2.1 dX1_copyFrom_0 rfl (lv_at hl 1 rfl) ?_
  refine z_get (v := .ref (o2 + 1)) S hZ.1 hP2 0 (by decide) rfl rfl rfl 0 (by decide) rfl k81 dX1_copyFrom_1 ?_
  refine z_ic S (k := 0) dX1_copyFrom_4 (by decide) ?_
  refine lv_aload_n S.1 S.2.1 dX1_copyFrom_5 rfl (lv_at hl 0 rfl) ?_
  refine z_get (v := .ref (o + 1)) S hZ.1 hP 0 (by decide) rfl rfl rfl 0 (by decide) rfl k81 dX1_copyFrom_6 ?_
  refine z_ic S (k := 0) dX1_copyFrom_9 (by decide) ?_
  refine z_bi S (k := 40) dX1_copyFrom_10 (by decide) ?_
  refine z_copy S hl.1 hZ.1 hP hP2 hS hB 1 (by decide) rfl 1 (by decide) rfl rfl rfl (f2 1) rfl (by decide) k308 ⟨k310, k309, k20⟩ (by rw [hR]; decide) (by rw [hR]; exact Nat.le_of_ble_eq_true rfl) dX1_copyFrom_12 (fun H1 locs1 hPn hCn hSn => ?_)
  have hP := hPn; have hS := hSn; have hC := hC.tr (hCn.mono (b := o) (k := 4) (by omega) (by omega))
  have hP2 := hP2.kept hCn (by omega)
  refine lv_aload_n S.1 S.2.1 dX1_copyFrom_15 rfl (lv_at hl 1 rfl) ?_
  refine z_get (v := .ref (o2 + 2)) S hZ.1 hP2 0 (by decide) rfl rfl rfl 1 (by decide) rfl k83 dX1_copyFrom_16 ?_
  refine z_ic S (k := 0) dX1_copyFrom_19 (by decide) ?_
  refine lv_aload_n S.1 S.2.1 dX1_copyFrom_20 rfl (lv_at hl 0 rfl) ?_
  refine z_get (v := .ref (o + 2)) S hZ.1 hP 0 (by decide) rfl rfl rfl 1 (by decide) rfl k83 dX1_copyFrom_21 ?_
  refine z_ic S (k := 0) dX1_copyFrom_24 (by decide) ?_
  refine z_bi S (k := 40) dX1_copyFrom_25 (by decide) ?_
  refine z_copy S hl.1 hZ.1 hP hP2 hS hB 2 (by decide) rfl 2 (by decide) rfl rfl rfl (f2 2) rfl (by decide) k308 ⟨k310, k309, k20⟩ (by rw [hR]; decide) (by rw [hR]; exact Nat.le_of_ble_eq_true rfl) dX1_copyFrom_27 (fun H1 locs1 hPn hCn hSn => ?_)
  have hP := hPn; have hS := hSn; have hC := hC.tr (hCn.mono (b := o) (k := 4) (by omega) (by omega))
  have hP2 := hP2.kept hCn (by omega)
  refine lv_aload_n S.1 S.2.1 dX1_copyFrom_30 rfl (lv_at hl 1 rfl) ?_
  refine z_get (v := .ref (o2 + 3)) S hZ.1 hP2 0 (by decide) rfl rfl rfl 2 (by decide) rfl k86 dX1_copyFrom_31 ?_
  refine z_ic S (k := 0) dX1_copyFrom_34 (by decide) ?_
  refine lv_aload_n S.1 S.2.1 dX1_copyFrom_35 rfl (lv_at hl 0 rfl) ?_
  refine z_get (v := .ref (o + 3)) S hZ.1 hP 0 (by decide) rfl rfl rfl 2 (by decide) rfl k86 dX1_copyFrom_36 ?_
  refine z_ic S (k := 0) dX1_copyFrom_39 (by decide) ?_
  refine z_bi S (k := 40) dX1_copyFrom_40 (by decide) ?_
  refine z_copy S hl.1 hZ.1 hP hP2 hS hB 3 (by decide) rfl 3 (by decide) rfl rfl rfl (f2 3) rfl (by decide) k308 ⟨k310, k309, k20⟩ (by rw [hR]; decide) (by rw [hR]; exact Nat.le_of_ble_eq_true rfl) dX1_copyFrom_42 (fun H1 locs1 hPn hCn hSn => ?_)
  have hP := hPn; have hS := hSn; have hC := hC.tr (hCn.mono (b := o) (k := 4) (by omega) (by omega))
  have hP2 := hP2.kept hCn (by omega)
  refine lv_aload_n S.1 S.2.1 dX1_copyFrom_45 rfl (lv_at hl 0 rfl) ?_
  refine lv_aload_n S.1 S.2.1 dX1_copyFrom_46 rfl (lv_at hl 1 rfl) ?_
  refine z_get (v := .int (nI (f2 0 3))) S hZ.1 hP2 0 (by decide) rfl rfl rfl 3 (by decide) rfl k87 dX1_copyFrom_47 ?_
  refine z_put (v := .int (nI (f2 0 3))) (ty := .int) S hZ.1 hP hS hB 0 (by decide) rfl rfl rfl 3 (by decide) (va_up ((va_up (va_up (va_up f 1 (f2 1)) 2 (f2 2)) 3 (f2 3)) 0) 3 (f2 0 3)) rfl k87 rfl (by decide +kernel) rfl rfl (Nat.le_of_ble_eq_true rfl) dX1_copyFrom_50 (fun H1 locs1 hPn hCn hSn => ?_)
  have hP := hPn; have hS := hSn; have hC := hC.tr (hCn.mono (b := o) (k := 4) (by omega) (by omega))
  have hP2 := hP2.kept hCn (by omega)
  exact z_wv hQ S hr hlk hS hC ⟨rfl, zCk_end hP⟩ dX1_copyFrom_53
end
section
/-! THE LOOM: its edges, its parts -/
section ZC2
variable {p : Program} {l : Launch} {e : Env} {R : Room} {s : State} {m : MethodId} {args : Array Value} {below : List Frame} {meth : Method} {c : Code} {H : Heap} {locs : List Loc} {cells slots : Nat} {Q : State → Prop}
variable {cc bytes : ByteArray} {pc nL maxL index mc ms a n : Nat} {own : String} {ls : Array Slot} {rest st0 st1 : List Value} {g : ZG} {B : Nat} {y : MethodName} {ret : Option FieldType} {rm : Room} {PH : Heap → Prop} {v0 : Option Value} {b : Addr} {As : List Value} {PW : Heap → Prop}
/-- a virtual call that writes and whose answer is known -/
theorem z_w1 (S : CallFix p m c cc nL s args GW own) (hZ : zS g B s s.heap) (hS : va_S (zA B) s.heap H locs) (hM : Met l y (.code y bytes maxL ret :: GW) rm (va_Pc (.ref b :: As) (zPre g B PH)) (zX (fun v H => v = v0 ∧ PW H) a n) mc ms (zA B)) (hB : B ≤ a) (hI : zCI y bytes maxL ret As.length) (hV : Cond.instanceMethod y ∈ GW ∧ Cond.selects y.cls y y ∈ GW) (hlink : Cond.methodLink own index y ∈ GW) (hrm : zRm rm R maxL mc ms) (hPH : PH H) (hrv : ∃ cell : Cell, H[b]? = some cell ∧ cell.vm.isStatics = false ∧ s.vm.findClass y.cls = some cell.cls) (hsize : ls.size = nL) (hst0 : st0 = As.reverse ++ .ref b :: rest) (hcat : (rest.map fun v => v.category).sum ≤ 8) (hdg : decode cc pc = .ok (.invokevirtual index, 3)) (hf : cells + mc ≤ R.cells ∧ slots + ms ≤ R.slots) (hst1 : v0.toList ++ rest = st1)
    (kk : ∀ (H1 : Heap) (locs1 : List Loc), PW H1 → zCh1 a n H H1 → va_S (zA B) s.heap H1 locs1 → W p l e R s m args below meth c H1 locs1 (cells + mc) (slots + ms) Q (F0 m (pc + 3) ls st1)) : W p l e R s m args below meth c H locs cells slots Q (F0 m pc ls st0) :=
  z_wV S hZ hS hM hB hI hV hlink hrm hPH hrv hsize hst0 hcat hdg hf (fun v H1 locs1 hv hC hS1 => by
    obtain ⟨rfl, hw⟩ := hv
    rw [hst1]
    exact kk H1 locs1 hw hC hS1)
end ZC2
def zEo (f : Nat → Nat → Nat) : Prop := f 0 0 ≤ 4 ∧ f 0 1 ≤ 4
/-- an edge feels a row -/
def zFe (f : Nat → Nat → Nat) (b : Bool) : Nat → Nat → Nat := va_up f 0 (if b = true ∧ f 0 0 = 4 then va_up (va_up (f 0) 0 0) 1 (min (f 0 1 + 1) 4) else va_up (f 0) 0 (if b = true then f 0 0 + 1 else 0))
theorem zFe_ok {f : Nat → Nat → Nat} (h : zEo f) (b : Bool) : zEo (zFe f b) := by
  obtain ⟨h1, h2⟩ := h
  unfold zEo zFe
  by_cases hb : b = true ∧ f 0 0 = 4
  · rw [if_pos hb]
    exact ⟨by show (0 : Nat) ≤ 4; omega, by show min (f 0 1 + 1) 4 ≤ 4; omega⟩
  · rw [if_neg hb]
    refine ⟨?_, h2⟩
    show (if b = true then f 0 0 + 1 else 0) ≤ 4
    split
    · rename_i hb2
      have : ¬ f 0 0 = 4 := fun z => hb ⟨hb2, z⟩
      omega
    · omega
theorem ci_X3_repair : zCI yX3_repair cX3_repair 1 (some .int) 0 := ⟨k626, k5, by decide +kernel⟩
theorem cv_X3_repair : Cond.instanceMethod yX3_repair ∈ GW ∧ Cond.selects (yX3_repair).cls yX3_repair yX3_repair ∈ GW := ⟨k624, k625⟩
set_option maxRecDepth 20000 in
set_option maxHeartbeats 4000000 in
/-- Edge.repair() -/
theorem c_X3_repair (l : Launch) (g : ZG) {B : Nat} {o : Nat} (hB : B ≤ o) (f : Nat → Nat → Nat) (h1 : 1 ≤ f 0 1) : Met l yX3_repair (.code yX3_repair cX3_repair 1 (some .int) :: GW) { frames := 0, cells := 0, slots := 0, locals := 0 } (va_Pc [.ref o] (zPre g B (fun H => zPm g o 1 TE f H))) (zX (fun v H => v = some (.int (nI (f 0 1 - 1))) ∧ zPm g o 1 TE (va_up f 0 (va_up (va_up (f 0) 1 (f 0 1 - 1)) 0 0)) H) o 1) 0 0 (zA B) := by
  refine zMet (by decide) (Nat.le_of_ble_eq_true rfl) ?_
  intro p e R s m args below meth c Q ls hR hargs hQ S hr hlk hP hZ hS hnm hl
  have hl : lv_has ls 1 [(0, .ref (o))] := hl
  have hC : zCh1 o 1 s.heap s.heap := zCh1.rf
  refine lv_aload_n S.1 S.2.1 dX3_repair_0 rfl (lv_at hl 0 rfl) ?_
  refine lv_dup S.1 S.2.1 dX3_repair_1 rfl ?_
  refine z_get (v := .int (nI (f 0 1))) S hZ.1 hP 0 (by decide) rfl rfl rfl 1 (by decide) rfl k107 dX3_repair_2 ?_
  refine z_ic S (k := 1) dX3_repair_5 (by decide) ?_
  refine z_sub S (by omega) dX3_repair_6 ?_
  refine z_put (v := .int (nI ((f 0 1) - 1))) (ty := .int) S hZ.1 hP hS hB 0 (by decide) rfl rfl rfl 1 (by decide) (va_up (f 0) 1 ((f 0 1) - 1)) rfl k107 rfl (by decide +kernel) rfl rfl (Nat.le_of_ble_eq_true rfl) dX3_repair_7 (fun H1 locs1 hPn hCn hSn => ?_)
  have hS := hSn
  have hP := hPn
  have hC := hC.tr (hCn.mono (b := o) (k := 1) (by omega) (by omega))
  refine lv_aload_n S.1 S.2.1 dX3_repair_10 rfl (lv_at hl 0 rfl) ?_
  refine z_ic S (k := 0) dX3_repair_11 (by decide) ?_
  refine z_put (v := .int (nI (0))) (ty := .int) S hZ.1 hP hS hB 0 (by decide) rfl rfl rfl 0 (by decide) (va_up ((va_up f 0 (va_up (f 0) 1 ((f 0 1) - 1))) 0) 0 0) rfl k105 rfl (by decide +kernel) rfl rfl (Nat.le_of_ble_eq_true rfl) dX3_repair_12 (fun H1 locs1 hPn hCn hSn => ?_)
  have hS := hSn
  have hP := hPn
  have hC := hC.tr (hCn.mono (b := o) (k := 1) (by omega) (by omega))
  have hP : zPm g o 1 TE (va_up f 0 (va_up (va_up (f 0) 1 (f 0 1 - 1)) 0 0)) H1 := hP.eq (by funext a b; by_cases ha : a = 0 <;> simp [va_up, ha])
  refine lv_aload_n S.1 S.2.1 dX3_repair_15 rfl (lv_at hl 0 rfl) ?_
  refine z_get (v := .int (nI (f 0 1 - 1))) S hZ.1 hP 0 (by decide) rfl rfl rfl 1 (by decide) rfl k107 dX3_repair_16 ?_
  exact z_wi hQ S hr hlk (zn_int _) hS hC ⟨rfl, hP⟩ dX3_repair_19
theorem ci_X3_copyFrom : zCI yX3_copyFrom cX3_copyFrom 2 none 1 := ⟨k314, k5, by decide +kernel⟩
theorem cv_X3_copyFrom : Cond.instanceMethod yX3_copyFrom ∈ GW ∧ Cond.selects (yX3_copyFrom).cls yX3_copyFrom yX3_copyFrom ∈ GW := ⟨k312, k313⟩
set_option maxRecDepth 20000 in
set_option maxHeartbeats 4000000 in
/-- Edge.copyFrom(other) -/
theorem c_X3_copyFrom (l : Launch) (g : ZG) {B : Nat} {o o2 : Nat} (hB : B ≤ o) (hd : o2 + 1 ≤ o ∨ o + 1 ≤ o2) (f f2 : Nat → Nat → Nat) : Met l yX3_copyFrom (.code yX3_copyFrom cX3_copyFrom 2 none :: GW) { frames := 0, cells := 0, slots := 0, locals := 0 } (va_Pc [.ref o, .ref o2] (zPre g B (fun H => zPm g o 1 TE f H ∧ zPm g o2 1 TE f2 H))) (zX (fun v H => v = none ∧ zPm g o 1 TE f2 H) o 1) 0 0 (zA B) := by
  refine zMet (by decide) (Nat.le_of_ble_eq_true rfl) ?_
  intro p e R s m args below meth c Q ls hR hargs hQ S hr hlk hP hZ hS hnm hl
  have hl : lv_has ls 2 [(0, .ref (o)), (1, .ref (o2))] := hl
  obtain ⟨hP, hP2⟩ := hP
  have hC : zCh1 o 1 s.heap s.heap := zCh1.rf
  refine lv_aload_n S.1 S.2.1 dX3_copyFrom_0 rfl (lv_at hl 0 rfl) ?_
  refine lv_aload_n S.1 S.2.1 dX3_copyFrom_1 rfl (lv_at hl 1 rfl) ?_
  refine z_get (v := .int (nI (f2 0 0))) S hZ.1 hP2 0 (by decide) rfl rfl rfl 0 (by decide) rfl k105 dX3_copyFrom_2 ?_
  refine z_put (v := .int (nI (f2 0 0))) (ty := .int) S hZ.1 hP hS hB 0 (by decide) rfl rfl rfl 0 (by decide) (va_up (f 0) 0 (f2 0 0)) rfl k105 rfl (by decide +kernel) rfl rfl (Nat.le_of_ble_eq_true rfl) dX3_copyFrom_5 (fun H1 locs1 hPn hCn hSn => ?_)
  have hS := hSn
  have hP2 := hP2.kept hCn (by omega)
  have hP := hPn
  have hC := hC.tr (hCn.mono (b := o) (k := 1) (by omega) (by omega))
  refine lv_aload_n S.1 S.2.1 dX3_copyFrom_8 rfl (lv_at hl 0 rfl) ?_
  refine lv_aload_n S.1 S.2.1 dX3_copyFrom_9 rfl (lv_at hl 1 rfl) ?_
  refine z_get (v := .int (nI (f2 0 1))) S hZ.1 hP2 0 (by decide) rfl rfl rfl 1 (by decide) rfl k107 dX3_copyFrom_10 ?_
  refine z_put (v := .int (nI (f2 0 1))) (ty := .int) S hZ.1 hP hS hB 0 (by decide) rfl rfl rfl 1 (by decide) (va_up ((va_up f 0 (va_up (f 0) 0 (f2 0 0))) 0) 1 (f2 0 1)) rfl k107 rfl (by decide +kernel) rfl rfl (Nat.le_of_ble_eq_true rfl) dX3_copyFrom_13 (fun H1 locs1 hPn hCn hSn => ?_)
  have hS := hSn
  have hP2 := hP2.kept hCn (by omega)
  have hP := hPn
  have hC := hC.tr (hCn.mono (b := o) (k := 1) (by omega) (by omega))
  have hP : zPm g o 1 TE f2 H1 := hP.cg (fun k hk a hv => by match k, hk with | 0, _ => exact hv | k + 1, hk => exact absurd hk (by omega))
  exact z_wv hQ S hr hlk hS hC ⟨rfl, hP⟩ dX3_copyFrom_16
theorem ci_X3_feel : zCI yX3_feel cX3_feel 2 none 1 := ⟨k595, k5, by decide +kernel⟩
theorem cv_X3_feel : Cond.instanceMethod yX3_feel ∈ GW ∧ Cond.selects (yX3_feel).cls yX3_feel yX3_feel ∈ GW := ⟨k593, k594⟩
set_option maxRecDepth 20000 in
set_option maxHeartbeats 4000000 in
/-- Edge.feel(b) -/
theorem c_X3_feel (l : Launch) (g : ZG) {B : Nat} {o : Nat} (hB : B ≤ o) (f : Nat → Nat → Nat) (hw : zEo f) (b : Bool) : Met l yX3_feel (.code yX3_feel cX3_feel 2 none :: GW) { frames := 1, cells := 0, slots := 0, locals := 40 } (va_Pc [.ref o, .int (nI b.toNat)] (zPre g B (fun H => zPm g o 1 TE f H))) (zX (fun v H => v = none ∧ zPm g o 1 TE (zFe f b) H) o 1) 0 0 (zA B) := by
  refine zMet (by decide) (Nat.le_of_ble_eq_true rfl) ?_
  intro p e R s m args below meth c Q ls hR hargs hQ S hr hlk hP hZ hS hnm hl
  have hl : lv_has ls 2 [(0, .ref (o)), (1, .int (nI (b).toNat))] := hl
  have hC : zCh1 o 1 s.heap s.heap := zCh1.rf
  obtain ⟨hw0, hw1⟩ := hw
  refine lv_aload_n S.1 S.2.1 dX3_feel_0 rfl (lv_at hl 0 rfl) ?_
  refine lv_iload_n S.1 S.2.1 dX3_feel_1 rfl (lv_at hl 1 rfl) ?_
  refine z_beq (tgt := 14) S dX3_feel_2 (by decide) (fun h1 => ?_) (fun h1 => ?_)
  · refine z_ic S (k := 0) dX3_feel_14 (by decide) ?_
    refine z_put (v := .int (nI (0))) (ty := .int) S hZ.1 hP hS hB 0 (by decide) rfl rfl rfl 0 (by decide) (va_up (f 0) 0 0) rfl k105 rfl (by decide +kernel) rfl rfl (Nat.le_of_ble_eq_true rfl) dX3_feel_15 (fun H1 locs1 hPn hCn hSn => ?_)
    have hS := hSn
    have hP := hPn
    have hC := hC.tr (hCn.mono (b := o) (k := 1) (by omega) (by omega))
    refine lv_aload_n S.1 S.2.1 dX3_feel_18 rfl (lv_at hl 0 rfl) ?_
    refine z_get (v := .int (nI (0))) S hZ.1 hP 0 (by decide) rfl rfl rfl 0 (by decide) rfl k105 dX3_feel_19 ?_
    refine z_ic S (k := 5) dX3_feel_22 (by decide) ?_
    refine z_cne (tgt := 45) S (by omega) (by omega) dX3_feel_23 (by decide) (fun h2 => ?_) (fun h2 => ?_)
    · have hP : zPm g o 1 TE (zFe f b) H1 := hP.eq (by unfold zFe; rw [if_neg (fun z => by rw [h1] at z; exact absurd z.1 (by decide))]; rw [h1]; rfl)
      exact z_wv hQ S hr hlk hS hC ⟨rfl, hP⟩ dX3_feel_45
    · exact absurd h2 (by omega)
  · refine lv_aload_n S.1 S.2.1 dX3_feel_5 rfl (lv_at hl 0 rfl) ?_
    refine z_get (v := .int (nI (f 0 0))) S hZ.1 hP 0 (by decide) rfl rfl rfl 0 (by decide) rfl k105 dX3_feel_6 ?_
    refine z_ic S (k := 1) dX3_feel_9 (by decide) ?_
    refine z_add S dX3_feel_10 ?_
    refine lv_goto (tgt := 15) S.1 S.2.1 dX3_feel_11 (by decide) ?_
    refine z_put (v := .int (nI ((f 0 0) + 1))) (ty := .int) S hZ.1 hP hS hB 0 (by decide) rfl rfl rfl 0 (by decide) (va_up (f 0) 0 ((f 0 0) + 1)) rfl k105 rfl (by decide +kernel) rfl rfl (Nat.le_of_ble_eq_true rfl) dX3_feel_15 (fun H1 locs1 hPn hCn hSn => ?_)
    have hS := hSn
    have hP := hPn
    have hC := hC.tr (hCn.mono (b := o) (k := 1) (by omega) (by omega))
    refine lv_aload_n S.1 S.2.1 dX3_feel_18 rfl (lv_at hl 0 rfl) ?_
    refine z_get (v := .int (nI (f 0 0 + 1))) S hZ.1 hP 0 (by decide) rfl rfl rfl 0 (by decide) rfl k105 dX3_feel_19 ?_
    refine z_ic S (k := 5) dX3_feel_22 (by decide) ?_
    refine z_cne (tgt := 45) S (by omega) (by omega) dX3_feel_23 (by decide) (fun h2 => ?_) (fun h2 => ?_)
    · have hP : zPm g o 1 TE (zFe f b) H1 := hP.eq (by unfold zFe; rw [if_neg (fun z => by omega)]; rw [h1]; rfl)
      exact z_wv hQ S hr hlk hS hC ⟨rfl, hP⟩ dX3_feel_45
    · refine lv_aload_n S.1 S.2.1 dX3_feel_26 rfl (lv_at hl 0 rfl) ?_
      refine z_ic S (k := 0) dX3_feel_27 (by decide) ?_
      refine z_put (v := .int (nI (0))) (ty := .int) S hZ.1 hP hS hB 0 (by decide) rfl rfl rfl 0 (by decide) (va_up ((va_up f 0 (va_up (f 0) 0 ((f 0 0) + 1))) 0) 0 0) rfl k105 rfl (by decide +kernel) rfl rfl (Nat.le_of_ble_eq_true rfl) dX3_feel_28 (fun H1 locs1 hPn hCn hSn => ?_)
      have hS := hSn
      have hP := hPn
      have hC := hC.tr (hCn.mono (b := o) (k := 1) (by omega) (by omega))
      refine lv_aload_n S.1 S.2.1 dX3_feel_31 rfl (lv_at hl 0 rfl) ?_
      refine lv_aload_n S.1 S.2.1 dX3_feel_32 rfl (lv_at hl 0 rfl) ?_
      refine z_get (v := .int (nI (f 0 1))) S hZ.1 hP 0 (by decide) rfl rfl rfl 1 (by decide) rfl k107 dX3_feel_33 ?_
      refine z_ic S (k := 1) dX3_feel_36 (by decide) ?_
      refine z_add S dX3_feel_37 ?_
      refine z_ic S (k := 4) dX3_feel_38 (by decide) ?_
      refine z_min S (by omega) (by omega) hl.1 k596 ⟨k597, k21, k598⟩ (by rw [hR]; decide) (by rw [hR]; exact Nat.le_of_ble_eq_true rfl) (by rw [hR]; decide) (by rw [hR]; decide) dX3_feel_39 ?_
      refine z_put (v := .int (nI (min ((f 0 1) + 1) 4))) (ty := .int) S hZ.1 hP hS hB 0 (by decide) rfl rfl rfl 1 (by decide) (va_up ((va_up (va_up f 0 (va_up (f 0) 0 ((f 0 0) + 1))) 0 (va_up ((va_up f 0 (va_up (f 0) 0 ((f 0 0) + 1))) 0) 0 0)) 0) 1 (min ((f 0 1) + 1) 4)) rfl k107 rfl (by decide +kernel) rfl rfl (Nat.le_of_ble_eq_true rfl) dX3_feel_42 (fun H1 locs1 hPn hCn hSn => ?_)
      have hS := hSn
      have hP := hPn
      have hC := hC.tr (hCn.mono (b := o) (k := 1) (by omega) (by omega))
      have hP : zPm g o 1 TE (zFe f b) H1 := hP.eq (by unfold zFe; rw [if_pos ⟨h1, by omega⟩]; funext a c; by_cases ha : a = 0; by_cases hc : c = 0 <;> by_cases hd : c = 1 <;> simp [va_up, ha, hc, hd]; simp [va_up, ha])
      exact z_wv hQ S hr hlk hS hC ⟨rfl, hP⟩ dX3_feel_45
theorem ci_X1_lastKnottedRow : zCI yX1_lastKnottedRow cX1_lastKnottedRow 2 (some .int) 0 := ⟨k390, k4, by decide +kernel⟩
theorem cv_X1_lastKnottedRow : Cond.instanceMethod yX1_lastKnottedRow ∈ GW ∧ Cond.selects (yX1_lastKnottedRow).cls yX1_lastKnottedRow yX1_lastKnottedRow ∈ GW := ⟨k388, k389⟩
set_option maxRecDepth 20000 in
set_option maxHeartbeats 4000000 in
/-- Cloth.lastKnottedRow() -/
theorem c_X1_lastKnottedRow (l : Launch) (g : ZG) {B : Nat} {o : Nat} (f : Nat → Nat → Nat) (hw : zKo f) (b : Nat) (hb : b ≤ f 0 3) (hno : ∀ k, b ≤ k → k < f 0 3 → f 3 k = 0) (hyes : 0 < b → ¬ f 3 (b - 1) = 0) : Met l yX1_lastKnottedRow (.code yX1_lastKnottedRow cX1_lastKnottedRow 2 (some .int) :: GW) { frames := 0, cells := 0, slots := 0, locals := 0 } (va_Pc [.ref o] (zPre g B (fun H => zPm g o 4 TC f H))) (zR (some (.int (nI b - 1)))) 0 0 (fun _ => False) := by
  refine zMet (by decide) (Nat.le_of_ble_eq_true rfl) ?_
  intro p e R s m args below meth c Q ls hR hargs hQ S hr hlk hP hZ hS hnm hl
  have hl : lv_has ls 2 [(0, .ref (o))] := hl
  refine lv_aload_n S.1 S.2.1 dX1_lastKnottedRow_0 rfl (lv_at hl 0 rfl) ?_
  refine z_get (v := .int (nI (f 0 3))) S hZ.1 hP 0 (by decide) rfl rfl rfl 3 (by decide) rfl k87 dX1_lastKnottedRow_1 ?_
  refine z_ic S (k := 1) dX1_lastKnottedRow_4 (by decide) ?_
  refine lv_isub S.1 S.2.1 dX1_lastKnottedRow_5 ?_
  refine lv_istore_n (lv' := [(1, .int ((nI (f 0 3)) - (nI (1)))), (0, .ref (o))]) S.1 S.2.1 dX1_lastKnottedRow_6 rfl hl (by decide) rfl (fun ls hl => ?_)
  have loop : ∀ (i : Nat) (ls : Array Slot), b ≤ i → i ≤ f 0 3 → lv_has ls 2 [(0, .ref o), (1, .int (nI i - 1))] → W p l e R s m args below meth c s.heap [] 0 0 Q (F0 m 7 ls []) := by
    intro i
    induction i with
    | zero =>
      intro ls h1 h2 hl
      refine lv_iload_n S.1 S.2.1 dX1_lastKnottedRow_7 rfl (lv_at hl 1 rfl) ?_
      refine lv_if_lt (tgt := 26) S.1 S.2.1 dX1_lastKnottedRow_8 (by decide) (fun _ => ?_) (fun h => absurd (by decide) h)
      refine lv_iload_n S.1 S.2.1 dX1_lastKnottedRow_26 rfl (lv_at hl 1 rfl) ?_
      exact z_ri hQ S hr hlk (zn_int _) (by rw [show b = 0 by omega]) dX1_lastKnottedRow_27
    | succ i ih =>
      intro ls h1 h2 hl
      rw [nI_pred] at hl
      refine lv_iload_n S.1 S.2.1 dX1_lastKnottedRow_7 rfl (lv_at hl 1 rfl) ?_
      refine z_ilt (tgt := 26) S (by have := hw.1; omega) dX1_lastKnottedRow_8 (by decide) ?_
      refine lv_aload_n S.1 S.2.1 dX1_lastKnottedRow_11 rfl (lv_at hl 0 rfl) ?_
      refine z_get (v := .ref (o + 3)) S hZ.1 hP 0 (by decide) rfl rfl rfl 2 (by decide) rfl k86 dX1_lastKnottedRow_12 ?_
      refine lv_iload_n S.1 S.2.1 dX1_lastKnottedRow_15 rfl (lv_at hl 1 rfl) ?_
      refine z_iald S hZ.1 hP 3 (by decide) rfl rfl (i := i) (by have := hw.1; omega) (by decide) dX1_lastKnottedRow_16 ?_
      refine z_ine (tgt := 26) S (hw.k i) dX1_lastKnottedRow_17 (by decide) (fun h3 => ?_) (fun h3 => ?_)
      · refine lv_iload_n S.1 S.2.1 dX1_lastKnottedRow_26 rfl (lv_at hl 1 rfl) ?_
        exact z_ri hQ S hr hlk (zn_int _) (by have e : b = i + 1 := (by rcases Nat.lt_or_ge i b with z | z; omega; exact absurd (hno i z (by omega)) h3); rw [e, nI_pred]) dX1_lastKnottedRow_27
      · refine lv_iinc (v := nI i - 1) (lv' := [(1, .int (nI i - 1)), (0, .ref o)]) S.1 S.2.1 dX1_lastKnottedRow_20 hl (k := 1) rfl (by rw [Int32.sub_eq_add_neg]; rfl) (by decide) rfl (fun ls hl => ?_)
        refine lv_goto (tgt := 7) S.1 S.2.1 dX1_lastKnottedRow_23 (by decide) ?_
        exact ih ls (by rcases (show b ≤ i ∨ b = i + 1 by omega) with z | z; exact z; subst z; exact absurd h3 (hyes (by omega))) (by omega) (lv_sub hl [1, 0] rfl)
  exact loop (f 0 3) ls hb (Nat.le_refl _) (lv_sub hl [1, 0] rfl)
end
