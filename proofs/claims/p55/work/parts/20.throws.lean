/-! EXCEPTIONS whose own constructor has another link than the plain ones: thrown, no stack trace. (After the library's ctorThrowS and the kit's vx_throwSW, over the library's chainSX; less is said of the cell.) -/
section YX
variable {p : Program} {l : Launch} {e : Env} {R : Room} {s : State} {m : MethodId} {args : Array Value} {below : List Frame} {meth : Method} {c : Code} {locs : List Loc} {cells slots : Nat} {Q : State → Prop}
set_option maxHeartbeats 1000000 in
theorem yx_ctor {V : State} (X : Stand p l e R s m args below meth c V locs cells slots) (hexec : p.tables.exec = Jvm.exec) (htr : e.platform.stackTraces = false) {own cls : String} {names : List String} {ic ix : Nat} {rx : ByteArray}
    (x0 : decode rx 0 = .ok (.aload_n 0, 1)) (x1 : decode rx 1 = .ok (.aload_n 1, 1)) (x2 : decode rx 2 = .ok (.invokespecial ix, 3)) (x5 : decode rx 5 = .ok (.return_, 1))
    (hown : s.vm.findClass own = some m.cls) (hcls : Bundle.fit cls = true) (hnames : ∀ n ∈ names, Bundle.fit n = true) (h : ∀ a ∈ Bundle.ownAtomsX own ic cls ix rx names, a.before args s = true)
    (hlocs : ∀ x ∈ locs, ∀ cell, s.heap[x.base]? = some cell → cell.vm.isStatics = false)
    {a : Addr} {cX : ClassId} {kX : Class} (hfX : s.vm.findClass cls = some cX) (hkX : s.vm.classes[cX]? = some kX) (hcell : V.heap[a]? = some (freshCell cX kX)) (hnew : s.heap.size ≤ a)
    {msg : Value} (hmsg : msg.isRef = true) {g : JFrame} (hg : g.method = m) (hsize : g.locals.size = c.maxLocals) (hlocked : g.locked = none) (hentered : g.entered = []) {rest : List Value} (hstack : g.stack = msg :: .ref a :: .ref a :: rest)
    (hd6 : decode c.code g.pc = .ok (.invokespecial ic, 3)) (hd9 : decode c.code (g.pc + 3) = .ok (.athrow, 1)) (hout : ∀ x ∈ c.exceptionTable.toList, covers x (g.pc + 3) = false)
    (hRf : names.length + 3 < R.frames) (hRl : 2 * g.monitorRoom + ((Value.ref a :: rest).map fun v => v.category).sum + (13 * (names.length + 1) + 42) ≤ R.locals) (hlocks : meth.locks = false) :
    ∃ (U : State) (ce : Cell), Steps p.tables e below (V.setTop g) U ∧ U.status = .running ∧ Ended U below (.threw a) ∧ s.WarmedH U.vm ∧ s.sameButNew ({ U with vm := s.vm } : State) locs cells slots ∧ U.heap[a]? = some ce ∧ ce.vm = .none ∧ s.vm.findClass cls = some ce.cls := by
  have hpl : e.platform.magicAccessors = ({} : Platform).magicAccessors := by rw [X.admits.platform]
  have k : ∀ x, x ∈ Bundle.ownAtomsX own ic cls ix rx names → x.holds args s none s [] = true := fun x hx => h x hx
  obtain ⟨T, Z0, L, -, Y⟩ := ThrowableC.of_atoms (args := args) (by rw [X.admits.platform]) (by rw [X.admits.platform]) hpl (fun x hx => h x (by simp [Bundle.ownAtomsX, hx]))
  obtain ⟨Z, M, LZ, LM, hnZ⟩ := Init0T.ofS_atoms (args := args) hpl L Y (fun x hx => h x (by simp [Bundle.ownAtomsX, hx]))
  obtain ⟨P1, Ps, hlen, L1, hL, hm1, hl1, hl2⟩ := Bundle.chainSX (args := args) hpl hnZ x0 x1 x2 x5 names cls hcls hnames (fun x hx => h x (by simp [Bundle.ownAtomsX, hx]))
  have hfound : s.vm.findClass cls = some P1.m.cls := findClass_of_methodNamed hm1
  cases Option.some.inj (hfX.symm.trans hfound)
  obtain ⟨c1, kY, hc1, hk, hord, -, -, hn6⟩ := Cond.instantiable_spec (k (.instantiable cls 6) (by simp [Bundle.ownAtomsX]))
  cases Option.some.inj (hc1.symm.trans hfound)
  cases Option.some.inj (hkX.symm.trans hk)
  have hsel0 : selectMethod e.platform s.vm P1.m.cls T.fill0 = .method T.fill0 := by
    obtain ⟨_, _, _, q1, q2, q3, q4, -⟩ := Cond.selects_spec (k (.selects cls Bundle.tFill0 Bundle.tFill0) (by simp [Bundle.ownAtomsX]))
    cases Option.some.inj (q1.symm.trans hfound)
    cases Option.some.inj (q2.symm.trans (State.methodFound?_of_named Y.fill0 (by decide)))
    cases Option.some.inj (q3.symm.trans Y.fill0)
    rw [Launch.admits_selectMethod X.admits]; exact q4
  have hselF : selectMethod e.platform s.vm P1.m.cls T.fill = .method T.fill := by
    obtain ⟨_, _, _, q1, q2, q3, q4, -⟩ := Cond.selects_spec (k (.selects cls Bundle.tFill Bundle.tFill) (by simp [Bundle.ownAtomsX]))
    cases Option.some.inj (q1.symm.trans hfound)
    cases Option.some.inj (q2.symm.trans (State.methodFound?_of_named Y.fill (by decide)))
    cases Option.some.inj (q3.symm.trans Y.fill)
    rw [Launch.admits_selectMethod X.admits]; exact q4
  obtain ⟨cS0, hcS0, hiss⟩ := Y.statics
  obtain ⟨u0, hu0⟩ := Cond.staticRefV Y.unassigned L.unassignedStatic L.statics hcS0 hiss (k (.isRef (.static Bundle.tN "UNASSIGNED_STACK" Bundle.steD)) (by simp [Bundle.ownAtomsX]))
  obtain ⟨sen, hsen⟩ := Cond.staticRefV Y.sentinel L.sentinelStatic L.statics hcS0 hiss (k (.isRef (.static Bundle.tN "SUPPRESSED_SENTINEL" Bundle.listD)) (by simp [Bundle.ownAtomsX]))
  obtain ⟨b1, b2, fB, b3, b4, b5, b6, -, hnB, htB, hffB⟩ := Cond.ownField (t := .object "java/lang/Object") Y.found L.cls (by decide +kernel) (k (.fieldLink Bundle.tN 198 Bundle.tN "backtrace" "Ljava/lang/Object;") (by simp [Bundle.ownAtomsX])) (k (.lays Bundle.tN Bundle.tN "backtrace" "Ljava/lang/Object;") (by simp [Bundle.ownAtomsX])) e.platform hpl
  obtain ⟨cS, hcS, heS, -, hkeep⟩ := X.same.2.2.2.2.2 T.aS cS0 hcS0
  have hcS9 : V.heap[T.aS]? = some cS := hcS
  have hfar : ∀ i, (⟨T.aS, i⟩ : Loc) ∉ locs := fun i z => by have := hlocs _ z cS0 hcS0; rw [hiss] at this; cases this
  have hkn : cS.vm ≠ .unknown := by
    rw [heS]; intro hu
    rw [show cS0.vm = .unknown from hu] at hiss
    cases hiss
  have hne : T.aS ≠ a := Nat.ne_of_lt (Nat.lt_of_lt_of_le (Array.getElem?_eq_some_iff.mp hcS0).1 hnew)
  obtain ⟨iM, hffM⟩ := Y.msg
  obtain ⟨tyC, dC, hdC, hdnC⟩ := Cond.laysAt hfound hk Y.cause (k (.lays cls Bundle.tN "cause" "Ljava/lang/Throwable;") (by simp [Bundle.ownAtomsX]))
  obtain ⟨tyS, dS, hdS, hdnS⟩ := Cond.laysAt hfound hk Y.stack (k (.lays cls Bundle.tN "stackTrace" Bundle.steD) (by simp [Bundle.ownAtomsX]))
  obtain ⟨tyP, dP, hdP, hdnP⟩ := Cond.laysAt hfound hk Y.supp (k (.lays cls Bundle.tN "suppressedExceptions" Bundle.listD) (by simp [Bundle.ownAtomsX]))
  obtain ⟨tyM, -⟩ := Cond.laysAt hfound hk hffM (k (.lays cls Bundle.tN "detailMessage" "Ljava/lang/String;") (by simp [Bundle.ownAtomsX]))
  obtain ⟨tyB, dB, hdB, hdnB⟩ := Cond.laysAt hfound hk hffB (k (.lays cls Bundle.tN "backtrace" "Ljava/lang/Object;") (by simp [Bundle.ownAtomsX]))
  have bC := Cond.laysApart hdB hdC hdnB hdnC (by rw [hnB, Y.causeName]; decide)
  have bS := Cond.laysApart hdB hdS hdnB hdnS (by rw [hnB, Y.stackName]; decide)
  have bP := Cond.laysApart hdB hdP hdnB hdnP (by rw [hnB, Y.suppName]; decide)
  have hskip : SkipFacts T e.platform s (fun u => u) u0 ((preparedCellV T.toThrowableT (freshCell P1.m.cls kX) a u0 sen).withEntry V.cur) :=
    ⟨{ ci198 := b1, i198 := b2, fBack := fB }, ⟨b3, b4, b5, b6⟩, by
      have z := fresh_default (c := P1.m.cls) tyB
      rw [htB] at z
      simpa [preparedCellV, Cell.setSlot, Cell.withEntry, Array.getElem?_setIfInBounds, bC, bS, bP, bC.symm, bS.symm, bP.symm, defaultValue] using z, fun _ _ => rfl⟩
  have hw1 : ∀ w ∈ [Cond.instanceMethod (Bundle.initS cls), Cond.code (Bundle.initS cls) rx 2 none], w.before args s = true := fun w hw => h w (by
    simp only [List.mem_cons, List.not_mem_nil, or_false] at hw
    rcases hw with rfl | rfl <;> (cases names <;> simp [Bundle.ownAtomsX, Bundle.chainSAtomsX, Bundle.passSAtoms]))
  obtain ⟨_, _, _, _, vm1, hnC, -, -, -, -, -, -, -, hW1, st1⟩ := Steps.initColdS (tb := p.tables) (e := e) (below := below) (s := s) (U := V) X.here hexec X.warmed hpl hown (t := Bundle.initS cls) rfl rfl (Bundle.fit_spec hcls).2
    (k (.methodLink own ic (Bundle.initS cls)) (by simp [Bundle.ownAtomsX])) (hw1 _ List.mem_cons_self) (bytes := rx) (maxL := 2) (hw1 _ (List.mem_cons_of_mem _ List.mem_cons_self)) (f := g) hg (a := a) (msg := msg) (rest := .ref a :: rest) hstack hd6
  cases Option.some.inj (hnC.symm.trans hm1)
  obtain ⟨vm2, X2, st2⟩ := (X.noted hW1).ctorMessageOffV hexec (g := { g with stack := .ref a :: rest }) hg hsize T L Z LZ M LM (P1 :: Ps)
    (fun P hP => by rcases List.mem_cons.mp hP with rfl | hP; exact L1; exact hL P hP) ⟨hl1, hl2⟩ (u0 := u0) (sen := sen) (self := a) hmsg (cell := freshCell P1.m.cls kX) (cellS := cS)
    hcell (fun _ => by simp) (by simp) rfl rfl hsel0 hselF hcS9 hne hkn (by rw [hkeep _ (hfar _)]; exact hu0) (by rw [hkeep _ (hfar _)]; exact hsen)
    (Takes.of_laid hk hord tyC (by rw [Y.causeType]; rfl)) (Takes.of_laid hk hord tyS (by rw [Y.stackType]; exact fits_refV_array _ u0)) (Takes.of_laid hk hord tyP (by rw [Y.suppType]; exact fits_refV_object _ sen))
    (Takes.of_laid hk hord tyM (by rw [Y.msgType]; exact fits_refV_object _ ⟨msg, hmsg⟩)) Y.objLocals hskip htr [] hd6
    (by simp only [List.length_cons, hlen]; omega) (by simp only [List.length_cons, hlen]; exact hRl)
  obtain ⟨hwalk, hrun, hend, hWU, hsame⟩ := X2.athrowLeaves hexec (g := { g with stack := .ref a :: rest, pc := g.pc + 3 }) hg hlocked hentered hout (a := a) (rest := rest) rfl hd9
  have hlt : a < ((V.setVm vm1).setVm vm2).heap.size := (Array.getElem?_eq_some_iff.mp hcell).1
  have hU := heapAt_setCell_self (s := (V.setVm vm1).setVm vm2) (plainBareV T.toThrowableT (freshCell P1.m.cls kX) a u0 sen msg) hlt
  refine ⟨_, _, st1 _ (fun acts => by rw [doInvoke_state]; exact st2 _ hwalk), hrun, hend, hWU, hsame.weaken (fun y hy hl9 => ?_) (Nat.le_refl _) (Nat.le_refl _), hU, rfl, hfound⟩
  rcases List.mem_append.mp hy with h1 | h1
  · exact h1
  · exfalso
    have hb : y.base = a := by
      simp only [List.mem_cons, List.not_mem_nil, or_false] at h1
      rcases h1 with rfl | rfl | rfl | rfl | rfl <;> rfl
    rw [hb] at hl9
    exact Nat.not_lt.mpr hnew hl9
/-- 'throw new E("text")' for such a class, the text by a wide index -/
theorem yx_throw {H : Heap} {ls : Array Slot} {rest : List Value} {Qc : Array Value → State → Outcome → State → Prop} {XC : String → State → State → Prop} {free : Addr → Prop} {cc : ByteArray} {pc : Nat} (hexec : p.tables.exec = Jvm.exec) (hb : c.code = cc) (hl : l.stackTraces = false) {own cls text : String} {names : List String} {ik is ic ix mc ms sa : Nat} {rx : ByteArray} {A : Nat → Prop}
    (x0 : decode rx 0 = .ok (.aload_n 0, 1)) (x1 : decode rx 1 = .ok (.aload_n 1, 1)) (x2 : decode rx 2 = .ok (.invokespecial ix, 3)) (x5 : decode rx 5 = .ok (.return_, 1))
    (hown : s.vm.findClass own = some m.cls) (hcls : Bundle.fit cls = true) (hnames : ∀ n ∈ names, Bundle.fit n = true)
    (hk : (Cond.classLink own ik cls).before args s = true) (hini : (Cond.initialized cls).before args s = true) (hstr : vk_R own is text sa s) (hat : ∀ w ∈ (Bundle.ownAtomsX own ic cls ix rx names).filter vx_no, w.before args s = true)
    (hgood : ∀ w ∈ Cond.classLink own ik cls :: Cond.initialized cls :: (Bundle.ownAtomsX own ic cls ix rx names).filter vx_no, vx_ot w = true)
    (hU : vx_Zq Bundle.tN "UNASSIGNED_STACK" Bundle.steD A s s.heap) (hN : vx_Zq Bundle.tN "SUPPRESSED_SENTINEL" Bundle.listD A s s.heap) (hS : va_S A s.heap H locs) (hsize : ls.size = c.maxLocals)
    (d0 : decode cc pc = .ok (.new ik, 3)) (d3 : decode cc (pc + 3) = .ok (.dup, 1)) (d4 : decode cc (pc + 4) = .ok (.ldc_w is, 3)) (d7 : decode cc (pc + 7) = .ok (.invokespecial ic, 3)) (d10 : decode cc (pc + 10) = .ok (.athrow, 1))
    (hout : ∀ x ∈ c.exceptionTable.toList, covers x (pc + 10) = false)
    (hRf : names.length + 3 < R.frames) (hRl : (rest.map fun v => v.category).sum + (13 * (names.length + 1) + 43) ≤ R.locals) (hRc : cells + 1 ≤ R.cells) (hRs : slots + 6 ≤ R.slots) (hlocks : meth.locks = false)
    (hx : ∀ t : State, s.vm.Alike t.vm → H.size ≤ t.heap.size → (∀ q : Nat, q < H.size → t.heap[q]? = H[q]?) → XC cls s t)
    (hf : ∀ z ∈ locs, free z.base) (hc : cells + 1 ≤ mc) (hs : slots + 6 ≤ ms) :
    W p l e R s m args below meth c H locs cells slots (vx_MQ below Qc XC args s mc ms free) (F0 m pc ls rest) := by
  intro T hT X
  have htr : e.platform.stackTraces = false := (show e.platform.stackTraces = l.stackTraces by rw [X.admits.platform]).trans hl
  have Y := vx_rebase X (R' := { frames := R.frames, locals := R.locals, cells := 1, slots := 6 }) (Nat.le_refl _) (Nat.le_refl _) hRc hRs
  obtain ⟨s9, hA⟩ : ∃ z, z = (T.setVm s.vm).setFrames (.invoking m args :: below) := ⟨_, rfl⟩
  rw [← hA] at Y
  have hvm : s9.vm = s.vm := by rw [hA]; rfl
  have hhp : s9.heap = H := by rw [hA]; exact hT
  have hW0 : s.WarmedH s9.vm := by rw [hvm]; exact State.WarmedH.refl s
  have to9 : ∀ w ∈ Cond.classLink own ik cls :: Cond.initialized cls :: (Bundle.ownAtomsX own ic cls ix rx names).filter vx_no, w.before args s = true → w.before args s9 = true := fun w hw hb9 => vx_ot_at hW0 hvm.symm (hgood w hw) hb9
  have hU9 : vx_Zq Bundle.tN "UNASSIGNED_STACK" Bundle.steD A s9 s9.heap := by rw [hhp]; exact vx_Zq.moved hW0.alike (hU.kept hS.2.1)
  have hN9 : vx_Zq Bundle.tN "SUPPRESSED_SENTINEL" Bundle.listD A s9 s9.heap := by rw [hhp]; exact vx_Zq.moved hW0.alike (hN.kept hS.2.1)
  have h : ∀ w ∈ Bundle.ownAtomsX own ic cls ix rx names, w.before args s9 = true := vx_own (fun w hw => to9 w (List.mem_cons_of_mem _ (List.mem_cons_of_mem _ hw)) (hat w hw)) (vx_isRefq hU9.1) (vx_isRefq hN9.1) hU9.2.word hN9.2.word
  have hown9 : s9.vm.findClass own = some m.cls := by rw [hvm]; exact hown
  obtain ⟨vm1, cX, kX, hfX, hkX, -, -, X1, st1⟩ := Y.newCold hexec (own := own) (C := cls) (index := ik) (n := 6) hown9 (to9 _ List.mem_cons_self hk) (h _ (by simp [Bundle.ownAtomsX])) (to9 _ (List.mem_cons_of_mem _ List.mem_cons_self) hini)
    (g := F0 m pc ls rest) rfl (by rw [hb]; exact d0) (Nat.le_refl _) (Nat.le_refl _)
  generalize hT1 : (T.setVm vm1).pushCell { cls := cX, slots := kX.instanceTypes.map defaultValue, vm := .none } = T1 at X1 st1
  have hcat : (Value.ref T.heap.size).category = 1 := rfl
  have hcA : T1.heap[T.heap.size]? = some (freshCell cX kX) := by rw [← hT1]; exact State.heap_pushCell_size _ _
  have d39 : decode c.code (pc + 3) = .ok (.dup, 1) := by rw [hb]; exact d3
  have d49 : decode c.code (pc + 4) = .ok (.ldc_w is, 3) := by rw [hb]; exact d4
  have hstr9 : vk_R own is text sa s9 := vk_R.warm hW0 hstr
  obtain ⟨U, ce, hsteps, hrun, hend, hW, hsame, hce, hcv, hcl⟩ := yx_ctor X1 hexec htr x0 x1 x2 x5 hown9 hcls hnames h (fun x hx => nomatch hx) hfX hkX hcA (by rw [hhp, hT]; exact Nat.le_refl _) (msg := .ref sa) rfl
    (g := { method := m, pc := pc + 7, locals := ls, stack := .ref sa :: .ref T.heap.size :: .ref T.heap.size :: rest, locked := none }) rfl hsize rfl rfl (rest := rest) rfl
    (by rw [hb]; exact d7) (by rw [hb]; exact d10) hout hRf (by simp only [List.map_cons, List.sum_cons, hcat]; omega) hlocks
  obtain ⟨f1, f2⟩ := vx_frame hsame
  rw [hhp] at f1 f2
  have hWs : s.WarmedH U.vm := State.WarmedH.trans hW0 hW
  rw [hvm] at hcl
  have hall : s.sameButNew ({ U with vm := s.vm } : State) locs mc ms := by
    subst hA
    obtain ⟨e1, e2⟩ := hsame
    rw [State.setFrames_setFrames] at e1
    have h2 : (T.setVm s.vm).sameButNew ({ U with vm := s.vm } : State) [] (0 + 1) (0 + 6) := ⟨e1, e2⟩
    have h3 := X.same.trans h2
    rw [List.append_nil] at h3
    exact h3.mono hc hs
  refine ⟨U, ?_, .threw T.heap.size, hrun, hend, Or.inr ⟨T.heap.size, rfl, cls, ce, locs, hx U hWs.alike f1 (fun q hq => f2 q hq (fun z hz => nomatch hz)), hce, hcv, hcl, hWs, hall, hf⟩⟩
  refine st1 _ ?_
  show Steps p.tables e below (T1.setTop { method := m, pc := pc + 3, locals := ls, stack := .ref T.heap.size :: rest, locked := none }) _
  jvm_step X1.here [X1.here.top, hexec, d39, Value.category]
  exact X1.ldcStringW hexec (own := own) (text := text) (index := is) (a := sa) hown9 hstr9.1 hstr9.2
    (g := { method := m, pc := pc + 4, locals := ls, stack := .ref T.heap.size :: .ref T.heap.size :: rest, locked := none }) rfl d49 _ hsteps
end YX

/-! EXCEPTIONS: what is thrown, and by whom -/
theorem ow_requireRange : ∀ w ∈ (vx_atS "CandleLoom" 343 "java/lang/IllegalArgumentException" ["java/lang/RuntimeException", "java/lang/Exception"]).filter goodWord, w ∈ GW := gws _ [45, 481, 490, 498, 501, 503, 482, 483, 68, 69, 484, 489, 499, 519, 471, 520, 473, 521, 475, 485, 487, 477, 515, 516, 518, 477, 506, 507, 508, 509, 509, 510, 511, 512, 512, 513, 514, 515, 505, 460, 468, 469, 470, 472, 474, 476, 480, 479, 478] (by decide +kernel) (by decide +kernel)
theorem ox_requireRange : ∀ w ∈ (vx_atS "CandleLoom" 343 "java/lang/IllegalArgumentException" ["java/lang/RuntimeException", "java/lang/Exception"]).filter (fun w => !goodWord w), w ∈ (Cond.castable "java/lang/IllegalArgumentException" "java/lang/IllegalArgumentException" :: zDe.map (fun q => Cond.declares (Bundle.initS q))) := by decide +kernel
theorem og_requireRange : ∀ w ∈ Cond.classLink "CandleLoom" 339 "java/lang/IllegalArgumentException" :: Cond.initialized "java/lang/IllegalArgumentException" :: vx_atS "CandleLoom" 343 "java/lang/IllegalArgumentException" ["java/lang/RuntimeException", "java/lang/Exception"], vx_ot w = true := by decide +kernel
theorem ow_requireIndex : ∀ w ∈ (vx_atS "CandleLoom" 348 "java/lang/IndexOutOfBoundsException" ["java/lang/RuntimeException", "java/lang/Exception"]).filter goodWord, w ∈ GW := gws _ [45, 481, 490, 498, 501, 503, 482, 483, 68, 69, 484, 489, 499, 519, 471, 520, 473, 521, 475, 485, 487, 477, 515, 516, 518, 477, 545, 546, 547, 509, 509, 510, 511, 512, 512, 513, 514, 515, 544, 535, 537, 495, 538, 539, 540, 541, 480, 479, 542] (by decide +kernel) (by decide +kernel)
theorem ox_requireIndex : ∀ w ∈ (vx_atS "CandleLoom" 348 "java/lang/IndexOutOfBoundsException" ["java/lang/RuntimeException", "java/lang/Exception"]).filter (fun w => !goodWord w), w ∈ (Cond.castable "java/lang/IndexOutOfBoundsException" "java/lang/IndexOutOfBoundsException" :: zDe.map (fun q => Cond.declares (Bundle.initS q))) := by decide +kernel
theorem og_requireIndex : ∀ w ∈ Cond.classLink "CandleLoom" 344 "java/lang/IndexOutOfBoundsException" :: Cond.initialized "java/lang/IndexOutOfBoundsException" :: vx_atS "CandleLoom" 348 "java/lang/IndexOutOfBoundsException" ["java/lang/RuntimeException", "java/lang/Exception"], vx_ot w = true := by decide +kernel
theorem oc_0 : decode prog_36_method_4_code 0 = .ok (.aload_n 0, 1) := by decide +kernel
theorem oc_1 : decode prog_36_method_4_code 1 = .ok (.aload_n 1, 1) := by decide +kernel
theorem oc_2 : decode prog_36_method_4_code 2 = .ok (.invokespecial 13, 3) := by decide +kernel
theorem oc_5 : decode prog_36_method_4_code 5 = .ok (.return_, 1) := by decide +kernel
theorem ow_requireElement : ∀ w ∈ ((Bundle.ownAtomsX "CandleLoom" 353 "java/util/NoSuchElementException" 13 prog_36_method_4_code ["java/lang/RuntimeException", "java/lang/Exception"]).filter vx_no).filter goodWord, w ∈ GW := gws _ [45, 481, 490, 498, 501, 503, 482, 483, 68, 69, 484, 489, 499, 519, 471, 520, 473, 521, 475, 485, 487, 477, 515, 516, 518, 477, 851, 852, 853, 509, 509, 510, 511, 512, 512, 513, 514, 515, 850, 841, 843, 497, 844, 845, 846, 847, 480, 479, 848] (by decide +kernel) (by decide +kernel)
theorem ox_requireElement : ∀ w ∈ ((Bundle.ownAtomsX "CandleLoom" 353 "java/util/NoSuchElementException" 13 prog_36_method_4_code ["java/lang/RuntimeException", "java/lang/Exception"]).filter vx_no).filter (fun w => !goodWord w), w ∈ (Cond.castable "java/util/NoSuchElementException" "java/util/NoSuchElementException" :: zDe.map (fun q => Cond.declares (Bundle.initS q))) := by decide +kernel
theorem og_requireElement : ∀ w ∈ Cond.classLink "CandleLoom" 349 "java/util/NoSuchElementException" :: Cond.initialized "java/util/NoSuchElementException" :: (Bundle.ownAtomsX "CandleLoom" 353 "java/util/NoSuchElementException" 13 prog_36_method_4_code ["java/lang/RuntimeException", "java/lang/Exception"]).filter vx_no, vx_ot w = true := by decide +kernel
theorem ow_requireState : ∀ w ∈ (vx_atS "CandleLoom" 358 "java/lang/IllegalStateException" ["java/lang/RuntimeException", "java/lang/Exception"]).filter goodWord, w ∈ GW := gws _ [45, 481, 490, 498, 501, 503, 482, 483, 68, 69, 484, 489, 499, 519, 471, 520, 473, 521, 475, 485, 487, 477, 515, 516, 518, 477, 885, 886, 887, 509, 509, 510, 511, 512, 512, 513, 514, 515, 884, 875, 877, 494, 878, 879, 880, 881, 480, 479, 882] (by decide +kernel) (by decide +kernel)
theorem ox_requireState : ∀ w ∈ (vx_atS "CandleLoom" 358 "java/lang/IllegalStateException" ["java/lang/RuntimeException", "java/lang/Exception"]).filter (fun w => !goodWord w), w ∈ (Cond.castable "java/lang/IllegalStateException" "java/lang/IllegalStateException" :: zDe.map (fun q => Cond.declares (Bundle.initS q))) := by decide +kernel
theorem og_requireState : ∀ w ∈ Cond.classLink "CandleLoom" 354 "java/lang/IllegalStateException" :: Cond.initialized "java/lang/IllegalStateException" :: vx_atS "CandleLoom" 358 "java/lang/IllegalStateException" ["java/lang/RuntimeException", "java/lang/Exception"], vx_ot w = true := by decide +kernel
theorem ow_requireDivisor : ∀ w ∈ (vx_atS "CandleLoom" 363 "java/lang/ArithmeticException" ["java/lang/RuntimeException", "java/lang/Exception"]).filter goodWord, w ∈ GW := gws _ [45, 481, 490, 498, 501, 503, 482, 483, 68, 69, 484, 489, 499, 519, 471, 520, 473, 521, 475, 485, 487, 477, 515, 516, 518, 477, 1154, 1155, 1156, 509, 509, 510, 511, 512, 512, 513, 514, 515, 1176, 1153, 1165, 492, 1159, 1160, 1162, 1158, 480, 479, 1157] (by decide +kernel) (by decide +kernel)
theorem ox_requireDivisor : ∀ w ∈ (vx_atS "CandleLoom" 363 "java/lang/ArithmeticException" ["java/lang/RuntimeException", "java/lang/Exception"]).filter (fun w => !goodWord w), w ∈ (Cond.castable "java/lang/ArithmeticException" "java/lang/ArithmeticException" :: zDe.map (fun q => Cond.declares (Bundle.initS q))) := by decide +kernel
theorem og_requireDivisor : ∀ w ∈ Cond.classLink "CandleLoom" 359 "java/lang/ArithmeticException" :: Cond.initialized "java/lang/ArithmeticException" :: vx_atS "CandleLoom" 363 "java/lang/ArithmeticException" ["java/lang/RuntimeException", "java/lang/Exception"], vx_ot w = true := by decide +kernel
theorem ow_throwDenial : ∀ w ∈ (vx_atS "CandleLoom" 336 "java/lang/UnsupportedOperationException" ["java/lang/RuntimeException", "java/lang/Exception"]).filter goodWord, w ∈ GW := gws _ [45, 481, 490, 498, 501, 503, 482, 483, 68, 69, 484, 489, 499, 519, 471, 520, 473, 521, 475, 485, 487, 477, 515, 516, 518, 477, 565, 566, 567, 509, 509, 510, 511, 512, 512, 513, 514, 515, 564, 555, 557, 496, 558, 559, 560, 561, 480, 479, 562] (by decide +kernel) (by decide +kernel)
theorem ox_throwDenial : ∀ w ∈ (vx_atS "CandleLoom" 336 "java/lang/UnsupportedOperationException" ["java/lang/RuntimeException", "java/lang/Exception"]).filter (fun w => !goodWord w), w ∈ (Cond.castable "java/lang/UnsupportedOperationException" "java/lang/UnsupportedOperationException" :: zDe.map (fun q => Cond.declares (Bundle.initS q))) := by decide +kernel
theorem og_throwDenial : ∀ w ∈ Cond.classLink "CandleLoom" 332 "java/lang/UnsupportedOperationException" :: Cond.initialized "java/lang/UnsupportedOperationException" :: vx_atS "CandleLoom" 336 "java/lang/UnsupportedOperationException" ["java/lang/RuntimeException", "java/lang/Exception"], vx_ot w = true := by decide +kernel
/-- the words of a throw that the methods' list doesn't hold -/
theorem zNx.thr {s : State} {args : Array Value} (h : zNx s) {E : String} (hE : E ∈ zEx) : ∀ w ∈ (Cond.castable E E :: zDe.map (fun q => Cond.declares (Bundle.initS q))), w.before args s = true := fun w hw => by
  rcases List.mem_cons.mp hw with e | e
  · rw [e]; exact va_Nw.use rfl (h.2.2.1 E hE)
  · obtain ⟨q, hq, rfl⟩ := List.mem_map.mp e
    exact va_Nw.use rfl (h.2.2.2.2.1 q hq)
theorem ci_X11_requireRange : zCI yX11_requireRange cX11_requireRange 1 none 1 := ⟨k427, k1, by decide +kernel⟩
theorem cv_X11_requireRange : Cond.static yX11_requireRange ∈ GW := k426
set_option maxRecDepth 20000 in
set_option maxHeartbeats 4000000 in
/-- requireRange, met -/
theorem c_requireRange_t (l : Launch) (g : ZG) {B : Nat} (b : Bool) (hb : b = true) {PH : Heap → Prop} : Met l yX11_requireRange (.code yX11_requireRange cX11_requireRange 1 none :: GW) { frames := 0, cells := 0, slots := 0, locals := 0 } (va_Pc [.int (nI b.toNat)] (zPre g B (fun H => PH H))) (zR none) 0 0 (fun _ => False) := by
  refine zMet (by decide) (Nat.le_of_ble_eq_true rfl) ?_
  intro p e R s m args below meth c Q ls hR hargs hQ S hr hlk hP hZ hS hnm hl
  have hl : lv_has ls 1 [(0, .int (nI (b).toNat))] := hl
  refine lv_iload_n S.1 S.2.1 dX11_requireRange_0 rfl (lv_at hl 0 rfl) ?_
  refine z_bne (tgt := 15) S dX11_requireRange_1 (by decide) (fun h1 => ?_) (fun h1 => ?_)
  · exact z_rv hQ S hr hlk dX11_requireRange_15
  · exact absurd (hb.symm.trans h1) (by decide)
set_option maxRecDepth 20000 in
set_option maxHeartbeats 4000000 in
/-- requireRange, not met -/
theorem c_requireRange_f (l : Launch) (hl0 : l.stackTraces = false) (g : ZG) {B : Nat} (b : Bool) (hb : b = false) {PH : Heap → Prop} : vx_Met l yX11_requireRange (.code yX11_requireRange cX11_requireRange 1 none :: GW) { frames := 6, cells := 1, slots := 6, locals := 82 } (va_Pc [.int (nI b.toNat)] (zPre g B (fun H => PH H))) (fun _ _ _ _ => False) (zXT (fun E _ => E = "java/lang/IllegalArgumentException") B 0) 1 6 (zA B) := by
  refine zMetX (by decide) (Nat.le_of_ble_eq_true rfl) ?_
  intro p e R s m args below meth c Q ls hR hargs hQ S hr hlk hex hP hZ hS hl
  have hl : lv_has ls 1 [(0, .int (nI (b).toNat))] := hl
  subst hQ
  refine lv_iload_n S.1 S.2.1 dX11_requireRange_0 rfl (lv_at hl 0 rfl) ?_
  refine z_bne (tgt := 15) S dX11_requireRange_1 (by decide) (fun h1 => ?_) (fun h1 => ?_)
  · exact absurd (hb.symm.trans h1) (by decide)
  · obtain ⟨sa, hsa⟩ := hZ.2.1.2.2.1 (341, "an argument or the text is not allowed") (by decide)
    refine vx_throwSW (A := zA B) (cls := "java/lang/IllegalArgumentException") (text := "an argument or the text is not allowed") (names := ["java/lang/RuntimeException", "java/lang/Exception"]) (sa := sa) S.1 S.2.1 hl0 S.2.2.2.1 (by decide +kernel) (by decide +kernel) (S.2.2.2.2 _ k428) (S.2.2.2.2 _ k17) hsa (vx_hat (fun w hw => S.2.2.2.2 _ (ow_requireRange w hw)) ox_requireRange (hZ.2.2.thr (by decide))) og_requireRange hZ.2.1.1 hZ.2.1.2.1 hS (hl.1.trans S.2.2.1.symm) dX11_requireRange_4 dX11_requireRange_7 dX11_requireRange_8 dX11_requireRange_11 dX11_requireRange_14 (fun x hx => (hex x hx).elim) (by rw [hR]; decide) (by rw [hR]; decide) (by rw [hR]; decide) (by rw [hR]; decide) hlk (fun t _ h1 h2 => ?_) hS.2.2 (Nat.le_of_ble_eq_true rfl) (Nat.le_of_ble_eq_true rfl)
    have hx : zCh1 0 0 s.heap t.heap := ⟨h1, fun q hq _ => h2 q hq⟩
    exact ⟨rfl, ⟨h1, fun q hq _ => h2 q hq⟩⟩
theorem ci_X11_requireIndex : zCI yX11_requireIndex cX11_requireIndex 1 none 1 := ⟨k502, k1, by decide +kernel⟩
theorem cv_X11_requireIndex : Cond.static yX11_requireIndex ∈ GW := k501
set_option maxRecDepth 20000 in
set_option maxHeartbeats 4000000 in
/-- requireIndex, met -/
theorem c_requireIndex_t (l : Launch) (g : ZG) {B : Nat} (b : Bool) (hb : b = true) {PH : Heap → Prop} : Met l yX11_requireIndex (.code yX11_requireIndex cX11_requireIndex 1 none :: GW) { frames := 0, cells := 0, slots := 0, locals := 0 } (va_Pc [.int (nI b.toNat)] (zPre g B (fun H => PH H))) (zR none) 0 0 (fun _ => False) := by
  refine zMet (by decide) (Nat.le_of_ble_eq_true rfl) ?_
  intro p e R s m args below meth c Q ls hR hargs hQ S hr hlk hP hZ hS hnm hl
  have hl : lv_has ls 1 [(0, .int (nI (b).toNat))] := hl
  refine lv_iload_n S.1 S.2.1 dX11_requireIndex_0 rfl (lv_at hl 0 rfl) ?_
  refine z_bne (tgt := 15) S dX11_requireIndex_1 (by decide) (fun h1 => ?_) (fun h1 => ?_)
  · exact z_rv hQ S hr hlk dX11_requireIndex_15
  · exact absurd (hb.symm.trans h1) (by decide)
set_option maxRecDepth 20000 in
set_option maxHeartbeats 4000000 in
/-- requireIndex, not met -/
theorem c_requireIndex_f (l : Launch) (hl0 : l.stackTraces = false) (g : ZG) {B : Nat} (b : Bool) (hb : b = false) {PH : Heap → Prop} : vx_Met l yX11_requireIndex (.code yX11_requireIndex cX11_requireIndex 1 none :: GW) { frames := 6, cells := 1, slots := 6, locals := 82 } (va_Pc [.int (nI b.toNat)] (zPre g B (fun H => PH H))) (fun _ _ _ _ => False) (zXT (fun E _ => E = "java/lang/IndexOutOfBoundsException") B 0) 1 6 (zA B) := by
  refine zMetX (by decide) (Nat.le_of_ble_eq_true rfl) ?_
  intro p e R s m args below meth c Q ls hR hargs hQ S hr hlk hex hP hZ hS hl
  have hl : lv_has ls 1 [(0, .int (nI (b).toNat))] := hl
  subst hQ
  refine lv_iload_n S.1 S.2.1 dX11_requireIndex_0 rfl (lv_at hl 0 rfl) ?_
  refine z_bne (tgt := 15) S dX11_requireIndex_1 (by decide) (fun h1 => ?_) (fun h1 => ?_)
  · exact absurd (hb.symm.trans h1) (by decide)
  · obtain ⟨sa, hsa⟩ := hZ.2.1.2.2.1 (346, "there is no such index") (by decide)
    refine vx_throwSW (A := zA B) (cls := "java/lang/IndexOutOfBoundsException") (text := "there is no such index") (names := ["java/lang/RuntimeException", "java/lang/Exception"]) (sa := sa) S.1 S.2.1 hl0 S.2.2.2.1 (by decide +kernel) (by decide +kernel) (S.2.2.2.2 _ k503) (S.2.2.2.2 _ k18) hsa (vx_hat (fun w hw => S.2.2.2.2 _ (ow_requireIndex w hw)) ox_requireIndex (hZ.2.2.thr (by decide))) og_requireIndex hZ.2.1.1 hZ.2.1.2.1 hS (hl.1.trans S.2.2.1.symm) dX11_requireIndex_4 dX11_requireIndex_7 dX11_requireIndex_8 dX11_requireIndex_11 dX11_requireIndex_14 (fun x hx => (hex x hx).elim) (by rw [hR]; decide) (by rw [hR]; decide) (by rw [hR]; decide) (by rw [hR]; decide) hlk (fun t _ h1 h2 => ?_) hS.2.2 (Nat.le_of_ble_eq_true rfl) (Nat.le_of_ble_eq_true rfl)
    have hx : zCh1 0 0 s.heap t.heap := ⟨h1, fun q hq _ => h2 q hq⟩
    exact ⟨rfl, ⟨h1, fun q hq _ => h2 q hq⟩⟩
theorem ci_X11_requireElement : zCI yX11_requireElement cX11_requireElement 1 none 1 := ⟨k808, k1, by decide +kernel⟩
theorem cv_X11_requireElement : Cond.static yX11_requireElement ∈ GW := k807
set_option maxRecDepth 20000 in
set_option maxHeartbeats 4000000 in
/-- requireElement, met -/
theorem c_requireElement_t (l : Launch) (g : ZG) {B : Nat} (b : Bool) (hb : b = true) {PH : Heap → Prop} : Met l yX11_requireElement (.code yX11_requireElement cX11_requireElement 1 none :: GW) { frames := 0, cells := 0, slots := 0, locals := 0 } (va_Pc [.int (nI b.toNat)] (zPre g B (fun H => PH H))) (zR none) 0 0 (fun _ => False) := by
  refine zMet (by decide) (Nat.le_of_ble_eq_true rfl) ?_
  intro p e R s m args below meth c Q ls hR hargs hQ S hr hlk hP hZ hS hnm hl
  have hl : lv_has ls 1 [(0, .int (nI (b).toNat))] := hl
  refine lv_iload_n S.1 S.2.1 dX11_requireElement_0 rfl (lv_at hl 0 rfl) ?_
  refine z_bne (tgt := 15) S dX11_requireElement_1 (by decide) (fun h1 => ?_) (fun h1 => ?_)
  · exact z_rv hQ S hr hlk dX11_requireElement_15
  · exact absurd (hb.symm.trans h1) (by decide)
set_option maxRecDepth 20000 in
set_option maxHeartbeats 4000000 in
/-- requireElement, not met -/
theorem c_requireElement_f (l : Launch) (hl0 : l.stackTraces = false) (g : ZG) {B : Nat} (b : Bool) (hb : b = false) {PH : Heap → Prop} : vx_Met l yX11_requireElement (.code yX11_requireElement cX11_requireElement 1 none :: GW) { frames := 6, cells := 1, slots := 6, locals := 82 } (va_Pc [.int (nI b.toNat)] (zPre g B (fun H => PH H))) (fun _ _ _ _ => False) (zXT (fun E _ => E = "java/util/NoSuchElementException") B 0) 1 6 (zA B) := by
  refine zMetX (by decide) (Nat.le_of_ble_eq_true rfl) ?_
  intro p e R s m args below meth c Q ls hR hargs hQ S hr hlk hex hP hZ hS hl
  have hl : lv_has ls 1 [(0, .int (nI (b).toNat))] := hl
  subst hQ
  refine lv_iload_n S.1 S.2.1 dX11_requireElement_0 rfl (lv_at hl 0 rfl) ?_
  refine z_bne (tgt := 15) S dX11_requireElement_1 (by decide) (fun h1 => ?_) (fun h1 => ?_)
  · exact absurd (hb.symm.trans h1) (by decide)
  · obtain ⟨sa, hsa⟩ := hZ.2.1.2.2.1 (351, "there is none") (by decide)
    refine yx_throw (rx := prog_36_method_4_code) (ix := 13) (A := zA B) (cls := "java/util/NoSuchElementException") (text := "there is none") (names := ["java/lang/RuntimeException", "java/lang/Exception"]) (sa := sa) S.1 S.2.1 hl0 oc_0 oc_1 oc_2 oc_5 S.2.2.2.1 (by decide +kernel) (by decide +kernel) (S.2.2.2.2 _ k809) (S.2.2.2.2 _ k30) hsa (vx_hat (fun w hw => S.2.2.2.2 _ (ow_requireElement w hw)) ox_requireElement (hZ.2.2.thr (by decide))) og_requireElement hZ.2.1.1 hZ.2.1.2.1 hS (hl.1.trans S.2.2.1.symm) dX11_requireElement_4 dX11_requireElement_7 dX11_requireElement_8 dX11_requireElement_11 dX11_requireElement_14 (fun x hx => (hex x hx).elim) (by rw [hR]; decide) (by rw [hR]; decide) (by rw [hR]; decide) (by rw [hR]; decide) hlk (fun t _ h1 h2 => ?_) hS.2.2 (Nat.le_of_ble_eq_true rfl) (Nat.le_of_ble_eq_true rfl)
    have hx : zCh1 0 0 s.heap t.heap := ⟨h1, fun q hq _ => h2 q hq⟩
    exact ⟨rfl, ⟨h1, fun q hq _ => h2 q hq⟩⟩
theorem ci_X11_requireState : zCI yX11_requireState cX11_requireState 1 none 1 := ⟨k842, k1, by decide +kernel⟩
theorem cv_X11_requireState : Cond.static yX11_requireState ∈ GW := k841
set_option maxRecDepth 20000 in
set_option maxHeartbeats 4000000 in
/-- requireState, met -/
theorem c_requireState_t (l : Launch) (g : ZG) {B : Nat} (b : Bool) (hb : b = true) {PH : Heap → Prop} : Met l yX11_requireState (.code yX11_requireState cX11_requireState 1 none :: GW) { frames := 0, cells := 0, slots := 0, locals := 0 } (va_Pc [.int (nI b.toNat)] (zPre g B (fun H => PH H))) (zR none) 0 0 (fun _ => False) := by
  refine zMet (by decide) (Nat.le_of_ble_eq_true rfl) ?_
  intro p e R s m args below meth c Q ls hR hargs hQ S hr hlk hP hZ hS hnm hl
  have hl : lv_has ls 1 [(0, .int (nI (b).toNat))] := hl
  refine lv_iload_n S.1 S.2.1 dX11_requireState_0 rfl (lv_at hl 0 rfl) ?_
  refine z_bne (tgt := 15) S dX11_requireState_1 (by decide) (fun h1 => ?_) (fun h1 => ?_)
  · exact z_rv hQ S hr hlk dX11_requireState_15
  · exact absurd (hb.symm.trans h1) (by decide)
set_option maxRecDepth 20000 in
set_option maxHeartbeats 4000000 in
/-- requireState, not met -/
theorem c_requireState_f (l : Launch) (hl0 : l.stackTraces = false) (g : ZG) {B : Nat} (b : Bool) (hb : b = false) {PH : Heap → Prop} : vx_Met l yX11_requireState (.code yX11_requireState cX11_requireState 1 none :: GW) { frames := 6, cells := 1, slots := 6, locals := 82 } (va_Pc [.int (nI b.toNat)] (zPre g B (fun H => PH H))) (fun _ _ _ _ => False) (zXT (fun E _ => E = "java/lang/IllegalStateException") B 0) 1 6 (zA B) := by
  refine zMetX (by decide) (Nat.le_of_ble_eq_true rfl) ?_
  intro p e R s m args below meth c Q ls hR hargs hQ S hr hlk hex hP hZ hS hl
  have hl : lv_has ls 1 [(0, .int (nI (b).toNat))] := hl
  subst hQ
  refine lv_iload_n S.1 S.2.1 dX11_requireState_0 rfl (lv_at hl 0 rfl) ?_
  refine z_bne (tgt := 15) S dX11_requireState_1 (by decide) (fun h1 => ?_) (fun h1 => ?_)
  · exact absurd (hb.symm.trans h1) (by decide)
  · obtain ⟨sa, hsa⟩ := hZ.2.1.2.2.1 (356, "the call is not possible now") (by decide)
    refine vx_throwSW (A := zA B) (cls := "java/lang/IllegalStateException") (text := "the call is not possible now") (names := ["java/lang/RuntimeException", "java/lang/Exception"]) (sa := sa) S.1 S.2.1 hl0 S.2.2.2.1 (by decide +kernel) (by decide +kernel) (S.2.2.2.2 _ k843) (S.2.2.2.2 _ k28) hsa (vx_hat (fun w hw => S.2.2.2.2 _ (ow_requireState w hw)) ox_requireState (hZ.2.2.thr (by decide))) og_requireState hZ.2.1.1 hZ.2.1.2.1 hS (hl.1.trans S.2.2.1.symm) dX11_requireState_4 dX11_requireState_7 dX11_requireState_8 dX11_requireState_11 dX11_requireState_14 (fun x hx => (hex x hx).elim) (by rw [hR]; decide) (by rw [hR]; decide) (by rw [hR]; decide) (by rw [hR]; decide) hlk (fun t _ h1 h2 => ?_) hS.2.2 (Nat.le_of_ble_eq_true rfl) (Nat.le_of_ble_eq_true rfl)
    have hx : zCh1 0 0 s.heap t.heap := ⟨h1, fun q hq _ => h2 q hq⟩
    exact ⟨rfl, ⟨h1, fun q hq _ => h2 q hq⟩⟩
theorem ci_X11_requireDivisor : zCI yX11_requireDivisor cX11_requireDivisor 1 none 1 := ⟨k1142, k1, by decide +kernel⟩
theorem cv_X11_requireDivisor : Cond.static yX11_requireDivisor ∈ GW := k1141
set_option maxRecDepth 20000 in
set_option maxHeartbeats 4000000 in
/-- requireDivisor, met -/
theorem c_requireDivisor_t (l : Launch) (g : ZG) {B : Nat} (b : Nat) (hb : 1 ≤ b) (hb2 : b < 2 ^ 31) {PH : Heap → Prop} : Met l yX11_requireDivisor (.code yX11_requireDivisor cX11_requireDivisor 1 none :: GW) { frames := 0, cells := 0, slots := 0, locals := 0 } (va_Pc [.int (nI b)] (zPre g B (fun H => PH H))) (zR none) 0 0 (fun _ => False) := by
  refine zMet (by decide) (Nat.le_of_ble_eq_true rfl) ?_
  intro p e R s m args below meth c Q ls hR hargs hQ S hr hlk hP hZ hS hnm hl
  have hl : lv_has ls 1 [(0, .int (nI (b)))] := hl
  refine lv_iload_n S.1 S.2.1 dX11_requireDivisor_0 rfl (lv_at hl 0 rfl) ?_
  refine z_ine (tgt := 15) S (by omega) dX11_requireDivisor_1 (by decide) (fun h1 => ?_) (fun h1 => ?_)
  · exact z_rv hQ S hr hlk dX11_requireDivisor_15
  · exact absurd hb (by omega)
set_option maxRecDepth 20000 in
set_option maxHeartbeats 4000000 in
/-- requireDivisor, not met -/
theorem c_requireDivisor_f (l : Launch) (hl0 : l.stackTraces = false) (g : ZG) {B : Nat} (b : Nat) (hb : b = 0) {PH : Heap → Prop} : vx_Met l yX11_requireDivisor (.code yX11_requireDivisor cX11_requireDivisor 1 none :: GW) { frames := 6, cells := 1, slots := 6, locals := 82 } (va_Pc [.int (nI b)] (zPre g B (fun H => PH H))) (fun _ _ _ _ => False) (zXT (fun E _ => E = "java/lang/ArithmeticException") B 0) 1 6 (zA B) := by
  refine zMetX (by decide) (Nat.le_of_ble_eq_true rfl) ?_
  intro p e R s m args below meth c Q ls hR hargs hQ S hr hlk hex hP hZ hS hl
  have hl : lv_has ls 1 [(0, .int (nI (b)))] := hl
  subst hQ
  refine lv_iload_n S.1 S.2.1 dX11_requireDivisor_0 rfl (lv_at hl 0 rfl) ?_
  refine z_ine (tgt := 15) S (by omega) dX11_requireDivisor_1 (by decide) (fun h1 => ?_) (fun h1 => ?_)
  · exact absurd hb h1
  · obtain ⟨sa, hsa⟩ := hZ.2.1.2.2.1 (361, "the cloth has no rows") (by decide)
    refine vx_throwSW (A := zA B) (cls := "java/lang/ArithmeticException") (text := "the cloth has no rows") (names := ["java/lang/RuntimeException", "java/lang/Exception"]) (sa := sa) S.1 S.2.1 hl0 S.2.2.2.1 (by decide +kernel) (by decide +kernel) (S.2.2.2.2 _ k1143) (S.2.2.2.2 _ k29) hsa (vx_hat (fun w hw => S.2.2.2.2 _ (ow_requireDivisor w hw)) ox_requireDivisor (hZ.2.2.thr (by decide))) og_requireDivisor hZ.2.1.1 hZ.2.1.2.1 hS (hl.1.trans S.2.2.1.symm) dX11_requireDivisor_4 dX11_requireDivisor_7 dX11_requireDivisor_8 dX11_requireDivisor_11 dX11_requireDivisor_14 (fun x hx => (hex x hx).elim) (by rw [hR]; decide) (by rw [hR]; decide) (by rw [hR]; decide) (by rw [hR]; decide) hlk (fun t _ h1 h2 => ?_) hS.2.2 (Nat.le_of_ble_eq_true rfl) (Nat.le_of_ble_eq_true rfl)
    have hx : zCh1 0 0 s.heap t.heap := ⟨h1, fun q hq _ => h2 q hq⟩
    exact ⟨rfl, ⟨h1, fun q hq _ => h2 q hq⟩⟩
