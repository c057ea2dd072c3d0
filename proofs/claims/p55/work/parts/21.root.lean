/-! CALLS THAT SURELY THROW, and how they leave -/
section YC
variable {p : Program} {l : Launch} {e : Env} {R : Room} {s : State} {m : MethodId} {args : Array Value} {below : List Frame} {meth : Method} {c : Code} {H : Heap} {locs : List Loc} {cells slots : Nat} {Q : State → Prop}
variable {cc bytes : ByteArray} {pc nL maxL index mc ms a n : Nat} {own : String} {ls : Array Slot} {rest st0 : List Value} {g : ZG} {B : Nat} {y : MethodName} {ret : Option FieldType} {rm : Room} {PH : Heap → Prop} {b : Addr} {As : List Value} {PE : String → Heap → Prop}
theorem z_xr {pc : Nat} {arr : Array Value} (hr : vx_Run p l e R s m args below meth c H locs cells slots mc ms (F0 m pc ls st0) rest ((fun _ _ _ _ => False : Array Value → State → Outcome → State → Prop) arr) (zXT PE a n) (zA B)) (hS : va_S (zA B) s.heap H locs) (hB : B ≤ a)
    (kx : ∀ (E : String) (ce : Cell) (q9 : Addr) (H1 : Heap) (locs1 : List Loc), PE E H1 → zCh1 a n H H1 → va_S (zA B) s.heap H1 locs1 → H1[q9]? = some ce → ce.vm = .none → s.vm.findClass E = some ce.cls → vx_W p l e R s m args below meth c H1 locs1 (cells + mc) (slots + ms) Q (F0 m pc ls rest) q9) : W p l e R s m args below meth c H locs cells slots Q (F0 m pc ls st0) := by
  intro T hT X
  rcases hr T hT X with ⟨_, _, _, _, _, _, _, _, _, _, hf, _⟩ | ⟨q, st₀, t, T', L, E, ce, h0, X', hL, e1, e2, ⟨hp, hc⟩, hce, hcv, hcl, st⟩
  · exact hf.elim
  · rw [h0, ← e1] at hc
    obtain ⟨t2, a1, b1⟩ := kx E ce q T'.heap (locs ++ L) (by rw [e1]; exact hp) hc (hc.va hB hS hL) (by rw [e1]; exact hce) hcv hcl T' rfl X'
    exact ⟨t2, st.trans a1, b1⟩
/-- a static call that surely throws -/
theorem z_xS (S : CallFix p m c cc nL s args GW own) (hZ : zS g B s s.heap) (hS : va_S (zA B) s.heap H locs) (hM : vx_Met l y (.code y bytes maxL ret :: GW) rm (va_Pc As (zPre g B PH)) (fun _ _ _ _ => False) (zXT PE a n) mc ms (zA B)) (hB : B ≤ a) (hI : zCI y bytes maxL ret As.length) (hV : Cond.static y ∈ GW) (hlink : Cond.methodLink own index y ∈ GW) (hrm : zRm rm R maxL mc ms) (hPH : PH H) (hsize : ls.size = nL) (hst0 : st0 = As.reverse ++ rest) (hcat : (rest.map fun v => v.category).sum ≤ 8) (hdg : decode cc pc = .ok (.invokestatic index, 3)) (hf : cells + mc ≤ R.cells ∧ slots + ms ≤ R.slots)
    (kx : ∀ (E : String) (ce : Cell) (q9 : Addr) (H1 : Heap) (locs1 : List Loc), PE E H1 → zCh1 a n H H1 → va_S (zA B) s.heap H1 locs1 → H1[q9]? = some ce → ce.vm = .none → s.vm.findClass E = some ce.cls → vx_W p l e R s m args below meth c H1 locs1 (cells + mc) (slots + ms) Q (F0 m pc ls rest) q9) : W p l e R s m args below meth c H locs cells slots Q (F0 m pc ls st0) :=
  z_xr (arr := As.toArray) (vx_runS S hM ⟨z_callB S hI hlink hrm, S.2.2.2.2 _ hV⟩ ⟨zPre.blind, fun _ hU hW => ⟨rfl, zPre.at' (hZ.at' hS) hPH hU hW⟩⟩ rfl rfl hsize hst0 (lv_room hcat) hdg hf) hS hB kx
/-- a virtual one -/
theorem z_xV (S : CallFix p m c cc nL s args GW own) (hZ : zS g B s s.heap) (hS : va_S (zA B) s.heap H locs) (hM : vx_Met l y (.code y bytes maxL ret :: GW) rm (va_Pc (.ref b :: As) (zPre g B PH)) (fun _ _ _ _ => False) (zXT PE a n) mc ms (zA B)) (hB : B ≤ a) (hI : zCI y bytes maxL ret As.length) (hV : Cond.instanceMethod y ∈ GW ∧ Cond.selects y.cls y y ∈ GW) (hlink : Cond.methodLink own index y ∈ GW) (hrm : zRm rm R maxL mc ms) (hPH : PH H) (hrv : ∃ cell : Cell, H[b]? = some cell ∧ cell.vm.isStatics = false ∧ s.vm.findClass y.cls = some cell.cls) (hsize : ls.size = nL) (hst0 : st0 = As.reverse ++ .ref b :: rest) (hcat : (rest.map fun v => v.category).sum ≤ 8) (hdg : decode cc pc = .ok (.invokevirtual index, 3)) (hf : cells + mc ≤ R.cells ∧ slots + ms ≤ R.slots)
    (kx : ∀ (E : String) (ce : Cell) (q9 : Addr) (H1 : Heap) (locs1 : List Loc), PE E H1 → zCh1 a n H H1 → va_S (zA B) s.heap H1 locs1 → H1[q9]? = some ce → ce.vm = .none → s.vm.findClass E = some ce.cls → vx_W p l e R s m args below meth c H1 locs1 (cells + mc) (slots + ms) Q (F0 m pc ls rest) q9) : W p l e R s m args below meth c H locs cells slots Q (F0 m pc ls st0) :=
  z_xr (arr := (Value.ref b :: As).toArray) (vx_runV S hM ⟨z_callB S hI hlink hrm, S.2.2.2.2 _ hV.1, S.2.2.2.2 _ hV.2⟩ ⟨zPre.blind, hrv, fun _ hU hW => ⟨rfl, zPre.at' (hZ.at' hS) hPH hU hW⟩⟩ rfl rfl hsize hst0 (lv_room hcat) hdg hf) hS hB kx
/-- it goes on to the caller -/
theorem z_xo {E : String} {ce : Cell} {q9 : Addr} {Qc : Array Value → State → Outcome → State → Prop} (hex : ∀ x ∈ c.exceptionTable.toList, False) (hlk : meth.locks = false) (hce : H[q9]? = some ce) (hcv : ce.vm = .none) (hcl : s.vm.findClass E = some ce.cls) (hS : va_S (zA B) s.heap H locs) (hc : zCh1 a n s.heap H) (hw : PE E H) (h1 : cells ≤ mc) (h2 : slots ≤ ms) : vx_W p l e R s m args below meth c H locs cells slots (vx_MQ below Qc (zXT PE a n) args s mc ms (zA B)) (F0 m pc ls rest) q9 :=
  vx_out (fun x hx => (hex x hx).elim) hlk hce hcv hcl (fun t ht _ => ⟨by rw [ht]; exact hw, by rw [ht]; exact hc⟩) hS.2.2 h1 h2
end YC
/-! WHAT A VERDICT 'ALLOWED' SAYS -/
theorem zV0_0 {f : Nat → Nat → Nat} {a b c : Nat} (h : (zV0 f a b c).1 = 0) : a ≤ 7 ∧ 1 ≤ b ∧ b ≤ 65535 ∧ c ≤ 99 ∧ f 0 4 < 8 := by
  unfold zV0 at h; split at h
  · cases h
  · split at h
    · cases h
    · omega
theorem zV1_0 {f : Nat → Nat → Nat} {a : Nat} (h : (zV1 f a).1 = 0) : a < f 0 4 ∧ f 4 a = 0 ∧ f 3 a ≠ 0 := by
  unfold zV1 at h; split at h
  · cases h
  · split at h
    · split at h
      · cases h
      · omega
    · cases h
theorem zV2_0 {f : Nat → Nat → Nat} {a : Nat} (h : (zV2 f a).1 = 0) : a < f 0 4 ∧ f 4 a ≠ 0 := by
  unfold zV2 at h; split at h
  · cases h
  · split at h
    · cases h
    · omega
theorem zV3_0 {f : Nat → Nat → Nat} {a b : Nat} (h : (zV3 f a b).1 = 0) : a < f 0 4 ∧ 1 ≤ b ∧ b ≤ 50 ∧ f 3 a + b ≤ 99 := by
  unfold zV3 at h; split at h
  · cases h
  · split at h
    · cases h
    · split at h
      · cases h
      · omega
theorem zV4_0 {v : zL} {a : Nat} (h : (zV4 v a).1 = 0) : 1 ≤ a ∧ a ≤ 10 ∧ zLt v ≠ 0 ∧ v 2 0 3 + a ≤ 40 := by
  unfold zV4 at h; split at h
  · cases h
  · split at h
    · cases h
    · split at h
      · cases h
      · omega
theorem zV5_0 {f : Nat → Nat → Nat} {a : Nat} (h : (zV5 f a).1 = 0) : 1 ≤ a ∧ a ≤ 10 ∧ a ≤ f 0 3 ∧ zLk f (f 0 3) ≤ f 0 3 - a := by
  unfold zV5 at h; split at h
  · cases h
  · split at h
    · cases h
    · split at h
      · cases h
      · omega
theorem zV6_0 {f : Nat → Nat → Nat} {a b : Nat} (h : (zV6 f a b).1 = 0) : 1 ≤ a ∧ a ≤ 20 ∧ 1 ≤ b ∧ b ≤ 9 ∧ a ≤ f 0 3 ∧ f 0 3 + a * b ≤ 40 := by
  unfold zV6 at h; split at h
  · cases h
  · split at h
    · cases h
    · split at h
      · cases h
      · refine ⟨?_, ?_, ?_, ?_, ?_, ?_⟩ <;> omega
theorem zV7_0 {f : Nat → Nat → Nat} {a b : Nat} {w : Bool} (h : (zV7 f a b w).1 = 0) : a < f 0 3 ∧ b < 16 ∧ zBt (f 3 a) b ≠ w := by
  unfold zV7 at h; split at h
  case isTrue h1 =>
    split at h
    · cases h
    case isFalse h2 => exact ⟨h1.1, h1.2, h2⟩
  · cases h
theorem zV9_0 {v : zL} {a : Nat} (h : (zV9 v a).1 = 0) : (a = 108 ∧ 1 ≤ v 3 0 1) ∨ (a = 114 ∧ 1 ≤ v 4 0 1) := by
  unfold zV9 at h; split at h
  · split at h
    · cases h
    · left; omega
  · split at h
    · split at h
      · cases h
      · right; omega
    · cases h
theorem zWo.lit {f : Nat → Nat → Nat} (h : zWo f) {a x : Nat} (hx : x ≤ 1) (h3 : x = 1 → 0 < f 3 a) : zWo (va_up f 4 (va_up (f 4) a x)) := by
  refine ⟨h.1, fun i => ⟨(h.2 i).1, (h.2 i).2.1, (h.2 i).2.2.1, ?_, ?_⟩⟩
  · show va_up (f 4) a x i ≤ 1
    rw [va_up_eq]; split
    · exact hx
    · exact (h.2 i).2.2.2.1
  · show va_up (f 4) a x i = 1 → 0 < f 3 i
    rw [va_up_eq]; split
    case isTrue e => rw [e]; exact h3
    · exact (h.2 i).2.2.2.2
theorem c_perform (l : Launch) (g : ZG) {B : Nat} {o oc : Nat} (hB : B ≤ o) (v : zL) (hv : zOk v) (fc : Nat → Nat → Nat) : ∀ (k : Nat), fc 0 0 = k → k < 10 → (zVd v k (fc 0 1) (fc 0 2) (fc 0 3)).1 = 0 → Met l yX8_perform (.code yX8_perform cX8_perform 4 (some .int) :: GW) { frames := 4, cells := 0, slots := 0, locals := 104 } (va_Pc [.ref o, .ref oc] (zPre g B (fun H => zLo g o v H ∧ zPm g oc 1 TCo fc H))) (zX (fun w H => w = some (.int (nI (zPf v k (fc 0 1) (fc 0 2) (fc 0 3)).2)) ∧ zLo g o (zPf v k (fc 0 1) (fc 0 2) (fc 0 3)).1 H) o 12) 0 0 (zA B)
  | 0, hk, _, h => c_X8_perform_0 l g hB v hv fc hk (zV0_0 h).2.2.2.2
  | 1, hk, _, h => c_X8_perform_1 l g hB v hv fc hk (by have := (zV1_0 h).1; have := hv.1.1; omega) (hv.1.lit (Nat.le_refl 1) (fun _ => by have := (zV1_0 h).2.2; omega))
  | 2, hk, _, h => c_X8_perform_2 l g hB v hv fc hk (by have := (zV2_0 h).1; have := hv.1.1; omega) (hv.1.lit (Nat.zero_le 1) (fun z => by cases z))
  | 3, hk, _, h => c_X8_perform_3 l g hB v hv fc hk (by have := (zV3_0 h).1; have := hv.1.1; omega)
  | 4, hk, _, h => c_X8_perform_4 l g hB v hv fc hk (zV4_0 h).2.2.2
  | 5, hk, _, h => c_X8_perform_5 l g hB v hv fc hk (zV5_0 h).2.2.1
  | 6, hk, _, h => c_X8_perform_6 l g hB v hv fc hk (zV6_0 h).2.2.2.2.1 (zV6_0 h).1 (zV6_0 h).2.2.2.2.2
  | 7, hk, _, h => c_X8_perform_7 l g hB v hv fc hk (zV7_0 h).1 (zV7_0 h).2.1
  | 8, hk, _, h => c_X8_perform_8 l g hB v hv fc hk (zV7_0 h).1 (zV7_0 h).2.1
  | 9, hk, _, h => (zV9_0 h).elim (fun z => c_X8_perform_9l l g hB v hv fc hk z.1 z.2) (fun z => c_X8_perform_9r l g hB v hv fc hk z.1 z.2)
  | k + 10, _, h, _ => absurd h (by omega)
theorem c_verdictOn (l : Launch) (g : ZG) {B : Nat} {oj o oc : Nat} (hB : B ≤ oj) (fj : Nat → Nat → Nat) (v : zL) (hv : zOk v) (fc : Nat → Nat → Nat) (h1 : fc 0 1 < 2 ^ 31) (h2 : fc 0 2 < 2 ^ 31) (h3 : fc 0 3 < 2 ^ 31) : ∀ (k : Nat), fc 0 0 = k → k < 10 → (k = 9 → fc 0 1 < 65536) → Met l yX5_verdictOn (.code yX5_verdictOn cX5_verdictOn 5 (some .int) :: GW) { frames := 3, cells := 0, slots := 0, locals := 67 } (va_Pc [.ref oj, .ref oc, .ref o] (zPre g B (fun H => zPm g oj 1 TJu fj H ∧ zLo g o v H ∧ zPm g oc 1 TCo fc H))) (zX (fun w H => w = some (.int (nI (zVd v k (fc 0 1) (fc 0 2) (fc 0 3)).1)) ∧ zPm g oj 1 TJu (zJd fj (zVd v k (fc 0 1) (fc 0 2) (fc 0 3))) H) oj 1) 0 0 (zA B)
  | 0, hk, _, _ => c_X5_verdictOn_0 l g hB fj v hv fc hk h1 h2 h3
  | 1, hk, _, _ => c_X5_verdictOn_1 l g hB fj v hv fc hk h1 h2 h3
  | 2, hk, _, _ => c_X5_verdictOn_2 l g hB fj v hv fc hk h1 h2 h3
  | 3, hk, _, _ => c_X5_verdictOn_3 l g hB fj v hv fc hk h1 h2 h3
  | 4, hk, _, _ => c_X5_verdictOn_4 l g hB fj v hv fc hk h1 h2 h3
  | 5, hk, _, _ => c_X5_verdictOn_5 l g hB fj v hv fc hk h1 h2 h3
  | 6, hk, _, _ => c_X5_verdictOn_6 l g hB fj v hv fc hk h1 h2 h3
  | 7, hk, _, _ => c_X5_verdictOn_7 l g hB fj v hv fc hk h1 h2 h3
  | 8, hk, _, _ => c_X5_verdictOn_8 l g hB fj v hv fc hk h1 h2 h3
  | 9, hk, _, h => c_X5_verdictOn_9 l g hB fj v hv fc hk (h rfl) h2 h3
  | k + 10, _, h, _ => absurd h (by omega)
theorem zPl_ok {f : Nat → Nat → Nat} (h : zWo f) {a b x : Nat} (ha : a ≤ 7) (hb : b ≤ 65535) (hx : x ≤ 99) (h8 : f 0 4 < 8) : zWo (zPl f a b x) := by
  refine ⟨by show f 0 4 + 1 ≤ 8; omega, fun i => ⟨?_, ?_, ?_, ?_, ?_⟩⟩
  · show va_up (f 1) (f 0 4) a i ≤ 7
    rw [va_up_eq]; split
    · exact ha
    · exact (h.2 i).1
  · show va_up (f 2) (f 0 4) b i < 65536
    rw [va_up_eq]; split
    · omega
    · exact (h.2 i).2.1
  · show va_up (f 3) (f 0 4) x i ≤ 99
    rw [va_up_eq]; split
    · exact hx
    · exact (h.2 i).2.2.1
  · show va_up (f 4) (f 0 4) 0 i ≤ 1
    rw [va_up_eq]; split
    · omega
    · exact (h.2 i).2.2.2.1
  · show va_up (f 4) (f 0 4) 0 i = 1 → 0 < va_up (f 3) (f 0 4) x i
    rw [va_up_eq, va_up_eq]; split
    · intro z; omega
    · exact (h.2 i).2.2.2.2
theorem zWo.pour {f : Nat → Nat → Nat} (h : zWo f) {a x : Nat} (hx : x ≤ 99) (h0 : f 3 a ≤ x) : zWo (va_up f 3 (va_up (f 3) a x)) := by
  refine ⟨h.1, fun i => ⟨(h.2 i).1, (h.2 i).2.1, ?_, (h.2 i).2.2.2.1, ?_⟩⟩
  · show va_up (f 3) a x i ≤ 99
    rw [va_up_eq]; split
    · exact hx
    · exact (h.2 i).2.2.1
  · show f 4 i = 1 → 0 < va_up (f 3) a x i
    have := (h.2 i).2.2.2.2
    rw [va_up_eq]; split
    case isTrue e => subst e; intro z; have := this z; omega
    · exact this
/-- what is allowed leaves a good loom -/
theorem zPf_ok {v : zL} (hv : zOk v) {k a b c : Nat} (h : (zVd v k a b c).1 = 0) : zOk (zPf v k a b c).1 := by
  match k, h with
  | 0, h => obtain ⟨h1, h2, h3, h4, h5⟩ := zV0_0 h; exact ⟨zPl_ok hv.1 h1 h3 h4 h5, hv.2⟩
  | 1, h => exact ⟨hv.1.lit (Nat.le_refl 1) (fun _ => by have := (zV1_0 h).2.2; omega), hv.2⟩
  | 2, h => exact ⟨hv.1.lit (Nat.zero_le 1) (fun z => by cases z), hv.2⟩
  | 3, h => exact ⟨hv.1.pour (zV3_0 h).2.2.2 (Nat.le_add_right _ _), hv.2⟩
  | 4, h => exact zWs_ok hv _ (by have h1 := zWn_le v a; have h2 := (zV4_0 h).2.2.2; omega)
  | 5, h => exact ⟨hv.1, ⟨by show v 2 0 3 - a ≤ 40; have := hv.2.1.1; omega, hv.2.1.2⟩, hv.2.2⟩
  | 6, h => exact ⟨hv.1, zCp_ok hv.2.1 a _ (zV6_0 h).2.2.2.2.2, hv.2.2⟩
  | 7, h => exact ⟨hv.1, zFk_ok hv.2.1 a (zV7_0 h).2.1, hv.2.2⟩
  | 8, h => exact ⟨hv.1, zFk_ok hv.2.1 a (zV7_0 h).2.1, hv.2.2⟩
  | k + 9, h =>
    show zOk (if a = 108 then _ else _ : zL × Nat).1
    split
    · exact ⟨hv.1, hv.2.1, ⟨by show (0 : Nat) ≤ 4; omega, by show v 3 0 1 - 1 ≤ 4; have := hv.2.2.1.2; omega⟩, hv.2.2.2⟩
    · exact ⟨hv.1, hv.2.1, hv.2.2.1, ⟨by show (0 : Nat) ≤ 4; omega, by show v 4 0 1 - 1 ≤ 4; have := hv.2.2.2.2; omega⟩⟩
/-! THE WHOLE STATE of a CandleLoom: its blocks: 0 the loom, 1 beforeText, 2 the snapshot, 3 to 10 what the history keeps, 11 the object's own numbers, 12 the history's, 13 the judge's, 14 the request, 15 the script and its commands, 16 the line -/
abbrev zSt : Type := Nat → zL
def dRo : ZD := fun _ a f => .inr (9, [.ref (a + 1), .ref (a + 13), .ref (a + 25), .int (nI (f 3)), .ref (a + 37), .ref (a + 135), .ref (a + 136), .ref (a + 137), .int (nI (f 8)), .int (nI (f 9)), .ref (a + 150), .int (nI (f 11)), .int (nI (f 12)), .int (nI (f 13))])
def TRo : Nat → ZD := fun _ => dRo
def zSO (g : ZG) (o : Nat) (S : zSt) (H : Heap) : Prop := zPm g o 1 TRo (S 11 0) H ∧ zLo g (o + 1) (S 0) H ∧ zLo g (o + 13) (S 1) H ∧ zLo g (o + 25) (S 2) H ∧ zHi g (o + 37) (S 12 0) (fun i => S (3 + i)) H ∧ zPm g (o + 135) 1 TJu (S 13 0) H ∧ zPm g (o + 136) 1 TCo (S 14 0) H ∧ zSo g (o + 137) (S 15 0) (S 15 1) H ∧ zPm g (o + 150) 2 TLi (S 16 0) H
theorem zSO.kept {g : ZG} {o a n : Nat} {S : zSt} {H H1 : Heap} (h : zSO g o S H) (hc : zCh1 a n H H1) (hd : o + 152 ≤ a ∨ a + n ≤ o) : zSO g o S H1 := ⟨h.1.kept hc (by omega), h.2.1.kept hc (by omega), h.2.2.1.kept hc (by omega), h.2.2.2.1.kept hc (by omega), h.2.2.2.2.1.kept hc (by omega), h.2.2.2.2.2.1.kept hc (by omega), h.2.2.2.2.2.2.1.kept hc (by omega), h.2.2.2.2.2.2.2.1.kept hc (by omega), h.2.2.2.2.2.2.2.2.kept hc (by omega)⟩
/-- the object's own numbers behind a denial -/
def zDn (f : Nat → Nat → Nat) (x y : Nat) : Nat → Nat → Nat := va_up f 0 (va_up (va_up (f 0) 11 x) 12 y)
theorem zDn_p {g : ZG} {o : Nat} {f f' : Nat → Nat → Nat} {H : Heap} (h : zPm g o 1 TRo f H) (e : f 0 = f' 0) : zPm g o 1 TRo f' H := h.cg (fun q hq x hv => by match q, hq with | 0, _ => rw [← e]; exact hv | q + 1, hq => exact absurd hq (by omega))
theorem ci_X11_throwDenial : zCI yX11_throwDenial cX11_throwDenial 3 none 2 := ⟨k522, k1, by decide +kernel⟩
theorem cv_X11_throwDenial : Cond.instanceMethod yX11_throwDenial ∈ GW ∧ Cond.selects (yX11_throwDenial).cls yX11_throwDenial yX11_throwDenial ∈ GW := ⟨k521, kp12⟩
set_option maxRecDepth 20000 in
set_option maxHeartbeats 4000000 in
/-- throwDenial(x, y) -/
theorem c_throwDenial (l : Launch) (hl0 : l.stackTraces = false) (g : ZG) {B : Nat} {o : Nat} (hB : B ≤ o) (f : Nat → Nat → Nat) (x y9 : Nat) : vx_Met l yX11_throwDenial (.code yX11_throwDenial cX11_throwDenial 3 none :: GW) { frames := 6, cells := 1, slots := 6, locals := 82 } (va_Pc [.ref o, .int (nI x), .int (nI y9)] (zPre g B (fun H => zPm g o 1 TRo f H))) (fun _ _ _ _ => False) (zXT (fun E H => E = "java/lang/UnsupportedOperationException" ∧ zPm g o 1 TRo (zDn f x y9) H) o 1) 1 6 (zA B) := by
  refine zMetX (by decide) (Nat.le_of_ble_eq_true rfl) ?_
  intro p e R s m args below meth c Q ls hR hargs hQ S hr hlk hex hP hZ hS hl
  have hl : lv_has ls 3 [(0, .ref (o)), (1, .int (nI (x))), (2, .int (nI (y9)))] := hl
  subst hQ
  have hC : zCh1 o 1 s.heap s.heap := zCh1.rf
  refine lv_aload_n S.1 S.2.1 dX11_throwDenial_0 rfl (lv_at hl 0 rfl) ?_
  refine lv_iload_n S.1 S.2.1 dX11_throwDenial_1 rfl (lv_at hl 1 rfl) ?_
  refine z_put (v := .int (nI (x))) (ty := .int) S hZ.1 hP hS hB 0 (by decide) rfl rfl rfl 11 (by decide) (va_up (f 0) 11 x) rfl k256 rfl (by decide +kernel) rfl rfl (Nat.le_of_ble_eq_true rfl) dX11_throwDenial_2 (fun H1 locs1 hPn hCn hSn => ?_)
  have hS := hSn
  have hP := hPn
  have hC := hC.tr (hCn.mono (b := o) (k := 1) (by omega) (by omega))
  refine lv_aload_n S.1 S.2.1 dX11_throwDenial_5 rfl (lv_at hl 0 rfl) ?_
  refine lv_iload_n S.1 S.2.1 dX11_throwDenial_6 rfl (lv_at hl 2 rfl) ?_
  refine z_put (v := .int (nI (y9))) (ty := .int) S hZ.1 hP hS hB 0 (by decide) rfl rfl rfl 12 (by decide) (va_up ((va_up f 0 (va_up (f 0) 11 x)) 0) 12 y9) rfl k257 rfl (by decide +kernel) rfl rfl (Nat.le_of_ble_eq_true rfl) dX11_throwDenial_7 (fun H1 locs1 hPn hCn hSn => ?_)
  have hS := hSn
  have hP := hPn
  have hC := hC.tr (hCn.mono (b := o) (k := 1) (by omega) (by omega))
  obtain ⟨sa, hsa⟩ := hZ.2.1.2.2.1 (334, "the call is denied") (by decide)
  refine vx_throwSW (A := zA B) (cls := "java/lang/UnsupportedOperationException") (text := "the call is denied") (names := ["java/lang/RuntimeException", "java/lang/Exception"]) (sa := sa) S.1 S.2.1 hl0 S.2.2.2.1 (by decide +kernel) (by decide +kernel) (S.2.2.2.2 _ k523) (S.2.2.2.2 _ k19) hsa (vx_hat (fun w hw => S.2.2.2.2 _ (ow_throwDenial w hw)) ox_throwDenial (hZ.2.2.thr (by decide))) og_throwDenial hZ.2.1.1 hZ.2.1.2.1 hS (hl.1.trans S.2.2.1.symm) dX11_throwDenial_10 dX11_throwDenial_13 dX11_throwDenial_14 dX11_throwDenial_17 dX11_throwDenial_20 (fun x hx => (hex x hx).elim) (by rw [hR]; decide) (by rw [hR]; decide) (by rw [hR]; decide) (by rw [hR]; decide) hlk (fun t _ h1 h2 => ?_) hS.2.2 (Nat.le_of_ble_eq_true rfl) (Nat.le_of_ble_eq_true rfl)
  have hx : zCh1 0 0 H1 t.heap := ⟨h1, fun q hq _ => h2 q hq⟩
  exact ⟨⟨rfl, (show zPm g o 1 TRo (zDn f x y9) H1 from zDn_p hP rfl).kept hx (by omega)⟩, hC.tr ⟨h1, fun q hq _ => h2 q hq⟩⟩
theorem zVd_le (v : zL) (k a b c : Nat) : (zVd v k a b c).1 ≤ 10 := by
  match k with
  | 0 => show (zV0 _ _ _ _).1 ≤ 10; unfold zV0; (repeat' split) <;> decide
  | 1 => show (zV1 _ _).1 ≤ 10; unfold zV1; (repeat' split) <;> (show (_ : Nat) ≤ 10; omega)
  | 2 => show (zV2 _ _).1 ≤ 10; unfold zV2; (repeat' split) <;> (show (_ : Nat) ≤ 10; omega)
  | 3 => show (zV3 _ _ _).1 ≤ 10; unfold zV3; (repeat' split) <;> (show (_ : Nat) ≤ 10; omega)
  | 4 => show (zV4 _ _).1 ≤ 10; unfold zV4; (repeat' split) <;> (show (_ : Nat) ≤ 10; omega)
  | 5 => show (zV5 _ _).1 ≤ 10; unfold zV5; (repeat' split) <;> (show (_ : Nat) ≤ 10; omega)
  | 6 => show (zV6 _ _ _).1 ≤ 10; unfold zV6; (repeat' split) <;> (show (_ : Nat) ≤ 10; omega)
  | 7 => show (zV7 _ _ _ _).1 ≤ 10; unfold zV7; (repeat' split) <;> (show (_ : Nat) ≤ 10; omega)
  | 8 => show (zV7 _ _ _ _).1 ≤ 10; unfold zV7; (repeat' split) <;> (show (_ : Nat) ≤ 10; omega)
  | k + 9 => show (zV9 _ _).1 ≤ 10; unfold zV9; (repeat' split) <;> (show (_ : Nat) ≤ 10; omega)
theorem zCh1.z0 {a b n : Nat} {H H1 : Heap} (h : zCh1 a 0 H H1) : zCh1 b n H H1 := ⟨h.1, fun q hq _ => h.2 q hq (by omega)⟩
/-- behind a change that was allowed -/
def zCg (S : zSt) (P : zL) : zSt := fun b => if 11 ≤ b then (if b = 12 then fun _ => zHk (S 12 0) else S b) else if b < 3 then (if b = 0 then P else S b) else if b = 3 + (S 12 0 0 1 + S 12 0 0 2) % 8 then S 0 else S b
theorem zCg_k (S : zSt) (P : zL) (i : Nat) (hi : i < 8) : zCg S P (3 + i) = va_up (fun i => S (3 + i)) ((S 12 0 0 1 + S 12 0 0 2) % 8) (S 0) i := by
  unfold zCg
  rw [if_neg (by omega), if_neg (by omega), va_up_eq]
  by_cases e : i = (S 12 0 0 1 + S 12 0 0 2) % 8
  · rw [if_pos (by omega), if_pos e]
  · rw [if_neg (by omega), if_neg e]
theorem zHi.cgk {g : ZG} {oh : Nat} {f : Nat → Nat → Nat} {kp kq : Nat → zL} {H : Heap} (h : zHi g oh f kp H) (e : ∀ i, i < 8 → kq i = kp i) : zHi g oh f kq H := ⟨h.1, fun i hi => by rw [e i hi]; exact h.2 i hi⟩
/-- behind a change that was not -/
def zNo (S : zSt) (d : Nat × Nat) : zSt := fun b => if b = 13 then (fun _ => zJd (S 13 0) d) else if b = 11 then (fun _ => if d.1 < 9 then zDn (S 11 0) d.1 d.2 else S 11 0) else S b
def zXn (d : Nat × Nat) : String := if d.1 = 9 then "java/lang/IllegalArgumentException" else if d.1 = 10 then "java/lang/IndexOutOfBoundsException" else "java/lang/UnsupportedOperationException"
/-- what is always so -/
def zIv (S : zSt) : Prop := zOk (S 0) ∧ zOk (S 2) ∧ (∀ i, i < 8 → zOk (S (3 + i))) ∧ S 12 0 0 1 < 8 ∧ S 12 0 0 2 ≤ 8
