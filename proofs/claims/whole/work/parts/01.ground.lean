/-! THE GROUND OF 'STUCK': what the Statement takes as given asks that the machine's table of classes holds "[Ljava/lang/StackTraceElement;"; a start whose table lacks it meets no premise -/
theorem dg_nc {A B : String} {args : Array Value} {U : State} (h : (Cond.not (Cond.castable A B)).before args U = true) : ∃ c, U.vm.findClass A = some c := by
  simp only [Cond.before, Cond.holds, Cond.value] at h
  cases e : U.vm.findClass A with
  | some c => exact ⟨c, rfl⟩
  | none => simp [e] at h
def dg_f : List Cond := flatC (Jvm.Cond.and given_1 narrow_1)
theorem dg_in : dg_f[509]? = some (Cond.not (Cond.castable "[Ljava/lang/StackTraceElement;" "[B")) := by decide +kernel
theorem dg_ground {args : Array Value} {U : State} (h : (Jvm.Cond.and given_1 narrow_1).before args U = true) : ∃ c, U.vm.findClass "[Ljava/lang/StackTraceElement;" = some c :=
  dg_nc (flat_of_before _ h _ (List.mem_of_getElem? dg_in))
