section
/-! Why the printed witness falls: narrow_1_2 is met only by a start in which a class of the name below is known, and the printed start 'about' lists none. -/
set_option maxRecDepth 100000 in
/-- narrow_1_2 asks, among others, that an array of stack trace elements is no Integer -/
theorem wz_in : (Jvm.Cond.not (Jvm.Cond.castable "[Ljava/lang/StackTraceElement;" "java/lang/Integer")) ∈ flatC narrow_1_2 := by decide +kernel
/-- so where narrow_1_2 holds, that array's class is one of the start's classes -/
theorem wz_needs {args : Array Value} {s : State} (h : narrow_1_2.before args s = true) : ∃ c : ClassId, s.vm.findClass "[Ljava/lang/StackTraceElement;" = some c := by
  obtain ⟨c, t, h1, -, -⟩ := va_Nc.of (flat_of_before _ h _ wz_in)
  exact ⟨c, h1⟩
/-- and where it is none of them, narrow_1_2 does not hold -/
theorem wz_lacks {args : Array Value} {s : State} (h : s.vm.findClass "[Ljava/lang/StackTraceElement;" = none) : narrow_1_2.before args s = false := by
  cases h2 : narrow_1_2.before args s with
  | false => rfl
  | true =>
    obtain ⟨c, hc⟩ := wz_needs h2
    rw [h] at hc
    cases hc
end
