section
/-! why the printed witness falls: a word 'not castable' about a class that the tables don't hold is worth nothing, so it does not hold -/
theorem pz_why {args : Array Value} {s : State} (h : s.vm.findClass "[Ljava/lang/StackTraceElement;" = none) :
    (Cond.not (Cond.castable "[Ljava/lang/StackTraceElement;" "java/lang/String")).before args s = false := by
  simp [Cond.before, Cond.holds, Cond.value, h]
end
