section
/-! REPORT, T1, as a row: from a state whose tables hold no class of this name the premise narrow_1_1 can't hold. The printed start's table of classes (witness.lean.txt) holds none of this name, so its row start1.narrow_hold_1 says what is false. -/
theorem t1_wanting (args : Array Value) (s : State) (h : s.vm.findClass "[Ljava/lang/StackTraceElement;" = none) : ¬ (narrow_1_1.before args s = true) := by
  intro hb
  have hs := flat_of_before _ hb
  have hc : (Cond.not (Cond.castable "[Ljava/lang/StackTraceElement;" "java/lang/String")).before args s = true := hs _ (by decide +kernel)
  simp [Cond.before, Cond.holds, Cond.value, h] at hc
end
