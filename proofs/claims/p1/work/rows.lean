section
/-! The premises of this Statement ask that the array class of StackTraceElement is there: in a start without that class they are false. -/
set_option maxRecDepth 100000 in
theorem wt_atom : (Cond.not (.castable "[Ljava/lang/StackTraceElement;" "java/lang/Integer")) ∈ flatC (Jvm.Cond.and given_1 narrow_1) := by decide +kernel
theorem wt_found {args : Array Value} {s : State} (h : (Jvm.Cond.and given_1 narrow_1).before args s = true) : ∃ c : ClassId, s.vm.findClass "[Ljava/lang/StackTraceElement;" = some c := by
  obtain ⟨c, t, h1, -, -⟩ := va_Nc.of (flat_of_before _ h _ wt_atom)
  exact ⟨c, h1⟩
theorem wt_false {args : Array Value} {s : State} (h : s.vm.findClass "[Ljava/lang/StackTraceElement;" = none) : (Jvm.Cond.and given_1 narrow_1).before args s = false := by
  cases e : (Jvm.Cond.and given_1 narrow_1).before args s
  · rfl
  · obtain ⟨c, h1⟩ := wt_found e
    rw [h] at h1
    cases h1
theorem i_vc : Claimed_1_1 ∧ Claimed_1_2 := sorry
end
