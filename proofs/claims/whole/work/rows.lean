section
/-! THE START THAT A WITNESS WANTS: narrow_1_3 is true of no state in whose class table no class is called "[Ljava/lang/StackTraceElement;". -/
theorem sx_l {a b : Jvm.Cond} {args : Array Jvm.Value} {s : Jvm.State} (h : (Jvm.Cond.and a b).before args s = true) : a.before args s = true := by
  rw [Jvm.Cond.before_and, Bool.and_eq_true] at h
  exact h.1
theorem sx_r {a b : Jvm.Cond} {args : Array Jvm.Value} {s : Jvm.State} (h : (Jvm.Cond.and a b).before args s = true) : b.before args s = true := by
  rw [Jvm.Cond.before_and, Bool.and_eq_true] at h
  exact h.2
theorem sx_not {cls target : String} {args : Array Jvm.Value} {s : Jvm.State} (h : (Jvm.Cond.not (Jvm.Cond.castable cls target)).before args s = true) : s.vm.findClass cls ≠ none := by
  intro hc
  simp [Jvm.Cond.before, Jvm.Cond.holds, Jvm.Cond.value, hc] at h
theorem sx_three {args : Array Jvm.Value} {s : Jvm.State} (h : narrow_1_3.before args s = true) : s.vm.findClass "[Ljava/lang/StackTraceElement;" ≠ none :=
  sx_not (sx_l (sx_l (sx_r (sx_r (sx_r (sx_r (sx_r (sx_l h))))))))
theorem sx_table {s : Jvm.State} (h : ∀ k ∈ s.vm.classes, k.name ≠ "[Ljava/lang/StackTraceElement;") : s.vm.findClass "[Ljava/lang/StackTraceElement;" = none := by
  unfold Jvm.Vm.findClass
  rw [Array.findIdx?_eq_none_iff]
  intro k hk
  simp [h k hk]
/-- so the row that the witness wants of its start is false, whatever else the start is -/
theorem sx_false {args : Array Jvm.Value} {s : Jvm.State} (h : ∀ k ∈ s.vm.classes, k.name ≠ "[Ljava/lang/StackTraceElement;") : narrow_1_3.before args s = false := by
  cases hb : narrow_1_3.before args s with
  | false => rfl
  | true => exact absurd (sx_table h) (sx_three hb)
/-- nor does the whole of the premises hold there -/
theorem sx_narrow {args : Array Jvm.Value} {s : Jvm.State} (h : ∀ k ∈ s.vm.classes, k.name ≠ "[Ljava/lang/StackTraceElement;") : narrow_1.before args s ≠ true := by
  intro hb
  have h3 : narrow_1_3.before args s = true := sx_r (sx_r (sx_l (sx_l hb)))
  rw [sx_false h] at h3
  cases h3
theorem sx_t : start1.args0 = start1.args0 := rfl
end
