section
-- REPORT.md, TRANSLATOR 1: a start whose tables have no class "[Ljava/lang/StackTraceElement;" doesn't meet narrow_1_2,
-- so the printed row start1.narrow_hold_2 (narrow_1_2.before args0 about = true) is no true theorem: 'about' has no such class.
theorem wx_andL (a b : Jvm.Cond) (args : Array Jvm.Value) (s : Jvm.State) (h : a.before args s = false) :
    (Jvm.Cond.and a b).before args s = false := by
  unfold Jvm.Cond.before Jvm.Cond.holds at h ⊢
  rw [Jvm.Cond.value]
  generalize a.value args s none s [] = v at h
  rcases v with _ | _ | _
  · rfl
  · rfl
  · exact absurd h (by decide)

theorem wx_andR (a b : Jvm.Cond) (args : Array Jvm.Value) (s : Jvm.State) (h : b.before args s = false) :
    (Jvm.Cond.and a b).before args s = false := by
  unfold Jvm.Cond.before Jvm.Cond.holds at h ⊢
  rw [Jvm.Cond.value]
  generalize a.value args s none s [] = v
  rcases v with _ | _ | _
  · rfl
  · rfl
  · exact h

theorem wx_leaf (c t : String) (args : Array Jvm.Value) (s : Jvm.State) (h : s.vm.findClass c = none) :
    (Jvm.Cond.not (Jvm.Cond.castable c t)).before args s = false := by
  unfold Jvm.Cond.before Jvm.Cond.holds
  rw [Jvm.Cond.value, Jvm.Cond.value, h]
  rfl

theorem wx_narrow (args : Array Jvm.Value) (s : Jvm.State) (h : s.vm.findClass "[Ljava/lang/StackTraceElement;" = none) :
    narrow_1_2.before args s = false := by
  unfold narrow_1_2
  exact wx_andL _ _ _ _ (wx_andL _ _ _ _ (wx_andL _ _ _ _ (wx_andR _ _ _ _ (wx_andL _ _ _ _ (wx_andR _ _ _ _ (wx_andR _ _ _ _
    (wx_andL _ _ _ _ (wx_leaf _ _ _ _ h))))))))
end
