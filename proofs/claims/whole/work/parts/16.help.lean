/-! small helpers of the walks -/
theorem ly_cat : ∀ (av : List Value) (i : Nat), av.all (fun v => v.category == 1) = true → ∀ q, q ∈ lv_args i av → q.2.category = 1 := by
  intro av
  induction av with
  | nil => intro i _ q hq; simp [lv_args] at hq
  | cons v t ih =>
    intro i h q hq
    simp only [List.all_cons, Bool.and_eq_true] at h
    simp only [lv_args] at hq
    rcases List.mem_cons.mp hq with e | hq
    · subst e; simpa using h.1
    · exact ih _ h.2 q hq
