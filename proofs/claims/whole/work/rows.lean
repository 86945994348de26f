section
/-! Evidence for REPORT.md, TRANSLATOR, T1 (not a step towards the owed statement): the words that the statement takes as given contradict each other. -/
def t1_x : MethodName := ⟨"SourceTree$Node", "digestText", "(JLjava/lang/String;)J"⟩
theorem t1_declares : Cond.declares t1_x ∈ tables_1 := by decide +kernel
theorem t1_static : Cond.static t1_x ∈ tables_1 := by decide +kernel
/-- the launch's class file says otherwise than the word -/
theorem t1_file : launch0.says (.declares t1_x) = false := by decide +kernel
/-- no state meets the tables' words -/
theorem t1_none (args : Array Value) (s : State) : ¬ ∀ w ∈ tables_1, w.before args s = true := by
  intro h
  obtain ⟨m, meth, h1, h2, h3, h4⟩ := Cond.declares_spec (h _ t1_declares)
  have h5 : meth.isStatic = true := Cond.static_spec h1 h2 (h _ t1_static)
  rw [h3] at h5
  cases h5
end
