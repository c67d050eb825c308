section
/-- of the words that the Statement takes as given one is not what the launch's own class files say: Measure.at is static, 'declares' says that it is not -/
theorem ev_declares : launch0.says (Shape.declares ⟨"SlotForest$Measure", "at", "(III)I"⟩) = false := by decide +kernel
/-- it is among the given words, and so is its contrary -/
theorem ev_among : Cond.declares ⟨"SlotForest$Measure", "at", "(III)I"⟩ ∈ tables_1 ∧ Cond.static ⟨"SlotForest$Measure", "at", "(III)I"⟩ ∈ tables_1 := by decide +kernel
/-- it is the only one of all the shapes -/
theorem ev_only : ((tables_1.flatMap Cond.shapes).filter (fun y => !launch0.says y)).length = 1 := by decide +kernel
/-- EVIDENCE, NO PROOF OF THE CLAIM: the words that the Statement takes as given contradict each other: no start meets them -/
theorem ev_empty {args : Array Value} {s : State} (h : ∀ w ∈ tables_1, w.before args s = true) : False := by
  obtain ⟨m, meth, h1, h2, h3, -⟩ := Cond.declares_spec (h _ ev_among.1)
  have h4 := Cond.static_spec h1 h2 (h _ ev_among.2)
  rw [h3] at h4
  exact absurd h4 (by decide)
end
