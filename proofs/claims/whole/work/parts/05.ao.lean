-- ===== what a word of the tables says of an array of arrays =====
theorem ao_arr {a : Array Value} {s : State} {t : FieldType} (h : (Cond.arrayOver (.array t)).before a s = true) : ∃ comp c k, s.vm.classes[c]? = some k ∧ k.kind = .array comp (.array t) ∧ s.vm.findClass ("[" ++ (FieldType.array t).toString) = some c := by
  simp only [Cond.before, Cond.holds, Cond.value, beq_iff_eq] at h
  obtain ⟨x, -, h⟩ := Option.bind_eq_some_iff.mp h
  obtain ⟨c, -, h⟩ := Option.bind_eq_some_iff.mp h
  obtain ⟨k, hk, h⟩ := Option.map_eq_some_iff.mp h
  cases e : k.kind with
  | array y ty =>
    rw [e] at h
    obtain ⟨h1, h2⟩ := (Bool.and_eq_true _ _).mp h
    exact ⟨y, c, k, hk, by rw [e, of_decide_eq_true h1], of_decide_eq_true h2⟩
  | _ => rw [e] at h; cases h
