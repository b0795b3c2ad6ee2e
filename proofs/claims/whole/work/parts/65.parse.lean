-- ===== a show's text as pure values: how it is read =====
/-- the sign at a place; 200 at the end -/
def chT (T : Nat × (Nat → Nat)) (a : Nat) : Nat := if a < T.1 then T.2 a else 200
theorem chT_lt {T : Nat × (Nat → Nat)} {a c : Nat} (h : chT T a = c) (hc : c < 200) : a < T.1 := by
  unfold chT at h
  rcases Nat.lt_or_ge a T.1 with q | q
  · exact q
  · rw [if_neg (by omega)] at h; omega
def isDg (T : Nat × (Nat → Nat)) (a : Nat) : Bool := decide (48 ≤ chT T a ∧ chT T a ≤ 57)
theorem isDg_lt {T : Nat × (Nat → Nat)} {a : Nat} (h : isDg T a = true) : a < T.1 := by
  have h := of_decide_eq_true h
  exact chT_lt rfl (by omega)
def nmC (T : Nat × (Nat → Nat)) (a : Nat) : Nat := if isDg T a = true then (if isDg T (a + 1) = true then 2 else 1) else 0
def nmV (T : Nat × (Nat → Nat)) (a : Nat) : Nat := if isDg T a = true then (if isDg T (a + 1) = true then 10 * (chT T a - 48) + (chT T (a + 1) - 48) else chT T a - 48) else 0
theorem nmC_le {T : Nat × (Nat → Nat)} {a : Nat} (h : a ≤ T.1) : a + nmC T a ≤ T.1 := by
  unfold nmC
  by_cases c : isDg T a = true
  · rw [if_pos c]
    have := isDg_lt c
    by_cases e : isDg T (a + 1) = true
    · rw [if_pos e]; have := isDg_lt e; omega
    · rw [if_neg e]; omega
  · rw [if_neg c]; omega
theorem nmV_lt {T : Nat × (Nat → Nat)} {a : Nat} : nmV T a < 100 := by
  unfold nmV
  by_cases c : isDg T a = true
  · rw [if_pos c]
    have c1 := of_decide_eq_true c
    by_cases e : isDg T (a + 1) = true
    · rw [if_pos e]; have e1 := of_decide_eq_true e; omega
    · rw [if_neg e]; omega
  · rw [if_neg c]; omega
/-- which letter, which sign -/
def liT (c : Nat) : Nat := if c = 112 then 0 else if c = 107 then 1 else if c = 118 then 2 else if c = 115 then 3 else if c = 119 then 4 else if c = 109 then 5 else 6
def siT (c : Nat) : Nat := if c = 60 then 0 else if c = 61 then 1 else if c = 62 then 2 else 3
theorem liT_c {c : Nat} (h : ¬ liT c = 6) : c = 112 ∨ c = 107 ∨ c = 118 ∨ c = 115 ∨ c = 119 ∨ c = 109 := by
  by_cases e1 : c = 112
  · exact Or.inl e1
  by_cases e2 : c = 107
  · exact Or.inr (Or.inl e2)
  by_cases e3 : c = 118
  · exact Or.inr (Or.inr (Or.inl e3))
  by_cases e4 : c = 115
  · exact Or.inr (Or.inr (Or.inr (Or.inl e4)))
  by_cases e5 : c = 119
  · exact Or.inr (Or.inr (Or.inr (Or.inr (Or.inl e5))))
  by_cases e6 : c = 109
  · exact Or.inr (Or.inr (Or.inr (Or.inr (Or.inr e6))))
  exact absurd (by unfold liT; rw [if_neg e1, if_neg e2, if_neg e3, if_neg e4, if_neg e5, if_neg e6]) h
theorem siT_c {c : Nat} (h : ¬ siT c = 3) : c = 60 ∨ c = 61 ∨ c = 62 := by
  by_cases e1 : c = 60
  · exact Or.inl e1
  by_cases e2 : c = 61
  · exact Or.inr (Or.inl e2)
  by_cases e3 : c = 62
  · exact Or.inr (Or.inr e3)
  exact absurd (by unfold siT; rw [if_neg e1, if_neg e2, if_neg e3]) h
theorem liT_lt {T : Nat × (Nat → Nat)} {a : Nat} (h : ¬ liT (chT T a) = 6) : a < T.1 ∧ liT (chT T a) < 6 := by
  have h2 := liT_c h
  refine ⟨chT_lt rfl (by omega), ?_⟩
  rcases h2 with e | e | e | e | e | e <;> rw [e] <;> decide
theorem siT_lt {T : Nat × (Nat → Nat)} {a : Nat} (h : ¬ siT (chT T a) = 3) : a < T.1 ∧ siT (chT T a) < 3 := by
  have h2 := siT_c h
  refine ⟨chT_lt rfl (by omega), ?_⟩
  rcases h2 with e | e | e <;> rw [e] <;> decide
/-- whether it was read, up to where, and what was told -/
abbrev PR : Type := Bool × Nat × List Nat
def pTest (T : Nat × (Nat → Nat)) (a : Nat) : PR := if liT (chT T a) = 6 then (false, a, []) else if siT (chT T (a + 1)) = 3 then (false, a + 1, []) else if nmC T (a + 2) = 0 then (false, a + 2, []) else (true, a + 2 + nmC T (a + 2), [3 + 300 * liT (chT T a) + 100 * siT (chT T (a + 1)) + nmV T (a + 2)])
def pAnd (f : Nat → PR) (T : Nat × (Nat → Nat)) : Nat → Nat → List Nat → PR
  | 0, a, cs => (true, a, cs)
  | n + 1, a, cs => if chT T a = 38 then (if (f (a + 1)).1 = true then pAnd f T n (f (a + 1)).2.1 (cs ++ (f (a + 1)).2.2 ++ [1]) else (false, (f (a + 1)).2.1, [])) else (true, a, cs)
def pT (f : Nat → PR) (T : Nat × (Nat → Nat)) (m a : Nat) : PR := if (f a).1 = true then pAnd f T m (f a).2.1 (f a).2.2 else (false, (f a).2.1, [])
def pOr (f : Nat → PR) (T : Nat × (Nat → Nat)) (m : Nat) : Nat → Nat → List Nat → PR
  | 0, a, cs => (true, a, cs)
  | n + 1, a, cs => if chT T a = 124 then (if (pT f T m (a + 1)).1 = true then pOr f T m n (pT f T m (a + 1)).2.1 (cs ++ (pT f T m (a + 1)).2.2 ++ [2]) else (false, (pT f T m (a + 1)).2.1, [])) else (true, a, cs)
def pE (f : Nat → PR) (T : Nat × (Nat → Nat)) (m a : Nat) : PR := if (pT f T m a).1 = true then pOr f T m m (pT f T m a).2.1 (pT f T m a).2.2 else (false, (pT f T m a).2.1, [])
def pF (T : Nat × (Nat → Nat)) : Nat → Nat → PR
  | 0, a => pTest T a
  | d + 1, a => if chT T a = 33 then (if (pF T d (a + 1)).1 = true then (true, (pF T d (a + 1)).2.1, (pF T d (a + 1)).2.2 ++ [0]) else (false, (pF T d (a + 1)).2.1, []))
      else if chT T a = 40 then (if (pE (pF T d) T 101 (a + 1)).1 = true then (if chT T (pE (pF T d) T 101 (a + 1)).2.1 = 41 then (true, (pE (pF T d) T 101 (a + 1)).2.1 + 1, (pE (pF T d) T 101 (a + 1)).2.2) else (false, (pE (pF T d) T 101 (a + 1)).2.1, [])) else (false, (pE (pF T d) T 101 (a + 1)).2.1, []))
      else pTest T a
/-- read on in one go, as the class does -/
def flW (w : Bool) (cs : List Nat) : List Nat := if w = true then cs ++ [2] else cs
def pFl (f : Nat → PR) (T : Nat × (Nat → Nat)) : Nat → Nat → List Nat → Bool → PR
  | 0, a, cs, w => (true, a, flW w cs)
  | n + 1, a, cs, w => if chT T a = 38 then (if (f (a + 1)).1 = true then pFl f T n (f (a + 1)).2.1 (cs ++ (f (a + 1)).2.2 ++ [1]) w else (false, (f (a + 1)).2.1, []))
      else if chT T a = 124 then (if (f (a + 1)).1 = true then pFl f T n (f (a + 1)).2.1 (flW w cs ++ (f (a + 1)).2.2) true else (false, (f (a + 1)).2.1, []))
      else (true, a, flW w cs)
def pEl (f : Nat → PR) (T : Nat × (Nat → Nat)) (m a : Nat) : PR := if (f a).1 = true then pFl f T m (f a).2.1 (f a).2.2 false else (false, (f a).2.1, [])
/-- what is read goes forward, tells no more than it reads, and stays within the text -/
def okf (T : Nat × (Nat → Nat)) (f : Nat → PR) : Prop := ∀ a, a ≤ T.1 → (f a).2.1 ≤ T.1 ∧ ((f a).1 = true → a < (f a).2.1 ∧ a + (f a).2.2.length ≤ (f a).2.1)
theorem pTest_ok (T : Nat × (Nat → Nat)) : okf T (pTest T) := by
  intro a ha
  unfold pTest
  by_cases c1 : liT (chT T a) = 6
  · rw [if_pos c1]; exact ⟨ha, fun z => Bool.noConfusion z⟩
  rw [if_neg c1]
  have h1 := (liT_lt c1).1
  by_cases c2 : siT (chT T (a + 1)) = 3
  · rw [if_pos c2]; exact ⟨h1, fun z => Bool.noConfusion z⟩
  rw [if_neg c2]
  have h2 := (siT_lt c2).1
  have h3 := nmC_le (T := T) (a := a + 2) (by omega)
  by_cases c3 : nmC T (a + 2) = 0
  · rw [if_pos c3]; exact ⟨h2, fun z => Bool.noConfusion z⟩
  · rw [if_neg c3]
    exact ⟨h3, fun _ => ⟨by show a < a + 2 + _; omega, by show a + 1 ≤ a + 2 + _; omega⟩⟩
theorem pAnd_ok {T : Nat × (Nat → Nat)} {f : Nat → PR} (hf : okf T f) : ∀ n a cs, a ≤ T.1 → (pAnd f T n a cs).2.1 ≤ T.1 ∧ ((pAnd f T n a cs).1 = true → a ≤ (pAnd f T n a cs).2.1 ∧ ∃ ds, (pAnd f T n a cs).2.2 = cs ++ ds ∧ a + ds.length ≤ (pAnd f T n a cs).2.1)
  | 0, a, cs, ha => ⟨ha, fun _ => ⟨Nat.le_refl _, [], by unfold pAnd; simp, by unfold pAnd; simp⟩⟩
  | n + 1, a, cs, ha => by
    unfold pAnd
    by_cases c1 : chT T a = 38
    · rw [if_pos c1]
      have h1 := chT_lt c1 (by decide)
      obtain ⟨f1, f2⟩ := hf (a + 1) h1
      by_cases c2 : (f (a + 1)).1 = true
      · rw [if_pos c2]
        obtain ⟨f3, f4⟩ := f2 c2
        obtain ⟨i1, i2⟩ := pAnd_ok hf n (f (a + 1)).2.1 (cs ++ (f (a + 1)).2.2 ++ [1]) f1
        refine ⟨i1, fun z => ?_⟩
        obtain ⟨j1, ds, j2, j3⟩ := i2 z
        refine ⟨by omega, (f (a + 1)).2.2 ++ [1] ++ ds, by rw [j2]; simp, ?_⟩
        simp only [List.length_append, List.length_cons, List.length_nil]
        omega
      · rw [if_neg c2]; exact ⟨f1, fun z => Bool.noConfusion z⟩
    · rw [if_neg c1]; exact ⟨ha, fun _ => ⟨Nat.le_refl _, [], by simp, by simp⟩⟩
theorem pT_ok {T : Nat × (Nat → Nat)} {f : Nat → PR} (hf : okf T f) (m : Nat) : okf T (pT f T m) := by
  intro a ha
  obtain ⟨f1, f2⟩ := hf a ha
  unfold pT
  by_cases c : (f a).1 = true
  · rw [if_pos c]
    obtain ⟨f3, f4⟩ := f2 c
    obtain ⟨i1, i2⟩ := pAnd_ok hf m (f a).2.1 (f a).2.2 f1
    refine ⟨i1, fun z => ?_⟩
    obtain ⟨j1, ds, j2, j3⟩ := i2 z
    rw [j2]
    simp only [List.length_append]
    exact ⟨by omega, by omega⟩
  · rw [if_neg c]; exact ⟨f1, fun z => Bool.noConfusion z⟩
theorem pOr_ok {T : Nat × (Nat → Nat)} {f : Nat → PR} (hf : okf T f) (m : Nat) : ∀ n a cs, a ≤ T.1 → (pOr f T m n a cs).2.1 ≤ T.1 ∧ ((pOr f T m n a cs).1 = true → a ≤ (pOr f T m n a cs).2.1 ∧ ∃ ds, (pOr f T m n a cs).2.2 = cs ++ ds ∧ a + ds.length ≤ (pOr f T m n a cs).2.1)
  | 0, a, cs, ha => ⟨ha, fun _ => ⟨Nat.le_refl _, [], by unfold pOr; simp, by unfold pOr; simp⟩⟩
  | n + 1, a, cs, ha => by
    unfold pOr
    by_cases c1 : chT T a = 124
    · rw [if_pos c1]
      have h1 := chT_lt c1 (by decide)
      obtain ⟨f1, f2⟩ := pT_ok hf m (a + 1) h1
      by_cases c2 : (pT f T m (a + 1)).1 = true
      · rw [if_pos c2]
        obtain ⟨f3, f4⟩ := f2 c2
        obtain ⟨i1, i2⟩ := pOr_ok hf m n (pT f T m (a + 1)).2.1 (cs ++ (pT f T m (a + 1)).2.2 ++ [2]) f1
        refine ⟨i1, fun z => ?_⟩
        obtain ⟨j1, ds, j2, j3⟩ := i2 z
        refine ⟨by omega, (pT f T m (a + 1)).2.2 ++ [2] ++ ds, by rw [j2]; simp, ?_⟩
        simp only [List.length_append, List.length_cons, List.length_nil]
        omega
      · rw [if_neg c2]; exact ⟨f1, fun z => Bool.noConfusion z⟩
    · rw [if_neg c1]; exact ⟨ha, fun _ => ⟨Nat.le_refl _, [], by simp, by simp⟩⟩
theorem pE_ok {T : Nat × (Nat → Nat)} {f : Nat → PR} (hf : okf T f) (m : Nat) : okf T (pE f T m) := by
  intro a ha
  obtain ⟨f1, f2⟩ := pT_ok hf m a ha
  unfold pE
  by_cases c : (pT f T m a).1 = true
  · rw [if_pos c]
    obtain ⟨f3, f4⟩ := f2 c
    obtain ⟨i1, i2⟩ := pOr_ok hf m m (pT f T m a).2.1 (pT f T m a).2.2 f1
    refine ⟨i1, fun z => ?_⟩
    obtain ⟨j1, ds, j2, j3⟩ := i2 z
    rw [j2]
    simp only [List.length_append]
    exact ⟨by omega, by omega⟩
  · rw [if_neg c]; exact ⟨f1, fun z => Bool.noConfusion z⟩
theorem pF_ok (T : Nat × (Nat → Nat)) : ∀ d, okf T (pF T d)
  | 0 => pTest_ok T
  | d + 1 => by
    intro a ha
    unfold pF
    by_cases c1 : chT T a = 33
    · rw [if_pos c1]
      have h1 := chT_lt c1 (by decide)
      obtain ⟨f1, f2⟩ := pF_ok T d (a + 1) h1
      by_cases c2 : (pF T d (a + 1)).1 = true
      · rw [if_pos c2]
        obtain ⟨f3, f4⟩ := f2 c2
        refine ⟨f1, fun _ => ⟨by show a < (pF T d (a + 1)).2.1; omega, ?_⟩⟩
        show a + ((pF T d (a + 1)).2.2 ++ [0]).length ≤ (pF T d (a + 1)).2.1
        simp only [List.length_append, List.length_cons, List.length_nil]
        omega
      · rw [if_neg c2]; exact ⟨f1, fun z => Bool.noConfusion z⟩
    rw [if_neg c1]
    by_cases c2 : chT T a = 40
    · rw [if_pos c2]
      have h1 := chT_lt c2 (by decide)
      obtain ⟨f1, f2⟩ := pE_ok (pF_ok T d) 101 (a + 1) h1
      by_cases c3 : (pE (pF T d) T 101 (a + 1)).1 = true
      · rw [if_pos c3]
        obtain ⟨f3, f4⟩ := f2 c3
        by_cases c4 : chT T (pE (pF T d) T 101 (a + 1)).2.1 = 41
        · rw [if_pos c4]
          have h2 := chT_lt c4 (by decide)
          exact ⟨h2, fun _ => ⟨by show a < _ + 1; omega, by show a + (pE (pF T d) T 101 (a + 1)).2.2.length ≤ (pE (pF T d) T 101 (a + 1)).2.1 + 1; omega⟩⟩
        · rw [if_neg c4]; exact ⟨f1, fun z => Bool.noConfusion z⟩
      · rw [if_neg c3]; exact ⟨f1, fun z => Bool.noConfusion z⟩
    · rw [if_neg c2]; exact pTest_ok T a ha
/-- in one go, or by levels: the same -/
theorem pAnd_pre {T : Nat × (Nat → Nat)} {f : Nat → PR} : ∀ m a ps cs, pAnd f T m a (ps ++ cs) = if (pAnd f T m a cs).1 = true then (true, (pAnd f T m a cs).2.1, ps ++ (pAnd f T m a cs).2.2) else (false, (pAnd f T m a cs).2.1, [])
  | 0, a, ps, cs => rfl
  | m + 1, a, ps, cs => by
    unfold pAnd
    by_cases c1 : chT T a = 38
    · rw [if_pos c1, if_pos c1]
      by_cases c2 : (f (a + 1)).1 = true
      · rw [if_pos c2, if_pos c2, List.append_assoc, List.append_assoc, pAnd_pre m, ← List.append_assoc]
      · rw [if_neg c2, if_neg c2, if_neg (by simp)]
    · rw [if_neg c1, if_neg c1, if_pos rfl]
theorem pFl_eq {T : Nat × (Nat → Nat)} {f : Nat → PR} (hf : okf T f) (m : Nat) (hm : T.1 < m) : ∀ n a cs w n' m', a ≤ T.1 → T.1 < a + n → T.1 < a + n' → T.1 < a + m' → pFl f T n a cs w = if (pAnd f T m' a cs).1 = true then pOr f T m n' (pAnd f T m' a cs).2.1 (flW w (pAnd f T m' a cs).2.2) else (false, (pAnd f T m' a cs).2.1, [])
  | 0, a, cs, w, n', m', ha, hn, _, _ => absurd hn (by omega)
  | n + 1, a, cs, w, n', m', ha, hn, hn', hm' => by
    obtain ⟨m2, rfl⟩ : ∃ k, m' = k + 1 := ⟨m' - 1, by omega⟩
    obtain ⟨n2, rfl⟩ : ∃ k, n' = k + 1 := ⟨n' - 1, by omega⟩
    unfold pFl
    by_cases c1 : chT T a = 38
    · rw [if_pos c1, pAnd, if_pos c1]
      have h1 := chT_lt c1 (by decide)
      obtain ⟨f1, f2⟩ := hf (a + 1) h1
      by_cases c2 : (f (a + 1)).1 = true
      · rw [if_pos c2, if_pos c2]
        obtain ⟨f3, f4⟩ := f2 c2
        exact pFl_eq hf m hm n _ _ w (n2 + 1) m2 f1 (by omega) (by omega) (by omega)
      · rw [if_neg c2, if_neg c2, if_neg (by simp)]
    rw [if_neg c1, pAnd, if_neg c1, if_pos rfl]
    by_cases c2 : chT T a = 124
    · rw [if_pos c2]
      show _ = pOr f T m (n2 + 1) a (flW w cs)
      rw [pOr, if_pos c2]
      have h1 := chT_lt c2 (by decide)
      obtain ⟨f1, f2⟩ := hf (a + 1) h1
      by_cases c3 : (f (a + 1)).1 = true
      · rw [if_pos c3]
        obtain ⟨f3, f4⟩ := f2 c3
        rw [pFl_eq hf m hm n (f (a + 1)).2.1 (flW w cs ++ (f (a + 1)).2.2) true n2 m f1 (by omega) (by omega) (by omega), pAnd_pre]
        have e : pT f T m (a + 1) = pAnd f T m (f (a + 1)).2.1 (f (a + 1)).2.2 := by unfold pT; rw [if_pos c3]
        rw [e]
        by_cases c4 : (pAnd f T m (f (a + 1)).2.1 (f (a + 1)).2.2).1 = true
        · rw [if_pos c4, if_pos rfl, if_pos c4]
          rfl
        · rw [if_neg c4, if_neg (by simp), if_neg c4]
      · rw [if_neg c3]
        have e : pT f T m (a + 1) = (false, (f (a + 1)).2.1, []) := by unfold pT; rw [if_neg c3]
        rw [e, if_neg (by simp)]
    · rw [if_neg c2]
      show _ = pOr f T m (n2 + 1) a (flW w cs)
      rw [pOr, if_neg c2]
theorem pE_el {T : Nat × (Nat → Nat)} {f : Nat → PR} (hf : okf T f) {m : Nat} (hm : T.1 < m) {a : Nat} (ha : a ≤ T.1) : pEl f T m a = pE f T m a := by
  obtain ⟨f1, f2⟩ := hf a ha
  unfold pEl pE
  by_cases c : (f a).1 = true
  · rw [if_pos c, pFl_eq hf m hm m _ _ false m m f1 (by omega) (by omega) (by omega)]
    have e : pT f T m a = pAnd f T m (f a).2.1 (f a).2.2 := by unfold pT; rw [if_pos c]
    rw [e]
    rfl
  · rw [if_neg c]
    have e : pT f T m a = (false, (f a).2.1, []) := by unfold pT; rw [if_neg c]
    rw [e, if_neg (by simp)]
/-- what is told keeps the depth: codes from depth n to e, below D -/
def okc (D : Nat) : List Nat → Nat → Nat → Prop
  | [], n, e => n = e
  | c :: cs, n, e => if c = 0 then 1 ≤ n ∧ okc D cs n e else if c < 3 then 2 ≤ n ∧ okc D cs (n - 1) e else n < D ∧ okc D cs (n + 1) e
theorem okc_app {D : Nat} : ∀ {xs ys : List Nat} {n m e : Nat}, okc D xs n m → okc D ys m e → okc D (xs ++ ys) n e
  | [], ys, n, m, e, h, h2 => by rw [show n = m from h]; exact h2
  | c :: xs, ys, n, m, e, h, h2 => by
    show okc D (c :: (xs ++ ys)) n e
    unfold okc at h ⊢
    by_cases c1 : c = 0
    · rw [if_pos c1] at h ⊢; exact ⟨h.1, okc_app h.2 h2⟩
    rw [if_neg c1] at h ⊢
    by_cases c2 : c < 3
    · rw [if_pos c2] at h ⊢; exact ⟨h.1, okc_app h.2 h2⟩
    · rw [if_neg c2] at h ⊢; exact ⟨h.1, okc_app h.2 h2⟩
theorem okc_0 {D n : Nat} (h : 1 ≤ n) : okc D [0] n n := by unfold okc; rw [if_pos rfl]; exact ⟨h, rfl⟩
theorem okc_2 {D n c : Nat} (hc : c = 1 ∨ c = 2) (h : 1 ≤ n) : okc D [c] (n + 1) n := by
  unfold okc
  rw [if_neg (by omega), if_pos (by omega)]
  exact ⟨by omega, by show n + 1 - 1 = n; omega⟩
theorem okc_t {D n c : Nat} (hc : 3 ≤ c) (h : n < D) : okc D [c] n (n + 1) := by
  unfold okc
  rw [if_neg (by omega), if_neg (by omega)]
  exact ⟨h, rfl⟩
/-- x more places are enough, at any depth -/
def okd (D x : Nat) (r : PR) : Prop := r.1 = true → ∀ n, n + x ≤ D → okc D r.2.2 n (n + 1)
theorem pTest_d (T : Nat × (Nat → Nat)) (D a : Nat) : okd D 1 (pTest T a) := by
  intro h n hn
  unfold pTest at h ⊢
  by_cases c1 : liT (chT T a) = 6
  · rw [if_pos c1] at h; exact Bool.noConfusion h
  rw [if_neg c1] at h ⊢
  by_cases c2 : siT (chT T (a + 1)) = 3
  · rw [if_pos c2] at h; exact Bool.noConfusion h
  rw [if_neg c2] at h ⊢
  by_cases c3 : nmC T (a + 2) = 0
  · rw [if_pos c3] at h; exact Bool.noConfusion h
  rw [if_neg c3]
  exact okc_t (by omega) (by omega)
theorem pAnd_d {T : Nat × (Nat → Nat)} {f : Nat → PR} {D x : Nat} (hf : ∀ a, okd D x (f a)) : ∀ m a cs n, n + 1 + x ≤ D → okc D cs n (n + 1) → (pAnd f T m a cs).1 = true → okc D (pAnd f T m a cs).2.2 n (n + 1)
  | 0, a, cs, n, hn, hc, _ => hc
  | m + 1, a, cs, n, hn, hc, h => by
    unfold pAnd at h ⊢
    by_cases c1 : chT T a = 38
    · rw [if_pos c1] at h ⊢
      by_cases c2 : (f (a + 1)).1 = true
      · rw [if_pos c2] at h ⊢
        exact pAnd_d hf m _ _ n hn (okc_app (okc_app hc (hf (a + 1) c2 (n + 1) hn)) (okc_2 (Or.inl rfl) (by omega))) h
      · rw [if_neg c2] at h; exact Bool.noConfusion h
    · rw [if_neg c1]; exact hc
theorem pT_d {T : Nat × (Nat → Nat)} {f : Nat → PR} {D x : Nat} (hf : ∀ a, okd D x (f a)) (m a : Nat) : okd D (x + 1) (pT f T m a) := by
  intro h n hn
  unfold pT at h ⊢
  by_cases c : (f a).1 = true
  · rw [if_pos c] at h ⊢
    exact pAnd_d hf m _ _ n (by omega) (hf a c n (by omega)) h
  · rw [if_neg c] at h; exact Bool.noConfusion h
theorem pOr_d {T : Nat × (Nat → Nat)} {f : Nat → PR} {D x : Nat} (hf : ∀ a, okd D x (f a)) (m : Nat) : ∀ k a cs n, n + 2 + x ≤ D → okc D cs n (n + 1) → (pOr f T m k a cs).1 = true → okc D (pOr f T m k a cs).2.2 n (n + 1)
  | 0, a, cs, n, hn, hc, _ => hc
  | k + 1, a, cs, n, hn, hc, h => by
    unfold pOr at h ⊢
    by_cases c1 : chT T a = 124
    · rw [if_pos c1] at h ⊢
      by_cases c2 : (pT f T m (a + 1)).1 = true
      · rw [if_pos c2] at h ⊢
        exact pOr_d hf m k _ _ n hn (okc_app (okc_app hc (pT_d hf m (a + 1) c2 (n + 1) (by omega))) (okc_2 (Or.inr rfl) (by omega))) h
      · rw [if_neg c2] at h; exact Bool.noConfusion h
    · rw [if_neg c1]; exact hc
theorem pE_d {T : Nat × (Nat → Nat)} {f : Nat → PR} {D x : Nat} (hf : ∀ a, okd D x (f a)) (m a : Nat) : okd D (x + 2) (pE f T m a) := by
  intro h n hn
  unfold pE at h ⊢
  by_cases c : (pT f T m a).1 = true
  · rw [if_pos c] at h ⊢
    exact pOr_d hf m m _ _ n (by omega) (pT_d hf m a c n (by omega)) h
  · rw [if_neg c] at h; exact Bool.noConfusion h
theorem okd_mono {D x y : Nat} {r : PR} (h : okd D x r) (hxy : x ≤ y) : okd D y r := fun z n hn => h z n (by omega)
theorem pF_d (T : Nat × (Nat → Nat)) (D : Nat) : ∀ d a, okd D (1 + 2 * d) (pF T d a)
  | 0, a => pTest_d T D a
  | d + 1, a => by
    intro h n hn
    unfold pF at h ⊢
    by_cases c1 : chT T a = 33
    · rw [if_pos c1] at h ⊢
      by_cases c2 : (pF T d (a + 1)).1 = true
      · rw [if_pos c2]
        exact okc_app (pF_d T D d (a + 1) c2 n (by omega)) (okc_0 (by omega))
      · rw [if_neg c2] at h; exact Bool.noConfusion h
    rw [if_neg c1] at h ⊢
    by_cases c2 : chT T a = 40
    · rw [if_pos c2] at h ⊢
      by_cases c3 : (pE (pF T d) T 101 (a + 1)).1 = true
      · rw [if_pos c3] at h ⊢
        by_cases c4 : chT T (pE (pF T d) T 101 (a + 1)).2.1 = 41
        · rw [if_pos c4]
          exact pE_d (fun b => pF_d T D d b) 101 (a + 1) c3 n (by omega)
        · rw [if_neg c4] at h; exact Bool.noConfusion h
      · rw [if_neg c3] at h; exact Bool.noConfusion h
    · rw [if_neg c2] at h ⊢
      exact pTest_d T D a h n (by omega)
/-- codes are as codes are: 0, 1, 2, or a test -/
def okt (cs : List Nat) : Prop := ∀ c, c ∈ cs → c < 3 ∨ (3 ≤ c ∧ c < 1803)
theorem okt_app {xs ys : List Nat} (h : okt xs) (h2 : okt ys) : okt (xs ++ ys) := fun c hc => (List.mem_append.mp hc).elim (h c) (h2 c)
theorem okt_1 {c : Nat} (h : c < 3) : okt [c] := fun x hx => by rw [List.mem_singleton.mp hx]; exact Or.inl h
theorem pTest_t (T : Nat × (Nat → Nat)) (a : Nat) (h : (pTest T a).1 = true) : okt (pTest T a).2.2 := by
  unfold pTest at h ⊢
  by_cases c1 : liT (chT T a) = 6
  · rw [if_pos c1] at h; exact Bool.noConfusion h
  rw [if_neg c1] at h ⊢
  by_cases c2 : siT (chT T (a + 1)) = 3
  · rw [if_pos c2] at h; exact Bool.noConfusion h
  rw [if_neg c2] at h ⊢
  by_cases c3 : nmC T (a + 2) = 0
  · rw [if_pos c3] at h; exact Bool.noConfusion h
  rw [if_neg c3]
  intro x hx
  have := (liT_lt c1).2
  have := (siT_lt c2).2
  have := nmV_lt (T := T) (a := a + 2)
  rw [List.mem_singleton.mp hx]
  exact Or.inr ⟨by omega, by omega⟩
theorem pAnd_t {T : Nat × (Nat → Nat)} {f : Nat → PR} (hf : ∀ a, (f a).1 = true → okt (f a).2.2) : ∀ m a cs, okt cs → (pAnd f T m a cs).1 = true → okt (pAnd f T m a cs).2.2
  | 0, a, cs, hc, _ => hc
  | m + 1, a, cs, hc, h => by
    unfold pAnd at h ⊢
    by_cases c1 : chT T a = 38
    · rw [if_pos c1] at h ⊢
      by_cases c2 : (f (a + 1)).1 = true
      · rw [if_pos c2] at h ⊢
        exact pAnd_t hf m _ _ (okt_app (okt_app hc (hf _ c2)) (okt_1 (by decide))) h
      · rw [if_neg c2] at h; exact Bool.noConfusion h
    · rw [if_neg c1]; exact hc
theorem pT_t {T : Nat × (Nat → Nat)} {f : Nat → PR} (hf : ∀ a, (f a).1 = true → okt (f a).2.2) (m a : Nat) (h : (pT f T m a).1 = true) : okt (pT f T m a).2.2 := by
  unfold pT at h ⊢
  by_cases c : (f a).1 = true
  · rw [if_pos c] at h ⊢; exact pAnd_t hf m _ _ (hf a c) h
  · rw [if_neg c] at h; exact Bool.noConfusion h
theorem pOr_t {T : Nat × (Nat → Nat)} {f : Nat → PR} (hf : ∀ a, (f a).1 = true → okt (f a).2.2) (m : Nat) : ∀ k a cs, okt cs → (pOr f T m k a cs).1 = true → okt (pOr f T m k a cs).2.2
  | 0, a, cs, hc, _ => hc
  | k + 1, a, cs, hc, h => by
    unfold pOr at h ⊢
    by_cases c1 : chT T a = 124
    · rw [if_pos c1] at h ⊢
      by_cases c2 : (pT f T m (a + 1)).1 = true
      · rw [if_pos c2] at h ⊢
        exact pOr_t hf m k _ _ (okt_app (okt_app hc (pT_t hf m _ c2)) (okt_1 (by decide))) h
      · rw [if_neg c2] at h; exact Bool.noConfusion h
    · rw [if_neg c1]; exact hc
theorem pE_t {T : Nat × (Nat → Nat)} {f : Nat → PR} (hf : ∀ a, (f a).1 = true → okt (f a).2.2) (m a : Nat) (h : (pE f T m a).1 = true) : okt (pE f T m a).2.2 := by
  unfold pE at h ⊢
  by_cases c : (pT f T m a).1 = true
  · rw [if_pos c] at h ⊢; exact pOr_t hf m m _ _ (pT_t hf m a c) h
  · rw [if_neg c] at h; exact Bool.noConfusion h
theorem pF_t (T : Nat × (Nat → Nat)) : ∀ d a, (pF T d a).1 = true → okt (pF T d a).2.2
  | 0, a, h => pTest_t T a h
  | d + 1, a, h => by
    unfold pF at h ⊢
    by_cases c1 : chT T a = 33
    · rw [if_pos c1] at h ⊢
      by_cases c2 : (pF T d (a + 1)).1 = true
      · rw [if_pos c2]
        exact okt_app (pF_t T d (a + 1) c2) (okt_1 (by decide))
      · rw [if_neg c2] at h; exact Bool.noConfusion h
    rw [if_neg c1] at h ⊢
    by_cases c2 : chT T a = 40
    · rw [if_pos c2] at h ⊢
      by_cases c3 : (pE (pF T d) T 101 (a + 1)).1 = true
      · rw [if_pos c3] at h ⊢
        by_cases c4 : chT T (pE (pF T d) T 101 (a + 1)).2.1 = 41
        · rw [if_pos c4]
          exact pE_t (fun b => pF_t T d b) 101 (a + 1) c3
        · rw [if_neg c4] at h; exact Bool.noConfusion h
      · rw [if_neg c3] at h; exact Bool.noConfusion h
    · rw [if_neg c2] at h ⊢
      exact pTest_t T a h
