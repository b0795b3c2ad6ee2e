-- ===== a show as pure values: clauses, what they give =====
def pAll (T : Nat × (Nat → Nat)) : List Nat → Nat → Bool × Nat
  | [], a => (true, a)
  | c :: cs, a => if chT T a = c then pAll T cs (a + 1) else (false, a)
theorem pAll_ok {T : Nat × (Nat → Nat)} : ∀ (ws : List Nat) (a : Nat), (∀ c, c ∈ ws → c < 200) → a ≤ T.1 → a ≤ (pAll T ws a).2 ∧ (pAll T ws a).2 ≤ T.1 ∧ ((pAll T ws a).1 = true → (pAll T ws a).2 = a + ws.length)
  | [], a, _, ha => ⟨Nat.le_refl _, ha, fun _ => rfl⟩
  | c :: ws, a, hw, ha => by
    unfold pAll
    by_cases e : chT T a = c
    · rw [if_pos e]
      have h1 := chT_lt e (hw c List.mem_cons_self)
      obtain ⟨i1, i2, i3⟩ := pAll_ok ws (a + 1) (fun x hx => hw x (List.mem_cons_of_mem _ hx)) h1
      refine ⟨by omega, i2, fun z => ?_⟩
      rw [i3 z, List.length_cons]
      omega
    · rw [if_neg e]; exact ⟨Nat.le_refl _, ha, fun z => Bool.noConfusion z⟩
def wBr : List Nat := [98, 114, 105, 103, 104, 116, 32]
def wDi : List Nat := [100, 105, 109, 32]
def wDr : List Nat := [100, 114, 121, 32]
/-- a clause: its word, its number, its codes -/
abbrev Cl : Type := Nat × Nat × List Nat
abbrev PC : Type := Bool × Nat × Cl
def c0 : Cl := (3, 0, [])
def pCe (T : Nat × (Nat → Nat)) (w n b : Nat) : PC := if chT T b = 32 then (if (pE (pF T 4) T 101 (b + 1)).1 = true then (true, (pE (pF T 4) T 101 (b + 1)).2.1, (w, n, (pE (pF T 4) T 101 (b + 1)).2.2)) else (false, (pE (pF T 4) T 101 (b + 1)).2.1, c0)) else (false, b, c0)
def pCw (T : Nat × (Nat → Nat)) (w : Nat) (r : Bool × Nat) : PC := if r.1 = true then (if nmC T r.2 = 0 then (false, r.2, c0) else if w = 2 then (true, r.2 + nmC T r.2, (2, nmV T r.2, [])) else pCe T w (nmV T r.2) (r.2 + nmC T r.2)) else (false, r.2, c0)
def pCl (T : Nat × (Nat → Nat)) (a : Nat) : PC := if chT T a = 98 then pCw T 0 (pAll T wBr a) else if chT T a = 100 then (if chT T (a + 1) = 114 then pCw T 2 (pAll T wDr a) else pCw T 1 (pAll T wDi a)) else (false, a, c0)
/-- a clause that is one -/
def okC (c : Cl) : Prop := c.1 < 3 ∧ c.2.1 < 100 ∧ c.2.2.length ≤ 100 ∧ okt c.2.2 ∧ (c.1 < 2 → okc 20 c.2.2 0 1) ∧ (c.1 = 2 → c.2.2 = [])
theorem pCe_ok {T : Nat × (Nat → Nat)} {w n b : Nat} (hT : T.1 ≤ 100) (hb : b ≤ T.1) (hw : w < 2) (hn : n < 100) : (pCe T w n b).2.1 ≤ T.1 ∧ ((pCe T w n b).1 = true → b < (pCe T w n b).2.1 ∧ b + 1 + (pCe T w n b).2.2.2.2.length ≤ (pCe T w n b).2.1 ∧ okC (pCe T w n b).2.2) := by
  unfold pCe
  by_cases c1 : chT T b = 32
  · rw [if_pos c1]
    have h1 := chT_lt c1 (by decide)
    obtain ⟨f1, f2⟩ := pE_ok (pF_ok T 4) 101 (b + 1) h1
    by_cases c2 : (pE (pF T 4) T 101 (b + 1)).1 = true
    · rw [if_pos c2]
      obtain ⟨f3, f4⟩ := f2 c2
      refine ⟨f1, fun _ => ⟨by show b < (pE (pF T 4) T 101 (b + 1)).2.1; omega, f4, ?_⟩⟩
      refine ⟨by show w < 3; omega, hn, by show (pE (pF T 4) T 101 (b + 1)).2.2.length ≤ 100; omega, pE_t (fun x => pF_t T 4 x) 101 (b + 1) c2, fun _ => ?_, fun z => absurd (show w = 2 from z) (by omega)⟩
      exact pE_d (fun x => pF_d T 20 4 x) 101 (b + 1) c2 0 (by decide)
    · rw [if_neg c2]; exact ⟨f1, fun z => Bool.noConfusion z⟩
  · rw [if_neg c1]; exact ⟨hb, fun z => Bool.noConfusion z⟩
theorem pCw_ok {T : Nat × (Nat → Nat)} {w : Nat} {r : Bool × Nat} (hT : T.1 ≤ 100) (hr : r.2 ≤ T.1) (hw : w < 3) : (pCw T w r).2.1 ≤ T.1 ∧ ((pCw T w r).1 = true → r.2 < (pCw T w r).2.1 ∧ r.2 + (pCw T w r).2.2.2.2.length ≤ (pCw T w r).2.1 ∧ okC (pCw T w r).2.2) := by
  unfold pCw
  have h1 := nmC_le (T := T) hr
  by_cases c1 : r.1 = true
  · rw [if_pos c1]
    by_cases c2 : nmC T r.2 = 0
    · rw [if_pos c2]; exact ⟨hr, fun z => Bool.noConfusion z⟩
    rw [if_neg c2]
    by_cases c3 : w = 2
    · rw [if_pos c3]
      exact ⟨h1, fun _ => ⟨by show r.2 < r.2 + _; omega, by show r.2 + 0 ≤ _; exact Nat.le_add_right _ _, by show (2 : Nat) < 3; decide, nmV_lt, by show 0 ≤ 100; decide, fun c hc => absurd hc (by simp), fun z => absurd (show 2 < 2 from z) (by decide), fun _ => rfl⟩⟩
    · rw [if_neg c3]
      obtain ⟨i1, i2⟩ := pCe_ok (w := w) (n := nmV T r.2) hT h1 (by omega) nmV_lt
      refine ⟨i1, fun z => ?_⟩
      obtain ⟨i3, i4, i5⟩ := i2 z
      exact ⟨by omega, by omega, i5⟩
  · rw [if_neg c1]; exact ⟨hr, fun z => Bool.noConfusion z⟩
theorem pCl_ok {T : Nat × (Nat → Nat)} {a : Nat} (hT : T.1 ≤ 100) (ha : a ≤ T.1) : (pCl T a).2.1 ≤ T.1 ∧ ((pCl T a).1 = true → a < (pCl T a).2.1 ∧ a + 1 + (pCl T a).2.2.2.2.length ≤ (pCl T a).2.1 ∧ okC (pCl T a).2.2) := by
  unfold pCl
  have go : ∀ (w : Nat) (ws : List Nat), w < 3 → (∀ c, c ∈ ws → c < 200) → 0 < ws.length → (pCw T w (pAll T ws a)).2.1 ≤ T.1 ∧ ((pCw T w (pAll T ws a)).1 = true → a < (pCw T w (pAll T ws a)).2.1 ∧ a + 1 + (pCw T w (pAll T ws a)).2.2.2.2.length ≤ (pCw T w (pAll T ws a)).2.1 ∧ okC (pCw T w (pAll T ws a)).2.2) := fun w ws hw hws hl => by
    obtain ⟨i1, i2, i3⟩ := pAll_ok ws a hws ha
    obtain ⟨j1, j2⟩ := pCw_ok (w := w) (r := pAll T ws a) hT i2 hw
    refine ⟨j1, fun z => ?_⟩
    obtain ⟨j3, j4, j5⟩ := j2 z
    have hr : (pAll T ws a).1 = true := by
      cases e : (pAll T ws a).1 with
      | true => rfl
      | false =>
        unfold pCw at z
        rw [e, if_neg (by decide)] at z
        exact Bool.noConfusion z
    have := i3 hr
    exact ⟨by omega, by omega, j5⟩
  by_cases c1 : chT T a = 98
  · rw [if_pos c1]; exact go 0 wBr (by decide) (by decide) (by decide)
  rw [if_neg c1]
  by_cases c2 : chT T a = 100
  · rw [if_pos c2]
    by_cases c3 : chT T (a + 1) = 114
    · rw [if_pos c3]; exact go 2 wDr (by decide) (by decide) (by decide)
    · rw [if_neg c3]; exact go 1 wDi (by decide) (by decide) (by decide)
  · rw [if_neg c2]; exact ⟨ha, fun z => Bool.noConfusion z⟩
/-- the show: clauses, k at most, with ; between -/
def pSh (T : Nat × (Nat → Nat)) : Nat → Nat → List Cl → Bool × Nat × List Cl
  | 0, a, _ => (false, a, [])
  | k + 1, a, cls => if (pCl T a).1 = true then (if (pCl T a).2.1 = T.1 then (true, T.1, cls ++ [(pCl T a).2.2]) else if k = 0 then (false, (pCl T a).2.1, []) else if chT T (pCl T a).2.1 = 59 then pSh T k ((pCl T a).2.1 + 1) (cls ++ [(pCl T a).2.2]) else (false, (pCl T a).2.1, [])) else (false, (pCl T a).2.1, [])
theorem pSh_ok {T : Nat × (Nat → Nat)} (hT : T.1 ≤ 100) : ∀ k a cls, a ≤ T.1 → (∀ c, c ∈ cls → okC c) → (pSh T k a cls).2.1 ≤ T.1 ∧ ((pSh T k a cls).1 = true → (∀ c, c ∈ (pSh T k a cls).2.2 → okC c) ∧ (pSh T k a cls).2.2.length ≤ cls.length + k)
  | 0, a, cls, ha, _ => ⟨ha, fun z => Bool.noConfusion z⟩
  | k + 1, a, cls, ha, hc => by
    unfold pSh
    obtain ⟨i1, i2⟩ := pCl_ok hT ha
    by_cases c1 : (pCl T a).1 = true
    · rw [if_pos c1]
      obtain ⟨i3, i4, i5⟩ := i2 c1
      have hc2 : ∀ c, c ∈ cls ++ [(pCl T a).2.2] → okC c := fun c hx => (List.mem_append.mp hx).elim (hc c) (fun y => by rw [List.mem_singleton.mp y]; exact i5)
      by_cases c2 : (pCl T a).2.1 = T.1
      · rw [if_pos c2]
        refine ⟨Nat.le_refl _, fun _ => ⟨hc2, ?_⟩⟩
        show (cls ++ [(pCl T a).2.2]).length ≤ _
        simp only [List.length_append, List.length_cons, List.length_nil]
        omega
      rw [if_neg c2]
      by_cases c3 : k = 0
      · rw [if_pos c3]; exact ⟨i1, fun z => Bool.noConfusion z⟩
      rw [if_neg c3]
      by_cases c4 : chT T (pCl T a).2.1 = 59
      · rw [if_pos c4]
        have h1 := chT_lt c4 (by decide)
        obtain ⟨j1, j2⟩ := pSh_ok hT k ((pCl T a).2.1 + 1) (cls ++ [(pCl T a).2.2]) h1 hc2
        refine ⟨j1, fun z => ⟨(j2 z).1, ?_⟩⟩
        have := (j2 z).2
        simp only [List.length_append, List.length_cons, List.length_nil] at this
        omega
      · rw [if_neg c4]; exact ⟨i1, fun z => Bool.noConfusion z⟩
    · rw [if_neg c1]; exact ⟨i1, fun z => Bool.noConfusion z⟩
-- ---- what holds
def bI (b : Bool) : Int32 := if b = true then 1 else 0
theorem bI_0 {b : Bool} : bI b = 0 ↔ b = false := by cases b <;> decide
def ev1 (t : Nat → Bool) (c : Nat) (s : List Bool) : List Bool := if c = 0 then (match s with
    | b :: s' => (!b) :: s'
    | [] => []) else if c < 3 then (match s with
    | b :: a :: s' => (if c = 1 then (a && b) else (a || b)) :: s'
    | s' => s') else t c :: s
def evL (t : Nat → Bool) (cs : List Nat) (s : List Bool) : List Bool := cs.foldl (fun s c => ev1 t c s) s
theorem evL_app {t : Nat → Bool} {xs ys : List Nat} {s : List Bool} : evL t (xs ++ ys) s = evL t ys (evL t xs s) := List.foldl_append
def evC (t : Nat → Bool) (cs : List Nat) : Bool := (evL t cs []).headD false
theorem ev1_len {D : Nat} {t : Nat → Bool} {c : Nat} {s : List Bool} {m : Nat} {cs : List Nat} {e : Nat} (h : okc D (c :: cs) s.length e) (hm : m = if c = 0 then s.length else if c < 3 then s.length - 1 else s.length + 1) : (ev1 t c s).length = m ∧ okc D cs m e := by
  unfold okc at h
  subst hm
  unfold ev1
  by_cases c1 : c = 0
  · simp only [if_pos c1] at h ⊢
    cases s with
    | nil => exact absurd h.1 (by decide)
    | cons b s' => exact ⟨rfl, h.2⟩
  simp only [if_neg c1] at h ⊢
  by_cases c2 : c < 3
  · simp only [if_pos c2] at h ⊢
    match s, h with
    | [], h => exact absurd h.1 (by decide)
    | [_], h => exact absurd (show 2 ≤ 1 from h.1) (by decide)
    | b :: a :: s', h => exact ⟨rfl, h.2⟩
  · simp only [if_neg c2] at h ⊢
    exact ⟨rfl, h.2⟩
theorem evL_len {D : Nat} {t : Nat → Bool} : ∀ (cs : List Nat) (s : List Bool) (e : Nat), okc D cs s.length e → (evL t cs s).length = e
  | [], s, e, h => h
  | c :: cs, s, e, h => by
    obtain ⟨h1, h2⟩ := ev1_len (t := t) h rfl
    show (evL t cs (ev1 t c s)).length = e
    exact evL_len cs (ev1 t c s) e (by rw [h1]; exact h2)
theorem okc_split {D : Nat} : ∀ (xs ys : List Nat) (n e : Nat), okc D (xs ++ ys) n e → ∃ m, okc D xs n m ∧ okc D ys m e
  | [], ys, n, e, h => ⟨n, rfl, h⟩
  | c :: xs, ys, n, e, h => by
    have h : okc D (c :: (xs ++ ys)) n e := h
    unfold okc at h
    by_cases c1 : c = 0
    · rw [if_pos c1] at h
      obtain ⟨m, a, b⟩ := okc_split xs ys _ e h.2
      exact ⟨m, by unfold okc; rw [if_pos c1]; exact ⟨h.1, a⟩, b⟩
    rw [if_neg c1] at h
    by_cases c2 : c < 3
    · rw [if_pos c2] at h
      obtain ⟨m, a, b⟩ := okc_split xs ys _ e h.2
      exact ⟨m, by unfold okc; rw [if_neg c1, if_pos c2]; exact ⟨h.1, a⟩, b⟩
    · rw [if_neg c2] at h
      obtain ⟨m, a, b⟩ := okc_split xs ys _ e h.2
      exact ⟨m, by unfold okc; rw [if_neg c1, if_neg c2]; exact ⟨h.1, a⟩, b⟩
def tsB (num : Int32) (row : Nat → Int32) (mi : Int32) (c : Nat) : Bool := decide (¬ tstM num row mi (nI c) = 0)
theorem tstM_b {num : Int32} {row : Nat → Int32} {mi : Int32} {c : Nat} : tstM num row mi (nI c) = bI (tsB num row mi c) := by
  have h : tstM num row mi (nI c) = 0 ∨ tstM num row mi (nI c) = 1 := by
    unfold tstM
    (repeat' split) <;> first | exact Or.inl rfl | exact Or.inr rfl
  unfold tsB bI
  rcases h with e | e
  · rw [e]; decide
  · rw [e]; decide
/-- the model's stack is the list's -/
def SRf (f : Nat → Int32) : List Bool → Prop
  | [] => True
  | b :: s => f s.length = bI b ∧ SRf f s
theorem SRf_up {f : Nat → Int32} {i : Nat} {y : Int32} : ∀ (s : List Bool), s.length ≤ i → SRf f s → SRf (up1 f i y) s
  | [], _, _ => trivial
  | b :: s, h, hs => by
    have h : s.length + 1 ≤ i := h
    exact ⟨by rw [up1_n (by omega)]; exact hs.1, SRf_up s (by omega) hs.2⟩
theorem getD_split {cs : List Nat} {k : Nat} (h : k < cs.length) : cs = cs.take k ++ cs.getD k 0 :: cs.drop (k + 1) := by
  have e : cs.getD k 0 = cs[k] := by rw [List.getD_eq_getElem?_getD, List.getElem?_eq_getElem h]; rfl
  rw [e, ← List.drop_eq_getElem_cons h, List.take_append_drop]
theorem take_s {cs : List Nat} {k : Nat} (h : k < cs.length) : cs.take (k + 1) = cs.take k ++ [cs.getD k 0] := by
  have e : cs.getD k 0 = cs[k] := by rw [List.getD_eq_getElem?_getD, List.getElem?_eq_getElem h]; rfl
  rw [e, List.take_append_getElem]
theorem st_ev {num : Int32} {row : Nat → Int32} {mi : Int32} {cs : List Nat} {cd : Nat → Int32} (hcd : ∀ k, k < cs.length → cd k = nI (cs.getD k 0)) (hok : okc 90 cs 0 1) (ht : okt cs) : ∀ k, k ≤ cs.length → (stM cd num row mi k).1 = (evL (tsB num row mi) (cs.take k) []).length ∧ SRf (stM cd num row mi k).2 (evL (tsB num row mi) (cs.take k) [])
  | 0, _ => ⟨rfl, trivial⟩
  | k + 1, hk => by
    obtain ⟨i1, i2⟩ := st_ev (num := num) (row := row) (mi := mi) hcd hok ht k (by omega)
    have hk' : k < cs.length := by omega
    have hc := hcd k hk'
    have hok2 := hok
    rw [getD_split hk'] at hok2
    obtain ⟨m, m1, m2⟩ := okc_split _ _ _ _ hok2
    have hl := evL_len (t := tsB num row mi) (cs.take k) [] m m1
    have hmem : cs.getD k 0 ∈ cs := by
      have e : cs.getD k 0 = cs[k] := by rw [List.getD_eq_getElem?_getD, List.getElem?_eq_getElem hk']; rfl
      rw [e]; exact List.getElem_mem hk'
    have hct := ht _ hmem
    rw [take_s hk', evL_app]
    show _ = (ev1 (tsB num row mi) (cs.getD k 0) (evL (tsB num row mi) (cs.take k) [])).length ∧ SRf _ (ev1 (tsB num row mi) (cs.getD k 0) (evL (tsB num row mi) (cs.take k) []))
    generalize evL (tsB num row mi) (cs.take k) [] = s at i1 i2 hl
    generalize cs.getD k 0 = c at hc m2 hct
    subst hl
    unfold okc at m2
    by_cases c1 : c = 0
    · subst c1
      rw [if_pos rfl] at m2
      cases s with
      | nil => exact absurd m2.1 (by decide)
      | cons b s' =>
        have e1 : cd k < 3 := by rw [hc]; decide
        have e0 : cd k = 0 := by rw [hc]; rfl
        have i1 : (stM cd num row mi k).1 = s'.length + 1 := i1
        rw [stM_not e1 e0, i1, Nat.add_sub_cancel]
        refine ⟨rfl, ?_, SRf_up s' (Nat.le_refl _) i2.2⟩
        show up1 _ _ _ _ = _
        rw [up1_s, i2.1]
        cases b <;> rfl
    rw [if_neg c1] at m2
    by_cases c2 : c < 3
    · rw [if_pos c2] at m2
      match s, m2, i1, i2 with
      | [], m2, _, _ => exact absurd m2.1 (by decide)
      | [_], m2, _, _ => exact absurd (show 2 ≤ 1 from m2.1) (by decide)
      | b :: a :: s', m2, i1, i2 =>
        have e1 : cd k < 3 := by rw [hc]; exact nI_lt (b := 3) c2 (by decide)
        have e0 : ¬ cd k = 0 := fun z => c1 ((nI_eq (by omega) (by decide)).mp (show nI c = nI 0 from hc.symm.trans z))
        have i1 : (stM cd num row mi k).1 = s'.length + 1 + 1 := i1
        have j1 : (stM cd num row mi k).2 (s'.length + 1) = bI b := i2.1
        have j2 : (stM cd num row mi k).2 s'.length = bI a := i2.2.1
        rw [stM_bin e1 e0, i1, show s'.length + 1 + 1 - 1 = s'.length + 1 by omega, show s'.length + 1 + 1 - 2 = s'.length by omega, j1, j2]
        unfold ev1
        simp only [if_neg c1, if_pos c2]
        refine ⟨rfl, ?_, SRf_up s' (Nat.le_refl _) i2.2.2⟩
        rw [up1_s]
        by_cases c3 : c = 1
        · have e3 : cd k = 1 := by rw [hc, c3]; rfl
          rw [if_pos e3, if_pos c3]
          cases a <;> cases b <;> rfl
        · have e3 : ¬ cd k = 1 := fun z => c3 ((nI_eq (by omega) (by decide)).mp (show nI c = nI 1 from hc.symm.trans z))
          rw [if_neg e3, if_neg c3]
          cases a <;> cases b <;> rfl
    · rw [if_neg c2] at m2
      have hc3 := hct.resolve_left c2
      have e1 : ¬ cd k < 3 := by rw [hc]; exact nI_nlt (b := 3) (by omega) (by omega)
      rw [stM_tst e1, i1, hc, tstM_b]
      unfold ev1
      simp only [if_neg c1, if_neg c2]
      exact ⟨rfl, by rw [up1_s], SRf_up s (Nat.le_refl _) i2⟩
theorem okc_up {D D' : Nat} (h : D ≤ D') : ∀ (cs : List Nat) (n e : Nat), okc D cs n e → okc D' cs n e
  | [], _, _, z => z
  | c :: cs, n, e, z => by
    unfold okc at z ⊢
    by_cases c1 : c = 0
    · rw [if_pos c1] at z ⊢; exact ⟨z.1, okc_up h cs _ _ z.2⟩
    rw [if_neg c1] at z ⊢
    by_cases c2 : c < 3
    · rw [if_pos c2] at z ⊢; exact ⟨z.1, okc_up h cs _ _ z.2⟩
    · rw [if_neg c2] at z ⊢; exact ⟨by omega, okc_up h cs _ _ z.2⟩
theorem st_cd {cs : List Nat} {cd : Nat → Int32} (hcd : ∀ k, k < cs.length → cd k = nI (cs.getD k 0)) (hok : okc 90 cs 0 1) (ht : okt cs) : cdOK cd cs.length := by
  have key : ∀ k, k ≤ cs.length → dpM cd k = (evL (tsB 0 (fun _ => 0) 0) (cs.take k) []).length := fun k hk => by
    rw [← stM_dp (num := 0) (row := fun _ => 0) (mi := 0)]
    exact (st_ev hcd hok ht k hk).1
  refine ⟨fun k hk => ?_, ?_⟩
  · have hc := hcd k hk
    have hok2 := hok
    rw [getD_split hk] at hok2
    obtain ⟨m, m1, m2⟩ := okc_split _ _ _ _ hok2
    have hl := evL_len (t := tsB 0 (fun _ => 0) 0) (cs.take k) [] m m1
    rw [key k (by omega), hl]
    have hmem : cs.getD k 0 ∈ cs := by
      have e : cs.getD k 0 = cs[k] := by rw [List.getD_eq_getElem?_getD, List.getElem?_eq_getElem hk]; rfl
      rw [e]; exact List.getElem_mem hk
    have hct := ht _ hmem
    generalize cs.getD k 0 = c at hc m2 hct
    unfold okc at m2
    by_cases c1 : c = 0
    · subst c1
      rw [if_pos rfl] at m2
      rw [hc, if_pos (by decide), if_pos (by decide)]
      exact m2.1
    rw [if_neg c1] at m2
    by_cases c2 : c < 3
    · rw [if_pos c2] at m2
      rw [hc, if_pos (show nI c < 3 from nI_lt (b := 3) c2 (by decide)), if_neg (show ¬ nI c = 0 from fun z => c1 ((nI_eq (by omega) (by decide)).mp (show nI c = nI 0 from z)))]
      exact m2.1
    · rw [if_neg c2] at m2
      have hc3 := hct.resolve_left c2
      rw [hc, if_neg (show ¬ nI c < 3 from nI_nlt (b := 3) (by omega) (by omega))]
      have := m2.1
      omega
  · rw [key cs.length (Nat.le_refl _), List.take_length]
    exact evL_len cs [] 1 hok
-- ---- what the clauses give
def clV (num : Int32) (row : Nat → Int32) (mi : Int32) (c : Cl) : Int32 := if 2 ≤ c.1 then 0 else if evC (tsB num row mi) c.2.2 = true then (if c.1 = 0 then nI c.2.1 else -nI c.2.1) else 0
def sbL (cls : List Cl) (num : Int32) (row : Nat → Int32) (mi : Int32) : Int32 := cls.foldl (fun s c => s + clV num row mi c) 0
def drL (cls : List Cl) : Nat := cls.foldl (fun d c => if c.1 = 2 then c.2.1 else d) 2
/-- the model's places hold these clauses -/
def cmM (G : Gt) (h : Nat) (cls : List Cl) : Prop := ∀ i, i < cls.length → G 87 (10 * h + i) = nI (cls.getD i c0).1 ∧ G 88 (10 * h + i) = nI (cls.getD i c0).2.1 ∧ ((cls.getD i c0).1 < 2 → ∃ b, G 89 (10 * h + i) = nI b ∧ G 90 (10 * h + i) = nI (cls.getD i c0).2.2.length ∧ b + (cls.getD i c0).2.2.length ≤ 800 ∧ (∃ C, G 75 25 = nI C ∧ b + (cls.getD i c0).2.2.length ≤ C ∧ C ≤ 800) ∧ ∀ k, k < (cls.getD i c0).2.2.length → G 91 (b + k) = nI ((cls.getD i c0).2.2.getD k 0))
theorem getD_mem {cls : List Cl} {i : Nat} (h : i < cls.length) : cls.getD i c0 ∈ cls := by
  have e : cls.getD i c0 = cls[i] := by rw [List.getD_eq_getElem?_getD, List.getElem?_eq_getElem h]; rfl
  rw [e]; exact List.getElem_mem h
theorem take_c {cls : List Cl} {k : Nat} (h : k < cls.length) : cls.take (k + 1) = cls.take k ++ [cls.getD k c0] := by
  have e : cls.getD k c0 = cls[k] := by rw [List.getD_eq_getElem?_getD, List.getElem?_eq_getElem h]; rfl
  rw [e, List.take_append_getElem]
theorem cm_tm {G : Gt} {h : Nat} {cls : List Cl} (hc : cmM G h cls) (ho : ∀ c, c ∈ cls → okC c) {i : Nat} (hi : i < cls.length) (num : Int32) (row : Nat → Int32) (mi : Int32) : tmM G (10 * h + i) num row mi = clV num row mi (cls.getD i c0) := by
  obtain ⟨a1, a2, a3⟩ := hc i hi
  obtain ⟨o1, o2, o3, o4, o5, o6⟩ := ho _ (getD_mem hi)
  generalize cls.getD i c0 = c at a1 a2 a3 o1 o2 o3 o4 o5 o6
  unfold tmM clV
  rw [a1, a2]
  by_cases c2 : 2 ≤ c.1
  · rw [if_pos (show (2 : Int32) ≤ nI c.1 from nI_le (a := 2) c2 (by omega)), if_pos c2]
  rw [if_neg (show ¬ (2 : Int32) ≤ nI c.1 from nI_ge (b := 2) (by omega) (by decide)), if_neg c2]
  obtain ⟨b, b1, b2, b3, -, b4⟩ := a3 (by omega)
  have hcv : cvM G (10 * h + i) num row mi = bI (evC (tsB num row mi) c.2.2) := by
    unfold cvM
    rw [b1, b2, nI_clamp (by omega), nI_clamp (by omega)]
    have ok90 := okc_up (show 20 ≤ 90 by decide) _ _ _ (o5 (by omega))
    have := (st_ev (num := num) (row := row) (mi := mi) (cd := fun k => G 91 (b + k)) b4 ok90 o4 c.2.2.length (Nat.le_refl _)).2
    rw [List.take_length] at this
    have hl := evL_len (t := tsB num row mi) c.2.2 [] 1 ok90
    unfold evC
    match evL (tsB num row mi) c.2.2 [], hl, this with
    | [v], _, this => exact this.1
  rw [hcv]
  cases evC (tsB num row mi) c.2.2 with
  | true =>
    rw [if_neg (by decide), if_pos rfl]
    by_cases z : c.1 = 0
    · rw [z, if_pos (show nI 0 = (0 : Int32) from rfl), if_pos rfl]
    · rw [if_neg (show ¬ nI c.1 = 0 from fun y => z ((nI_eq (by omega) (by decide)).mp (show nI c.1 = nI 0 from y))), if_neg z]
  | false => rw [if_pos (by decide), if_neg (by decide)]
theorem cm_sm {G : Gt} {h : Nat} {cls : List Cl} (hc : cmM G h cls) (ho : ∀ c, c ∈ cls → okC c) (num : Int32) (row : Nat → Int32) (mi : Int32) : ∀ i, i ≤ cls.length → smM G h num row mi i = sbL (cls.take i) num row mi
  | 0, _ => rfl
  | i + 1, hi => by
    unfold smM
    rw [cm_sm hc ho num row mi i (by omega), cm_tm hc ho (by omega), take_c (by omega)]
    unfold sbL
    rw [List.foldl_append]
    rfl
theorem cm_dr {G : Gt} {h : Nat} {cls : List Cl} (hc : cmM G h cls) (ho : ∀ c, c ∈ cls → okC c) : ∀ i, i ≤ cls.length → drM G h i = nI (drL (cls.take i))
  | 0, _ => rfl
  | i + 1, hi => by
    obtain ⟨a1, a2, -⟩ := hc i (by omega)
    have o1 := (ho _ (getD_mem (show i < cls.length by omega))).1
    unfold drM
    rw [cm_dr hc ho i (by omega), take_c (by omega), a1, a2]
    unfold drL
    rw [List.foldl_append]
    show _ = nI (if (cls.getD i c0).1 = 2 then (cls.getD i c0).2.1 else _)
    by_cases z : (cls.getD i c0).1 = 2
    · rw [z, if_pos (show nI 2 = (2 : Int32) from rfl), if_pos rfl]
    · rw [if_neg (show ¬ nI (cls.getD i c0).1 = 2 from fun y => z ((nI_eq (by omega) (by decide)).mp (show _ = nI 2 from y))), if_neg z]
theorem cm_V {G : Gt} {h N : Nat} {cls : List Cl} {W : Wv} (hc : cmM G h cls) (ho : ∀ c, c ∈ cls → okC c) (hl : cls.length ≤ 10) (h6 : h < N) (hN : N ≤ 6) (h17 : G 75 17 = nI N) (h86 : G 86 h = nI cls.length) (hs : ∀ p row mi, W.sb p row mi = sbL cls (nI p) row (nI mi)) (hd : W.dry = nI (drL cls)) : smV G (nI h) W := by
  have n1 : ¬ nI h = -1 := nI_m1 (by omega)
  have c1 : (nI h).toNatClampNeg = h := nI_clamp (by omega)
  have c2 : (G 86 h).toNatClampNeg = cls.length := by rw [h86, nI_clamp (by omega)]
  refine ⟨Or.inr ⟨h, cls.length, by omega, rfl, hl, h86, fun i hi => ?_, N, h17, h6, hN⟩, ?_, fun p row mi => ?_⟩
  · obtain ⟨a1, a2, a3⟩ := hc i hi
    obtain ⟨o1, o2, o3, o4, o5, o6⟩ := ho _ (getD_mem hi)
    by_cases z : 2 ≤ (cls.getD i c0).1
    · exact Or.inl (by rw [a1]; exact nI_le (a := 2) z (by omega))
    · obtain ⟨b, b1, b2, b3, b5, b4⟩ := a3 (by omega)
      exact Or.inr ⟨b, _, b1, b2, b3, st_cd b4 (okc_up (by decide) _ _ _ (o5 (by omega))) o4, b5⟩
  · unfold drO
    rw [if_neg n1, c1, c2, cm_dr hc ho _ (Nat.le_refl _), List.take_length, hd]
  · unfold smO
    rw [if_neg n1, c1, c2, cm_sm hc ho _ _ _ _ (Nat.le_refl _), List.take_length, hs]
