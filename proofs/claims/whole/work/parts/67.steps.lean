-- ===== a show as pure values: the class's steps =====
theorem tb_shl (x : Int32) {i : Nat} (hi : i < 32) : tb (x <<< ((1 : Int32) &&& 31)) i = (decide (0 < i) && tb x (i - 1)) := by
  unfold tb
  have e : (x <<< ((1 : Int32) &&& 31)).toBitVec = x.toBitVec <<< (1 : Nat) := rfl
  rw [e, BitVec.getLsbD_shiftLeft, decide_eq_true hi, Bool.true_and]
  congr 1
  by_cases h : 0 < i
  · rw [decide_eq_true h, decide_eq_false (by omega)]; rfl
  · rw [decide_eq_false h, decide_eq_true (by omega)]; rfl
theorem tb_shr (x : Int32) {i : Nat} (hi : i < 32) : tb (x >>> ((1 : Int32) &&& 31)) i = if i < 31 then tb x (i + 1) else tb x 31 := by
  unfold tb
  have e : (x >>> ((1 : Int32) &&& 31)).toBitVec = x.toBitVec.sshiftRight 1 := rfl
  rw [e, BitVec.getLsbD_sshiftRight]
  by_cases h : i < 31
  · rw [if_pos h, if_pos (by omega), decide_eq_false (by omega), Nat.add_comm 1 i]; rfl
  · rw [if_neg h, if_neg (by omega), decide_eq_false (by omega), BitVec.msb_eq_getLsbD_last]; rfl
theorem tb_1 {i : Nat} (hi : i < 32) : tb 1 i = decide (i = 0) := by
  have : ∀ i, i < 32 → tb 1 i = decide (i = 0) := by decide +kernel
  exact this i hi
theorem tb_m2 {i : Nat} (hi : i < 32) : tb (-2) i = decide (0 < i) := by
  have : ∀ i, i < 32 → tb (-2) i = decide (0 < i) := by decide +kernel
  exact this i hi
theorem tb_bI (b : Bool) {i : Nat} (hi : i < 32) : tb (bI b) i = (decide (i = 0) && b) := by
  cases b with
  | true => rw [show bI true = 1 from rfl, tb_1 hi, Bool.and_true]
  | false => rw [show bI false = 0 from rfl, tb_0, Bool.and_false]
/-- the bits are the list's, the newest lowest -/
def BR (x : Int32) (s : List Bool) : Prop := ∀ i, i < 32 → tb x i = s.getD i false
theorem BR_0 : BR 0 [] := fun i _ => by rw [tb_0]; rfl
theorem BR_push {x : Int32} {s : List Bool} (b : Bool) (h : BR x s) : BR ((x <<< ((1 : Int32) &&& 31)) ||| bI b) (b :: s) := by
  intro i hi
  rw [tb_or, tb_shl x hi, tb_bI b hi]
  cases i with
  | zero => simp
  | succ i =>
    rw [decide_eq_true (Nat.succ_pos i), decide_eq_false (Nat.succ_ne_zero i), Bool.true_and, Bool.false_and, Bool.or_false, Nat.succ_sub_one, h i (by omega)]
    rfl
theorem BR_pop {x : Int32} {b : Bool} {s : List Bool} (h : BR x (b :: s)) (hl : s.length ≤ 30) : BR (x >>> ((1 : Int32) &&& 31)) s := by
  intro i hi
  rw [tb_shr x hi]
  by_cases c : i < 31
  · rw [if_pos c, h (i + 1) (by omega)]; rfl
  · rw [if_neg c, h 31 (by omega)]
    obtain rfl : i = 31 := by omega
    show s.getD 30 false = s.getD 31 false
    rw [List.getD_eq_getElem?_getD, List.getD_eq_getElem?_getD, List.getElem?_eq_none (by omega), List.getElem?_eq_none (by omega)]
theorem BR_low {x : Int32} {b : Bool} {s : List Bool} (h : BR x (b :: s)) : x &&& 1 = bI b := by
  refine tb_ext (fun i hi => ?_)
  rw [tb_and, tb_1 hi, tb_bI b hi, h i hi]
  cases i with
  | zero => simp
  | succ i => rw [decide_eq_false (Nat.succ_ne_zero i), Bool.and_false, Bool.false_and]
theorem BR_not {x : Int32} {b : Bool} {s : List Bool} (h : BR x (b :: s)) : BR (x ^^^ 1) ((!b) :: s) := by
  intro i hi
  rw [tb_xor, tb_1 hi, h i hi]
  cases i with
  | zero => cases b <;> rfl
  | succ i => rw [decide_eq_false (Nat.succ_ne_zero i), Bool.xor_false]; rfl
theorem BR_and {x : Int32} {b a : Bool} {s : List Bool} (h : BR x (b :: a :: s)) (hl : s.length ≤ 29) : BR ((x >>> ((1 : Int32) &&& 31)) &&& ((x &&& 1) ||| (-2))) ((a && b) :: s) := by
  intro i hi
  have hp := BR_pop h (show s.length + 1 ≤ 30 by omega) i hi
  rw [tb_and, tb_or, tb_m2 hi, hp, BR_low h, tb_bI b hi]
  cases i with
  | zero => cases a <;> cases b <;> rfl
  | succ i => rw [decide_eq_true (Nat.succ_pos i), Bool.or_true, Bool.and_true]; rfl
theorem BR_or {x : Int32} {b a : Bool} {s : List Bool} (h : BR x (b :: a :: s)) (hl : s.length ≤ 29) : BR ((x >>> ((1 : Int32) &&& 31)) ||| (x &&& 1)) ((a || b) :: s) := by
  intro i hi
  have hp := BR_pop h (show s.length + 1 ≤ 30 by omega) i hi
  rw [tb_or, hp, BR_low h, tb_bI b hi]
  cases i with
  | zero => cases a <;> cases b <;> rfl
  | succ i => rw [decide_eq_false (Nat.succ_ne_zero i), Bool.false_and, Bool.or_false]; rfl
/-- a step: what it is, and two numbers -/
abbrev St : Type := Nat × Nat × Nat
def stF (s : St) : Nat → Int32 := fun i => if i = 0 then nI s.1 else if i = 1 then nI s.2.1 else nI s.2.2
def stp (num : Int32) (row : Nat → Int32) (mi : Int32) (x : Int32 × Int32) (s : St) : Int32 × Int32 := bstep (stF s) num row mi 0 x
def stM3 (S : Nat → Int32) (ss : List St) : Prop := ∀ j, j < ss.length → S (3 * j) = nI (ss.getD j (0, 0, 0)).1 ∧ S (3 * j + 1) = nI (ss.getD j (0, 0, 0)).2.1 ∧ S (3 * j + 2) = nI (ss.getD j (0, 0, 0)).2.2
theorem take_st {ss : List St} {k : Nat} (h : k < ss.length) : ss.take (k + 1) = ss.take k ++ [ss.getD k (0, 0, 0)] := by
  have e : ss.getD k (0, 0, 0) = ss[k] := by rw [List.getD_eq_getElem?_getD, List.getElem?_eq_getElem h]; rfl
  rw [e, List.take_append_getElem]
theorem br_stp {S : Nat → Int32} {ss : List St} (h : stM3 S ss) (num : Int32) (row : Nat → Int32) (mi : Int32) : ∀ j, j ≤ ss.length → brR S num row mi j = (ss.take j).foldl (stp num row mi) (0, 0)
  | 0, _ => rfl
  | j + 1, hj => by
    obtain ⟨a1, a2, a3⟩ := h j (by omega)
    rw [take_st (by omega), List.foldl_append, ← br_stp h num row mi j (by omega)]
    show bstep S num row mi j _ = bstep (stF _) num row mi 0 _
    unfold bstep
    rw [a1, a2, a3]
    rfl
def lch (l : Nat) : Nat := if l = 0 then 112 else if l = 1 then 107 else if l = 2 then 118 else if l = 3 then 115 else if l = 4 then 119 else 109
def tokS (c : Nat) : St := if c = 0 then (3, 0, 0) else if c = 1 then (4, 0, 0) else if c = 2 then (5, 0, 0) else ((c - 3) / 100 % 3, lch ((c - 3) / 300), (c - 3) % 100)
theorem let_op {num : Int32} {row : Nat → Int32} {mi : Int32} {l : Nat} (h : l < 6) : letF num row mi (nI l) = opF (nI (lch l)) num row mi := by
  rcases (show l = 0 ∨ l = 1 ∨ l = 2 ∨ l = 3 ∨ l = 4 ∨ l = 5 by omega) with rfl | rfl | rfl | rfl | rfl | rfl
  · unfold letF opF; rw [if_pos (by decide), if_pos (by decide)]
  · unfold letF opF; rw [if_neg (by decide), if_pos (by decide), if_neg (by decide), if_pos (by decide)]
  · unfold letF opF; rw [if_neg (by decide), if_neg (by decide), if_pos (by decide), if_neg (by decide), if_neg (by decide), if_pos (by decide)]
  · unfold letF opF; rw [if_neg (by decide), if_neg (by decide), if_neg (by decide), if_pos (by decide), if_neg (by decide), if_neg (by decide), if_neg (by decide), if_pos (by decide)]
  · unfold letF opF; rw [if_neg (by decide), if_neg (by decide), if_neg (by decide), if_neg (by decide), if_pos (by decide), if_neg (by decide), if_neg (by decide), if_neg (by decide), if_neg (by decide), if_pos (by decide)]
  · unfold letF opF; rw [if_neg (by decide), if_neg (by decide), if_neg (by decide), if_neg (by decide), if_neg (by decide), if_neg (by decide), if_neg (by decide), if_neg (by decide), if_neg (by decide), if_neg (by decide)]
theorem ts_cmp {num : Int32} {row : Nat → Int32} {mi : Int32} {c : Nat} (h3 : 3 ≤ c) (h : c < 1803) : bi (¬ cmpF (nI (tokS c).1) (opF (nI (tokS c).2.1) num row mi) (nI (tokS c).2.2) = 0) = bI (tsB num row mi c) := by
  have e : tokS c = ((c - 3) / 100 % 3, lch ((c - 3) / 300), (c - 3) % 100) := by unfold tokS; rw [if_neg (by omega), if_neg (by omega), if_neg (by omega)]
  have e1 : nI c - 3 = nI (c - 3) := pk_sub (b := 3) h3
  have e2 : nI (c - 3) / 100 = nI ((c - 3) / 100) := pk_div (d := 100) (by omega) (by decide) (by decide)
  have e3 : nI ((c - 3) / 100) - nI ((c - 3) / 100) / 3 * 3 = nI ((c - 3) / 100 % 3) := pk_rem (d := 3) (by omega) (by decide) (by decide)
  have e4 : nI (c - 3) - nI (c - 3) / 100 * 100 = nI ((c - 3) % 100) := pk_rem (d := 100) (by omega) (by decide) (by decide)
  have e5 : nI (c - 3) / 300 = nI ((c - 3) / 300) := pk_div (d := 300) (by omega) (by decide) (by decide)
  rw [e2] at e4
  rw [e]
  show bi (¬ cmpF (nI ((c - 3) / 100 % 3)) (opF (nI (lch ((c - 3) / 300))) num row mi) (nI ((c - 3) % 100)) = 0) = _
  rw [← let_op (by omega)]
  unfold tsB
  have key : tstM num row mi (nI c) = cmpF (nI ((c - 3) / 100 % 3)) (letF num row mi (nI ((c - 3) / 300))) (nI ((c - 3) % 100)) := by
    unfold tstM cmpF
    rw [e1, e2, e3, e4, e5]
    generalize letF num row mi (nI ((c - 3) / 300)) = x
    generalize nI ((c - 3) % 100) = y
    rcases (show (c - 3) / 100 % 3 = 0 ∨ (c - 3) / 100 % 3 = 1 ∨ (c - 3) / 100 % 3 = 2 by omega) with q | q | q
    · rw [q, if_pos (show nI 0 = (0 : Int32) from rfl), if_neg (show ¬ nI 0 = (1 : Int32) by decide), if_pos (show nI 0 = (0 : Int32) from rfl)]
      unfold bi
      by_cases z : y ≤ x
      · rw [if_pos z, if_neg (Int32.not_lt.mpr z)]
      · rw [if_neg z, if_pos (Int32.not_le.mp z)]
    · rw [q, if_neg (show ¬ nI 1 = (0 : Int32) by decide), if_pos (show nI 1 = (1 : Int32) from rfl), if_pos (show nI 1 = (1 : Int32) from rfl)]
      rfl
    · rw [q, if_neg (show ¬ nI 2 = (0 : Int32) by decide), if_neg (show ¬ nI 2 = (1 : Int32) by decide), if_neg (show ¬ nI 2 = (1 : Int32) by decide), if_neg (show ¬ nI 2 = (0 : Int32) by decide)]
      unfold bi
      by_cases z : x ≤ y
      · rw [if_pos z, if_neg (Int32.not_lt.mpr z)]
      · rw [if_neg z, if_pos (Int32.not_le.mp z)]
  rw [key]
  generalize cmpF _ _ _ = v
  unfold bi bI
  by_cases z : v = 0
  · rw [if_neg (fun y => y z), decide_eq_false (fun y => y z), if_neg (by decide)]
  · rw [if_pos z, decide_eq_true z, if_pos rfl]
theorem stp_tok {num : Int32} {row : Nat → Int32} {mi : Int32} {c : Nat} {z x : Int32} {s : List Bool} {cs : List Nat} {e : Nat} (ho : okc 20 (c :: cs) s.length e) (hs : s.length ≤ 20) (ht : c < 3 ∨ (3 ≤ c ∧ c < 1803)) (hb : BR x s) : (stp num row mi (z, x) (tokS c)).1 = z ∧ BR (stp num row mi (z, x) (tokS c)).2 (ev1 (tsB num row mi) c s) := by
  unfold okc at ho
  unfold stp bstep ev1
  by_cases c0 : c = 0
  · subst c0
    rw [if_pos rfl] at ho
    have e : stF (tokS 0) (3 * 0) = 3 := rfl
    simp only [e, if_pos]
    cases s with
    | nil => exact absurd ho.1 (by decide)
    | cons b s' => exact ⟨trivial, BR_not hb⟩
  rw [if_neg c0] at ho
  simp only [if_neg c0]
  by_cases c3 : c < 3
  · rw [if_pos c3] at ho
    simp only [if_pos c3]
    match s, ho, hs, hb with
    | [], ho, _, _ => exact absurd ho.1 (by decide)
    | [_], ho, _, _ => exact absurd (show 2 ≤ 1 from ho.1) (by decide)
    | b :: a :: s', ho, hs, hb =>
      have hs : s'.length + 1 + 1 ≤ 20 := hs
      by_cases c1 : c = 1
      · subst c1
        have e : stF (tokS 1) (3 * 0) = 4 := rfl
        simp only [e, if_neg (show ¬ (4 : Int32) = 3 by decide), if_pos]
        exact ⟨trivial, BR_and hb (by omega)⟩
      · obtain rfl : c = 2 := by omega
        have e : stF (tokS 2) (3 * 0) = 5 := rfl
        simp only [e, if_neg (show ¬ (5 : Int32) = 3 by decide), if_neg (show ¬ (5 : Int32) = 4 by decide), if_pos]
        exact ⟨trivial, BR_or hb (by omega)⟩
  · simp only [if_neg c3]
    have h3 := ht.resolve_left c3
    have e1 : (tokS c).1 < 3 := by
      unfold tokS; rw [if_neg (by omega), if_neg (by omega), if_neg (by omega)]
      show (c - 3) / 100 % 3 < 3
      omega
    have e : stF (tokS c) (3 * 0) = nI (tokS c).1 := rfl
    have n : ∀ k, 3 ≤ k → k < 1000 → ¬ nI (tokS c).1 = nI k := fun k hk hk2 y => by
      have := (nI_eq (by omega) (by omega)).mp y
      omega
    rw [e, if_neg (show ¬ nI (tokS c).1 = 3 from n 3 (by decide) (by decide)), if_neg (show ¬ nI (tokS c).1 = 4 from n 4 (by decide) (by decide)), if_neg (show ¬ nI (tokS c).1 = 5 from n 5 (by decide) (by decide)), if_neg (show ¬ nI (tokS c).1 = 6 from n 6 (by decide) (by decide)), if_neg (show ¬ nI (tokS c).1 = 7 from n 7 (by decide) (by decide))]
    have key := ts_cmp (num := num) (row := row) (mi := mi) h3.1 h3.2
    refine ⟨rfl, ?_⟩
    show BR ((x <<< ((1 : Int32) &&& 31)) ||| bi (¬ cmpF (nI (tokS c).1) (opF (nI (tokS c).2.1) num row mi) (nI (tokS c).2.2) = 0)) _
    rw [key]
    exact BR_push _ hb
theorem okc_start {D : Nat} : ∀ (cs : List Nat) (n e : Nat), okc D cs n e → e ≤ D → n ≤ D + cs.length
  | [], n, e, h, he => by rw [show n = e from h]; simpa using he
  | c :: cs, n, e, h, he => by
    unfold okc at h
    rw [List.length_cons]
    by_cases c1 : c = 0
    · rw [if_pos c1] at h; have := okc_start cs n e h.2 he; omega
    rw [if_neg c1] at h
    by_cases c2 : c < 3
    · rw [if_pos c2] at h; have := okc_start cs _ e h.2 he; omega
    · rw [if_neg c2] at h; omega
theorem stp_toks {num : Int32} {row : Nat → Int32} {mi : Int32} {z : Int32} : ∀ (cs : List Nat) (s : List Bool) (x : Int32) (e : Nat), okc 20 cs s.length e → s.length ≤ 20 → okt cs → BR x s → ((cs.map tokS).foldl (stp num row mi) (z, x)).1 = z ∧ BR ((cs.map tokS).foldl (stp num row mi) (z, x)).2 (evL (tsB num row mi) cs s)
  | [], s, x, e, _, _, _, hb => ⟨rfl, hb⟩
  | c :: cs, s, x, e, ho, hs, ht, hb => by
    obtain ⟨j1, j2⟩ := stp_tok (num := num) (row := row) (mi := mi) (z := z) ho hs (ht c List.mem_cons_self) hb
    obtain ⟨l1, l2⟩ := ev1_len (t := tsB num row mi) ho rfl
    have hl : (ev1 (tsB num row mi) c s).length ≤ 20 := by
      rw [l1]
      unfold okc at ho
      by_cases c1 : c = 0
      · rw [if_pos c1]; exact hs
      rw [if_neg c1] at ho ⊢
      by_cases c2 : c < 3
      · rw [if_pos c2]; omega
      · rw [if_neg c2] at ho ⊢; omega
    have ih := stp_toks (num := num) (row := row) (mi := mi) (z := z) cs (ev1 (tsB num row mi) c s) (stp num row mi (z, x) (tokS c)).2 e (by rw [l1]; exact l2) hl (fun y hy => ht y (List.mem_cons_of_mem _ hy)) j2
    show ((cs.map tokS).foldl (stp num row mi) (stp num row mi (z, x) (tokS c))).1 = z ∧ _
    have e9 : stp num row mi (z, x) (tokS c) = (z, (stp num row mi (z, x) (tokS c)).2) := Prod.ext j1 rfl
    rw [List.map_cons, List.foldl_cons, e9]
    exact ih
def stepsC (c : Cl) : List St := if c.1 = 2 then [] else c.2.2.map tokS ++ [(6 + c.1, c.2.1, 0)]
def stepsL (cls : List Cl) : List St := cls.flatMap stepsC
theorem bI_mul (b : Bool) (y : Int32) : bI b * y = if b = true then y else 0 := by
  cases b with
  | true => rw [show bI true = 1 from rfl, Int32.one_mul, if_pos rfl]
  | false => rw [show bI false = 0 from rfl, Int32.zero_mul, if_neg (by decide)]
theorem stp_cl {num : Int32} {row : Nat → Int32} {mi : Int32} {c : Cl} (ho : okC c) {z x : Int32} (hb : BR x []) : ((stepsC c).foldl (stp num row mi) (z, x)).1 = z + clV num row mi c ∧ BR ((stepsC c).foldl (stp num row mi) (z, x)).2 [] := by
  obtain ⟨o1, o2, o3, o4, o5, o6⟩ := ho
  unfold stepsC clV
  by_cases c2 : c.1 = 2
  · rw [if_pos c2, if_pos (by omega), Int32.add_zero]; exact ⟨rfl, hb⟩
  rw [if_neg c2, if_neg (by omega), List.foldl_append]
  have ok := o5 (by omega)
  obtain ⟨j1, j2⟩ := stp_toks (num := num) (row := row) (mi := mi) (z := z) c.2.2 [] x 1 ok (by decide) o4 hb
  have hl := evL_len (t := tsB num row mi) c.2.2 [] 1 ok
  unfold evC
  generalize (c.2.2.map tokS).foldl (stp num row mi) (z, x) = y at j1 j2
  obtain ⟨y1, y2⟩ := y
  have j1 : y1 = z := j1
  subst j1
  match evL (tsB num row mi) c.2.2 [], hl, j2 with
  | [v], _, j2 =>
    have j2 : BR y2 [v] := j2
    show (stp num row mi (y1, y2) (6 + c.1, c.2.1, 0)).1 = y1 + (if v = true then _ else 0) ∧ BR (stp num row mi (y1, y2) (6 + c.1, c.2.1, 0)).2 []
    unfold stp bstep
    have e : stF (6 + c.1, c.2.1, 0) (3 * 0) = nI (6 + c.1) := rfl
    have e2 : stF (6 + c.1, c.2.1, 0) (3 * 0 + 1) = nI c.2.1 := rfl
    rw [e, e2]
    by_cases w0 : c.1 = 0
    · rw [w0, if_neg (by decide), if_neg (by decide), if_neg (by decide), if_pos (by decide), if_pos rfl]
      refine ⟨?_, BR_pop j2 (by decide)⟩
      show y1 + (y2 &&& 1) * nI c.2.1 = _
      rw [BR_low j2, bI_mul]
    · have w1 : c.1 = 1 := by omega
      rw [w1, if_neg (by decide), if_neg (by decide), if_neg (by decide), if_neg (by decide), if_pos (by decide), if_neg (show ¬ (1 : Nat) = 0 by decide)]
      refine ⟨?_, BR_pop j2 (by decide)⟩
      show y1 + (y2 &&& 1) * (-nI c.2.1) = _
      rw [BR_low j2, bI_mul]
theorem stp_L {num : Int32} {row : Nat → Int32} {mi : Int32} : ∀ (cls : List Cl) (z x : Int32), (∀ c, c ∈ cls → okC c) → BR x [] → ((stepsL cls).foldl (stp num row mi) (z, x)).1 = cls.foldl (fun s c => s + clV num row mi c) z
  | [], z, x, _, _ => rfl
  | c :: cls, z, x, ho, hb => by
    obtain ⟨j1, j2⟩ := stp_cl (num := num) (row := row) (mi := mi) (ho c List.mem_cons_self) (z := z) hb
    show ((stepsC c ++ stepsL cls).foldl (stp num row mi) (z, x)).1 = _
    rw [List.foldl_append, List.foldl_cons, ← j1]
    exact stp_L cls _ _ (fun y hy => ho y (List.mem_cons_of_mem _ hy)) j2
theorem br_sb {S : Nat → Int32} {cls : List Cl} (h : stM3 S (stepsL cls)) (ho : ∀ c, c ∈ cls → okC c) (num : Int32) (row : Nat → Int32) (mi : Int32) : (brR S num row mi (stepsL cls).length).1 = sbL cls num row mi := by
  rw [br_stp h num row mi _ (Nat.le_refl _), List.take_length]
  exact stp_L cls 0 0 ho BR_0
theorem lch_ok (l : Nat) : ltOK (nI (lch l)) := by
  unfold lch
  by_cases h0 : l = 0
  · rw [if_pos h0]; exact Or.inl rfl
  rw [if_neg h0]
  by_cases h1 : l = 1
  · rw [if_pos h1]; exact Or.inr (Or.inl rfl)
  rw [if_neg h1]
  by_cases h2 : l = 2
  · rw [if_pos h2]; exact Or.inr (Or.inr (Or.inl rfl))
  rw [if_neg h2]
  by_cases h3 : l = 3
  · rw [if_pos h3]; exact Or.inr (Or.inr (Or.inr (Or.inl rfl)))
  rw [if_neg h3]
  by_cases h4 : l = 4
  · rw [if_pos h4]; exact Or.inr (Or.inr (Or.inr (Or.inr (Or.inl rfl))))
  · rw [if_neg h4]; exact Or.inr (Or.inr (Or.inr (Or.inr (Or.inr rfl))))
theorem steps_k {cls : List Cl} (ho : ∀ c, c ∈ cls → okC c) : ∀ s, s ∈ stepsL cls → (s.1 = 3 ∨ s.1 = 4 ∨ s.1 = 5 ∨ s.1 = 6 ∨ s.1 = 7) ∨ ltOK (nI s.2.1) := by
  intro s hs
  obtain ⟨c, hc, h⟩ := List.mem_flatMap.mp hs
  obtain ⟨o1, -⟩ := ho c hc
  unfold stepsC at h
  by_cases c2 : c.1 = 2
  · rw [if_pos c2] at h; exact absurd h (by simp)
  rw [if_neg c2] at h
  rcases List.mem_append.mp h with y | y
  · obtain ⟨t, -, rfl⟩ := List.mem_map.mp y
    unfold tokS
    by_cases t0 : t = 0
    · rw [if_pos t0]; exact Or.inl (Or.inl rfl)
    rw [if_neg t0]
    by_cases t1 : t = 1
    · rw [if_pos t1]; exact Or.inl (Or.inr (Or.inl rfl))
    rw [if_neg t1]
    by_cases t2 : t = 2
    · rw [if_pos t2]; exact Or.inl (Or.inr (Or.inr (Or.inl rfl)))
    rw [if_neg t2]
    exact Or.inr (lch_ok _)
  · rw [List.mem_singleton.mp y]
    refine Or.inl ?_
    show (6 + c.1 = 3 ∨ 6 + c.1 = 4 ∨ 6 + c.1 = 5 ∨ 6 + c.1 = 6 ∨ 6 + c.1 = 7)
    omega
theorem steps_ok {S : Nat → Int32} {cls : List Cl} (h : stM3 S (stepsL cls)) (ho : ∀ c, c ∈ cls → okC c) : stOK S (stepsL cls).length := by
  intro j hj
  obtain ⟨a1, a2, -⟩ := h j hj
  have hm : (stepsL cls).getD j (0, 0, 0) ∈ stepsL cls := by
    have e : (stepsL cls).getD j (0, 0, 0) = (stepsL cls)[j] := by rw [List.getD_eq_getElem?_getD, List.getElem?_eq_getElem hj]; rfl
    rw [e]; exact List.getElem_mem hj
  rw [a1, a2]
  rcases steps_k ho _ hm with y | y
  · left
    rcases y with y | y | y | y | y <;> rw [y]
    · exact Or.inl rfl
    · exact Or.inr (Or.inl rfl)
    · exact Or.inr (Or.inr (Or.inl rfl))
    · exact Or.inr (Or.inr (Or.inr (Or.inl rfl)))
    · exact Or.inr (Or.inr (Or.inr (Or.inr rfl)))
  · exact Or.inr y
