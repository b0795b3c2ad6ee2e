-- ===== contracts: small methods =====
theorem sI {a b : Int32} (h : a = b) : some (Value.int a) = some (Value.int b) := by rw [h]
theorem nb_bi {p : Prop} [Decidable p] : narrow .boolean (.int (bi p)) = .int (bi p) := by
  unfold bi
  by_cases h : p
  · rw [if_pos h]; rfl
  · rw [if_neg h]; rfl
abbrev RQ (v : Value) (Z : Zt) (G : Gt) (L : Lt) : Qt := DQ (some v) Z G L
theorem rq {v w : Int32} {Z : Zt} {G : Gt} {L : Lt} (h : v = w) : RQ (.int w) Z G L (some (.int v)) Z G L := ⟨by rw [h], rfl, rfl, rfl⟩
def wi (a b c : Int32) : Int32 := bi (¬ a < b ∧ ¬ c < a)
theorem c_X12_within {Z : Zt} {G : Gt} {L : Lt} (a b c : Int32) : AC mX12_within 1 0 0 [.int a, .int b, .int c] Z G L (RQ (.int (wi a b c)) Z G L) := by
  refine AC.intro (by decide +kernel) (Nat.le_of_ble_eq_true rfl) ?_
  refine ax_lv [(0, .int a), (1, .int b), (2, .int c)] ⟨rfl, rfl, rfl, trivial⟩ ?_
  refine ax_iload_n (i := 0) dX12_within_0 rfl rfl ?_
  refine ax_iload_n (i := 1) dX12_within_1 rfl rfl ?_
  refine ax_icmp_lt (tgt := 14) dX12_within_2 (by decide) (fun c_2 => ?_) (fun c_2 => ?_)
  · refine ax_iconst (v := 0) dX12_within_14 (by decide) ?_
    refine ax_iret dX12_within_15 rfl rfl (Nat.le_of_ble_eq_true rfl) (Nat.le_of_ble_eq_true rfl) ?_
    exact rq (by first | exact (bi_t (by assumption)).symm | exact (bi_t ⟨by assumption, by assumption⟩).symm | exact (bi_f (fun h => by first | exact h.1 (by assumption) | exact h.2 (by assumption))).symm)
  · refine ax_iload_n (i := 0) dX12_within_5 rfl rfl ?_
    refine ax_iload_n (i := 2) dX12_within_6 rfl rfl ?_
    refine ax_icmp_gt (tgt := 14) dX12_within_7 (by decide) (fun c_7 => ?_) (fun c_7 => ?_)
    · refine ax_iconst (v := 0) dX12_within_14 (by decide) ?_
      refine ax_iret dX12_within_15 rfl rfl (Nat.le_of_ble_eq_true rfl) (Nat.le_of_ble_eq_true rfl) ?_
      exact rq (by first | exact (bi_t (by assumption)).symm | exact (bi_t ⟨by assumption, by assumption⟩).symm | exact (bi_f (fun h => by first | exact h.1 (by assumption) | exact h.2 (by assumption))).symm)
    · refine ax_iconst (v := 1) dX12_within_10 (by decide) ?_
      refine ax_goto (tgt := 15) dX12_within_11 (by decide) ?_
      refine ax_iret dX12_within_15 rfl rfl (Nat.le_of_ble_eq_true rfl) (Nat.le_of_ble_eq_true rfl) ?_
      exact rq (by first | exact (bi_t (by assumption)).symm | exact (bi_t ⟨by assumption, by assumption⟩).symm | exact (bi_f (fun h => by first | exact h.1 (by assumption) | exact h.2 (by assumption))).symm)
theorem c_X11_within {Z : Zt} {G : Gt} {L : Lt} (a c : Int32) : AC mX11_within 1 0 0 [.int a, .int c] Z G L (RQ (.int (wi a 0 c)) Z G L) := by
  refine AC.intro (by decide +kernel) (Nat.le_of_ble_eq_true rfl) ?_
  refine ax_lv [(0, .int a), (1, .int c)] ⟨rfl, rfl, trivial⟩ ?_
  refine ax_iload_n (i := 0) dX11_within_0 rfl rfl ?_
  refine ax_if_lt (tgt := 13) dX11_within_1 (by decide) (fun c_1 => ?_) (fun c_1 => ?_)
  · refine ax_iconst (v := 0) dX11_within_13 (by decide) ?_
    refine ax_iret dX11_within_14 rfl rfl (Nat.le_of_ble_eq_true rfl) (Nat.le_of_ble_eq_true rfl) ?_
    exact rq (by first | exact (bi_t (by assumption)).symm | exact (bi_t ⟨by assumption, by assumption⟩).symm | exact (bi_f (fun h => by first | exact h.1 (by assumption) | exact h.2 (by assumption))).symm)
  · refine ax_iload_n (i := 0) dX11_within_4 rfl rfl ?_
    refine ax_iload_n (i := 1) dX11_within_5 rfl rfl ?_
    refine ax_icmp_gt (tgt := 13) dX11_within_6 (by decide) (fun c_6 => ?_) (fun c_6 => ?_)
    · refine ax_iconst (v := 0) dX11_within_13 (by decide) ?_
      refine ax_iret dX11_within_14 rfl rfl (Nat.le_of_ble_eq_true rfl) (Nat.le_of_ble_eq_true rfl) ?_
      exact rq (by first | exact (bi_t (by assumption)).symm | exact (bi_t ⟨by assumption, by assumption⟩).symm | exact (bi_f (fun h => by first | exact h.1 (by assumption) | exact h.2 (by assumption))).symm)
    · refine ax_iconst (v := 1) dX11_within_9 (by decide) ?_
      refine ax_goto (tgt := 14) dX11_within_10 (by decide) ?_
      refine ax_iret dX11_within_14 rfl rfl (Nat.le_of_ble_eq_true rfl) (Nat.le_of_ble_eq_true rfl) ?_
      exact rq (by first | exact (bi_t (by assumption)).symm | exact (bi_t ⟨by assumption, by assumption⟩).symm | exact (bi_f (fun h => by first | exact h.1 (by assumption) | exact h.2 (by assumption))).symm)
theorem c_X12_isPerson {Z : Zt} {G : Gt} {L : Lt} (a : Int32) : AC mX12_isPerson 2 0 0 [.int a] Z G L (RQ (.int (wi a 0 3)) Z G L) := by
  refine AC.intro (by decide +kernel) (Nat.le_of_ble_eq_true rfl) ?_
  refine ax_lv [(0, .int a)] ⟨rfl, trivial⟩ ?_
  refine ax_iload_n (i := 0) dX12_isPerson_0 rfl rfl ?_
  refine ax_iconst (v := 0) dX12_isPerson_1 (by decide) ?_
  refine ax_iconst (v := 3) dX12_isPerson_2 (by decide) ?_
  refine ax_cSv dX12_isPerson_3 lk_X12_117 (c_X12_within _ _ _) rfl rfl (Nat.le_of_ble_eq_true rfl) (Nat.le_of_ble_eq_true rfl) (Nat.le_of_ble_eq_true rfl) (Nat.le_of_ble_eq_true rfl) ?_
  refine ax_iret dX12_isPerson_6 rfl nb_bi (Nat.le_of_ble_eq_true rfl) (Nat.le_of_ble_eq_true rfl) ?_
  exact rq rfl
theorem c_X12_isTape {Z : Zt} {G : Gt} {L : Lt} (a : Int32) : AC mX12_isTape 2 0 0 [.int a] Z G L (RQ (.int (wi a 0 5)) Z G L) := by
  refine AC.intro (by decide +kernel) (Nat.le_of_ble_eq_true rfl) ?_
  refine ax_lv [(0, .int a)] ⟨rfl, trivial⟩ ?_
  refine ax_iload_n (i := 0) dX12_isTape_0 rfl rfl ?_
  refine ax_iconst (v := 0) dX12_isTape_1 (by decide) ?_
  refine ax_iconst (v := 5) dX12_isTape_2 (by decide) ?_
  refine ax_cSv dX12_isTape_3 lk_X12_117 (c_X12_within _ _ _) rfl rfl (Nat.le_of_ble_eq_true rfl) (Nat.le_of_ble_eq_true rfl) (Nat.le_of_ble_eq_true rfl) (Nat.le_of_ble_eq_true rfl) ?_
  refine ax_iret dX12_isTape_6 rfl nb_bi (Nat.le_of_ble_eq_true rfl) (Nat.le_of_ble_eq_true rfl) ?_
  exact rq rfl
theorem c_X12_isOne {Z : Zt} {G : Gt} {L : Lt} (hZ : OK Z) (a : Int32) : AC mX12_isOne 2 0 0 [.ref 75, .int a] Z G L (RQ (.int (wi a 0 (G 75 2 - 1))) Z G L) := by
  refine AC.intro (by decide +kernel) (Nat.le_of_ble_eq_true rfl) ?_
  refine ax_lv [(0, .ref 75), (1, .int a)] ⟨rfl, rfl, trivial⟩ ?_
  refine ax_iload_n (i := 1) dX12_isOne_0 rfl rfl ?_
  refine ax_iconst (v := 0) dX12_isOne_1 (by decide) ?_
  refine ax_aload_n (i := 0) dX12_isOne_2 rfl rfl ?_
  refine ax_getI dX12_isOne_3 fl_X12_114 rfl (OKs hZ rfl) ?_
  refine ax_iconst (v := 1) dX12_isOne_6 (by decide) ?_
  refine ax_isub dX12_isOne_7 ?_
  refine ax_cSv dX12_isOne_8 lk_X12_117 (c_X12_within _ _ _) rfl rfl (Nat.le_of_ble_eq_true rfl) (Nat.le_of_ble_eq_true rfl) (Nat.le_of_ble_eq_true rfl) (Nat.le_of_ble_eq_true rfl) ?_
  refine ax_iret dX12_isOne_11 rfl nb_bi (Nat.le_of_ble_eq_true rfl) (Nat.le_of_ble_eq_true rfl) ?_
  exact rq rfl
theorem c_X10_has {Z : Zt} {G : Gt} {L : Lt} {w : Nat} (hw : isW Z w) (a : Int32) : AC mX10_has 2 0 0 [.ref w, .int a] Z G L (RQ (.int (wi a 0 (G w 11 - 1))) Z G L) := by
  refine AC.intro (by decide +kernel) (Nat.le_of_ble_eq_true rfl) ?_
  refine ax_lv [(0, .ref w), (1, .int a)] ⟨rfl, rfl, trivial⟩ ?_
  refine ax_iload_n (i := 1) dX10_has_0 rfl rfl ?_
  refine ax_aload_n (i := 0) dX10_has_1 rfl rfl ?_
  refine ax_getI dX10_has_2 fl_X10_69 rfl (Ws0 hw) ?_
  refine ax_iconst (v := 1) dX10_has_5 (by decide) ?_
  refine ax_isub dX10_has_6 ?_
  refine ax_cSN dX10_has_7 lkn_X10_101 (c_X11_within _ _) rfl rfl (Nat.le_of_ble_eq_true rfl) (Nat.le_of_ble_eq_true rfl) (Nat.le_of_ble_eq_true rfl) (Nat.le_of_ble_eq_true rfl) ?_
  refine ax_iret dX10_has_10 rfl nb_bi (Nat.le_of_ble_eq_true rfl) (Nat.le_of_ble_eq_true rfl) ?_
  exact rq rfl
def evenB (g : Nat → Int32) : Nat → Int32
  | 0 => 0
  | q + 1 => if g q = 0 then evenB g q ||| ((1 : Int32) <<< (nI q &&& 31)) else evenB g q
def sumB (g : Nat → Int32) : Nat → Int32
  | 0 => 0
  | q + 1 => sumB g q + g q
/-- which have this state -/
def inB (f : Nat → Int32) (so : Int32) : Nat → Int32
  | 0 => 0
  | p + 1 => if f p = so then inB f so p ||| ((1 : Int32) <<< (nI p &&& 31)) else inB f so p
theorem l_X12_even {Z : Zt} {G : Gt} {L : Lt} {Q : Qt} (hZ : OK Z) (hend : AX none mX12_even 1 0 0 0 0 30 [(1, .int (evenB (G 76) 4))] [] Z G L Q) : ∀ (n q : Nat), q ≤ 4 → 4 - q < n → AX none mX12_even 1 0 0 0 0 4 [(0, .ref 75), (1, .int (evenB (G 76) q)), (2, .int (nI q))] [] Z G L Q := by
  intro n
  induction n with
  | zero => intro q h1 h2; omega
  | succ n ih =>
    intro q h1 h2
    refine ax_iload_n (i := 2) dX12_even_4 rfl rfl ?_
    refine ax_iconst (v := 4) dX12_even_5 (by decide) ?_
    refine ax_icmp_ge (tgt := 30) dX12_even_6 (by decide) (fun c_6 => ?_) (fun c_6 => ?_)
    · obtain rfl : q = 4 := by have := (nI_leI (by decide) (by omega)).mp (show nI 4 ≤ nI q from c_6); omega
      exact ax_lv [(1, .int (evenB (G 76) 4))] ⟨rfl, trivial⟩ hend
    · have hq4 : q < 4 := by have := mt (nI_leI (by decide) (by omega)).mpr (show ¬ nI 4 ≤ nI q from c_6); omega
      refine ax_aload_n (i := 0) dX12_even_9 rfl rfl ?_
      refine ax_getR dX12_even_10 fl_X12_9 rfl (OKs hZ rfl) (OKr hZ rfl) ?_
      refine ax_iload_n (i := 2) dX12_even_13 rfl rfl ?_
      refine ax_ialdN q dX12_even_14 (OKs hZ rfl) rfl (by omega) (by decide) ?_
      refine ax_if_ne (tgt := 24) dX12_even_15 (by decide) (fun c_15 => ?_) (fun c_15 => ?_)
      · refine ax_iinc dX12_even_24 rfl rfl (by decide) rfl ?_
        refine ax_goto (tgt := 4) dX12_even_27 (by decide) ?_
        refine ax_lv [(0, .ref 75), (1, .int (evenB (G 76) (q + 1))), (2, .int (nI (q + 1)))] ⟨rfl, sI (by simp [evenB, *]), sI (nI_1 q), trivial⟩ ?_
        exact ih (q + 1) (by omega) (by omega)
      · refine ax_iload_n (i := 1) dX12_even_18 rfl rfl ?_
        refine ax_iconst (v := 1) dX12_even_19 (by decide) ?_
        refine ax_iload_n (i := 2) dX12_even_20 rfl rfl ?_
        refine ax_ishl dX12_even_21 ?_
        refine ax_ior dX12_even_22 ?_
        refine ax_istore_n (i := 1) dX12_even_23 rfl (by decide) rfl ?_
        refine ax_iinc dX12_even_24 rfl rfl (by decide) rfl ?_
        refine ax_goto (tgt := 4) dX12_even_27 (by decide) ?_
        refine ax_lv [(0, .ref 75), (1, .int (evenB (G 76) (q + 1))), (2, .int (nI (q + 1)))] ⟨rfl, sI (by simp [evenB, *]), sI (nI_1 q), trivial⟩ ?_
        exact ih (q + 1) (by omega) (by omega)
theorem c_X12_even {Z : Zt} {G : Gt} {L : Lt} (hZ : OK Z) : AC mX12_even 1 0 0 [.ref 75] Z G L (RQ (.int (evenB (G 76) 4)) Z G L) := by
  refine AC.intro (by decide +kernel) (Nat.le_of_ble_eq_true rfl) ?_
  refine ax_lv [(0, .ref 75)] ⟨rfl, trivial⟩ ?_
  refine ax_iconst (v := 0) dX12_even_0 (by decide) ?_
  refine ax_istore_n (i := 1) dX12_even_1 rfl (by decide) rfl ?_
  refine ax_iconst (v := 0) dX12_even_2 (by decide) ?_
  refine ax_istore_n (i := 2) dX12_even_3 rfl (by decide) rfl ?_
  refine ax_lv [(0, .ref 75), (1, .int (evenB (G 76) 0)), (2, .int (nI 0))] ⟨rfl, rfl, rfl, trivial⟩ ?_
  refine l_X12_even hZ ?_ 5 0 (by omega) (by omega)
  refine ax_iload_n (i := 1) dX12_even_30 rfl rfl ?_
  refine ax_iret dX12_even_31 rfl rfl (Nat.le_of_ble_eq_true rfl) (Nat.le_of_ble_eq_true rfl) ?_
  exact rq rfl
theorem l_X10_evenPeople {Z : Zt} {G : Gt} {L : Lt} {Q : Qt} {w : Nat} (hw : isW Z w) (hend : AX none mX10_evenPeople 1 0 0 0 0 30 [(1, .int (evenB (G (w + 8)) 4))] [] Z G L Q) : ∀ (n q : Nat), q ≤ 4 → 4 - q < n → AX none mX10_evenPeople 1 0 0 0 0 4 [(0, .ref w), (1, .int (evenB (G (w + 8)) q)), (2, .int (nI q))] [] Z G L Q := by
  intro n
  induction n with
  | zero => intro q h1 h2; omega
  | succ n ih =>
    intro q h1 h2
    refine ax_iload_n (i := 2) dX10_evenPeople_4 rfl rfl ?_
    refine ax_iconst (v := 4) dX10_evenPeople_5 (by decide) ?_
    refine ax_icmp_ge (tgt := 30) dX10_evenPeople_6 (by decide) (fun c_6 => ?_) (fun c_6 => ?_)
    · obtain rfl : q = 4 := by have := (nI_leI (by decide) (by omega)).mp (show nI 4 ≤ nI q from c_6); omega
      exact ax_lv [(1, .int (evenB (G (w + 8)) 4))] ⟨rfl, trivial⟩ hend
    · have hq4 : q < 4 := by have := mt (nI_leI (by decide) (by omega)).mpr (show ¬ nI 4 ≤ nI q from c_6); omega
      refine ax_aload_n (i := 0) dX10_evenPeople_9 rfl rfl ?_
      refine ax_getR dX10_evenPeople_10 fl_X10_41 rfl (Ws0 hw) (Wr hw 2 rfl) ?_
      refine ax_iload_n (i := 2) dX10_evenPeople_13 rfl rfl ?_
      refine ax_ialdN q dX10_evenPeople_14 (Ws hw 8 rfl) rfl (by omega) (by decide) ?_
      refine ax_if_ne (tgt := 24) dX10_evenPeople_15 (by decide) (fun c_15 => ?_) (fun c_15 => ?_)
      · refine ax_iinc dX10_evenPeople_24 rfl rfl (by decide) rfl ?_
        refine ax_goto (tgt := 4) dX10_evenPeople_27 (by decide) ?_
        refine ax_lv [(0, .ref w), (1, .int (evenB (G (w + 8)) (q + 1))), (2, .int (nI (q + 1)))] ⟨rfl, sI (by simp [evenB, *]), sI (nI_1 q), trivial⟩ ?_
        exact ih (q + 1) (by omega) (by omega)
      · refine ax_iload_n (i := 1) dX10_evenPeople_18 rfl rfl ?_
        refine ax_iconst (v := 1) dX10_evenPeople_19 (by decide) ?_
        refine ax_iload_n (i := 2) dX10_evenPeople_20 rfl rfl ?_
        refine ax_ishl dX10_evenPeople_21 ?_
        refine ax_ior dX10_evenPeople_22 ?_
        refine ax_istore_n (i := 1) dX10_evenPeople_23 rfl (by decide) rfl ?_
        refine ax_iinc dX10_evenPeople_24 rfl rfl (by decide) rfl ?_
        refine ax_goto (tgt := 4) dX10_evenPeople_27 (by decide) ?_
        refine ax_lv [(0, .ref w), (1, .int (evenB (G (w + 8)) (q + 1))), (2, .int (nI (q + 1)))] ⟨rfl, sI (by simp [evenB, *]), sI (nI_1 q), trivial⟩ ?_
        exact ih (q + 1) (by omega) (by omega)
theorem c_X10_evenPeople {Z : Zt} {G : Gt} {L : Lt} {w : Nat} (hw : isW Z w) : AC mX10_evenPeople 1 0 0 [.ref w] Z G L (RQ (.int (evenB (G (w + 8)) 4)) Z G L) := by
  refine AC.intro (by decide +kernel) (Nat.le_of_ble_eq_true rfl) ?_
  refine ax_lv [(0, .ref w)] ⟨rfl, trivial⟩ ?_
  refine ax_iconst (v := 0) dX10_evenPeople_0 (by decide) ?_
  refine ax_istore_n (i := 1) dX10_evenPeople_1 rfl (by decide) rfl ?_
  refine ax_iconst (v := 0) dX10_evenPeople_2 (by decide) ?_
  refine ax_istore_n (i := 2) dX10_evenPeople_3 rfl (by decide) rfl ?_
  refine ax_lv [(0, .ref w), (1, .int (evenB (G (w + 8)) 0)), (2, .int (nI 0))] ⟨rfl, rfl, rfl, trivial⟩ ?_
  refine l_X10_evenPeople hw ?_ 5 0 (by omega) (by omega)
  refine ax_iload_n (i := 1) dX10_evenPeople_30 rfl rfl ?_
  refine ax_iret dX10_evenPeople_31 rfl rfl (Nat.le_of_ble_eq_true rfl) (Nat.le_of_ble_eq_true rfl) ?_
  exact rq rfl
def allne (x : Int32) : Nat → Prop
  | 0 => True
  | n + 1 => allne x n ∧ ¬ x = nI n
theorem allne_at {x : Int32} : ∀ {n : Nat}, allne x n → ∀ k, k < n → ¬ x = nI k
  | 0, _, k, hk => absurd hk (Nat.not_lt_zero k)
  | n + 1, h, k, hk => by
    rcases Nat.lt_or_ge k n with q | q
    · exact allne_at h.1 k q
    · rw [show k = n by omega]; exact h.2
theorem sw_out {x : Int32} (n : Nat) {hi : Int} (hh : hi = (n : Int) - 1) (hn : n < 1000) (h : allne x n) : x.toInt < 0 ∨ hi < x.toInt := by
  by_cases q : x.toInt < 0
  · exact Or.inl q
  · by_cases q2 : hi < x.toInt
    · exact Or.inr q2
    · exfalso
      refine allne_at h x.toInt.toNat (by omega) ?_
      apply Int32.toInt_inj.mp
      rw [nI_toInt (by omega)]
      omega
theorem i32_nn {a : Int32} (h : ¬ a < 0) : 0 ≤ a.toInt := by
  have := Int32.not_lt.mp h
  simpa using Int32.le_iff_toInt_le.mp this
theorem i32_clamp (a : Int32) : a.toNatClampNeg = a.toInt.toNat := rfl
theorem nn_e {a : Int32} (h : ¬ a < 0) : a = nI a.toNatClampNeg := by
  obtain ⟨j, hj, rfl⟩ := nI_of h
  rw [nI_clamp hj]
theorem wi_e {a c : Int32} (h : ¬ wi a 0 c = 0) : a = nI a.toNatClampNeg := nn_e (bi_ne.mp h).1
theorem wi_l {a c : Int32} {n : Nat} (h : ¬ wi a 0 c = 0) (hc : c.toInt < n) : a.toNatClampNeg < n := by
  have h1 := bi_ne.mp h
  have h2 := i32_nn h1.1
  have h3 := Int32.le_iff_toInt_le.mp (Int32.not_lt.mp h1.2)
  rw [i32_clamp]
  omega
def cntOK (m : Nat) (x : Int32) : Prop := ∃ n : Nat, n ≤ m ∧ x = nI n
theorem cnt_e {m : Nat} {x : Int32} (hm : m < 1000) (h : cntOK m x) : x = nI x.toNatClampNeg := by
  obtain ⟨n, h1, rfl⟩ := h
  rw [nI_clamp (by omega)]
theorem cnt_le {m : Nat} {x : Int32} (hm : m < 1000) (h : cntOK m x) : x.toNatClampNeg ≤ m := by
  obtain ⟨n, h1, rfl⟩ := h
  rw [nI_clamp (by omega)]
  exact h1
theorem cnt_l {m : Nat} {x : Int32} (hm : m < 1000) (h : cntOK m x) (hx : ¬ x = nI m) : x.toNatClampNeg < m := by
  obtain ⟨n, h1, rfl⟩ := h
  rw [nI_clamp (by omega)]
  rcases Nat.lt_or_ge n m with q | q
  · exact q
  · exact absurd (by rw [show n = m by omega]) hx
theorem cnt_lg {m : Nat} {x : Int32} (hm : m < 1000) (h : cntOK m x) (hx : ¬ nI m ≤ x) : x.toNatClampNeg < m := by
  obtain ⟨n, h1, rfl⟩ := h
  rw [nI_clamp (by omega)]
  rcases Nat.lt_or_ge n m with q | q
  · exact q
  · exact absurd (nI_le q (by omega)) hx
theorem cnt_pi {m : Nat} {x : Int32} (hm : m < 1000) (h : cntOK m x) : (x - 1).toInt < (m : Nat) := by
  obtain ⟨n, h1, rfl⟩ := h
  rw [show nI n - 1 = nI n - nI 1 from rfl, pk_sub_toInt (by omega) (by decide)]
  omega
theorem has_l {m : Nat} {a x : Int32} (hm : m < 1000) (h : cntOK m x) (hw : ¬ wi a 0 (x - 1) = 0) : a.toNatClampNeg < m := wi_l hw (cnt_pi hm h)
theorem ix2 {a b : Int32} (c : Nat) (ha : a = nI a.toNatClampNeg) (hb : b = nI b.toNatClampNeg) : nI c * a + b = nI (c * a.toNatClampNeg + b.toNatClampNeg) := by
  generalize a.toNatClampNeg = p at ha ⊢
  generalize b.toNatClampNeg = q at hb ⊢
  rw [ha, hb, pk_mul, nI_add]
/-- the place in the text, and the text's length -/
def txOK (a t : Int32) : Prop := ∃ n m : Nat, n ≤ m ∧ m ≤ 100 ∧ a = nI n ∧ t = nI m
theorem tx_e {a t : Int32} (h : txOK a t) : a = nI a.toNatClampNeg := by
  obtain ⟨n, m, h1, h2, rfl, rfl⟩ := h
  rw [nI_clamp (by omega)]
theorem tx_ne {a t : Int32} (h : txOK a t) (hx : ¬ a = t) : a.toNatClampNeg < 100 := by
  obtain ⟨n, m, h1, h2, rfl, rfl⟩ := h
  rw [nI_clamp (by omega)]
  rcases Nat.lt_or_ge n 100 with q | q
  · exact q
  · exact absurd (by rw [show n = m by omega]) hx
theorem tx_lt {a t : Int32} (h : txOK a t) (hx : ¬ t ≤ a) : a.toNatClampNeg < 100 := tx_ne h (fun e => hx (by rw [e]; exact Int32.le_refl t))
theorem tr_l {i t : Int32} (ht : cntOK 100 t) (h : ¬ wi i 0 ((if t < 20 then t else 20) - 1) = 0) : i.toNatClampNeg < 20 := by
  obtain ⟨n, h1, rfl⟩ := ht
  refine wi_l h ?_
  by_cases q : nI n < 20
  · rw [if_pos q, show nI n - 1 = nI n - nI 1 from rfl, pk_sub_toInt (by omega) (by decide)]
    have := (nI_ltI (by omega) (by decide)).mp (show nI n < nI 20 from q)
    omega
  · rw [if_neg q]
    decide
