-- ===== the model: rows that are tried =====
/-- what is asked changes no more than this -/
def mB (G G' : Gt) : Prop := (∀ a, ¬ (75 ≤ a ∧ a < 85) → ¬ (92 ≤ a ∧ a < 100) → a ≠ 102 → G' a = G a) ∧ ∀ i, i ≠ 2 → i ≠ 10 → i ≠ 18 → i ≠ 27 → i ≠ 31 → i ≠ 34 → G' 75 i = G 75 i
theorem mB_refl {G : Gt} : mB G G := ⟨fun _ _ _ _ => rfl, fun _ _ _ _ _ _ _ => rfl⟩
theorem mB_tr {G G1 G2 : Gt} (h : mB G G1) (h2 : mB G1 G2) : mB G G2 := ⟨fun a x y z => (h2.1 a x y z).trans (h.1 a x y z), fun i a b c d e f => (h2.2 i a b c d e f).trans (h.2 i a b c d e f)⟩
theorem mB_mA {G G1 : Gt} (h : mB G G1) : mA G G1 := ⟨fun a x y z => h.1 a x y (by omega), fun i a b c d e f _ _ => h.2 i a b c d e f⟩
theorem mS_mB {G G1 : Gt} (h : mS G G1) : mB G G1 := ⟨fun a x y _ => h.1 a x (by omega), fun i a b _ _ _ _ => h.2 i a b⟩
theorem mB_102 {G G' : Gt} (f : ∀ a, a ≠ 102 → G' a = G a) : mB G G' := ⟨fun a _ _ z => f a z, fun i _ _ _ _ _ _ => by rw [f 75 (by decide)]⟩
theorem k_againB {Z : Zt} {G : Gt} {L : Lt} {k : Nat} {W : Wv} {H : Hv} (hZ : OK Z) (hk : k = 101 ∨ k = 102) (ho : W.m ≤ 6) (hh : okH W.m H) (hi : iM G k W H) : AC mX12_again 1 0 0 [.ref 75, .ref k] Z G L (NP (fun Z' G' L' => Z' = Z ∧ L' = L ∧ mB G G' ∧ vM G' W ∧ hM G' H)) := by
  have hs : Z.2.1 k = some (.inr (.int, 125)) := by rcases hk with rfl | rfl <;> exact OKs hZ rfl
  refine AC.weaken (c_again hZ hs (by omega)) ?_
  rintro r Z' G' L' ⟨rfl, rfl, rfl, hf, hf2, ⟨g2, g10, g27, g31, g34, g18⟩, hp⟩
  refine ⟨rfl, rfl, rfl, ⟨fun a x y _ => hf a x (by omega), fun i e1 e2 e3 e4 e5 e6 => hf2 i e1 e2 e3 e4 e5 e6⟩, ?_⟩
  obtain ⟨⟨a1, a2, a3, a4, a5, a6⟩, ⟨b1, b2⟩, ⟨b3, b4⟩, ⟨b5, b6⟩⟩ := hi
  have c1 := hh.1
  have c2 := hh.2.2.1
  have c3 := hh.2.2.2.2.1
  refine ⟨⟨g2.trans a4, g10.trans a5, fun p hp' => ⟨fun i hi => ?_, fun i hi => ?_⟩, fun q hq => ?_, fun q hq => ?_, ?_⟩, ⟨g27.trans b1, fun i hi => ⟨?_, ?_, ?_⟩⟩, ⟨g31.trans b3, fun i hi => ⟨?_, ?_⟩⟩, ⟨g34.trans b5, fun i hi => ⟨?_, ?_⟩⟩⟩
  · rw [← (a3 p hp').1 i hi]
    have : i = 0 ∨ i = 1 ∨ i = 2 ∨ i = 3 ∨ i = 4 ∨ i = 5 := by omega
    rcases this with rfl | rfl | rfl | rfl | rfl | rfl
    · exact hp 78 p (Or.inr (Or.inr (Or.inl ⟨rfl, by omega⟩)))
    · exact hp 79 p (Or.inr (Or.inr (Or.inr (Or.inl ⟨rfl, by omega⟩))))
    · exact hp 80 p (Or.inr (Or.inr (Or.inr (Or.inr (Or.inl ⟨rfl, by omega⟩)))))
    · exact hp 81 p (Or.inr (Or.inr (Or.inr (Or.inr (Or.inr (Or.inl ⟨rfl, by omega⟩))))))
    · exact hp 82 p (Or.inr (Or.inr (Or.inr (Or.inr (Or.inr (Or.inr (Or.inl ⟨rfl, by omega⟩)))))))
    · exact hp 83 p (Or.inr (Or.inr (Or.inr (Or.inr (Or.inr (Or.inr (Or.inr (Or.inl ⟨rfl, by omega⟩))))))))
  · rw [hp 84 (4 * p + i) (Or.inr (Or.inr (Or.inr (Or.inr (Or.inr (Or.inr (Or.inr (Or.inr (Or.inl ⟨rfl, by omega⟩)))))))))]; exact (a3 p hp').2 i hi
  · rw [hp 76 q (Or.inl ⟨rfl, by omega⟩)]; have e := a1 q hq; rw [← e]; show G k (0 + q) = G k q; rw [Nat.zero_add]
  · rw [hp 77 q (Or.inr (Or.inl ⟨rfl, by omega⟩))]; exact a2 q hq
  · rw [g18]; exact smV_keep (fun a x y => hf a (by omega) (by omega)) (hf2 17 (by decide) (by decide) (by decide) (by decide) (by decide) (by decide)) (hf2 25 (by decide) (by decide) (by decide) (by decide) (by decide) (by decide)) a6
  · rw [hp 93 i (Or.inr (Or.inr (Or.inr (Or.inr (Or.inr (Or.inr (Or.inr (Or.inr (Or.inr (Or.inl ⟨rfl, by omega⟩))))))))))]; exact (b2 i hi).1
  · rw [hp 94 i (Or.inr (Or.inr (Or.inr (Or.inr (Or.inr (Or.inr (Or.inr (Or.inr (Or.inr (Or.inr (Or.inl ⟨rfl, by omega⟩)))))))))))]; exact (b2 i hi).2.1
  · rw [hp 95 i (Or.inr (Or.inr (Or.inr (Or.inr (Or.inr (Or.inr (Or.inr (Or.inr (Or.inr (Or.inr (Or.inr (Or.inl ⟨rfl, by omega⟩))))))))))))]; exact (b2 i hi).2.2
  · rw [hp 96 i (Or.inr (Or.inr (Or.inr (Or.inr (Or.inr (Or.inr (Or.inr (Or.inr (Or.inr (Or.inr (Or.inr (Or.inr (Or.inl ⟨rfl, by omega⟩)))))))))))))]; exact (b4 i hi).1
  · rw [hp 97 i (Or.inr (Or.inr (Or.inr (Or.inr (Or.inr (Or.inr (Or.inr (Or.inr (Or.inr (Or.inr (Or.inr (Or.inr (Or.inr (Or.inl ⟨rfl, by omega⟩))))))))))))))]; exact (b4 i hi).2
  · rw [hp 98 i (Or.inr (Or.inr (Or.inr (Or.inr (Or.inr (Or.inr (Or.inr (Or.inr (Or.inr (Or.inr (Or.inr (Or.inr (Or.inr (Or.inr (Or.inl ⟨rfl, by omega⟩)))))))))))))))]; exact (b6 i hi).1
  · rw [hp 99 i (Or.inr (Or.inr (Or.inr (Or.inr (Or.inr (Or.inr (Or.inr (Or.inr (Or.inr (Or.inr (Or.inr (Or.inr (Or.inr (Or.inr (Or.inr ⟨rfl, by omega⟩)))))))))))))))]; exact (b6 i hi).2
def pv (d : Nat → Nat) : Nat → Nat
  | 0 => 0
  | i + 1 => 6 * pv d i + d i
theorem pv_cg {d d' : Nat → Nat} : ∀ i, (∀ k, k < i → d k = d' k) → pv d i = pv d' i
  | 0, _ => rfl
  | i + 1, h => by
    unfold pv
    rw [pv_cg i (fun k hk => h k (by omega)), h i (by omega)]
theorem dg_pv {d : Nat → Nat} : ∀ i, (∀ k, k < i → d k < 6) → ∀ k, k < i → dg i (pv d i) k = d k
  | 0, _, k, hk => absurd hk (Nat.not_lt_zero k)
  | i + 1, h, k, hk => by
    have hd := h i (by omega)
    rcases Nat.lt_or_ge k i with q | q
    · rw [dg_s q, show pv d (i + 1) / 6 = pv d i from by show (6 * pv d i + d i) / 6 = _; omega]
      exact dg_pv i (fun k hk => h k (by omega)) k q
    · obtain rfl : k = i := by omega
      rw [dg_l]
      show (6 * pv d k + d k) % 6 = _
      omega
theorem pv_lt {d : Nat → Nat} : ∀ i, (∀ k, k < i → d k < 6) → pv d i < 6 ^ i
  | 0, _ => by show 0 < 6 ^ 0; decide
  | i + 1, h => by
    have h1 := pv_lt i (fun k hk => h k (by omega))
    have h2 := h i (by omega)
    show 6 * pv d i + d i < 6 ^ (i + 1)
    rw [Nat.pow_succ]
    omega
theorem dg_at {n i e x : Nat} (h : i + 1 + e = n) : dg n x i = x / 6 ^ e % 6 := by
  unfold dg
  rw [show n - 1 - i = e by omega]
theorem dg_hi {n i e x k : Nat} (h : i + 1 + e = n) (hk : k < i) : dg n x k = dg i (x / 6 ^ e / 6) k := by
  unfold dg
  rw [show n - 1 - k = e + (1 + (i - 1 - k)) by omega, Nat.pow_add, Nat.pow_add, Nat.pow_one, ← Nat.div_div_eq_div_mul, ← Nat.div_div_eq_div_mul]
/-- a row's beginning that can be lit -/
def rwV (W : Wv) (d : Nat → Nat) (i : Nat) : Prop := ∀ k, k < i → d k < W.m ∧ W.C (d k) 5 = 0 ∧ ∀ j, j < k → d j ≠ d k
theorem brS_skip {W : Wv} {n a : Nat} : ∀ r, (∀ x, a ≤ x → x < a + r → cnB (inB (fun p => W.C p 5) 0 W.m) (dg n x) n = false) → brS W n (a + r) = brS W n a
  | 0, _ => rfl
  | r + 1, h => by
    show brS W n (a + r + 1) = _
    rw [brS, if_neg (fun z => by have := h (a + r) (by omega) (by omega); rw [this] at z; exact Bool.noConfusion z.1)]
    exact brS_skip r (fun x h1 h2 => h x h1 (by omega))
theorem brS_to {W : Wv} {n a b : Nat} (hab : a ≤ b) (h : ∀ x, a ≤ x → x < b → cnB (inB (fun p => W.C p 5) 0 W.m) (dg n x) n = false) : brS W n b = brS W n a := by
  obtain ⟨r, rfl⟩ : ∃ r, b = a + r := ⟨b - a, by omega⟩
  exact brS_skip r h
/-- the codes behind a beginning whose next is none -/
theorem cn_no {W : Wv} {n i e x : Nat} {d : Nat → Nat} (hm : W.m ≤ 6) (h : i + 1 + e = n) (hd : rwV W d i) (hx : x / 6 ^ e / 6 = pv d i) (hn : ¬ (x / 6 ^ e % 6 < W.m ∧ W.C (x / 6 ^ e % 6) 5 = 0 ∧ ∀ j, j < i → d j ≠ x / 6 ^ e % 6)) : cnB (inB (fun p => W.C p 5) 0 W.m) (dg n x) n = false := by
  cases c : cnB (inB (fun p => W.C p 5) 0 W.m) (dg n x) n with
  | false => rfl
  | true =>
    exfalso
    have hc := (cnB_iff (f := fun p => W.C p 5) hm (dg_6 n x) n).mp c i (by omega)
    rw [dg_at h] at hc
    refine hn ⟨hc.1, hc.2.1, fun j hj => ?_⟩
    have := hc.2.2 j hj
    rw [dg_hi h hj, hx, dg_pv i (fun k hk => by have := (hd k hk).1; omega) j hj] at this
    exact this
theorem cn_yes {W : Wv} {n : Nat} {d : Nat → Nat} (hm : W.m ≤ 6) (hd : rwV W d n) : cnB (inB (fun p => W.C p 5) 0 W.m) (dg n (pv d n)) n = true := by
  have e := dg_pv (d := d) n (fun k hk => by have := (hd k hk).1; omega)
  refine (cnB_iff (f := fun p => W.C p 5) hm (dg_6 n (pv d n)) n).mpr (fun k hk => ?_)
  rw [e k hk]
  exact ⟨(hd k hk).1, (hd k hk).2.1, fun j hj => by rw [e j (by omega)]; exact (hd k hk).2.2 j hj⟩
/-- the best row so far, in the model -/
def bM (G : Gt) (W : Wv) (n : Nat) (c : Int32 × Int32) : Prop := (c = (-5, -2147483648) ∧ G 75 44 = -1) ∨ ∃ x, x < 6 ^ n ∧ c = (nI x, scoreV (toV W (dg n x) n)) ∧ (∀ k, k < n → dg n x k < W.m) ∧ G 75 44 = bc (evenB (toV W (dg n x) n).gr 4) ∧ G 75 45 = sumB (toV W (dg n x) n).gr 4 ∧ ∀ k, k < n → G 104 k = nI (dg n x k)
theorem bM_keep {G G' : Gt} {W : Wv} {n : Nat} {c : Int32 × Int32} (h : bM G W n c) (h1 : G' 75 44 = G 75 44) (h2 : G' 75 45 = G 75 45) (h3 : G' 104 = G 104) : bM G' W n c := by
  unfold bM
  rw [h1, h2, h3]
  exact h
theorem min_i : (-2147483648 : Int32).toInt = -2147483648 := by decide
/-- the model's way to compare rows is the class's -/
theorem bM_key {G : Gt} {W : Wv} {n : Nat} {c : Int32 × Int32} {d : Nat → Nat} (h : bM G W n c) (ho : okW W) (hm : W.mm + 20 < 20000) (hn : n ≤ 3) (hd : ∀ k, k < n → d k < W.m) : (scoreV (toV W d n) ≤ c.2) ↔ (bc (evenB (toV W d n).gr 4) < G 75 44 ∨ (bc (evenB (toV W d n).gr 4) = G 75 44 ∧ G 75 45 ≤ sumB (toV W d n).gr 4)) := by
  obtain ⟨e, s, e4, s4, he, hs, hsc⟩ := sc_n (toV_ok ho hm n hn hd).1
  rw [he, hs, Int32.le_iff_toInt_le, hsc]
  rcases h with ⟨rfl, f1⟩ | ⟨x, hx, rfl, hdx, f1, f2, -⟩
  · rw [f1]
    constructor
    · intro z
      exfalso
      have := min_i
      have z : 10000 * (e : Int) - s ≤ (-2147483648 : Int32).toInt := z
      omega
    · rintro (z | ⟨z, -⟩)
      · exact absurd (Int32.lt_trans z (by decide)) (nI_pos (by omega))
      · exact absurd z (nI_m1 (by omega))
  · obtain ⟨e', s', e4', s4', he', hs', hsc'⟩ := sc_n (toV_ok ho hm n hn hdx).1
    rw [f1, f2, he', hs', nI_ltI (by omega) (by omega), nI_eq (by omega) (by omega), nI_leI (by omega) (by omega)]
    show 10000 * (e : Int) - s ≤ (scoreV (toV W (dg n x) n)).toInt ↔ _
    rw [hsc']
    omega
theorem bM_new {G G' : Gt} {W : Wv} {n : Nat} {d : Nat → Nat} (h : bM G W n (brS W n (pv d n))) (hm6 : W.m ≤ 6) (hd : rwV W d n) (hk : ¬ scoreV (toV W d n) ≤ (brS W n (pv d n)).2) (h1 : G' 75 44 = bc (evenB (toV W d n).gr 4)) (h2 : G' 75 45 = sumB (toV W d n).gr 4) (h3 : ∀ k, k < n → G' 104 k = nI (d k)) : bM G' W n (brS W n (pv d n + 1)) := by
  have hd6 : ∀ k, k < n → d k < 6 := fun k hk => by have := (hd k hk).1; omega
  have e := dg_pv (d := d) n hd6
  have et : toV W (dg n (pv d n)) n = toV W d n := toV_cg n e
  refine Or.inr ⟨pv d n, pv_lt n hd6, ?_, fun k hk => by rw [e k hk]; exact (hd k hk).1, by rw [et]; exact h1, by rw [et]; exact h2, fun k hk => by rw [e k hk]; exact h3 k hk⟩
  show brS W n (pv d n + 1) = _
  unfold brS
  rw [et, if_pos ⟨cn_yes hm6 hd, hk⟩]
theorem bM_old {G : Gt} {W : Wv} {n : Nat} {d : Nat → Nat} (h : bM G W n (brS W n (pv d n))) (hm6 : W.m ≤ 6) (hd : rwV W d n) (hk : scoreV (toV W d n) ≤ (brS W n (pv d n)).2) : bM G W n (brS W n (pv d n + 1)) := by
  have hd6 : ∀ k, k < n → d k < 6 := fun k hk => by have := (hd k hk).1; omega
  have et : toV W (dg n (pv d n)) n = toV W d n := toV_cg n (dg_pv (d := d) n hd6)
  have : brS W n (pv d n + 1) = brS W n (pv d n) := by
    show (if _ then _ else _) = _
    rw [et, if_neg (fun z => z.2 hk)]
  rw [this]
  exact h
abbrev TQ (Z : Zt) (G : Gt) (L : Lt) (W : Wv) (H : Hv) (n i : Nat) (d : Nat → Nat) (c : Nat) : Zt → Gt → Lt → Prop := fun Z' G' L' => Z' = Z ∧ L' = L ∧ mA G G' ∧ vM G' W ∧ hM G' H ∧ (∀ k, k < i → G' 103 k = nI (d k)) ∧ bM G' W n (brS W n c)
theorem l_tries0 {Z : Zt} {G0 : Gt} {L : Lt} {Q : Qt} {W : Wv} (hZ : OK Z) (ho : okW W) (n : Nat) (hn : n ≤ 3) (d : Nat → Nat) (hd : rwV W d n) (ht : ∀ k, k < n → G0 103 k = nI (d k)) (hm : W.mm + 20 < 20000) (hend : ∀ G : Gt, mS G0 G → vM G (toV W d n) → AX none mX12_tries 6 0 0 0 0 40 [(0, .ref 75), (2, .int (nI n))] [] Z G L Q) : ∀ (r q : Nat), q ≤ n → n - q < r → ∀ G : Gt, mS G0 G → vM G (toV W d q) → AX none mX12_tries 6 0 0 0 0 15 [(0, .ref 75), (2, .int (nI n)), (3, .int (nI q))] [] Z G L Q := by
  intro r
  induction r with
  | zero => intro q h1 h2; omega
  | succ r ih =>
    intro q h1 h2 G hs9 hv9
    refine ax_iload_n (i := 3) dX12_tries_15 rfl rfl ?_
    refine ax_iload_n (i := 2) dX12_tries_16 rfl rfl ?_
    refine ax_icmp_ge (tgt := 40) dX12_tries_17 (by decide) (fun c_17 => ?_) (fun c_17 => ?_)
    · obtain rfl : q = n := by have := (nI_leI (by omega) (by omega)).mp (show nI n ≤ nI q from c_17); omega
      exact ax_lv [(0, .ref 75), (2, .int (nI q))] ⟨rfl, rfl, trivial⟩ (hend G hs9 hv9)
    · have hqm : q < n := by have := mt (nI_leI (by omega) (by omega)).mpr (show ¬ nI n ≤ nI q from c_17); omega
      have hdq := (hd q hqm).1
      obtain ⟨ok9, em9, emm9⟩ := toV_ok ho hm q (by omega) (fun k hk => (hd k (by omega)).1)
      refine ax_aload_n (i := 0) dX12_tries_20 rfl rfl ?_
      refine ax_aload_n (i := 0) dX12_tries_21 rfl rfl ?_
      refine ax_getR dX12_tries_22 fl_X12_94 rfl (OKs hZ rfl) (OKr hZ rfl) ?_
      refine ax_iload_n (i := 3) dX12_tries_25 rfl rfl ?_
      refine ax_ialdN q dX12_tries_26 (OKs hZ rfl) rfl (by omega) (by decide) ?_
      refine ax_top (congrArg Value.int ((congrFun (hs9.1 103 (by decide) (by decide)) q).trans (ht q hqm))) ?_
      refine ax_cVq0 dX12_tries_27 lk_X12_142 (k_lights hZ hv9 ok9 (d q) (by rw [em9]; exact hdq)) rfl (OKs hZ rfl) ⟨_, rfl, rfl⟩ rfl (Nat.le_of_ble_eq_true rfl) (Nat.le_of_ble_eq_true rfl) (Nat.le_of_ble_eq_true rfl) (Nat.le_of_ble_eq_true rfl) ?_
      rintro _ G1 _ ⟨rfl, rfl, m'1, v1⟩
      have m1 := mS_tr hs9 m'1
      refine ax_aload_n (i := 0) dX12_tries_30 rfl rfl ?_
      refine ax_cVq0 dX12_tries_31 lk_X12_268 (k_goesMinute hZ v1 (litV_ok ok9 (by rw [em9]; exact hdq))) rfl (OKs hZ rfl) ⟨_, rfl, rfl⟩ rfl (Nat.le_of_ble_eq_true rfl) (Nat.le_of_ble_eq_true rfl) (Nat.le_of_ble_eq_true rfl) (Nat.le_of_ble_eq_true rfl) ?_
      rintro _ G2 _ ⟨rfl, rfl, m'2, v2⟩
      have m2 := mS_tr m1 m'2
      refine ax_iinc (v := (nI q) + 1) dX12_tries_34 rfl rfl (by decide) rfl ?_
      refine ax_goto (tgt := 15) dX12_tries_37 (by decide) ?_
      refine ax_lv [(0, .ref 75), (2, .int (nI n)), (3, .int (nI (q + 1)))] ⟨rfl, rfl, sI (nI_1 q), trivial⟩ ?_
      exact ih (q + 1) (by omega) (by omega) _ m2 v2
theorem l_triesC {Z : Zt} {G0 : Gt} {L : Lt} {Q : Qt} (hZ : OK Z) (n : Nat) (hn : n ≤ 3) (d : Nat → Nat) (ht : ∀ k, k < n → G0 103 k = nI (d k)) (hend : ∀ G : Gt, (∀ a, a ≠ 104 → G a = G0 a) → (∀ k, k < n → G 104 k = nI (d k)) → AX none mX12_tries 6 0 0 0 0 128 [] [] Z G L Q) : ∀ (r q : Nat), q ≤ n → n - q < r → ∀ G : Gt, (∀ a, a ≠ 104 → G a = G0 a) → (∀ k, k < q → G 104 k = nI (d k)) → AX none mX12_tries 6 0 0 0 0 102 [(0, .ref 75), (2, .int (nI n)), (5, .int (nI q))] [] Z G L Q := by
  intro r
  induction r with
  | zero => intro q h1 h2; omega
  | succ r ih =>
    intro q h1 h2 G hf hb
    refine ax_iload dX12_tries_102 rfl ?_
    refine ax_iload_n (i := 2) dX12_tries_104 rfl rfl ?_
    refine ax_icmp_ge (tgt := 128) dX12_tries_105 (by decide) (fun c_105 => ?_) (fun c_105 => ?_)
    · obtain rfl : q = n := by have := (nI_leI (by omega) (by omega)).mp (show nI n ≤ nI q from c_105); omega
      exact ax_lv [] trivial (hend G hf hb)
    · have hqm : q < n := by have := mt (nI_leI (by omega) (by omega)).mpr (show ¬ nI n ≤ nI q from c_105); omega
      refine ax_aload_n (i := 0) dX12_tries_108 rfl rfl ?_
      refine ax_getR dX12_tries_109 fl_X12_97 rfl (OKs hZ rfl) (OKr hZ rfl) ?_
      refine ax_iload dX12_tries_112 rfl ?_
      refine ax_aload_n (i := 0) dX12_tries_114 rfl rfl ?_
      refine ax_getR dX12_tries_115 fl_X12_94 rfl (OKs hZ rfl) (OKr hZ rfl) ?_
      refine ax_iload dX12_tries_118 rfl ?_
      refine ax_ialdN q dX12_tries_120 (OKs hZ rfl) rfl (by omega) (by decide) ?_
      refine ax_top (congrArg Value.int ((congrFun (hf 103 (by decide)) q).trans (ht q hqm))) ?_
      refine ax_iastN q dX12_tries_121 (OKs hZ rfl) rfl (by omega) (by decide) ?_
      refine ax_iinc (v := (nI q) + 1) dX12_tries_122 rfl rfl (by decide) rfl ?_
      refine ax_goto (tgt := 102) dX12_tries_125 (by decide) ?_
      refine ax_lv [(0, .ref 75), (2, .int (nI n)), (5, .int (nI (q + 1)))] ⟨rfl, rfl, sI (nI_1 q), trivial⟩ ?_
      exact ih (q + 1) (by omega) (by omega) _ (fun a ha => (up2_row ha).trans (hf a ha)) (fun k hk => if e : k = q then by rw [e, up2_s] else by rw [up2_i e]; exact hb k (by omega))
theorem k_tries0 {Z : Zt} {G : Gt} {L : Lt} {W : Wv} (hZ : OK Z) (hv : vM G W) (ho : okW W) {H : Hv} (hH : hM G H) (hh : okH W.m H) (i : Nat) (hn : i ≤ 3) (d : Nat → Nat) (hd : rwV W d i) (ht : ∀ k, k < i → G 103 k = nI (d k)) (hm : W.mm + 20 < 20000) (hb : bM G W i (brS W i (pv d i))) : AC mX12_tries 6 0 0 [.ref 75, .int (nI i), .int (nI i)] Z G L (NP (TQ Z G L W H i i d ((pv d i + 1) * 6 ^ 0))) := by
  refine AC.intro (by decide +kernel) (Nat.le_of_ble_eq_true rfl) ?_
  refine ax_lv [(0, .ref 75), (1, .int (nI i)), (2, .int (nI i))] ⟨rfl, rfl, rfl, trivial⟩ ?_
  refine ax_iload_n (i := 1) dX12_tries_0 rfl rfl ?_
  refine ax_iload_n (i := 2) dX12_tries_1 rfl rfl ?_
  refine ax_icmp_ne (tgt := 129) dX12_tries_2 (by decide) (fun c_2 => ?_) (fun c_2 => ?_)
  · exact absurd rfl c_2
  · refine ax_aload_n (i := 0) dX12_tries_5 rfl rfl ?_
    refine ax_aload_n (i := 0) dX12_tries_6 rfl rfl ?_
    refine ax_getR dX12_tries_7 fl_X12_91 rfl (OKs hZ rfl) (OKr hZ rfl) ?_
    refine ax_cVq0 dX12_tries_10 lk_X12_271 (k_keep hZ (Or.inr rfl) hv ho.1 hH hh) rfl (OKs hZ rfl) ⟨_, rfl, rfl⟩ rfl (Nat.le_of_ble_eq_true rfl) (Nat.le_of_ble_eq_true rfl) (Nat.le_of_ble_eq_true rfl) (Nat.le_of_ble_eq_true rfl) ?_
    rintro _ G1 _ ⟨rfl, rfl, f1, i1⟩
    have v1 := vM_keep hv (fun a x y => f1 a (by omega)) (fun i _ => by rw [f1 75 (by decide)])
    have a1 := mB_tr mB_refl (mB_102 f1)
    refine ax_iconst (v := 0) dX12_tries_13 (by decide) ?_
    refine ax_istore_n (i := 3) dX12_tries_14 rfl (by decide) rfl ?_
    refine ax_lv [(0, .ref 75), (2, .int (nI i)), (3, .int (nI 0))] ⟨rfl, rfl, rfl, trivial⟩ ?_
    have hH1 : hM G1 H := hM_keep hH (fun i _ => by rw [f1 75 (by decide)]) (fun a x y => f1 a (by omega))
    refine l_tries0 (G0 := G1) hZ ho i hn d hd (fun k hk => by rw [f1 103 (by decide)]; exact ht k hk) hm ?_ (i + 1) 0 (by omega) (by omega) G1 mS_refl v1
    intro G9 s9 v9
    refine ax_aload_n (i := 0) dX12_tries_40 rfl rfl ?_
    refine ax_cVv dX12_tries_41 lk_X12_262 (c_X12_even hZ) rfl (OKs hZ rfl) ⟨_, rfl, rfl⟩ rfl (Nat.le_of_ble_eq_true rfl) (Nat.le_of_ble_eq_true rfl) (Nat.le_of_ble_eq_true rfl) (Nat.le_of_ble_eq_true rfl) ?_
    refine ax_top (congrArg Value.int (evenB_congr (g := (toV W d i).gr) 4 (fun q hq => v9.2.2.2.1 q hq))) ?_
    refine ax_cSv dX12_tries_44 lk_X12_240 (c_bitCount (evenB (toV W d i).gr 4)) rfl rfl (Nat.le_of_ble_eq_true rfl) (Nat.le_of_ble_eq_true rfl) (Nat.le_of_ble_eq_true rfl) (Nat.le_of_ble_eq_true rfl) ?_
    refine ax_istore_n (i := 3) dX12_tries_47 rfl (by decide) rfl ?_
    refine ax_aload_n (i := 0) dX12_tries_48 rfl rfl ?_
    refine ax_cVv dX12_tries_49 lk_X12_265 (c_X12_allGrief hZ) rfl (OKs hZ rfl) ⟨_, rfl, rfl⟩ rfl (Nat.le_of_ble_eq_true rfl) (Nat.le_of_ble_eq_true rfl) (Nat.le_of_ble_eq_true rfl) (Nat.le_of_ble_eq_true rfl) ?_
    refine ax_top (congrArg Value.int (sumB_congr (g := (toV W d i).gr) 4 (fun q hq => v9.2.2.2.1 q hq))) ?_
    refine ax_istore dX12_tries_52 (by decide) rfl ?_
    refine ax_aload_n (i := 0) dX12_tries_54 rfl rfl ?_
    refine ax_aload_n (i := 0) dX12_tries_55 rfl rfl ?_
    refine ax_getR dX12_tries_56 fl_X12_91 rfl (OKs hZ rfl) (OKr hZ rfl) ?_
    refine ax_cVq0 dX12_tries_59 lk_X12_275 (k_againB hZ (Or.inr rfl) ho.1 hh (mS_iM s9 (by decide) i1)) rfl (OKs hZ rfl) ⟨_, rfl, rfl⟩ rfl (Nat.le_of_ble_eq_true rfl) (Nat.le_of_ble_eq_true rfl) (Nat.le_of_ble_eq_true rfl) (Nat.le_of_ble_eq_true rfl) ?_
    rintro _ G2 _ ⟨rfl, rfl, a'2, v2, h2⟩
    have a2 := mB_tr a1 (mB_tr (mS_mB s9) a'2)
    have t9 : ∀ k, k < i → G2 103 k = nI (d k) := fun k hk => by rw [a2.1 103 (by decide) (by decide) (by decide)]; exact ht k hk
    have b9 : bM G2 W i (brS W i (pv d i)) := bM_keep hb (a2.2 44 (by decide) (by decide) (by decide) (by decide) (by decide) (by decide)) (a2.2 45 (by decide) (by decide) (by decide) (by decide) (by decide) (by decide)) (a2.1 104 (by decide) (by decide) (by decide))
    have hdm : ∀ k, k < i → d k < W.m := fun k hk => (hd k hk).1
    refine ax_iload_n (i := 3) dX12_tries_62 rfl rfl ?_
    refine ax_aload_n (i := 0) dX12_tries_63 rfl rfl ?_
    refine ax_getI dX12_tries_64 fl_X12_278 rfl (OKs hZ rfl) ?_
    refine ax_icmp_lt (tgt := 87) dX12_tries_67 (by decide) (fun c_67 => ?_) (fun c_67 => ?_)
    · refine ax_vret dX12_tries_87 rfl (Nat.le_of_ble_eq_true rfl) (Nat.le_of_ble_eq_true rfl) ?_
      exact ⟨rfl, rfl, rfl, mB_mA a2, v2, h2, t9, by rw [Nat.pow_zero, Nat.mul_one]; exact bM_old b9 ho.1 hd ((bM_key b9 ho hm hn hdm).mpr (Or.inl c_67))⟩
    · refine ax_iload_n (i := 3) dX12_tries_70 rfl rfl ?_
      refine ax_aload_n (i := 0) dX12_tries_71 rfl rfl ?_
      refine ax_getI dX12_tries_72 fl_X12_278 rfl (OKs hZ rfl) ?_
      refine ax_icmp_ne (tgt := 88) dX12_tries_75 (by decide) (fun c_75 => ?_) (fun c_75 => ?_)
      · refine ax_aload_n (i := 0) dX12_tries_88 rfl rfl ?_
        refine ax_iload_n (i := 3) dX12_tries_89 rfl rfl ?_
        refine ax_putI dX12_tries_90 fl_X12_278 (Or.inl fp_X12_12_44) rfl rfl rfl (OKs hZ rfl) ?_
        refine ax_aload_n (i := 0) dX12_tries_93 rfl rfl ?_
        refine ax_iload dX12_tries_94 rfl ?_
        refine ax_putI dX12_tries_96 fl_X12_281 (Or.inl fp_X12_12_45) rfl rfl rfl (OKs hZ rfl) ?_
        refine ax_iconst (v := 0) dX12_tries_99 (by decide) ?_
        refine ax_istore dX12_tries_100 (by decide) rfl ?_
        refine ax_lv [(0, .ref 75), (2, .int (nI i)), (5, .int (nI 0))] ⟨rfl, rfl, rfl, trivial⟩ ?_
        refine l_triesC (G0 := (up2 (up2 G2 75 44 (bc (evenB (toV W d i).gr 4))) 75 45 (sumB (toV W d i).gr 4))) hZ i hn d (fun k hk => by rw [up2_k (by decide), up2_k (by decide)]; exact t9 k hk) ?_ (i + 1) 0 (by omega) (by omega) _ (fun _ _ => rfl) (fun k hk => absurd hk (Nat.not_lt_zero k))
        intro G8 f8 b8
        refine ax_vret dX12_tries_128 rfl (Nat.le_of_ble_eq_true rfl) (Nat.le_of_ble_eq_true rfl) ?_
        have g75 : ∀ j, j ≠ 44 → j ≠ 45 → G8 75 j = G2 75 j := fun j h1 h2 => by rw [f8 75 (by decide), up2_i h2, up2_i h1]
        have go : ∀ a, a ≠ 104 → a ≠ 75 → G8 a = G2 a := fun a h1 h2 => by rw [f8 a h1, up2_row h2, up2_row h2]
        refine ⟨rfl, rfl, rfl, mA_tr (mB_mA a2) ⟨fun a x y z => go a (by omega) (by omega), fun j _ _ _ _ _ _ h1 h2 => g75 j h1 h2⟩, vM_keep v2 (fun a x y => go a (by omega) (by omega)) (fun j hj => g75 j (by omega) (by omega)), hM_keep h2 (fun j hj => g75 j (by omega) (by omega)) (fun a x y => go a (by omega) (by omega)), fun k hk => by rw [go 103 (by decide) (by decide)]; exact t9 k hk, ?_⟩
        rw [Nat.pow_zero, Nat.mul_one]
        exact bM_new b9 ho.1 hd (mt (bM_key b9 ho hm hn hdm).mp (fun z => z.elim c_67 (fun y => c_75 y.1))) (by rw [f8 75 (by decide), up2_i (by decide), up2_s]) (by rw [f8 75 (by decide), up2_s]) b8
      · refine ax_iload dX12_tries_78 rfl ?_
        refine ax_aload_n (i := 0) dX12_tries_80 rfl rfl ?_
        refine ax_getI dX12_tries_81 fl_X12_281 rfl (OKs hZ rfl) ?_
        refine ax_icmp_lt (tgt := 88) dX12_tries_84 (by decide) (fun c_84 => ?_) (fun c_84 => ?_)
        · refine ax_aload_n (i := 0) dX12_tries_88 rfl rfl ?_
          refine ax_iload_n (i := 3) dX12_tries_89 rfl rfl ?_
          refine ax_putI dX12_tries_90 fl_X12_278 (Or.inl fp_X12_12_44) rfl rfl rfl (OKs hZ rfl) ?_
          refine ax_aload_n (i := 0) dX12_tries_93 rfl rfl ?_
          refine ax_iload dX12_tries_94 rfl ?_
          refine ax_putI dX12_tries_96 fl_X12_281 (Or.inl fp_X12_12_45) rfl rfl rfl (OKs hZ rfl) ?_
          refine ax_iconst (v := 0) dX12_tries_99 (by decide) ?_
          refine ax_istore dX12_tries_100 (by decide) rfl ?_
          refine ax_lv [(0, .ref 75), (2, .int (nI i)), (5, .int (nI 0))] ⟨rfl, rfl, rfl, trivial⟩ ?_
          refine l_triesC (G0 := (up2 (up2 G2 75 44 (bc (evenB (toV W d i).gr 4))) 75 45 (sumB (toV W d i).gr 4))) hZ i hn d (fun k hk => by rw [up2_k (by decide), up2_k (by decide)]; exact t9 k hk) ?_ (i + 1) 0 (by omega) (by omega) _ (fun _ _ => rfl) (fun k hk => absurd hk (Nat.not_lt_zero k))
          intro G8 f8 b8
          refine ax_vret dX12_tries_128 rfl (Nat.le_of_ble_eq_true rfl) (Nat.le_of_ble_eq_true rfl) ?_
          have g75 : ∀ j, j ≠ 44 → j ≠ 45 → G8 75 j = G2 75 j := fun j h1 h2 => by rw [f8 75 (by decide), up2_i h2, up2_i h1]
          have go : ∀ a, a ≠ 104 → a ≠ 75 → G8 a = G2 a := fun a h1 h2 => by rw [f8 a h1, up2_row h2, up2_row h2]
          refine ⟨rfl, rfl, rfl, mA_tr (mB_mA a2) ⟨fun a x y z => go a (by omega) (by omega), fun j _ _ _ _ _ _ h1 h2 => g75 j h1 h2⟩, vM_keep v2 (fun a x y => go a (by omega) (by omega)) (fun j hj => g75 j (by omega) (by omega)), hM_keep h2 (fun j hj => g75 j (by omega) (by omega)) (fun a x y => go a (by omega) (by omega)), fun k hk => by rw [go 103 (by decide) (by decide)]; exact t9 k hk, ?_⟩
          rw [Nat.pow_zero, Nat.mul_one]
          exact bM_new b9 ho.1 hd (mt (bM_key b9 ho hm hn hdm).mp (fun z => z.elim c_67 (fun y => Int32.not_lt.mpr y.2 c_84))) (by rw [f8 75 (by decide), up2_i (by decide), up2_s]) (by rw [f8 75 (by decide), up2_s]) b8
        · refine ax_vret dX12_tries_87 rfl (Nat.le_of_ble_eq_true rfl) (Nat.le_of_ble_eq_true rfl) ?_
          exact ⟨rfl, rfl, rfl, mB_mA a2, v2, h2, t9, by rw [Nat.pow_zero, Nat.mul_one]; exact bM_old b9 ho.1 hd ((bM_key b9 ho hm hn hdm).mpr (Or.inr ⟨c_75, Int32.not_lt.mp c_84⟩))⟩
def isF (W : Wv) (d : Nat → Nat) (p : Nat) : Nat → Int32
  | 0 => if W.C p 5 = 0 then 1 else 0
  | k + 1 => if d k = p then 0 else isF W d p k
theorem isF_1 {W : Wv} {d : Nat → Nat} {p : Nat} : ∀ i, ¬ isF W d p i = 0 ↔ (W.C p 5 = 0 ∧ ∀ j, j < i → d j ≠ p)
  | 0 => by
    unfold isF
    by_cases c : W.C p 5 = 0
    · rw [if_pos c]; exact ⟨fun _ => ⟨c, fun j hj => absurd hj (Nat.not_lt_zero j)⟩, fun _ => by decide⟩
    · rw [if_neg c]; exact ⟨fun z => absurd rfl z, fun z => absurd z.1 c⟩
  | i + 1 => by
    unfold isF
    by_cases c : d i = p
    · rw [if_pos c]; exact ⟨fun z => absurd rfl z, fun z => absurd c (z.2 i (by omega))⟩
    · rw [if_neg c, isF_1 i]
      refine ⟨fun z => ⟨z.1, fun j hj => ?_⟩, fun z => ⟨z.1, fun j hj => z.2 j (by omega)⟩⟩
      rcases Nat.lt_or_ge j i with q | q
      · exact z.2 j q
      · rw [show j = i by omega]; exact c
theorem rwV_up {W : Wv} {d : Nat → Nat} {i p : Nat} (h : rwV W d i) (hp : p < W.m) (hs : W.C p 5 = 0) (hj : ∀ j, j < i → d j ≠ p) : rwV W (up1 d i p) (i + 1) := by
  intro k hk
  rcases Nat.lt_or_ge k i with q | q
  · rw [up1_n (by omega)]
    refine ⟨(h k q).1, (h k q).2.1, fun j hj' => ?_⟩
    rw [up1_n (by omega)]; exact (h k q).2.2 j hj'
  · obtain rfl : k = i := by omega
    rw [up1_s]
    refine ⟨hp, hs, fun j hj' => ?_⟩
    rw [up1_n (by omega)]; exact hj j hj'
theorem pv_up {d : Nat → Nat} {i p : Nat} : pv (up1 d i p) (i + 1) = 6 * pv d i + p := by
  show 6 * pv (up1 d i p) i + up1 d i p i = _
  rw [up1_s, pv_cg i (fun k hk => up1_n (by omega))]
theorem div_in {x a e : Nat} (h1 : a * 6 ^ e ≤ x) (h2 : x < (a + 1) * 6 ^ e) : x / 6 ^ e = a := by
  have hp : 0 < 6 ^ e := Nat.pow_pos (by decide)
  apply Nat.eq_of_le_of_lt_succ
  · exact (Nat.le_div_iff_mul_le hp).mpr h1
  · exact (Nat.div_lt_iff_lt_mul hp).mpr h2
theorem l_triesK1 {Z : Zt} {G : Gt} {L : Lt} {Q : Qt} (hZ : OK Z) {W : Wv} (n i p : Nat) (hi : i ≤ 3) (hp : p < 6) (d : Nat → Nat) (hd6 : ∀ k, k < i → d k < 6) (ht : ∀ k, k < i → G 103 k = nI (d k)) (hend : AX none mX12_tries 7 0 0 0 0 184 [(0, .ref 75), (1, .int (nI i)), (2, .int (nI n)), (3, .int (nI p)), (4, .int (isF W d p i))] [] Z G L Q) : ∀ (r q : Nat), q ≤ i → i - q < r → AX none mX12_tries 7 0 0 0 0 158 [(0, .ref 75), (1, .int (nI i)), (2, .int (nI n)), (3, .int (nI p)), (4, .int (isF W d p q)), (5, .int (nI q))] [] Z G L Q := by
  intro r
  induction r with
  | zero => intro q h1 h2; omega
  | succ r ih =>
    intro q h1 h2
    have hd9 : q < i → d q < 6 := fun h => hd6 q h
    refine ax_iload dX12_tries_158 rfl ?_
    refine ax_iload_n (i := 1) dX12_tries_160 rfl rfl ?_
    refine ax_icmp_ge (tgt := 184) dX12_tries_161 (by decide) (fun c_161 => ?_) (fun c_161 => ?_)
    · obtain rfl : q = i := by have := (nI_leI (by omega) (by omega)).mp (show nI i ≤ nI q from c_161); omega
      exact ax_lv [(0, .ref 75), (1, .int (nI q)), (2, .int (nI n)), (3, .int (nI p)), (4, .int (isF W d p q))] ⟨rfl, rfl, rfl, rfl, rfl, trivial⟩ hend
    · have hqm : q < i := by have := mt (nI_leI (by omega) (by omega)).mpr (show ¬ nI i ≤ nI q from c_161); omega
      refine ax_aload_n (i := 0) dX12_tries_164 rfl rfl ?_
      refine ax_getR dX12_tries_165 fl_X12_94 rfl (OKs hZ rfl) (OKr hZ rfl) ?_
      refine ax_iload dX12_tries_168 rfl ?_
      refine ax_ialdN q dX12_tries_170 (OKs hZ rfl) rfl (by omega) (by decide) ?_
      refine ax_top (congrArg Value.int (ht q hqm)) ?_
      refine ax_iload_n (i := 3) dX12_tries_171 rfl rfl ?_
      refine ax_icmp_ne (tgt := 178) dX12_tries_172 (by decide) (fun c_172 => ?_) (fun c_172 => ?_)
      · refine ax_iinc (v := (nI q) + 1) dX12_tries_178 rfl rfl (by decide) rfl ?_
        refine ax_goto (tgt := 158) dX12_tries_181 (by decide) ?_
        refine ax_lv [(0, .ref 75), (1, .int (nI i)), (2, .int (nI n)), (3, .int (nI p)), (4, .int (isF W d p (q + 1))), (5, .int (nI (q + 1)))] ⟨rfl, rfl, rfl, rfl, sI (by rw [isF, if_neg (fun z => c_172 (congrArg nI z))]), sI (nI_1 q), trivial⟩ ?_
        exact ih (q + 1) (by omega) (by omega)
      · refine ax_iconst (v := 0) dX12_tries_175 (by decide) ?_
        refine ax_istore dX12_tries_176 (by decide) rfl ?_
        refine ax_iinc (v := (nI q) + 1) dX12_tries_178 rfl rfl (by decide) rfl ?_
        refine ax_goto (tgt := 158) dX12_tries_181 (by decide) ?_
        refine ax_lv [(0, .ref 75), (1, .int (nI i)), (2, .int (nI n)), (3, .int (nI p)), (4, .int (isF W d p (q + 1))), (5, .int (nI (q + 1)))] ⟨rfl, rfl, rfl, rfl, sI (by rw [isF, if_pos ((nI_eq (by omega) (by omega)).mp c_172)]), sI (nI_1 q), trivial⟩ ?_
        exact ih (q + 1) (by omega) (by omega)
theorem l_triesP1 {Z : Zt} {G0 : Gt} {L : Lt} {Q : Qt} {W : Wv} (hZ : OK Z) (ho : okW W) {H : Hv} (hh : okH W.m H) (n i : Nat) (hi : i + 1 = n) (hn : n ≤ 3) (d : Nat → Nat) (hd : rwV W d i) (hm : W.mm + 20 < 20000) (hend : ∀ G : Gt, mA G0 G → vM G W → hM G H → (∀ k, k < i → G 103 k = nI (d k)) → bM G W n (brS W n ((6 * pv d i + W.m) * 6 ^ 0)) → AX none mX12_tries 7 0 0 0 0 213 [] [] Z G L Q) : ∀ (r p : Nat), p ≤ W.m → W.m - p < r → ∀ G : Gt, mA G0 G → vM G W → hM G H → (∀ k, k < i → G 103 k = nI (d k)) → bM G W n (brS W n ((6 * pv d i + p) * 6 ^ 0)) → AX none mX12_tries 7 0 0 0 0 131 [(0, .ref 75), (1, .int (nI i)), (2, .int (nI n)), (3, .int (nI p))] [] Z G L Q := by
  have hm6 := ho.1
  intro r
  induction r with
  | zero => intro p h1 h2; omega
  | succ r ih =>
    intro p h1 h2 G hs9 hv9 hH9 ht9 hb9
    refine ax_iload_n (i := 3) dX12_tries_131 rfl rfl ?_
    refine ax_aload_n (i := 0) dX12_tries_132 rfl rfl ?_
    refine ax_getI dX12_tries_133 fl_X12_114 rfl (OKs hZ rfl) ?_
    refine ax_top (congrArg Value.int hv9.1) ?_
    refine ax_icmp_ge (tgt := 213) dX12_tries_136 (by decide) (fun c_136 => ?_) (fun c_136 => ?_)
    · obtain rfl : p = W.m := by have := (nI_leI (by omega) (by omega)).mp (show nI W.m ≤ nI p from c_136); omega
      exact ax_lv [] trivial (hend G hs9 hv9 hH9 ht9 hb9)
    · have hpm : p < W.m := by have := mt (nI_leI (by omega) (by omega)).mpr (show ¬ nI W.m ≤ nI p from c_136); omega
      have hp6 : p < 6 := by omega
      refine ax_aload_n (i := 0) dX12_tries_139 rfl rfl ?_
      refine ax_getR dX12_tries_140 fl_X12_33 rfl (OKs hZ rfl) (OKr hZ rfl) ?_
      refine ax_iload_n (i := 3) dX12_tries_143 rfl rfl ?_
      refine ax_ialdN p dX12_tries_144 (OKs hZ rfl) rfl hp6 (by decide) ?_
      refine ax_top (congrArg Value.int (show G 83 p = W.C p 5 from (hv9.2.2.1 p hpm).1 5 (by decide))) ?_
      refine ax_if_ne (tgt := 152) dX12_tries_145 (by decide) (fun c_145 => ?_) (fun c_145 => ?_)
      · refine ax_iconst (v := 0) dX12_tries_152 (by decide) ?_
        refine ax_istore dX12_tries_153 (by decide) rfl ?_
        refine ax_iconst (v := 0) dX12_tries_155 (by decide) ?_
        refine ax_istore dX12_tries_156 (by decide) rfl ?_
        refine ax_lv [(0, .ref 75), (1, .int (nI i)), (2, .int (nI n)), (3, .int (nI p)), (4, .int (isF W d p 0)), (5, .int (nI 0))] ⟨rfl, rfl, rfl, rfl, sI (by rw [isF, if_neg c_145]), rfl, trivial⟩ ?_
        refine l_triesK1 hZ n i p (by omega) hp6 d (fun k hk => by have := (hd k hk).1; omega) ht9 ?_ (i + 1) 0 (by omega) (by omega)
        refine ax_iload dX12_tries_184 rfl ?_
        refine ax_if_ne (tgt := 192) dX12_tries_186 (by decide) (fun c_186 => ?_) (fun c_186 => ?_)
        · refine ax_aload_n (i := 0) dX12_tries_192 rfl rfl ?_
          refine ax_getR dX12_tries_193 fl_X12_94 rfl (OKs hZ rfl) (OKr hZ rfl) ?_
          refine ax_iload_n (i := 1) dX12_tries_196 rfl rfl ?_
          refine ax_iload_n (i := 3) dX12_tries_197 rfl rfl ?_
          refine ax_iastN i dX12_tries_198 (OKs hZ rfl) rfl (show i < 3 by omega) (by decide) ?_
          obtain ⟨is1, is2⟩ := (isF_1 i).mp c_186
          have rv := rwV_up hd hpm is1 is2
          have vs : vM (up2 G 103 i (nI p)) W := vM_keep hv9 (fun a x y => up2_row (by omega)) (fun j _ => up2_k (by decide))
          have hs : hM (up2 G 103 i (nI p)) H := hM_keep hH9 (fun j _ => up2_k (by decide)) (fun a x y => up2_row (by omega))
          have ts : ∀ k, k < i + 1 → up2 G 103 i (nI p) 103 k = nI (up1 d i p k) := fun k hk => if e : k = i then by rw [e, up2_s, up1_s] else by rw [up2_i e, up1_n e]; exact ht9 k (by omega)
          have bs := bM_keep (G' := up2 G 103 i (nI p)) hb9 (up2_k (by decide)) (up2_k (by decide)) (up2_row (by decide))
          rw [← pv_up (d := d) (i := i) (p := p), Nat.pow_zero, Nat.mul_one] at bs
          obtain rfl : n = i + 1 := by omega
          refine ax_aload_n (i := 0) dX12_tries_199 rfl rfl ?_
          refine ax_iload_n (i := 1) dX12_tries_200 rfl rfl ?_
          refine ax_iconst (v := 1) dX12_tries_201 (by decide) ?_
          refine ax_iadd dX12_tries_202 ?_
          refine ax_top (congrArg Value.int (nI_1 i)) ?_
          refine ax_iload_n (i := 2) dX12_tries_203 rfl rfl ?_
          refine ax_cVq0 dX12_tries_204 lk_X12_284 (k_tries0 hZ vs ho hs hh (i + 1) (by omega) (up1 d i p) rv ts hm bs) rfl (OKs hZ rfl) ⟨_, rfl, rfl⟩ rfl (Nat.le_of_ble_eq_true rfl) (Nat.le_of_ble_eq_true rfl) (Nat.le_of_ble_eq_true rfl) (Nat.le_of_ble_eq_true rfl) ?_
          rintro _ G1 _ ⟨rfl, rfl, a1, v1, h1, t1, b1⟩
          refine ax_iinc (v := (nI p) + 1) dX12_tries_207 rfl rfl (by decide) rfl ?_
          refine ax_goto (tgt := 131) dX12_tries_210 (by decide) ?_
          refine ax_lv [(0, .ref 75), (1, .int (nI i)), (2, .int (nI (i + 1))), (3, .int (nI (p + 1)))] ⟨rfl, rfl, rfl, sI (nI_1 p), trivial⟩ ?_
          refine ih (p + 1) (by omega) (by omega) _ (mA_tr hs9 (mA_tr ⟨fun a x y z => up2_row (by omega), fun j _ _ _ _ _ _ _ _ => up2_k (by decide)⟩ a1)) v1 h1 (fun k hk => by rw [t1 k (by omega), up1_n (by omega)]) ?_
          rw [pv_up] at b1
          exact b1
        · refine ax_goto (tgt := 207) dX12_tries_189 (by decide) ?_
          refine ax_iinc (v := (nI p) + 1) dX12_tries_207 rfl rfl (by decide) rfl ?_
          refine ax_goto (tgt := 131) dX12_tries_210 (by decide) ?_
          refine ax_lv [(0, .ref 75), (1, .int (nI i)), (2, .int (nI n)), (3, .int (nI (p + 1)))] ⟨rfl, rfl, rfl, sI (nI_1 p), trivial⟩ ?_
          refine ih (p + 1) (by omega) (by omega) G hs9 hv9 hH9 ht9 ?_
          rw [brS_to (a := (6 * pv d i + p) * 6 ^ 0) (Nat.mul_le_mul_right _ (by omega)) (fun x h1 h2 => ?_)]
          · exact hb9
          · have hx := div_in h1 (show x < (6 * pv d i + p + 1) * 6 ^ 0 from h2)
            refine cn_no hm6 (show i + 1 + 0 = n by omega) hd (by rw [hx]; omega) (fun z => ?_)
            rw [hx, show (6 * pv d i + p) % 6 = p by omega] at z
            exact (isF_1 i).mpr z.2 c_186
      · refine ax_iconst (v := 1) dX12_tries_148 (by decide) ?_
        refine ax_goto (tgt := 153) dX12_tries_149 (by decide) ?_
        refine ax_istore dX12_tries_153 (by decide) rfl ?_
        refine ax_iconst (v := 0) dX12_tries_155 (by decide) ?_
        refine ax_istore dX12_tries_156 (by decide) rfl ?_
        refine ax_lv [(0, .ref 75), (1, .int (nI i)), (2, .int (nI n)), (3, .int (nI p)), (4, .int (isF W d p 0)), (5, .int (nI 0))] ⟨rfl, rfl, rfl, rfl, sI (by rw [isF, if_pos c_145]), rfl, trivial⟩ ?_
        refine l_triesK1 hZ n i p (by omega) hp6 d (fun k hk => by have := (hd k hk).1; omega) ht9 ?_ (i + 1) 0 (by omega) (by omega)
        refine ax_iload dX12_tries_184 rfl ?_
        refine ax_if_ne (tgt := 192) dX12_tries_186 (by decide) (fun c_186 => ?_) (fun c_186 => ?_)
        · refine ax_aload_n (i := 0) dX12_tries_192 rfl rfl ?_
          refine ax_getR dX12_tries_193 fl_X12_94 rfl (OKs hZ rfl) (OKr hZ rfl) ?_
          refine ax_iload_n (i := 1) dX12_tries_196 rfl rfl ?_
          refine ax_iload_n (i := 3) dX12_tries_197 rfl rfl ?_
          refine ax_iastN i dX12_tries_198 (OKs hZ rfl) rfl (show i < 3 by omega) (by decide) ?_
          obtain ⟨is1, is2⟩ := (isF_1 i).mp c_186
          have rv := rwV_up hd hpm is1 is2
          have vs : vM (up2 G 103 i (nI p)) W := vM_keep hv9 (fun a x y => up2_row (by omega)) (fun j _ => up2_k (by decide))
          have hs : hM (up2 G 103 i (nI p)) H := hM_keep hH9 (fun j _ => up2_k (by decide)) (fun a x y => up2_row (by omega))
          have ts : ∀ k, k < i + 1 → up2 G 103 i (nI p) 103 k = nI (up1 d i p k) := fun k hk => if e : k = i then by rw [e, up2_s, up1_s] else by rw [up2_i e, up1_n e]; exact ht9 k (by omega)
          have bs := bM_keep (G' := up2 G 103 i (nI p)) hb9 (up2_k (by decide)) (up2_k (by decide)) (up2_row (by decide))
          rw [← pv_up (d := d) (i := i) (p := p), Nat.pow_zero, Nat.mul_one] at bs
          obtain rfl : n = i + 1 := by omega
          refine ax_aload_n (i := 0) dX12_tries_199 rfl rfl ?_
          refine ax_iload_n (i := 1) dX12_tries_200 rfl rfl ?_
          refine ax_iconst (v := 1) dX12_tries_201 (by decide) ?_
          refine ax_iadd dX12_tries_202 ?_
          refine ax_top (congrArg Value.int (nI_1 i)) ?_
          refine ax_iload_n (i := 2) dX12_tries_203 rfl rfl ?_
          refine ax_cVq0 dX12_tries_204 lk_X12_284 (k_tries0 hZ vs ho hs hh (i + 1) (by omega) (up1 d i p) rv ts hm bs) rfl (OKs hZ rfl) ⟨_, rfl, rfl⟩ rfl (Nat.le_of_ble_eq_true rfl) (Nat.le_of_ble_eq_true rfl) (Nat.le_of_ble_eq_true rfl) (Nat.le_of_ble_eq_true rfl) ?_
          rintro _ G1 _ ⟨rfl, rfl, a1, v1, h1, t1, b1⟩
          refine ax_iinc (v := (nI p) + 1) dX12_tries_207 rfl rfl (by decide) rfl ?_
          refine ax_goto (tgt := 131) dX12_tries_210 (by decide) ?_
          refine ax_lv [(0, .ref 75), (1, .int (nI i)), (2, .int (nI (i + 1))), (3, .int (nI (p + 1)))] ⟨rfl, rfl, rfl, sI (nI_1 p), trivial⟩ ?_
          refine ih (p + 1) (by omega) (by omega) _ (mA_tr hs9 (mA_tr ⟨fun a x y z => up2_row (by omega), fun j _ _ _ _ _ _ _ _ => up2_k (by decide)⟩ a1)) v1 h1 (fun k hk => by rw [t1 k (by omega), up1_n (by omega)]) ?_
          rw [pv_up] at b1
          exact b1
        · refine ax_goto (tgt := 207) dX12_tries_189 (by decide) ?_
          refine ax_iinc (v := (nI p) + 1) dX12_tries_207 rfl rfl (by decide) rfl ?_
          refine ax_goto (tgt := 131) dX12_tries_210 (by decide) ?_
          refine ax_lv [(0, .ref 75), (1, .int (nI i)), (2, .int (nI n)), (3, .int (nI (p + 1)))] ⟨rfl, rfl, rfl, sI (nI_1 p), trivial⟩ ?_
          refine ih (p + 1) (by omega) (by omega) G hs9 hv9 hH9 ht9 ?_
          rw [brS_to (a := (6 * pv d i + p) * 6 ^ 0) (Nat.mul_le_mul_right _ (by omega)) (fun x h1 h2 => ?_)]
          · exact hb9
          · have hx := div_in h1 (show x < (6 * pv d i + p + 1) * 6 ^ 0 from h2)
            refine cn_no hm6 (show i + 1 + 0 = n by omega) hd (by rw [hx]; omega) (fun z => ?_)
            rw [hx, show (6 * pv d i + p) % 6 = p by omega] at z
            exact (isF_1 i).mpr z.2 c_186
theorem k_tries1 {Z : Zt} {G : Gt} {L : Lt} {W : Wv} (hZ : OK Z) (hv : vM G W) (ho : okW W) {H : Hv} (hH : hM G H) (hh : okH W.m H) (n i : Nat) (hi : i + 1 = n) (hn : n ≤ 3) (d : Nat → Nat) (hd : rwV W d i) (ht : ∀ k, k < i → G 103 k = nI (d k)) (hm : W.mm + 20 < 20000) (hb : bM G W n (brS W n (pv d i * 6 ^ 1))) : AC mX12_tries 7 0 0 [.ref 75, .int (nI i), .int (nI n)] Z G L (NP (TQ Z G L W H n i d ((pv d i + 1) * 6 ^ 1))) := by
  have hm6 := ho.1
  refine AC.intro (by decide +kernel) (Nat.le_of_ble_eq_true rfl) ?_
  refine ax_lv [(0, .ref 75), (1, .int (nI i)), (2, .int (nI n))] ⟨rfl, rfl, rfl, trivial⟩ ?_
  refine ax_iload_n (i := 1) dX12_tries_0 rfl rfl ?_
  refine ax_iload_n (i := 2) dX12_tries_1 rfl rfl ?_
  refine ax_icmp_ne (tgt := 129) dX12_tries_2 (by decide) (fun c_2 => ?_) (fun c_2 => ?_)
  · refine ax_iconst (v := 0) dX12_tries_129 (by decide) ?_
    refine ax_istore_n (i := 3) dX12_tries_130 rfl (by decide) rfl ?_
    refine ax_lv [(0, .ref 75), (1, .int (nI i)), (2, .int (nI n)), (3, .int (nI 0))] ⟨rfl, rfl, rfl, rfl, trivial⟩ ?_
    refine l_triesP1 (G0 := G) hZ ho hh n i hi hn d hd hm ?_ (W.m + 1) 0 (by omega) (by omega) G mA_refl hv hH ht (by rw [Nat.add_zero, show 6 * pv d i * 6 ^ 0 = pv d i * 6 ^ 1 by show 6 * pv d i * 1 = pv d i * 6; omega]; exact hb)
    intro G9 s9 v9 h9 t9 b9
    refine ax_vret dX12_tries_213 rfl (Nat.le_of_ble_eq_true rfl) (Nat.le_of_ble_eq_true rfl) ?_
    refine ⟨rfl, rfl, rfl, s9, v9, h9, t9, ?_⟩
    rw [show (pv d i + 1) * 6 ^ 1 = (6 * pv d i + 6) * 6 ^ 0 by show (pv d i + 1) * 6 = (6 * pv d i + 6) * 1; omega]
    rw [brS_to (a := (6 * pv d i + W.m) * 6 ^ 0) (Nat.mul_le_mul_right _ (by omega)) (fun x h1 h2 => ?_)]
    · exact b9
    · have hp : 0 < 6 ^ 0 := by decide
      have hx1 : 6 * pv d i + W.m ≤ x / 6 ^ 0 := (Nat.le_div_iff_mul_le hp).mpr h1
      have hx2 : x / 6 ^ 0 < 6 * pv d i + 6 := (Nat.div_lt_iff_lt_mul hp).mpr h2
      exact cn_no hm6 (show i + 1 + 0 = n by omega) hd (by omega) (fun z => by have := z.1; omega)
  · exact absurd ((nI_eq (by omega) (by omega)).mp c_2) (by omega)
theorem l_triesK2 {Z : Zt} {G : Gt} {L : Lt} {Q : Qt} (hZ : OK Z) {W : Wv} (n i p : Nat) (hi : i ≤ 3) (hp : p < 6) (d : Nat → Nat) (hd6 : ∀ k, k < i → d k < 6) (ht : ∀ k, k < i → G 103 k = nI (d k)) (hend : AX none mX12_tries 8 0 0 0 0 184 [(0, .ref 75), (1, .int (nI i)), (2, .int (nI n)), (3, .int (nI p)), (4, .int (isF W d p i))] [] Z G L Q) : ∀ (r q : Nat), q ≤ i → i - q < r → AX none mX12_tries 8 0 0 0 0 158 [(0, .ref 75), (1, .int (nI i)), (2, .int (nI n)), (3, .int (nI p)), (4, .int (isF W d p q)), (5, .int (nI q))] [] Z G L Q := by
  intro r
  induction r with
  | zero => intro q h1 h2; omega
  | succ r ih =>
    intro q h1 h2
    have hd9 : q < i → d q < 6 := fun h => hd6 q h
    refine ax_iload dX12_tries_158 rfl ?_
    refine ax_iload_n (i := 1) dX12_tries_160 rfl rfl ?_
    refine ax_icmp_ge (tgt := 184) dX12_tries_161 (by decide) (fun c_161 => ?_) (fun c_161 => ?_)
    · obtain rfl : q = i := by have := (nI_leI (by omega) (by omega)).mp (show nI i ≤ nI q from c_161); omega
      exact ax_lv [(0, .ref 75), (1, .int (nI q)), (2, .int (nI n)), (3, .int (nI p)), (4, .int (isF W d p q))] ⟨rfl, rfl, rfl, rfl, rfl, trivial⟩ hend
    · have hqm : q < i := by have := mt (nI_leI (by omega) (by omega)).mpr (show ¬ nI i ≤ nI q from c_161); omega
      refine ax_aload_n (i := 0) dX12_tries_164 rfl rfl ?_
      refine ax_getR dX12_tries_165 fl_X12_94 rfl (OKs hZ rfl) (OKr hZ rfl) ?_
      refine ax_iload dX12_tries_168 rfl ?_
      refine ax_ialdN q dX12_tries_170 (OKs hZ rfl) rfl (by omega) (by decide) ?_
      refine ax_top (congrArg Value.int (ht q hqm)) ?_
      refine ax_iload_n (i := 3) dX12_tries_171 rfl rfl ?_
      refine ax_icmp_ne (tgt := 178) dX12_tries_172 (by decide) (fun c_172 => ?_) (fun c_172 => ?_)
      · refine ax_iinc (v := (nI q) + 1) dX12_tries_178 rfl rfl (by decide) rfl ?_
        refine ax_goto (tgt := 158) dX12_tries_181 (by decide) ?_
        refine ax_lv [(0, .ref 75), (1, .int (nI i)), (2, .int (nI n)), (3, .int (nI p)), (4, .int (isF W d p (q + 1))), (5, .int (nI (q + 1)))] ⟨rfl, rfl, rfl, rfl, sI (by rw [isF, if_neg (fun z => c_172 (congrArg nI z))]), sI (nI_1 q), trivial⟩ ?_
        exact ih (q + 1) (by omega) (by omega)
      · refine ax_iconst (v := 0) dX12_tries_175 (by decide) ?_
        refine ax_istore dX12_tries_176 (by decide) rfl ?_
        refine ax_iinc (v := (nI q) + 1) dX12_tries_178 rfl rfl (by decide) rfl ?_
        refine ax_goto (tgt := 158) dX12_tries_181 (by decide) ?_
        refine ax_lv [(0, .ref 75), (1, .int (nI i)), (2, .int (nI n)), (3, .int (nI p)), (4, .int (isF W d p (q + 1))), (5, .int (nI (q + 1)))] ⟨rfl, rfl, rfl, rfl, sI (by rw [isF, if_pos ((nI_eq (by omega) (by omega)).mp c_172)]), sI (nI_1 q), trivial⟩ ?_
        exact ih (q + 1) (by omega) (by omega)
theorem l_triesP2 {Z : Zt} {G0 : Gt} {L : Lt} {Q : Qt} {W : Wv} (hZ : OK Z) (ho : okW W) {H : Hv} (hh : okH W.m H) (n i : Nat) (hi : i + 2 = n) (hn : n ≤ 3) (d : Nat → Nat) (hd : rwV W d i) (hm : W.mm + 20 < 20000) (hend : ∀ G : Gt, mA G0 G → vM G W → hM G H → (∀ k, k < i → G 103 k = nI (d k)) → bM G W n (brS W n ((6 * pv d i + W.m) * 6 ^ 1)) → AX none mX12_tries 8 0 0 0 0 213 [] [] Z G L Q) : ∀ (r p : Nat), p ≤ W.m → W.m - p < r → ∀ G : Gt, mA G0 G → vM G W → hM G H → (∀ k, k < i → G 103 k = nI (d k)) → bM G W n (brS W n ((6 * pv d i + p) * 6 ^ 1)) → AX none mX12_tries 8 0 0 0 0 131 [(0, .ref 75), (1, .int (nI i)), (2, .int (nI n)), (3, .int (nI p))] [] Z G L Q := by
  have hm6 := ho.1
  intro r
  induction r with
  | zero => intro p h1 h2; omega
  | succ r ih =>
    intro p h1 h2 G hs9 hv9 hH9 ht9 hb9
    refine ax_iload_n (i := 3) dX12_tries_131 rfl rfl ?_
    refine ax_aload_n (i := 0) dX12_tries_132 rfl rfl ?_
    refine ax_getI dX12_tries_133 fl_X12_114 rfl (OKs hZ rfl) ?_
    refine ax_top (congrArg Value.int hv9.1) ?_
    refine ax_icmp_ge (tgt := 213) dX12_tries_136 (by decide) (fun c_136 => ?_) (fun c_136 => ?_)
    · obtain rfl : p = W.m := by have := (nI_leI (by omega) (by omega)).mp (show nI W.m ≤ nI p from c_136); omega
      exact ax_lv [] trivial (hend G hs9 hv9 hH9 ht9 hb9)
    · have hpm : p < W.m := by have := mt (nI_leI (by omega) (by omega)).mpr (show ¬ nI W.m ≤ nI p from c_136); omega
      have hp6 : p < 6 := by omega
      refine ax_aload_n (i := 0) dX12_tries_139 rfl rfl ?_
      refine ax_getR dX12_tries_140 fl_X12_33 rfl (OKs hZ rfl) (OKr hZ rfl) ?_
      refine ax_iload_n (i := 3) dX12_tries_143 rfl rfl ?_
      refine ax_ialdN p dX12_tries_144 (OKs hZ rfl) rfl hp6 (by decide) ?_
      refine ax_top (congrArg Value.int (show G 83 p = W.C p 5 from (hv9.2.2.1 p hpm).1 5 (by decide))) ?_
      refine ax_if_ne (tgt := 152) dX12_tries_145 (by decide) (fun c_145 => ?_) (fun c_145 => ?_)
      · refine ax_iconst (v := 0) dX12_tries_152 (by decide) ?_
        refine ax_istore dX12_tries_153 (by decide) rfl ?_
        refine ax_iconst (v := 0) dX12_tries_155 (by decide) ?_
        refine ax_istore dX12_tries_156 (by decide) rfl ?_
        refine ax_lv [(0, .ref 75), (1, .int (nI i)), (2, .int (nI n)), (3, .int (nI p)), (4, .int (isF W d p 0)), (5, .int (nI 0))] ⟨rfl, rfl, rfl, rfl, sI (by rw [isF, if_neg c_145]), rfl, trivial⟩ ?_
        refine l_triesK2 hZ n i p (by omega) hp6 d (fun k hk => by have := (hd k hk).1; omega) ht9 ?_ (i + 1) 0 (by omega) (by omega)
        refine ax_iload dX12_tries_184 rfl ?_
        refine ax_if_ne (tgt := 192) dX12_tries_186 (by decide) (fun c_186 => ?_) (fun c_186 => ?_)
        · refine ax_aload_n (i := 0) dX12_tries_192 rfl rfl ?_
          refine ax_getR dX12_tries_193 fl_X12_94 rfl (OKs hZ rfl) (OKr hZ rfl) ?_
          refine ax_iload_n (i := 1) dX12_tries_196 rfl rfl ?_
          refine ax_iload_n (i := 3) dX12_tries_197 rfl rfl ?_
          refine ax_iastN i dX12_tries_198 (OKs hZ rfl) rfl (show i < 3 by omega) (by decide) ?_
          obtain ⟨is1, is2⟩ := (isF_1 i).mp c_186
          have rv := rwV_up hd hpm is1 is2
          have vs : vM (up2 G 103 i (nI p)) W := vM_keep hv9 (fun a x y => up2_row (by omega)) (fun j _ => up2_k (by decide))
          have hs : hM (up2 G 103 i (nI p)) H := hM_keep hH9 (fun j _ => up2_k (by decide)) (fun a x y => up2_row (by omega))
          have ts : ∀ k, k < i + 1 → up2 G 103 i (nI p) 103 k = nI (up1 d i p k) := fun k hk => if e : k = i then by rw [e, up2_s, up1_s] else by rw [up2_i e, up1_n e]; exact ht9 k (by omega)
          have bs := bM_keep (G' := up2 G 103 i (nI p)) hb9 (up2_k (by decide)) (up2_k (by decide)) (up2_row (by decide))
          rw [← pv_up (d := d) (i := i) (p := p)] at bs
          refine ax_aload_n (i := 0) dX12_tries_199 rfl rfl ?_
          refine ax_iload_n (i := 1) dX12_tries_200 rfl rfl ?_
          refine ax_iconst (v := 1) dX12_tries_201 (by decide) ?_
          refine ax_iadd dX12_tries_202 ?_
          refine ax_top (congrArg Value.int (nI_1 i)) ?_
          refine ax_iload_n (i := 2) dX12_tries_203 rfl rfl ?_
          refine ax_cVq0 dX12_tries_204 lk_X12_284 (k_tries1 hZ vs ho hs hh n (i + 1) (by omega) hn (up1 d i p) rv ts hm bs) rfl (OKs hZ rfl) ⟨_, rfl, rfl⟩ rfl (Nat.le_of_ble_eq_true rfl) (Nat.le_of_ble_eq_true rfl) (Nat.le_of_ble_eq_true rfl) (Nat.le_of_ble_eq_true rfl) ?_
          rintro _ G1 _ ⟨rfl, rfl, a1, v1, h1, t1, b1⟩
          refine ax_iinc (v := (nI p) + 1) dX12_tries_207 rfl rfl (by decide) rfl ?_
          refine ax_goto (tgt := 131) dX12_tries_210 (by decide) ?_
          refine ax_lv [(0, .ref 75), (1, .int (nI i)), (2, .int (nI n)), (3, .int (nI (p + 1)))] ⟨rfl, rfl, rfl, sI (nI_1 p), trivial⟩ ?_
          refine ih (p + 1) (by omega) (by omega) _ (mA_tr hs9 (mA_tr ⟨fun a x y z => up2_row (by omega), fun j _ _ _ _ _ _ _ _ => up2_k (by decide)⟩ a1)) v1 h1 (fun k hk => by rw [t1 k (by omega), up1_n (by omega)]) ?_
          rw [pv_up] at b1
          exact b1
        · refine ax_goto (tgt := 207) dX12_tries_189 (by decide) ?_
          refine ax_iinc (v := (nI p) + 1) dX12_tries_207 rfl rfl (by decide) rfl ?_
          refine ax_goto (tgt := 131) dX12_tries_210 (by decide) ?_
          refine ax_lv [(0, .ref 75), (1, .int (nI i)), (2, .int (nI n)), (3, .int (nI (p + 1)))] ⟨rfl, rfl, rfl, sI (nI_1 p), trivial⟩ ?_
          refine ih (p + 1) (by omega) (by omega) G hs9 hv9 hH9 ht9 ?_
          rw [brS_to (a := (6 * pv d i + p) * 6 ^ 1) (Nat.mul_le_mul_right _ (by omega)) (fun x h1 h2 => ?_)]
          · exact hb9
          · have hx := div_in h1 (show x < (6 * pv d i + p + 1) * 6 ^ 1 from h2)
            refine cn_no hm6 (show i + 1 + 1 = n by omega) hd (by rw [hx]; omega) (fun z => ?_)
            rw [hx, show (6 * pv d i + p) % 6 = p by omega] at z
            exact (isF_1 i).mpr z.2 c_186
      · refine ax_iconst (v := 1) dX12_tries_148 (by decide) ?_
        refine ax_goto (tgt := 153) dX12_tries_149 (by decide) ?_
        refine ax_istore dX12_tries_153 (by decide) rfl ?_
        refine ax_iconst (v := 0) dX12_tries_155 (by decide) ?_
        refine ax_istore dX12_tries_156 (by decide) rfl ?_
        refine ax_lv [(0, .ref 75), (1, .int (nI i)), (2, .int (nI n)), (3, .int (nI p)), (4, .int (isF W d p 0)), (5, .int (nI 0))] ⟨rfl, rfl, rfl, rfl, sI (by rw [isF, if_pos c_145]), rfl, trivial⟩ ?_
        refine l_triesK2 hZ n i p (by omega) hp6 d (fun k hk => by have := (hd k hk).1; omega) ht9 ?_ (i + 1) 0 (by omega) (by omega)
        refine ax_iload dX12_tries_184 rfl ?_
        refine ax_if_ne (tgt := 192) dX12_tries_186 (by decide) (fun c_186 => ?_) (fun c_186 => ?_)
        · refine ax_aload_n (i := 0) dX12_tries_192 rfl rfl ?_
          refine ax_getR dX12_tries_193 fl_X12_94 rfl (OKs hZ rfl) (OKr hZ rfl) ?_
          refine ax_iload_n (i := 1) dX12_tries_196 rfl rfl ?_
          refine ax_iload_n (i := 3) dX12_tries_197 rfl rfl ?_
          refine ax_iastN i dX12_tries_198 (OKs hZ rfl) rfl (show i < 3 by omega) (by decide) ?_
          obtain ⟨is1, is2⟩ := (isF_1 i).mp c_186
          have rv := rwV_up hd hpm is1 is2
          have vs : vM (up2 G 103 i (nI p)) W := vM_keep hv9 (fun a x y => up2_row (by omega)) (fun j _ => up2_k (by decide))
          have hs : hM (up2 G 103 i (nI p)) H := hM_keep hH9 (fun j _ => up2_k (by decide)) (fun a x y => up2_row (by omega))
          have ts : ∀ k, k < i + 1 → up2 G 103 i (nI p) 103 k = nI (up1 d i p k) := fun k hk => if e : k = i then by rw [e, up2_s, up1_s] else by rw [up2_i e, up1_n e]; exact ht9 k (by omega)
          have bs := bM_keep (G' := up2 G 103 i (nI p)) hb9 (up2_k (by decide)) (up2_k (by decide)) (up2_row (by decide))
          rw [← pv_up (d := d) (i := i) (p := p)] at bs
          refine ax_aload_n (i := 0) dX12_tries_199 rfl rfl ?_
          refine ax_iload_n (i := 1) dX12_tries_200 rfl rfl ?_
          refine ax_iconst (v := 1) dX12_tries_201 (by decide) ?_
          refine ax_iadd dX12_tries_202 ?_
          refine ax_top (congrArg Value.int (nI_1 i)) ?_
          refine ax_iload_n (i := 2) dX12_tries_203 rfl rfl ?_
          refine ax_cVq0 dX12_tries_204 lk_X12_284 (k_tries1 hZ vs ho hs hh n (i + 1) (by omega) hn (up1 d i p) rv ts hm bs) rfl (OKs hZ rfl) ⟨_, rfl, rfl⟩ rfl (Nat.le_of_ble_eq_true rfl) (Nat.le_of_ble_eq_true rfl) (Nat.le_of_ble_eq_true rfl) (Nat.le_of_ble_eq_true rfl) ?_
          rintro _ G1 _ ⟨rfl, rfl, a1, v1, h1, t1, b1⟩
          refine ax_iinc (v := (nI p) + 1) dX12_tries_207 rfl rfl (by decide) rfl ?_
          refine ax_goto (tgt := 131) dX12_tries_210 (by decide) ?_
          refine ax_lv [(0, .ref 75), (1, .int (nI i)), (2, .int (nI n)), (3, .int (nI (p + 1)))] ⟨rfl, rfl, rfl, sI (nI_1 p), trivial⟩ ?_
          refine ih (p + 1) (by omega) (by omega) _ (mA_tr hs9 (mA_tr ⟨fun a x y z => up2_row (by omega), fun j _ _ _ _ _ _ _ _ => up2_k (by decide)⟩ a1)) v1 h1 (fun k hk => by rw [t1 k (by omega), up1_n (by omega)]) ?_
          rw [pv_up] at b1
          exact b1
        · refine ax_goto (tgt := 207) dX12_tries_189 (by decide) ?_
          refine ax_iinc (v := (nI p) + 1) dX12_tries_207 rfl rfl (by decide) rfl ?_
          refine ax_goto (tgt := 131) dX12_tries_210 (by decide) ?_
          refine ax_lv [(0, .ref 75), (1, .int (nI i)), (2, .int (nI n)), (3, .int (nI (p + 1)))] ⟨rfl, rfl, rfl, sI (nI_1 p), trivial⟩ ?_
          refine ih (p + 1) (by omega) (by omega) G hs9 hv9 hH9 ht9 ?_
          rw [brS_to (a := (6 * pv d i + p) * 6 ^ 1) (Nat.mul_le_mul_right _ (by omega)) (fun x h1 h2 => ?_)]
          · exact hb9
          · have hx := div_in h1 (show x < (6 * pv d i + p + 1) * 6 ^ 1 from h2)
            refine cn_no hm6 (show i + 1 + 1 = n by omega) hd (by rw [hx]; omega) (fun z => ?_)
            rw [hx, show (6 * pv d i + p) % 6 = p by omega] at z
            exact (isF_1 i).mpr z.2 c_186
theorem k_tries2 {Z : Zt} {G : Gt} {L : Lt} {W : Wv} (hZ : OK Z) (hv : vM G W) (ho : okW W) {H : Hv} (hH : hM G H) (hh : okH W.m H) (n i : Nat) (hi : i + 2 = n) (hn : n ≤ 3) (d : Nat → Nat) (hd : rwV W d i) (ht : ∀ k, k < i → G 103 k = nI (d k)) (hm : W.mm + 20 < 20000) (hb : bM G W n (brS W n (pv d i * 6 ^ 2))) : AC mX12_tries 8 0 0 [.ref 75, .int (nI i), .int (nI n)] Z G L (NP (TQ Z G L W H n i d ((pv d i + 1) * 6 ^ 2))) := by
  have hm6 := ho.1
  refine AC.intro (by decide +kernel) (Nat.le_of_ble_eq_true rfl) ?_
  refine ax_lv [(0, .ref 75), (1, .int (nI i)), (2, .int (nI n))] ⟨rfl, rfl, rfl, trivial⟩ ?_
  refine ax_iload_n (i := 1) dX12_tries_0 rfl rfl ?_
  refine ax_iload_n (i := 2) dX12_tries_1 rfl rfl ?_
  refine ax_icmp_ne (tgt := 129) dX12_tries_2 (by decide) (fun c_2 => ?_) (fun c_2 => ?_)
  · refine ax_iconst (v := 0) dX12_tries_129 (by decide) ?_
    refine ax_istore_n (i := 3) dX12_tries_130 rfl (by decide) rfl ?_
    refine ax_lv [(0, .ref 75), (1, .int (nI i)), (2, .int (nI n)), (3, .int (nI 0))] ⟨rfl, rfl, rfl, rfl, trivial⟩ ?_
    refine l_triesP2 (G0 := G) hZ ho hh n i hi hn d hd hm ?_ (W.m + 1) 0 (by omega) (by omega) G mA_refl hv hH ht (by rw [Nat.add_zero, show 6 * pv d i * 6 ^ 1 = pv d i * 6 ^ 2 by show 6 * pv d i * 6 = pv d i * 36; omega]; exact hb)
    intro G9 s9 v9 h9 t9 b9
    refine ax_vret dX12_tries_213 rfl (Nat.le_of_ble_eq_true rfl) (Nat.le_of_ble_eq_true rfl) ?_
    refine ⟨rfl, rfl, rfl, s9, v9, h9, t9, ?_⟩
    rw [show (pv d i + 1) * 6 ^ 2 = (6 * pv d i + 6) * 6 ^ 1 by show (pv d i + 1) * 36 = (6 * pv d i + 6) * 6; omega]
    rw [brS_to (a := (6 * pv d i + W.m) * 6 ^ 1) (Nat.mul_le_mul_right _ (by omega)) (fun x h1 h2 => ?_)]
    · exact b9
    · have hp : 0 < 6 ^ 1 := by decide
      have hx1 : 6 * pv d i + W.m ≤ x / 6 ^ 1 := (Nat.le_div_iff_mul_le hp).mpr h1
      have hx2 : x / 6 ^ 1 < 6 * pv d i + 6 := (Nat.div_lt_iff_lt_mul hp).mpr h2
      exact cn_no hm6 (show i + 1 + 1 = n by omega) hd (by omega) (fun z => by have := z.1; omega)
  · exact absurd ((nI_eq (by omega) (by omega)).mp c_2) (by omega)
theorem l_triesK3 {Z : Zt} {G : Gt} {L : Lt} {Q : Qt} (hZ : OK Z) {W : Wv} (n i p : Nat) (hi : i ≤ 3) (hp : p < 6) (d : Nat → Nat) (hd6 : ∀ k, k < i → d k < 6) (ht : ∀ k, k < i → G 103 k = nI (d k)) (hend : AX none mX12_tries 9 0 0 0 0 184 [(0, .ref 75), (1, .int (nI i)), (2, .int (nI n)), (3, .int (nI p)), (4, .int (isF W d p i))] [] Z G L Q) : ∀ (r q : Nat), q ≤ i → i - q < r → AX none mX12_tries 9 0 0 0 0 158 [(0, .ref 75), (1, .int (nI i)), (2, .int (nI n)), (3, .int (nI p)), (4, .int (isF W d p q)), (5, .int (nI q))] [] Z G L Q := by
  intro r
  induction r with
  | zero => intro q h1 h2; omega
  | succ r ih =>
    intro q h1 h2
    have hd9 : q < i → d q < 6 := fun h => hd6 q h
    refine ax_iload dX12_tries_158 rfl ?_
    refine ax_iload_n (i := 1) dX12_tries_160 rfl rfl ?_
    refine ax_icmp_ge (tgt := 184) dX12_tries_161 (by decide) (fun c_161 => ?_) (fun c_161 => ?_)
    · obtain rfl : q = i := by have := (nI_leI (by omega) (by omega)).mp (show nI i ≤ nI q from c_161); omega
      exact ax_lv [(0, .ref 75), (1, .int (nI q)), (2, .int (nI n)), (3, .int (nI p)), (4, .int (isF W d p q))] ⟨rfl, rfl, rfl, rfl, rfl, trivial⟩ hend
    · have hqm : q < i := by have := mt (nI_leI (by omega) (by omega)).mpr (show ¬ nI i ≤ nI q from c_161); omega
      refine ax_aload_n (i := 0) dX12_tries_164 rfl rfl ?_
      refine ax_getR dX12_tries_165 fl_X12_94 rfl (OKs hZ rfl) (OKr hZ rfl) ?_
      refine ax_iload dX12_tries_168 rfl ?_
      refine ax_ialdN q dX12_tries_170 (OKs hZ rfl) rfl (by omega) (by decide) ?_
      refine ax_top (congrArg Value.int (ht q hqm)) ?_
      refine ax_iload_n (i := 3) dX12_tries_171 rfl rfl ?_
      refine ax_icmp_ne (tgt := 178) dX12_tries_172 (by decide) (fun c_172 => ?_) (fun c_172 => ?_)
      · refine ax_iinc (v := (nI q) + 1) dX12_tries_178 rfl rfl (by decide) rfl ?_
        refine ax_goto (tgt := 158) dX12_tries_181 (by decide) ?_
        refine ax_lv [(0, .ref 75), (1, .int (nI i)), (2, .int (nI n)), (3, .int (nI p)), (4, .int (isF W d p (q + 1))), (5, .int (nI (q + 1)))] ⟨rfl, rfl, rfl, rfl, sI (by rw [isF, if_neg (fun z => c_172 (congrArg nI z))]), sI (nI_1 q), trivial⟩ ?_
        exact ih (q + 1) (by omega) (by omega)
      · refine ax_iconst (v := 0) dX12_tries_175 (by decide) ?_
        refine ax_istore dX12_tries_176 (by decide) rfl ?_
        refine ax_iinc (v := (nI q) + 1) dX12_tries_178 rfl rfl (by decide) rfl ?_
        refine ax_goto (tgt := 158) dX12_tries_181 (by decide) ?_
        refine ax_lv [(0, .ref 75), (1, .int (nI i)), (2, .int (nI n)), (3, .int (nI p)), (4, .int (isF W d p (q + 1))), (5, .int (nI (q + 1)))] ⟨rfl, rfl, rfl, rfl, sI (by rw [isF, if_pos ((nI_eq (by omega) (by omega)).mp c_172)]), sI (nI_1 q), trivial⟩ ?_
        exact ih (q + 1) (by omega) (by omega)
theorem l_triesP3 {Z : Zt} {G0 : Gt} {L : Lt} {Q : Qt} {W : Wv} (hZ : OK Z) (ho : okW W) {H : Hv} (hh : okH W.m H) (n i : Nat) (hi : i + 3 = n) (hn : n ≤ 3) (d : Nat → Nat) (hd : rwV W d i) (hm : W.mm + 20 < 20000) (hend : ∀ G : Gt, mA G0 G → vM G W → hM G H → (∀ k, k < i → G 103 k = nI (d k)) → bM G W n (brS W n ((6 * pv d i + W.m) * 6 ^ 2)) → AX none mX12_tries 9 0 0 0 0 213 [] [] Z G L Q) : ∀ (r p : Nat), p ≤ W.m → W.m - p < r → ∀ G : Gt, mA G0 G → vM G W → hM G H → (∀ k, k < i → G 103 k = nI (d k)) → bM G W n (brS W n ((6 * pv d i + p) * 6 ^ 2)) → AX none mX12_tries 9 0 0 0 0 131 [(0, .ref 75), (1, .int (nI i)), (2, .int (nI n)), (3, .int (nI p))] [] Z G L Q := by
  have hm6 := ho.1
  intro r
  induction r with
  | zero => intro p h1 h2; omega
  | succ r ih =>
    intro p h1 h2 G hs9 hv9 hH9 ht9 hb9
    refine ax_iload_n (i := 3) dX12_tries_131 rfl rfl ?_
    refine ax_aload_n (i := 0) dX12_tries_132 rfl rfl ?_
    refine ax_getI dX12_tries_133 fl_X12_114 rfl (OKs hZ rfl) ?_
    refine ax_top (congrArg Value.int hv9.1) ?_
    refine ax_icmp_ge (tgt := 213) dX12_tries_136 (by decide) (fun c_136 => ?_) (fun c_136 => ?_)
    · obtain rfl : p = W.m := by have := (nI_leI (by omega) (by omega)).mp (show nI W.m ≤ nI p from c_136); omega
      exact ax_lv [] trivial (hend G hs9 hv9 hH9 ht9 hb9)
    · have hpm : p < W.m := by have := mt (nI_leI (by omega) (by omega)).mpr (show ¬ nI W.m ≤ nI p from c_136); omega
      have hp6 : p < 6 := by omega
      refine ax_aload_n (i := 0) dX12_tries_139 rfl rfl ?_
      refine ax_getR dX12_tries_140 fl_X12_33 rfl (OKs hZ rfl) (OKr hZ rfl) ?_
      refine ax_iload_n (i := 3) dX12_tries_143 rfl rfl ?_
      refine ax_ialdN p dX12_tries_144 (OKs hZ rfl) rfl hp6 (by decide) ?_
      refine ax_top (congrArg Value.int (show G 83 p = W.C p 5 from (hv9.2.2.1 p hpm).1 5 (by decide))) ?_
      refine ax_if_ne (tgt := 152) dX12_tries_145 (by decide) (fun c_145 => ?_) (fun c_145 => ?_)
      · refine ax_iconst (v := 0) dX12_tries_152 (by decide) ?_
        refine ax_istore dX12_tries_153 (by decide) rfl ?_
        refine ax_iconst (v := 0) dX12_tries_155 (by decide) ?_
        refine ax_istore dX12_tries_156 (by decide) rfl ?_
        refine ax_lv [(0, .ref 75), (1, .int (nI i)), (2, .int (nI n)), (3, .int (nI p)), (4, .int (isF W d p 0)), (5, .int (nI 0))] ⟨rfl, rfl, rfl, rfl, sI (by rw [isF, if_neg c_145]), rfl, trivial⟩ ?_
        refine l_triesK3 hZ n i p (by omega) hp6 d (fun k hk => by have := (hd k hk).1; omega) ht9 ?_ (i + 1) 0 (by omega) (by omega)
        refine ax_iload dX12_tries_184 rfl ?_
        refine ax_if_ne (tgt := 192) dX12_tries_186 (by decide) (fun c_186 => ?_) (fun c_186 => ?_)
        · refine ax_aload_n (i := 0) dX12_tries_192 rfl rfl ?_
          refine ax_getR dX12_tries_193 fl_X12_94 rfl (OKs hZ rfl) (OKr hZ rfl) ?_
          refine ax_iload_n (i := 1) dX12_tries_196 rfl rfl ?_
          refine ax_iload_n (i := 3) dX12_tries_197 rfl rfl ?_
          refine ax_iastN i dX12_tries_198 (OKs hZ rfl) rfl (show i < 3 by omega) (by decide) ?_
          obtain ⟨is1, is2⟩ := (isF_1 i).mp c_186
          have rv := rwV_up hd hpm is1 is2
          have vs : vM (up2 G 103 i (nI p)) W := vM_keep hv9 (fun a x y => up2_row (by omega)) (fun j _ => up2_k (by decide))
          have hs : hM (up2 G 103 i (nI p)) H := hM_keep hH9 (fun j _ => up2_k (by decide)) (fun a x y => up2_row (by omega))
          have ts : ∀ k, k < i + 1 → up2 G 103 i (nI p) 103 k = nI (up1 d i p k) := fun k hk => if e : k = i then by rw [e, up2_s, up1_s] else by rw [up2_i e, up1_n e]; exact ht9 k (by omega)
          have bs := bM_keep (G' := up2 G 103 i (nI p)) hb9 (up2_k (by decide)) (up2_k (by decide)) (up2_row (by decide))
          rw [← pv_up (d := d) (i := i) (p := p)] at bs
          refine ax_aload_n (i := 0) dX12_tries_199 rfl rfl ?_
          refine ax_iload_n (i := 1) dX12_tries_200 rfl rfl ?_
          refine ax_iconst (v := 1) dX12_tries_201 (by decide) ?_
          refine ax_iadd dX12_tries_202 ?_
          refine ax_top (congrArg Value.int (nI_1 i)) ?_
          refine ax_iload_n (i := 2) dX12_tries_203 rfl rfl ?_
          refine ax_cVq0 dX12_tries_204 lk_X12_284 (k_tries2 hZ vs ho hs hh n (i + 1) (by omega) hn (up1 d i p) rv ts hm bs) rfl (OKs hZ rfl) ⟨_, rfl, rfl⟩ rfl (Nat.le_of_ble_eq_true rfl) (Nat.le_of_ble_eq_true rfl) (Nat.le_of_ble_eq_true rfl) (Nat.le_of_ble_eq_true rfl) ?_
          rintro _ G1 _ ⟨rfl, rfl, a1, v1, h1, t1, b1⟩
          refine ax_iinc (v := (nI p) + 1) dX12_tries_207 rfl rfl (by decide) rfl ?_
          refine ax_goto (tgt := 131) dX12_tries_210 (by decide) ?_
          refine ax_lv [(0, .ref 75), (1, .int (nI i)), (2, .int (nI n)), (3, .int (nI (p + 1)))] ⟨rfl, rfl, rfl, sI (nI_1 p), trivial⟩ ?_
          refine ih (p + 1) (by omega) (by omega) _ (mA_tr hs9 (mA_tr ⟨fun a x y z => up2_row (by omega), fun j _ _ _ _ _ _ _ _ => up2_k (by decide)⟩ a1)) v1 h1 (fun k hk => by rw [t1 k (by omega), up1_n (by omega)]) ?_
          rw [pv_up] at b1
          exact b1
        · refine ax_goto (tgt := 207) dX12_tries_189 (by decide) ?_
          refine ax_iinc (v := (nI p) + 1) dX12_tries_207 rfl rfl (by decide) rfl ?_
          refine ax_goto (tgt := 131) dX12_tries_210 (by decide) ?_
          refine ax_lv [(0, .ref 75), (1, .int (nI i)), (2, .int (nI n)), (3, .int (nI (p + 1)))] ⟨rfl, rfl, rfl, sI (nI_1 p), trivial⟩ ?_
          refine ih (p + 1) (by omega) (by omega) G hs9 hv9 hH9 ht9 ?_
          rw [brS_to (a := (6 * pv d i + p) * 6 ^ 2) (Nat.mul_le_mul_right _ (by omega)) (fun x h1 h2 => ?_)]
          · exact hb9
          · have hx := div_in h1 (show x < (6 * pv d i + p + 1) * 6 ^ 2 from h2)
            refine cn_no hm6 (show i + 1 + 2 = n by omega) hd (by rw [hx]; omega) (fun z => ?_)
            rw [hx, show (6 * pv d i + p) % 6 = p by omega] at z
            exact (isF_1 i).mpr z.2 c_186
      · refine ax_iconst (v := 1) dX12_tries_148 (by decide) ?_
        refine ax_goto (tgt := 153) dX12_tries_149 (by decide) ?_
        refine ax_istore dX12_tries_153 (by decide) rfl ?_
        refine ax_iconst (v := 0) dX12_tries_155 (by decide) ?_
        refine ax_istore dX12_tries_156 (by decide) rfl ?_
        refine ax_lv [(0, .ref 75), (1, .int (nI i)), (2, .int (nI n)), (3, .int (nI p)), (4, .int (isF W d p 0)), (5, .int (nI 0))] ⟨rfl, rfl, rfl, rfl, sI (by rw [isF, if_pos c_145]), rfl, trivial⟩ ?_
        refine l_triesK3 hZ n i p (by omega) hp6 d (fun k hk => by have := (hd k hk).1; omega) ht9 ?_ (i + 1) 0 (by omega) (by omega)
        refine ax_iload dX12_tries_184 rfl ?_
        refine ax_if_ne (tgt := 192) dX12_tries_186 (by decide) (fun c_186 => ?_) (fun c_186 => ?_)
        · refine ax_aload_n (i := 0) dX12_tries_192 rfl rfl ?_
          refine ax_getR dX12_tries_193 fl_X12_94 rfl (OKs hZ rfl) (OKr hZ rfl) ?_
          refine ax_iload_n (i := 1) dX12_tries_196 rfl rfl ?_
          refine ax_iload_n (i := 3) dX12_tries_197 rfl rfl ?_
          refine ax_iastN i dX12_tries_198 (OKs hZ rfl) rfl (show i < 3 by omega) (by decide) ?_
          obtain ⟨is1, is2⟩ := (isF_1 i).mp c_186
          have rv := rwV_up hd hpm is1 is2
          have vs : vM (up2 G 103 i (nI p)) W := vM_keep hv9 (fun a x y => up2_row (by omega)) (fun j _ => up2_k (by decide))
          have hs : hM (up2 G 103 i (nI p)) H := hM_keep hH9 (fun j _ => up2_k (by decide)) (fun a x y => up2_row (by omega))
          have ts : ∀ k, k < i + 1 → up2 G 103 i (nI p) 103 k = nI (up1 d i p k) := fun k hk => if e : k = i then by rw [e, up2_s, up1_s] else by rw [up2_i e, up1_n e]; exact ht9 k (by omega)
          have bs := bM_keep (G' := up2 G 103 i (nI p)) hb9 (up2_k (by decide)) (up2_k (by decide)) (up2_row (by decide))
          rw [← pv_up (d := d) (i := i) (p := p)] at bs
          refine ax_aload_n (i := 0) dX12_tries_199 rfl rfl ?_
          refine ax_iload_n (i := 1) dX12_tries_200 rfl rfl ?_
          refine ax_iconst (v := 1) dX12_tries_201 (by decide) ?_
          refine ax_iadd dX12_tries_202 ?_
          refine ax_top (congrArg Value.int (nI_1 i)) ?_
          refine ax_iload_n (i := 2) dX12_tries_203 rfl rfl ?_
          refine ax_cVq0 dX12_tries_204 lk_X12_284 (k_tries2 hZ vs ho hs hh n (i + 1) (by omega) hn (up1 d i p) rv ts hm bs) rfl (OKs hZ rfl) ⟨_, rfl, rfl⟩ rfl (Nat.le_of_ble_eq_true rfl) (Nat.le_of_ble_eq_true rfl) (Nat.le_of_ble_eq_true rfl) (Nat.le_of_ble_eq_true rfl) ?_
          rintro _ G1 _ ⟨rfl, rfl, a1, v1, h1, t1, b1⟩
          refine ax_iinc (v := (nI p) + 1) dX12_tries_207 rfl rfl (by decide) rfl ?_
          refine ax_goto (tgt := 131) dX12_tries_210 (by decide) ?_
          refine ax_lv [(0, .ref 75), (1, .int (nI i)), (2, .int (nI n)), (3, .int (nI (p + 1)))] ⟨rfl, rfl, rfl, sI (nI_1 p), trivial⟩ ?_
          refine ih (p + 1) (by omega) (by omega) _ (mA_tr hs9 (mA_tr ⟨fun a x y z => up2_row (by omega), fun j _ _ _ _ _ _ _ _ => up2_k (by decide)⟩ a1)) v1 h1 (fun k hk => by rw [t1 k (by omega), up1_n (by omega)]) ?_
          rw [pv_up] at b1
          exact b1
        · refine ax_goto (tgt := 207) dX12_tries_189 (by decide) ?_
          refine ax_iinc (v := (nI p) + 1) dX12_tries_207 rfl rfl (by decide) rfl ?_
          refine ax_goto (tgt := 131) dX12_tries_210 (by decide) ?_
          refine ax_lv [(0, .ref 75), (1, .int (nI i)), (2, .int (nI n)), (3, .int (nI (p + 1)))] ⟨rfl, rfl, rfl, sI (nI_1 p), trivial⟩ ?_
          refine ih (p + 1) (by omega) (by omega) G hs9 hv9 hH9 ht9 ?_
          rw [brS_to (a := (6 * pv d i + p) * 6 ^ 2) (Nat.mul_le_mul_right _ (by omega)) (fun x h1 h2 => ?_)]
          · exact hb9
          · have hx := div_in h1 (show x < (6 * pv d i + p + 1) * 6 ^ 2 from h2)
            refine cn_no hm6 (show i + 1 + 2 = n by omega) hd (by rw [hx]; omega) (fun z => ?_)
            rw [hx, show (6 * pv d i + p) % 6 = p by omega] at z
            exact (isF_1 i).mpr z.2 c_186
theorem k_tries3 {Z : Zt} {G : Gt} {L : Lt} {W : Wv} (hZ : OK Z) (hv : vM G W) (ho : okW W) {H : Hv} (hH : hM G H) (hh : okH W.m H) (n i : Nat) (hi : i + 3 = n) (hn : n ≤ 3) (d : Nat → Nat) (hd : rwV W d i) (ht : ∀ k, k < i → G 103 k = nI (d k)) (hm : W.mm + 20 < 20000) (hb : bM G W n (brS W n (pv d i * 6 ^ 3))) : AC mX12_tries 9 0 0 [.ref 75, .int (nI i), .int (nI n)] Z G L (NP (TQ Z G L W H n i d ((pv d i + 1) * 6 ^ 3))) := by
  have hm6 := ho.1
  refine AC.intro (by decide +kernel) (Nat.le_of_ble_eq_true rfl) ?_
  refine ax_lv [(0, .ref 75), (1, .int (nI i)), (2, .int (nI n))] ⟨rfl, rfl, rfl, trivial⟩ ?_
  refine ax_iload_n (i := 1) dX12_tries_0 rfl rfl ?_
  refine ax_iload_n (i := 2) dX12_tries_1 rfl rfl ?_
  refine ax_icmp_ne (tgt := 129) dX12_tries_2 (by decide) (fun c_2 => ?_) (fun c_2 => ?_)
  · refine ax_iconst (v := 0) dX12_tries_129 (by decide) ?_
    refine ax_istore_n (i := 3) dX12_tries_130 rfl (by decide) rfl ?_
    refine ax_lv [(0, .ref 75), (1, .int (nI i)), (2, .int (nI n)), (3, .int (nI 0))] ⟨rfl, rfl, rfl, rfl, trivial⟩ ?_
    refine l_triesP3 (G0 := G) hZ ho hh n i hi hn d hd hm ?_ (W.m + 1) 0 (by omega) (by omega) G mA_refl hv hH ht (by rw [Nat.add_zero, show 6 * pv d i * 6 ^ 2 = pv d i * 6 ^ 3 by show 6 * pv d i * 36 = pv d i * 216; omega]; exact hb)
    intro G9 s9 v9 h9 t9 b9
    refine ax_vret dX12_tries_213 rfl (Nat.le_of_ble_eq_true rfl) (Nat.le_of_ble_eq_true rfl) ?_
    refine ⟨rfl, rfl, rfl, s9, v9, h9, t9, ?_⟩
    rw [show (pv d i + 1) * 6 ^ 3 = (6 * pv d i + 6) * 6 ^ 2 by show (pv d i + 1) * 216 = (6 * pv d i + 6) * 36; omega]
    rw [brS_to (a := (6 * pv d i + W.m) * 6 ^ 2) (Nat.mul_le_mul_right _ (by omega)) (fun x h1 h2 => ?_)]
    · exact b9
    · have hp : 0 < 6 ^ 2 := by decide
      have hx1 : 6 * pv d i + W.m ≤ x / 6 ^ 2 := (Nat.le_div_iff_mul_le hp).mpr h1
      have hx2 : x / 6 ^ 2 < 6 * pv d i + 6 := (Nat.div_lt_iff_lt_mul hp).mpr h2
      exact cn_no hm6 (show i + 1 + 2 = n by omega) hd (by omega) (fun z => by have := z.1; omega)
  · exact absurd ((nI_eq (by omega) (by omega)).mp c_2) (by omega)
