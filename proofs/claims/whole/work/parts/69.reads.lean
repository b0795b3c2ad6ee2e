-- ===== the model reads: signs, numbers =====
theorem bI_n {P : Prop} [Decidable P] (h : bI (decide P) = 0) : ¬ P := fun z => by rw [decide_eq_true z] at h; exact absurd h (by decide)
theorem bI_y {P : Prop} [Decidable P] (h : ¬ bI (decide P) = 0) : P := Decidable.not_not.mp (fun z => h (by rw [decide_eq_false z]; rfl))
theorem bI_f {b : Bool} (h : bI b = 0) : b = false := bI_0.mp h
theorem bI_t {b : Bool} (h : ¬ bI b = 0) : b = true := by
  cases b with
  | true => rfl
  | false => exact absurd rfl h
theorem nb_bI {b : Bool} : narrow .boolean (.int (bI b)) = .int (bI b) := by cases b <;> rfl
/-- the model while it reads: at place a, with codes cs from c9 on, o of ! and ( open -/
def PS (G0 G : Gt) (T : Nat × (Nat → Nat)) (c9 a : Nat) (cs : List Nat) (o : Nat) : Prop := G 75 13 = nI a ∧ G 75 16 = nI o ∧ G 75 25 = nI (c9 + cs.length) ∧ (∀ k, k < cs.length → G 91 (c9 + k) = nI (cs.getD k 0)) ∧ (∀ x, x ≠ 75 → x ≠ 91 → G x = G0 x) ∧ (∀ i, i ≠ 13 → i ≠ 14 → i ≠ 15 → i ≠ 16 → i ≠ 25 → G 75 i = G0 75 i) ∧ ∀ k, k < c9 → G 91 k = G0 91 k
def PSx (G0 G : Gt) (T : Nat × (Nat → Nat)) (c9 a : Nat) : Prop := ∃ cs o, PS G0 G T c9 a cs o
abbrev PPm (Z : Zt) (L : Lt) (G0 : Gt) (T : Nat × (Nat → Nat)) (c9 : Nat) (cs : List Nat) (o : Nat) (r : PR) : Zt → Gt → Lt → Prop := fun Z' G' L' => Z' = Z ∧ L' = L ∧ (r.1 = true → PS G0 G' T c9 r.2.1 (cs ++ r.2.2) o) ∧ (r.1 = false → PSx G0 G' T c9 r.2.1)
theorem PS_11 {G0 G : Gt} {T : Nat × (Nat → Nat)} {c9 a : Nat} {cs : List Nat} {o : Nat} (h : PS G0 G T c9 a cs o) (hT : imT G0 T) : G 75 11 = nI T.1 := (h.2.2.2.2.2.1 11 (by decide) (by decide) (by decide) (by decide) (by decide)).trans hT.1
theorem PS_tx {G0 G : Gt} {T : Nat × (Nat → Nat)} {c9 a : Nat} {cs : List Nat} {o : Nat} (h : PS G0 G T c9 a cs o) (hT : imT G0 T) {i : Nat} (hi : i < T.1) : G 85 i = nI (T.2 i) := by
  rw [h.2.2.2.2.1 85 (by decide) (by decide)]; exact hT.2 i hi
theorem PS_at {G0 G : Gt} {T : Nat × (Nat → Nat)} {c9 a a' : Nat} {cs : List Nat} {o : Nat} {x : Int32} (h : PS G0 G T c9 a cs o) (hx : x = nI a') : PS G0 (up2 G 75 13 x) T c9 a' cs o := by
  obtain ⟨h1, h2, h3, h4, h5, h6, h7⟩ := h
  refine ⟨by rw [up2_s]; exact hx, by rw [up2_i (by decide)]; exact h2, by rw [up2_i (by decide)]; exact h3, fun k hk => by rw [up2_k (by decide)]; exact h4 k hk, fun x hx hy => (up2_row hx).trans (h5 x hx hy), fun i e1 e2 e3 e4 e5 => by rw [up2_i e1]; exact h6 i e1 e2 e3 e4 e5, fun k hk => by rw [up2_k (by decide)]; exact h7 k hk⟩
theorem PS_f {G0 G : Gt} {T : Nat × (Nat → Nat)} {c9 a : Nat} {cs : List Nat} {o j : Nat} {x : Int32} (h : PS G0 G T c9 a cs o) (hj : j = 14 ∨ j = 15) : PS G0 (up2 G 75 j x) T c9 a cs o := by
  obtain ⟨h1, h2, h3, h4, h5, h6, h7⟩ := h
  refine ⟨by rw [up2_i (by omega)]; exact h1, by rw [up2_i (by omega)]; exact h2, by rw [up2_i (by omega)]; exact h3, fun k hk => by rw [up2_k (by decide)]; exact h4 k hk, fun x hx hy => (up2_row hx).trans (h5 x hx hy), fun i e1 e2 e3 e4 e5 => by rw [up2_i (by omega)]; exact h6 i e1 e2 e3 e4 e5, fun k hk => by rw [up2_k (by decide)]; exact h7 k hk⟩
theorem PS_op {G0 G : Gt} {T : Nat × (Nat → Nat)} {c9 a : Nat} {cs : List Nat} {o o' : Nat} {x : Int32} (h : PS G0 G T c9 a cs o) (hx : x = nI o') : PS G0 (up2 G 75 16 x) T c9 a cs o' := by
  obtain ⟨h1, h2, h3, h4, h5, h6, h7⟩ := h
  refine ⟨by rw [up2_i (by decide)]; exact h1, by rw [up2_s]; exact hx, by rw [up2_i (by decide)]; exact h3, fun k hk => by rw [up2_k (by decide)]; exact h4 k hk, fun x hx hy => (up2_row hx).trans (h5 x hx hy), fun i e1 e2 e3 e4 e5 => by rw [up2_i e4]; exact h6 i e1 e2 e3 e4 e5, fun k hk => by rw [up2_k (by decide)]; exact h7 k hk⟩
theorem PS_cd {G0 G : Gt} {T : Nat × (Nat → Nat)} {c9 a t : Nat} {cs : List Nat} {o : Nat} {x y : Int32} (h : PS G0 G T c9 a cs o) (hx : x = nI (c9 + cs.length + 1)) (hy : y = nI t) : PS G0 (up2 (up2 G 75 25 x) 91 (c9 + cs.length) y) T c9 a (cs ++ [t]) o := by
  obtain ⟨h1, h2, h3, h4, h5, h6, h7⟩ := h
  refine ⟨by rw [up2_k (by decide), up2_i (by decide)]; exact h1, by rw [up2_k (by decide), up2_i (by decide)]; exact h2, by rw [up2_k (by decide), up2_s, hx, List.length_append]; rfl, fun k hk => ?_, fun x hx hy => (up2_row hy).trans ((up2_row hx).trans (h5 x hx hy)), fun i e1 e2 e3 e4 e5 => by rw [up2_k (by decide), up2_i e5]; exact h6 i e1 e2 e3 e4 e5, fun k hk => by rw [up2_i (by omega), up2_k (by decide)]; exact h7 k hk⟩
  rw [List.length_append] at hk
  have hk : k < cs.length + 1 := hk
  by_cases e : k = cs.length
  · subst e
    rw [up2_s, hy, List.getD_eq_getElem?_getD, List.getElem?_append_right (Nat.le_refl _), Nat.sub_self]
    rfl
  · rw [up2_i (by omega), up2_k (by decide), h4 k (by omega), List.getD_eq_getElem?_getD, List.getD_eq_getElem?_getD, List.getElem?_append_left (by omega)]
theorem m_is {Z : Zt} {G : Gt} {L : Lt} (hZ : OK Z) {G0 : Gt} {T : Nat × (Nat → Nat)} {c9 : Nat} (hT : imT G0 T) (hT1 : T.1 ≤ 100) (hT2 : ∀ i, i < T.1 → T.2 i < 128) {a : Nat} {cs : List Nat} {o : Nat} (hp : PS G0 G T c9 a cs o) (ha : a ≤ T.1) (s : Nat) (hs : s < 128) : AC mX12_is 1 0 0 [.ref 75, .int (nI s)] Z G L (RP (.int (bI (decide (chT T a = s)))) (fun Z' G' L' => Z' = Z ∧ L' = L ∧ PS G0 G' T c9 (if chT T a = s then a + 1 else a) cs o)) := by
  have e11 := PS_11 hp hT
  refine AC.weaken (c_X12_is hZ ⟨a, T.1, ha, hT1, hp.1, e11⟩ (nI s)) ?_
  rintro r Z' G' L' ⟨rfl, rfl, rfl, rfl⟩
  unfold r_X12_is g_X12_is
  rw [hp.1, e11, nI_clamp (by omega)]
  by_cases c1 : a = T.1
  · have n : ¬ chT T a = s := fun z => by have := chT_lt z (by omega); omega
    have y1 : nI a = nI T.1 := by rw [c1]
    rw [if_pos y1, if_pos y1, decide_eq_false n, if_neg n]
    exact ⟨rfl, rfl, rfl, hp⟩
  have n1 : ¬ nI a = nI T.1 := fun z => c1 ((nI_eq (by omega) (by omega)).mp z)
  have hl : a < T.1 := by omega
  rw [if_neg n1, if_neg n1, PS_tx hp hT hl]
  have ec : chT T a = T.2 a := by unfold chT; rw [if_pos hl]
  rw [ec]
  have h2 := hT2 a hl
  by_cases c2 : T.2 a = s
  · have y2 : nI (T.2 a) = nI s := by rw [c2]
    rw [if_pos y2, if_pos y2, decide_eq_true c2, if_pos c2, nI_1]
    exact ⟨rfl, rfl, rfl, PS_at hp rfl⟩
  · have n2 : ¬ nI (T.2 a) = nI s := fun z => c2 ((nI_eq (by omega) (by omega)).mp z)
    rw [if_neg n2, if_neg n2, decide_eq_false c2, if_neg c2]
    exact ⟨rfl, rfl, rfl, hp⟩
theorem m_dig {Z : Zt} {G : Gt} {L : Lt} (hZ : OK Z) {G0 : Gt} {T : Nat × (Nat → Nat)} {c9 : Nat} (hT : imT G0 T) (hT1 : T.1 ≤ 100) (hT2 : ∀ i, i < T.1 → T.2 i < 128) {a : Nat} {cs : List Nat} {o : Nat} (hp : PS G0 G T c9 a cs o) (ha : a ≤ T.1) : AC mX12_isDigit 1 0 0 [.ref 75] Z G L (RQ (.int (bI (isDg T a))) Z G L) := by
  have e11 := PS_11 hp hT
  have e : r_X12_isDigit G L = bI (isDg T a) := by
    unfold r_X12_isDigit isDg
    rw [hp.1, e11, nI_clamp (by omega)]
    by_cases c1 : a = T.1
    · rw [if_pos (by rw [c1]; exact Int32.le_refl _), decide_eq_false (fun z => by have := chT_lt (T := T) (a := a) rfl (by omega); omega)]
      rfl
    have hl : a < T.1 := by omega
    have ec : chT T a = T.2 a := by unfold chT; rw [if_pos hl]
    have h2 := hT2 a hl
    rw [if_neg (nI_ge hl (by omega)), PS_tx hp hT hl, ec]
    by_cases c2 : T.2 a < 48
    · rw [if_pos (show nI (T.2 a) < 48 from nI_lt (b := 48) c2 (by decide)), decide_eq_false (by omega)]; rfl
    rw [if_neg (show ¬ nI (T.2 a) < 48 from nI_nlt (b := 48) (by omega) (by omega))]
    by_cases c3 : 57 < T.2 a
    · rw [if_pos (show (57 : Int32) < nI (T.2 a) from nI_lt (a := 57) c3 (by omega)), decide_eq_false (by omega)]; rfl
    · rw [if_neg (show ¬ (57 : Int32) < nI (T.2 a) from nI_nlt (a := 57) (by omega) (by decide)), decide_eq_true (by omega)]; rfl
  rw [← e]
  exact c_X12_isDigit hZ ⟨a, T.1, ha, hT1, hp.1, e11⟩
theorem m_codes {Z : Zt} {G : Gt} {L : Lt} (hZ : OK Z) {G0 : Gt} {T : Nat × (Nat → Nat)} {c9 : Nat} (hT : imT G0 T) (hT1 : T.1 ≤ 100) (hT2 : ∀ i, i < T.1 → T.2 i < 128) {a : Nat} {cs : List Nat} {o : Nat} (hp : PS G0 G T c9 a cs o) (hc : c9 + cs.length ≤ 799) (t : Nat) : AC mX12_codes 1 0 0 [.ref 75, .int (nI t)] Z G L (RP (.int 1) (fun Z' G' L' => Z' = Z ∧ L' = L ∧ PS G0 G' T c9 a (cs ++ [t]) o)) := by
  refine AC.weaken (c_X12_codes hZ ⟨_, hc, hp.2.2.1⟩ (nI t)) ?_
  rintro r Z' G' L' ⟨rfl, rfl, rfl, rfl⟩
  refine ⟨rfl, rfl, rfl, ?_⟩
  rw [hp.2.2.1, nI_clamp (by omega), nI_1]
  exact PS_cd hp rfl rfl
theorem m_op4 {Z : Zt} {G : Gt} {L : Lt} (hZ : OK Z) {G0 : Gt} {T : Nat × (Nat → Nat)} {c9 : Nat} (hT : imT G0 T) (hT1 : T.1 ≤ 100) (hT2 : ∀ i, i < T.1 → T.2 i < 128) {a : Nat} {cs : List Nat} (hp : PS G0 G T c9 a cs 4) (ha : a ≤ T.1) (s : Int32) : AC mX12_isOpened 2 0 0 [.ref 75, .int s] Z G L (RP (.int 0) (fun Z' G' L' => Z' = Z ∧ L' = L ∧ PS G0 G' T c9 a cs 4)) := by
  refine AC.weaken (c_X12_isOpened hZ ⟨a, T.1, ha, hT1, hp.1, PS_11 hp hT⟩ s) ?_
  rintro r Z' G' L' ⟨rfl, rfl, rfl, rfl⟩
  unfold r_X12_isOpened g_X12_isOpened
  rw [if_pos (show G 75 16 = 4 from hp.2.1), if_pos (show G 75 16 = 4 from hp.2.1)]
  exact ⟨rfl, rfl, rfl, hp⟩
theorem m_op {Z : Zt} {G : Gt} {L : Lt} (hZ : OK Z) {G0 : Gt} {T : Nat × (Nat → Nat)} {c9 : Nat} (hT : imT G0 T) (hT1 : T.1 ≤ 100) (hT2 : ∀ i, i < T.1 → T.2 i < 128) {a : Nat} {cs : List Nat} {o : Nat} (hp : PS G0 G T c9 a cs o) (ha : a ≤ T.1) (ho : o < 4) (s : Nat) (hs : s < 128) : AC mX12_isOpened 2 0 0 [.ref 75, .int (nI s)] Z G L (RP (.int (bI (decide (chT T a = s)))) (fun Z' G' L' => Z' = Z ∧ L' = L ∧ PS G0 G' T c9 (if chT T a = s then a + 1 else a) cs (if chT T a = s then o + 1 else o))) := by
  refine AC.intro (by decide +kernel) (Nat.le_of_ble_eq_true rfl) ?_
  refine ax_lv [(0, .ref 75), (1, .int (nI s))] ⟨rfl, rfl, trivial⟩ ?_
  refine ax_aload_n (i := 0) dX12_isOpened_0 rfl rfl ?_
  refine ax_getI dX12_isOpened_1 fl_X12_190 rfl (OKs hZ rfl) ?_
  refine ax_top (congrArg Value.int hp.2.1) ?_
  refine ax_iconst (v := 4) dX12_isOpened_4 (by decide) ?_
  refine ax_icmp_eq (tgt := 16) dX12_isOpened_5 (by decide) (fun c_5 => ?_) (fun c_5 => ?_)
  · exact absurd ((nI_eq (by omega) (by decide)).mp (show nI o = nI 4 from c_5)) (by omega)
  · refine ax_aload_n (i := 0) dX12_isOpened_8 rfl rfl ?_
    refine ax_iload_n (i := 1) dX12_isOpened_9 rfl rfl ?_
    refine ax_cVq dX12_isOpened_10 lk_X12_171 (m_is hZ hT hT1 hT2 hp ha s hs) rfl (OKs hZ rfl) ⟨_, rfl, rfl⟩ rfl (Nat.le_of_ble_eq_true rfl) (Nat.le_of_ble_eq_true rfl) (Nat.le_of_ble_eq_true rfl) (Nat.le_of_ble_eq_true rfl) ?_
    rintro _ G1 _ ⟨rfl, rfl, p1⟩
    refine ax_if_ne (tgt := 18) dX12_isOpened_13 (by decide) (fun c_13 => ?_) (fun c_13 => ?_)
    · have c9 := bI_y c_13
      rw [if_pos c9] at p1
      refine ax_aload_n (i := 0) dX12_isOpened_18 rfl rfl ?_
      refine ax_dup dX12_isOpened_19 rfl ?_
      refine ax_getI dX12_isOpened_20 fl_X12_190 rfl (OKs hZ rfl) ?_
      refine ax_iconst (v := 1) dX12_isOpened_23 (by decide) ?_
      refine ax_iadd dX12_isOpened_24 ?_
      refine ax_putI dX12_isOpened_25 fl_X12_190 (Or.inl fp_X12_12_16) rfl rfl rfl (OKs hZ rfl) ?_
      refine ax_iconst (v := 1) dX12_isOpened_28 (by decide) ?_
      refine ax_iret dX12_isOpened_29 rfl rfl (Nat.le_of_ble_eq_true rfl) (Nat.le_of_ble_eq_true rfl) ?_
      rw [if_pos c9, if_pos c9, decide_eq_true c9]
      exact ⟨rfl, rfl, rfl, PS_op p1 (by rw [p1.2.1]; exact nI_1 o)⟩
    · have c9 := bI_n c_13
      rw [if_neg c9] at p1
      refine ax_iconst (v := 0) dX12_isOpened_16 (by decide) ?_
      refine ax_iret dX12_isOpened_17 rfl rfl (Nat.le_of_ble_eq_true rfl) (Nat.le_of_ble_eq_true rfl) ?_
      rw [if_neg c9, if_neg c9, decide_eq_false c9]
      exact ⟨rfl, rfl, rfl, p1⟩
def PN (G0 G : Gt) (T : Nat × (Nat → Nat)) (c9 a : Nat) (cs : List Nat) (o k v : Nat) : Prop := PS G0 G T c9 a cs o ∧ G 75 14 = nI v ∧ G 75 15 = nI k
theorem PN_s {G0 G : Gt} {T : Nat × (Nat → Nat)} {c9 a : Nat} {cs : List Nat} {o k v v' : Nat} {x y z : Int32} (h : PN G0 G T c9 a cs o k v) (hx : x = nI v') (hy : y = nI (a + 1)) (hz : z = nI (k + 1)) : PN G0 (up2 (up2 (up2 G 75 14 x) 75 13 y) 75 15 z) T c9 (a + 1) cs o (k + 1) v' := by
  obtain ⟨h1, h2, h3⟩ := h
  exact ⟨PS_f (PS_at (PS_f h1 (Or.inl rfl)) hy) (Or.inr rfl), by rw [up2_i (by decide), up2_i (by decide), up2_s]; exact hx, by rw [up2_s]; exact hz⟩
theorem l_num2 {Z : Zt} {G : Gt} {L : Lt} (hZ : OK Z) {G0 : Gt} {T : Nat × (Nat → Nat)} {c9 : Nat} (hT : imT G0 T) (hT1 : T.1 ≤ 100) (hT2 : ∀ i, i < T.1 → T.2 i < 128) {cs : List Nat} {o : Nat} (a0 : Nat) (hp : PN G0 G T c9 (a0 + 2) cs o 2 (nmV T a0)) (e2 : nmC T a0 = 2) : AX none mX12_isNumber 2 0 0 0 0 10 [(0, .ref 75)] [] Z G L (RP (.int (bI (decide (0 < nmC T a0)))) (fun Z' G' L' => Z' = Z ∧ L' = L ∧ PS G0 G' T c9 (a0 + nmC T a0) cs o ∧ G' 75 14 = nI (nmV T a0))) := by
  have ev : nmV T a0 = nmV T a0 := rfl
  refine ax_aload_n (i := 0) dX12_isNumber_10 rfl rfl ?_
  refine ax_getI dX12_isNumber_11 fl_X12_155 rfl (OKs hZ rfl) ?_
  refine ax_top (congrArg Value.int hp.2.2) ?_
  refine ax_iconst (v := 2) dX12_isNumber_14 (by decide) ?_
  refine ax_icmp_ge (tgt := 72) dX12_isNumber_15 (by decide) (fun c_15 => ?_) (fun c_15 => ?_)
  · 
    refine ax_aload_n (i := 0) dX12_isNumber_72 rfl rfl ?_
    refine ax_getI dX12_isNumber_73 fl_X12_155 rfl (OKs hZ rfl) ?_
    refine ax_top (congrArg Value.int hp.2.2) ?_
    refine ax_if_le (tgt := 83) dX12_isNumber_76 (by decide) (fun c_76 => ?_) (fun c_76 => ?_)
    · exact absurd c_76 (by decide)
    · refine ax_iconst (v := 1) dX12_isNumber_79 (by decide) ?_
      refine ax_goto (tgt := 84) dX12_isNumber_80 (by decide) ?_
      refine ax_iret dX12_isNumber_84 rfl rfl (Nat.le_of_ble_eq_true rfl) (Nat.le_of_ble_eq_true rfl) ?_
      exact ⟨congrArg (fun z => some (Value.int z)) (by rw [show nmC T a0 = 2 from e2]; rfl), rfl, rfl, by rw [e2]; exact hp.1, by rw [ev]; exact hp.2.1⟩
  · exact absurd (by decide) c_15
theorem l_num1 {Z : Zt} {G : Gt} {L : Lt} (hZ : OK Z) {G0 : Gt} {T : Nat × (Nat → Nat)} {c9 : Nat} (hT : imT G0 T) (hT1 : T.1 ≤ 100) (hT2 : ∀ i, i < T.1 → T.2 i < 128) {cs : List Nat} {o : Nat} (a0 : Nat) (hp : PN G0 G T c9 (a0 + 1) cs o 1 (chT T a0 - 48)) (c0 : isDg T a0 = true) : AX none mX12_isNumber 2 0 0 0 0 10 [(0, .ref 75)] [] Z G L (RP (.int (bI (decide (0 < nmC T a0)))) (fun Z' G' L' => Z' = Z ∧ L' = L ∧ PS G0 G' T c9 (a0 + nmC T a0) cs o ∧ G' 75 14 = nI (nmV T a0))) := by
  have ha1 : a0 + 1 ≤ T.1 := isDg_lt c0
  have c01 := of_decide_eq_true c0
  refine ax_aload_n (i := 0) dX12_isNumber_10 rfl rfl ?_
  refine ax_getI dX12_isNumber_11 fl_X12_155 rfl (OKs hZ rfl) ?_
  refine ax_top (congrArg Value.int hp.2.2) ?_
  refine ax_iconst (v := 2) dX12_isNumber_14 (by decide) ?_
  refine ax_icmp_ge (tgt := 72) dX12_isNumber_15 (by decide) (fun c_15 => ?_) (fun c_15 => ?_)
  · exact absurd c_15 (by decide)
  · refine ax_aload_n (i := 0) dX12_isNumber_18 rfl rfl ?_
    refine ax_cVv dX12_isNumber_19 lk_X12_158 (m_dig hZ hT hT1 hT2 hp.1 ha1) rfl (OKs hZ rfl) ⟨_, rfl, rfl⟩ rfl (Nat.le_of_ble_eq_true rfl) (Nat.le_of_ble_eq_true rfl) (Nat.le_of_ble_eq_true rfl) (Nat.le_of_ble_eq_true rfl) ?_
    refine ax_if_eq (tgt := 72) dX12_isNumber_22 (by decide) (fun c_22 => ?_) (fun c_22 => ?_)
    · have cd := bI_f c_22
      refine ax_aload_n (i := 0) dX12_isNumber_72 rfl rfl ?_
      refine ax_getI dX12_isNumber_73 fl_X12_155 rfl (OKs hZ rfl) ?_
      refine ax_top (congrArg Value.int hp.2.2) ?_
      refine ax_if_le (tgt := 83) dX12_isNumber_76 (by decide) (fun c_76 => ?_) (fun c_76 => ?_)
      · exact absurd c_76 (by decide)
      · refine ax_iconst (v := 1) dX12_isNumber_79 (by decide) ?_
        refine ax_goto (tgt := 84) dX12_isNumber_80 (by decide) ?_
        refine ax_iret dX12_isNumber_84 rfl rfl (Nat.le_of_ble_eq_true rfl) (Nat.le_of_ble_eq_true rfl) ?_
        have e1 : nmC T a0 = 1 := by unfold nmC; rw [if_pos c0, if_neg (by rw [cd]; decide)]
        have ev : nmV T a0 = chT T a0 - 48 := by unfold nmV; rw [if_pos c0, if_neg (by rw [cd]; decide)]
        exact ⟨congrArg (fun z => some (Value.int z)) (by rw [e1]; rfl), rfl, rfl, by rw [e1]; exact hp.1, by rw [ev]; exact hp.2.1⟩
    · have cd := bI_t c_22
      have hl := isDg_lt cd
      have cd2 := of_decide_eq_true cd
      have ec : chT T (a0 + 1) = T.2 ((a0 + 1)) := by unfold chT; rw [if_pos hl]
      refine ax_aload_n (i := 0) dX12_isNumber_25 rfl rfl ?_
      refine ax_bipush (v := 10) dX12_isNumber_26 (by decide) ?_
      refine ax_aload_n (i := 0) dX12_isNumber_28 rfl rfl ?_
      refine ax_getI dX12_isNumber_29 fl_X12_152 rfl (OKs hZ rfl) ?_
      refine ax_top (congrArg Value.int hp.2.1) ?_
      refine ax_imul dX12_isNumber_32 ?_
      refine ax_aload_n (i := 0) dX12_isNumber_33 rfl rfl ?_
      refine ax_getR dX12_isNumber_34 fl_X12_39 rfl (OKs hZ rfl) (OKr hZ rfl) ?_
      refine ax_aload_n (i := 0) dX12_isNumber_37 rfl rfl ?_
      refine ax_getI dX12_isNumber_38 fl_X12_149 rfl (OKs hZ rfl) ?_
      refine ax_ialdN (a0 + 1) dX12_isNumber_41 (OKs hZ rfl) hp.1.1 (show _ < 100 by omega) (by decide) ?_
      refine ax_top (congrArg Value.int ((PS_tx hp.1 hT hl).trans (congrArg nI ec.symm))) ?_
      refine ax_iadd dX12_isNumber_42 ?_
      refine ax_bipush (v := 48) dX12_isNumber_43 (by decide) ?_
      refine ax_isub dX12_isNumber_45 ?_
      refine ax_putI dX12_isNumber_46 fl_X12_152 (Or.inl fp_X12_12_14) rfl rfl rfl (OKs hZ rfl) ?_
      refine ax_aload_n (i := 0) dX12_isNumber_49 rfl rfl ?_
      refine ax_dup dX12_isNumber_50 rfl ?_
      refine ax_getI dX12_isNumber_51 fl_X12_149 rfl (OKs hZ rfl) ?_
      refine ax_iconst (v := 1) dX12_isNumber_54 (by decide) ?_
      refine ax_iadd dX12_isNumber_55 ?_
      refine ax_putI dX12_isNumber_56 fl_X12_149 (Or.inl fp_X12_12_13) rfl rfl rfl (OKs hZ rfl) ?_
      refine ax_aload_n (i := 0) dX12_isNumber_59 rfl rfl ?_
      refine ax_dup dX12_isNumber_60 rfl ?_
      refine ax_getI dX12_isNumber_61 fl_X12_155 rfl (OKs hZ rfl) ?_
      refine ax_iconst (v := 1) dX12_isNumber_64 (by decide) ?_
      refine ax_iadd dX12_isNumber_65 ?_
      refine ax_putI dX12_isNumber_66 fl_X12_155 (Or.inl fp_X12_12_15) rfl rfl rfl (OKs hZ rfl) ?_
      refine ax_goto (tgt := 10) dX12_isNumber_69 (by decide) ?_
      refine ax_gen (fun G => PN G0 G T c9 (a0 + 2) cs o 2 (10 * (chT T a0 - 48) + (chT T (a0 + 1) - 48))) (PN_s hp (v' := 10 * (chT T a0 - 48) + (chT T (a0 + 1) - 48)) (show 10 * nI (chT T a0 - 48) + nI (chT T (a0 + 1)) - 48 = nI (10 * (chT T a0 - 48) + (chT T (a0 + 1) - 48)) by rw [show (10 : Int32) = nI 10 from rfl, pk_mul, nI_add, show (48 : Int32) = nI 48 from rfl, pk_sub (by omega)]; congr 1; omega) (by rw [up2_i (by decide), hp.1.1]; exact nI_1 _) (by rw [up2_i (by decide), up2_i (by decide), hp.2.2]; rfl)) (fun G hp => ?_)
      refine ax_lv [(0, .ref 75)] ⟨rfl, trivial⟩ ?_
      have e2 : nmC T a0 = 2 := by unfold nmC; rw [if_pos c0, if_pos cd]
      have ev : nmV T a0 = 10 * (chT T a0 - 48) + (chT T (a0 + 1) - 48) := by unfold nmV; rw [if_pos c0, if_pos cd]
      rw [← ev] at hp
      exact l_num2 hZ hT hT1 hT2 a0 hp e2
theorem l_num0 {Z : Zt} {G : Gt} {L : Lt} (hZ : OK Z) {G0 : Gt} {T : Nat × (Nat → Nat)} {c9 : Nat} (hT : imT G0 T) (hT1 : T.1 ≤ 100) (hT2 : ∀ i, i < T.1 → T.2 i < 128) {cs : List Nat} {o : Nat} (a0 : Nat) (ha : a0 ≤ T.1) (hp : PN G0 G T c9 a0 cs o 0 0) : AX none mX12_isNumber 2 0 0 0 0 10 [(0, .ref 75)] [] Z G L (RP (.int (bI (decide (0 < nmC T a0)))) (fun Z' G' L' => Z' = Z ∧ L' = L ∧ PS G0 G' T c9 (a0 + nmC T a0) cs o ∧ G' 75 14 = nI (nmV T a0))) := by
  refine ax_aload_n (i := 0) dX12_isNumber_10 rfl rfl ?_
  refine ax_getI dX12_isNumber_11 fl_X12_155 rfl (OKs hZ rfl) ?_
  refine ax_top (congrArg Value.int hp.2.2) ?_
  refine ax_iconst (v := 2) dX12_isNumber_14 (by decide) ?_
  refine ax_icmp_ge (tgt := 72) dX12_isNumber_15 (by decide) (fun c_15 => ?_) (fun c_15 => ?_)
  · exact absurd c_15 (by decide)
  · refine ax_aload_n (i := 0) dX12_isNumber_18 rfl rfl ?_
    refine ax_cVv dX12_isNumber_19 lk_X12_158 (m_dig hZ hT hT1 hT2 hp.1 ha) rfl (OKs hZ rfl) ⟨_, rfl, rfl⟩ rfl (Nat.le_of_ble_eq_true rfl) (Nat.le_of_ble_eq_true rfl) (Nat.le_of_ble_eq_true rfl) (Nat.le_of_ble_eq_true rfl) ?_
    refine ax_if_eq (tgt := 72) dX12_isNumber_22 (by decide) (fun c_22 => ?_) (fun c_22 => ?_)
    · have cd := bI_f c_22
      refine ax_aload_n (i := 0) dX12_isNumber_72 rfl rfl ?_
      refine ax_getI dX12_isNumber_73 fl_X12_155 rfl (OKs hZ rfl) ?_
      refine ax_top (congrArg Value.int hp.2.2) ?_
      refine ax_if_le (tgt := 83) dX12_isNumber_76 (by decide) (fun c_76 => ?_) (fun c_76 => ?_)
      · refine ax_iconst (v := 0) dX12_isNumber_83 (by decide) ?_
        refine ax_iret dX12_isNumber_84 rfl rfl (Nat.le_of_ble_eq_true rfl) (Nat.le_of_ble_eq_true rfl) ?_
        have e0 : nmC T a0 = 0 := by unfold nmC; rw [if_neg (by rw [cd]; decide)]
        have ev : nmV T a0 = 0 := by unfold nmV; rw [if_neg (by rw [cd]; decide)]
        exact ⟨congrArg (fun z => some (Value.int z)) (by rw [e0]; rfl), rfl, rfl, by rw [e0]; exact hp.1, by rw [ev]; exact hp.2.1⟩
      · exact absurd (by decide) c_76
    · have cd := bI_t c_22
      have hl := isDg_lt cd
      have cd2 := of_decide_eq_true cd
      have ec : chT T a0 = T.2 (a0) := by unfold chT; rw [if_pos hl]
      refine ax_aload_n (i := 0) dX12_isNumber_25 rfl rfl ?_
      refine ax_bipush (v := 10) dX12_isNumber_26 (by decide) ?_
      refine ax_aload_n (i := 0) dX12_isNumber_28 rfl rfl ?_
      refine ax_getI dX12_isNumber_29 fl_X12_152 rfl (OKs hZ rfl) ?_
      refine ax_top (congrArg Value.int hp.2.1) ?_
      refine ax_imul dX12_isNumber_32 ?_
      refine ax_aload_n (i := 0) dX12_isNumber_33 rfl rfl ?_
      refine ax_getR dX12_isNumber_34 fl_X12_39 rfl (OKs hZ rfl) (OKr hZ rfl) ?_
      refine ax_aload_n (i := 0) dX12_isNumber_37 rfl rfl ?_
      refine ax_getI dX12_isNumber_38 fl_X12_149 rfl (OKs hZ rfl) ?_
      refine ax_ialdN a0 dX12_isNumber_41 (OKs hZ rfl) hp.1.1 (show _ < 100 by omega) (by decide) ?_
      refine ax_top (congrArg Value.int ((PS_tx hp.1 hT hl).trans (congrArg nI ec.symm))) ?_
      refine ax_iadd dX12_isNumber_42 ?_
      refine ax_bipush (v := 48) dX12_isNumber_43 (by decide) ?_
      refine ax_isub dX12_isNumber_45 ?_
      refine ax_putI dX12_isNumber_46 fl_X12_152 (Or.inl fp_X12_12_14) rfl rfl rfl (OKs hZ rfl) ?_
      refine ax_aload_n (i := 0) dX12_isNumber_49 rfl rfl ?_
      refine ax_dup dX12_isNumber_50 rfl ?_
      refine ax_getI dX12_isNumber_51 fl_X12_149 rfl (OKs hZ rfl) ?_
      refine ax_iconst (v := 1) dX12_isNumber_54 (by decide) ?_
      refine ax_iadd dX12_isNumber_55 ?_
      refine ax_putI dX12_isNumber_56 fl_X12_149 (Or.inl fp_X12_12_13) rfl rfl rfl (OKs hZ rfl) ?_
      refine ax_aload_n (i := 0) dX12_isNumber_59 rfl rfl ?_
      refine ax_dup dX12_isNumber_60 rfl ?_
      refine ax_getI dX12_isNumber_61 fl_X12_155 rfl (OKs hZ rfl) ?_
      refine ax_iconst (v := 1) dX12_isNumber_64 (by decide) ?_
      refine ax_iadd dX12_isNumber_65 ?_
      refine ax_putI dX12_isNumber_66 fl_X12_155 (Or.inl fp_X12_12_15) rfl rfl rfl (OKs hZ rfl) ?_
      refine ax_goto (tgt := 10) dX12_isNumber_69 (by decide) ?_
      refine ax_gen (fun G => PN G0 G T c9 (a0 + 1) cs o 1 (chT T a0 - 48)) (PN_s hp (v' := chT T a0 - 48) (show 10 * nI 0 + nI (chT T a0) - 48 = nI (chT T a0 - 48) by rw [show (10 : Int32) * nI 0 = 0 by decide, Int32.zero_add]; exact pk_sub (b := 48) (by omega)) (by rw [up2_i (by decide), hp.1.1]; exact nI_1 _) (by rw [up2_i (by decide), up2_i (by decide), hp.2.2]; rfl)) (fun G hp => ?_)
      refine ax_lv [(0, .ref 75)] ⟨rfl, trivial⟩ ?_
      exact l_num1 hZ hT hT1 hT2 a0 hp cd
theorem m_num {Z : Zt} {G : Gt} {L : Lt} (hZ : OK Z) {G0 : Gt} {T : Nat × (Nat → Nat)} {c9 : Nat} (hT : imT G0 T) (hT1 : T.1 ≤ 100) (hT2 : ∀ i, i < T.1 → T.2 i < 128) {a : Nat} {cs : List Nat} {o : Nat} (hp : PS G0 G T c9 a cs o) (ha : a ≤ T.1) : AC mX12_isNumber 2 0 0 [.ref 75] Z G L (RP (.int (bI (decide (0 < nmC T a)))) (fun Z' G' L' => Z' = Z ∧ L' = L ∧ PS G0 G' T c9 (a + nmC T a) cs o ∧ G' 75 14 = nI (nmV T a))) := by
  refine AC.intro (by decide +kernel) (Nat.le_of_ble_eq_true rfl) ?_
  refine ax_lv [(0, .ref 75)] ⟨rfl, trivial⟩ ?_
  refine ax_aload_n (i := 0) dX12_isNumber_0 rfl rfl ?_
  refine ax_iconst (v := 0) dX12_isNumber_1 (by decide) ?_
  refine ax_putI dX12_isNumber_2 fl_X12_152 (Or.inl fp_X12_12_14) rfl rfl rfl (OKs hZ rfl) ?_
  refine ax_aload_n (i := 0) dX12_isNumber_5 rfl rfl ?_
  refine ax_iconst (v := 0) dX12_isNumber_6 (by decide) ?_
  refine ax_putI dX12_isNumber_7 fl_X12_155 (Or.inl fp_X12_12_15) rfl rfl rfl (OKs hZ rfl) ?_
  refine ax_gen (fun G => PN G0 G T c9 a cs o 0 0) ⟨PS_f (PS_f hp (Or.inl rfl)) (Or.inr rfl), by rw [up2_i (by decide), up2_s]; rfl, by rw [up2_s]; rfl⟩ (fun G hp => ?_)
  refine ax_lv [(0, .ref 75)] ⟨rfl, trivial⟩ ?_
  exact l_num0 hZ hT hT1 hT2 a ha hp
