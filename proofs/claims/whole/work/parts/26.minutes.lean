-- ===== contracts: minutes go in a World =====
theorem ax_G {X : Option (Nat × (Nat → Int32))} {M : Mt} {d mc ms cu su pc : Nat} {lv : Lv} {st : List Value} {Z : Zt} {G G' : Gt} {L : Lt} {Q : Qt} (h : G = G') (k : AX X M d mc ms cu su pc lv st Z G' L Q) : AX X M d mc ms cu su pc lv st Z G L Q := h ▸ k
theorem AC.weaken {M : Mt} {d mc ms : Nat} {av : List Value} {Z : Zt} {G : Gt} {L : Lt} {Q Q' : Qt} (h : AC M d mc ms av Z G L Q) (hq : ∀ r Z' G' L', Q r Z' G' L' → Q' r Z' G' L') : AC M d mc ms av Z G L Q' := by
  intro l dC dI tc ad sz p e ha hc hk s m args below hf happ hP hK
  obtain ⟨k, o, h1, h2, h3, ⟨⟨r, Z', G', L', ad', a1, a2, a3⟩, a4⟩, a5⟩ := h l dC dI tc ad sz p e ha hc hk s m args below hf happ hP hK
  exact ⟨k, o, h1, h2, h3, ⟨⟨r, Z', G', L', ad', a1, hq _ _ _ _ a2, a3⟩, a4⟩, a5⟩
/-- a World that can go on: m rockets, minute mm, a show that is one -/
def wOK (Z : Zt) (G : Gt) (w m mm : Nat) : Prop := m ≤ 6 ∧ G w 11 = nI m ∧ mm < 1000000 ∧ G w 15 = nI mm ∧ shOK Z G (Z.2.2 w 16) ∧ (∀ p, p < m → ∃ kk, kk < 7 ∧ G (w + 2 + p) 0 = nI kk) ∧ (∀ p, p < m → ∃ q, q < 4 ∧ G (w + 2 + p) 3 = nI q)
theorem shOK_keep {Z : Zt} {G G' : Gt} {o : Option Nat} (h : shOK Z G o) (hk : ∀ k, 108 ≤ k → G' k = G k) : shOK Z G' o := by
  intro k hk9
  obtain ⟨h1, h2, sp, m, h3, h4, h5, h6, h7⟩ := h k hk9
  exact ⟨h1, h2, sp, m, h3, h4, h5, h6, by rw [hk sp h3]; exact h7⟩
theorem wOK_keep {Z : Zt} {G G' : Gt} {w m mm mm' : Nat} (h : wOK Z G w m mm) (h1 : G' w 11 = G w 11) (h2 : mm' < 1000000) (h3 : G' w 15 = nI mm') (h4 : ∀ p, p < m → G' (w + 2 + p) 0 = G (w + 2 + p) 0 ∧ G' (w + 2 + p) 3 = G (w + 2 + p) 3) (h5 : ∀ k, 108 ≤ k → G' k = G k) : wOK Z G' w m mm' := by
  obtain ⟨a1, a2, a3, a4, a5, a6, a7⟩ := h
  exact ⟨a1, h1.trans a2, h2, h3, shOK_keep a5 h5, fun p hp => by rw [(h4 p hp).1]; exact a6 p hp, fun p hp => by rw [(h4 p hp).2]; exact a7 p hp⟩
theorem c_bright {Z : Zt} {G : Gt} {L : Lt} (hZ : OK Z) {w : Nat} (hw : isW Z w) {m mm : Nat} (hW : wOK Z G w m mm) (p : Nat) (hp : p < m) : AC mX10_brightness 4 0 0 [.ref w, .int (nI p)] Z G L (RQ (.int (lightW Z G w m mm p)) Z G L) := by
  obtain ⟨a1, a2, a3, a4, a5, a6, a7⟩ := hW
  obtain ⟨kk, b1, b2⟩ := a6 p hp
  exact c_X10_brightness hZ hw p (by omega) a1 a2 a3 a4 b1 b2 a5
/-- 0 .. 99 -/
def cl (x : Int32) : Int32 := if 0 < (if x < 99 then x else 99) then (if x < 99 then x else 99) else 0
def gdW (G : Gt) (w : Nat) (more : Int32) (k : Nat) : Gt := fun a i => if (w + 2 ≤ a ∧ a < w + 2 + k) ∧ i = 4 ∧ G a 5 = 0 then cl (G a 4 + more) else G a i
theorem gdW_0 {G : Gt} {w : Nat} {more : Int32} : gdW G w more 0 = G := by
  funext a i
  unfold gdW
  rw [if_neg (by omega)]
theorem gdW_n {G : Gt} {w : Nat} {more : Int32} {k a i : Nat} (h : ¬ i = 4) : gdW G w more k a i = G a i := by
  unfold gdW
  rw [if_neg (fun z => h z.2.1)]
theorem gdW_q {G : Gt} {w : Nat} {more : Int32} {q i : Nat} : gdW G w more q (w + 2 + q) i = G (w + 2 + q) i := by
  unfold gdW
  rw [if_neg (by omega)]
theorem gdW_o {G : Gt} {w : Nat} {more : Int32} {k a : Nat} (h : ¬ (w + 2 ≤ a ∧ a < w + 2 + k)) : gdW G w more k a = G a := by
  funext i
  unfold gdW
  rw [if_neg (fun z => h z.1)]
theorem gdW_yes {G : Gt} {w : Nat} {more : Int32} {q : Nat} (h : G (w + 2 + q) 5 = 0) : up2 (gdW G w more q) (w + 2 + q) 4 (cl (G (w + 2 + q) 4 + more)) = gdW G w more (q + 1) := by
  funext a i
  unfold up2 gdW
  by_cases ha : a = w + 2 + q
  · subst ha
    by_cases hi : i = 4
    · subst hi
      rw [if_pos rfl, if_pos rfl, if_pos ⟨by omega, rfl, h⟩]
    · rw [if_pos rfl, if_neg hi, if_neg (fun z => hi z.2.1), if_neg (fun z => hi z.2.1)]
  · rw [if_neg ha]
    by_cases hr : w + 2 ≤ a ∧ a < w + 2 + q
    · by_cases hc : i = 4 ∧ G a 5 = 0
      · rw [if_pos ⟨hr, hc⟩, if_pos ⟨by omega, hc⟩]
      · rw [if_neg (fun z => hc z.2), if_neg (fun z => hc z.2)]
    · rw [if_neg (fun z => hr z.1), if_neg (fun z => hr (by have := z.1; omega))]
theorem gdW_no {G : Gt} {w : Nat} {more : Int32} {q : Nat} (h : ¬ G (w + 2 + q) 5 = 0) : gdW G w more q = gdW G w more (q + 1) := by
  funext a i
  unfold gdW
  by_cases ha : a = w + 2 + q
  · subst ha
    rw [if_neg (by omega), if_neg (fun z => h z.2.2)]
  · by_cases hr : w + 2 ≤ a ∧ a < w + 2 + q
    · by_cases hc : i = 4 ∧ G a 5 = 0
      · rw [if_pos ⟨hr, hc⟩, if_pos ⟨by omega, hc⟩]
      · rw [if_neg (fun z => hc z.2), if_neg (fun z => hc z.2)]
    · rw [if_neg (fun z => hr z.1), if_neg (fun z => hr (by have := z.1; omega))]
/-- a minute goes in World w -/
def min1 (Z : Zt) (w m mm : Nat) (G : Gt) : Gt := up2 (gdW G w (3 * G (w + 9) (mm % 4) - dryO Z G (Z.2.2 w 16)) m) w 15 (G w 15 + 1)
def minN (Z : Zt) (w m : Nat) : Nat → Nat → Gt → Gt
  | 0, _, G => G
  | r + 1, mm, G => minN Z w m r (mm + 1) (min1 Z w m mm G)
theorem min1_OK {Z : Zt} {G : Gt} {w m mm : Nat} (hwl : w < 100) (h : wOK Z G w m mm) (hm : mm + 1 < 1000000) : wOK Z (min1 Z w m mm G) w m (mm + 1) := by
  have hm6 := h.1
  refine wOK_keep h ?_ hm ?_ (fun p hp => ?_) (fun k hk => ?_)
  · unfold min1
    rw [up2_i (by decide), gdW_n (by decide)]
  · unfold min1
    rw [up2_s, h.2.2.2.1]
    exact nI_1 mm
  · unfold min1
    rw [up2_k (by omega), up2_k (by omega), gdW_n (by decide), gdW_n (by decide)]
    exact ⟨rfl, rfl⟩
  · unfold min1
    rw [up2_row (by omega), gdW_o (by omega)]
theorem l_X10_minIn {Z : Zt} {G : Gt} {L : Lt} {Q : Qt} (hZ : OK Z) {w : Nat} (hw : isW Z w) {m : Nat} (hm : m ≤ 6) (hc : G w 11 = nI m) (more n9 i9 : Int32) (hend : AX none mX10_minutesGo 3 0 0 0 0 79 [(0, .ref w), (1, .int n9), (2, .int i9)] [] Z (gdW G w more m) L Q) : ∀ (n q : Nat), q ≤ m → m - q < n → AX none mX10_minutesGo 3 0 0 0 0 22 [(0, .ref w), (1, .int n9), (2, .int i9), (3, .int more), (4, .int (nI q))] [] Z (gdW G w more q) L Q := by
  intro n
  induction n with
  | zero => intro q h1 h2; omega
  | succ n ih =>
    intro q h1 h2
    refine ax_iload dX10_minutesGo_22 rfl ?_
    refine ax_aload_n (i := 0) dX10_minutesGo_24 rfl rfl ?_
    refine ax_getI dX10_minutesGo_25 fl_X10_69 rfl (Ws0 hw) ?_
    refine ax_icmp_ge (tgt := 79) dX10_minutesGo_28 (by decide) (fun c_28 => ?_) (fun c_28 => ?_)
    · obtain rfl : q = m := by rw [gdW_n (by decide), hc] at c_28; have := (nI_leI (by omega) (by omega)).mp c_28; omega
      exact ax_lv [(0, .ref w), (1, .int n9), (2, .int i9)] ⟨rfl, rfl, rfl, trivial⟩ hend
    · have hqm : q < m := by rw [gdW_n (by decide), hc] at c_28; have := mt (nI_leI (by omega) (by omega)).mpr c_28; omega
      have hq6 : q < 6 := by omega
      refine ax_aload_n (i := 0) dX10_minutesGo_31 rfl rfl ?_
      refine ax_iload dX10_minutesGo_32 rfl ?_
      refine ax_cVv dX10_minutesGo_34 lk_X10_137 (c_X10_isUnlit hw q hq6) rfl (Ws0 hw) ⟨_, rfl, rfl⟩ rfl (Nat.le_of_ble_eq_true rfl) (Nat.le_of_ble_eq_true rfl) (Nat.le_of_ble_eq_true rfl) (Nat.le_of_ble_eq_true rfl) ?_
      refine ax_if_eq (tgt := 73) dX10_minutesGo_37 (by decide) (fun c_37 => ?_) (fun c_37 => ?_)
      · refine ax_iinc (v := (nI q) + 1) dX10_minutesGo_73 rfl rfl (by decide) rfl ?_
        refine ax_goto (tgt := 22) dX10_minutesGo_76 (by decide) ?_
        refine ax_G (G' := gdW G w more (q + 1)) (by first | exact gdW_no (fun z => by rw [gdW_n (by decide)] at c_37; exact bi_eq.mp c_37 z) | (rw [← gdW_yes (by rw [gdW_n (by decide)] at c_37; exact bi_ne.mp c_37)]; unfold cl; rw [gdW_q])) ?_
        refine ax_lv [(0, .ref w), (1, .int n9), (2, .int i9), (3, .int more), (4, .int (nI (q + 1)))] ⟨rfl, rfl, rfl, rfl, sI (nI_1 q), trivial⟩ ?_
        exact ih (q + 1) (by omega) (by omega)
      · refine ax_aload_n (i := 0) dX10_minutesGo_40 rfl rfl ?_
        refine ax_getR dX10_minutesGo_41 fl_X10_38 rfl (Ws0 hw) (Wr hw 1 rfl) ?_
        refine ax_iload dX10_minutesGo_44 rfl ?_
        refine ax_aaldN q (t0 := 5) dX10_minutesGo_46 (Ws hw 1 rfl) rfl (fun _ => rfl) rfl hq6 (by decide) (Wrf hw hq6) ?_
        refine ax_iconst (v := 4) dX10_minutesGo_47 (by decide) ?_
        refine ax_ialdN 4 dX10_minutesGo_48 (Wrow hw hq6) rfl (by decide) (by decide) ?_
        refine ax_iload_n (i := 3) dX10_minutesGo_49 rfl rfl ?_
        refine ax_iadd dX10_minutesGo_50 ?_
        refine ax_istore dX10_minutesGo_51 (by decide) rfl ?_
        refine ax_aload_n (i := 0) dX10_minutesGo_53 rfl rfl ?_
        refine ax_getR dX10_minutesGo_54 fl_X10_38 rfl (Ws0 hw) (Wr hw 1 rfl) ?_
        refine ax_iload dX10_minutesGo_57 rfl ?_
        refine ax_aaldN q (t0 := 5) dX10_minutesGo_59 (Ws hw 1 rfl) rfl (fun _ => rfl) rfl hq6 (by decide) (Wrf hw hq6) ?_
        refine ax_iconst (v := 4) dX10_minutesGo_60 (by decide) ?_
        refine ax_iconst (v := 0) dX10_minutesGo_61 (by decide) ?_
        refine ax_bipush (v := 99) dX10_minutesGo_62 (by decide) ?_
        refine ax_iload dX10_minutesGo_64 rfl ?_
        refine ax_min dX10_minutesGo_66 lm_X10_141 (by decide) (Nat.le_of_ble_eq_true rfl) (Nat.le_of_ble_eq_true rfl) (Nat.le_of_ble_eq_true rfl) ?_
        refine ax_max dX10_minutesGo_69 lm_X10_121 (by decide) (Nat.le_of_ble_eq_true rfl) (Nat.le_of_ble_eq_true rfl) (Nat.le_of_ble_eq_true rfl) ?_
        refine ax_iastN 4 dX10_minutesGo_72 (Wrow hw hq6) rfl (by decide) (by decide) ?_
        refine ax_iinc (v := (nI q) + 1) dX10_minutesGo_73 rfl rfl (by decide) rfl ?_
        refine ax_goto (tgt := 22) dX10_minutesGo_76 (by decide) ?_
        refine ax_G (G' := gdW G w more (q + 1)) (by first | exact gdW_no (fun z => by rw [gdW_n (by decide)] at c_37; exact bi_eq.mp c_37 z) | (rw [← gdW_yes (by rw [gdW_n (by decide)] at c_37; exact bi_ne.mp c_37)]; unfold cl; rw [gdW_q])) ?_
        refine ax_lv [(0, .ref w), (1, .int n9), (2, .int i9), (3, .int more), (4, .int (nI (q + 1)))] ⟨rfl, rfl, rfl, rfl, sI (nI_1 q), trivial⟩ ?_
        exact ih (q + 1) (by omega) (by omega)
theorem l_X10_minOut {Z : Zt} {L : Lt} {Q : Qt} (hZ : OK Z) {w : Nat} (hw : isW Z w) {m n : Nat} (hn : n ≤ 100) : ∀ (r i mm : Nat) (G : Gt), i + r = n → mm + r < 1000000 → wOK Z G w m mm → Q none Z (minN Z w m r mm G) L → AX none mX10_minutesGo 3 0 0 0 0 2 [(0, .ref w), (1, .int (nI n)), (2, .int (nI i))] [] Z G L Q := by
  have hwl : w < 100 := by rcases hw.2 with h | h | h <;> omega
  intro r
  induction r with
  | zero =>
    intro i mm G h1 h2 hW hq
    obtain rfl : i = n := by omega
    refine ax_iload_n (i := 2) dX10_minutesGo_2 rfl rfl ?_
    refine ax_iload_n (i := 1) dX10_minutesGo_3 rfl rfl ?_
    refine ax_icmp_ge (tgt := 95) dX10_minutesGo_4 (by decide) (fun c_4 => ?_) (fun c_4 => ?_)
    · refine ax_vret dX10_minutesGo_95 rfl (Nat.le_of_ble_eq_true rfl) (Nat.le_of_ble_eq_true rfl) ?_
      exact hq
    · exact absurd (Int32.le_refl _) c_4
  | succ r ih =>
    intro i mm G h1 h2 hW hq
    obtain ⟨a1, a2, a3, a4, a5, a6, a7⟩ := id hW
    refine ax_iload_n (i := 2) dX10_minutesGo_2 rfl rfl ?_
    refine ax_iload_n (i := 1) dX10_minutesGo_3 rfl rfl ?_
    refine ax_icmp_ge (tgt := 95) dX10_minutesGo_4 (by decide) (fun c_4 => ?_) (fun c_4 => ?_)
    · exact absurd c_4 (nI_ge (by omega) (by omega))
    · refine ax_iconst (v := 3) dX10_minutesGo_7 (by decide) ?_
      refine ax_aload_n (i := 0) dX10_minutesGo_8 rfl rfl ?_
      refine ax_cVv dX10_minutesGo_9 lk_X10_130 (c_X10_rainNow hw a3 a4) rfl (Ws0 hw) ⟨_, rfl, rfl⟩ rfl (Nat.le_of_ble_eq_true rfl) (Nat.le_of_ble_eq_true rfl) (Nat.le_of_ble_eq_true rfl) (Nat.le_of_ble_eq_true rfl) ?_
      refine ax_imul dX10_minutesGo_12 ?_
      refine ax_aload_n (i := 0) dX10_minutesGo_13 rfl rfl ?_
      refine ax_cVv dX10_minutesGo_14 lk_X10_134 (c_X10_dryness hw a5) rfl (Ws0 hw) ⟨_, rfl, rfl⟩ rfl (Nat.le_of_ble_eq_true rfl) (Nat.le_of_ble_eq_true rfl) (Nat.le_of_ble_eq_true rfl) (Nat.le_of_ble_eq_true rfl) ?_
      refine ax_isub dX10_minutesGo_17 ?_
      refine ax_istore_n (i := 3) dX10_minutesGo_18 rfl (by decide) rfl ?_
      refine ax_iconst (v := 0) dX10_minutesGo_19 (by decide) ?_
      refine ax_istore dX10_minutesGo_20 (by decide) rfl ?_
      refine ax_lv [(0, .ref w), (1, .int (nI n)), (2, .int (nI i)), (3, .int (3 * G (w + 9) (mm % 4) - dryO Z G (Z.2.2 w 16))), (4, .int (nI 0))] ⟨rfl, rfl, rfl, rfl, rfl, trivial⟩ ?_
      refine ax_G (gdW_0 (G := G) (w := w) (more := 3 * G (w + 9) (mm % 4) - dryO Z G (Z.2.2 w 16))).symm ?_
      refine l_X10_minIn hZ hw a1 a2 _ _ _ ?_ (m + 1) 0 (by omega) (by omega)
      refine ax_aload_n (i := 0) dX10_minutesGo_79 rfl rfl ?_
      refine ax_dup dX10_minutesGo_80 rfl ?_
      refine ax_getI dX10_minutesGo_81 fl_X10_79 rfl (Ws0 hw) ?_
      refine ax_iconst (v := 1) dX10_minutesGo_84 (by decide) ?_
      refine ax_iadd dX10_minutesGo_85 ?_
      refine ax_putI dX10_minutesGo_86 fl_X10_79 (Or.inl fp_X10_10_15) rfl rfl rfl (Ws0 hw) ?_
      refine ax_iinc (v := (nI i) + 1) dX10_minutesGo_89 rfl rfl (by decide) rfl ?_
      refine ax_goto (tgt := 2) dX10_minutesGo_92 (by decide) ?_
      refine ax_lv [(0, .ref w), (1, .int (nI n)), (2, .int (nI (i + 1)))] ⟨rfl, rfl, sI (nI_1 i), trivial⟩ ?_
      refine ax_G (G' := min1 Z w m mm G) (by unfold min1; rw [gdW_n (by decide)]) ?_
      exact ih (i + 1) (mm + 1) _ (by omega) (by omega) (min1_OK hwl hW (by omega)) hq
theorem c_minutesGo {Z : Zt} {G : Gt} {L : Lt} (hZ : OK Z) {w : Nat} (hw : isW Z w) {m mm : Nat} (hW : wOK Z G w m mm) (n : Nat) (hn : n ≤ 100) (hmn : mm + n < 1000000) : AC mX10_minutesGo 3 0 0 [.ref w, .int (nI n)] Z G L (DQ none Z (minN Z w m n mm G) L) := by
  refine AC.intro (by decide +kernel) (Nat.le_of_ble_eq_true rfl) ?_
  refine ax_lv [(0, .ref w), (1, .int (nI n))] ⟨rfl, rfl, trivial⟩ ?_
  refine ax_iconst (v := 0) dX10_minutesGo_0 (by decide) ?_
  refine ax_istore_n (i := 2) dX10_minutesGo_1 rfl (by decide) rfl ?_
  refine ax_lv [(0, .ref w), (1, .int (nI n)), (2, .int (nI 0))] ⟨rfl, rfl, rfl, trivial⟩ ?_
  exact l_X10_minOut hZ hw hn n 0 mm G (by omega) hmn hW ⟨rfl, rfl, rfl, rfl⟩
