-- ===== contracts: rockets are lit in a World =====
def mx0 (x : Int32) : Int32 := if 0 < x then x else 0
/-- rocket p of World w is lit -/
def ignG (Z : Zt) (w m mm p : Nat) (G : Gt) : Gt := if lightW Z G w m mm p ≤ 0 then up2 G (w + 2 + p) 5 1 else up2 (up2 G (w + 8) (G (w + 2 + p) 3).toNatClampNeg (mx0 (G (w + 8) (G (w + 2 + p) 3).toNatClampNeg - lightW Z G w m mm p))) (w + 2 + p) 5 2
def ignR (Z : Zt) (w m mm p : Nat) (G : Gt) : Int32 := if lightW Z G w m mm p ≤ 0 then 1 else 2
theorem w3 {Z : Zt} {G : Gt} {w m mm p : Nat} (h : wOK Z G w m mm) (hp : p < m) : G (w + 2 + p) 3 = nI (G (w + 2 + p) 3).toNatClampNeg ∧ (G (w + 2 + p) 3).toNatClampNeg < 4 := by
  obtain ⟨q, h1, h2⟩ := h.2.2.2.2.2.2 p hp
  rw [h2, nI_clamp (by omega)]
  exact ⟨rfl, h1⟩
theorem ignG_OK {Z : Zt} {G : Gt} {w m mm p : Nat} (hwl : w < 100) (h : wOK Z G w m mm) (hp : p < m) : wOK Z (ignG Z w m mm p G) w m mm := by
  have hm6 := h.1
  refine wOK_keep h ?_ h.2.2.1 ?_ (fun a ha => ?_) (fun k hk => ?_) <;> unfold ignG <;> by_cases e : lightW Z G w m mm p ≤ 0
  · rw [if_pos e, up2_k (by omega)]
  · rw [if_neg e, up2_k (by omega), up2_k (by omega)]
  · rw [if_pos e, up2_k (by omega)]; exact h.2.2.2.1
  · rw [if_neg e, up2_k (by omega), up2_k (by omega)]; exact h.2.2.2.1
  · rw [if_pos e]; constructor <;> rw [up2_i (by decide)]
  · rw [if_neg e]; constructor <;> rw [up2_i (by decide), up2_k (by omega)]
  · rw [if_pos e, up2_row (by omega)]
  · rw [if_neg e, up2_row (by omega), up2_row (by omega)]
theorem c_ignite {Z : Zt} {G : Gt} {L : Lt} (hZ : OK Z) {w : Nat} (hw : isW Z w) {m mm : Nat} (hW : wOK Z G w m mm) (p : Nat) (hp : p < m) : AC mX10_ignite 5 0 0 [.ref w, .int (nI p)] Z G L (DQ (some (.int (ignR Z w m mm p G))) Z (ignG Z w m mm p G) L) := by
  refine AC.intro (by decide +kernel) (Nat.le_of_ble_eq_true rfl) ?_
  refine ax_lv [(0, .ref w), (1, .int (nI p))] ⟨rfl, rfl, trivial⟩ ?_
  have hp6 : p < 6 := by have := hW.1; omega
  refine ax_aload_n (i := 0) dX10_ignite_0 rfl rfl ?_
  refine ax_getR dX10_ignite_1 fl_X10_38 rfl (Ws0 hw) (Wr hw 1 rfl) ?_
  refine ax_iload_n (i := 1) dX10_ignite_4 rfl rfl ?_
  refine ax_aaldN p (t0 := 5) dX10_ignite_5 (Ws hw 1 rfl) rfl (fun _ => rfl) rfl hp6 (by decide) (Wrf hw hp6) ?_
  refine ax_astore_n (i := 2) dX10_ignite_6 rfl (by decide) rfl ?_
  refine ax_aload_n (i := 0) dX10_ignite_7 rfl rfl ?_
  refine ax_iload_n (i := 1) dX10_ignite_8 rfl rfl ?_
  refine ax_cVv dX10_ignite_9 lk_X10_118 (c_bright hZ hw hW p hp) rfl (Ws0 hw) ⟨_, rfl, rfl⟩ rfl (Nat.le_of_ble_eq_true rfl) (Nat.le_of_ble_eq_true rfl) (Nat.le_of_ble_eq_true rfl) (Nat.le_of_ble_eq_true rfl) ?_
  refine ax_istore_n (i := 3) dX10_ignite_12 rfl (by decide) rfl ?_
  refine ax_iload_n (i := 3) dX10_ignite_13 rfl rfl ?_
  refine ax_if_le (tgt := 42) dX10_ignite_14 (by decide) (fun c_14 => ?_) (fun c_14 => ?_)
  · refine ax_aload_n (i := 2) dX10_ignite_42 rfl rfl ?_
    refine ax_iconst (v := 5) dX10_ignite_43 (by decide) ?_
    refine ax_iload_n (i := 3) dX10_ignite_44 rfl rfl ?_
    refine ax_if_le (tgt := 52) dX10_ignite_45 (by decide) (fun c_45 => ?_) (fun c_45 => ?_)
    · refine ax_iconst (v := 1) dX10_ignite_52 (by decide) ?_
      refine ax_iastN 5 dX10_ignite_53 (Wrow hw hp6) rfl (by decide) (by decide) ?_
      refine ax_aload_n (i := 2) dX10_ignite_54 rfl rfl ?_
      refine ax_iconst (v := 5) dX10_ignite_55 (by decide) ?_
      refine ax_ialdN 5 dX10_ignite_56 (Wrow hw hp6) rfl (by decide) (by decide) ?_
      refine ax_iret dX10_ignite_57 rfl rfl (Nat.le_of_ble_eq_true rfl) (Nat.le_of_ble_eq_true rfl) ?_
      exact ⟨congrArg (fun z => some (Value.int z)) (by unfold ignR; first | rw [if_pos c_14, up2_s] | rw [if_neg c_14, up2_s]), rfl, (by unfold ignG mx0; first | rw [if_pos c_14] | rw [if_neg c_14]), rfl⟩
    · exact absurd c_14 c_45
  · refine ax_aload_n (i := 2) dX10_ignite_17 rfl rfl ?_
    refine ax_iconst (v := 3) dX10_ignite_18 (by decide) ?_
    refine ax_ialdN 3 dX10_ignite_19 (Wrow hw hp6) rfl (by decide) (by decide) ?_
    refine ax_istore dX10_ignite_20 (by decide) rfl ?_
    refine ax_aload_n (i := 0) dX10_ignite_22 rfl rfl ?_
    refine ax_getR dX10_ignite_23 fl_X10_41 rfl (Ws0 hw) (Wr hw 2 rfl) ?_
    refine ax_iload dX10_ignite_26 rfl ?_
    refine ax_iconst (v := 0) dX10_ignite_28 (by decide) ?_
    refine ax_aload_n (i := 0) dX10_ignite_29 rfl rfl ?_
    refine ax_getR dX10_ignite_30 fl_X10_41 rfl (Ws0 hw) (Wr hw 2 rfl) ?_
    refine ax_iload dX10_ignite_33 rfl ?_
    refine ax_ialdN ((G (w + 2 + p) 3).toNatClampNeg) dX10_ignite_35 (Ws hw 8 rfl) (w3 hW hp).1 (w3 hW hp).2 (by decide) ?_
    refine ax_iload_n (i := 3) dX10_ignite_36 rfl rfl ?_
    refine ax_isub dX10_ignite_37 ?_
    refine ax_max dX10_ignite_38 lm_X10_121 (by decide) (Nat.le_of_ble_eq_true rfl) (Nat.le_of_ble_eq_true rfl) (Nat.le_of_ble_eq_true rfl) ?_
    refine ax_iastN ((G (w + 2 + p) 3).toNatClampNeg) dX10_ignite_41 (Ws hw 8 rfl) (w3 hW hp).1 (w3 hW hp).2 (by decide) ?_
    refine ax_aload_n (i := 2) dX10_ignite_42 rfl rfl ?_
    refine ax_iconst (v := 5) dX10_ignite_43 (by decide) ?_
    refine ax_iload_n (i := 3) dX10_ignite_44 rfl rfl ?_
    refine ax_if_le (tgt := 52) dX10_ignite_45 (by decide) (fun c_45 => ?_) (fun c_45 => ?_)
    · exact absurd c_45 c_14
    · refine ax_iconst (v := 2) dX10_ignite_48 (by decide) ?_
      refine ax_goto (tgt := 53) dX10_ignite_49 (by decide) ?_
      refine ax_iastN 5 dX10_ignite_53 (Wrow hw hp6) rfl (by decide) (by decide) ?_
      refine ax_aload_n (i := 2) dX10_ignite_54 rfl rfl ?_
      refine ax_iconst (v := 5) dX10_ignite_55 (by decide) ?_
      refine ax_ialdN 5 dX10_ignite_56 (Wrow hw hp6) rfl (by decide) (by decide) ?_
      refine ax_iret dX10_ignite_57 rfl rfl (Nat.le_of_ble_eq_true rfl) (Nat.le_of_ble_eq_true rfl) ?_
      exact ⟨congrArg (fun z => some (Value.int z)) (by unfold ignR; first | rw [if_pos c_14, up2_s] | rw [if_neg c_14, up2_s]), rfl, (by unfold ignG mx0; first | rw [if_pos c_14] | rw [if_neg c_14]), rfl⟩
/-- those of some, by number, are lit -/
def ignA (Z : Zt) (w m mm : Nat) (some : Int32) (G : Gt) : Nat → Gt
  | 0 => G
  | p + 1 => if (some >>> (nI p &&& 31)) &&& 1 = 0 then ignA Z w m mm some G p else ignG Z w m mm p (ignA Z w m mm some G p)
theorem ignA_OK {Z : Zt} {G : Gt} {w m mm : Nat} {some : Int32} (hwl : w < 100) (h : wOK Z G w m mm) : ∀ p, p ≤ m → wOK Z (ignA Z w m mm some G p) w m mm
  | 0, _ => h
  | p + 1, hp => by
    unfold ignA
    by_cases e : (some >>> (nI p &&& 31)) &&& 1 = 0
    · rw [if_pos e]; exact ignA_OK hwl h p (by omega)
    · rw [if_neg e]; exact ignG_OK hwl (ignA_OK hwl h p (by omega)) (by omega)
theorem ignA_y {Z : Zt} {G : Gt} {w m mm p : Nat} {some : Int32} (e : (some >>> (nI p &&& 31)) &&& 1 = 0) : ignA Z w m mm some G p = ignA Z w m mm some G (p + 1) := by
  rw [ignA, if_pos e]
theorem ignA_n {Z : Zt} {G : Gt} {w m mm p : Nat} {some : Int32} (e : ¬ (some >>> (nI p &&& 31)) &&& 1 = 0) : ignG Z w m mm p (ignA Z w m mm some G p) = ignA Z w m mm some G (p + 1) := by
  rw [ignA, if_neg e]
theorem l_X10_igniteAll {Z : Zt} {G : Gt} {L : Lt} {Q : Qt} (hZ : OK Z) {w : Nat} (hw : isW Z w) {m mm : Nat} (hW : wOK Z G w m mm) (some9 : Int32) (hend : AX none mX10_igniteAll 6 0 0 0 0 30 [] [] Z (ignA Z w m mm some9 G m) L Q) : ∀ (n q : Nat), q ≤ m → m - q < n → AX none mX10_igniteAll 6 0 0 0 0 2 [(0, .ref w), (1, .int some9), (2, .int (nI q))] [] Z (ignA Z w m mm some9 G q) L Q := by
  intro n
  induction n with
  | zero => intro q h1 h2; omega
  | succ n ih =>
    intro q h1 h2
    have hWq := ignA_OK (some := some9) (show w < 100 by rcases hw.2 with h | h | h <;> omega) hW q h1
    have hm6 := hW.1
    refine ax_iload_n (i := 2) dX10_igniteAll_2 rfl rfl ?_
    refine ax_aload_n (i := 0) dX10_igniteAll_3 rfl rfl ?_
    refine ax_getI dX10_igniteAll_4 fl_X10_69 rfl (Ws0 hw) ?_
    refine ax_icmp_ge (tgt := 30) dX10_igniteAll_7 (by decide) (fun c_7 => ?_) (fun c_7 => ?_)
    · obtain rfl : q = m := by rw [hWq.2.1] at c_7; have := (nI_leI (by omega) (by omega)).mp c_7; omega
      exact ax_lv [] trivial hend
    · have hqm : q < m := by rw [hWq.2.1] at c_7; have := mt (nI_leI (by omega) (by omega)).mpr c_7; omega
      refine ax_iload_n (i := 1) dX10_igniteAll_10 rfl rfl ?_
      refine ax_iload_n (i := 2) dX10_igniteAll_11 rfl rfl ?_
      refine ax_ishr dX10_igniteAll_12 ?_
      refine ax_iconst (v := 1) dX10_igniteAll_13 (by decide) ?_
      refine ax_iand dX10_igniteAll_14 ?_
      refine ax_if_eq (tgt := 24) dX10_igniteAll_15 (by decide) (fun c_15 => ?_) (fun c_15 => ?_)
      · refine ax_iinc (v := (nI q) + 1) dX10_igniteAll_24 rfl rfl (by decide) rfl ?_
        refine ax_goto (tgt := 2) dX10_igniteAll_27 (by decide) ?_
        refine ax_G (G' := ignA Z w m mm some9 G (q + 1)) (by first | exact ignA_y c_15 | exact ignA_n c_15) ?_
        refine ax_lv [(0, .ref w), (1, .int some9), (2, .int (nI (q + 1)))] ⟨rfl, rfl, sI (nI_1 q), trivial⟩ ?_
        exact ih (q + 1) (by omega) (by omega)
      · refine ax_aload_n (i := 0) dX10_igniteAll_18 rfl rfl ?_
        refine ax_iload_n (i := 2) dX10_igniteAll_19 rfl rfl ?_
        refine ax_cVv dX10_igniteAll_20 lk_X10_127 (c_ignite hZ hw hWq q hqm) rfl (Ws0 hw) ⟨_, rfl, rfl⟩ rfl (Nat.le_of_ble_eq_true rfl) (Nat.le_of_ble_eq_true rfl) (Nat.le_of_ble_eq_true rfl) (Nat.le_of_ble_eq_true rfl) ?_
        refine ax_pop dX10_igniteAll_23 rfl ?_
        refine ax_iinc (v := (nI q) + 1) dX10_igniteAll_24 rfl rfl (by decide) rfl ?_
        refine ax_goto (tgt := 2) dX10_igniteAll_27 (by decide) ?_
        refine ax_G (G' := ignA Z w m mm some9 G (q + 1)) (by first | exact ignA_y c_15 | exact ignA_n c_15) ?_
        refine ax_lv [(0, .ref w), (1, .int some9), (2, .int (nI (q + 1)))] ⟨rfl, rfl, sI (nI_1 q), trivial⟩ ?_
        exact ih (q + 1) (by omega) (by omega)
theorem c_igniteAll {Z : Zt} {G : Gt} {L : Lt} (hZ : OK Z) {w : Nat} (hw : isW Z w) {m mm : Nat} (hW : wOK Z G w m mm) (some9 : Int32) : AC mX10_igniteAll 6 0 0 [.ref w, .int some9] Z G L (DQ none Z (ignA Z w m mm some9 G m) L) := by
  refine AC.intro (by decide +kernel) (Nat.le_of_ble_eq_true rfl) ?_
  refine ax_lv [(0, .ref w), (1, .int some9)] ⟨rfl, rfl, trivial⟩ ?_
  refine ax_iconst (v := 0) dX10_igniteAll_0 (by decide) ?_
  refine ax_istore_n (i := 2) dX10_igniteAll_1 rfl (by decide) rfl ?_
  refine ax_lv [(0, .ref w), (1, .int some9), (2, .int (nI 0))] ⟨rfl, rfl, rfl, trivial⟩ ?_
  refine l_X10_igniteAll hZ hw hW some9 ?_ (m + 1) 0 (by omega) (by omega)
  refine ax_vret dX10_igniteAll_30 rfl (Nat.le_of_ble_eq_true rfl) (Nat.le_of_ble_eq_true rfl) ?_
  exact ⟨rfl, rfl, rfl, rfl⟩
