-- ===== contracts: a World goes on from another =====
def cpN {α : Type} (f g : Nat → α) (n : Nat) : Nat → α := fun i => if i < n then f i else g i
theorem cpN_l {α : Type} {f g : Nat → α} {n i : Nat} (h : i < n) : cpN f g n i = f i := if_pos h
theorem cpN_g {α : Type} {f g : Nat → α} {n i : Nat} (h : ¬ i < n) : cpN f g n i = g i := if_neg h
theorem cpy_0 {α : Type} {f g : Nat → α} {n : Nat} : va_cpy f g 0 0 n = cpN f g n := by
  funext i
  unfold va_cpy cpN
  by_cases h : i < n
  · rw [if_pos ⟨Nat.zero_le _, by omega⟩, if_pos h]; congr 1; omega
  · rw [if_neg (by omega), if_neg h]
theorem ax_copyI0 {X : Option (Nat × (Nat → Int32))} {M : Mt} {d mc ms cu su pc : Nat} {lv : Lv} {st : List Value} {Z : Zt} {G : Gt} {L : Lt} {Q : Qt} {idx k0 k1 n0 n1 : Nat} {N9 : Int32} (n : Nat) (hd : decode M.2.1 pc = .ok (.invokestatic idx, 3)) (hk : LkC M.1.cls idx) (hz0 : Z.2.1 k0 = some (.inr (.int, n0))) (hz1 : Z.2.1 k1 = some (.inr (.int, n1))) (hN : N9 = nI n) (h4 : n ≤ n0) (h5 : n ≤ n1) (hb : n < 2147483648) (h6 : 1 ≤ d) (h7 : (st.map fun v => v.category).sum ≤ 8)
    (kk : AX X M d mc ms cu su (pc + 3) lv st Z (upr G k1 (cpN (G k0) (G k1) n)) L Q) : AX X M d mc ms cu su pc lv (.int N9 :: .int 0 :: .ref k1 :: .int 0 :: .ref k0 :: st) Z G L Q := by
  subst hN
  have e : (nI n).toNatClampNeg = n := nI_clamp hb
  refine ax_copyI hd hk hz0 hz1 (by decide) (by decide) (nI_pos hb) (by rw [e]; show 0 + n ≤ n0; omega) (by rw [e]; show 0 + n ≤ n1; omega) h6 h7 ?_
  rw [e, show (0 : Int32).toNatClampNeg = 0 from rfl, cpy_0]
  exact kk
/-- the first q rows of v have come to w -/
def gRow (G : Gt) (w v q : Nat) : Gt := fun a => if w + 2 ≤ a ∧ a < w + 2 + q then cpN (G (a - (w + 2) + (v + 2))) (G a) 10 else G a
theorem gRow_0 {G : Gt} {w v : Nat} : gRow G w v 0 = G := by
  funext a
  unfold gRow
  rw [if_neg (by omega)]
theorem gRow_o {G : Gt} {w v q a : Nat} (h : ¬ (w + 2 ≤ a ∧ a < w + 2 + q)) : gRow G w v q a = G a := if_neg h
theorem gRow_i {G : Gt} {w v q p : Nat} (h : p < q) : gRow G w v q (w + 2 + p) = cpN (G (v + 2 + p)) (G (w + 2 + p)) 10 := by
  unfold gRow
  rw [if_pos (by omega), show w + 2 + p - (w + 2) + (v + 2) = v + 2 + p by omega]
theorem gRow_s {G : Gt} {w v q : Nat} (hq : q < 6) (hd : w + 17 ≤ v ∨ v + 17 ≤ w) : upr (gRow G w v q) (w + 2 + q) (cpN (gRow G w v q (v + 2 + q)) (gRow G w v q (w + 2 + q)) 10) = gRow G w v (q + 1) := by
  funext a
  by_cases ha : a = w + 2 + q
  · subst ha
    rw [upr_s, gRow_i (Nat.lt_succ_self q), gRow_o (by omega), gRow_o (by omega)]
  · rw [upr_n ha]
    unfold gRow
    by_cases hr : w + 2 ≤ a ∧ a < w + 2 + q
    · rw [if_pos hr, if_pos (by omega)]
    · rw [if_neg hr, if_neg (by omega)]
/-- w goes on from v -/
def goP (G G' : Gt) (w v m : Nat) : Prop := (∀ p, p < m → ∀ i, i < 10 → G' (w + 2 + p) i = G (v + 2 + p) i) ∧ (∀ q, q < 4 → G' (w + 8) q = G (v + 8) q) ∧ (∀ q, q < 4 → G' (w + 9) q = G (v + 9) q) ∧ G' w 11 = G v 11 ∧ G' w 15 = G v 15 ∧ (∀ i, i ≠ 11 → i ≠ 15 → G' w i = G w i) ∧ (∀ a, ¬ (w ≤ a ∧ a < w + 10) → G' a = G a)
def Zheld (Z : Zt) (w v : Nat) : Zt := (Z.1, Z.2.1, up2 Z.2.2 w 16 (Z.2.2 v 16))
theorem l_X10_goOnFrom {Z : Zt} {G : Gt} {L : Lt} {Q : Qt} (hZ : OK Z) {w v : Nat} (hw : isW Z w) (hv : isW Z v) (hd : w + 17 ≤ v ∨ v + 17 ≤ w) {m : Nat} (hm : m ≤ 6) (hc : G v 11 = nI m) (hend : AX none mX10_goOnFrom 2 0 0 0 0 35 [(0, .ref w), (1, .ref v)] [] Z (gRow G w v m) L Q) : ∀ (n q : Nat), q ≤ m → m - q < n → AX none mX10_goOnFrom 2 0 0 0 0 2 [(0, .ref w), (1, .ref v), (2, .int (nI q))] [] Z (gRow G w v q) L Q := by
  intro n
  induction n with
  | zero => intro q h1 h2; omega
  | succ n ih =>
    intro q h1 h2
    refine ax_iload_n (i := 2) dX10_goOnFrom_2 rfl rfl ?_
    refine ax_aload_n (i := 1) dX10_goOnFrom_3 rfl rfl ?_
    refine ax_getI dX10_goOnFrom_4 fl_X10_69 rfl (Ws0 hv) ?_
    refine ax_icmp_ge (tgt := 35) dX10_goOnFrom_7 (by decide) (fun c_7 => ?_) (fun c_7 => ?_)
    · obtain rfl : q = m := by rw [gRow_o (by omega), hc] at c_7; have := (nI_leI (by omega) (by omega)).mp c_7; omega
      exact ax_lv [(0, .ref w), (1, .ref v)] ⟨rfl, rfl, trivial⟩ hend
    · have hqm : q < m := by rw [gRow_o (by omega), hc] at c_7; have := mt (nI_leI (by omega) (by omega)).mpr c_7; omega
      have hq6 : q < 6 := by omega
      refine ax_aload_n (i := 1) dX10_goOnFrom_10 rfl rfl ?_
      refine ax_getR dX10_goOnFrom_11 fl_X10_38 rfl (Ws0 hv) (Wr hv 1 rfl) ?_
      refine ax_iload_n (i := 2) dX10_goOnFrom_14 rfl rfl ?_
      refine ax_aaldN q (t0 := 5) dX10_goOnFrom_15 (Ws hv 1 rfl) rfl (fun _ => rfl) rfl hq6 (by decide) (Wrf hv hq6) ?_
      refine ax_iconst (v := 0) dX10_goOnFrom_16 (by decide) ?_
      refine ax_aload_n (i := 0) dX10_goOnFrom_17 rfl rfl ?_
      refine ax_getR dX10_goOnFrom_18 fl_X10_38 rfl (Ws0 hw) (Wr hw 1 rfl) ?_
      refine ax_iload_n (i := 2) dX10_goOnFrom_21 rfl rfl ?_
      refine ax_aaldN q (t0 := 5) dX10_goOnFrom_22 (Ws hw 1 rfl) rfl (fun _ => rfl) rfl hq6 (by decide) (Wrf hw hq6) ?_
      refine ax_iconst (v := 0) dX10_goOnFrom_23 (by decide) ?_
      refine ax_bipush (v := 10) dX10_goOnFrom_24 (by decide) ?_
      refine ax_copyI0 10 dX10_goOnFrom_26 lc_X10_73 (Wrow hv hq6) (Wrow hw hq6) rfl (by decide) (by decide) (by decide) (by decide) (Nat.le_of_ble_eq_true rfl) ?_
      refine ax_iinc (v := (nI q) + 1) dX10_goOnFrom_29 rfl rfl (by decide) rfl ?_
      refine ax_goto (tgt := 2) dX10_goOnFrom_32 (by decide) ?_
      refine ax_G (gRow_s hq6 hd) ?_
      refine ax_lv [(0, .ref w), (1, .ref v), (2, .int (nI (q + 1)))] ⟨rfl, rfl, sI (nI_1 q), trivial⟩ ?_
      exact ih (q + 1) (by omega) (by omega)
theorem c_goOnFrom {Z : Zt} {G : Gt} {L : Lt} (hZ : OK Z) {w v : Nat} (hw : isW Z w) (hv : isW Z v) (hd : w + 17 ≤ v ∨ v + 17 ≤ w) {m : Nat} (hm : m ≤ 6) (hc : G v 11 = nI m) (hheld : ∀ j, Z.2.2 v 16 = some j → j < Z.1) : AC mX10_goOnFrom 2 0 0 [.ref w, .ref v] Z G L (fun r Z' G' L' => r = none ∧ Z' = Zheld Z w v ∧ L' = L ∧ goP G G' w v m) := by
  refine AC.intro (by decide +kernel) (Nat.le_of_ble_eq_true rfl) ?_
  refine ax_lv [(0, .ref w), (1, .ref v)] ⟨rfl, rfl, trivial⟩ ?_
  refine ax_iconst (v := 0) dX10_goOnFrom_0 (by decide) ?_
  refine ax_istore_n (i := 2) dX10_goOnFrom_1 rfl (by decide) rfl ?_
  refine ax_lv [(0, .ref w), (1, .ref v), (2, .int (nI 0))] ⟨rfl, rfl, rfl, trivial⟩ ?_
  refine ax_G (gRow_0 (G := G) (w := w) (v := v)).symm ?_
  refine l_X10_goOnFrom hZ hw hv hd hm hc ?_ (m + 1) 0 (by omega) (by omega)
  refine ax_aload_n (i := 1) dX10_goOnFrom_35 rfl rfl ?_
  refine ax_getR dX10_goOnFrom_36 fl_X10_41 rfl (Ws0 hv) (Wr hv 2 rfl) ?_
  refine ax_iconst (v := 0) dX10_goOnFrom_39 (by decide) ?_
  refine ax_aload_n (i := 0) dX10_goOnFrom_40 rfl rfl ?_
  refine ax_getR dX10_goOnFrom_41 fl_X10_41 rfl (Ws0 hw) (Wr hw 2 rfl) ?_
  refine ax_iconst (v := 0) dX10_goOnFrom_44 (by decide) ?_
  refine ax_iconst (v := 4) dX10_goOnFrom_45 (by decide) ?_
  refine ax_copyI0 4 dX10_goOnFrom_46 lc_X10_73 (Ws hv 8 rfl) (Ws hw 8 rfl) rfl (by decide) (by decide) (by decide) (by decide) (Nat.le_of_ble_eq_true rfl) ?_
  refine ax_aload_n (i := 1) dX10_goOnFrom_49 rfl rfl ?_
  refine ax_getR dX10_goOnFrom_50 fl_X10_45 rfl (Ws0 hv) (Wr hv 3 rfl) ?_
  refine ax_iconst (v := 0) dX10_goOnFrom_53 (by decide) ?_
  refine ax_aload_n (i := 0) dX10_goOnFrom_54 rfl rfl ?_
  refine ax_getR dX10_goOnFrom_55 fl_X10_45 rfl (Ws0 hw) (Wr hw 3 rfl) ?_
  refine ax_iconst (v := 0) dX10_goOnFrom_58 (by decide) ?_
  refine ax_iconst (v := 4) dX10_goOnFrom_59 (by decide) ?_
  refine ax_copyI0 4 dX10_goOnFrom_60 lc_X10_73 (Ws hv 9 rfl) (Ws hw 9 rfl) rfl (by decide) (by decide) (by decide) (by decide) (Nat.le_of_ble_eq_true rfl) ?_
  refine ax_aload_n (i := 0) dX10_goOnFrom_63 rfl rfl ?_
  refine ax_aload_n (i := 1) dX10_goOnFrom_64 rfl rfl ?_
  refine ax_getI dX10_goOnFrom_65 fl_X10_69 rfl (Ws0 hv) ?_
  refine ax_putI dX10_goOnFrom_68 fl_X10_69 (Or.inl fp_X10_10_11) rfl rfl rfl (Ws0 hw) ?_
  refine ax_aload_n (i := 0) dX10_goOnFrom_71 rfl rfl ?_
  refine ax_aload_n (i := 1) dX10_goOnFrom_72 rfl rfl ?_
  refine ax_getI dX10_goOnFrom_73 fl_X10_79 rfl (Ws0 hv) ?_
  refine ax_putI dX10_goOnFrom_76 fl_X10_79 (Or.inl fp_X10_10_15) rfl rfl rfl (Ws0 hw) ?_
  refine ax_aload_n (i := 0) dX10_goOnFrom_79 rfl rfl ?_
  refine ax_aload_n (i := 1) dX10_goOnFrom_80 rfl rfl ?_
  refine ax_getO dX10_goOnFrom_81 fl_X10_82 rfl (Ws0 hv) ?_
  refine ax_putO (o := (Z.2.2 v 16)) dX10_goOnFrom_84 fl_X10_82 (Or.inl fp_X10_10_16) rfl hheld (Ws0 hw) ?_
  refine ax_vret dX10_goOnFrom_87 rfl (Nat.le_of_ble_eq_true rfl) (Nat.le_of_ble_eq_true rfl) ?_
  refine ⟨rfl, rfl, rfl, fun p hp i hi => ?_, fun q hq => ?_, fun q hq => ?_, ?_, ?_, fun i h1 h2 => ?_, fun a ha => ?_⟩
  · rw [up2_k (by omega), up2_k (by omega), upr_n (by omega), upr_n (by omega), gRow_i hp, cpN_l hi]
  · rw [up2_k (by omega), up2_k (by omega), upr_n (by omega), upr_s, cpN_l hq, gRow_o (by omega)]
  · rw [up2_k (by omega), up2_k (by omega), upr_s, cpN_l hq, upr_n (by omega), gRow_o (by omega)]
  · rw [up2_i (by decide), up2_s, upr_n (by omega), upr_n (by omega), gRow_o (by omega)]
  · rw [up2_s, up2_k (by omega), upr_n (by omega), upr_n (by omega), gRow_o (by omega)]
  · rw [up2_i h2, up2_i h1, upr_n (by omega), upr_n (by omega), gRow_o (by omega)]
  · rw [up2_row (by omega), up2_row (by omega), upr_n (by omega), upr_n (by omega), gRow_o (by omega)]
/-- what is told by hand comes to w from v -/
def crP (G G' : Gt) (w v : Nat) : Prop := (∀ a i, (a = 10 ∧ i < 5) ∨ (a = 11 ∧ i < 5) ∨ (a = 12 ∧ i < 5) ∨ (a = 13 ∧ i < 10) ∨ (a = 14 ∧ i < 10) ∨ (a = 15 ∧ i < 8) ∨ (a = 16 ∧ i < 8) → G' (w + a) i = G (v + a) i) ∧ G' w 12 = G v 12 ∧ G' w 13 = G v 13 ∧ G' w 14 = G v 14 ∧ (∀ i, i ≠ 12 → i ≠ 13 → i ≠ 14 → G' w i = G w i) ∧ (∀ a, a ≠ w → ¬ (w + 10 ≤ a ∧ a < w + 17) → G' a = G a)
theorem c_copyRowsOf {Z : Zt} {G : Gt} {L : Lt} {w v : Nat} (hw : isW Z w) (hv : isW Z v) (hd : w + 17 ≤ v ∨ v + 17 ≤ w) : AC mX10_copyRowsOf 2 0 0 [.ref w, .ref v] Z G L (fun r Z' G' L' => r = none ∧ Z' = Z ∧ L' = L ∧ crP G G' w v) := by
  refine AC.intro (by decide +kernel) (Nat.le_of_ble_eq_true rfl) ?_
  refine ax_lv [(0, .ref w), (1, .ref v)] ⟨rfl, rfl, trivial⟩ ?_
  refine ax_aload_n (i := 1) dX10_copyRowsOf_0 rfl rfl ?_
  refine ax_getR dX10_copyRowsOf_1 fl_X10_48 rfl (Ws0 hv) (Wr hv 4 rfl) ?_
  refine ax_iconst (v := 0) dX10_copyRowsOf_4 (by decide) ?_
  refine ax_aload_n (i := 0) dX10_copyRowsOf_5 rfl rfl ?_
  refine ax_getR dX10_copyRowsOf_6 fl_X10_48 rfl (Ws0 hw) (Wr hw 4 rfl) ?_
  refine ax_iconst (v := 0) dX10_copyRowsOf_9 (by decide) ?_
  refine ax_iconst (v := 5) dX10_copyRowsOf_10 (by decide) ?_
  refine ax_copyI0 5 dX10_copyRowsOf_11 lc_X10_73 (Ws hv 10 rfl) (Ws hw 10 rfl) rfl (by decide) (by decide) (by decide) (by decide) (Nat.le_of_ble_eq_true rfl) ?_
  refine ax_aload_n (i := 1) dX10_copyRowsOf_14 rfl rfl ?_
  refine ax_getR dX10_copyRowsOf_15 fl_X10_51 rfl (Ws0 hv) (Wr hv 5 rfl) ?_
  refine ax_iconst (v := 0) dX10_copyRowsOf_18 (by decide) ?_
  refine ax_aload_n (i := 0) dX10_copyRowsOf_19 rfl rfl ?_
  refine ax_getR dX10_copyRowsOf_20 fl_X10_51 rfl (Ws0 hw) (Wr hw 5 rfl) ?_
  refine ax_iconst (v := 0) dX10_copyRowsOf_23 (by decide) ?_
  refine ax_iconst (v := 5) dX10_copyRowsOf_24 (by decide) ?_
  refine ax_copyI0 5 dX10_copyRowsOf_25 lc_X10_73 (Ws hv 11 rfl) (Ws hw 11 rfl) rfl (by decide) (by decide) (by decide) (by decide) (Nat.le_of_ble_eq_true rfl) ?_
  refine ax_aload_n (i := 1) dX10_copyRowsOf_28 rfl rfl ?_
  refine ax_getR dX10_copyRowsOf_29 fl_X10_54 rfl (Ws0 hv) (Wr hv 6 rfl) ?_
  refine ax_iconst (v := 0) dX10_copyRowsOf_32 (by decide) ?_
  refine ax_aload_n (i := 0) dX10_copyRowsOf_33 rfl rfl ?_
  refine ax_getR dX10_copyRowsOf_34 fl_X10_54 rfl (Ws0 hw) (Wr hw 6 rfl) ?_
  refine ax_iconst (v := 0) dX10_copyRowsOf_37 (by decide) ?_
  refine ax_iconst (v := 5) dX10_copyRowsOf_38 (by decide) ?_
  refine ax_copyI0 5 dX10_copyRowsOf_39 lc_X10_73 (Ws hv 12 rfl) (Ws hw 12 rfl) rfl (by decide) (by decide) (by decide) (by decide) (Nat.le_of_ble_eq_true rfl) ?_
  refine ax_aload_n (i := 1) dX10_copyRowsOf_42 rfl rfl ?_
  refine ax_getR dX10_copyRowsOf_43 fl_X10_57 rfl (Ws0 hv) (Wr hv 7 rfl) ?_
  refine ax_iconst (v := 0) dX10_copyRowsOf_46 (by decide) ?_
  refine ax_aload_n (i := 0) dX10_copyRowsOf_47 rfl rfl ?_
  refine ax_getR dX10_copyRowsOf_48 fl_X10_57 rfl (Ws0 hw) (Wr hw 7 rfl) ?_
  refine ax_iconst (v := 0) dX10_copyRowsOf_51 (by decide) ?_
  refine ax_bipush (v := 10) dX10_copyRowsOf_52 (by decide) ?_
  refine ax_copyI0 10 dX10_copyRowsOf_54 lc_X10_73 (Ws hv 13 rfl) (Ws hw 13 rfl) rfl (by decide) (by decide) (by decide) (by decide) (Nat.le_of_ble_eq_true rfl) ?_
  refine ax_aload_n (i := 1) dX10_copyRowsOf_57 rfl rfl ?_
  refine ax_getR dX10_copyRowsOf_58 fl_X10_60 rfl (Ws0 hv) (Wr hv 8 rfl) ?_
  refine ax_iconst (v := 0) dX10_copyRowsOf_61 (by decide) ?_
  refine ax_aload_n (i := 0) dX10_copyRowsOf_62 rfl rfl ?_
  refine ax_getR dX10_copyRowsOf_63 fl_X10_60 rfl (Ws0 hw) (Wr hw 8 rfl) ?_
  refine ax_iconst (v := 0) dX10_copyRowsOf_66 (by decide) ?_
  refine ax_bipush (v := 10) dX10_copyRowsOf_67 (by decide) ?_
  refine ax_copyI0 10 dX10_copyRowsOf_69 lc_X10_73 (Ws hv 14 rfl) (Ws hw 14 rfl) rfl (by decide) (by decide) (by decide) (by decide) (Nat.le_of_ble_eq_true rfl) ?_
  refine ax_aload_n (i := 1) dX10_copyRowsOf_72 rfl rfl ?_
  refine ax_getR dX10_copyRowsOf_73 fl_X10_63 rfl (Ws0 hv) (Wr hv 9 rfl) ?_
  refine ax_iconst (v := 0) dX10_copyRowsOf_76 (by decide) ?_
  refine ax_aload_n (i := 0) dX10_copyRowsOf_77 rfl rfl ?_
  refine ax_getR dX10_copyRowsOf_78 fl_X10_63 rfl (Ws0 hw) (Wr hw 9 rfl) ?_
  refine ax_iconst (v := 0) dX10_copyRowsOf_81 (by decide) ?_
  refine ax_bipush (v := 8) dX10_copyRowsOf_82 (by decide) ?_
  refine ax_copyI0 8 dX10_copyRowsOf_84 lc_X10_73 (Ws hv 15 rfl) (Ws hw 15 rfl) rfl (by decide) (by decide) (by decide) (by decide) (Nat.le_of_ble_eq_true rfl) ?_
  refine ax_aload_n (i := 1) dX10_copyRowsOf_87 rfl rfl ?_
  refine ax_getR dX10_copyRowsOf_88 fl_X10_66 rfl (Ws0 hv) (Wr hv 10 rfl) ?_
  refine ax_iconst (v := 0) dX10_copyRowsOf_91 (by decide) ?_
  refine ax_aload_n (i := 0) dX10_copyRowsOf_92 rfl rfl ?_
  refine ax_getR dX10_copyRowsOf_93 fl_X10_66 rfl (Ws0 hw) (Wr hw 10 rfl) ?_
  refine ax_iconst (v := 0) dX10_copyRowsOf_96 (by decide) ?_
  refine ax_bipush (v := 8) dX10_copyRowsOf_97 (by decide) ?_
  refine ax_copyI0 8 dX10_copyRowsOf_99 lc_X10_73 (Ws hv 16 rfl) (Ws hw 16 rfl) rfl (by decide) (by decide) (by decide) (by decide) (Nat.le_of_ble_eq_true rfl) ?_
  refine ax_aload_n (i := 0) dX10_copyRowsOf_102 rfl rfl ?_
  refine ax_aload_n (i := 1) dX10_copyRowsOf_103 rfl rfl ?_
  refine ax_getI dX10_copyRowsOf_104 fl_X10_86 rfl (Ws0 hv) ?_
  refine ax_putI dX10_copyRowsOf_107 fl_X10_86 (Or.inl fp_X10_10_12) rfl rfl rfl (Ws0 hw) ?_
  refine ax_aload_n (i := 0) dX10_copyRowsOf_110 rfl rfl ?_
  refine ax_aload_n (i := 1) dX10_copyRowsOf_111 rfl rfl ?_
  refine ax_getI dX10_copyRowsOf_112 fl_X10_89 rfl (Ws0 hv) ?_
  refine ax_putI dX10_copyRowsOf_115 fl_X10_89 (Or.inl fp_X10_10_13) rfl rfl rfl (Ws0 hw) ?_
  refine ax_aload_n (i := 0) dX10_copyRowsOf_118 rfl rfl ?_
  refine ax_aload_n (i := 1) dX10_copyRowsOf_119 rfl rfl ?_
  refine ax_getI dX10_copyRowsOf_120 fl_X10_92 rfl (Ws0 hv) ?_
  refine ax_putI dX10_copyRowsOf_123 fl_X10_92 (Or.inl fp_X10_10_14) rfl rfl rfl (Ws0 hw) ?_
  refine ax_vret dX10_copyRowsOf_126 rfl (Nat.le_of_ble_eq_true rfl) (Nat.le_of_ble_eq_true rfl) ?_
  refine ⟨rfl, rfl, rfl, fun a i h => ?_, ?_, ?_, ?_, fun i h1 h2 h3 => ?_, fun a h1 h2 => ?_⟩
  · rw [up2_k (by omega), up2_k (by omega), up2_k (by omega)]
    rcases h with ⟨rfl, h⟩ | ⟨rfl, h⟩ | ⟨rfl, h⟩ | ⟨rfl, h⟩ | ⟨rfl, h⟩ | ⟨rfl, h⟩ | ⟨rfl, h⟩
    · rw [upr_n (by omega), upr_n (by omega), upr_n (by omega), upr_n (by omega), upr_n (by omega), upr_n (by omega), upr_s, cpN_l h]
    · rw [upr_n (by omega), upr_n (by omega), upr_n (by omega), upr_n (by omega), upr_n (by omega), upr_s, cpN_l h, upr_n (by omega)]
    · rw [upr_n (by omega), upr_n (by omega), upr_n (by omega), upr_n (by omega), upr_s, cpN_l h, upr_n (by omega), upr_n (by omega)]
    · rw [upr_n (by omega), upr_n (by omega), upr_n (by omega), upr_s, cpN_l h, upr_n (by omega), upr_n (by omega), upr_n (by omega)]
    · rw [upr_n (by omega), upr_n (by omega), upr_s, cpN_l h, upr_n (by omega), upr_n (by omega), upr_n (by omega), upr_n (by omega)]
    · rw [upr_n (by omega), upr_s, cpN_l h, upr_n (by omega), upr_n (by omega), upr_n (by omega), upr_n (by omega), upr_n (by omega)]
    · rw [upr_s, cpN_l h, upr_n (by omega), upr_n (by omega), upr_n (by omega), upr_n (by omega), upr_n (by omega), upr_n (by omega)]
  · rw [up2_i (by decide), up2_i (by decide), up2_s]
    rw [upr_n (by omega), upr_n (by omega), upr_n (by omega), upr_n (by omega), upr_n (by omega), upr_n (by omega), upr_n (by omega)]
  · rw [up2_i (by decide), up2_s, up2_k (by omega)]
    rw [upr_n (by omega), upr_n (by omega), upr_n (by omega), upr_n (by omega), upr_n (by omega), upr_n (by omega), upr_n (by omega)]
  · rw [up2_s, up2_k (by omega), up2_k (by omega)]
    rw [upr_n (by omega), upr_n (by omega), upr_n (by omega), upr_n (by omega), upr_n (by omega), upr_n (by omega), upr_n (by omega)]
  · rw [up2_i h3, up2_i h2, up2_i h1]
    rw [upr_n (by omega), upr_n (by omega), upr_n (by omega), upr_n (by omega), upr_n (by omega), upr_n (by omega), upr_n (by omega)]
  · rw [up2_row h1, up2_row h1, up2_row h1]
    rw [upr_n (by omega), upr_n (by omega), upr_n (by omega), upr_n (by omega), upr_n (by omega), upr_n (by omega), upr_n (by omega)]
