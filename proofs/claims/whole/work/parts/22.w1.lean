-- ===== contracts: counts and sums =====
theorem ax_ldcw {X : Option (Nat × (Nat → Int32))} {M : Mt} {d mc ms cu su pc : Nat} {lv : Lv} {st : List Value} {Z : Zt} {G : Gt} {L : Lt} {Q : Qt} {idx : Nat} {v : Int32} (hd : decode M.2.1 pc = .ok (.ldc_w idx, 3)) (hw : Cond.constant M.1.cls idx v ∈ TB) (k : AX X M d mc ms cu su (pc + 3) lv (.int v :: st) Z G L Q) : AX X M d mc ms cu su pc lv st Z G L Q := by
  intro p l e R s m args below meth c H locs ls dC dI tc ad A N0 ad0 Qr hC hW hl hs hv hg hn hr
  exact lv_ldcw hC.1 hC.2.1 hC.2.2.2.2.1 (hC.2.2.2.2.2.1 _ hw) hd (k p l e R s m args below meth c H locs ls dC dI tc ad A N0 ad0 Qr hC hW hl ⟨trivial, hs⟩ hv hg hn hr)
def us (x y : Int32) : Int32 := (x.toUInt32 >>> (y.toUInt32 &&& Int32.toUInt32 31)).toInt32
/-- how many bits are set, as Integer.bitCount counts them -/
def bc (x : Int32) : Int32 :=
  let a := x - (us x 1 &&& 1431655765)
  let b := (a &&& 858993459) + (us a 2 &&& 858993459)
  let c := (b + us b 4) &&& 252645135
  let d := c + us c 8
  let e := d + us d 16
  e &&& 63
theorem c_bitCount {Z : Zt} {G : Gt} {L : Lt} (x : Int32) : AC mJ6_bitCount_0f7a4 1 0 0 [.int x] Z G L (DQ (some (.int (bc x))) Z G L) := by
  refine AC.intro (by decide +kernel) (Nat.le_of_ble_eq_true rfl) ?_
  refine ax_lv [(0, .int x)] ⟨rfl, trivial⟩ ?_
  refine ax_iload_n (i := 0) dJ6_bitCount_0f7a4_0 rfl rfl ?_
  refine ax_iload_n (i := 0) dJ6_bitCount_0f7a4_1 rfl rfl ?_
  refine ax_iconst (v := 1) dJ6_bitCount_0f7a4_2 (by decide) ?_
  refine ax_iushr dJ6_bitCount_0f7a4_3 rfl ?_
  refine ax_ldcw dJ6_bitCount_0f7a4_4 wk_J6_265 ?_
  refine ax_iand dJ6_bitCount_0f7a4_7 ?_
  refine ax_isub dJ6_bitCount_0f7a4_8 ?_
  refine ax_istore_n (i := 0) dJ6_bitCount_0f7a4_9 rfl (by decide) rfl ?_
  refine ax_iload_n (i := 0) dJ6_bitCount_0f7a4_10 rfl rfl ?_
  refine ax_ldcw dJ6_bitCount_0f7a4_11 wk_J6_266 ?_
  refine ax_iand dJ6_bitCount_0f7a4_14 ?_
  refine ax_iload_n (i := 0) dJ6_bitCount_0f7a4_15 rfl rfl ?_
  refine ax_iconst (v := 2) dJ6_bitCount_0f7a4_16 (by decide) ?_
  refine ax_iushr dJ6_bitCount_0f7a4_17 rfl ?_
  refine ax_ldcw dJ6_bitCount_0f7a4_18 wk_J6_266 ?_
  refine ax_iand dJ6_bitCount_0f7a4_21 ?_
  refine ax_iadd dJ6_bitCount_0f7a4_22 ?_
  refine ax_istore_n (i := 0) dJ6_bitCount_0f7a4_23 rfl (by decide) rfl ?_
  refine ax_iload_n (i := 0) dJ6_bitCount_0f7a4_24 rfl rfl ?_
  refine ax_iload_n (i := 0) dJ6_bitCount_0f7a4_25 rfl rfl ?_
  refine ax_iconst (v := 4) dJ6_bitCount_0f7a4_26 (by decide) ?_
  refine ax_iushr dJ6_bitCount_0f7a4_27 rfl ?_
  refine ax_iadd dJ6_bitCount_0f7a4_28 ?_
  refine ax_ldcw dJ6_bitCount_0f7a4_29 wk_J6_267 ?_
  refine ax_iand dJ6_bitCount_0f7a4_32 ?_
  refine ax_istore_n (i := 0) dJ6_bitCount_0f7a4_33 rfl (by decide) rfl ?_
  refine ax_iload_n (i := 0) dJ6_bitCount_0f7a4_34 rfl rfl ?_
  refine ax_iload_n (i := 0) dJ6_bitCount_0f7a4_35 rfl rfl ?_
  refine ax_bipush (v := 8) dJ6_bitCount_0f7a4_36 (by decide) ?_
  refine ax_iushr dJ6_bitCount_0f7a4_38 rfl ?_
  refine ax_iadd dJ6_bitCount_0f7a4_39 ?_
  refine ax_istore_n (i := 0) dJ6_bitCount_0f7a4_40 rfl (by decide) rfl ?_
  refine ax_iload_n (i := 0) dJ6_bitCount_0f7a4_41 rfl rfl ?_
  refine ax_iload_n (i := 0) dJ6_bitCount_0f7a4_42 rfl rfl ?_
  refine ax_bipush (v := 16) dJ6_bitCount_0f7a4_43 (by decide) ?_
  refine ax_iushr dJ6_bitCount_0f7a4_45 rfl ?_
  refine ax_iadd dJ6_bitCount_0f7a4_46 ?_
  refine ax_istore_n (i := 0) dJ6_bitCount_0f7a4_47 rfl (by decide) rfl ?_
  refine ax_iload_n (i := 0) dJ6_bitCount_0f7a4_48 rfl rfl ?_
  refine ax_bipush (v := 63) dJ6_bitCount_0f7a4_49 (by decide) ?_
  refine ax_iand dJ6_bitCount_0f7a4_51 ?_
  refine ax_iret dJ6_bitCount_0f7a4_52 rfl rfl (Nat.le_of_ble_eq_true rfl) (Nat.le_of_ble_eq_true rfl) ?_
  exact ⟨rfl, rfl, rfl, rfl⟩
theorem l_X12_areSo {Z : Zt} {G : Gt} {L : Lt} {Q : Qt} (hZ : OK Z) {m : Nat} (hm : m ≤ 6) (hc : G 75 2 = nI m) (so : Int32) (hend : AX none mX12_areSo 1 0 0 0 0 34 [(2, .int (inB (G 83) so m))] [] Z G L Q) : ∀ (n q : Nat), q ≤ m → m - q < n → AX none mX12_areSo 1 0 0 0 0 4 [(0, .ref 75), (1, .int so), (2, .int (inB (G 83) so q)), (3, .int (nI q))] [] Z G L Q := by
  intro n
  induction n with
  | zero => intro q h1 h2; omega
  | succ n ih =>
    intro q h1 h2
    refine ax_iload_n (i := 3) dX12_areSo_4 rfl rfl ?_
    refine ax_aload_n (i := 0) dX12_areSo_5 rfl rfl ?_
    refine ax_getI dX12_areSo_6 fl_X12_114 rfl (OKs hZ rfl) ?_
    refine ax_icmp_ge (tgt := 34) dX12_areSo_9 (by decide) (fun c_9 => ?_) (fun c_9 => ?_)
    · obtain rfl : q = m := by rw [hc] at c_9; have := (nI_leI (by omega) (by omega)).mp c_9; omega
      exact ax_lv [(2, .int (inB (G 83) so q))] ⟨rfl, trivial⟩ hend
    · have hqm : q < m := by rw [hc] at c_9; have := mt (nI_leI (by omega) (by omega)).mpr c_9; omega
      have hq6 : q < 6 := by omega
      refine ax_aload_n (i := 0) dX12_areSo_12 rfl rfl ?_
      refine ax_getR dX12_areSo_13 fl_X12_33 rfl (OKs hZ rfl) (OKr hZ rfl) ?_
      refine ax_iload_n (i := 3) dX12_areSo_16 rfl rfl ?_
      refine ax_ialdN q dX12_areSo_17 (OKs hZ rfl) rfl hq6 (by decide) ?_
      refine ax_iload_n (i := 1) dX12_areSo_18 rfl rfl ?_
      refine ax_icmp_ne (tgt := 28) dX12_areSo_19 (by decide) (fun c_19 => ?_) (fun c_19 => ?_)
      · refine ax_iinc (v := (nI q) + 1) dX12_areSo_28 rfl rfl (by decide) rfl ?_
        refine ax_goto (tgt := 4) dX12_areSo_31 (by decide) ?_
        refine ax_lv [(0, .ref 75), (1, .int so), (2, .int (inB (G 83) so (q + 1))), (3, .int (nI (q + 1)))] ⟨rfl, rfl, sI (by simp [inB, *]), sI (nI_1 q), trivial⟩ ?_
        exact ih (q + 1) (by omega) (by omega)
      · refine ax_iload_n (i := 2) dX12_areSo_22 rfl rfl ?_
        refine ax_iconst (v := 1) dX12_areSo_23 (by decide) ?_
        refine ax_iload_n (i := 3) dX12_areSo_24 rfl rfl ?_
        refine ax_ishl dX12_areSo_25 ?_
        refine ax_ior dX12_areSo_26 ?_
        refine ax_istore_n (i := 2) dX12_areSo_27 rfl (by decide) rfl ?_
        refine ax_iinc (v := (nI q) + 1) dX12_areSo_28 rfl rfl (by decide) rfl ?_
        refine ax_goto (tgt := 4) dX12_areSo_31 (by decide) ?_
        refine ax_lv [(0, .ref 75), (1, .int so), (2, .int (inB (G 83) so (q + 1))), (3, .int (nI (q + 1)))] ⟨rfl, rfl, sI (by simp [inB, *]), sI (nI_1 q), trivial⟩ ?_
        exact ih (q + 1) (by omega) (by omega)
theorem c_X12_areSo {Z : Zt} {G : Gt} {L : Lt} (hZ : OK Z) {m : Nat} (hm : m ≤ 6) (hc : G 75 2 = nI m) (so : Int32) : AC mX12_areSo 1 0 0 [.ref 75, .int so] Z G L (RQ (.int (inB (G 83) so m)) Z G L) := by
  refine AC.intro (by decide +kernel) (Nat.le_of_ble_eq_true rfl) ?_
  refine ax_lv [(0, .ref 75), (1, .int so)] ⟨rfl, rfl, trivial⟩ ?_
  refine ax_iconst (v := 0) dX12_areSo_0 (by decide) ?_
  refine ax_istore_n (i := 2) dX12_areSo_1 rfl (by decide) rfl ?_
  refine ax_iconst (v := 0) dX12_areSo_2 (by decide) ?_
  refine ax_istore_n (i := 3) dX12_areSo_3 rfl (by decide) rfl ?_
  refine ax_lv [(0, .ref 75), (1, .int so), (2, .int (inB (G 83) so 0)), (3, .int (nI 0))] ⟨rfl, rfl, rfl, rfl, trivial⟩ ?_
  refine l_X12_areSo hZ hm hc so ?_ (m + 1) 0 (by omega) (by omega)
  refine ax_iload_n (i := 2) dX12_areSo_34 rfl rfl ?_
  refine ax_iret dX12_areSo_35 rfl rfl (Nat.le_of_ble_eq_true rfl) (Nat.le_of_ble_eq_true rfl) ?_
  exact rq rfl
theorem l_X10_rocketsIn {Z : Zt} {G : Gt} {L : Lt} {Q : Qt} {w : Nat} (hw : isW Z w) {m : Nat} (hm : m ≤ 6) (hc : G w 11 = nI m) (so : Int32) (hend : AX none mX10_rocketsIn 1 0 0 0 0 36 [(2, .int (inB (fun p => G (w + 2 + p) 5) so m))] [] Z G L Q) : ∀ (n q : Nat), q ≤ m → m - q < n → AX none mX10_rocketsIn 1 0 0 0 0 4 [(0, .ref w), (1, .int so), (2, .int (inB (fun p => G (w + 2 + p) 5) so q)), (3, .int (nI q))] [] Z G L Q := by
  intro n
  induction n with
  | zero => intro q h1 h2; omega
  | succ n ih =>
    intro q h1 h2
    refine ax_iload_n (i := 3) dX10_rocketsIn_4 rfl rfl ?_
    refine ax_aload_n (i := 0) dX10_rocketsIn_5 rfl rfl ?_
    refine ax_getI dX10_rocketsIn_6 fl_X10_69 rfl (Ws0 hw) ?_
    refine ax_icmp_ge (tgt := 36) dX10_rocketsIn_9 (by decide) (fun c_9 => ?_) (fun c_9 => ?_)
    · obtain rfl : q = m := by rw [hc] at c_9; have := (nI_leI (by omega) (by omega)).mp c_9; omega
      exact ax_lv [(2, .int (inB (fun p => G (w + 2 + p) 5) so q))] ⟨rfl, trivial⟩ hend
    · have hqm : q < m := by rw [hc] at c_9; have := mt (nI_leI (by omega) (by omega)).mpr c_9; omega
      have hq6 : q < 6 := by omega
      refine ax_aload_n (i := 0) dX10_rocketsIn_12 rfl rfl ?_
      refine ax_getR dX10_rocketsIn_13 fl_X10_38 rfl (Ws0 hw) (Wr hw 1 rfl) ?_
      refine ax_iload_n (i := 3) dX10_rocketsIn_16 rfl rfl ?_
      refine ax_aaldN q (t0 := 5) dX10_rocketsIn_17 (Ws hw 1 rfl) rfl (fun _ => rfl) rfl hq6 (by decide) (Wrf hw hq6) ?_
      refine ax_iconst (v := 5) dX10_rocketsIn_18 (by decide) ?_
      refine ax_ialdN 5 dX10_rocketsIn_19 (Wrow hw hq6) rfl (by decide) (by decide) ?_
      refine ax_iload_n (i := 1) dX10_rocketsIn_20 rfl rfl ?_
      refine ax_icmp_ne (tgt := 30) dX10_rocketsIn_21 (by decide) (fun c_21 => ?_) (fun c_21 => ?_)
      · refine ax_iinc (v := (nI q) + 1) dX10_rocketsIn_30 rfl rfl (by decide) rfl ?_
        refine ax_goto (tgt := 4) dX10_rocketsIn_33 (by decide) ?_
        refine ax_lv [(0, .ref w), (1, .int so), (2, .int (inB (fun p => G (w + 2 + p) 5) so (q + 1))), (3, .int (nI (q + 1)))] ⟨rfl, rfl, sI (by simp [inB, *]), sI (nI_1 q), trivial⟩ ?_
        exact ih (q + 1) (by omega) (by omega)
      · refine ax_iload_n (i := 2) dX10_rocketsIn_24 rfl rfl ?_
        refine ax_iconst (v := 1) dX10_rocketsIn_25 (by decide) ?_
        refine ax_iload_n (i := 3) dX10_rocketsIn_26 rfl rfl ?_
        refine ax_ishl dX10_rocketsIn_27 ?_
        refine ax_ior dX10_rocketsIn_28 ?_
        refine ax_istore_n (i := 2) dX10_rocketsIn_29 rfl (by decide) rfl ?_
        refine ax_iinc (v := (nI q) + 1) dX10_rocketsIn_30 rfl rfl (by decide) rfl ?_
        refine ax_goto (tgt := 4) dX10_rocketsIn_33 (by decide) ?_
        refine ax_lv [(0, .ref w), (1, .int so), (2, .int (inB (fun p => G (w + 2 + p) 5) so (q + 1))), (3, .int (nI (q + 1)))] ⟨rfl, rfl, sI (by simp [inB, *]), sI (nI_1 q), trivial⟩ ?_
        exact ih (q + 1) (by omega) (by omega)
theorem c_X10_rocketsIn {Z : Zt} {G : Gt} {L : Lt} {w : Nat} (hw : isW Z w) {m : Nat} (hm : m ≤ 6) (hc : G w 11 = nI m) (so : Int32) : AC mX10_rocketsIn 1 0 0 [.ref w, .int so] Z G L (RQ (.int (inB (fun p => G (w + 2 + p) 5) so m)) Z G L) := by
  refine AC.intro (by decide +kernel) (Nat.le_of_ble_eq_true rfl) ?_
  refine ax_lv [(0, .ref w), (1, .int so)] ⟨rfl, rfl, trivial⟩ ?_
  refine ax_iconst (v := 0) dX10_rocketsIn_0 (by decide) ?_
  refine ax_istore_n (i := 2) dX10_rocketsIn_1 rfl (by decide) rfl ?_
  refine ax_iconst (v := 0) dX10_rocketsIn_2 (by decide) ?_
  refine ax_istore_n (i := 3) dX10_rocketsIn_3 rfl (by decide) rfl ?_
  refine ax_lv [(0, .ref w), (1, .int so), (2, .int (inB (fun p => G (w + 2 + p) 5) so 0)), (3, .int (nI 0))] ⟨rfl, rfl, rfl, rfl, trivial⟩ ?_
  refine l_X10_rocketsIn hw hm hc so ?_ (m + 1) 0 (by omega) (by omega)
  refine ax_iload_n (i := 2) dX10_rocketsIn_36 rfl rfl ?_
  refine ax_iret dX10_rocketsIn_37 rfl rfl (Nat.le_of_ble_eq_true rfl) (Nat.le_of_ble_eq_true rfl) ?_
  exact rq rfl
theorem l_X12_allGrief {Z : Zt} {G : Gt} {L : Lt} {Q : Qt} (hZ : OK Z) (hend : AX none mX12_allGrief 1 0 0 0 0 24 [(1, .int (sumB (G 76) 4))] [] Z G L Q) : ∀ (n q : Nat), q ≤ 4 → 4 - q < n → AX none mX12_allGrief 1 0 0 0 0 4 [(0, .ref 75), (1, .int (sumB (G 76) q)), (2, .int (nI q))] [] Z G L Q := by
  intro n
  induction n with
  | zero => intro q h1 h2; omega
  | succ n ih =>
    intro q h1 h2
    refine ax_iload_n (i := 2) dX12_allGrief_4 rfl rfl ?_
    refine ax_iconst (v := 4) dX12_allGrief_5 (by decide) ?_
    refine ax_icmp_ge (tgt := 24) dX12_allGrief_6 (by decide) (fun c_6 => ?_) (fun c_6 => ?_)
    · obtain rfl : q = 4 := by have := (nI_leI (by decide) (by omega)).mp (show nI 4 ≤ nI q from c_6); omega
      exact ax_lv [(1, .int (sumB (G 76) 4))] ⟨rfl, trivial⟩ hend
    · have hq4 : q < 4 := by have := mt (nI_leI (by decide) (by omega)).mpr (show ¬ nI 4 ≤ nI q from c_6); omega
      refine ax_iload_n (i := 1) dX12_allGrief_9 rfl rfl ?_
      refine ax_aload_n (i := 0) dX12_allGrief_10 rfl rfl ?_
      refine ax_getR dX12_allGrief_11 fl_X12_9 rfl (OKs hZ rfl) (OKr hZ rfl) ?_
      refine ax_iload_n (i := 2) dX12_allGrief_14 rfl rfl ?_
      refine ax_ialdN q dX12_allGrief_15 (OKs hZ rfl) rfl (by have := mt (nI_leI (by decide) (by omega)).mpr (show ¬ nI 4 ≤ nI q from c_6); omega) (by decide) ?_
      refine ax_iadd dX12_allGrief_16 ?_
      refine ax_istore_n (i := 1) dX12_allGrief_17 rfl (by decide) rfl ?_
      refine ax_iinc (v := (nI q) + 1) dX12_allGrief_18 rfl rfl (by decide) rfl ?_
      refine ax_goto (tgt := 4) dX12_allGrief_21 (by decide) ?_
      refine ax_lv [(0, .ref 75), (1, .int (sumB (G 76) (q + 1))), (2, .int (nI (q + 1)))] ⟨rfl, rfl, sI (nI_1 q), trivial⟩ ?_
      exact ih (q + 1) (by omega) (by omega)
theorem c_X12_allGrief {Z : Zt} {G : Gt} {L : Lt} (hZ : OK Z) : AC mX12_allGrief 1 0 0 [.ref 75] Z G L (RQ (.int (sumB (G 76) 4)) Z G L) := by
  refine AC.intro (by decide +kernel) (Nat.le_of_ble_eq_true rfl) ?_
  refine ax_lv [(0, .ref 75)] ⟨rfl, trivial⟩ ?_
  refine ax_iconst (v := 0) dX12_allGrief_0 (by decide) ?_
  refine ax_istore_n (i := 1) dX12_allGrief_1 rfl (by decide) rfl ?_
  refine ax_iconst (v := 0) dX12_allGrief_2 (by decide) ?_
  refine ax_istore_n (i := 2) dX12_allGrief_3 rfl (by decide) rfl ?_
  refine ax_lv [(0, .ref 75), (1, .int (sumB (G 76) 0)), (2, .int (nI 0))] ⟨rfl, rfl, rfl, trivial⟩ ?_
  refine l_X12_allGrief hZ ?_ 5 0 (by omega) (by omega)
  refine ax_iload_n (i := 1) dX12_allGrief_24 rfl rfl ?_
  refine ax_iret dX12_allGrief_25 rfl rfl (Nat.le_of_ble_eq_true rfl) (Nat.le_of_ble_eq_true rfl) ?_
  exact rq rfl
theorem l_X10_griefOfAll {Z : Zt} {G : Gt} {L : Lt} {Q : Qt} {w : Nat} (hw : isW Z w) (hend : AX none mX10_griefOfAll 1 0 0 0 0 36 [(1, .int (sumB (G (w + 8)) 4))] [] Z G L Q) : ∀ (n q : Nat), q ≤ 4 → 4 - q < n → AX none mX10_griefOfAll 1 0 0 0 0 13 [(0, .ref w), (1, .int (sumB (G (w + 8)) q)), (2, .ref (w + 8)), (3, .int 4), (4, .int (nI q))] [] Z G L Q := by
  intro n
  induction n with
  | zero => intro q h1 h2; omega
  | succ n ih =>
    intro q h1 h2
    refine ax_iload dX10_griefOfAll_13 rfl ?_
    refine ax_iload_n (i := 3) dX10_griefOfAll_15 rfl rfl ?_
    refine ax_icmp_ge (tgt := 36) dX10_griefOfAll_16 (by decide) (fun c_16 => ?_) (fun c_16 => ?_)
    · obtain rfl : q = 4 := by have := (nI_leI (by decide) (by omega)).mp (show nI 4 ≤ nI q from c_16); omega
      exact ax_lv [(1, .int (sumB (G (w + 8)) 4))] ⟨rfl, trivial⟩ hend
    · have hq4 : q < 4 := by have := mt (nI_leI (by decide) (by omega)).mpr (show ¬ nI 4 ≤ nI q from c_16); omega
      refine ax_aload_n (i := 2) dX10_griefOfAll_19 rfl rfl ?_
      refine ax_iload dX10_griefOfAll_20 rfl ?_
      refine ax_ialdN q dX10_griefOfAll_22 (Ws hw 8 rfl) rfl hq4 (by decide) ?_
      refine ax_istore dX10_griefOfAll_23 (by decide) rfl ?_
      refine ax_iload_n (i := 1) dX10_griefOfAll_25 rfl rfl ?_
      refine ax_iload dX10_griefOfAll_26 rfl ?_
      refine ax_iadd dX10_griefOfAll_28 ?_
      refine ax_istore_n (i := 1) dX10_griefOfAll_29 rfl (by decide) rfl ?_
      refine ax_iinc (v := (nI q) + 1) dX10_griefOfAll_30 rfl rfl (by decide) rfl ?_
      refine ax_goto (tgt := 13) dX10_griefOfAll_33 (by decide) ?_
      refine ax_lv [(0, .ref w), (1, .int (sumB (G (w + 8)) (q + 1))), (2, .ref (w + 8)), (3, .int 4), (4, .int (nI (q + 1)))] ⟨rfl, rfl, rfl, rfl, sI (nI_1 q), trivial⟩ ?_
      exact ih (q + 1) (by omega) (by omega)
theorem c_X10_griefOfAll {Z : Zt} {G : Gt} {L : Lt} {w : Nat} (hw : isW Z w) : AC mX10_griefOfAll 1 0 0 [.ref w] Z G L (RQ (.int (sumB (G (w + 8)) 4)) Z G L) := by
  refine AC.intro (by decide +kernel) (Nat.le_of_ble_eq_true rfl) ?_
  refine ax_lv [(0, .ref w)] ⟨rfl, trivial⟩ ?_
  refine ax_iconst (v := 0) dX10_griefOfAll_0 (by decide) ?_
  refine ax_istore_n (i := 1) dX10_griefOfAll_1 rfl (by decide) rfl ?_
  refine ax_aload_n (i := 0) dX10_griefOfAll_2 rfl rfl ?_
  refine ax_getR dX10_griefOfAll_3 fl_X10_41 rfl (Ws0 hw) (Wr hw 2 rfl) ?_
  refine ax_astore_n (i := 2) dX10_griefOfAll_6 rfl (by decide) rfl ?_
  refine ax_aload_n (i := 2) dX10_griefOfAll_7 rfl rfl ?_
  refine ax_alen (t0 := 0) (v := 4) dX10_griefOfAll_8 (Ws hw 8 rfl) (fun _ => rfl) rfl ?_
  refine ax_istore_n (i := 3) dX10_griefOfAll_9 rfl (by decide) rfl ?_
  refine ax_iconst (v := 0) dX10_griefOfAll_10 (by decide) ?_
  refine ax_istore dX10_griefOfAll_11 (by decide) rfl ?_
  refine ax_lv [(0, .ref w), (1, .int (sumB (G (w + 8)) 0)), (2, .ref (w + 8)), (3, .int 4), (4, .int (nI 0))] ⟨rfl, rfl, rfl, rfl, rfl, trivial⟩ ?_
  refine l_X10_griefOfAll hw ?_ 5 0 (by omega) (by omega)
  refine ax_iload_n (i := 1) dX10_griefOfAll_36 rfl rfl ?_
  refine ax_iret dX10_griefOfAll_37 rfl rfl (Nat.le_of_ble_eq_true rfl) (Nat.le_of_ble_eq_true rfl) ?_
  exact rq rfl
def r_X10_score (G : Gt) (L : Lt) (w : Nat)  : Int32 := ((10000 * (bc (evenB (G (w + 8)) 4))) - (sumB (G (w + 8)) 4))
theorem c_X10_score {Z : Zt} {G : Gt} {L : Lt} {w : Nat}  (hw : isW Z w)   : AC mX10_score 2 0 0 [.ref w] Z G L (DQ (some (.int (r_X10_score G L w ))) Z G L) := by
  refine AC.intro (by decide +kernel) (Nat.le_of_ble_eq_true rfl) ?_
  refine ax_lv [(0, .ref w)] ⟨rfl, trivial⟩ ?_
  refine ax_sipush (v := 10000) dX10_score_0 (by decide) ?_
  refine ax_aload_n (i := 0) dX10_score_3 rfl rfl ?_
  refine ax_cVv dX10_score_4 lk_X10_144 (c_X10_evenPeople hw) rfl (Ws0 hw) ⟨_, rfl, rfl⟩ rfl (Nat.le_of_ble_eq_true rfl) (Nat.le_of_ble_eq_true rfl) (Nat.le_of_ble_eq_true rfl) (Nat.le_of_ble_eq_true rfl) ?_
  refine ax_cSv dX10_score_7 lk_X10_147 (c_bitCount (evenB (G (w + 8)) 4)) rfl rfl (Nat.le_of_ble_eq_true rfl) (Nat.le_of_ble_eq_true rfl) (Nat.le_of_ble_eq_true rfl) (Nat.le_of_ble_eq_true rfl) ?_
  refine ax_imul dX10_score_10 ?_
  refine ax_aload_n (i := 0) dX10_score_11 rfl rfl ?_
  refine ax_cVv dX10_score_12 lk_X10_152 (c_X10_griefOfAll hw) rfl (Ws0 hw) ⟨_, rfl, rfl⟩ rfl (Nat.le_of_ble_eq_true rfl) (Nat.le_of_ble_eq_true rfl) (Nat.le_of_ble_eq_true rfl) (Nat.le_of_ble_eq_true rfl) ?_
  refine ax_isub dX10_score_15 ?_
  refine ax_iret dX10_score_16 rfl rfl (Nat.le_of_ble_eq_true rfl) (Nat.le_of_ble_eq_true rfl) ?_
  exact ⟨congrArg (fun z => some (Value.int z)) (Eq.symm rfl), rfl, rfl, rfl⟩
