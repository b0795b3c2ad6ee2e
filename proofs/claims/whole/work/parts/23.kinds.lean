-- ===== contracts: kinds of rockets =====
theorem rem4 {a : Nat} (h : a < 2147483648) : nI a - nI a / 4 * 4 = nI (a % 4) := pk_rem h (by decide) (by decide)
theorem rem3 {a : Nat} (h : a < 2147483648) : nI a - nI a / 3 * 3 = nI (a % 3) := pk_rem h (by decide) (by decide)
theorem rem10 {a : Nat} (h : a < 2147483648) : nI a - nI a / 10 * 10 = nI (a % 10) := pk_rem h (by decide) (by decide)
theorem c_X10_rainNow {Z : Zt} {G : Gt} {L : Lt} {w : Nat} (hw : isW Z w) {mm : Nat} (hmm : mm < 1000000) (hmi : G w 15 = nI mm) : AC mX10_rainNow 1 0 0 [.ref w] Z G L (DQ (some (.int (G (w + 9) (mm % 4)))) Z G L) := by
  refine AC.intro (by decide +kernel) (Nat.le_of_ble_eq_true rfl) ?_
  refine ax_lv [(0, .ref w)] ⟨rfl, trivial⟩ ?_
  refine ax_aload_n (i := 0) dX10_rainNow_0 rfl rfl ?_
  refine ax_getR dX10_rainNow_1 fl_X10_45 rfl (Ws0 hw) (Wr hw 3 rfl) ?_
  refine ax_aload_n (i := 0) dX10_rainNow_4 rfl rfl ?_
  refine ax_getI dX10_rainNow_5 fl_X10_79 rfl (Ws0 hw) ?_
  refine ax_iconst (v := 4) dX10_rainNow_8 (by decide) ?_
  refine ax_irem dX10_rainNow_9 (by decide) ?_
  refine ax_ialdN (mm % 4) dX10_rainNow_10 (Ws hw 9 rfl) (by rw [hmi]; exact rem4 (by omega)) (Nat.mod_lt _ (by decide)) (by decide) ?_
  refine ax_iret dX10_rainNow_11 rfl rfl (Nat.le_of_ble_eq_true rfl) (Nat.le_of_ble_eq_true rfl) ?_
  exact ⟨rfl, rfl, rfl, rfl⟩
theorem c_X10_isUnlit {Z : Zt} {G : Gt} {L : Lt} {w : Nat} (hw : isW Z w) (p : Nat) (hp : p < 6) : AC mX10_isUnlit 1 0 0 [.ref w, .int (nI p)] Z G L (RQ (.int (bi (G (w + 2 + p) 5 = 0))) Z G L) := by
  refine AC.intro (by decide +kernel) (Nat.le_of_ble_eq_true rfl) ?_
  refine ax_lv [(0, .ref w), (1, .int (nI p))] ⟨rfl, rfl, trivial⟩ ?_
  refine ax_aload_n (i := 0) dX10_isUnlit_0 rfl rfl ?_
  refine ax_getR dX10_isUnlit_1 fl_X10_38 rfl (Ws0 hw) (Wr hw 1 rfl) ?_
  refine ax_iload_n (i := 1) dX10_isUnlit_4 rfl rfl ?_
  refine ax_aaldN p (t0 := 5) dX10_isUnlit_5 (Ws hw 1 rfl) rfl (fun _ => rfl) rfl hp (by decide) (Wrf hw hp) ?_
  refine ax_iconst (v := 5) dX10_isUnlit_6 (by decide) ?_
  refine ax_ialdN 5 dX10_isUnlit_7 (Wrow hw hp) rfl (by decide) (by decide) ?_
  refine ax_if_ne (tgt := 15) dX10_isUnlit_8 (by decide) (fun c_8 => ?_) (fun c_8 => ?_)
  · refine ax_iconst (v := 0) dX10_isUnlit_15 (by decide) ?_
    refine ax_iret dX10_isUnlit_16 rfl rfl (Nat.le_of_ble_eq_true rfl) (Nat.le_of_ble_eq_true rfl) ?_
    exact rq (by first | exact (bi_t (by assumption)).symm | exact (bi_f (by assumption)).symm)
  · refine ax_iconst (v := 1) dX10_isUnlit_11 (by decide) ?_
    refine ax_goto (tgt := 16) dX10_isUnlit_12 (by decide) ?_
    refine ax_iret dX10_isUnlit_16 rfl rfl (Nat.le_of_ble_eq_true rfl) (Nat.le_of_ble_eq_true rfl) ?_
    exact rq (by first | exact (bi_t (by assumption)).symm | exact (bi_f (by assumption)).symm)
theorem c_X5_brightness {Z : Zt} {G : Gt} {L : Lt} (k : Nat) {w : Nat} (hw : isW Z w) (p : Nat) (hp : p < 6) (sum : Int32)  : AC mX5_brightness 1 0 0 [.ref k, .ref w, .ref (w + 2 + p), .int sum] Z G L (RQ (.int (sum)) Z G L) := by
  refine AC.intro (by decide +kernel) (Nat.le_of_ble_eq_true rfl) ?_
  refine ax_lv [(0, .ref k), (1, .ref w), (2, .ref (w + 2 + p)), (3, .int sum)] ⟨rfl, rfl, rfl, rfl, trivial⟩ ?_
  refine ax_iload_n (i := 3) dX5_brightness_0 rfl rfl ?_
  refine ax_iret dX5_brightness_1 rfl rfl (Nat.le_of_ble_eq_true rfl) (Nat.le_of_ble_eq_true rfl) ?_
  exact rq rfl
theorem c_X2_brightness {Z : Zt} {G : Gt} {L : Lt} (k : Nat) {w : Nat} (hw : isW Z w) (p : Nat) (hp : p < 6) (sum : Int32)  : AC mX2_brightness 1 0 0 [.ref k, .ref w, .ref (w + 2 + p), .int sum] Z G L (RQ (.int (sum + G (w + 2 + p) 1)) Z G L) := by
  refine AC.intro (by decide +kernel) (Nat.le_of_ble_eq_true rfl) ?_
  refine ax_lv [(0, .ref k), (1, .ref w), (2, .ref (w + 2 + p)), (3, .int sum)] ⟨rfl, rfl, rfl, rfl, trivial⟩ ?_
  refine ax_iload_n (i := 3) dX2_brightness_0 rfl rfl ?_
  refine ax_aload_n (i := 2) dX2_brightness_1 rfl rfl ?_
  refine ax_iconst (v := 1) dX2_brightness_2 (by decide) ?_
  refine ax_ialdN 1 dX2_brightness_3 (Wrow hw hp) rfl (by decide) (by decide) ?_
  refine ax_iadd dX2_brightness_4 ?_
  refine ax_iret dX2_brightness_5 rfl rfl (Nat.le_of_ble_eq_true rfl) (Nat.le_of_ble_eq_true rfl) ?_
  exact rq rfl
theorem c_X9_brightness {Z : Zt} {G : Gt} {L : Lt} (k : Nat) {w : Nat} (hw : isW Z w) (p : Nat) (hp : p < 6) (sum : Int32)  : AC mX9_brightness 1 0 0 [.ref k, .ref w, .ref (w + 2 + p), .int sum] Z G L (RQ (.int (sum / 2)) Z G L) := by
  refine AC.intro (by decide +kernel) (Nat.le_of_ble_eq_true rfl) ?_
  refine ax_lv [(0, .ref k), (1, .ref w), (2, .ref (w + 2 + p)), (3, .int sum)] ⟨rfl, rfl, rfl, rfl, trivial⟩ ?_
  refine ax_iload_n (i := 3) dX9_brightness_0 rfl rfl ?_
  refine ax_iconst (v := 2) dX9_brightness_1 (by decide) ?_
  refine ax_idiv dX9_brightness_2 (by decide) ?_
  refine ax_iret dX9_brightness_3 rfl rfl (Nat.le_of_ble_eq_true rfl) (Nat.le_of_ble_eq_true rfl) ?_
  exact rq rfl
theorem c_X3_brightness {Z : Zt} {G : Gt} {L : Lt} (k : Nat) {w : Nat} (hw : isW Z w) (p : Nat) (hp : p < 6) (sum : Int32) {mm : Nat} (hmm : mm < 1000000) (hmi : G w 15 = nI mm) : AC mX3_brightness 2 0 0 [.ref k, .ref w, .ref (w + 2 + p), .int sum] Z G L (RQ (.int (if G (w + 9) (mm % 4) ≤ G (w + 2 + p) 1 then sum else 0)) Z G L) := by
  refine AC.intro (by decide +kernel) (Nat.le_of_ble_eq_true rfl) ?_
  refine ax_lv [(0, .ref k), (1, .ref w), (2, .ref (w + 2 + p)), (3, .int sum)] ⟨rfl, rfl, rfl, rfl, trivial⟩ ?_
  refine ax_aload_n (i := 1) dX3_brightness_0 rfl rfl ?_
  refine ax_cVv dX3_brightness_1 lk_X3_9 (c_X10_rainNow hw hmm hmi) rfl (Ws0 hw) ⟨_, rfl, rfl⟩ rfl (Nat.le_of_ble_eq_true rfl) (Nat.le_of_ble_eq_true rfl) (Nat.le_of_ble_eq_true rfl) (Nat.le_of_ble_eq_true rfl) ?_
  refine ax_aload_n (i := 2) dX3_brightness_4 rfl rfl ?_
  refine ax_iconst (v := 1) dX3_brightness_5 (by decide) ?_
  refine ax_ialdN 1 dX3_brightness_6 (Wrow hw hp) rfl (by decide) (by decide) ?_
  refine ax_icmp_le (tgt := 14) dX3_brightness_7 (by decide) (fun c_7 => ?_) (fun c_7 => ?_)
  · refine ax_iload_n (i := 3) dX3_brightness_14 rfl rfl ?_
    refine ax_iret dX3_brightness_15 rfl rfl (Nat.le_of_ble_eq_true rfl) (Nat.le_of_ble_eq_true rfl) ?_
    exact rq (by first | exact (if_pos (by assumption)).symm | exact (if_neg (by assumption)).symm)
  · refine ax_iconst (v := 0) dX3_brightness_10 (by decide) ?_
    refine ax_goto (tgt := 15) dX3_brightness_11 (by decide) ?_
    refine ax_iret dX3_brightness_15 rfl rfl (Nat.le_of_ble_eq_true rfl) (Nat.le_of_ble_eq_true rfl) ?_
    exact rq (by first | exact (if_pos (by assumption)).symm | exact (if_neg (by assumption)).symm)
theorem c_X1_brightness {Z : Zt} {G : Gt} {L : Lt} (k : Nat) (hk9 : Z.2.1 k = some (.inl 1)) {w : Nat} (hw : isW Z w) (p : Nat) (hp : p < 6) (sum : Int32) {m : Nat} (hm : m ≤ 6) (hc : G w 11 = nI m) : AC mX1_brightness 2 0 0 [.ref k, .ref w, .ref (w + 2 + p), .int sum] Z G L (RQ (.int (sum + G (w + 2 + p) 1 + 2 * bc (inB (fun p => G (w + 2 + p) 5) 2 m))) Z G L) := by
  refine AC.intro (by decide +kernel) (Nat.le_of_ble_eq_true rfl) ?_
  refine ax_lv [(0, .ref k), (1, .ref w), (2, .ref (w + 2 + p)), (3, .int sum)] ⟨rfl, rfl, rfl, rfl, trivial⟩ ?_
  refine ax_aload_n (i := 0) dX1_brightness_0 rfl rfl ?_
  refine ax_aload_n (i := 1) dX1_brightness_1 rfl rfl ?_
  refine ax_aload_n (i := 2) dX1_brightness_2 rfl rfl ?_
  refine ax_iload_n (i := 3) dX1_brightness_3 rfl rfl ?_
  refine ax_cP dX1_brightness_4 lp_X1_9 (c_X2_brightness k hw p hp sum) rfl hk9 rfl (Nat.le_of_ble_eq_true rfl) (Nat.le_of_ble_eq_true rfl) (Nat.le_of_ble_eq_true rfl) (Nat.le_of_ble_eq_true rfl) ?_
  refine ax_iconst (v := 2) dX1_brightness_7 (by decide) ?_
  refine ax_aload_n (i := 1) dX1_brightness_8 rfl rfl ?_
  refine ax_iconst (v := 2) dX1_brightness_9 (by decide) ?_
  refine ax_cVv dX1_brightness_10 lk_X1_13 (c_X10_rocketsIn hw hm hc 2) rfl (Ws0 hw) ⟨_, rfl, rfl⟩ rfl (Nat.le_of_ble_eq_true rfl) (Nat.le_of_ble_eq_true rfl) (Nat.le_of_ble_eq_true rfl) (Nat.le_of_ble_eq_true rfl) ?_
  refine ax_cSv dX1_brightness_13 lk_X1_19 (c_bitCount (inB (fun p => G (w + 2 + p) 5) 2 m)) rfl rfl (Nat.le_of_ble_eq_true rfl) (Nat.le_of_ble_eq_true rfl) (Nat.le_of_ble_eq_true rfl) (Nat.le_of_ble_eq_true rfl) ?_
  refine ax_imul dX1_brightness_16 ?_
  refine ax_iadd dX1_brightness_17 ?_
  refine ax_iret dX1_brightness_18 rfl rfl (Nat.le_of_ble_eq_true rfl) (Nat.le_of_ble_eq_true rfl) ?_
  exact rq rfl
theorem c_X8_brightness {Z : Zt} {G : Gt} {L : Lt} (k : Nat) (hk9 : Z.2.1 k = some (.inl 8)) {w : Nat} (hw : isW Z w) (p : Nat) (hp : p < 6) (sum : Int32) : AC mX8_brightness 2 0 0 [.ref k, .ref w, .ref (w + 2 + p), .int sum] Z G L (RQ (.int (if G w 15 - G w 15 / 3 * 3 = 0 then 2 * (sum / 2) else sum / 2)) Z G L) := by
  refine AC.intro (by decide +kernel) (Nat.le_of_ble_eq_true rfl) ?_
  refine ax_lv [(0, .ref k), (1, .ref w), (2, .ref (w + 2 + p)), (3, .int sum)] ⟨rfl, rfl, rfl, rfl, trivial⟩ ?_
  refine ax_aload_n (i := 0) dX8_brightness_0 rfl rfl ?_
  refine ax_aload_n (i := 1) dX8_brightness_1 rfl rfl ?_
  refine ax_aload_n (i := 2) dX8_brightness_2 rfl rfl ?_
  refine ax_iload_n (i := 3) dX8_brightness_3 rfl rfl ?_
  refine ax_cP dX8_brightness_4 lp_X8_7 (c_X9_brightness k hw p hp sum) rfl hk9 rfl (Nat.le_of_ble_eq_true rfl) (Nat.le_of_ble_eq_true rfl) (Nat.le_of_ble_eq_true rfl) (Nat.le_of_ble_eq_true rfl) ?_
  refine ax_istore dX8_brightness_7 (by decide) rfl ?_
  refine ax_aload_n (i := 1) dX8_brightness_9 rfl rfl ?_
  refine ax_getI dX8_brightness_10 fl_X8_11 rfl (Ws0 hw) ?_
  refine ax_iconst (v := 3) dX8_brightness_13 (by decide) ?_
  refine ax_irem dX8_brightness_14 (by decide) ?_
  refine ax_if_ne (tgt := 25) dX8_brightness_15 (by decide) (fun c_15 => ?_) (fun c_15 => ?_)
  · refine ax_iload dX8_brightness_25 rfl ?_
    refine ax_iret dX8_brightness_27 rfl rfl (Nat.le_of_ble_eq_true rfl) (Nat.le_of_ble_eq_true rfl) ?_
    exact rq (by first | exact (if_pos (by assumption)).symm | exact (if_neg (by assumption)).symm)
  · refine ax_iconst (v := 2) dX8_brightness_18 (by decide) ?_
    refine ax_iload dX8_brightness_19 rfl ?_
    refine ax_imul dX8_brightness_21 ?_
    refine ax_goto (tgt := 27) dX8_brightness_22 (by decide) ?_
    refine ax_iret dX8_brightness_27 rfl rfl (Nat.le_of_ble_eq_true rfl) (Nat.le_of_ble_eq_true rfl) ?_
    exact rq (by first | exact (if_pos (by assumption)).symm | exact (if_neg (by assumption)).symm)
theorem c_X7_brightness {Z : Zt} {G : Gt} {L : Lt} (k : Nat) (hk9 : Z.2.1 k = some (.inl 7)) {w : Nat} (hw : isW Z w) (p : Nat) (hp : p < 6) (sum : Int32) {mm : Nat} (hmm : mm < 1000000) (hmi : G w 15 = nI mm) : AC mX7_brightness 3 0 0 [.ref k, .ref w, .ref (w + 2 + p), .int sum] Z G L (RQ (.int ((if G (w + 9) (mm % 4) ≤ G (w + 2 + p) 1 then sum else 0) + G (w + 2 + p) (6 + mm % 4))) Z G L) := by
  refine AC.intro (by decide +kernel) (Nat.le_of_ble_eq_true rfl) ?_
  refine ax_lv [(0, .ref k), (1, .ref w), (2, .ref (w + 2 + p)), (3, .int sum)] ⟨rfl, rfl, rfl, rfl, trivial⟩ ?_
  refine ax_aload_n (i := 0) dX7_brightness_0 rfl rfl ?_
  refine ax_aload_n (i := 1) dX7_brightness_1 rfl rfl ?_
  refine ax_aload_n (i := 2) dX7_brightness_2 rfl rfl ?_
  refine ax_iload_n (i := 3) dX7_brightness_3 rfl rfl ?_
  refine ax_cP dX7_brightness_4 lp_X7_9 (c_X3_brightness k hw p hp sum hmm hmi) rfl hk9 rfl (Nat.le_of_ble_eq_true rfl) (Nat.le_of_ble_eq_true rfl) (Nat.le_of_ble_eq_true rfl) (Nat.le_of_ble_eq_true rfl) ?_
  refine ax_aload_n (i := 2) dX7_brightness_7 rfl rfl ?_
  refine ax_bipush (v := 6) dX7_brightness_8 (by decide) ?_
  refine ax_aload_n (i := 1) dX7_brightness_10 rfl rfl ?_
  refine ax_getI dX7_brightness_11 fl_X7_13 rfl (Ws0 hw) ?_
  refine ax_iconst (v := 4) dX7_brightness_14 (by decide) ?_
  refine ax_irem dX7_brightness_15 (by decide) ?_
  refine ax_iadd dX7_brightness_16 ?_
  refine ax_ialdN (6 + mm % 4) dX7_brightness_17 (Wrow hw hp) (by rw [hmi, rem4 (by omega)]; exact nI_add 6 (mm % 4)) (by omega) (by decide) ?_
  refine ax_iadd dX7_brightness_18 ?_
  refine ax_iret dX7_brightness_19 rfl rfl (Nat.le_of_ble_eq_true rfl) (Nat.le_of_ble_eq_true rfl) ?_
  exact rq rfl
