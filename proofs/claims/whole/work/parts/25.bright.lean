-- ===== contracts: how bright a rocket of a World is =====
/-- how bright, by kind -/
def lightK (k v sum rn mi seen rw : Int32) : Int32 := if k = 0 then sum else if k = 1 then sum + v else if k = 2 then sum / 2 else if k = 3 then (if rn ≤ v then sum else 0) else if k = 4 then sum + v + 2 * bc seen else if k = 5 then (if mi - mi / 3 * 3 = 0 then 2 * (sum / 2) else sum / 2) else (if rn ≤ v then sum else 0) + rw
theorem lk_0 {v sum rn mi seen rw : Int32} : lightK (nI 0) v sum rn mi seen rw = sum := by unfold lightK; rw [if_pos (by decide)]
theorem lk_1 {v sum rn mi seen rw : Int32} : lightK (nI 1) v sum rn mi seen rw = sum + v := by unfold lightK; rw [if_neg (by decide), if_pos (by decide)]
theorem lk_2 {v sum rn mi seen rw : Int32} : lightK (nI 2) v sum rn mi seen rw = sum / 2 := by unfold lightK; rw [if_neg (by decide), if_neg (by decide), if_pos (by decide)]
theorem lk_3 {v sum rn mi seen rw : Int32} : lightK (nI 3) v sum rn mi seen rw = (if rn ≤ v then sum else 0) := by unfold lightK; rw [if_neg (by decide), if_neg (by decide), if_neg (by decide), if_pos (by decide)]
theorem lk_4 {v sum rn mi seen rw : Int32} : lightK (nI 4) v sum rn mi seen rw = sum + v + 2 * bc seen := by unfold lightK; rw [if_neg (by decide), if_neg (by decide), if_neg (by decide), if_neg (by decide), if_pos (by decide)]
theorem lk_5 {v sum rn mi seen rw : Int32} : lightK (nI 5) v sum rn mi seen rw = (if mi - mi / 3 * 3 = 0 then 2 * (sum / 2) else sum / 2) := by unfold lightK; rw [if_neg (by decide), if_neg (by decide), if_neg (by decide), if_neg (by decide), if_neg (by decide), if_pos (by decide)]
theorem lk_6 {v sum rn mi seen rw : Int32} : lightK (nI 6) v sum rn mi seen rw = (if rn ≤ v then sum else 0) + rw := by unfold lightK; rw [if_neg (by decide), if_neg (by decide), if_neg (by decide), if_neg (by decide), if_neg (by decide), if_neg (by decide)]
/-- the show that a World holds -/
def dryO (Z : Zt) (G : Gt) (o : Option Nat) : Int32 := match o with
  | none => 2
  | some k => G k 1
def sbO (Z : Zt) (G : Gt) (o : Option Nat) (num : Int32) (row : Nat → Int32) (mi : Int32) : Int32 := match o with
  | none => 0
  | some k => match Z.2.2 k 0 with
    | none => 0
    | some sp => match Z.2.1 sp with
      | some (.inr (_, n)) => (brR (G sp) num row mi (n / 3)).1
      | _ => 0
def shOK (Z : Zt) (G : Gt) (o : Option Nat) : Prop := ∀ k, o = some k → 108 ≤ k ∧ Z.2.1 k = some (.inl 6) ∧ ∃ sp m, 108 ≤ sp ∧ Z.2.2 k 0 = some sp ∧ Z.2.1 sp = some (.inr (.int, 3 * m)) ∧ m ≤ 100 ∧ stOK (G sp) m
theorem sbO_s {Z : Zt} {G : Gt} {k sp m : Nat} {num mi : Int32} {row : Nat → Int32} (h1 : Z.2.2 k 0 = some sp) (h2 : Z.2.1 sp = some (.inr (.int, 3 * m))) : sbO Z G (some k) num row mi = (brR (G sp) num row mi m).1 := by
  unfold sbO
  simp only [h1, h2]
  rw [Nat.mul_div_cancel_left m (by decide)]
/-- how bright rocket p of World w is -/
def lightW (Z : Zt) (G : Gt) (w m mm p : Nat) : Int32 := lightK (G (w + 2 + p) 0) (G (w + 2 + p) 1) (2 * G (w + 2 + p) 2 - G (w + 2 + p) 4 / 10 + sbO Z G (Z.2.2 w 16) (nI p) (G (w + 2 + p)) (G w 15)) (G (w + 9) (mm % 4)) (G w 15) (inB (fun p => G (w + 2 + p) 5) 2 m) (G (w + 2 + p) (6 + mm % 4))
theorem c_X10_dryness {Z : Zt} {G : Gt} {L : Lt} {w : Nat} (hw : isW Z w) (hsh : shOK Z G (Z.2.2 w 16)) : AC mX10_dryness 1 0 0 [.ref w] Z G L (RQ (.int (dryO Z G (Z.2.2 w 16))) Z G L) := by
  refine AC.intro (by decide +kernel) (Nat.le_of_ble_eq_true rfl) ?_
  refine ax_lv [(0, .ref w)] ⟨rfl, trivial⟩ ?_
  refine ax_aload_n (i := 0) dX10_dryness_0 rfl rfl ?_
  refine ax_getO dX10_dryness_1 fl_X10_82 rfl (Ws0 hw) ?_
  refine ax_ifnonnull (tgt := 11) dX10_dryness_4 (by decide) (fun k_4 c_4 => ?_) (fun c_4 => ?_)
  · refine ax_aload_n (i := 0) dX10_dryness_11 rfl rfl ?_
    refine ax_getR dX10_dryness_12 fl_X10_82 rfl (Ws0 hw) c_4 ?_
    refine ax_getI dX10_dryness_15 fl_X10_105 rfl (hsh k_4 c_4).2.1 ?_
    refine ax_iret dX10_dryness_18 rfl rfl (Nat.le_of_ble_eq_true rfl) (Nat.le_of_ble_eq_true rfl) ?_
    exact rq (by rw [c_4]; rfl)
  · refine ax_iconst (v := 2) dX10_dryness_7 (by decide) ?_
    refine ax_goto (tgt := 18) dX10_dryness_8 (by decide) ?_
    refine ax_iret dX10_dryness_18 rfl rfl (Nat.le_of_ble_eq_true rfl) (Nat.le_of_ble_eq_true rfl) ?_
    exact rq (by rw [c_4]; rfl)
theorem t_X10_brightness {Z : Zt} {G : Gt} {L : Lt} {Q : Qt} (hZ : OK Z) {w : Nat} (hw : isW Z w) (p : Nat) (hp : p < 6) {m : Nat} (hm : m ≤ 6) (hc : G w 11 = nI m) {mm : Nat} (hmm : mm < 1000000) (hmi : G w 15 = nI mm) {kk : Nat} (hkk : kk < 7) (hk : G (w + 2 + p) 0 = nI kk) (sum : Int32) (hq : Q (some (.int (lightK (G (w + 2 + p) 0) (G (w + 2 + p) 1) sum (G (w + 9) (mm % 4)) (G w 15) (inB (fun p => G (w + 2 + p) 5) 2 m) (G (w + 2 + p) (6 + mm % 4))))) Z G L) : AX none mX10_brightness 4 0 0 0 0 43 [(0, .ref w), (2, .ref (w + 2 + p)), (3, .int sum)] [] Z G L Q := by
  rcases (show kk = 0 ∨ kk = 1 ∨ kk = 2 ∨ kk = 3 ∨ kk = 4 ∨ kk = 5 ∨ kk = 6 by omega) with rfl | rfl | rfl | rfl | rfl | rfl | rfl
  · refine ax_aload_n (i := 0) dX10_brightness_43 rfl rfl ?_
    refine ax_getR dX10_brightness_44 fl_X10_30 rfl (Ws0 hw) (Wk hw) ?_
    refine ax_aload_n (i := 2) dX10_brightness_47 rfl rfl ?_
    refine ax_iconst (v := 0) dX10_brightness_48 (by decide) ?_
    refine ax_ialdN 0 dX10_brightness_49 (Wrow hw hp) rfl (by decide) (by decide) ?_
    refine ax_aaldN 0 (t0 := 4) dX10_brightness_50 (Wks hw) rfl (fun _ => rfl) hk (by decide) (by decide) (Wkr hw 0 (by decide)) ?_
    refine ax_aload_n (i := 0) dX10_brightness_51 rfl rfl ?_
    refine ax_aload_n (i := 2) dX10_brightness_52 rfl rfl ?_
    refine ax_iload_n (i := 3) dX10_brightness_53 rfl rfl ?_
    refine ax_cU dX10_brightness_54 lu_X10_114_X5 (c_X5_brightness (kd w + 1 + 0) hw p hp sum) rfl (Wkk hw 0 rfl) ⟨_, rfl, rfl⟩ rfl (Nat.le_of_ble_eq_true rfl) (Nat.le_of_ble_eq_true rfl) (Nat.le_of_ble_eq_true rfl) (Nat.le_of_ble_eq_true rfl) ?_
    refine ax_iret dX10_brightness_57 rfl rfl (Nat.le_of_ble_eq_true rfl) (Nat.le_of_ble_eq_true rfl) ?_
    exact cast (congrArg (fun z => Q (some (Value.int z)) Z G L) (by rw [hk, lk_0])) hq
  · refine ax_aload_n (i := 0) dX10_brightness_43 rfl rfl ?_
    refine ax_getR dX10_brightness_44 fl_X10_30 rfl (Ws0 hw) (Wk hw) ?_
    refine ax_aload_n (i := 2) dX10_brightness_47 rfl rfl ?_
    refine ax_iconst (v := 0) dX10_brightness_48 (by decide) ?_
    refine ax_ialdN 0 dX10_brightness_49 (Wrow hw hp) rfl (by decide) (by decide) ?_
    refine ax_aaldN 1 (t0 := 4) dX10_brightness_50 (Wks hw) rfl (fun _ => rfl) hk (by decide) (by decide) (Wkr hw 1 (by decide)) ?_
    refine ax_aload_n (i := 0) dX10_brightness_51 rfl rfl ?_
    refine ax_aload_n (i := 2) dX10_brightness_52 rfl rfl ?_
    refine ax_iload_n (i := 3) dX10_brightness_53 rfl rfl ?_
    refine ax_cU dX10_brightness_54 lu_X10_114_X2 (c_X2_brightness (kd w + 1 + 1) hw p hp sum) rfl (Wkk hw 1 rfl) ⟨_, rfl, rfl⟩ rfl (Nat.le_of_ble_eq_true rfl) (Nat.le_of_ble_eq_true rfl) (Nat.le_of_ble_eq_true rfl) (Nat.le_of_ble_eq_true rfl) ?_
    refine ax_iret dX10_brightness_57 rfl rfl (Nat.le_of_ble_eq_true rfl) (Nat.le_of_ble_eq_true rfl) ?_
    exact cast (congrArg (fun z => Q (some (Value.int z)) Z G L) (by rw [hk, lk_1])) hq
  · refine ax_aload_n (i := 0) dX10_brightness_43 rfl rfl ?_
    refine ax_getR dX10_brightness_44 fl_X10_30 rfl (Ws0 hw) (Wk hw) ?_
    refine ax_aload_n (i := 2) dX10_brightness_47 rfl rfl ?_
    refine ax_iconst (v := 0) dX10_brightness_48 (by decide) ?_
    refine ax_ialdN 0 dX10_brightness_49 (Wrow hw hp) rfl (by decide) (by decide) ?_
    refine ax_aaldN 2 (t0 := 4) dX10_brightness_50 (Wks hw) rfl (fun _ => rfl) hk (by decide) (by decide) (Wkr hw 2 (by decide)) ?_
    refine ax_aload_n (i := 0) dX10_brightness_51 rfl rfl ?_
    refine ax_aload_n (i := 2) dX10_brightness_52 rfl rfl ?_
    refine ax_iload_n (i := 3) dX10_brightness_53 rfl rfl ?_
    refine ax_cU dX10_brightness_54 lu_X10_114_X9 (c_X9_brightness (kd w + 1 + 2) hw p hp sum) rfl (Wkk hw 2 rfl) ⟨_, rfl, rfl⟩ rfl (Nat.le_of_ble_eq_true rfl) (Nat.le_of_ble_eq_true rfl) (Nat.le_of_ble_eq_true rfl) (Nat.le_of_ble_eq_true rfl) ?_
    refine ax_iret dX10_brightness_57 rfl rfl (Nat.le_of_ble_eq_true rfl) (Nat.le_of_ble_eq_true rfl) ?_
    exact cast (congrArg (fun z => Q (some (Value.int z)) Z G L) (by rw [hk, lk_2])) hq
  · refine ax_aload_n (i := 0) dX10_brightness_43 rfl rfl ?_
    refine ax_getR dX10_brightness_44 fl_X10_30 rfl (Ws0 hw) (Wk hw) ?_
    refine ax_aload_n (i := 2) dX10_brightness_47 rfl rfl ?_
    refine ax_iconst (v := 0) dX10_brightness_48 (by decide) ?_
    refine ax_ialdN 0 dX10_brightness_49 (Wrow hw hp) rfl (by decide) (by decide) ?_
    refine ax_aaldN 3 (t0 := 4) dX10_brightness_50 (Wks hw) rfl (fun _ => rfl) hk (by decide) (by decide) (Wkr hw 3 (by decide)) ?_
    refine ax_aload_n (i := 0) dX10_brightness_51 rfl rfl ?_
    refine ax_aload_n (i := 2) dX10_brightness_52 rfl rfl ?_
    refine ax_iload_n (i := 3) dX10_brightness_53 rfl rfl ?_
    refine ax_cU dX10_brightness_54 lu_X10_114_X3 (c_X3_brightness (kd w + 1 + 3) hw p hp sum hmm hmi) rfl (Wkk hw 3 rfl) ⟨_, rfl, rfl⟩ rfl (Nat.le_of_ble_eq_true rfl) (Nat.le_of_ble_eq_true rfl) (Nat.le_of_ble_eq_true rfl) (Nat.le_of_ble_eq_true rfl) ?_
    refine ax_iret dX10_brightness_57 rfl rfl (Nat.le_of_ble_eq_true rfl) (Nat.le_of_ble_eq_true rfl) ?_
    exact cast (congrArg (fun z => Q (some (Value.int z)) Z G L) (by rw [hk, lk_3])) hq
  · refine ax_aload_n (i := 0) dX10_brightness_43 rfl rfl ?_
    refine ax_getR dX10_brightness_44 fl_X10_30 rfl (Ws0 hw) (Wk hw) ?_
    refine ax_aload_n (i := 2) dX10_brightness_47 rfl rfl ?_
    refine ax_iconst (v := 0) dX10_brightness_48 (by decide) ?_
    refine ax_ialdN 0 dX10_brightness_49 (Wrow hw hp) rfl (by decide) (by decide) ?_
    refine ax_aaldN 4 (t0 := 4) dX10_brightness_50 (Wks hw) rfl (fun _ => rfl) hk (by decide) (by decide) (Wkr hw 4 (by decide)) ?_
    refine ax_aload_n (i := 0) dX10_brightness_51 rfl rfl ?_
    refine ax_aload_n (i := 2) dX10_brightness_52 rfl rfl ?_
    refine ax_iload_n (i := 3) dX10_brightness_53 rfl rfl ?_
    refine ax_cU dX10_brightness_54 lu_X10_114_X1 (c_X1_brightness (kd w + 1 + 4) (Wkk hw 4 rfl) hw p hp sum hm hc) rfl (Wkk hw 4 rfl) ⟨_, rfl, rfl⟩ rfl (Nat.le_of_ble_eq_true rfl) (Nat.le_of_ble_eq_true rfl) (Nat.le_of_ble_eq_true rfl) (Nat.le_of_ble_eq_true rfl) ?_
    refine ax_iret dX10_brightness_57 rfl rfl (Nat.le_of_ble_eq_true rfl) (Nat.le_of_ble_eq_true rfl) ?_
    exact cast (congrArg (fun z => Q (some (Value.int z)) Z G L) (by rw [hk, lk_4])) hq
  · refine ax_aload_n (i := 0) dX10_brightness_43 rfl rfl ?_
    refine ax_getR dX10_brightness_44 fl_X10_30 rfl (Ws0 hw) (Wk hw) ?_
    refine ax_aload_n (i := 2) dX10_brightness_47 rfl rfl ?_
    refine ax_iconst (v := 0) dX10_brightness_48 (by decide) ?_
    refine ax_ialdN 0 dX10_brightness_49 (Wrow hw hp) rfl (by decide) (by decide) ?_
    refine ax_aaldN 5 (t0 := 4) dX10_brightness_50 (Wks hw) rfl (fun _ => rfl) hk (by decide) (by decide) (Wkr hw 5 (by decide)) ?_
    refine ax_aload_n (i := 0) dX10_brightness_51 rfl rfl ?_
    refine ax_aload_n (i := 2) dX10_brightness_52 rfl rfl ?_
    refine ax_iload_n (i := 3) dX10_brightness_53 rfl rfl ?_
    refine ax_cU dX10_brightness_54 lu_X10_114_X8 (c_X8_brightness (kd w + 1 + 5) (Wkk hw 5 rfl) hw p hp sum) rfl (Wkk hw 5 rfl) ⟨_, rfl, rfl⟩ rfl (Nat.le_of_ble_eq_true rfl) (Nat.le_of_ble_eq_true rfl) (Nat.le_of_ble_eq_true rfl) (Nat.le_of_ble_eq_true rfl) ?_
    refine ax_iret dX10_brightness_57 rfl rfl (Nat.le_of_ble_eq_true rfl) (Nat.le_of_ble_eq_true rfl) ?_
    exact cast (congrArg (fun z => Q (some (Value.int z)) Z G L) (by rw [hk, lk_5])) hq
  · refine ax_aload_n (i := 0) dX10_brightness_43 rfl rfl ?_
    refine ax_getR dX10_brightness_44 fl_X10_30 rfl (Ws0 hw) (Wk hw) ?_
    refine ax_aload_n (i := 2) dX10_brightness_47 rfl rfl ?_
    refine ax_iconst (v := 0) dX10_brightness_48 (by decide) ?_
    refine ax_ialdN 0 dX10_brightness_49 (Wrow hw hp) rfl (by decide) (by decide) ?_
    refine ax_aaldN 6 (t0 := 4) dX10_brightness_50 (Wks hw) rfl (fun _ => rfl) hk (by decide) (by decide) (Wkr hw 6 (by decide)) ?_
    refine ax_aload_n (i := 0) dX10_brightness_51 rfl rfl ?_
    refine ax_aload_n (i := 2) dX10_brightness_52 rfl rfl ?_
    refine ax_iload_n (i := 3) dX10_brightness_53 rfl rfl ?_
    refine ax_cU dX10_brightness_54 lu_X10_114_X7 (c_X7_brightness (kd w + 1 + 6) (Wkk hw 6 rfl) hw p hp sum hmm hmi) rfl (Wkk hw 6 rfl) ⟨_, rfl, rfl⟩ rfl (Nat.le_of_ble_eq_true rfl) (Nat.le_of_ble_eq_true rfl) (Nat.le_of_ble_eq_true rfl) (Nat.le_of_ble_eq_true rfl) ?_
    refine ax_iret dX10_brightness_57 rfl rfl (Nat.le_of_ble_eq_true rfl) (Nat.le_of_ble_eq_true rfl) ?_
    exact cast (congrArg (fun z => Q (some (Value.int z)) Z G L) (by rw [hk, lk_6])) hq
theorem c_X10_brightness {Z : Zt} {G : Gt} {L : Lt} (hZ : OK Z) {w : Nat} (hw : isW Z w) (p : Nat) (hp : p < 6) {m : Nat} (hm : m ≤ 6) (hc : G w 11 = nI m) {mm : Nat} (hmm : mm < 1000000) (hmi : G w 15 = nI mm) {kk : Nat} (hkk : kk < 7) (hk : G (w + 2 + p) 0 = nI kk) (hsh : shOK Z G (Z.2.2 w 16)) : AC mX10_brightness 4 0 0 [.ref w, .int (nI p)] Z G L (RQ (.int (lightW Z G w m mm p)) Z G L) := by
  refine AC.intro (by decide +kernel) (Nat.le_of_ble_eq_true rfl) ?_
  refine ax_lv [(0, .ref w), (1, .int (nI p))] ⟨rfl, rfl, trivial⟩ ?_
  refine ax_aload_n (i := 0) dX10_brightness_0 rfl rfl ?_
  refine ax_getR dX10_brightness_1 fl_X10_38 rfl (Ws0 hw) (Wr hw 1 rfl) ?_
  refine ax_iload_n (i := 1) dX10_brightness_4 rfl rfl ?_
  refine ax_aaldN p (t0 := 5) dX10_brightness_5 (Ws hw 1 rfl) rfl (fun _ => rfl) rfl hp (by decide) (Wrf hw hp) ?_
  refine ax_astore_n (i := 2) dX10_brightness_6 rfl (by decide) rfl ?_
  refine ax_iconst (v := 2) dX10_brightness_7 (by decide) ?_
  refine ax_aload_n (i := 2) dX10_brightness_8 rfl rfl ?_
  refine ax_iconst (v := 2) dX10_brightness_9 (by decide) ?_
  refine ax_ialdN 2 dX10_brightness_10 (Wrow hw hp) rfl (by decide) (by decide) ?_
  refine ax_imul dX10_brightness_11 ?_
  refine ax_aload_n (i := 2) dX10_brightness_12 rfl rfl ?_
  refine ax_iconst (v := 4) dX10_brightness_13 (by decide) ?_
  refine ax_ialdN 4 dX10_brightness_14 (Wrow hw hp) rfl (by decide) (by decide) ?_
  refine ax_bipush (v := 10) dX10_brightness_15 (by decide) ?_
  refine ax_idiv dX10_brightness_17 (by decide) ?_
  refine ax_isub dX10_brightness_18 ?_
  refine ax_istore_n (i := 3) dX10_brightness_19 rfl (by decide) rfl ?_
  refine ax_aload_n (i := 0) dX10_brightness_20 rfl rfl ?_
  refine ax_getO dX10_brightness_21 fl_X10_82 rfl (Ws0 hw) ?_
  refine ax_ifnull (tgt := 43) dX10_brightness_24 (by decide) (fun c_24 => ?_) (fun k_24 c_24 => ?_)
  · refine ax_lv [(0, .ref w), (2, .ref (w + 2 + p)), (3, .int (2 * G (w + 2 + p) 2 - G (w + 2 + p) 4 / 10))] ⟨rfl, rfl, rfl, trivial⟩ ?_
    refine t_X10_brightness hZ hw p hp hm hc hmm hmi hkk hk _ ?_
    refine rq ?_
    unfold lightW
    rw [c_24]
    show _ = lightK _ _ (_ + 0) _ _ _ _
    rw [Int32.add_zero]
  · obtain ⟨-, hs1, sp, m9, -, hs2, hs3, hs4, hs5⟩ := hsh k_24 c_24
    refine ax_iload_n (i := 3) dX10_brightness_27 rfl rfl ?_
    refine ax_aload_n (i := 0) dX10_brightness_28 rfl rfl ?_
    refine ax_getR dX10_brightness_29 fl_X10_82 rfl (Ws0 hw) c_24 ?_
    refine ax_iload_n (i := 1) dX10_brightness_32 rfl rfl ?_
    refine ax_aload_n (i := 2) dX10_brightness_33 rfl rfl ?_
    refine ax_aload_n (i := 0) dX10_brightness_34 rfl rfl ?_
    refine ax_getI dX10_brightness_35 fl_X10_79 rfl (Ws0 hw) ?_
    refine ax_cVv dX10_brightness_38 lk_X10_110 (c_X6_brightens hs1 hs2 hs3 hs4 (Wrow hw hp) hs5 (nI p) (G w 15)) rfl hs1 ⟨_, rfl, rfl⟩ rfl (Nat.le_of_ble_eq_true rfl) (Nat.le_of_ble_eq_true rfl) (Nat.le_of_ble_eq_true rfl) (Nat.le_of_ble_eq_true rfl) ?_
    refine ax_iadd dX10_brightness_41 ?_
    refine ax_istore_n (i := 3) dX10_brightness_42 rfl (by decide) rfl ?_
    refine ax_lv [(0, .ref w), (2, .ref (w + 2 + p)), (3, .int (2 * G (w + 2 + p) 2 - G (w + 2 + p) 4 / 10 + (brR (G sp) (nI p) (G (w + 2 + p)) (G w 15) m9).1))] ⟨rfl, rfl, rfl, trivial⟩ ?_
    refine t_X10_brightness hZ hw p hp hm hc hmm hmi hkk hk _ ?_
    refine rq ?_
    unfold lightW
    rw [c_24, sbO_s hs2 hs3]
