-- ===== the class reads: signs, steps, numbers, tests =====
def imTc (G : Gt) (T : Nat × (Nat → Nat)) : Prop := G 1 1 = nI T.1 ∧ ∀ i, i < T.1 → G 2 i = nI (T.2 i)
/-- the Reader while it reads: at place a, with steps ss, dry x -/
def RS (G0 G : Gt) (a : Nat) (ss : List St) (x : Int32) : Prop := G 1 4 = nI a ∧ G 1 3 = nI (3 * ss.length) ∧ stM3 (G 3) ss ∧ G 1 6 = x ∧ (∀ y, y ≠ 1 → y ≠ 3 → G y = G0 y) ∧ ∀ i, i ≠ 3 → i ≠ 4 → i ≠ 5 → i ≠ 6 → G 1 i = G0 1 i
def RSx (G0 G : Gt) (a : Nat) (x : Int32) : Prop := ∃ ss, ss.length ≤ 100 ∧ RS G0 G a ss x
theorem RS_11 {G0 G : Gt} {a : Nat} {ss : List St} {x : Int32} {T : Nat × (Nat → Nat)} (h : RS G0 G a ss x) (hT : imTc G0 T) : G 1 1 = nI T.1 := (h.2.2.2.2.2 1 (by decide) (by decide) (by decide) (by decide)).trans hT.1
theorem RS_tx {G0 G : Gt} {a : Nat} {ss : List St} {x : Int32} {T : Nat × (Nat → Nat)} (h : RS G0 G a ss x) (hT : imTc G0 T) {i : Nat} (hi : i < T.1) : G 2 i = nI (T.2 i) := by
  rw [h.2.2.2.2.1 2 (by decide) (by decide)]; exact hT.2 i hi
theorem RS_at {G0 G : Gt} {a : Nat} {ss : List St} {x : Int32} {a' : Nat} {v : Int32} (h : RS G0 G a ss x) (hv : v = nI a') : RS G0 (up2 G 1 4 v) a' ss x := by
  obtain ⟨h1, h2, h3, h4, h5, h6⟩ := h
  exact ⟨by rw [up2_s]; exact hv, by rw [up2_i (by decide)]; exact h2, by rw [up2_row (by decide)]; exact h3, by rw [up2_i (by decide)]; exact h4, fun y y1 y2 => (up2_row y1).trans (h5 y y1 y2), fun i e1 e2 e3 e4 => by rw [up2_i e2]; exact h6 i e1 e2 e3 e4⟩
theorem RS_n {G0 G : Gt} {a : Nat} {ss : List St} {x : Int32} {v : Int32} (h : RS G0 G a ss x) : RS G0 (up2 G 1 5 v) a ss x := by
  obtain ⟨h1, h2, h3, h4, h5, h6⟩ := h
  exact ⟨by rw [up2_i (by decide)]; exact h1, by rw [up2_i (by decide)]; exact h2, by rw [up2_row (by decide)]; exact h3, by rw [up2_i (by decide)]; exact h4, fun y y1 y2 => (up2_row y1).trans (h5 y y1 y2), fun i e1 e2 e3 e4 => by rw [up2_i e3]; exact h6 i e1 e2 e3 e4⟩
theorem RS_dr {G0 G : Gt} {a : Nat} {ss : List St} {x : Int32} {v : Int32} (h : RS G0 G a ss x) : RS G0 (up2 G 1 6 v) a ss v := by
  obtain ⟨h1, h2, h3, h4, h5, h6⟩ := h
  exact ⟨by rw [up2_i (by decide)]; exact h1, by rw [up2_i (by decide)]; exact h2, by rw [up2_row (by decide)]; exact h3, by rw [up2_s], fun y y1 y2 => (up2_row y1).trans (h5 y y1 y2), fun i e1 e2 e3 e4 => by rw [up2_i e4]; exact h6 i e1 e2 e3 e4⟩
theorem RS_0 {G0 G : Gt} {a : Nat} {ss : List St} {x : Int32} {v : Int32} (h : RS G0 G a ss x) (hv : v = nI 0) : RS G0 (up2 G 1 3 v) a [] x := by
  obtain ⟨h1, h2, h3, h4, h5, h6⟩ := h
  exact ⟨by rw [up2_i (by decide)]; exact h1, by rw [up2_s]; exact hv, fun j hj => absurd hj (Nat.not_lt_zero j), by rw [up2_i (by decide)]; exact h4, fun y y1 y2 => (up2_row y1).trans (h5 y y1 y2), fun i e1 e2 e3 e4 => by rw [up2_i e1]; exact h6 i e1 e2 e3 e4⟩
theorem RS_add {G0 G : Gt} {a : Nat} {ss : List St} {x : Int32} {s b c : Nat} {v : Int32} (h : RS G0 G a ss x) (hv : v = nI (3 * ss.length + 3)) : RS G0 (up2 (up2 (up2 (up2 G 3 (3 * ss.length) (nI s)) 3 (3 * ss.length + 1) (nI b)) 3 (3 * ss.length + 2) (nI c)) 1 3 v) a (ss ++ [(s, b, c)]) x := by
  obtain ⟨h1, h2, h3, h4, h5, h6⟩ := h
  refine ⟨by rw [up2_i (by decide), up2_k (by decide), up2_k (by decide), up2_k (by decide)]; exact h1, by rw [up2_s, hv, List.length_append]; rfl, fun j hj => ?_, by rw [up2_i (by decide), up2_k (by decide), up2_k (by decide), up2_k (by decide)]; exact h4, fun y y1 y2 => (up2_row y1).trans ((up2_row y2).trans ((up2_row y2).trans ((up2_row y2).trans (h5 y y1 y2)))), fun i e1 e2 e3 e4 => by rw [up2_i e1, up2_k (by decide), up2_k (by decide), up2_k (by decide)]; exact h6 i e1 e2 e3 e4⟩
  rw [List.length_append] at hj
  have hj : j < ss.length + 1 := hj
  by_cases e : j = ss.length
  · subst e
    have e1 : (ss ++ [(s, b, c)]).getD ss.length (0, 0, 0) = (s, b, c) := by
      rw [List.getD_eq_getElem?_getD, List.getElem?_append_right (Nat.le_refl _), Nat.sub_self]; rfl
    rw [e1]
    exact ⟨by rw [up2_k (by decide), up2_i (by omega), up2_i (by omega), up2_s], by rw [up2_k (by decide), up2_i (by omega), up2_s], by rw [up2_k (by decide), up2_s]⟩
  · have e1 : (ss ++ [(s, b, c)]).getD j (0, 0, 0) = ss.getD j (0, 0, 0) := by
      rw [List.getD_eq_getElem?_getD, List.getD_eq_getElem?_getD, List.getElem?_append_left (by omega)]
    rw [e1]
    obtain ⟨g1, g2, g3⟩ := h3 j (by omega)
    exact ⟨by rw [up2_k (by decide), up2_i (by omega), up2_i (by omega), up2_i (by omega)]; exact g1, by rw [up2_k (by decide), up2_i (by omega), up2_i (by omega), up2_i (by omega)]; exact g2, by rw [up2_k (by decide), up2_i (by omega), up2_i (by omega), up2_i (by omega)]; exact g3⟩
/-- what comes next -/
def nxV (T : Nat × (Nat → Nat)) (a : Nat) : Int32 := if a < T.1 then nI (T.2 a) else -1
theorem nx_eq {T : Nat × (Nat → Nat)} (hT2 : ∀ i, i < T.1 → T.2 i < 128) {a s : Nat} (hs : s < 128) : nxV T a = nI s ↔ chT T a = s := by
  unfold nxV chT
  by_cases c : a < T.1
  · rw [if_pos c, if_pos c]; exact nI_eq (by have := hT2 a c; omega) (by omega)
  · rw [if_neg c, if_neg c]
    exact ⟨fun z => absurd z.symm (nI_m1 (by omega)), fun z => by omega⟩
theorem n_next {Z : Zt} {G : Gt} {L : Lt} (hZ : OK Z) {G0 : Gt} {T : Nat × (Nat → Nat)} (hT : imTc G0 T) (hT1 : T.1 ≤ 100) (hT2 : ∀ i, i < T.1 → T.2 i < 128) {a : Nat} {ss : List St} {x : Int32} (hp : RS G0 G a ss x) (ha : a ≤ T.1) : AC mX4_next 1 0 0 [.ref 1] Z G L (RQ (.int (nxV T a)) Z G L) := by
  have e11 := RS_11 hp hT
  refine AC.intro (by decide +kernel) (Nat.le_of_ble_eq_true rfl) ?_
  refine ax_lv [(0, .ref 1)] ⟨rfl, trivial⟩ ?_
  refine ax_aload_n (i := 0) dX4_next_0 rfl rfl ?_
  refine ax_getI dX4_next_1 fl_X4_19 rfl (OKs hZ rfl) ?_
  refine ax_top (congrArg Value.int hp.1) ?_
  refine ax_aload_n (i := 0) dX4_next_4 rfl rfl ?_
  refine ax_getI dX4_next_5 fl_X4_33 rfl (OKs hZ rfl) ?_
  refine ax_top (congrArg Value.int e11) ?_
  refine ax_icmp_ge (tgt := 23) dX4_next_8 (by decide) (fun c_8 => ?_) (fun c_8 => ?_)
  · refine ax_iconst (v := (-1)) dX4_next_23 (by decide) ?_
    refine ax_iret dX4_next_24 rfl rfl (Nat.le_of_ble_eq_true rfl) (Nat.le_of_ble_eq_true rfl) ?_
    exact ⟨congrArg (fun z => some (Value.int z)) (show -1 = nxV T a from by unfold nxV; rw [if_neg (by have := (nI_leI (by omega) (by omega)).mp c_8; omega)]), rfl, rfl, rfl⟩
  · have hl : a < T.1 := by have := mt (nI_leI (by omega) (by omega)).mpr c_8; omega
    refine ax_aload_n (i := 0) dX4_next_11 rfl rfl ?_
    refine ax_getR dX4_next_12 fl_X4_9 rfl (OKs hZ rfl) (OKr hZ rfl) ?_
    refine ax_aload_n (i := 0) dX4_next_15 rfl rfl ?_
    refine ax_getI dX4_next_16 fl_X4_19 rfl (OKs hZ rfl) ?_
    refine ax_baldN a dX4_next_19 (OKs hZ rfl) hp.1 (show a < 100 by omega) (by decide) ?_
    refine ax_top (congrArg Value.int (RS_tx hp hT hl)) ?_
    refine ax_goto (tgt := 24) dX4_next_20 (by decide) ?_
    refine ax_iret dX4_next_24 rfl rfl (Nat.le_of_ble_eq_true rfl) (Nat.le_of_ble_eq_true rfl) ?_
    exact ⟨congrArg (fun z => some (Value.int z)) (show nI (T.2 a) = nxV T a from by unfold nxV; rw [if_pos hl]), rfl, rfl, rfl⟩
theorem n_take {Z : Zt} {G : Gt} {L : Lt} (hZ : OK Z) {G0 : Gt} {T : Nat × (Nat → Nat)} (hT : imTc G0 T) (hT1 : T.1 ≤ 100) (hT2 : ∀ i, i < T.1 → T.2 i < 128) {a : Nat} {ss : List St} {x : Int32} (hp : RS G0 G a ss x) (ha : a ≤ T.1) (s : Nat) (hs : s < 128) : AC mX4_take 2 0 0 [.ref 1, .int (nI s)] Z G L (RP (.int (bI (decide (chT T a = s)))) (fun Z' G' L' => Z' = Z ∧ L' = L ∧ RS G0 G' (if chT T a = s then a + 1 else a) ss x)) := by
  refine AC.intro (by decide +kernel) (Nat.le_of_ble_eq_true rfl) ?_
  refine ax_lv [(0, .ref 1), (1, .int (nI s))] ⟨rfl, rfl, trivial⟩ ?_
  refine ax_aload_n (i := 0) dX4_take_0 rfl rfl ?_
  refine ax_cVv dX4_take_1 lk_X4_51 (n_next hZ hT hT1 hT2 hp ha) rfl (OKs hZ rfl) ⟨_, rfl, rfl⟩ rfl (Nat.le_of_ble_eq_true rfl) (Nat.le_of_ble_eq_true rfl) (Nat.le_of_ble_eq_true rfl) (Nat.le_of_ble_eq_true rfl) ?_
  refine ax_iload_n (i := 1) dX4_take_4 rfl rfl ?_
  refine ax_icmp_eq (tgt := 10) dX4_take_5 (by decide) (fun c_5 => ?_) (fun c_5 => ?_)
  · refine ax_aload_n (i := 0) dX4_take_10 rfl rfl ?_
    refine ax_dup dX4_take_11 rfl ?_
    refine ax_getI dX4_take_12 fl_X4_19 rfl (OKs hZ rfl) ?_
    refine ax_iconst (v := 1) dX4_take_15 (by decide) ?_
    refine ax_iadd dX4_take_16 ?_
    refine ax_putI dX4_take_17 fl_X4_19 (Or.inl fp_X4_4_4) rfl rfl rfl (OKs hZ rfl) ?_
    refine ax_iconst (v := 1) dX4_take_20 (by decide) ?_
    refine ax_iret dX4_take_21 rfl rfl (Nat.le_of_ble_eq_true rfl) (Nat.le_of_ble_eq_true rfl) ?_
    have c9 := (nx_eq hT2 hs).mp c_5
    rw [decide_eq_true c9, if_pos c9]
    exact ⟨rfl, rfl, rfl, RS_at hp (by rw [hp.1]; exact nI_1 a)⟩
  · refine ax_iconst (v := 0) dX4_take_8 (by decide) ?_
    refine ax_iret dX4_take_9 rfl rfl (Nat.le_of_ble_eq_true rfl) (Nat.le_of_ble_eq_true rfl) ?_
    have c9 := mt (nx_eq hT2 hs).mpr c_5
    rw [decide_eq_false c9, if_neg c9]
    exact ⟨rfl, rfl, rfl, hp⟩
theorem n_add {Z : Zt} {G : Gt} {L : Lt} (hZ : OK Z) {G0 : Gt} {a : Nat} {ss : List St} {x : Int32} (hp : RS G0 G a ss x) (hle : ss.length ≤ 100) (s b c : Nat) : AC mX4_addStep 1 0 0 [.ref 1, .int (nI s), .int (nI b), .int (nI c)] Z G L (NP (fun Z' G' L' => Z' = Z ∧ L' = L ∧ RS G0 G' a (if ss.length < 100 then ss ++ [(s, b, c)] else ss) x)) := by
  refine AC.intro (by decide +kernel) (Nat.le_of_ble_eq_true rfl) ?_
  refine ax_lv [(0, .ref 1), (1, .int (nI s)), (2, .int (nI b)), (3, .int (nI c))] ⟨rfl, rfl, rfl, rfl, trivial⟩ ?_
  refine ax_aload_n (i := 0) dX4_addStep_0 rfl rfl ?_
  refine ax_getI dX4_addStep_1 fl_X4_23 rfl (OKs hZ rfl) ?_
  refine ax_top (congrArg Value.int hp.2.1) ?_
  refine ax_iconst (v := 3) dX4_addStep_4 (by decide) ?_
  refine ax_iadd dX4_addStep_5 ?_
  refine ax_top (congrArg Value.int (show nI (3 * ss.length) + 3 = nI (3 * ss.length + 3) from nI_add _ 3)) ?_
  refine ax_aload_n (i := 0) dX4_addStep_6 rfl rfl ?_
  refine ax_getR dX4_addStep_7 fl_X4_15 rfl (OKs hZ rfl) (OKr hZ rfl) ?_
  refine ax_alen (t0 := 0) (v := 300) dX4_addStep_10 (OKs hZ rfl) (fun _ => rfl) rfl ?_
  refine ax_icmp_gt (tgt := 58) dX4_addStep_11 (by decide) (fun c_11 => ?_) (fun c_11 => ?_)
  · refine ax_vret dX4_addStep_58 rfl (Nat.le_of_ble_eq_true rfl) (Nat.le_of_ble_eq_true rfl) ?_
    rw [if_neg (show ¬ ss.length < 100 from by have := (nI_ltI (by decide) (by omega)).mp (show nI 300 < nI (3 * ss.length + 3) from c_11); omega)]
    exact ⟨rfl, rfl, rfl, hp⟩
  · have hl : ss.length < 100 := by have := mt (nI_ltI (a := 300) (by decide) (by omega)).mpr c_11; omega
    refine ax_aload_n (i := 0) dX4_addStep_14 rfl rfl ?_
    refine ax_getR dX4_addStep_15 fl_X4_15 rfl (OKs hZ rfl) (OKr hZ rfl) ?_
    refine ax_aload_n (i := 0) dX4_addStep_18 rfl rfl ?_
    refine ax_getI dX4_addStep_19 fl_X4_23 rfl (OKs hZ rfl) ?_
    refine ax_iload_n (i := 1) dX4_addStep_22 rfl rfl ?_
    refine ax_iastN (3 * ss.length) dX4_addStep_23 (OKs hZ rfl) hp.2.1 (show _ < 300 by omega) (by decide) ?_
    refine ax_aload_n (i := 0) dX4_addStep_24 rfl rfl ?_
    refine ax_getR dX4_addStep_25 fl_X4_15 rfl (OKs hZ rfl) (OKr hZ rfl) ?_
    refine ax_aload_n (i := 0) dX4_addStep_28 rfl rfl ?_
    refine ax_getI dX4_addStep_29 fl_X4_23 rfl (OKs hZ rfl) ?_
    refine ax_iconst (v := 1) dX4_addStep_32 (by decide) ?_
    refine ax_iadd dX4_addStep_33 ?_
    refine ax_iload_n (i := 2) dX4_addStep_34 rfl rfl ?_
    refine ax_iastN (3 * ss.length + 1) dX4_addStep_35 (OKs hZ rfl) (show _ = nI (3 * ss.length + 1) from by rw [up2_k (by decide), hp.2.1]; exact nI_1 _) (show _ < 300 by omega) (by decide) ?_
    refine ax_aload_n (i := 0) dX4_addStep_36 rfl rfl ?_
    refine ax_getR dX4_addStep_37 fl_X4_15 rfl (OKs hZ rfl) (OKr hZ rfl) ?_
    refine ax_aload_n (i := 0) dX4_addStep_40 rfl rfl ?_
    refine ax_getI dX4_addStep_41 fl_X4_23 rfl (OKs hZ rfl) ?_
    refine ax_iconst (v := 2) dX4_addStep_44 (by decide) ?_
    refine ax_iadd dX4_addStep_45 ?_
    refine ax_iload_n (i := 3) dX4_addStep_46 rfl rfl ?_
    refine ax_iastN (3 * ss.length + 2) dX4_addStep_47 (OKs hZ rfl) (show _ = nI (3 * ss.length + 2) from by rw [up2_k (by decide), up2_k (by decide), hp.2.1]; exact nI_add _ 2) (show _ < 300 by omega) (by decide) ?_
    refine ax_aload_n (i := 0) dX4_addStep_48 rfl rfl ?_
    refine ax_dup dX4_addStep_49 rfl ?_
    refine ax_getI dX4_addStep_50 fl_X4_23 rfl (OKs hZ rfl) ?_
    refine ax_iconst (v := 3) dX4_addStep_53 (by decide) ?_
    refine ax_iadd dX4_addStep_54 ?_
    refine ax_putI dX4_addStep_55 fl_X4_23 (Or.inl fp_X4_4_3) rfl rfl rfl (OKs hZ rfl) ?_
    refine ax_vret dX4_addStep_58 rfl (Nat.le_of_ble_eq_true rfl) (Nat.le_of_ble_eq_true rfl) ?_
    rw [if_pos hl]
    exact ⟨rfl, rfl, rfl, RS_add hp (by rw [up2_k (by decide), up2_k (by decide), up2_k (by decide), hp.2.1]; exact (show nI (3 * ss.length) + 3 = nI (3 * ss.length + 3) from nI_add _ 3))⟩
theorem n_num {Z : Zt} {G : Gt} {L : Lt} (hZ : OK Z) {G0 : Gt} {T : Nat × (Nat → Nat)} (hT : imTc G0 T) (hT1 : T.1 ≤ 100) (hT2 : ∀ i, i < T.1 → T.2 i < 128) {a : Nat} {ss : List St} {x : Int32} (hp : RS G0 G a ss x) (ha : a ≤ T.1) : AC mX4_takeNumber 1 0 0 [.ref 1] Z G L (RP (.int (bI (decide (0 < nmC T a)))) (fun Z' G' L' => Z' = Z ∧ L' = L ∧ RS G0 G' (a + nmC T a) ss x ∧ G' 1 5 = nI (nmV T a))) := by
  refine AC.intro (by decide +kernel) (Nat.le_of_ble_eq_true rfl) ?_
  refine ax_lv [(0, .ref 1)] ⟨rfl, trivial⟩ ?_
  refine ax_aload_n (i := 0) dX4_takeNumber_0 rfl rfl ?_
  refine ax_iconst (v := 0) dX4_takeNumber_1 (by decide) ?_
  refine ax_putI dX4_takeNumber_2 fl_X4_66 (Or.inl fp_X4_4_5) rfl rfl rfl (OKs hZ rfl) ?_
  refine ax_gen (fun G => RS G0 G a ss x ∧ G 1 5 = nI 0) ⟨RS_n hp, by rw [up2_s]; rfl⟩ (fun G5 hq => ?_)
  obtain ⟨h0, q0⟩ := hq
  refine ax_iconst (v := 0) dX4_takeNumber_5 (by decide) ?_
  refine ax_istore_n (i := 1) dX4_takeNumber_6 rfl (by decide) rfl ?_
  refine ax_iload_n (i := 1) dX4_takeNumber_7 rfl rfl ?_
  refine ax_iconst (v := 2) dX4_takeNumber_8 (by decide) ?_
  refine ax_icmp_ge (tgt := 91) dX4_takeNumber_9 (by decide) (fun c_9 => ?_) (fun c_9 => ?_)
  · exact absurd c_9 (by decide)
  · refine ax_aload_n (i := 0) dX4_takeNumber_12 rfl rfl ?_
    refine ax_getI dX4_takeNumber_13 fl_X4_19 rfl (OKs hZ rfl) ?_
    refine ax_top (congrArg Value.int h0.1) ?_
    refine ax_aload_n (i := 0) dX4_takeNumber_16 rfl rfl ?_
    refine ax_getI dX4_takeNumber_17 fl_X4_33 rfl (OKs hZ rfl) ?_
    refine ax_top (congrArg Value.int (RS_11 h0 hT)) ?_
    refine ax_icmp_ge (tgt := 91) dX4_takeNumber_20 (by decide) (fun c_20 => ?_) (fun c_20 => ?_)
    · refine ax_iload_n (i := 1) dX4_takeNumber_91 rfl rfl ?_
      refine ax_if_le (tgt := 99) dX4_takeNumber_92 (by decide) (fun c_92 => ?_) (fun c_92 => ?_)
      · refine ax_iconst (v := 0) dX4_takeNumber_99 (by decide) ?_
        refine ax_iret dX4_takeNumber_100 rfl rfl (Nat.le_of_ble_eq_true rfl) (Nat.le_of_ble_eq_true rfl) ?_
        have dn : ¬ isDg T a = true := fun z => by have := isDg_lt z; have := (nI_leI (by omega) (by omega)).mp c_20; omega
        have e1 : nmC T a = 0 := by unfold nmC; rw [if_neg dn]
        have e2 : nmV T a = 0 := by unfold nmV; rw [if_neg dn]
        rw [e1, e2]
        exact ⟨rfl, rfl, rfl, h0, q0⟩
      · exact absurd (by decide) c_92
    · have hl0 : a < T.1 := by have := mt (nI_leI (by omega) (by omega)).mpr c_20; omega
      have ec0 : chT T a = T.2 a := by unfold chT; rw [if_pos hl0]
      refine ax_aload_n (i := 0) dX4_takeNumber_23 rfl rfl ?_
      refine ax_getR dX4_takeNumber_24 fl_X4_9 rfl (OKs hZ rfl) (OKr hZ rfl) ?_
      refine ax_aload_n (i := 0) dX4_takeNumber_27 rfl rfl ?_
      refine ax_getI dX4_takeNumber_28 fl_X4_19 rfl (OKs hZ rfl) ?_
      refine ax_baldN a dX4_takeNumber_31 (OKs hZ rfl) h0.1 (show a < 100 by omega) (by decide) ?_
      refine ax_top (congrArg Value.int (RS_tx h0 hT hl0)) ?_
      refine ax_bipush (v := 48) dX4_takeNumber_32 (by decide) ?_
      refine ax_icmp_lt (tgt := 91) dX4_takeNumber_34 (by decide) (fun c_34 => ?_) (fun c_34 => ?_)
      · refine ax_iload_n (i := 1) dX4_takeNumber_91 rfl rfl ?_
        refine ax_if_le (tgt := 99) dX4_takeNumber_92 (by decide) (fun c_92 => ?_) (fun c_92 => ?_)
        · refine ax_iconst (v := 0) dX4_takeNumber_99 (by decide) ?_
          refine ax_iret dX4_takeNumber_100 rfl rfl (Nat.le_of_ble_eq_true rfl) (Nat.le_of_ble_eq_true rfl) ?_
          have dn : ¬ isDg T a = true := fun z => by have z1 := of_decide_eq_true z; have := (nI_ltI (by have := hT2 _ hl0; omega) (by decide)).mp (show nI (T.2 a) < nI 48 from c_34); rw [ec0] at z1; omega
          have e1 : nmC T a = 0 := by unfold nmC; rw [if_neg dn]
          have e2 : nmV T a = 0 := by unfold nmV; rw [if_neg dn]
          rw [e1, e2]
          exact ⟨rfl, rfl, rfl, h0, q0⟩
        · exact absurd (by decide) c_92
      · refine ax_aload_n (i := 0) dX4_takeNumber_37 rfl rfl ?_
        refine ax_getR dX4_takeNumber_38 fl_X4_9 rfl (OKs hZ rfl) (OKr hZ rfl) ?_
        refine ax_aload_n (i := 0) dX4_takeNumber_41 rfl rfl ?_
        refine ax_getI dX4_takeNumber_42 fl_X4_19 rfl (OKs hZ rfl) ?_
        refine ax_baldN a dX4_takeNumber_45 (OKs hZ rfl) h0.1 (show a < 100 by omega) (by decide) ?_
        refine ax_top (congrArg Value.int (RS_tx h0 hT hl0)) ?_
        refine ax_bipush (v := 57) dX4_takeNumber_46 (by decide) ?_
        refine ax_icmp_gt (tgt := 91) dX4_takeNumber_48 (by decide) (fun c_48 => ?_) (fun c_48 => ?_)
        · refine ax_iload_n (i := 1) dX4_takeNumber_91 rfl rfl ?_
          refine ax_if_le (tgt := 99) dX4_takeNumber_92 (by decide) (fun c_92 => ?_) (fun c_92 => ?_)
          · refine ax_iconst (v := 0) dX4_takeNumber_99 (by decide) ?_
            refine ax_iret dX4_takeNumber_100 rfl rfl (Nat.le_of_ble_eq_true rfl) (Nat.le_of_ble_eq_true rfl) ?_
            have dn : ¬ isDg T a = true := fun z => by have z1 := of_decide_eq_true z; have := (nI_ltI (by decide) (by have := hT2 _ hl0; omega)).mp (show nI 57 < nI (T.2 a) from c_48); rw [ec0] at z1; omega
            have e1 : nmC T a = 0 := by unfold nmC; rw [if_neg dn]
            have e2 : nmV T a = 0 := by unfold nmV; rw [if_neg dn]
            rw [e1, e2]
            exact ⟨rfl, rfl, rfl, h0, q0⟩
          · exact absurd (by decide) c_92
        · have d0 : isDg T a = true := by
            have y1 := mt (nI_ltI (a := T.2 a) (b := 48) (by have := hT2 _ hl0; omega) (by decide)).mpr c_34
            have y2 := mt (nI_ltI (a := 57) (b := T.2 a) (by decide) (by have := hT2 _ hl0; omega)).mpr c_48
            exact decide_eq_true (by rw [ec0]; omega)
          have dd0 := of_decide_eq_true d0
          refine ax_aload_n (i := 0) dX4_takeNumber_51 rfl rfl ?_
          refine ax_bipush (v := 10) dX4_takeNumber_52 (by decide) ?_
          refine ax_aload_n (i := 0) dX4_takeNumber_54 rfl rfl ?_
          refine ax_getI dX4_takeNumber_55 fl_X4_66 rfl (OKs hZ rfl) ?_
          refine ax_top (congrArg Value.int q0) ?_
          refine ax_imul dX4_takeNumber_58 ?_
          refine ax_aload_n (i := 0) dX4_takeNumber_59 rfl rfl ?_
          refine ax_getR dX4_takeNumber_60 fl_X4_9 rfl (OKs hZ rfl) (OKr hZ rfl) ?_
          refine ax_aload_n (i := 0) dX4_takeNumber_63 rfl rfl ?_
          refine ax_getI dX4_takeNumber_64 fl_X4_19 rfl (OKs hZ rfl) ?_
          refine ax_baldN a dX4_takeNumber_67 (OKs hZ rfl) h0.1 (show a < 100 by omega) (by decide) ?_
          refine ax_top (congrArg Value.int (RS_tx h0 hT hl0)) ?_
          refine ax_iadd dX4_takeNumber_68 ?_
          refine ax_bipush (v := 48) dX4_takeNumber_69 (by decide) ?_
          refine ax_isub dX4_takeNumber_71 ?_
          refine ax_putI dX4_takeNumber_72 fl_X4_66 (Or.inl fp_X4_4_5) rfl rfl rfl (OKs hZ rfl) ?_
          refine ax_aload_n (i := 0) dX4_takeNumber_75 rfl rfl ?_
          refine ax_dup dX4_takeNumber_76 rfl ?_
          refine ax_getI dX4_takeNumber_77 fl_X4_19 rfl (OKs hZ rfl) ?_
          refine ax_iconst (v := 1) dX4_takeNumber_80 (by decide) ?_
          refine ax_iadd dX4_takeNumber_81 ?_
          refine ax_putI dX4_takeNumber_82 fl_X4_19 (Or.inl fp_X4_4_4) rfl rfl rfl (OKs hZ rfl) ?_
          refine ax_gen (fun G => RS G0 G (a + 1) ss x ∧ G 1 5 = nI (chT T a - 48)) ⟨RS_at (RS_n h0) (by rw [up2_i (by decide), h0.1]; exact nI_1 _), by rw [up2_i (by decide), up2_s]; exact (show 10 * nI 0 + nI (T.2 a) - 48 = nI (chT T a - 48) from by rw [← ec0, show (10 : Int32) = nI 10 from rfl, pk_mul, nI_add, show (48 : Int32) = nI 48 from rfl, pk_sub (by omega)]; congr 1; omega)⟩ (fun G6 hq => ?_)
          obtain ⟨h1, q1⟩ := hq
          refine ax_iinc (v := 0 + 1) dX4_takeNumber_85 rfl rfl (by decide) rfl ?_
          refine ax_goto (tgt := 7) dX4_takeNumber_88 (by decide) ?_
          refine ax_iload_n (i := 1) dX4_takeNumber_7 rfl rfl ?_
          refine ax_iconst (v := 2) dX4_takeNumber_8 (by decide) ?_
          refine ax_icmp_ge (tgt := 91) dX4_takeNumber_9 (by decide) (fun c_9 => ?_) (fun c_9 => ?_)
          · exact absurd c_9 (by decide)
          · refine ax_aload_n (i := 0) dX4_takeNumber_12 rfl rfl ?_
            refine ax_getI dX4_takeNumber_13 fl_X4_19 rfl (OKs hZ rfl) ?_
            refine ax_top (congrArg Value.int h1.1) ?_
            refine ax_aload_n (i := 0) dX4_takeNumber_16 rfl rfl ?_
            refine ax_getI dX4_takeNumber_17 fl_X4_33 rfl (OKs hZ rfl) ?_
            refine ax_top (congrArg Value.int (RS_11 h1 hT)) ?_
            refine ax_icmp_ge (tgt := 91) dX4_takeNumber_20 (by decide) (fun c_20 => ?_) (fun c_20 => ?_)
            · refine ax_iload_n (i := 1) dX4_takeNumber_91 rfl rfl ?_
              refine ax_if_le (tgt := 99) dX4_takeNumber_92 (by decide) (fun c_92 => ?_) (fun c_92 => ?_)
              · exact absurd c_92 (by decide)
              · refine ax_iconst (v := 1) dX4_takeNumber_95 (by decide) ?_
                refine ax_goto (tgt := 100) dX4_takeNumber_96 (by decide) ?_
                refine ax_iret dX4_takeNumber_100 rfl rfl (Nat.le_of_ble_eq_true rfl) (Nat.le_of_ble_eq_true rfl) ?_
                have dn : ¬ isDg T (a + 1) = true := fun z => by have := isDg_lt z; have := (nI_leI (by omega) (by omega)).mp c_20; omega
                have e1 : nmC T a = 1 := by unfold nmC; rw [if_pos d0, if_neg dn]
                have e2 : nmV T a = chT T a - 48 := by unfold nmV; rw [if_pos d0, if_neg dn]
                rw [e1, e2]
                exact ⟨rfl, rfl, rfl, h1, q1⟩
            · have hl1 : (a + 1) < T.1 := by have := mt (nI_leI (by omega) (by omega)).mpr c_20; omega
              have ec1 : chT T (a + 1) = T.2 (a + 1) := by unfold chT; rw [if_pos hl1]
              refine ax_aload_n (i := 0) dX4_takeNumber_23 rfl rfl ?_
              refine ax_getR dX4_takeNumber_24 fl_X4_9 rfl (OKs hZ rfl) (OKr hZ rfl) ?_
              refine ax_aload_n (i := 0) dX4_takeNumber_27 rfl rfl ?_
              refine ax_getI dX4_takeNumber_28 fl_X4_19 rfl (OKs hZ rfl) ?_
              refine ax_baldN (a + 1) dX4_takeNumber_31 (OKs hZ rfl) h1.1 (show (a + 1) < 100 by omega) (by decide) ?_
              refine ax_top (congrArg Value.int (RS_tx h1 hT hl1)) ?_
              refine ax_bipush (v := 48) dX4_takeNumber_32 (by decide) ?_
              refine ax_icmp_lt (tgt := 91) dX4_takeNumber_34 (by decide) (fun c_34 => ?_) (fun c_34 => ?_)
              · refine ax_iload_n (i := 1) dX4_takeNumber_91 rfl rfl ?_
                refine ax_if_le (tgt := 99) dX4_takeNumber_92 (by decide) (fun c_92 => ?_) (fun c_92 => ?_)
                · exact absurd c_92 (by decide)
                · refine ax_iconst (v := 1) dX4_takeNumber_95 (by decide) ?_
                  refine ax_goto (tgt := 100) dX4_takeNumber_96 (by decide) ?_
                  refine ax_iret dX4_takeNumber_100 rfl rfl (Nat.le_of_ble_eq_true rfl) (Nat.le_of_ble_eq_true rfl) ?_
                  have dn : ¬ isDg T (a + 1) = true := fun z => by have z1 := of_decide_eq_true z; have := (nI_ltI (by have := hT2 _ hl1; omega) (by decide)).mp (show nI (T.2 (a + 1)) < nI 48 from c_34); rw [ec1] at z1; omega
                  have e1 : nmC T a = 1 := by unfold nmC; rw [if_pos d0, if_neg dn]
                  have e2 : nmV T a = chT T a - 48 := by unfold nmV; rw [if_pos d0, if_neg dn]
                  rw [e1, e2]
                  exact ⟨rfl, rfl, rfl, h1, q1⟩
              · refine ax_aload_n (i := 0) dX4_takeNumber_37 rfl rfl ?_
                refine ax_getR dX4_takeNumber_38 fl_X4_9 rfl (OKs hZ rfl) (OKr hZ rfl) ?_
                refine ax_aload_n (i := 0) dX4_takeNumber_41 rfl rfl ?_
                refine ax_getI dX4_takeNumber_42 fl_X4_19 rfl (OKs hZ rfl) ?_
                refine ax_baldN (a + 1) dX4_takeNumber_45 (OKs hZ rfl) h1.1 (show (a + 1) < 100 by omega) (by decide) ?_
                refine ax_top (congrArg Value.int (RS_tx h1 hT hl1)) ?_
                refine ax_bipush (v := 57) dX4_takeNumber_46 (by decide) ?_
                refine ax_icmp_gt (tgt := 91) dX4_takeNumber_48 (by decide) (fun c_48 => ?_) (fun c_48 => ?_)
                · refine ax_iload_n (i := 1) dX4_takeNumber_91 rfl rfl ?_
                  refine ax_if_le (tgt := 99) dX4_takeNumber_92 (by decide) (fun c_92 => ?_) (fun c_92 => ?_)
                  · exact absurd c_92 (by decide)
                  · refine ax_iconst (v := 1) dX4_takeNumber_95 (by decide) ?_
                    refine ax_goto (tgt := 100) dX4_takeNumber_96 (by decide) ?_
                    refine ax_iret dX4_takeNumber_100 rfl rfl (Nat.le_of_ble_eq_true rfl) (Nat.le_of_ble_eq_true rfl) ?_
                    have dn : ¬ isDg T (a + 1) = true := fun z => by have z1 := of_decide_eq_true z; have := (nI_ltI (by decide) (by have := hT2 _ hl1; omega)).mp (show nI 57 < nI (T.2 (a + 1)) from c_48); rw [ec1] at z1; omega
                    have e1 : nmC T a = 1 := by unfold nmC; rw [if_pos d0, if_neg dn]
                    have e2 : nmV T a = chT T a - 48 := by unfold nmV; rw [if_pos d0, if_neg dn]
                    rw [e1, e2]
                    exact ⟨rfl, rfl, rfl, h1, q1⟩
                · have d1 : isDg T (a + 1) = true := by
                    have y1 := mt (nI_ltI (a := T.2 (a + 1)) (b := 48) (by have := hT2 _ hl1; omega) (by decide)).mpr c_34
                    have y2 := mt (nI_ltI (a := 57) (b := T.2 (a + 1)) (by decide) (by have := hT2 _ hl1; omega)).mpr c_48
                    exact decide_eq_true (by rw [ec1]; omega)
                  have dd1 := of_decide_eq_true d1
                  refine ax_aload_n (i := 0) dX4_takeNumber_51 rfl rfl ?_
                  refine ax_bipush (v := 10) dX4_takeNumber_52 (by decide) ?_
                  refine ax_aload_n (i := 0) dX4_takeNumber_54 rfl rfl ?_
                  refine ax_getI dX4_takeNumber_55 fl_X4_66 rfl (OKs hZ rfl) ?_
                  refine ax_top (congrArg Value.int q1) ?_
                  refine ax_imul dX4_takeNumber_58 ?_
                  refine ax_aload_n (i := 0) dX4_takeNumber_59 rfl rfl ?_
                  refine ax_getR dX4_takeNumber_60 fl_X4_9 rfl (OKs hZ rfl) (OKr hZ rfl) ?_
                  refine ax_aload_n (i := 0) dX4_takeNumber_63 rfl rfl ?_
                  refine ax_getI dX4_takeNumber_64 fl_X4_19 rfl (OKs hZ rfl) ?_
                  refine ax_baldN (a + 1) dX4_takeNumber_67 (OKs hZ rfl) h1.1 (show (a + 1) < 100 by omega) (by decide) ?_
                  refine ax_top (congrArg Value.int (RS_tx h1 hT hl1)) ?_
                  refine ax_iadd dX4_takeNumber_68 ?_
                  refine ax_bipush (v := 48) dX4_takeNumber_69 (by decide) ?_
                  refine ax_isub dX4_takeNumber_71 ?_
                  refine ax_putI dX4_takeNumber_72 fl_X4_66 (Or.inl fp_X4_4_5) rfl rfl rfl (OKs hZ rfl) ?_
                  refine ax_aload_n (i := 0) dX4_takeNumber_75 rfl rfl ?_
                  refine ax_dup dX4_takeNumber_76 rfl ?_
                  refine ax_getI dX4_takeNumber_77 fl_X4_19 rfl (OKs hZ rfl) ?_
                  refine ax_iconst (v := 1) dX4_takeNumber_80 (by decide) ?_
                  refine ax_iadd dX4_takeNumber_81 ?_
                  refine ax_putI dX4_takeNumber_82 fl_X4_19 (Or.inl fp_X4_4_4) rfl rfl rfl (OKs hZ rfl) ?_
                  refine ax_gen (fun G => RS G0 G (a + 2) ss x ∧ G 1 5 = nI (10 * (chT T a - 48) + (chT T (a + 1) - 48))) ⟨RS_at (RS_n h1) (by rw [up2_i (by decide), h1.1]; exact nI_1 _), by rw [up2_i (by decide), up2_s]; exact (show 10 * nI (chT T a - 48) + nI (T.2 (a + 1)) - 48 = nI (10 * (chT T a - 48) + (chT T (a + 1) - 48)) from by rw [← ec1, show (10 : Int32) = nI 10 from rfl, pk_mul, nI_add, show (48 : Int32) = nI 48 from rfl, pk_sub (by omega)]; congr 1; omega)⟩ (fun G7 hq => ?_)
                  obtain ⟨h2, q2⟩ := hq
                  refine ax_iinc (v := 1 + 1) dX4_takeNumber_85 rfl rfl (by decide) rfl ?_
                  refine ax_goto (tgt := 7) dX4_takeNumber_88 (by decide) ?_
                  refine ax_iload_n (i := 1) dX4_takeNumber_7 rfl rfl ?_
                  refine ax_iconst (v := 2) dX4_takeNumber_8 (by decide) ?_
                  refine ax_icmp_ge (tgt := 91) dX4_takeNumber_9 (by decide) (fun c_9 => ?_) (fun c_9 => ?_)
                  · refine ax_iload_n (i := 1) dX4_takeNumber_91 rfl rfl ?_
                    refine ax_if_le (tgt := 99) dX4_takeNumber_92 (by decide) (fun c_92 => ?_) (fun c_92 => ?_)
                    · exact absurd c_92 (by decide)
                    · refine ax_iconst (v := 1) dX4_takeNumber_95 (by decide) ?_
                      refine ax_goto (tgt := 100) dX4_takeNumber_96 (by decide) ?_
                      refine ax_iret dX4_takeNumber_100 rfl rfl (Nat.le_of_ble_eq_true rfl) (Nat.le_of_ble_eq_true rfl) ?_
                      have e1 : nmC T a = 2 := by unfold nmC; rw [if_pos d0, if_pos d1]
                      have e2 : nmV T a = 10 * (chT T a - 48) + (chT T (a + 1) - 48) := by unfold nmV; rw [if_pos d0, if_pos d1]
                      rw [e1, e2]
                      exact ⟨rfl, rfl, rfl, h2, q2⟩
                  · exact absurd (by decide) c_9
theorem ln_all {Z : Zt} {L : Lt} (hZ : OK Z) {G0 : Gt} {T : Nat × (Nat → Nat)} (hT : imTc G0 T) (hT1 : T.1 ≤ 100) (hT2 : ∀ i, i < T.1 → T.2 i < 128) {i : Nat} (hi : i < 7) (ws : List Nat) (hl : sLen.getD i 0 = ws.length) (hw : ∀ j, j < ws.length → sB i j = nI (ws.getD j 0) ∧ ws.getD j 0 < 128) {ss : List St} {x : Int32} (a : Nat) : ∀ (r j : Nat) (G : Gt), j + r = ws.length → RS G0 G (a + j) ss x → pAll T ws a = pAll T (ws.drop j) (a + j) → a + j ≤ T.1 → AX none mX4_takeAll 5 0 0 0 0 2 [(0, .ref 1), (1, .ref (1000 + i)), (2, .int (nI j))] [] Z G L (RP (.int (bI (pAll T ws a).1)) (fun Z' G' L' => Z' = Z ∧ L' = L ∧ RS G0 G' (pAll T ws a).2 ss x)) := by
  have hl7 := sL_7 i hi
  intro r
  induction r with
  | zero =>
    intro j G h1 hp he ha
    refine ax_iload_n (i := 2) dX4_takeAll_2 rfl rfl ?_
    refine ax_aload_n (i := 1) dX4_takeAll_3 rfl rfl ?_
    refine ax_cT (i := i) dX4_takeAll_4 lk_X4_92 rfl (c_length hi) rfl hi rfl (Nat.le_of_ble_eq_true rfl) (Nat.le_of_ble_eq_true rfl) (Nat.le_of_ble_eq_true rfl) (Nat.le_of_ble_eq_true rfl) ?_
    refine ax_top (congrArg Value.int (congrArg nI hl)) ?_
    refine ax_icmp_ge (tgt := 30) dX4_takeAll_7 (by decide) (fun c_7 => ?_) (fun c_7 => ?_)
    · refine ax_iconst (v := 1) dX4_takeAll_30 (by decide) ?_
      refine ax_iret dX4_takeAll_31 rfl rfl (Nat.le_of_ble_eq_true rfl) (Nat.le_of_ble_eq_true rfl) ?_
      have e9 : pAll T ws a = (true, a + j) := by rw [he, show j = ws.length by omega, List.drop_length, pAll]
      rw [e9]
      exact ⟨rfl, rfl, rfl, hp⟩
    · exact absurd (by rw [show j = ws.length by omega]; exact Int32.le_refl _) c_7
  | succ r ih =>
    intro j G h1 hp he ha
    have hj : j < ws.length := by omega
    refine ax_iload_n (i := 2) dX4_takeAll_2 rfl rfl ?_
    refine ax_aload_n (i := 1) dX4_takeAll_3 rfl rfl ?_
    refine ax_cT (i := i) dX4_takeAll_4 lk_X4_92 rfl (c_length hi) rfl hi rfl (Nat.le_of_ble_eq_true rfl) (Nat.le_of_ble_eq_true rfl) (Nat.le_of_ble_eq_true rfl) (Nat.le_of_ble_eq_true rfl) ?_
    refine ax_top (congrArg Value.int (congrArg nI hl)) ?_
    refine ax_icmp_ge (tgt := 30) dX4_takeAll_7 (by decide) (fun c_7 => ?_) (fun c_7 => ?_)
    · exact absurd c_7 (nI_ge hj (by omega))
    · refine ax_aload_n (i := 0) dX4_takeAll_10 rfl rfl ?_
      refine ax_aload_n (i := 1) dX4_takeAll_11 rfl rfl ?_
      refine ax_iload_n (i := 2) dX4_takeAll_12 rfl rfl ?_
      refine ax_cT (i := i) dX4_takeAll_13 lk_X4_94 rfl (c_charAt hi j (by omega)) rfl hi rfl (Nat.le_of_ble_eq_true rfl) (Nat.le_of_ble_eq_true rfl) (Nat.le_of_ble_eq_true rfl) (Nat.le_of_ble_eq_true rfl) ?_
      refine ax_top (congrArg Value.int (hw j hj).1) ?_
      refine ax_cVq dX4_takeAll_16 lk_X4_36 (n_take hZ hT hT1 hT2 hp ha (ws.getD j 0) (hw j hj).2) rfl (OKs hZ rfl) ⟨_, rfl, rfl⟩ rfl (Nat.le_of_ble_eq_true rfl) (Nat.le_of_ble_eq_true rfl) (Nat.le_of_ble_eq_true rfl) (Nat.le_of_ble_eq_true rfl) ?_
      rintro _ G1 _ ⟨rfl, rfl, p1⟩
      refine ax_if_ne (tgt := 24) dX4_takeAll_19 (by decide) (fun c_19 => ?_) (fun c_19 => ?_)
      · refine ax_iinc (v := (nI j) + 1) dX4_takeAll_24 rfl rfl (by decide) rfl ?_
        refine ax_goto (tgt := 2) dX4_takeAll_27 (by decide) ?_
        have c9 := bI_y c_19
        rw [if_pos c9] at p1
        refine ax_lv [(0, .ref 1), (1, .ref (1000 + i)), (2, .int (nI (j + 1)))] ⟨rfl, rfl, sI (nI_1 j), trivial⟩ ?_
        exact ih (j + 1) _ (by omega) p1 (by rw [he, drop_c hj, pAll, if_pos c9]; rfl) (chT_lt c9 (by have := (hw j hj).2; omega))
      · refine ax_iconst (v := 0) dX4_takeAll_22 (by decide) ?_
        refine ax_iret dX4_takeAll_23 rfl rfl (Nat.le_of_ble_eq_true rfl) (Nat.le_of_ble_eq_true rfl) ?_
        have c9 := bI_n c_19
        rw [if_neg c9] at p1
        have e9 : pAll T ws a = (false, a + j) := by rw [he, drop_c hj, pAll, if_neg c9]
        rw [e9]
        exact ⟨rfl, rfl, rfl, p1⟩
theorem n_all {Z : Zt} {G : Gt} {L : Lt} (hZ : OK Z) {G0 : Gt} {T : Nat × (Nat → Nat)} (hT : imTc G0 T) (hT1 : T.1 ≤ 100) (hT2 : ∀ i, i < T.1 → T.2 i < 128) {i : Nat} (hi : i < 7) (ws : List Nat) (hl : sLen.getD i 0 = ws.length) (hw : ∀ j, j < ws.length → sB i j = nI (ws.getD j 0) ∧ ws.getD j 0 < 128) {a : Nat} {ss : List St} {x : Int32} (hp : RS G0 G a ss x) (ha : a ≤ T.1) : AC mX4_takeAll 5 0 0 [.ref 1, .ref (1000 + i)] Z G L (RP (.int (bI (pAll T ws a).1)) (fun Z' G' L' => Z' = Z ∧ L' = L ∧ RS G0 G' (pAll T ws a).2 ss x)) := by
  refine AC.intro (by decide +kernel) (Nat.le_of_ble_eq_true rfl) ?_
  refine ax_lv [(0, .ref 1), (1, .ref (1000 + i))] ⟨rfl, rfl, trivial⟩ ?_
  refine ax_iconst (v := 0) dX4_takeAll_0 (by decide) ?_
  refine ax_istore_n (i := 2) dX4_takeAll_1 rfl (by decide) rfl ?_
  refine ax_lv [(0, .ref 1), (1, .ref (1000 + i)), (2, .int (nI 0))] ⟨rfl, rfl, rfl, trivial⟩ ?_
  exact ln_all hZ hT hT1 hT2 hi ws hl hw a ws.length 0 G (by omega) hp rfl ha
abbrev PPc (Z : Zt) (L : Lt) (G0 : Gt) (ss : List St) (x : Int32) (r : PR) : Zt → Gt → Lt → Prop := fun Z' G' L' => Z' = Z ∧ L' = L ∧ (r.1 = true → RS G0 G' r.2.1 (ss ++ r.2.2.map tokS) x) ∧ (r.1 = false → RSx G0 G' r.2.1 x)
theorem tok_t {l s n : Nat} (hl : l < 6) (hs : s < 3) (hn : n < 100) : tokS (3 + 300 * l + 100 * s + n) = (s, lch l, n) := by
  unfold tokS
  rw [if_neg (by omega), if_neg (by omega), if_neg (by omega)]
  have e1 : (3 + 300 * l + 100 * s + n - 3) / 100 % 3 = s := by omega
  have e2 : (3 + 300 * l + 100 * s + n - 3) / 300 = l := by omega
  have e3 : (3 + 300 * l + 100 * s + n - 3) % 100 = n := by omega
  rw [e1, e2, e3]
theorem lch_li : ∀ c, c < 128 → ¬ liT c = 6 → lch (liT c) = c := by decide +kernel
theorem n_test {Z : Zt} {G : Gt} {L : Lt} (hZ : OK Z) {G0 : Gt} {T : Nat × (Nat → Nat)} (hT : imTc G0 T) (hT1 : T.1 ≤ 100) (hT2 : ∀ i, i < T.1 → T.2 i < 128) {a : Nat} {ss : List St} {x : Int32} (hp : RS G0 G a ss x) (ha : a ≤ T.1) (hlen : ss.length ≤ a) : AC mX4_takeTest 6 0 0 [.ref 1] Z G L (RP (.int (bI (pTest T a).1)) (PPc Z L G0 ss x (pTest T a))) := by
  refine AC.intro (by decide +kernel) (Nat.le_of_ble_eq_true rfl) ?_
  refine ax_lv [(0, .ref 1)] ⟨rfl, trivial⟩ ?_
  refine ax_aload_n (i := 0) dX4_takeTest_0 rfl rfl ?_
  refine ax_cVv dX4_takeTest_1 lk_X4_51 (n_next hZ hT hT1 hT2 hp ha) rfl (OKs hZ rfl) ⟨_, rfl, rfl⟩ rfl (Nat.le_of_ble_eq_true rfl) (Nat.le_of_ble_eq_true rfl) (Nat.le_of_ble_eq_true rfl) (Nat.le_of_ble_eq_true rfl) ?_
  refine ax_istore_n (i := 1) dX4_takeTest_4 rfl (by decide) rfl ?_
  refine ax_iload_n (i := 1) dX4_takeTest_5 rfl rfl ?_
  refine ax_if_lt (tgt := 19) dX4_takeTest_6 (by decide) (fun c_6 => ?_) (fun c_6 => ?_)
  · refine ax_iconst (v := 0) dX4_takeTest_19 (by decide) ?_
    refine ax_iret dX4_takeTest_20 rfl rfl (Nat.le_of_ble_eq_true rfl) (Nat.le_of_ble_eq_true rfl) ?_
    have e9 : pTest T a = (false, a, []) := by unfold pTest; rw [if_pos (by unfold chT; rw [if_neg (fun z => by unfold nxV at c_6; rw [if_pos z] at c_6; exact nI_pos (by have := hT2 a z; omega) c_6)]; rfl)]
    rw [e9]
    exact ⟨rfl, rfl, rfl, fun z => Bool.noConfusion z, fun _ => ⟨ss, by omega, hp⟩⟩
  · have hl : a < T.1 := Decidable.not_not.mp (fun z => c_6 (by unfold nxV; rw [if_neg z]; decide))
    have ec : chT T a = T.2 a := by unfold chT; rw [if_pos hl]
    have en : nxV T a = nI (T.2 a) := by unfold nxV; rw [if_pos hl]
    refine ax_ldcS (i := 3) (tx := "pkvswm") dX4_takeTest_9 (by decide) ?_
    refine ax_iload_n (i := 1) dX4_takeTest_11 rfl rfl ?_
    refine ax_top (congrArg Value.int en) ?_
    refine ax_i2c dX4_takeTest_12 ?_
    refine ax_top (congrArg Value.int (ch_c _ (hT2 a hl))) ?_
    refine ax_cT (i := 3) dX4_takeTest_13 lk_X4_86 rfl (c_indexOf (i := 3) (by decide) (T.2 a) (hT2 _ hl)) rfl (by decide) rfl (Nat.le_of_ble_eq_true rfl) (Nat.le_of_ble_eq_true rfl) (Nat.le_of_ble_eq_true rfl) (Nat.le_of_ble_eq_true rfl) ?_
    refine ax_top (congrArg Value.int (fs_3 _ (hT2 a hl))) ?_
    refine ax_if_ge (tgt := 21) dX4_takeTest_16 (by decide) (fun c_16 => ?_) (fun c_16 => ?_)
    · have l1 : ¬ liT (T.2 a) = 6 := fun z => by rw [if_pos z] at c_16; exact absurd c_16 (by decide)
      refine ax_aload_n (i := 0) dX4_takeTest_21 rfl rfl ?_
      refine ax_dup dX4_takeTest_22 rfl ?_
      refine ax_getI dX4_takeTest_23 fl_X4_19 rfl (OKs hZ rfl) ?_
      refine ax_iconst (v := 1) dX4_takeTest_26 (by decide) ?_
      refine ax_iadd dX4_takeTest_27 ?_
      refine ax_putI dX4_takeTest_28 fl_X4_19 (Or.inl fp_X4_4_4) rfl rfl rfl (OKs hZ rfl) ?_
      refine ax_gen (fun G => RS G0 G (a + 1) ss x) (RS_at hp (by rw [hp.1]; exact nI_1 a)) (fun G5 hp1 => ?_)
      refine ax_aload_n (i := 0) dX4_takeTest_31 rfl rfl ?_
      refine ax_cVv dX4_takeTest_32 lk_X4_51 (n_next hZ hT hT1 hT2 hp1 hl) rfl (OKs hZ rfl) ⟨_, rfl, rfl⟩ rfl (Nat.le_of_ble_eq_true rfl) (Nat.le_of_ble_eq_true rfl) (Nat.le_of_ble_eq_true rfl) (Nat.le_of_ble_eq_true rfl) ?_
      refine ax_istore_n (i := 2) dX4_takeTest_35 rfl (by decide) rfl ?_
      refine ax_iload_n (i := 2) dX4_takeTest_36 rfl rfl ?_
      refine ax_bipush (v := 60) dX4_takeTest_37 (by decide) ?_
      refine ax_icmp_eq (tgt := 56) dX4_takeTest_39 (by decide) (fun c_39 => ?_) (fun c_39 => ?_)
      · refine ax_aload_n (i := 0) dX4_takeTest_56 rfl rfl ?_
        refine ax_dup dX4_takeTest_57 rfl ?_
        refine ax_getI dX4_takeTest_58 fl_X4_19 rfl (OKs hZ rfl) ?_
        refine ax_iconst (v := 1) dX4_takeTest_61 (by decide) ?_
        refine ax_iadd dX4_takeTest_62 ?_
        refine ax_putI dX4_takeTest_63 fl_X4_19 (Or.inl fp_X4_4_4) rfl rfl rfl (OKs hZ rfl) ?_
        have hl2 : a + 1 < T.1 := chT_lt ((nx_eq hT2 (s := 60) (by decide)).mp c_39) (by decide)
        refine ax_gen (fun G => RS G0 G (a + 2) ss x) (RS_at hp1 (by rw [hp1.1]; exact nI_1 (a + 1))) (fun G6 hp2 => ?_)
        refine ax_aload_n (i := 0) dX4_takeTest_66 rfl rfl ?_
        refine ax_cVq dX4_takeTest_67 lk_X4_63 (n_num hZ hT hT1 hT2 hp2 hl2) rfl (OKs hZ rfl) ⟨_, rfl, rfl⟩ rfl (Nat.le_of_ble_eq_true rfl) (Nat.le_of_ble_eq_true rfl) (Nat.le_of_ble_eq_true rfl) (Nat.le_of_ble_eq_true rfl) ?_
        rintro _ G1 _ ⟨rfl, rfl, p1, v1⟩
        refine ax_if_ne (tgt := 75) dX4_takeTest_70 (by decide) (fun c_70 => ?_) (fun c_70 => ?_)
        · refine ax_aload_n (i := 0) dX4_takeTest_75 rfl rfl ?_
          refine ax_iload_n (i := 2) dX4_takeTest_76 rfl rfl ?_
          refine ax_bipush (v := 60) dX4_takeTest_77 (by decide) ?_
          refine ax_icmp_ne (tgt := 86) dX4_takeTest_79 (by decide) (fun c_79 => ?_) (fun c_79 => ?_)
          · exact absurd c_39 c_79
          · refine ax_iconst (v := 0) dX4_takeTest_82 (by decide) ?_
            refine ax_goto (tgt := 97) dX4_takeTest_83 (by decide) ?_
            refine ax_iload_n (i := 1) dX4_takeTest_97 rfl rfl ?_
            refine ax_top (congrArg Value.int en) ?_
            refine ax_aload_n (i := 0) dX4_takeTest_98 rfl rfl ?_
            refine ax_getI dX4_takeTest_99 fl_X4_66 rfl (OKs hZ rfl) ?_
            refine ax_top (congrArg Value.int v1) ?_
            refine ax_cVq0 dX4_takeTest_102 lk_X4_74 (n_add hZ p1 (by omega) 0 (T.2 a) (nmV T (a + 2))) rfl (OKs hZ rfl) ⟨_, rfl, rfl⟩ rfl (Nat.le_of_ble_eq_true rfl) (Nat.le_of_ble_eq_true rfl) (Nat.le_of_ble_eq_true rfl) (Nat.le_of_ble_eq_true rfl) ?_
            rintro _ G2 _ ⟨rfl, rfl, p2⟩
            refine ax_iconst (v := 1) dX4_takeTest_105 (by decide) ?_
            refine ax_iret dX4_takeTest_106 rfl rfl (Nat.le_of_ble_eq_true rfl) (Nat.le_of_ble_eq_true rfl) ?_
            have s9 : chT T (a + 1) = 60 := (nx_eq hT2 (by decide)).mp c_39
            have s8 : siT (chT T (a + 1)) = 0 := by rw [s9]; rfl
            have n0 : ¬ nmC T (a + 2) = 0 := by have := bI_y c_70; omega
            have e9 : pTest T a = (true, a + 2 + nmC T (a + 2), [3 + 300 * liT (T.2 a) + 100 * 0 + nmV T (a + 2)]) := by unfold pTest; rw [if_neg (by rw [ec]; exact l1), if_neg (by rw [s8]; decide), if_neg n0, ec, s8]
            have e8 : [3 + 300 * liT (T.2 a) + 100 * 0 + nmV T (a + 2)].map tokS = [(0, T.2 a, nmV T (a + 2))] := by rw [List.map_cons, List.map_nil, tok_t (by have := liT_le (T.2 a); omega) (by decide) nmV_lt, lch_li _ (hT2 a hl) l1]
            rw [e9]
            rw [if_pos (by omega)] at p2
            exact ⟨rfl, rfl, rfl, fun _ => by show RS G0 _ _ (ss ++ [3 + 300 * liT (T.2 a) + 100 * 0 + nmV T (a + 2)].map tokS) x; rw [e8]; exact p2, fun z => Bool.noConfusion z⟩
        · refine ax_iconst (v := 0) dX4_takeTest_73 (by decide) ?_
          refine ax_iret dX4_takeTest_74 rfl rfl (Nat.le_of_ble_eq_true rfl) (Nat.le_of_ble_eq_true rfl) ?_
          have s9 : chT T (a + 1) = 60 := (nx_eq hT2 (by decide)).mp c_39
          have s8 : siT (chT T (a + 1)) = 0 := by rw [s9]; rfl
          have n0 : nmC T (a + 2) = 0 := by have := bI_n c_70; omega
          rw [n0] at p1
          have e9 : pTest T a = (false, a + 2, []) := by unfold pTest; rw [if_neg (by rw [ec]; exact l1), if_neg (by rw [s8]; decide), if_pos n0]
          rw [e9]
          exact ⟨rfl, rfl, rfl, fun z => Bool.noConfusion z, fun _ => ⟨ss, by omega, p1⟩⟩
      · refine ax_iload_n (i := 2) dX4_takeTest_42 rfl rfl ?_
        refine ax_bipush (v := 61) dX4_takeTest_43 (by decide) ?_
        refine ax_icmp_eq (tgt := 56) dX4_takeTest_45 (by decide) (fun c_45 => ?_) (fun c_45 => ?_)
        · refine ax_aload_n (i := 0) dX4_takeTest_56 rfl rfl ?_
          refine ax_dup dX4_takeTest_57 rfl ?_
          refine ax_getI dX4_takeTest_58 fl_X4_19 rfl (OKs hZ rfl) ?_
          refine ax_iconst (v := 1) dX4_takeTest_61 (by decide) ?_
          refine ax_iadd dX4_takeTest_62 ?_
          refine ax_putI dX4_takeTest_63 fl_X4_19 (Or.inl fp_X4_4_4) rfl rfl rfl (OKs hZ rfl) ?_
          have hl2 : a + 1 < T.1 := chT_lt ((nx_eq hT2 (s := 61) (by decide)).mp c_45) (by decide)
          refine ax_gen (fun G => RS G0 G (a + 2) ss x) (RS_at hp1 (by rw [hp1.1]; exact nI_1 (a + 1))) (fun G6 hp2 => ?_)
          refine ax_aload_n (i := 0) dX4_takeTest_66 rfl rfl ?_
          refine ax_cVq dX4_takeTest_67 lk_X4_63 (n_num hZ hT hT1 hT2 hp2 hl2) rfl (OKs hZ rfl) ⟨_, rfl, rfl⟩ rfl (Nat.le_of_ble_eq_true rfl) (Nat.le_of_ble_eq_true rfl) (Nat.le_of_ble_eq_true rfl) (Nat.le_of_ble_eq_true rfl) ?_
          rintro _ G1 _ ⟨rfl, rfl, p1, v1⟩
          refine ax_if_ne (tgt := 75) dX4_takeTest_70 (by decide) (fun c_70 => ?_) (fun c_70 => ?_)
          · refine ax_aload_n (i := 0) dX4_takeTest_75 rfl rfl ?_
            refine ax_iload_n (i := 2) dX4_takeTest_76 rfl rfl ?_
            refine ax_bipush (v := 60) dX4_takeTest_77 (by decide) ?_
            refine ax_icmp_ne (tgt := 86) dX4_takeTest_79 (by decide) (fun c_79 => ?_) (fun c_79 => ?_)
            · refine ax_iload_n (i := 2) dX4_takeTest_86 rfl rfl ?_
              refine ax_bipush (v := 61) dX4_takeTest_87 (by decide) ?_
              refine ax_icmp_ne (tgt := 96) dX4_takeTest_89 (by decide) (fun c_89 => ?_) (fun c_89 => ?_)
              · exact absurd c_45 c_89
              · refine ax_iconst (v := 1) dX4_takeTest_92 (by decide) ?_
                refine ax_goto (tgt := 97) dX4_takeTest_93 (by decide) ?_
                refine ax_iload_n (i := 1) dX4_takeTest_97 rfl rfl ?_
                refine ax_top (congrArg Value.int en) ?_
                refine ax_aload_n (i := 0) dX4_takeTest_98 rfl rfl ?_
                refine ax_getI dX4_takeTest_99 fl_X4_66 rfl (OKs hZ rfl) ?_
                refine ax_top (congrArg Value.int v1) ?_
                refine ax_cVq0 dX4_takeTest_102 lk_X4_74 (n_add hZ p1 (by omega) 1 (T.2 a) (nmV T (a + 2))) rfl (OKs hZ rfl) ⟨_, rfl, rfl⟩ rfl (Nat.le_of_ble_eq_true rfl) (Nat.le_of_ble_eq_true rfl) (Nat.le_of_ble_eq_true rfl) (Nat.le_of_ble_eq_true rfl) ?_
                rintro _ G2 _ ⟨rfl, rfl, p2⟩
                refine ax_iconst (v := 1) dX4_takeTest_105 (by decide) ?_
                refine ax_iret dX4_takeTest_106 rfl rfl (Nat.le_of_ble_eq_true rfl) (Nat.le_of_ble_eq_true rfl) ?_
                have s9 : chT T (a + 1) = 61 := (nx_eq hT2 (by decide)).mp c_45
                have s8 : siT (chT T (a + 1)) = 1 := by rw [s9]; rfl
                have n0 : ¬ nmC T (a + 2) = 0 := by have := bI_y c_70; omega
                have e9 : pTest T a = (true, a + 2 + nmC T (a + 2), [3 + 300 * liT (T.2 a) + 100 * 1 + nmV T (a + 2)]) := by unfold pTest; rw [if_neg (by rw [ec]; exact l1), if_neg (by rw [s8]; decide), if_neg n0, ec, s8]
                have e8 : [3 + 300 * liT (T.2 a) + 100 * 1 + nmV T (a + 2)].map tokS = [(1, T.2 a, nmV T (a + 2))] := by rw [List.map_cons, List.map_nil, tok_t (by have := liT_le (T.2 a); omega) (by decide) nmV_lt, lch_li _ (hT2 a hl) l1]
                rw [e9]
                rw [if_pos (by omega)] at p2
                exact ⟨rfl, rfl, rfl, fun _ => by show RS G0 _ _ (ss ++ [3 + 300 * liT (T.2 a) + 100 * 1 + nmV T (a + 2)].map tokS) x; rw [e8]; exact p2, fun z => Bool.noConfusion z⟩
            · exact absurd c_79 c_39
          · refine ax_iconst (v := 0) dX4_takeTest_73 (by decide) ?_
            refine ax_iret dX4_takeTest_74 rfl rfl (Nat.le_of_ble_eq_true rfl) (Nat.le_of_ble_eq_true rfl) ?_
            have s9 : chT T (a + 1) = 61 := (nx_eq hT2 (by decide)).mp c_45
            have s8 : siT (chT T (a + 1)) = 1 := by rw [s9]; rfl
            have n0 : nmC T (a + 2) = 0 := by have := bI_n c_70; omega
            rw [n0] at p1
            have e9 : pTest T a = (false, a + 2, []) := by unfold pTest; rw [if_neg (by rw [ec]; exact l1), if_neg (by rw [s8]; decide), if_pos n0]
            rw [e9]
            exact ⟨rfl, rfl, rfl, fun z => Bool.noConfusion z, fun _ => ⟨ss, by omega, p1⟩⟩
        · refine ax_iload_n (i := 2) dX4_takeTest_48 rfl rfl ?_
          refine ax_bipush (v := 62) dX4_takeTest_49 (by decide) ?_
          refine ax_icmp_eq (tgt := 56) dX4_takeTest_51 (by decide) (fun c_51 => ?_) (fun c_51 => ?_)
          · refine ax_aload_n (i := 0) dX4_takeTest_56 rfl rfl ?_
            refine ax_dup dX4_takeTest_57 rfl ?_
            refine ax_getI dX4_takeTest_58 fl_X4_19 rfl (OKs hZ rfl) ?_
            refine ax_iconst (v := 1) dX4_takeTest_61 (by decide) ?_
            refine ax_iadd dX4_takeTest_62 ?_
            refine ax_putI dX4_takeTest_63 fl_X4_19 (Or.inl fp_X4_4_4) rfl rfl rfl (OKs hZ rfl) ?_
            have hl2 : a + 1 < T.1 := chT_lt ((nx_eq hT2 (s := 62) (by decide)).mp c_51) (by decide)
            refine ax_gen (fun G => RS G0 G (a + 2) ss x) (RS_at hp1 (by rw [hp1.1]; exact nI_1 (a + 1))) (fun G6 hp2 => ?_)
            refine ax_aload_n (i := 0) dX4_takeTest_66 rfl rfl ?_
            refine ax_cVq dX4_takeTest_67 lk_X4_63 (n_num hZ hT hT1 hT2 hp2 hl2) rfl (OKs hZ rfl) ⟨_, rfl, rfl⟩ rfl (Nat.le_of_ble_eq_true rfl) (Nat.le_of_ble_eq_true rfl) (Nat.le_of_ble_eq_true rfl) (Nat.le_of_ble_eq_true rfl) ?_
            rintro _ G1 _ ⟨rfl, rfl, p1, v1⟩
            refine ax_if_ne (tgt := 75) dX4_takeTest_70 (by decide) (fun c_70 => ?_) (fun c_70 => ?_)
            · refine ax_aload_n (i := 0) dX4_takeTest_75 rfl rfl ?_
              refine ax_iload_n (i := 2) dX4_takeTest_76 rfl rfl ?_
              refine ax_bipush (v := 60) dX4_takeTest_77 (by decide) ?_
              refine ax_icmp_ne (tgt := 86) dX4_takeTest_79 (by decide) (fun c_79 => ?_) (fun c_79 => ?_)
              · refine ax_iload_n (i := 2) dX4_takeTest_86 rfl rfl ?_
                refine ax_bipush (v := 61) dX4_takeTest_87 (by decide) ?_
                refine ax_icmp_ne (tgt := 96) dX4_takeTest_89 (by decide) (fun c_89 => ?_) (fun c_89 => ?_)
                · refine ax_iconst (v := 2) dX4_takeTest_96 (by decide) ?_
                  refine ax_iload_n (i := 1) dX4_takeTest_97 rfl rfl ?_
                  refine ax_top (congrArg Value.int en) ?_
                  refine ax_aload_n (i := 0) dX4_takeTest_98 rfl rfl ?_
                  refine ax_getI dX4_takeTest_99 fl_X4_66 rfl (OKs hZ rfl) ?_
                  refine ax_top (congrArg Value.int v1) ?_
                  refine ax_cVq0 dX4_takeTest_102 lk_X4_74 (n_add hZ p1 (by omega) 2 (T.2 a) (nmV T (a + 2))) rfl (OKs hZ rfl) ⟨_, rfl, rfl⟩ rfl (Nat.le_of_ble_eq_true rfl) (Nat.le_of_ble_eq_true rfl) (Nat.le_of_ble_eq_true rfl) (Nat.le_of_ble_eq_true rfl) ?_
                  rintro _ G2 _ ⟨rfl, rfl, p2⟩
                  refine ax_iconst (v := 1) dX4_takeTest_105 (by decide) ?_
                  refine ax_iret dX4_takeTest_106 rfl rfl (Nat.le_of_ble_eq_true rfl) (Nat.le_of_ble_eq_true rfl) ?_
                  have s9 : chT T (a + 1) = 62 := (nx_eq hT2 (by decide)).mp c_51
                  have s8 : siT (chT T (a + 1)) = 2 := by rw [s9]; rfl
                  have n0 : ¬ nmC T (a + 2) = 0 := by have := bI_y c_70; omega
                  have e9 : pTest T a = (true, a + 2 + nmC T (a + 2), [3 + 300 * liT (T.2 a) + 100 * 2 + nmV T (a + 2)]) := by unfold pTest; rw [if_neg (by rw [ec]; exact l1), if_neg (by rw [s8]; decide), if_neg n0, ec, s8]
                  have e8 : [3 + 300 * liT (T.2 a) + 100 * 2 + nmV T (a + 2)].map tokS = [(2, T.2 a, nmV T (a + 2))] := by rw [List.map_cons, List.map_nil, tok_t (by have := liT_le (T.2 a); omega) (by decide) nmV_lt, lch_li _ (hT2 a hl) l1]
                  rw [e9]
                  rw [if_pos (by omega)] at p2
                  exact ⟨rfl, rfl, rfl, fun _ => by show RS G0 _ _ (ss ++ [3 + 300 * liT (T.2 a) + 100 * 2 + nmV T (a + 2)].map tokS) x; rw [e8]; exact p2, fun z => Bool.noConfusion z⟩
                · exact absurd c_89 c_45
              · exact absurd c_79 c_39
            · refine ax_iconst (v := 0) dX4_takeTest_73 (by decide) ?_
              refine ax_iret dX4_takeTest_74 rfl rfl (Nat.le_of_ble_eq_true rfl) (Nat.le_of_ble_eq_true rfl) ?_
              have s9 : chT T (a + 1) = 62 := (nx_eq hT2 (by decide)).mp c_51
              have s8 : siT (chT T (a + 1)) = 2 := by rw [s9]; rfl
              have n0 : nmC T (a + 2) = 0 := by have := bI_n c_70; omega
              rw [n0] at p1
              have e9 : pTest T a = (false, a + 2, []) := by unfold pTest; rw [if_neg (by rw [ec]; exact l1), if_neg (by rw [s8]; decide), if_pos n0]
              rw [e9]
              exact ⟨rfl, rfl, rfl, fun z => Bool.noConfusion z, fun _ => ⟨ss, by omega, p1⟩⟩
          · refine ax_iconst (v := 0) dX4_takeTest_54 (by decide) ?_
            refine ax_iret dX4_takeTest_55 rfl rfl (Nat.le_of_ble_eq_true rfl) (Nat.le_of_ble_eq_true rfl) ?_
            have n3 : siT (chT T (a + 1)) = 3 := by
              have z1 := mt (nx_eq hT2 (s := 60) (by decide)).mpr c_39
              have z2 := mt (nx_eq hT2 (s := 61) (by decide)).mpr c_45
              have z3 := mt (nx_eq hT2 (s := 62) (by decide)).mpr c_51
              exact Decidable.not_not.mp (fun z => by rcases siT_c z with e | e | e <;> omega)
            have e9 : pTest T a = (false, a + 1, []) := by unfold pTest; rw [if_neg (by rw [ec]; exact l1), if_pos n3]
            rw [e9]
            exact ⟨rfl, rfl, rfl, fun z => Bool.noConfusion z, fun _ => ⟨ss, by omega, hp1⟩⟩
    · refine ax_iconst (v := 0) dX4_takeTest_19 (by decide) ?_
      refine ax_iret dX4_takeTest_20 rfl rfl (Nat.le_of_ble_eq_true rfl) (Nat.le_of_ble_eq_true rfl) ?_
      have l6 : liT (T.2 a) = 6 := Decidable.not_not.mp (fun z => c_16 (by rw [if_neg z]; exact nI_le (a := 0) (by omega) (by have := liT_le (T.2 a); omega)))
      have e9 : pTest T a = (false, a, []) := by unfold pTest; rw [if_pos (by rw [ec, l6])]
      rw [e9]
      exact ⟨rfl, rfl, rfl, fun z => Bool.noConfusion z, fun _ => ⟨ss, by omega, hp⟩⟩
