-- ===== the model reads: tests, what is joined =====
abbrev PCm (M : Mt) (Z : Zt) (L : Lt) (G0 : Gt) (T : Nat × (Nat → Nat)) (c9 D o : Nat) (f : Nat → PR) : Prop := ∀ (G : Gt) (a : Nat) (cs : List Nat), PS G0 G T c9 a cs o → a ≤ T.1 → cs.length ≤ a → AC M D 0 0 [.ref 75] Z G L (RP (.int (bI (f a).1)) (PPm Z L G0 T c9 cs o (f a)))
theorem drop_c {ws : List Nat} {j : Nat} (h : j < ws.length) : ws.drop j = ws.getD j 0 :: ws.drop (j + 1) := by
  have e : ws.getD j 0 = ws[j] := by rw [List.getD_eq_getElem?_getD, List.getElem?_eq_getElem h]; rfl
  rw [e, ← List.drop_eq_getElem_cons h]
theorem l_all {Z : Zt} {L : Lt} (hZ : OK Z) {G0 : Gt} {T : Nat × (Nat → Nat)} {c9 : Nat} (hT : imT G0 T) (hT1 : T.1 ≤ 100) (hT2 : ∀ i, i < T.1 → T.2 i < 128) {i : Nat} (hi : i < 7) (ws : List Nat) (hl : sLen.getD i 0 = ws.length) (hw : ∀ j, j < ws.length → sB i j = nI (ws.getD j 0) ∧ ws.getD j 0 < 128) {cs : List Nat} {o : Nat} (a : Nat) : ∀ (r j : Nat) (G : Gt), j + r = ws.length → PS G0 G T c9 (a + j) cs o → pAll T ws a = pAll T (ws.drop j) (a + j) → a + j ≤ T.1 → AX none mX12_isAll 5 0 0 0 0 2 [(0, .ref 75), (1, .ref (1000 + i)), (2, .int (nI j))] [] Z G L (RP (.int (bI (pAll T ws a).1)) (fun Z' G' L' => Z' = Z ∧ L' = L ∧ PS G0 G' T c9 (pAll T ws a).2 cs o)) := by
  have hl7 := sL_7 i hi
  intro r
  induction r with
  | zero =>
    intro j G h1 hp he ha
    refine ax_iload_n (i := 2) dX12_isAll_2 rfl rfl ?_
    refine ax_aload_n (i := 1) dX12_isAll_3 rfl rfl ?_
    refine ax_cT (i := i) dX12_isAll_4 lk_X12_162 rfl (c_length hi) rfl hi rfl (Nat.le_of_ble_eq_true rfl) (Nat.le_of_ble_eq_true rfl) (Nat.le_of_ble_eq_true rfl) (Nat.le_of_ble_eq_true rfl) ?_
    refine ax_top (congrArg Value.int (congrArg nI hl)) ?_
    refine ax_icmp_ge (tgt := 30) dX12_isAll_7 (by decide) (fun c_7 => ?_) (fun c_7 => ?_)
    · refine ax_iconst (v := 1) dX12_isAll_30 (by decide) ?_
      refine ax_iret dX12_isAll_31 rfl rfl (Nat.le_of_ble_eq_true rfl) (Nat.le_of_ble_eq_true rfl) ?_
      have e9 : pAll T ws a = (true, a + j) := by rw [he, show j = ws.length by omega, List.drop_length, pAll]
      rw [e9]
      exact ⟨rfl, rfl, rfl, hp⟩
    · exact absurd (by rw [show j = ws.length by omega]; exact Int32.le_refl _) c_7
  | succ r ih =>
    intro j G h1 hp he ha
    have hj : j < ws.length := by omega
    refine ax_iload_n (i := 2) dX12_isAll_2 rfl rfl ?_
    refine ax_aload_n (i := 1) dX12_isAll_3 rfl rfl ?_
    refine ax_cT (i := i) dX12_isAll_4 lk_X12_162 rfl (c_length hi) rfl hi rfl (Nat.le_of_ble_eq_true rfl) (Nat.le_of_ble_eq_true rfl) (Nat.le_of_ble_eq_true rfl) (Nat.le_of_ble_eq_true rfl) ?_
    refine ax_top (congrArg Value.int (congrArg nI hl)) ?_
    refine ax_icmp_ge (tgt := 30) dX12_isAll_7 (by decide) (fun c_7 => ?_) (fun c_7 => ?_)
    · exact absurd c_7 (nI_ge hj (by omega))
    · refine ax_aload_n (i := 0) dX12_isAll_10 rfl rfl ?_
      refine ax_aload_n (i := 1) dX12_isAll_11 rfl rfl ?_
      refine ax_iload_n (i := 2) dX12_isAll_12 rfl rfl ?_
      refine ax_cT (i := i) dX12_isAll_13 lk_X12_167 rfl (c_charAt hi j (by omega)) rfl hi rfl (Nat.le_of_ble_eq_true rfl) (Nat.le_of_ble_eq_true rfl) (Nat.le_of_ble_eq_true rfl) (Nat.le_of_ble_eq_true rfl) ?_
      refine ax_top (congrArg Value.int (hw j hj).1) ?_
      refine ax_cVq dX12_isAll_16 lk_X12_171 (m_is hZ hT hT1 hT2 hp ha (ws.getD j 0) (hw j hj).2) rfl (OKs hZ rfl) ⟨_, rfl, rfl⟩ rfl (Nat.le_of_ble_eq_true rfl) (Nat.le_of_ble_eq_true rfl) (Nat.le_of_ble_eq_true rfl) (Nat.le_of_ble_eq_true rfl) ?_
      rintro _ G1 _ ⟨rfl, rfl, p1⟩
      refine ax_if_ne (tgt := 24) dX12_isAll_19 (by decide) (fun c_19 => ?_) (fun c_19 => ?_)
      · refine ax_iinc (v := (nI j) + 1) dX12_isAll_24 rfl rfl (by decide) rfl ?_
        refine ax_goto (tgt := 2) dX12_isAll_27 (by decide) ?_
        have c9 := bI_y c_19
        rw [if_pos c9] at p1
        refine ax_lv [(0, .ref 75), (1, .ref (1000 + i)), (2, .int (nI (j + 1)))] ⟨rfl, rfl, sI (nI_1 j), trivial⟩ ?_
        exact ih (j + 1) _ (by omega) p1 (by rw [he, drop_c hj, pAll, if_pos c9]; rfl) (chT_lt c9 (by have := (hw j hj).2; omega))
      · refine ax_iconst (v := 0) dX12_isAll_22 (by decide) ?_
        refine ax_iret dX12_isAll_23 rfl rfl (Nat.le_of_ble_eq_true rfl) (Nat.le_of_ble_eq_true rfl) ?_
        have c9 := bI_n c_19
        rw [if_neg c9] at p1
        have e9 : pAll T ws a = (false, a + j) := by rw [he, drop_c hj, pAll, if_neg c9]
        rw [e9]
        exact ⟨rfl, rfl, rfl, p1⟩
theorem m_all {Z : Zt} {G : Gt} {L : Lt} (hZ : OK Z) {G0 : Gt} {T : Nat × (Nat → Nat)} {c9 : Nat} (hT : imT G0 T) (hT1 : T.1 ≤ 100) (hT2 : ∀ i, i < T.1 → T.2 i < 128) {i : Nat} (hi : i < 7) (ws : List Nat) (hl : sLen.getD i 0 = ws.length) (hw : ∀ j, j < ws.length → sB i j = nI (ws.getD j 0) ∧ ws.getD j 0 < 128) {a : Nat} {cs : List Nat} {o : Nat} (hp : PS G0 G T c9 a cs o) (ha : a ≤ T.1) : AC mX12_isAll 5 0 0 [.ref 75, .ref (1000 + i)] Z G L (RP (.int (bI (pAll T ws a).1)) (fun Z' G' L' => Z' = Z ∧ L' = L ∧ PS G0 G' T c9 (pAll T ws a).2 cs o)) := by
  refine AC.intro (by decide +kernel) (Nat.le_of_ble_eq_true rfl) ?_
  refine ax_lv [(0, .ref 75), (1, .ref (1000 + i))] ⟨rfl, rfl, trivial⟩ ?_
  refine ax_iconst (v := 0) dX12_isAll_0 (by decide) ?_
  refine ax_istore_n (i := 2) dX12_isAll_1 rfl (by decide) rfl ?_
  refine ax_lv [(0, .ref 75), (1, .ref (1000 + i)), (2, .int (nI 0))] ⟨rfl, rfl, rfl, trivial⟩ ?_
  exact l_all hZ hT hT1 hT2 hi ws hl hw a ws.length 0 G (by omega) hp rfl ha
theorem liT_le (c : Nat) : liT c ≤ 6 := by
  by_cases h : liT c = 6
  · omega
  · rcases liT_c h with e | e | e | e | e | e <;> rw [e] <;> decide
theorem siT_le (c : Nat) : siT c ≤ 3 := by
  by_cases h : siT c = 3
  · omega
  · rcases siT_c h with e | e | e <;> rw [e] <;> decide
theorem m_test {Z : Zt} {G : Gt} {L : Lt} (hZ : OK Z) {G0 : Gt} {T : Nat × (Nat → Nat)} {c9 : Nat} (hT : imT G0 T) (hT1 : T.1 ≤ 100) (hT2 : ∀ i, i < T.1 → T.2 i < 128) (h9 : c9 ≤ 600) {a : Nat} {cs : List Nat} {o : Nat} (hp : PS G0 G T c9 a cs o) (ha : a ≤ T.1) (hlen : cs.length ≤ a) : AC mX12_isTest 5 0 0 [.ref 75] Z G L (RP (.int (bI (pTest T a).1)) (PPm Z L G0 T c9 cs o (pTest T a))) := by
  refine AC.intro (by decide +kernel) (Nat.le_of_ble_eq_true rfl) ?_
  refine ax_lv [(0, .ref 75)] ⟨rfl, trivial⟩ ?_
  refine ax_aload_n (i := 0) dX12_isTest_0 rfl rfl ?_
  refine ax_getI dX12_isTest_1 fl_X12_149 rfl (OKs hZ rfl) ?_
  refine ax_top (congrArg Value.int hp.1) ?_
  refine ax_aload_n (i := 0) dX12_isTest_4 rfl rfl ?_
  refine ax_getI dX12_isTest_5 fl_X12_146 rfl (OKs hZ rfl) ?_
  refine ax_top (congrArg Value.int (PS_11 hp hT)) ?_
  refine ax_icmp_ge (tgt := 40) dX12_isTest_8 (by decide) (fun c_8 => ?_) (fun c_8 => ?_)
  · refine ax_iconst (v := (-1)) dX12_isTest_40 (by decide) ?_
    refine ax_istore_n (i := 1) dX12_isTest_41 rfl (by decide) rfl ?_
    refine ax_iload_n (i := 1) dX12_isTest_42 rfl rfl ?_
    refine ax_if_ge (tgt := 48) dX12_isTest_43 (by decide) (fun c_43 => ?_) (fun c_43 => ?_)
    · exact absurd c_43 (by decide)
    · refine ax_iconst (v := 0) dX12_isTest_46 (by decide) ?_
      refine ax_iret dX12_isTest_47 rfl rfl (Nat.le_of_ble_eq_true rfl) (Nat.le_of_ble_eq_true rfl) ?_
      have e9 : pTest T a = (false, a, []) := by unfold pTest; rw [if_pos (by unfold chT; rw [if_neg (show ¬ a < T.1 from by have := (nI_leI (by omega) (by omega)).mp c_8; omega)]; rfl)]
      rw [e9]
      exact ⟨rfl, rfl, rfl, fun z => Bool.noConfusion z, fun _ => ⟨cs, o, hp⟩⟩
  · have hl : a < T.1 := by have := mt (nI_leI (by omega) (by omega)).mpr c_8; omega
    have ec : chT T a = T.2 a := by unfold chT; rw [if_pos hl]
    refine ax_aload_n (i := 0) dX12_isTest_11 rfl rfl ?_
    refine ax_getR dX12_isTest_12 fl_X12_39 rfl (OKs hZ rfl) (OKr hZ rfl) ?_
    refine ax_aload_n (i := 0) dX12_isTest_15 rfl rfl ?_
    refine ax_getI dX12_isTest_16 fl_X12_149 rfl (OKs hZ rfl) ?_
    refine ax_ialdN a dX12_isTest_19 (OKs hZ rfl) hp.1 (show a < 100 by omega) (by decide) ?_
    refine ax_top (congrArg Value.int (PS_tx hp hT hl)) ?_
    refine ax_if_le (tgt := 40) dX12_isTest_20 (by decide) (fun c_20 => ?_) (fun c_20 => ?_)
    · refine ax_iconst (v := (-1)) dX12_isTest_40 (by decide) ?_
      refine ax_istore_n (i := 1) dX12_isTest_41 rfl (by decide) rfl ?_
      refine ax_iload_n (i := 1) dX12_isTest_42 rfl rfl ?_
      refine ax_if_ge (tgt := 48) dX12_isTest_43 (by decide) (fun c_43 => ?_) (fun c_43 => ?_)
      · exact absurd c_43 (by decide)
      · refine ax_iconst (v := 0) dX12_isTest_46 (by decide) ?_
        refine ax_iret dX12_isTest_47 rfl rfl (Nat.le_of_ble_eq_true rfl) (Nat.le_of_ble_eq_true rfl) ?_
        have z0 : T.2 a = 0 := by have := (nI_leI (by have := hT2 a hl; omega) (by decide)).mp (show nI (T.2 a) ≤ nI 0 from c_20); omega
        have e9 : pTest T a = (false, a, []) := by unfold pTest; rw [if_pos (by rw [ec, z0]; rfl)]
        rw [e9]
        exact ⟨rfl, rfl, rfl, fun z => Bool.noConfusion z, fun _ => ⟨cs, o, hp⟩⟩
    · refine ax_ldcS (i := 3) (tx := "pkvswm") dX12_isTest_23 (by decide) ?_
      refine ax_aload_n (i := 0) dX12_isTest_25 rfl rfl ?_
      refine ax_getR dX12_isTest_26 fl_X12_39 rfl (OKs hZ rfl) (OKr hZ rfl) ?_
      refine ax_aload_n (i := 0) dX12_isTest_29 rfl rfl ?_
      refine ax_getI dX12_isTest_30 fl_X12_149 rfl (OKs hZ rfl) ?_
      refine ax_ialdN a dX12_isTest_33 (OKs hZ rfl) hp.1 (show a < 100 by omega) (by decide) ?_
      refine ax_top (congrArg Value.int (PS_tx hp hT hl)) ?_
      refine ax_cT (i := 3) dX12_isTest_34 lk_X12_179 rfl (c_indexOf (i := 3) (by decide) (T.2 a) (hT2 _ hl)) rfl (by decide) rfl (Nat.le_of_ble_eq_true rfl) (Nat.le_of_ble_eq_true rfl) (Nat.le_of_ble_eq_true rfl) (Nat.le_of_ble_eq_true rfl) ?_
      refine ax_top (congrArg Value.int (fs_3 _ (hT2 a hl))) ?_
      refine ax_goto (tgt := 41) dX12_isTest_37 (by decide) ?_
      refine ax_istore_n (i := 1) dX12_isTest_41 rfl (by decide) rfl ?_
      refine ax_iload_n (i := 1) dX12_isTest_42 rfl rfl ?_
      refine ax_if_ge (tgt := 48) dX12_isTest_43 (by decide) (fun c_43 => ?_) (fun c_43 => ?_)
      · have l1 : ¬ liT (T.2 a) = 6 := fun z => by rw [if_pos z] at c_43; exact absurd c_43 (by decide)
        refine ax_lv [(0, .ref 75), (1, .int (nI (liT (T.2 a))))] ⟨rfl, sI (if_neg l1), trivial⟩ ?_
        refine ax_aload_n (i := 0) dX12_isTest_48 rfl rfl ?_
        refine ax_dup dX12_isTest_49 rfl ?_
        refine ax_getI dX12_isTest_50 fl_X12_149 rfl (OKs hZ rfl) ?_
        refine ax_iconst (v := 1) dX12_isTest_53 (by decide) ?_
        refine ax_iadd dX12_isTest_54 ?_
        refine ax_putI dX12_isTest_55 fl_X12_149 (Or.inl fp_X12_12_13) rfl rfl rfl (OKs hZ rfl) ?_
        refine ax_gen (fun G => PS G0 G T c9 (a + 1) cs o) (PS_at hp (by rw [hp.1]; exact nI_1 a)) (fun G5 hp1 => ?_)
        refine ax_aload_n (i := 0) dX12_isTest_58 rfl rfl ?_
        refine ax_getI dX12_isTest_59 fl_X12_149 rfl (OKs hZ rfl) ?_
        refine ax_top (congrArg Value.int hp1.1) ?_
        refine ax_aload_n (i := 0) dX12_isTest_62 rfl rfl ?_
        refine ax_getI dX12_isTest_63 fl_X12_146 rfl (OKs hZ rfl) ?_
        refine ax_top (congrArg Value.int (PS_11 hp1 hT)) ?_
        refine ax_icmp_ge (tgt := 98) dX12_isTest_66 (by decide) (fun c_66 => ?_) (fun c_66 => ?_)
        · refine ax_iconst (v := (-1)) dX12_isTest_98 (by decide) ?_
          refine ax_istore_n (i := 2) dX12_isTest_99 rfl (by decide) rfl ?_
          refine ax_iload_n (i := 2) dX12_isTest_100 rfl rfl ?_
          refine ax_if_ge (tgt := 106) dX12_isTest_101 (by decide) (fun c_101 => ?_) (fun c_101 => ?_)
          · exact absurd c_101 (by decide)
          · refine ax_iconst (v := 0) dX12_isTest_104 (by decide) ?_
            refine ax_iret dX12_isTest_105 rfl rfl (Nat.le_of_ble_eq_true rfl) (Nat.le_of_ble_eq_true rfl) ?_
            have e9 : pTest T a = (false, a + 1, []) := by unfold pTest; rw [if_neg (by rw [ec]; exact l1), if_pos (by unfold chT; rw [if_neg (show ¬ a + 1 < T.1 from by have := (nI_leI (by omega) (by omega)).mp c_66; omega)]; rfl)]
            rw [e9]
            exact ⟨rfl, rfl, rfl, fun z => Bool.noConfusion z, fun _ => ⟨cs, o, hp1⟩⟩
        · have hl2 : a + 1 < T.1 := by have := mt (nI_leI (by omega) (by omega)).mpr c_66; omega
          have ec2 : chT T (a + 1) = T.2 (a + 1) := by unfold chT; rw [if_pos hl2]
          refine ax_aload_n (i := 0) dX12_isTest_69 rfl rfl ?_
          refine ax_getR dX12_isTest_70 fl_X12_39 rfl (OKs hZ rfl) (OKr hZ rfl) ?_
          refine ax_aload_n (i := 0) dX12_isTest_73 rfl rfl ?_
          refine ax_getI dX12_isTest_74 fl_X12_149 rfl (OKs hZ rfl) ?_
          refine ax_ialdN (a + 1) dX12_isTest_77 (OKs hZ rfl) hp1.1 (show _ < 100 by omega) (by decide) ?_
          refine ax_top (congrArg Value.int (PS_tx hp1 hT hl2)) ?_
          refine ax_if_le (tgt := 98) dX12_isTest_78 (by decide) (fun c_78 => ?_) (fun c_78 => ?_)
          · refine ax_iconst (v := (-1)) dX12_isTest_98 (by decide) ?_
            refine ax_istore_n (i := 2) dX12_isTest_99 rfl (by decide) rfl ?_
            refine ax_iload_n (i := 2) dX12_isTest_100 rfl rfl ?_
            refine ax_if_ge (tgt := 106) dX12_isTest_101 (by decide) (fun c_101 => ?_) (fun c_101 => ?_)
            · exact absurd c_101 (by decide)
            · refine ax_iconst (v := 0) dX12_isTest_104 (by decide) ?_
              refine ax_iret dX12_isTest_105 rfl rfl (Nat.le_of_ble_eq_true rfl) (Nat.le_of_ble_eq_true rfl) ?_
              have z0 : T.2 (a + 1) = 0 := by have := (nI_leI (by have := hT2 _ hl2; omega) (by decide)).mp (show nI (T.2 (a + 1)) ≤ nI 0 from c_78); omega
              have e9 : pTest T a = (false, a + 1, []) := by unfold pTest; rw [if_neg (by rw [ec]; exact l1), if_pos (by rw [ec2, z0]; rfl)]
              rw [e9]
              exact ⟨rfl, rfl, rfl, fun z => Bool.noConfusion z, fun _ => ⟨cs, o, hp1⟩⟩
          · refine ax_ldcS (i := 6) (tx := "<=>") dX12_isTest_81 (by decide) ?_
            refine ax_aload_n (i := 0) dX12_isTest_83 rfl rfl ?_
            refine ax_getR dX12_isTest_84 fl_X12_39 rfl (OKs hZ rfl) (OKr hZ rfl) ?_
            refine ax_aload_n (i := 0) dX12_isTest_87 rfl rfl ?_
            refine ax_getI dX12_isTest_88 fl_X12_149 rfl (OKs hZ rfl) ?_
            refine ax_ialdN (a + 1) dX12_isTest_91 (OKs hZ rfl) hp1.1 (show _ < 100 by omega) (by decide) ?_
            refine ax_top (congrArg Value.int (PS_tx hp1 hT hl2)) ?_
            refine ax_cT (i := 6) dX12_isTest_92 lk_X12_179 rfl (c_indexOf (i := 6) (by decide) (T.2 (a + 1)) (hT2 _ hl2)) rfl (by decide) rfl (Nat.le_of_ble_eq_true rfl) (Nat.le_of_ble_eq_true rfl) (Nat.le_of_ble_eq_true rfl) (Nat.le_of_ble_eq_true rfl) ?_
            refine ax_top (congrArg Value.int (fs_6 _ (hT2 _ hl2))) ?_
            refine ax_goto (tgt := 99) dX12_isTest_95 (by decide) ?_
            refine ax_istore_n (i := 2) dX12_isTest_99 rfl (by decide) rfl ?_
            refine ax_iload_n (i := 2) dX12_isTest_100 rfl rfl ?_
            refine ax_if_ge (tgt := 106) dX12_isTest_101 (by decide) (fun c_101 => ?_) (fun c_101 => ?_)
            · have s1 : ¬ siT (T.2 (a + 1)) = 3 := fun z => by rw [if_pos z] at c_101; exact absurd c_101 (by decide)
              refine ax_lv [(0, .ref 75), (1, .int (nI (liT (T.2 a)))), (2, .int (nI (siT (T.2 (a + 1)))))] ⟨rfl, rfl, sI (if_neg s1), trivial⟩ ?_
              refine ax_aload_n (i := 0) dX12_isTest_106 rfl rfl ?_
              refine ax_dup dX12_isTest_107 rfl ?_
              refine ax_getI dX12_isTest_108 fl_X12_149 rfl (OKs hZ rfl) ?_
              refine ax_iconst (v := 1) dX12_isTest_111 (by decide) ?_
              refine ax_iadd dX12_isTest_112 ?_
              refine ax_putI dX12_isTest_113 fl_X12_149 (Or.inl fp_X12_12_13) rfl rfl rfl (OKs hZ rfl) ?_
              refine ax_gen (fun G => PS G0 G T c9 (a + 2) cs o) (PS_at hp1 (by rw [hp1.1]; exact nI_1 (a + 1))) (fun G6 hp2 => ?_)
              refine ax_aload_n (i := 0) dX12_isTest_116 rfl rfl ?_
              refine ax_cVq dX12_isTest_117 lk_X12_184 (m_num hZ hT hT1 hT2 hp2 (show a + 2 ≤ T.1 by omega)) rfl (OKs hZ rfl) ⟨_, rfl, rfl⟩ rfl (Nat.le_of_ble_eq_true rfl) (Nat.le_of_ble_eq_true rfl) (Nat.le_of_ble_eq_true rfl) (Nat.le_of_ble_eq_true rfl) ?_
              rintro _ G1 _ ⟨rfl, rfl, p1, v1⟩
              refine ax_if_eq (tgt := 151) dX12_isTest_120 (by decide) (fun c_120 => ?_) (fun c_120 => ?_)
              · refine ax_iconst (v := 0) dX12_isTest_151 (by decide) ?_
                refine ax_iret dX12_isTest_152 rfl rfl (Nat.le_of_ble_eq_true rfl) (Nat.le_of_ble_eq_true rfl) ?_
                have n0 : nmC T (a + 2) = 0 := by have := bI_n c_120; omega
                rw [n0] at p1
                have e9 : pTest T a = (false, a + 2, []) := by unfold pTest; rw [if_neg (by rw [ec]; exact l1), if_neg (by rw [ec2]; exact s1), if_pos n0]
                rw [e9]
                exact ⟨rfl, rfl, rfl, fun z => Bool.noConfusion z, fun _ => ⟨cs, o, p1⟩⟩
              · refine ax_aload_n (i := 0) dX12_isTest_123 rfl rfl ?_
                refine ax_iconst (v := 3) dX12_isTest_124 (by decide) ?_
                refine ax_sipush (v := 300) dX12_isTest_125 (by decide) ?_
                refine ax_iload_n (i := 1) dX12_isTest_128 rfl rfl ?_
                refine ax_imul dX12_isTest_129 ?_
                refine ax_iadd dX12_isTest_130 ?_
                refine ax_bipush (v := 100) dX12_isTest_131 (by decide) ?_
                refine ax_iload_n (i := 2) dX12_isTest_133 rfl rfl ?_
                refine ax_imul dX12_isTest_134 ?_
                refine ax_iadd dX12_isTest_135 ?_
                refine ax_aload_n (i := 0) dX12_isTest_136 rfl rfl ?_
                refine ax_getI dX12_isTest_137 fl_X12_152 rfl (OKs hZ rfl) ?_
                refine ax_top (congrArg Value.int v1) ?_
                refine ax_iadd dX12_isTest_140 ?_
                refine ax_top (congrArg Value.int (show 3 + 300 * nI (liT (T.2 a)) + 100 * nI (siT (T.2 (a + 1))) + nI (nmV T (a + 2)) = nI (3 + 300 * liT (T.2 a) + 100 * siT (T.2 (a + 1)) + nmV T (a + 2)) by rw [show (3 : Int32) = nI 3 from rfl, show (300 : Int32) = nI 300 from rfl, show (100 : Int32) = nI 100 from rfl, pk_mul, pk_mul, nI_add, nI_add, nI_add])) ?_
                refine ax_cVq dX12_isTest_141 lk_X12_187 (m_codes hZ hT hT1 hT2 p1 (by omega) (3 + 300 * liT (T.2 a) + 100 * siT (T.2 (a + 1)) + nmV T (a + 2))) rfl (OKs hZ rfl) ⟨_, rfl, rfl⟩ rfl (Nat.le_of_ble_eq_true rfl) (Nat.le_of_ble_eq_true rfl) (Nat.le_of_ble_eq_true rfl) (Nat.le_of_ble_eq_true rfl) ?_
                rintro _ G2 _ ⟨rfl, rfl, p2⟩
                refine ax_if_eq (tgt := 151) dX12_isTest_144 (by decide) (fun c_144 => ?_) (fun c_144 => ?_)
                · exact absurd c_144 (by decide)
                · refine ax_iconst (v := 1) dX12_isTest_147 (by decide) ?_
                  refine ax_goto (tgt := 152) dX12_isTest_148 (by decide) ?_
                  refine ax_iret dX12_isTest_152 rfl rfl (Nat.le_of_ble_eq_true rfl) (Nat.le_of_ble_eq_true rfl) ?_
                  have n0 : ¬ nmC T (a + 2) = 0 := by have := bI_y c_120; omega
                  have e9 : pTest T a = (true, a + 2 + nmC T (a + 2), [3 + 300 * liT (T.2 a) + 100 * siT (T.2 (a + 1)) + nmV T (a + 2)]) := by unfold pTest; rw [if_neg (by rw [ec]; exact l1), if_neg (by rw [ec2]; exact s1), if_neg n0, ec, ec2]
                  rw [e9]
                  exact ⟨rfl, rfl, rfl, fun _ => p2, fun z => Bool.noConfusion z⟩
            · refine ax_iconst (v := 0) dX12_isTest_104 (by decide) ?_
              refine ax_iret dX12_isTest_105 rfl rfl (Nat.le_of_ble_eq_true rfl) (Nat.le_of_ble_eq_true rfl) ?_
              have s3 : siT (T.2 (a + 1)) = 3 := Decidable.not_not.mp (fun z => c_101 (by rw [if_neg z]; exact nI_le (a := 0) (by omega) (by have := siT_le (T.2 (a + 1)); omega)))
              have e9 : pTest T a = (false, a + 1, []) := by unfold pTest; rw [if_neg (by rw [ec]; exact l1), if_pos (by rw [ec2, s3])]
              rw [e9]
              exact ⟨rfl, rfl, rfl, fun z => Bool.noConfusion z, fun _ => ⟨cs, o, hp1⟩⟩
      · refine ax_iconst (v := 0) dX12_isTest_46 (by decide) ?_
        refine ax_iret dX12_isTest_47 rfl rfl (Nat.le_of_ble_eq_true rfl) (Nat.le_of_ble_eq_true rfl) ?_
        have l6 : liT (T.2 a) = 6 := Decidable.not_not.mp (fun z => c_43 (by rw [if_neg z]; exact nI_le (a := 0) (by omega) (by have := liT_le (T.2 a); omega)))
        have e9 : pTest T a = (false, a, []) := by unfold pTest; rw [if_pos (by rw [ec, l6])]
        rw [e9]
        exact ⟨rfl, rfl, rfl, fun z => Bool.noConfusion z, fun _ => ⟨cs, o, hp⟩⟩
theorem l_isT {Z : Zt} {L : Lt} (hZ : OK Z) {G0 : Gt} {T : Nat × (Nat → Nat)} {c9 : Nat} (hT : imT G0 T) (hT1 : T.1 ≤ 100) (hT2 : ∀ i, i < T.1 → T.2 i < 128) (h9 : c9 ≤ 600) {f : Nat → PR} {D o : Nat} (hD : 5 ≤ D) (hF : PCm mX12_isF Z L G0 T c9 D o f) (hok : okf T f) {cs : List Nat} : ∀ (n a : Nat) (ds : List Nat) (G : Gt), T.1 < a + n → PS G0 G T c9 a (cs ++ ds) o → a ≤ T.1 → (cs ++ ds).length ≤ a → AX none mX12_isT (D + 1) 0 0 0 0 9 [(0, .ref 75)] [] Z G L (RP (.int (bI (pAnd f T n a ds).1)) (PPm Z L G0 T c9 cs o (pAnd f T n a ds))) := by
  intro n
  induction n with
  | zero => intro a ds G h1 hp ha hlen; omega
  | succ n ih =>
    intro a ds G h1 hp ha hlen
    refine ax_aload_n (i := 0) dX12_isT_9 rfl rfl ?_
    refine ax_bipush (v := 38) dX12_isT_10 (by decide) ?_
    refine ax_cVq dX12_isT_12 lk_X12_171 (m_is hZ hT hT1 hT2 hp ha 38 (by decide)) rfl (OKs hZ rfl) ⟨_, rfl, rfl⟩ rfl (Nat.le_of_ble_eq_true rfl) (by omega) (Nat.le_of_ble_eq_true rfl) (Nat.le_of_ble_eq_true rfl) ?_
    rintro _ G1 _ ⟨rfl, rfl, p1⟩
    refine ax_if_eq (tgt := 35) dX12_isT_15 (by decide) (fun c_15 => ?_) (fun c_15 => ?_)
    · refine ax_iconst (v := 1) dX12_isT_35 (by decide) ?_
      refine ax_iret dX12_isT_36 rfl rfl (Nat.le_of_ble_eq_true rfl) (Nat.le_of_ble_eq_true rfl) ?_
      have c9 := bI_n c_15
      rw [if_neg c9] at p1
      have e9 : pAnd f T (n + 1) a ds = (true, a, ds) := by rw [pAnd, if_neg c9]
      rw [e9]
      exact ⟨rfl, rfl, rfl, fun _ => p1, fun z => Bool.noConfusion z⟩
    · have c9 := bI_y c_15
      rw [if_pos c9] at p1
      have hl1 := chT_lt c9 (by decide)
      refine ax_aload_n (i := 0) dX12_isT_18 rfl rfl ?_
      refine ax_cVq dX12_isT_19 lk_X12_196 (hF _ (a + 1) (cs ++ ds) p1 hl1 (by omega)) rfl (OKs hZ rfl) ⟨_, rfl, rfl⟩ rfl (Nat.le_of_ble_eq_true rfl) (by omega) (Nat.le_of_ble_eq_true rfl) (Nat.le_of_ble_eq_true rfl) ?_
      rintro _ G2 _ ⟨rfl, rfl, pt2, pf2⟩
      refine ax_if_eq (tgt := 33) dX12_isT_22 (by decide) (fun c_22 => ?_) (fun c_22 => ?_)
      · refine ax_iconst (v := 0) dX12_isT_33 (by decide) ?_
        refine ax_iret dX12_isT_34 rfl rfl (Nat.le_of_ble_eq_true rfl) (Nat.le_of_ble_eq_true rfl) ?_
        have c9 := bI_y c_15
        have e9 : pAnd f T (n + 1) a ds = (false, (f (a + 1)).2.1, []) := by rw [pAnd, if_pos c9, if_neg (by rw [bI_f c_22]; decide)]
        rw [e9]
        exact ⟨rfl, rfl, rfl, fun z => Bool.noConfusion z, fun _ => pf2 (bI_f c_22)⟩
      · have cf := bI_t c_22
        have pt2 := pt2 cf
        obtain ⟨f1, f2⟩ := hok (a + 1) hl1
        obtain ⟨f3, f4⟩ := f2 cf
        refine ax_aload_n (i := 0) dX12_isT_25 rfl rfl ?_
        refine ax_iconst (v := 1) dX12_isT_26 (by decide) ?_
        refine ax_cVq dX12_isT_27 lk_X12_187 (m_codes hZ hT hT1 hT2 pt2 (by rw [List.length_append]; omega) 1) rfl (OKs hZ rfl) ⟨_, rfl, rfl⟩ rfl (Nat.le_of_ble_eq_true rfl) (by omega) (Nat.le_of_ble_eq_true rfl) (Nat.le_of_ble_eq_true rfl) ?_
        rintro _ G3 _ ⟨rfl, rfl, p3⟩
        refine ax_if_ne (tgt := 9) dX12_isT_30 (by decide) (fun c_30 => ?_) (fun c_30 => ?_)
        · have e9 : pAnd f T (n + 1) a ds = pAnd f T n (f (a + 1)).2.1 (ds ++ (f (a + 1)).2.2 ++ [1]) := by rw [pAnd, if_pos c9, if_pos cf]
          rw [e9]
          refine ax_lv [(0, .ref 75)] ⟨rfl, trivial⟩ ?_
          rw [List.append_assoc, List.append_assoc] at p3
          refine ih (f (a + 1)).2.1 (ds ++ (f (a + 1)).2.2 ++ [1]) _ (by omega) (by rw [List.append_assoc]; exact p3) f1 ?_
          simp only [List.length_append, List.length_cons, List.length_nil] at hlen ⊢
          omega
        · exact absurd c_30 (by decide)
theorem m_isT {Z : Zt} {L : Lt} (hZ : OK Z) {G0 : Gt} {T : Nat × (Nat → Nat)} {c9 : Nat} (hT : imT G0 T) (hT1 : T.1 ≤ 100) (hT2 : ∀ i, i < T.1 → T.2 i < 128) (h9 : c9 ≤ 600) {f : Nat → PR} {D o : Nat} (hD : 5 ≤ D) (hF : PCm mX12_isF Z L G0 T c9 D o f) (hok : okf T f) : PCm mX12_isT Z L G0 T c9 (D + 1) o (pT f T 101) := by
  intro G a cs hp ha hlen
  refine AC.intro (by decide +kernel) (Nat.le_of_ble_eq_true rfl) ?_
  refine ax_lv [(0, .ref 75)] ⟨rfl, trivial⟩ ?_
  refine ax_aload_n (i := 0) dX12_isT_0 rfl rfl ?_
  refine ax_cVq dX12_isT_1 lk_X12_196 (hF _ a cs hp ha hlen) rfl (OKs hZ rfl) ⟨_, rfl, rfl⟩ rfl (Nat.le_of_ble_eq_true rfl) (by omega) (Nat.le_of_ble_eq_true rfl) (Nat.le_of_ble_eq_true rfl) ?_
  rintro _ G1 _ ⟨rfl, rfl, pt1, pf1⟩
  refine ax_if_ne (tgt := 9) dX12_isT_4 (by decide) (fun c_4 => ?_) (fun c_4 => ?_)
  · have cf := bI_t c_4
    obtain ⟨f1, f2⟩ := hok a ha
    obtain ⟨f3, f4⟩ := f2 cf
    have e9 : pT f T 101 a = pAnd f T 101 (f a).2.1 (f a).2.2 := by unfold pT; rw [if_pos cf]
    rw [e9]
    refine ax_lv [(0, .ref 75)] ⟨rfl, trivial⟩ ?_
    exact l_isT hZ hT hT1 hT2 h9 hD hF hok 101 _ _ _ (by omega) (pt1 cf) f1 (by rw [List.length_append]; omega)
  · refine ax_iconst (v := 0) dX12_isT_7 (by decide) ?_
    refine ax_iret dX12_isT_8 rfl rfl (Nat.le_of_ble_eq_true rfl) (Nat.le_of_ble_eq_true rfl) ?_
    have e9 : pT f T 101 a = (false, (f a).2.1, []) := by unfold pT; rw [if_neg (by rw [bI_f c_4]; decide)]
    rw [e9]
    exact ⟨rfl, rfl, rfl, fun z => Bool.noConfusion z, fun _ => pf1 (bI_f c_4)⟩
theorem l_isE {Z : Zt} {L : Lt} (hZ : OK Z) {G0 : Gt} {T : Nat × (Nat → Nat)} {c9 : Nat} (hT : imT G0 T) (hT1 : T.1 ≤ 100) (hT2 : ∀ i, i < T.1 → T.2 i < 128) (h9 : c9 ≤ 600) {f : Nat → PR} {D o : Nat} (hD : 5 ≤ D) (hF : PCm mX12_isT Z L G0 T c9 D o (pT f T 101)) (hok : okf T (pT f T 101)) {cs : List Nat} : ∀ (n a : Nat) (ds : List Nat) (G : Gt), T.1 < a + n → PS G0 G T c9 a (cs ++ ds) o → a ≤ T.1 → (cs ++ ds).length ≤ a → AX none mX12_isE (D + 1) 0 0 0 0 9 [(0, .ref 75)] [] Z G L (RP (.int (bI (pOr f T 101 n a ds).1)) (PPm Z L G0 T c9 cs o (pOr f T 101 n a ds))) := by
  intro n
  induction n with
  | zero => intro a ds G h1 hp ha hlen; omega
  | succ n ih =>
    intro a ds G h1 hp ha hlen
    refine ax_aload_n (i := 0) dX12_isE_9 rfl rfl ?_
    refine ax_bipush (v := 124) dX12_isE_10 (by decide) ?_
    refine ax_cVq dX12_isE_12 lk_X12_171 (m_is hZ hT hT1 hT2 hp ha 124 (by decide)) rfl (OKs hZ rfl) ⟨_, rfl, rfl⟩ rfl (Nat.le_of_ble_eq_true rfl) (by omega) (Nat.le_of_ble_eq_true rfl) (Nat.le_of_ble_eq_true rfl) ?_
    rintro _ G1 _ ⟨rfl, rfl, p1⟩
    refine ax_if_eq (tgt := 35) dX12_isE_15 (by decide) (fun c_15 => ?_) (fun c_15 => ?_)
    · refine ax_iconst (v := 1) dX12_isE_35 (by decide) ?_
      refine ax_iret dX12_isE_36 rfl rfl (Nat.le_of_ble_eq_true rfl) (Nat.le_of_ble_eq_true rfl) ?_
      have c9 := bI_n c_15
      rw [if_neg c9] at p1
      have e9 : pOr f T 101 (n + 1) a ds = (true, a, ds) := by rw [pOr, if_neg c9]
      rw [e9]
      exact ⟨rfl, rfl, rfl, fun _ => p1, fun z => Bool.noConfusion z⟩
    · have c9 := bI_y c_15
      rw [if_pos c9] at p1
      have hl1 := chT_lt c9 (by decide)
      refine ax_aload_n (i := 0) dX12_isE_18 rfl rfl ?_
      refine ax_cVq dX12_isE_19 lk_X12_205 (hF _ (a + 1) (cs ++ ds) p1 hl1 (by omega)) rfl (OKs hZ rfl) ⟨_, rfl, rfl⟩ rfl (Nat.le_of_ble_eq_true rfl) (by omega) (Nat.le_of_ble_eq_true rfl) (Nat.le_of_ble_eq_true rfl) ?_
      rintro _ G2 _ ⟨rfl, rfl, pt2, pf2⟩
      refine ax_if_eq (tgt := 33) dX12_isE_22 (by decide) (fun c_22 => ?_) (fun c_22 => ?_)
      · refine ax_iconst (v := 0) dX12_isE_33 (by decide) ?_
        refine ax_iret dX12_isE_34 rfl rfl (Nat.le_of_ble_eq_true rfl) (Nat.le_of_ble_eq_true rfl) ?_
        have c9 := bI_y c_15
        have e9 : pOr f T 101 (n + 1) a ds = (false, ((pT f T 101) (a + 1)).2.1, []) := by rw [pOr, if_pos c9, if_neg (by rw [bI_f c_22]; decide)]
        rw [e9]
        exact ⟨rfl, rfl, rfl, fun z => Bool.noConfusion z, fun _ => pf2 (bI_f c_22)⟩
      · have cf := bI_t c_22
        have pt2 := pt2 cf
        obtain ⟨f1, f2⟩ := hok (a + 1) hl1
        obtain ⟨f3, f4⟩ := f2 cf
        refine ax_aload_n (i := 0) dX12_isE_25 rfl rfl ?_
        refine ax_iconst (v := 2) dX12_isE_26 (by decide) ?_
        refine ax_cVq dX12_isE_27 lk_X12_187 (m_codes hZ hT hT1 hT2 pt2 (by rw [List.length_append]; omega) 2) rfl (OKs hZ rfl) ⟨_, rfl, rfl⟩ rfl (Nat.le_of_ble_eq_true rfl) (by omega) (Nat.le_of_ble_eq_true rfl) (Nat.le_of_ble_eq_true rfl) ?_
        rintro _ G3 _ ⟨rfl, rfl, p3⟩
        refine ax_if_ne (tgt := 9) dX12_isE_30 (by decide) (fun c_30 => ?_) (fun c_30 => ?_)
        · have e9 : pOr f T 101 (n + 1) a ds = pOr f T 101 n ((pT f T 101) (a + 1)).2.1 (ds ++ ((pT f T 101) (a + 1)).2.2 ++ [2]) := by rw [pOr, if_pos c9, if_pos cf]
          rw [e9]
          refine ax_lv [(0, .ref 75)] ⟨rfl, trivial⟩ ?_
          rw [List.append_assoc, List.append_assoc] at p3
          refine ih ((pT f T 101) (a + 1)).2.1 (ds ++ ((pT f T 101) (a + 1)).2.2 ++ [2]) _ (by omega) (by rw [List.append_assoc]; exact p3) f1 ?_
          simp only [List.length_append, List.length_cons, List.length_nil] at hlen ⊢
          omega
        · exact absurd c_30 (by decide)
theorem m_isE {Z : Zt} {L : Lt} (hZ : OK Z) {G0 : Gt} {T : Nat × (Nat → Nat)} {c9 : Nat} (hT : imT G0 T) (hT1 : T.1 ≤ 100) (hT2 : ∀ i, i < T.1 → T.2 i < 128) (h9 : c9 ≤ 600) {f : Nat → PR} {D o : Nat} (hD : 5 ≤ D) (hF : PCm mX12_isT Z L G0 T c9 D o (pT f T 101)) (hok : okf T (pT f T 101)) : PCm mX12_isE Z L G0 T c9 (D + 1) o (pE f T 101) := by
  intro G a cs hp ha hlen
  refine AC.intro (by decide +kernel) (Nat.le_of_ble_eq_true rfl) ?_
  refine ax_lv [(0, .ref 75)] ⟨rfl, trivial⟩ ?_
  refine ax_aload_n (i := 0) dX12_isE_0 rfl rfl ?_
  refine ax_cVq dX12_isE_1 lk_X12_205 (hF _ a cs hp ha hlen) rfl (OKs hZ rfl) ⟨_, rfl, rfl⟩ rfl (Nat.le_of_ble_eq_true rfl) (by omega) (Nat.le_of_ble_eq_true rfl) (Nat.le_of_ble_eq_true rfl) ?_
  rintro _ G1 _ ⟨rfl, rfl, pt1, pf1⟩
  refine ax_if_ne (tgt := 9) dX12_isE_4 (by decide) (fun c_4 => ?_) (fun c_4 => ?_)
  · have cf := bI_t c_4
    obtain ⟨f1, f2⟩ := hok a ha
    obtain ⟨f3, f4⟩ := f2 cf
    have e9 : pE f T 101 a = pOr f T 101 101 ((pT f T 101) a).2.1 ((pT f T 101) a).2.2 := by unfold pE; rw [if_pos cf]
    rw [e9]
    refine ax_lv [(0, .ref 75)] ⟨rfl, trivial⟩ ?_
    exact l_isE hZ hT hT1 hT2 h9 hD hF hok 101 _ _ _ (by omega) (pt1 cf) f1 (by rw [List.length_append]; omega)
  · refine ax_iconst (v := 0) dX12_isE_7 (by decide) ?_
    refine ax_iret dX12_isE_8 rfl rfl (Nat.le_of_ble_eq_true rfl) (Nat.le_of_ble_eq_true rfl) ?_
    have e9 : pE f T 101 a = (false, ((pT f T 101) a).2.1, []) := by unfold pE; rw [if_neg (by rw [bI_f c_4]; decide)]
    rw [e9]
    exact ⟨rfl, rfl, rfl, fun z => Bool.noConfusion z, fun _ => pf1 (bI_f c_4)⟩
theorem m_isF0 {Z : Zt} {L : Lt} (hZ : OK Z) {G0 : Gt} {T : Nat × (Nat → Nat)} {c9 : Nat} (hT : imT G0 T) (hT1 : T.1 ≤ 100) (hT2 : ∀ i, i < T.1 → T.2 i < 128) (h9 : c9 ≤ 600) : PCm mX12_isF Z L G0 T c9 6 4 (pF T 0) := by
  intro G a cs hp ha hlen
  show AC mX12_isF 6 0 0 [.ref 75] Z G L (RP (.int (bI (pTest T a).1)) (PPm Z L G0 T c9 cs 4 (pTest T a)))
  refine AC.intro (by decide +kernel) (Nat.le_of_ble_eq_true rfl) ?_
  refine ax_lv [(0, .ref 75)] ⟨rfl, trivial⟩ ?_
  refine ax_aload_n (i := 0) dX12_isF_0 rfl rfl ?_
  refine ax_bipush (v := 33) dX12_isF_1 (by decide) ?_
  refine ax_cVq dX12_isF_3 lk_X12_193 (m_op4 hZ hT hT1 hT2 hp ha 33) rfl (OKs hZ rfl) ⟨_, rfl, rfl⟩ rfl (Nat.le_of_ble_eq_true rfl) (by omega) (Nat.le_of_ble_eq_true rfl) (Nat.le_of_ble_eq_true rfl) ?_
  rintro _ G1 _ ⟨rfl, rfl, p1⟩
  refine ax_if_eq (tgt := 33) dX12_isF_6 (by decide) (fun c_6 => ?_) (fun c_6 => ?_)
  · refine ax_aload_n (i := 0) dX12_isF_33 rfl rfl ?_
    refine ax_bipush (v := 40) dX12_isF_34 (by decide) ?_
    refine ax_cVq dX12_isF_36 lk_X12_193 (m_op4 hZ hT hT1 hT2 p1 ha 40) rfl (OKs hZ rfl) ⟨_, rfl, rfl⟩ rfl (Nat.le_of_ble_eq_true rfl) (by omega) (Nat.le_of_ble_eq_true rfl) (Nat.le_of_ble_eq_true rfl) ?_
    rintro _ G2 _ ⟨rfl, rfl, p2⟩
    refine ax_if_eq (tgt := 67) dX12_isF_39 (by decide) (fun c_39 => ?_) (fun c_39 => ?_)
    · refine ax_aload_n (i := 0) dX12_isF_67 rfl rfl ?_
      refine ax_cVq dX12_isF_68 lk_X12_202 (m_test hZ hT hT1 hT2 h9 p2 ha hlen) rfl (OKs hZ rfl) ⟨_, rfl, rfl⟩ rfl (Nat.le_of_ble_eq_true rfl) (by omega) (Nat.le_of_ble_eq_true rfl) (Nat.le_of_ble_eq_true rfl) ?_
      rintro _ G3 _ ⟨rfl, rfl, pt3, pf3⟩
      refine ax_iret dX12_isF_71 rfl nb_bI (Nat.le_of_ble_eq_true rfl) (Nat.le_of_ble_eq_true rfl) ?_
      exact ⟨rfl, rfl, rfl, pt3, pf3⟩
    · exact absurd rfl c_39
  · exact absurd rfl c_6
theorem any_nI (x : Int32) : ∃ n, x = nI n := ⟨x.toBitVec.toNat, by apply Int32.toBitVec_inj.mp; show x.toBitVec = BitVec.ofNat 32 x.toBitVec.toNat; simp⟩
theorem PS_opx {G0 G : Gt} {T : Nat × (Nat → Nat)} {c9 a : Nat} {cs : List Nat} {o : Nat} {x : Int32} (h : PS G0 G T c9 a cs o) : PSx G0 (up2 G 75 16 x) T c9 a := by
  obtain ⟨n, hn⟩ := any_nI x
  exact ⟨cs, n, PS_op h hn⟩
theorem m_isF1 {Z : Zt} {L : Lt} (hZ : OK Z) {G0 : Gt} {T : Nat × (Nat → Nat)} {c9 : Nat} (hT : imT G0 T) (hT1 : T.1 ≤ 100) (hT2 : ∀ i, i < T.1 → T.2 i < 128) (h9 : c9 ≤ 600) {d D o : Nat} (hD : 6 ≤ D) (ho4 : o < 4) (hF : PCm mX12_isF Z L G0 T c9 D (o + 1) (pF T d)) (hE : PCm mX12_isE Z L G0 T c9 (D + 2) (o + 1) (pE (pF T d) T 101)) : PCm mX12_isF Z L G0 T c9 (D + 3) o (pF T (d + 1)) := by
  intro G a cs hp ha hlen
  refine AC.intro (by decide +kernel) (Nat.le_of_ble_eq_true rfl) ?_
  refine ax_lv [(0, .ref 75)] ⟨rfl, trivial⟩ ?_
  refine ax_aload_n (i := 0) dX12_isF_0 rfl rfl ?_
  refine ax_bipush (v := 33) dX12_isF_1 (by decide) ?_
  refine ax_cVq dX12_isF_3 lk_X12_193 (m_op hZ hT hT1 hT2 hp ha ho4 33 (by decide)) rfl (OKs hZ rfl) ⟨_, rfl, rfl⟩ rfl (Nat.le_of_ble_eq_true rfl) (by omega) (Nat.le_of_ble_eq_true rfl) (Nat.le_of_ble_eq_true rfl) ?_
  rintro _ G1 _ ⟨rfl, rfl, p1⟩
  refine ax_if_eq (tgt := 33) dX12_isF_6 (by decide) (fun c_6 => ?_) (fun c_6 => ?_)
  · have c9 := bI_n c_6
    rw [if_neg c9, if_neg c9] at p1
    refine ax_aload_n (i := 0) dX12_isF_33 rfl rfl ?_
    refine ax_bipush (v := 40) dX12_isF_34 (by decide) ?_
    refine ax_cVq dX12_isF_36 lk_X12_193 (m_op hZ hT hT1 hT2 p1 ha ho4 40 (by decide)) rfl (OKs hZ rfl) ⟨_, rfl, rfl⟩ rfl (Nat.le_of_ble_eq_true rfl) (by omega) (Nat.le_of_ble_eq_true rfl) (Nat.le_of_ble_eq_true rfl) ?_
    rintro _ G2 _ ⟨rfl, rfl, p2⟩
    refine ax_if_eq (tgt := 67) dX12_isF_39 (by decide) (fun c_39 => ?_) (fun c_39 => ?_)
    · have c8 := bI_n c_39
      rw [if_neg c8, if_neg c8] at p2
      refine ax_aload_n (i := 0) dX12_isF_67 rfl rfl ?_
      refine ax_cVq dX12_isF_68 lk_X12_202 (m_test hZ hT hT1 hT2 h9 p2 ha hlen) rfl (OKs hZ rfl) ⟨_, rfl, rfl⟩ rfl (Nat.le_of_ble_eq_true rfl) (by omega) (Nat.le_of_ble_eq_true rfl) (Nat.le_of_ble_eq_true rfl) ?_
      rintro _ G3 _ ⟨rfl, rfl, pt3, pf3⟩
      refine ax_iret dX12_isF_71 rfl nb_bI (Nat.le_of_ble_eq_true rfl) (Nat.le_of_ble_eq_true rfl) ?_
      have c9 := bI_n c_6
      have c8 := bI_n c_39
      have e9 : pF T (d + 1) a = pTest T a := by rw [pF, if_neg c9, if_neg c8]
      rw [e9]
      exact ⟨rfl, rfl, rfl, pt3, pf3⟩
    · have c8 := bI_y c_39
      rw [if_pos c8, if_pos c8] at p2
      have hl1 := chT_lt c8 (by decide)
      refine ax_aload_n (i := 0) dX12_isF_42 rfl rfl ?_
      refine ax_cVq dX12_isF_43 lk_X12_199 (hE _ (a + 1) cs p2 hl1 (by omega)) rfl (OKs hZ rfl) ⟨_, rfl, rfl⟩ rfl (Nat.le_of_ble_eq_true rfl) (by omega) (Nat.le_of_ble_eq_true rfl) (Nat.le_of_ble_eq_true rfl) ?_
      rintro _ G3 _ ⟨rfl, rfl, pt3, pf3⟩
      refine ax_if_eq (tgt := 62) dX12_isF_46 (by decide) (fun c_46 => ?_) (fun c_46 => ?_)
      · refine ax_iconst (v := 0) dX12_isF_62 (by decide) ?_
        refine ax_istore_n (i := 1) dX12_isF_63 rfl (by decide) rfl ?_
        refine ax_goto (tgt := 72) dX12_isF_64 (by decide) ?_
        refine ax_aload_n (i := 0) dX12_isF_72 rfl rfl ?_
        refine ax_dup dX12_isF_73 rfl ?_
        refine ax_getI dX12_isF_74 fl_X12_190 rfl (OKs hZ rfl) ?_
        refine ax_iconst (v := 1) dX12_isF_77 (by decide) ?_
        refine ax_isub dX12_isF_78 ?_
        refine ax_putI dX12_isF_79 fl_X12_190 (Or.inl fp_X12_12_16) rfl rfl rfl (OKs hZ rfl) ?_
        refine ax_iload_n (i := 1) dX12_isF_82 rfl rfl ?_
        refine ax_iret dX12_isF_83 rfl rfl (Nat.le_of_ble_eq_true rfl) (Nat.le_of_ble_eq_true rfl) ?_
        have c9 := bI_n c_6
        have c8 := bI_y c_39
        have e9 : pF T (d + 1) a = (false, (pE (pF T d) T 101 (a + 1)).2.1, []) := by rw [pF, if_neg c9, if_pos c8, if_neg (by rw [bI_f c_46]; decide)]
        rw [e9]
        obtain ⟨cs2, o2, px⟩ := pf3 (bI_f c_46)
        exact ⟨rfl, rfl, rfl, fun z => Bool.noConfusion z, fun _ => PS_opx px⟩
      · have cf := bI_t c_46
        have pt3 := pt3 cf
        obtain ⟨f1, f2⟩ := pE_ok (pF_ok T d) 101 (a + 1) hl1
        obtain ⟨f3, f4⟩ := f2 cf
        refine ax_aload_n (i := 0) dX12_isF_49 rfl rfl ?_
        refine ax_bipush (v := 41) dX12_isF_50 (by decide) ?_
        refine ax_cVq dX12_isF_52 lk_X12_171 (m_is hZ hT hT1 hT2 pt3 f1 41 (by decide)) rfl (OKs hZ rfl) ⟨_, rfl, rfl⟩ rfl (Nat.le_of_ble_eq_true rfl) (by omega) (Nat.le_of_ble_eq_true rfl) (Nat.le_of_ble_eq_true rfl) ?_
        rintro _ G4 _ ⟨rfl, rfl, p4⟩
        refine ax_if_eq (tgt := 62) dX12_isF_55 (by decide) (fun c_55 => ?_) (fun c_55 => ?_)
        · refine ax_iconst (v := 0) dX12_isF_62 (by decide) ?_
          refine ax_istore_n (i := 1) dX12_isF_63 rfl (by decide) rfl ?_
          refine ax_goto (tgt := 72) dX12_isF_64 (by decide) ?_
          refine ax_aload_n (i := 0) dX12_isF_72 rfl rfl ?_
          refine ax_dup dX12_isF_73 rfl ?_
          refine ax_getI dX12_isF_74 fl_X12_190 rfl (OKs hZ rfl) ?_
          refine ax_iconst (v := 1) dX12_isF_77 (by decide) ?_
          refine ax_isub dX12_isF_78 ?_
          refine ax_putI dX12_isF_79 fl_X12_190 (Or.inl fp_X12_12_16) rfl rfl rfl (OKs hZ rfl) ?_
          refine ax_iload_n (i := 1) dX12_isF_82 rfl rfl ?_
          refine ax_iret dX12_isF_83 rfl rfl (Nat.le_of_ble_eq_true rfl) (Nat.le_of_ble_eq_true rfl) ?_
          have c9 := bI_n c_6
          have c8 := bI_y c_39
          have c7 := bI_n c_55
          rw [if_neg c7] at p4
          have e9 : pF T (d + 1) a = (false, (pE (pF T d) T 101 (a + 1)).2.1, []) := by rw [pF, if_neg c9, if_pos c8, if_pos cf, if_neg c7]
          rw [e9]
          exact ⟨rfl, rfl, rfl, fun z => Bool.noConfusion z, fun _ => PS_opx p4⟩
        · refine ax_iconst (v := 1) dX12_isF_58 (by decide) ?_
          refine ax_goto (tgt := 63) dX12_isF_59 (by decide) ?_
          refine ax_istore_n (i := 1) dX12_isF_63 rfl (by decide) rfl ?_
          refine ax_goto (tgt := 72) dX12_isF_64 (by decide) ?_
          refine ax_aload_n (i := 0) dX12_isF_72 rfl rfl ?_
          refine ax_dup dX12_isF_73 rfl ?_
          refine ax_getI dX12_isF_74 fl_X12_190 rfl (OKs hZ rfl) ?_
          refine ax_iconst (v := 1) dX12_isF_77 (by decide) ?_
          refine ax_isub dX12_isF_78 ?_
          refine ax_putI dX12_isF_79 fl_X12_190 (Or.inl fp_X12_12_16) rfl rfl rfl (OKs hZ rfl) ?_
          refine ax_iload_n (i := 1) dX12_isF_82 rfl rfl ?_
          refine ax_iret dX12_isF_83 rfl rfl (Nat.le_of_ble_eq_true rfl) (Nat.le_of_ble_eq_true rfl) ?_
          have c9 := bI_n c_6
          have c8 := bI_y c_39
          have c7 := bI_y c_55
          rw [if_pos c7] at p4
          have e9 : pF T (d + 1) a = (true, (pE (pF T d) T 101 (a + 1)).2.1 + 1, (pE (pF T d) T 101 (a + 1)).2.2) := by rw [pF, if_neg c9, if_pos c8, if_pos cf, if_pos c7]
          rw [e9]
          exact ⟨rfl, rfl, rfl, fun _ => PS_op p4 (by rw [p4.2.1]; exact nI_pred o), fun z => Bool.noConfusion z⟩
  · have c9 := bI_y c_6
    rw [if_pos c9, if_pos c9] at p1
    have hl1 := chT_lt c9 (by decide)
    refine ax_aload_n (i := 0) dX12_isF_9 rfl rfl ?_
    refine ax_cVq dX12_isF_10 lk_X12_196 (hF _ (a + 1) cs p1 hl1 (by omega)) rfl (OKs hZ rfl) ⟨_, rfl, rfl⟩ rfl (Nat.le_of_ble_eq_true rfl) (by omega) (Nat.le_of_ble_eq_true rfl) (Nat.le_of_ble_eq_true rfl) ?_
    rintro _ G2 _ ⟨rfl, rfl, pt2, pf2⟩
    refine ax_if_eq (tgt := 28) dX12_isF_13 (by decide) (fun c_13 => ?_) (fun c_13 => ?_)
    · refine ax_iconst (v := 0) dX12_isF_28 (by decide) ?_
      refine ax_istore_n (i := 1) dX12_isF_29 rfl (by decide) rfl ?_
      refine ax_goto (tgt := 72) dX12_isF_30 (by decide) ?_
      refine ax_aload_n (i := 0) dX12_isF_72 rfl rfl ?_
      refine ax_dup dX12_isF_73 rfl ?_
      refine ax_getI dX12_isF_74 fl_X12_190 rfl (OKs hZ rfl) ?_
      refine ax_iconst (v := 1) dX12_isF_77 (by decide) ?_
      refine ax_isub dX12_isF_78 ?_
      refine ax_putI dX12_isF_79 fl_X12_190 (Or.inl fp_X12_12_16) rfl rfl rfl (OKs hZ rfl) ?_
      refine ax_iload_n (i := 1) dX12_isF_82 rfl rfl ?_
      refine ax_iret dX12_isF_83 rfl rfl (Nat.le_of_ble_eq_true rfl) (Nat.le_of_ble_eq_true rfl) ?_
      have c9 := bI_y c_6
      have e9 : pF T (d + 1) a = (false, (pF T d (a + 1)).2.1, []) := by rw [pF, if_pos c9, if_neg (by rw [bI_f c_13]; decide)]
      rw [e9]
      obtain ⟨cs2, o2, px⟩ := pf2 (bI_f c_13)
      exact ⟨rfl, rfl, rfl, fun z => Bool.noConfusion z, fun _ => PS_opx px⟩
    · have cf := bI_t c_13
      have pt2 := pt2 cf
      obtain ⟨f1, f2⟩ := pF_ok T d (a + 1) hl1
      obtain ⟨f3, f4⟩ := f2 cf
      refine ax_aload_n (i := 0) dX12_isF_16 rfl rfl ?_
      refine ax_iconst (v := 0) dX12_isF_17 (by decide) ?_
      refine ax_cVq dX12_isF_18 lk_X12_187 (m_codes hZ hT hT1 hT2 pt2 (by rw [List.length_append]; omega) 0) rfl (OKs hZ rfl) ⟨_, rfl, rfl⟩ rfl (Nat.le_of_ble_eq_true rfl) (by omega) (Nat.le_of_ble_eq_true rfl) (Nat.le_of_ble_eq_true rfl) ?_
      rintro _ G3 _ ⟨rfl, rfl, p3⟩
      refine ax_if_eq (tgt := 28) dX12_isF_21 (by decide) (fun c_21 => ?_) (fun c_21 => ?_)
      · exact absurd c_21 (by decide)
      · refine ax_iconst (v := 1) dX12_isF_24 (by decide) ?_
        refine ax_goto (tgt := 29) dX12_isF_25 (by decide) ?_
        refine ax_istore_n (i := 1) dX12_isF_29 rfl (by decide) rfl ?_
        refine ax_goto (tgt := 72) dX12_isF_30 (by decide) ?_
        refine ax_aload_n (i := 0) dX12_isF_72 rfl rfl ?_
        refine ax_dup dX12_isF_73 rfl ?_
        refine ax_getI dX12_isF_74 fl_X12_190 rfl (OKs hZ rfl) ?_
        refine ax_iconst (v := 1) dX12_isF_77 (by decide) ?_
        refine ax_isub dX12_isF_78 ?_
        refine ax_putI dX12_isF_79 fl_X12_190 (Or.inl fp_X12_12_16) rfl rfl rfl (OKs hZ rfl) ?_
        refine ax_iload_n (i := 1) dX12_isF_82 rfl rfl ?_
        refine ax_iret dX12_isF_83 rfl rfl (Nat.le_of_ble_eq_true rfl) (Nat.le_of_ble_eq_true rfl) ?_
        have c9 := bI_y c_6
        have e9 : pF T (d + 1) a = (true, (pF T d (a + 1)).2.1, (pF T d (a + 1)).2.2 ++ [0]) := by rw [pF, if_pos c9, if_pos cf]
        rw [e9]
        exact ⟨rfl, rfl, rfl, fun _ => by rw [← List.append_assoc]; exact PS_op p3 (by rw [p3.2.1]; exact nI_pred o), fun z => Bool.noConfusion z⟩
theorem m_isE4 {Z : Zt} {L : Lt} (hZ : OK Z) {G0 : Gt} {T : Nat × (Nat → Nat)} {c9 : Nat} (hT : imT G0 T) (hT1 : T.1 ≤ 100) (hT2 : ∀ i, i < T.1 → T.2 i < 128) (h9 : c9 ≤ 600) : PCm mX12_isE Z L G0 T c9 20 0 (pE (pF T 4) T 101) := by
  have go : ∀ d o D, 6 ≤ D → PCm mX12_isF Z L G0 T c9 D o (pF T d) → PCm mX12_isE Z L G0 T c9 (D + 2) o (pE (pF T d) T 101) := fun d o D hD h => m_isE hZ hT hT1 hT2 h9 (by omega) (m_isT hZ hT hT1 hT2 h9 (by omega) h (pF_ok T d)) (pT_ok (pF_ok T d) 101)
  have f0 := m_isF0 (L := L) hZ hT hT1 hT2 h9
  have f1 := m_isF1 hZ hT hT1 hT2 h9 (o := 3) (by decide) (by decide) f0 (go 0 4 6 (by decide) f0)
  have f2 := m_isF1 hZ hT hT1 hT2 h9 (o := 2) (by decide) (by decide) f1 (go 1 3 9 (by decide) f1)
  have f3 := m_isF1 hZ hT hT1 hT2 h9 (o := 1) (by decide) (by decide) f2 (go 2 2 12 (by decide) f2)
  have f4 := m_isF1 hZ hT hT1 hT2 h9 (o := 0) (by decide) (by decide) f3 (go 3 1 15 (by decide) f3)
  exact go 4 0 18 (by decide) f4
