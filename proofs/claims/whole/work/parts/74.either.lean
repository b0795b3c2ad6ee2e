-- ===== the class reads: what is joined =====
abbrev PCc (M : Mt) (Z : Zt) (L : Lt) (G0 : Gt) (T : Nat × (Nat → Nat)) (D : Nat) (x : Int32) (dep : Nat) (f : Nat → PR) : Prop := ∀ (G : Gt) (a : Nat) (ss : List St), RS G0 G a ss x → a ≤ T.1 → ss.length ≤ a → AC M D 0 0 [.ref 1, .int (nI dep)] Z G L (RP (.int (bI (f a).1)) (PPc Z L G0 ss x (f a)))
theorem map_a (ss : List St) (cs fs : List Nat) : ss ++ cs.map tokS ++ fs.map tokS ++ [(4, 0, 0)] = ss ++ (cs ++ fs ++ [1]).map tokS := by
  rw [List.map_append, List.map_append, List.append_assoc, List.append_assoc, List.append_assoc]; rfl
theorem map_o (ss : List St) (cs : List Nat) : ss ++ cs.map tokS ++ [(5, 0, 0)] = ss ++ (cs ++ [2]).map tokS := by
  rw [List.map_append, List.append_assoc]; rfl
theorem map_2 (ss : List St) (cs fs : List Nat) : ss ++ cs.map tokS ++ fs.map tokS = ss ++ (cs ++ fs).map tokS := by
  rw [List.map_append, List.append_assoc]
theorem len_m (ss : List St) (cs : List Nat) : (ss ++ cs.map tokS).length = ss.length + cs.length := by rw [List.length_append, List.length_map]
theorem ln_either {Z : Zt} {L : Lt} (hZ : OK Z) {G0 : Gt} {T : Nat × (Nat → Nat)} (hT : imTc G0 T) (hT1 : T.1 ≤ 100) (hT2 : ∀ i, i < T.1 → T.2 i < 128) {f : Nat → PR} {D dep : Nat} {x : Int32} (hD : 5 ≤ D) (hF : PCc mX4_takeFactor Z L G0 T D x dep f) (hok : okf T f) {ss : List St} : ∀ (n k a : Nat) (cs : List Nat) (w : Bool) (G : Gt), T.1 < a + n → k < a → RS G0 G a (ss ++ cs.map tokS) x → a ≤ T.1 → ss.length + cs.length + (if w = true then 1 else 0) ≤ a → AX none mX4_takeEither (D + 1) 0 0 0 0 14 [(0, .ref 1), (1, .int (nI dep)), (2, .int (bI w)), (3, .int (nI k))] [] Z G L (RP (.int (bI (pFl f T n a cs w).1)) (PPc Z L G0 ss x (pFl f T n a cs w))) := by
  intro n
  induction n with
  | zero => intro k a cs w G h1 _ _ ha; omega
  | succ n ih =>
    intro k a cs w G h1 hk hp ha hlen
    have hlen0 : ss.length + cs.length ≤ a := by omega
    refine ax_iload_n (i := 3) dX4_takeEither_14 rfl rfl ?_
    refine ax_bipush (v := 100) dX4_takeEither_15 (by decide) ?_
    refine ax_icmp_ge (tgt := 112) dX4_takeEither_17 (by decide) (fun c_17 => ?_) (fun c_17 => ?_)
    · exact absurd c_17 (nI_ge (b := 100) (by omega) (by decide))
    · refine ax_aload_n (i := 0) dX4_takeEither_20 rfl rfl ?_
      refine ax_cVv dX4_takeEither_21 lk_X4_51 (n_next hZ hT hT1 hT2 hp ha) rfl (OKs hZ rfl) ⟨_, rfl, rfl⟩ rfl (Nat.le_of_ble_eq_true rfl) (by omega) (Nat.le_of_ble_eq_true rfl) (Nat.le_of_ble_eq_true rfl) ?_
      refine ax_bipush (v := 38) dX4_takeEither_24 (by decide) ?_
      refine ax_icmp_ne (tgt := 33) dX4_takeEither_26 (by decide) (fun c_26 => ?_) (fun c_26 => ?_)
      · refine ax_iconst (v := 0) dX4_takeEither_33 (by decide) ?_
        refine ax_istore dX4_takeEither_34 (by decide) rfl ?_
        refine ax_iload dX4_takeEither_36 rfl ?_
        refine ax_if_ne (tgt := 53) dX4_takeEither_38 (by decide) (fun c_38 => ?_) (fun c_38 => ?_)
        · exact absurd (by decide) c_38
        · refine ax_aload_n (i := 0) dX4_takeEither_41 rfl rfl ?_
          refine ax_cVv dX4_takeEither_42 lk_X4_51 (n_next hZ hT hT1 hT2 hp ha) rfl (OKs hZ rfl) ⟨_, rfl, rfl⟩ rfl (Nat.le_of_ble_eq_true rfl) (by omega) (Nat.le_of_ble_eq_true rfl) (Nat.le_of_ble_eq_true rfl) ?_
          refine ax_bipush (v := 124) dX4_takeEither_45 (by decide) ?_
          refine ax_icmp_eq (tgt := 53) dX4_takeEither_47 (by decide) (fun c_47 => ?_) (fun c_47 => ?_)
          · refine ax_aload_n (i := 0) dX4_takeEither_53 rfl rfl ?_
            refine ax_dup dX4_takeEither_54 rfl ?_
            refine ax_getI dX4_takeEither_55 fl_X4_19 rfl (OKs hZ rfl) ?_
            refine ax_iconst (v := 1) dX4_takeEither_58 (by decide) ?_
            refine ax_iadd dX4_takeEither_59 ?_
            refine ax_putI dX4_takeEither_60 fl_X4_19 (Or.inl fp_X4_4_4) rfl rfl rfl (OKs hZ rfl) ?_
            have hl1 : a < T.1 := chT_lt ((nx_eq hT2 (s := 124) (by decide)).mp c_47) (by decide)
            refine ax_gen (fun G => RS G0 G (a + 1) (ss ++ cs.map tokS) x) (RS_at hp (by rw [hp.1]; exact nI_1 a)) (fun G5 hp1 => ?_)
            refine ax_iload dX4_takeEither_63 rfl ?_
            refine ax_if_ne (tgt := 79) dX4_takeEither_65 (by decide) (fun c_65 => ?_) (fun c_65 => ?_)
            · exact absurd (by decide) c_65
            · refine ax_iload_n (i := 2) dX4_takeEither_68 rfl rfl ?_
              refine ax_if_eq (tgt := 79) dX4_takeEither_69 (by decide) (fun c_69 => ?_) (fun c_69 => ?_)
              · 
                refine ax_aload_n (i := 0) dX4_takeEither_79 rfl rfl ?_
                refine ax_iload_n (i := 1) dX4_takeEither_80 rfl rfl ?_
                refine ax_cVq dX4_takeEither_81 lk_X4_78 (hF _ (a + 1) (ss ++ cs.map tokS) hp1 hl1 (by rw [len_m]; omega)) rfl (OKs hZ rfl) ⟨_, rfl, rfl⟩ rfl (Nat.le_of_ble_eq_true rfl) (by omega) (Nat.le_of_ble_eq_true rfl) (Nat.le_of_ble_eq_true rfl) ?_
                rintro _ G1 _ ⟨rfl, rfl, pt1, pf1⟩
                refine ax_if_ne (tgt := 89) dX4_takeEither_84 (by decide) (fun c_84 => ?_) (fun c_84 => ?_)
                · have cf := bI_t c_84
                  have pt1 := pt1 cf
                  obtain ⟨f1, f2⟩ := hok (a + 1) hl1
                  obtain ⟨f3, f4⟩ := f2 cf
                  refine ax_iload dX4_takeEither_89 rfl ?_
                  refine ax_if_eq (tgt := 104) dX4_takeEither_91 (by decide) (fun c_91 => ?_) (fun c_91 => ?_)
                  · refine ax_iconst (v := 1) dX4_takeEither_104 (by decide) ?_
                    refine ax_istore_n (i := 2) dX4_takeEither_105 rfl (by decide) rfl ?_
                    refine ax_iinc (v := (nI k) + 1) dX4_takeEither_106 rfl rfl (by decide) rfl ?_
                    refine ax_goto (tgt := 14) dX4_takeEither_109 (by decide) ?_
                    have w0 := bI_f c_69
                    rw [w0, if_neg (by decide)] at hlen
                    have e8 : flW w cs = cs := by unfold flW; rw [w0, if_neg (by decide)]
                    rw [map_2] at pt1
                    have c8 := mt (nx_eq hT2 (s := 38) (by decide)).mpr c_26
                    have c9 := (nx_eq hT2 (s := 124) (by decide)).mp c_47
                    have e9 : pFl f T (n + 1) a cs w = pFl f T n (f (a + 1)).2.1 (cs ++ (f (a + 1)).2.2) true := by rw [pFl, if_neg c8, if_pos c9, if_pos cf, e8]
                    rw [e9]
                    refine ax_lv [(0, .ref 1), (1, .int (nI dep)), (2, .int (bI true)), (3, .int (nI (k + 1)))] ⟨rfl, rfl, rfl, sI (nI_1 k), trivial⟩ ?_
                    exact ih _ _ _ true _ (by omega) (by omega) pt1 f1 (by rw [if_pos rfl]; simp only [List.length_append, List.length_cons, List.length_nil]; omega)
                  · exact absurd (by decide) c_91
                · refine ax_iconst (v := 0) dX4_takeEither_87 (by decide) ?_
                  refine ax_iret dX4_takeEither_88 rfl rfl (Nat.le_of_ble_eq_true rfl) (Nat.le_of_ble_eq_true rfl) ?_
                  have c8 := mt (nx_eq hT2 (s := 38) (by decide)).mpr c_26
                  have c9 := (nx_eq hT2 (s := 124) (by decide)).mp c_47
                  have e9 : pFl f T (n + 1) a cs w = (false, (f (a + 1)).2.1, []) := by rw [pFl, if_neg c8, if_pos c9, if_neg (by rw [bI_f c_84]; decide)]
                  rw [e9]
                  exact ⟨rfl, rfl, rfl, fun z => Bool.noConfusion z, fun _ => pf1 (bI_f c_84)⟩
              · refine ax_aload_n (i := 0) dX4_takeEither_72 rfl rfl ?_
                refine ax_iconst (v := 5) dX4_takeEither_73 (by decide) ?_
                refine ax_iconst (v := 0) dX4_takeEither_74 (by decide) ?_
                refine ax_iconst (v := 0) dX4_takeEither_75 (by decide) ?_
                refine ax_cVq0 dX4_takeEither_76 lk_X4_74 (n_add hZ hp1 (by rw [len_m]; omega) 5 0 0) rfl (OKs hZ rfl) ⟨_, rfl, rfl⟩ rfl (Nat.le_of_ble_eq_true rfl) (by omega) (Nat.le_of_ble_eq_true rfl) (Nat.le_of_ble_eq_true rfl) ?_
                rintro _ G1 _ ⟨rfl, rfl, p1⟩
                have w0 := bI_t c_69
                rw [w0, if_pos rfl] at hlen
                rw [if_pos (by rw [len_m]; omega)] at p1
                refine ax_aload_n (i := 0) dX4_takeEither_79 rfl rfl ?_
                refine ax_iload_n (i := 1) dX4_takeEither_80 rfl rfl ?_
                refine ax_cVq dX4_takeEither_81 lk_X4_78 (hF _ (a + 1) (ss ++ cs.map tokS ++ [(5, 0, 0)]) p1 hl1 (by rw [List.length_append, len_m]; show ss.length + cs.length + 1 ≤ _; omega)) rfl (OKs hZ rfl) ⟨_, rfl, rfl⟩ rfl (Nat.le_of_ble_eq_true rfl) (by omega) (Nat.le_of_ble_eq_true rfl) (Nat.le_of_ble_eq_true rfl) ?_
                rintro _ G2 _ ⟨rfl, rfl, pt2, pf2⟩
                refine ax_if_ne (tgt := 89) dX4_takeEither_84 (by decide) (fun c_84 => ?_) (fun c_84 => ?_)
                · have cf := bI_t c_84
                  have pt2 := pt2 cf
                  obtain ⟨f1, f2⟩ := hok (a + 1) hl1
                  obtain ⟨f3, f4⟩ := f2 cf
                  refine ax_iload dX4_takeEither_89 rfl ?_
                  refine ax_if_eq (tgt := 104) dX4_takeEither_91 (by decide) (fun c_91 => ?_) (fun c_91 => ?_)
                  · refine ax_iconst (v := 1) dX4_takeEither_104 (by decide) ?_
                    refine ax_istore_n (i := 2) dX4_takeEither_105 rfl (by decide) rfl ?_
                    refine ax_iinc (v := (nI k) + 1) dX4_takeEither_106 rfl rfl (by decide) rfl ?_
                    refine ax_goto (tgt := 14) dX4_takeEither_109 (by decide) ?_
                    have e8 : flW w cs = cs ++ [2] := by unfold flW; rw [if_pos w0]
                    rw [map_o, map_2] at pt2
                    have c8 := mt (nx_eq hT2 (s := 38) (by decide)).mpr c_26
                    have c9 := (nx_eq hT2 (s := 124) (by decide)).mp c_47
                    have e9 : pFl f T (n + 1) a cs w = pFl f T n (f (a + 1)).2.1 ((cs ++ [2]) ++ (f (a + 1)).2.2) true := by rw [pFl, if_neg c8, if_pos c9, if_pos cf, e8]
                    rw [e9]
                    refine ax_lv [(0, .ref 1), (1, .int (nI dep)), (2, .int (bI true)), (3, .int (nI (k + 1)))] ⟨rfl, rfl, rfl, sI (nI_1 k), trivial⟩ ?_
                    exact ih _ _ _ true _ (by omega) (by omega) pt2 f1 (by rw [if_pos rfl]; simp only [List.length_append, List.length_cons, List.length_nil]; omega)
                  · exact absurd (by decide) c_91
                · refine ax_iconst (v := 0) dX4_takeEither_87 (by decide) ?_
                  refine ax_iret dX4_takeEither_88 rfl rfl (Nat.le_of_ble_eq_true rfl) (Nat.le_of_ble_eq_true rfl) ?_
                  have c8 := mt (nx_eq hT2 (s := 38) (by decide)).mpr c_26
                  have c9 := (nx_eq hT2 (s := 124) (by decide)).mp c_47
                  have e9 : pFl f T (n + 1) a cs w = (false, (f (a + 1)).2.1, []) := by rw [pFl, if_neg c8, if_pos c9, if_neg (by rw [bI_f c_84]; decide)]
                  rw [e9]
                  exact ⟨rfl, rfl, rfl, fun z => Bool.noConfusion z, fun _ => pf2 (bI_f c_84)⟩
          · refine ax_goto (tgt := 112) dX4_takeEither_50 (by decide) ?_
            refine ax_iload_n (i := 2) dX4_takeEither_112 rfl rfl ?_
            refine ax_if_eq (tgt := 123) dX4_takeEither_113 (by decide) (fun c_113 => ?_) (fun c_113 => ?_)
            · refine ax_iconst (v := 1) dX4_takeEither_123 (by decide) ?_
              refine ax_iret dX4_takeEither_124 rfl rfl (Nat.le_of_ble_eq_true rfl) (Nat.le_of_ble_eq_true rfl) ?_
              have c8 := mt (nx_eq hT2 (s := 38) (by decide)).mpr c_26
              have c7 := mt (nx_eq hT2 (s := 124) (by decide)).mpr c_47
              have e9 : pFl f T (n + 1) a cs w = (true, a, flW w cs) := by rw [pFl, if_neg c8, if_neg c7]
              rw [e9]
              have w0 := bI_f c_113
              have e8 : flW w cs = cs := by unfold flW; rw [w0, if_neg (by decide)]
              rw [e8]
              exact ⟨rfl, rfl, rfl, fun _ => hp, fun z => Bool.noConfusion z⟩
            · refine ax_aload_n (i := 0) dX4_takeEither_116 rfl rfl ?_
              refine ax_iconst (v := 5) dX4_takeEither_117 (by decide) ?_
              refine ax_iconst (v := 0) dX4_takeEither_118 (by decide) ?_
              refine ax_iconst (v := 0) dX4_takeEither_119 (by decide) ?_
              refine ax_cVq0 dX4_takeEither_120 lk_X4_74 (n_add hZ hp (by rw [len_m]; omega) 5 0 0) rfl (OKs hZ rfl) ⟨_, rfl, rfl⟩ rfl (Nat.le_of_ble_eq_true rfl) (by omega) (Nat.le_of_ble_eq_true rfl) (Nat.le_of_ble_eq_true rfl) ?_
              rintro _ G1 _ ⟨rfl, rfl, p1⟩
              refine ax_iconst (v := 1) dX4_takeEither_123 (by decide) ?_
              refine ax_iret dX4_takeEither_124 rfl rfl (Nat.le_of_ble_eq_true rfl) (Nat.le_of_ble_eq_true rfl) ?_
              have c8 := mt (nx_eq hT2 (s := 38) (by decide)).mpr c_26
              have c7 := mt (nx_eq hT2 (s := 124) (by decide)).mpr c_47
              have e9 : pFl f T (n + 1) a cs w = (true, a, flW w cs) := by rw [pFl, if_neg c8, if_neg c7]
              rw [e9]
              have w0 := bI_t c_113
              have e8 : flW w cs = cs ++ [2] := by unfold flW; rw [if_pos w0]
              rw [e8]
              rw [w0, if_pos rfl] at hlen
              rw [if_pos (by rw [len_m]; omega)] at p1
              exact ⟨rfl, rfl, rfl, fun _ => by show RS G0 _ a (ss ++ (cs ++ [2]).map tokS) x; rw [← map_o]; exact p1, fun z => Bool.noConfusion z⟩
      · refine ax_iconst (v := 1) dX4_takeEither_29 (by decide) ?_
        refine ax_goto (tgt := 34) dX4_takeEither_30 (by decide) ?_
        refine ax_istore dX4_takeEither_34 (by decide) rfl ?_
        refine ax_iload dX4_takeEither_36 rfl ?_
        refine ax_if_ne (tgt := 53) dX4_takeEither_38 (by decide) (fun c_38 => ?_) (fun c_38 => ?_)
        · refine ax_aload_n (i := 0) dX4_takeEither_53 rfl rfl ?_
          refine ax_dup dX4_takeEither_54 rfl ?_
          refine ax_getI dX4_takeEither_55 fl_X4_19 rfl (OKs hZ rfl) ?_
          refine ax_iconst (v := 1) dX4_takeEither_58 (by decide) ?_
          refine ax_iadd dX4_takeEither_59 ?_
          refine ax_putI dX4_takeEither_60 fl_X4_19 (Or.inl fp_X4_4_4) rfl rfl rfl (OKs hZ rfl) ?_
          have hl1 : a < T.1 := chT_lt ((nx_eq hT2 (s := 38) (by decide)).mp c_26) (by decide)
          refine ax_gen (fun G => RS G0 G (a + 1) (ss ++ cs.map tokS) x) (RS_at hp (by rw [hp.1]; exact nI_1 a)) (fun G5 hp1 => ?_)
          refine ax_iload dX4_takeEither_63 rfl ?_
          refine ax_if_ne (tgt := 79) dX4_takeEither_65 (by decide) (fun c_65 => ?_) (fun c_65 => ?_)
          · 
            refine ax_aload_n (i := 0) dX4_takeEither_79 rfl rfl ?_
            refine ax_iload_n (i := 1) dX4_takeEither_80 rfl rfl ?_
            refine ax_cVq dX4_takeEither_81 lk_X4_78 (hF _ (a + 1) (ss ++ cs.map tokS) hp1 hl1 (by rw [len_m]; omega)) rfl (OKs hZ rfl) ⟨_, rfl, rfl⟩ rfl (Nat.le_of_ble_eq_true rfl) (by omega) (Nat.le_of_ble_eq_true rfl) (Nat.le_of_ble_eq_true rfl) ?_
            rintro _ G1 _ ⟨rfl, rfl, pt1, pf1⟩
            refine ax_if_ne (tgt := 89) dX4_takeEither_84 (by decide) (fun c_84 => ?_) (fun c_84 => ?_)
            · have cf := bI_t c_84
              have pt1 := pt1 cf
              obtain ⟨f1, f2⟩ := hok (a + 1) hl1
              obtain ⟨f3, f4⟩ := f2 cf
              refine ax_iload dX4_takeEither_89 rfl ?_
              refine ax_if_eq (tgt := 104) dX4_takeEither_91 (by decide) (fun c_91 => ?_) (fun c_91 => ?_)
              · exact absurd c_91 (by decide)
              · refine ax_aload_n (i := 0) dX4_takeEither_94 rfl rfl ?_
                refine ax_iconst (v := 4) dX4_takeEither_95 (by decide) ?_
                refine ax_iconst (v := 0) dX4_takeEither_96 (by decide) ?_
                refine ax_iconst (v := 0) dX4_takeEither_97 (by decide) ?_
                refine ax_cVq0 dX4_takeEither_98 lk_X4_74 (n_add hZ pt1 (by rw [List.length_append, len_m, List.length_map]; omega) 4 0 0) rfl (OKs hZ rfl) ⟨_, rfl, rfl⟩ rfl (Nat.le_of_ble_eq_true rfl) (by omega) (Nat.le_of_ble_eq_true rfl) (Nat.le_of_ble_eq_true rfl) ?_
                rintro _ G2 _ ⟨rfl, rfl, p2⟩
                refine ax_goto (tgt := 106) dX4_takeEither_101 (by decide) ?_
                refine ax_iinc (v := (nI k) + 1) dX4_takeEither_106 rfl rfl (by decide) rfl ?_
                refine ax_goto (tgt := 14) dX4_takeEither_109 (by decide) ?_
                have c9 := (nx_eq hT2 (s := 38) (by decide)).mp c_26
                have e9 : pFl f T (n + 1) a cs w = pFl f T n (f (a + 1)).2.1 (cs ++ (f (a + 1)).2.2 ++ [1]) w := by rw [pFl, if_pos c9, if_pos cf]
                rw [e9]
                refine ax_lv [(0, .ref 1), (1, .int (nI dep)), (2, .int (bI w)), (3, .int (nI (k + 1)))] ⟨rfl, rfl, rfl, sI (nI_1 k), trivial⟩ ?_
                rw [if_pos (by rw [List.length_append, len_m, List.length_map]; omega), map_a] at p2
                exact ih _ _ _ w _ (by omega) (by omega) p2 f1 (by simp only [List.length_append, List.length_cons, List.length_nil]; omega)
            · refine ax_iconst (v := 0) dX4_takeEither_87 (by decide) ?_
              refine ax_iret dX4_takeEither_88 rfl rfl (Nat.le_of_ble_eq_true rfl) (Nat.le_of_ble_eq_true rfl) ?_
              have c9 := (nx_eq hT2 (s := 38) (by decide)).mp c_26
              have e9 : pFl f T (n + 1) a cs w = (false, (f (a + 1)).2.1, []) := by rw [pFl, if_pos c9, if_neg (by rw [bI_f c_84]; decide)]
              rw [e9]
              exact ⟨rfl, rfl, rfl, fun z => Bool.noConfusion z, fun _ => pf1 (bI_f c_84)⟩
          · exact absurd c_65 (by decide)
        · exact absurd c_38 (by decide)
theorem n_either {Z : Zt} {L : Lt} (hZ : OK Z) {G0 : Gt} {T : Nat × (Nat → Nat)} (hT : imTc G0 T) (hT1 : T.1 ≤ 100) (hT2 : ∀ i, i < T.1 → T.2 i < 128) {f : Nat → PR} {D dep : Nat} {x : Int32} (hD : 5 ≤ D) (hF : PCc mX4_takeFactor Z L G0 T D x dep f) (hok : okf T f) : PCc mX4_takeEither Z L G0 T (D + 1) x dep (pE f T 101) := by
  intro G a ss hp ha hlen
  rw [← pE_el hok (show T.1 < 101 by omega) ha]
  refine AC.intro (by decide +kernel) (Nat.le_of_ble_eq_true rfl) ?_
  refine ax_lv [(0, .ref 1), (1, .int (nI dep))] ⟨rfl, rfl, trivial⟩ ?_
  refine ax_aload_n (i := 0) dX4_takeEither_0 rfl rfl ?_
  refine ax_iload_n (i := 1) dX4_takeEither_1 rfl rfl ?_
  refine ax_cVq dX4_takeEither_2 lk_X4_78 (hF _ a ss hp ha hlen) rfl (OKs hZ rfl) ⟨_, rfl, rfl⟩ rfl (Nat.le_of_ble_eq_true rfl) (by omega) (Nat.le_of_ble_eq_true rfl) (Nat.le_of_ble_eq_true rfl) ?_
  rintro _ G1 _ ⟨rfl, rfl, pt1, pf1⟩
  refine ax_if_ne (tgt := 10) dX4_takeEither_5 (by decide) (fun c_5 => ?_) (fun c_5 => ?_)
  · refine ax_iconst (v := 0) dX4_takeEither_10 (by decide) ?_
    refine ax_istore_n (i := 2) dX4_takeEither_11 rfl (by decide) rfl ?_
    refine ax_iconst (v := 0) dX4_takeEither_12 (by decide) ?_
    refine ax_istore_n (i := 3) dX4_takeEither_13 rfl (by decide) rfl ?_
    have cf := bI_t c_5
    obtain ⟨f1, f2⟩ := hok a ha
    obtain ⟨f3, f4⟩ := f2 cf
    have e9 : pEl f T 101 a = pFl f T 101 (f a).2.1 (f a).2.2 false := by unfold pEl; rw [if_pos cf]
    rw [e9]
    refine ax_lv [(0, .ref 1), (1, .int (nI dep)), (2, .int (bI false)), (3, .int (nI 0))] ⟨rfl, rfl, rfl, rfl, trivial⟩ ?_
    exact ln_either hZ hT hT1 hT2 hD hF hok 101 0 _ _ false _ (by omega) (by omega) (pt1 cf) f1 (by rw [if_neg (by decide)]; omega)
  · refine ax_iconst (v := 0) dX4_takeEither_8 (by decide) ?_
    refine ax_iret dX4_takeEither_9 rfl rfl (Nat.le_of_ble_eq_true rfl) (Nat.le_of_ble_eq_true rfl) ?_
    have e9 : pEl f T 101 a = (false, (f a).2.1, []) := by unfold pEl; rw [if_neg (by rw [bI_f c_5]; decide)]
    rw [e9]
    exact ⟨rfl, rfl, rfl, fun z => Bool.noConfusion z, fun _ => pf1 (bI_f c_5)⟩
theorem n_addx {Z : Zt} {G : Gt} {L : Lt} (hZ : OK Z) {G0 : Gt} {a : Nat} {ss : List St} {x : Int32} {q : Bool} (h1 : q = true → RS G0 G a ss x) (h2 : q = false → RSx G0 G a x) (hl : q = true → ss.length < 100) (s b c : Nat) : AC mX4_addStep 1 0 0 [.ref 1, .int (nI s), .int (nI b), .int (nI c)] Z G L (NP (fun Z' G' L' => Z' = Z ∧ L' = L ∧ (q = true → RS G0 G' a (ss ++ [(s, b, c)]) x) ∧ (q = false → RSx G0 G' a x))) := by
  cases q with
  | true =>
    have l := hl rfl
    refine AC.weaken (n_add hZ (h1 rfl) (by omega) s b c) ?_
    rintro r Z' G' L' ⟨rfl, rfl, rfl, p⟩
    rw [if_pos l] at p
    exact ⟨rfl, rfl, rfl, fun _ => p, fun z => Bool.noConfusion z⟩
  | false =>
    obtain ⟨s2, l2, p2⟩ := h2 rfl
    refine AC.weaken (n_add hZ p2 l2 s b c) ?_
    rintro r Z' G' L' ⟨rfl, rfl, rfl, p⟩
    refine ⟨rfl, rfl, rfl, fun z => Bool.noConfusion z, fun _ => ?_⟩
    by_cases e : s2.length < 100
    · rw [if_pos e] at p; exact ⟨_, by rw [List.length_append]; exact e, p⟩
    · rw [if_neg e] at p; exact ⟨_, l2, p⟩
theorem n_factor4 {Z : Zt} {L : Lt} (hZ : OK Z) {G0 : Gt} {T : Nat × (Nat → Nat)} (hT : imTc G0 T) (hT1 : T.1 ≤ 100) (hT2 : ∀ i, i < T.1 → T.2 i < 128) {x : Int32} : PCc mX4_takeFactor Z L G0 T 7 x 4 (pF T 0) := by
  intro G a ss hp ha hlen
  show AC mX4_takeFactor 7 0 0 [.ref 1, .int (nI 4)] Z G L (RP (.int (bI (pTest T a).1)) (PPc Z L G0 ss x (pTest T a)))
  refine AC.intro (by decide +kernel) (Nat.le_of_ble_eq_true rfl) ?_
  refine ax_lv [(0, .ref 1), (1, .int 4)] ⟨rfl, rfl, trivial⟩ ?_
  refine ax_iload_n (i := 1) dX4_takeFactor_0 rfl rfl ?_
  refine ax_iconst (v := 4) dX4_takeFactor_1 (by decide) ?_
  refine ax_icmp_ge (tgt := 41) dX4_takeFactor_2 (by decide) (fun c_2 => ?_) (fun c_2 => ?_)
  · refine ax_iload_n (i := 1) dX4_takeFactor_41 rfl rfl ?_
    refine ax_iconst (v := 4) dX4_takeFactor_42 (by decide) ?_
    refine ax_icmp_ge (tgt := 90) dX4_takeFactor_43 (by decide) (fun c_43 => ?_) (fun c_43 => ?_)
    · refine ax_aload_n (i := 0) dX4_takeFactor_90 rfl rfl ?_
      refine ax_cVq dX4_takeFactor_91 lk_X4_81 (n_test hZ hT hT1 hT2 hp ha hlen) rfl (OKs hZ rfl) ⟨_, rfl, rfl⟩ rfl (Nat.le_of_ble_eq_true rfl) (Nat.le_of_ble_eq_true rfl) (Nat.le_of_ble_eq_true rfl) (Nat.le_of_ble_eq_true rfl) ?_
      rintro _ G1 _ ⟨rfl, rfl, pt1, pf1⟩
      refine ax_iret dX4_takeFactor_94 rfl nb_bI (Nat.le_of_ble_eq_true rfl) (Nat.le_of_ble_eq_true rfl) ?_
      exact ⟨rfl, rfl, rfl, pt1, pf1⟩
    · exact absurd (by decide) c_43
  · exact absurd (by decide) c_2
theorem n_factor {Z : Zt} {L : Lt} (hZ : OK Z) {G0 : Gt} {T : Nat × (Nat → Nat)} (hT : imTc G0 T) (hT1 : T.1 ≤ 100) (hT2 : ∀ i, i < T.1 → T.2 i < 128) {x : Int32} {d D dep : Nat} (hD : 7 ≤ D) (hdep : dep < 4) (hF : PCc mX4_takeFactor Z L G0 T D x (dep + 1) (pF T d)) (hE : PCc mX4_takeEither Z L G0 T (D + 1) x (dep + 1) (pE (pF T d) T 101)) : PCc mX4_takeFactor Z L G0 T (D + 2) x dep (pF T (d + 1)) := by
  intro G a ss hp ha hlen
  refine AC.intro (by decide +kernel) (Nat.le_of_ble_eq_true rfl) ?_
  refine ax_lv [(0, .ref 1), (1, .int (nI dep))] ⟨rfl, rfl, trivial⟩ ?_
  refine ax_iload_n (i := 1) dX4_takeFactor_0 rfl rfl ?_
  refine ax_iconst (v := 4) dX4_takeFactor_1 (by decide) ?_
  refine ax_icmp_ge (tgt := 41) dX4_takeFactor_2 (by decide) (fun c_2 => ?_) (fun c_2 => ?_)
  · exact absurd c_2 (nI_ge (b := 4) (by omega) (by decide))
  · refine ax_aload_n (i := 0) dX4_takeFactor_5 rfl rfl ?_
    refine ax_cVv dX4_takeFactor_6 lk_X4_51 (n_next hZ hT hT1 hT2 hp ha) rfl (OKs hZ rfl) ⟨_, rfl, rfl⟩ rfl (Nat.le_of_ble_eq_true rfl) (by omega) (Nat.le_of_ble_eq_true rfl) (Nat.le_of_ble_eq_true rfl) ?_
    refine ax_bipush (v := 33) dX4_takeFactor_9 (by decide) ?_
    refine ax_icmp_ne (tgt := 41) dX4_takeFactor_11 (by decide) (fun c_11 => ?_) (fun c_11 => ?_)
    · refine ax_iload_n (i := 1) dX4_takeFactor_41 rfl rfl ?_
      refine ax_iconst (v := 4) dX4_takeFactor_42 (by decide) ?_
      refine ax_icmp_ge (tgt := 90) dX4_takeFactor_43 (by decide) (fun c_43 => ?_) (fun c_43 => ?_)
      · exact absurd c_43 c_2
      · refine ax_aload_n (i := 0) dX4_takeFactor_46 rfl rfl ?_
        refine ax_cVv dX4_takeFactor_47 lk_X4_51 (n_next hZ hT hT1 hT2 hp ha) rfl (OKs hZ rfl) ⟨_, rfl, rfl⟩ rfl (Nat.le_of_ble_eq_true rfl) (by omega) (Nat.le_of_ble_eq_true rfl) (Nat.le_of_ble_eq_true rfl) ?_
        refine ax_bipush (v := 40) dX4_takeFactor_50 (by decide) ?_
        refine ax_icmp_ne (tgt := 90) dX4_takeFactor_52 (by decide) (fun c_52 => ?_) (fun c_52 => ?_)
        · refine ax_aload_n (i := 0) dX4_takeFactor_90 rfl rfl ?_
          refine ax_cVq dX4_takeFactor_91 lk_X4_81 (n_test hZ hT hT1 hT2 hp ha hlen) rfl (OKs hZ rfl) ⟨_, rfl, rfl⟩ rfl (Nat.le_of_ble_eq_true rfl) (by omega) (Nat.le_of_ble_eq_true rfl) (Nat.le_of_ble_eq_true rfl) ?_
          rintro _ G1 _ ⟨rfl, rfl, pt1, pf1⟩
          refine ax_iret dX4_takeFactor_94 rfl nb_bI (Nat.le_of_ble_eq_true rfl) (Nat.le_of_ble_eq_true rfl) ?_
          have c9 := mt (nx_eq hT2 (s := 33) (by decide)).mpr c_11
          have c8 := mt (nx_eq hT2 (s := 40) (by decide)).mpr c_52
          have e9 : pF T (d + 1) a = pTest T a := by rw [pF, if_neg c9, if_neg c8]
          rw [e9]
          exact ⟨rfl, rfl, rfl, pt1, pf1⟩
        · refine ax_aload_n (i := 0) dX4_takeFactor_55 rfl rfl ?_
          refine ax_dup dX4_takeFactor_56 rfl ?_
          refine ax_getI dX4_takeFactor_57 fl_X4_19 rfl (OKs hZ rfl) ?_
          refine ax_iconst (v := 1) dX4_takeFactor_60 (by decide) ?_
          refine ax_iadd dX4_takeFactor_61 ?_
          refine ax_putI dX4_takeFactor_62 fl_X4_19 (Or.inl fp_X4_4_4) rfl rfl rfl (OKs hZ rfl) ?_
          have hl1 : a < T.1 := chT_lt ((nx_eq hT2 (s := 40) (by decide)).mp c_52) (by decide)
          refine ax_gen (fun G => RS G0 G (a + 1) ss x) (RS_at hp (by rw [hp.1]; exact nI_1 a)) (fun G5 hp1 => ?_)
          refine ax_aload_n (i := 0) dX4_takeFactor_65 rfl rfl ?_
          refine ax_iload_n (i := 1) dX4_takeFactor_66 rfl rfl ?_
          refine ax_iconst (v := 1) dX4_takeFactor_67 (by decide) ?_
          refine ax_iadd dX4_takeFactor_68 ?_
          refine ax_top (congrArg Value.int (nI_1 dep)) ?_
          refine ax_cVq dX4_takeFactor_69 lk_X4_71 (hE _ (a + 1) ss hp1 hl1 (by omega)) rfl (OKs hZ rfl) ⟨_, rfl, rfl⟩ rfl (Nat.le_of_ble_eq_true rfl) (by omega) (Nat.le_of_ble_eq_true rfl) (Nat.le_of_ble_eq_true rfl) ?_
          rintro _ G1 _ ⟨rfl, rfl, pt1, pf1⟩
          refine ax_if_eq (tgt := 88) dX4_takeFactor_72 (by decide) (fun c_72 => ?_) (fun c_72 => ?_)
          · refine ax_iconst (v := 0) dX4_takeFactor_88 (by decide) ?_
            refine ax_iret dX4_takeFactor_89 rfl rfl (Nat.le_of_ble_eq_true rfl) (Nat.le_of_ble_eq_true rfl) ?_
            have c9 := mt (nx_eq hT2 (s := 33) (by decide)).mpr c_11
            have c8 := (nx_eq hT2 (s := 40) (by decide)).mp c_52
            have e9 : pF T (d + 1) a = (false, (pE (pF T d) T 101 (a + 1)).2.1, []) := by rw [pF, if_neg c9, if_pos c8, if_neg (by rw [bI_f c_72]; decide)]
            rw [e9]
            exact ⟨rfl, rfl, rfl, fun z => Bool.noConfusion z, fun _ => pf1 (bI_f c_72)⟩
          · have cf := bI_t c_72
            have pt1 := pt1 cf
            obtain ⟨f1, f2⟩ := pE_ok (pF_ok T d) 101 (a + 1) hl1
            obtain ⟨f3, f4⟩ := f2 cf
            refine ax_aload_n (i := 0) dX4_takeFactor_75 rfl rfl ?_
            refine ax_bipush (v := 41) dX4_takeFactor_76 (by decide) ?_
            refine ax_cVq dX4_takeFactor_78 lk_X4_36 (n_take hZ hT hT1 hT2 pt1 f1 41 (by decide)) rfl (OKs hZ rfl) ⟨_, rfl, rfl⟩ rfl (Nat.le_of_ble_eq_true rfl) (by omega) (Nat.le_of_ble_eq_true rfl) (Nat.le_of_ble_eq_true rfl) ?_
            rintro _ G2 _ ⟨rfl, rfl, p2⟩
            refine ax_if_eq (tgt := 88) dX4_takeFactor_81 (by decide) (fun c_81 => ?_) (fun c_81 => ?_)
            · refine ax_iconst (v := 0) dX4_takeFactor_88 (by decide) ?_
              refine ax_iret dX4_takeFactor_89 rfl rfl (Nat.le_of_ble_eq_true rfl) (Nat.le_of_ble_eq_true rfl) ?_
              have c9 := mt (nx_eq hT2 (s := 33) (by decide)).mpr c_11
              have c8 := (nx_eq hT2 (s := 40) (by decide)).mp c_52
              have c7 := bI_n c_81
              rw [if_neg c7] at p2
              have e9 : pF T (d + 1) a = (false, (pE (pF T d) T 101 (a + 1)).2.1, []) := by rw [pF, if_neg c9, if_pos c8, if_pos cf, if_neg c7]
              rw [e9]
              exact ⟨rfl, rfl, rfl, fun z => Bool.noConfusion z, fun _ => ⟨_, by rw [len_m]; omega, p2⟩⟩
            · refine ax_iconst (v := 1) dX4_takeFactor_84 (by decide) ?_
              refine ax_goto (tgt := 89) dX4_takeFactor_85 (by decide) ?_
              refine ax_iret dX4_takeFactor_89 rfl rfl (Nat.le_of_ble_eq_true rfl) (Nat.le_of_ble_eq_true rfl) ?_
              have c9 := mt (nx_eq hT2 (s := 33) (by decide)).mpr c_11
              have c8 := (nx_eq hT2 (s := 40) (by decide)).mp c_52
              have c7 := bI_y c_81
              rw [if_pos c7] at p2
              have e9 : pF T (d + 1) a = (true, (pE (pF T d) T 101 (a + 1)).2.1 + 1, (pE (pF T d) T 101 (a + 1)).2.2) := by rw [pF, if_neg c9, if_pos c8, if_pos cf, if_pos c7]
              rw [e9]
              exact ⟨rfl, rfl, rfl, fun _ => p2, fun z => Bool.noConfusion z⟩
    · refine ax_aload_n (i := 0) dX4_takeFactor_14 rfl rfl ?_
      refine ax_dup dX4_takeFactor_15 rfl ?_
      refine ax_getI dX4_takeFactor_16 fl_X4_19 rfl (OKs hZ rfl) ?_
      refine ax_iconst (v := 1) dX4_takeFactor_19 (by decide) ?_
      refine ax_iadd dX4_takeFactor_20 ?_
      refine ax_putI dX4_takeFactor_21 fl_X4_19 (Or.inl fp_X4_4_4) rfl rfl rfl (OKs hZ rfl) ?_
      have hl1 : a < T.1 := chT_lt ((nx_eq hT2 (s := 33) (by decide)).mp c_11) (by decide)
      refine ax_gen (fun G => RS G0 G (a + 1) ss x) (RS_at hp (by rw [hp.1]; exact nI_1 a)) (fun G5 hp1 => ?_)
      refine ax_aload_n (i := 0) dX4_takeFactor_24 rfl rfl ?_
      refine ax_iload_n (i := 1) dX4_takeFactor_25 rfl rfl ?_
      refine ax_iconst (v := 1) dX4_takeFactor_26 (by decide) ?_
      refine ax_iadd dX4_takeFactor_27 ?_
      refine ax_top (congrArg Value.int (nI_1 dep)) ?_
      refine ax_cVq dX4_takeFactor_28 lk_X4_78 (hF _ (a + 1) ss hp1 hl1 (by omega)) rfl (OKs hZ rfl) ⟨_, rfl, rfl⟩ rfl (Nat.le_of_ble_eq_true rfl) (by omega) (Nat.le_of_ble_eq_true rfl) (Nat.le_of_ble_eq_true rfl) ?_
      rintro _ G1 _ ⟨rfl, rfl, pt1, pf1⟩
      refine ax_istore_n (i := 2) dX4_takeFactor_31 rfl (by decide) rfl ?_
      have hl9 : (pF T d (a + 1)).1 = true → (ss ++ (pF T d (a + 1)).2.2.map tokS).length < 100 := fun z => by
        obtain ⟨f1, f2⟩ := pF_ok T d (a + 1) hl1
        obtain ⟨f3, f4⟩ := f2 z
        rw [len_m]; omega
      refine ax_aload_n (i := 0) dX4_takeFactor_32 rfl rfl ?_
      refine ax_iconst (v := 3) dX4_takeFactor_33 (by decide) ?_
      refine ax_iconst (v := 0) dX4_takeFactor_34 (by decide) ?_
      refine ax_iconst (v := 0) dX4_takeFactor_35 (by decide) ?_
      refine ax_cVq0 dX4_takeFactor_36 lk_X4_74 (n_addx hZ pt1 pf1 hl9 3 0 0) rfl (OKs hZ rfl) ⟨_, rfl, rfl⟩ rfl (Nat.le_of_ble_eq_true rfl) (by omega) (Nat.le_of_ble_eq_true rfl) (Nat.le_of_ble_eq_true rfl) ?_
      rintro _ G2 _ ⟨rfl, rfl, pt2, pf2⟩
      refine ax_iload_n (i := 2) dX4_takeFactor_39 rfl rfl ?_
      refine ax_iret dX4_takeFactor_40 rfl nb_bI (Nat.le_of_ble_eq_true rfl) (Nat.le_of_ble_eq_true rfl) ?_
      have c9 := (nx_eq hT2 (s := 33) (by decide)).mp c_11
      cases e : (pF T d (a + 1)).1 with
      | true =>
        have e9 : pF T (d + 1) a = (true, (pF T d (a + 1)).2.1, (pF T d (a + 1)).2.2 ++ [0]) := by rw [pF, if_pos c9, if_pos e]
        rw [e9]
        exact ⟨rfl, rfl, rfl, fun _ => by show RS G0 _ _ (ss ++ ((pF T d (a + 1)).2.2 ++ [0]).map tokS) x; rw [List.map_append, ← List.append_assoc]; exact pt2 e, fun z => Bool.noConfusion z⟩
      | false =>
        have e9 : pF T (d + 1) a = (false, (pF T d (a + 1)).2.1, []) := by rw [pF, if_pos c9, if_neg (by rw [e]; decide)]
        rw [e9]
        exact ⟨rfl, rfl, rfl, fun z => Bool.noConfusion z, fun _ => pf2 e⟩
theorem n_either0 {Z : Zt} {L : Lt} (hZ : OK Z) {G0 : Gt} {T : Nat × (Nat → Nat)} (hT : imTc G0 T) (hT1 : T.1 ≤ 100) (hT2 : ∀ i, i < T.1 → T.2 i < 128) {x : Int32} : PCc mX4_takeEither Z L G0 T 16 x 0 (pE (pF T 4) T 101) := by
  have go : ∀ d o D, 6 ≤ D → PCc mX4_takeFactor Z L G0 T D x o (pF T d) → PCc mX4_takeEither Z L G0 T (D + 1) x o (pE (pF T d) T 101) := fun d o D hD h => n_either hZ hT hT1 hT2 (by omega) h (pF_ok T d)
  have f0 := n_factor4 (L := L) hZ hT hT1 hT2 (x := x)
  have f1 := n_factor hZ hT hT1 hT2 (dep := 3) (by decide) (by decide) f0 (go 0 4 7 (by decide) f0)
  have f2 := n_factor hZ hT hT1 hT2 (dep := 2) (by decide) (by decide) f1 (go 1 3 9 (by decide) f1)
  have f3 := n_factor hZ hT hT1 hT2 (dep := 1) (by decide) (by decide) f2 (go 2 2 11 (by decide) f2)
  have f4 := n_factor hZ hT hT1 hT2 (dep := 0) (by decide) (by decide) f3 (go 3 1 13 (by decide) f3)
  exact go 4 0 15 (by decide) f4
