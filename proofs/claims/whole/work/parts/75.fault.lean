-- ===== the class reads: clauses, a show =====
theorem hw_ry : ∀ j, j < [114, 121, 32].length → sB 1 j = nI ([114, 121, 32].getD j 0) ∧ [114, 121, 32].getD j 0 < 128 := by decide +kernel
theorem hw_im : ∀ j, j < [105, 109, 32].length → sB 2 j = nI ([105, 109, 32].getD j 0) ∧ [105, 109, 32].getD j 0 < 128 := by decide +kernel
theorem all_dr {T : Nat × (Nat → Nat)} {a : Nat} (h : chT T a = 100) : pAll T wDr a = pAll T [114, 121, 32] (a + 1) := by unfold wDr; rw [pAll, if_pos h]
theorem all_di {T : Nat × (Nat → Nat)} {a : Nat} (h : chT T a = 100) : pAll T wDi a = pAll T [105, 109, 32] (a + 1) := by unfold wDi; rw [pAll, if_pos h]
theorem n_clause {Z : Zt} {G : Gt} {L : Lt} (hZ : OK Z) {G0 : Gt} {T : Nat × (Nat → Nat)} (hT : imTc G0 T) (hT1 : T.1 ≤ 100) (hT2 : ∀ i, i < T.1 → T.2 i < 128) {a : Nat} {ss : List St} {x : Int32} (hp : RS G0 G a ss x) (ha : a ≤ T.1) (hlen : ss.length ≤ a) : AC mX4_takeClause 17 0 0 [.ref 1] Z G L (RP (.int (bI (pCl T a).1)) (fun Z' G' L' => Z' = Z ∧ L' = L ∧ ((pCl T a).1 = true → RS G0 G' (pCl T a).2.1 (ss ++ stepsC (pCl T a).2.2) (if (pCl T a).2.2.1 = 2 then nI (pCl T a).2.2.2.1 else x)) ∧ ((pCl T a).1 = false → ∃ x', RSx G0 G' (pCl T a).2.1 x'))) := by
  refine AC.intro (by decide +kernel) (Nat.le_of_ble_eq_true rfl) ?_
  refine ax_lv [(0, .ref 1)] ⟨rfl, trivial⟩ ?_
  refine ax_bipush (v := 6) dX4_takeClause_0 (by decide) ?_
  refine ax_istore_n (i := 1) dX4_takeClause_2 rfl (by decide) rfl ?_
  refine ax_aload_n (i := 0) dX4_takeClause_3 rfl rfl ?_
  refine ax_cVv dX4_takeClause_4 lk_X4_51 (n_next hZ hT hT1 hT2 hp ha) rfl (OKs hZ rfl) ⟨_, rfl, rfl⟩ rfl (Nat.le_of_ble_eq_true rfl) (Nat.le_of_ble_eq_true rfl) (Nat.le_of_ble_eq_true rfl) (Nat.le_of_ble_eq_true rfl) ?_
  refine ax_bipush (v := 98) dX4_takeClause_7 (by decide) ?_
  refine ax_icmp_ne (tgt := 23) dX4_takeClause_9 (by decide) (fun c_9 => ?_) (fun c_9 => ?_)
  · refine ax_aload_n (i := 0) dX4_takeClause_23 rfl rfl ?_
    refine ax_bipush (v := 100) dX4_takeClause_24 (by decide) ?_
    refine ax_cVq dX4_takeClause_26 lk_X4_36 (n_take hZ hT hT1 hT2 hp ha 100 (by decide)) rfl (OKs hZ rfl) ⟨_, rfl, rfl⟩ rfl (Nat.le_of_ble_eq_true rfl) (Nat.le_of_ble_eq_true rfl) (Nat.le_of_ble_eq_true rfl) (Nat.le_of_ble_eq_true rfl) ?_
    rintro _ G1 _ ⟨rfl, rfl, p1⟩
    refine ax_if_ne (tgt := 34) dX4_takeClause_29 (by decide) (fun c_29 => ?_) (fun c_29 => ?_)
    · have ed := bI_y c_29
      rw [if_pos ed] at p1
      have hl : a < T.1 := chT_lt ed (by decide)
      refine ax_aload_n (i := 0) dX4_takeClause_34 rfl rfl ?_
      refine ax_cVv dX4_takeClause_35 lk_X4_51 (n_next hZ hT hT1 hT2 p1 hl) rfl (OKs hZ rfl) ⟨_, rfl, rfl⟩ rfl (Nat.le_of_ble_eq_true rfl) (Nat.le_of_ble_eq_true rfl) (Nat.le_of_ble_eq_true rfl) (Nat.le_of_ble_eq_true rfl) ?_
      refine ax_bipush (v := 114) dX4_takeClause_38 (by decide) ?_
      refine ax_icmp_ne (tgt := 75) dX4_takeClause_40 (by decide) (fun c_40 => ?_) (fun c_40 => ?_)
      · refine ax_aload_n (i := 0) dX4_takeClause_75 rfl rfl ?_
        refine ax_ldcS (i := 2) (tx := "im ") dX4_takeClause_76 (by decide) ?_
        refine ax_cVq dX4_takeClause_78 lk_X4_57 (n_all hZ hT hT1 hT2 (i := 2) (by decide) [105, 109, 32] rfl hw_im p1 hl) rfl (OKs hZ rfl) ⟨_, rfl, rfl⟩ rfl (Nat.le_of_ble_eq_true rfl) (Nat.le_of_ble_eq_true rfl) (Nat.le_of_ble_eq_true rfl) (Nat.le_of_ble_eq_true rfl) ?_
        rintro _ G2 _ ⟨rfl, rfl, p2⟩
        refine ax_if_ne (tgt := 86) dX4_takeClause_81 (by decide) (fun c_81 => ?_) (fun c_81 => ?_)
        · refine ax_bipush (v := 7) dX4_takeClause_86 (by decide) ?_
          refine ax_istore_n (i := 1) dX4_takeClause_88 rfl (by decide) rfl ?_
          obtain ⟨q1, q2, q3⟩ := pAll_ok [105, 109, 32] (a + 1) (by decide) hl
          have s1 := bI_t c_81
          have q4 := q3 s1
          have hnl := nmC_le (T := T) q2
          refine ax_aload_n (i := 0) dX4_takeClause_89 rfl rfl ?_
          refine ax_cVq dX4_takeClause_90 lk_X4_63 (n_num hZ hT hT1 hT2 p2 q2) rfl (OKs hZ rfl) ⟨_, rfl, rfl⟩ rfl (Nat.le_of_ble_eq_true rfl) (Nat.le_of_ble_eq_true rfl) (Nat.le_of_ble_eq_true rfl) (Nat.le_of_ble_eq_true rfl) ?_
          rintro _ G3 _ ⟨rfl, rfl, p3, v3⟩
          refine ax_if_ne (tgt := 98) dX4_takeClause_93 (by decide) (fun c_93 => ?_) (fun c_93 => ?_)
          · refine ax_aload_n (i := 0) dX4_takeClause_98 rfl rfl ?_
            refine ax_getI dX4_takeClause_99 fl_X4_66 rfl (OKs hZ rfl) ?_
            refine ax_top (congrArg Value.int v3) ?_
            refine ax_istore_n (i := 2) dX4_takeClause_102 rfl (by decide) rfl ?_
            refine ax_aload_n (i := 0) dX4_takeClause_103 rfl rfl ?_
            refine ax_bipush (v := 32) dX4_takeClause_104 (by decide) ?_
            refine ax_cVq dX4_takeClause_106 lk_X4_36 (n_take hZ hT hT1 hT2 p3 hnl 32 (by decide)) rfl (OKs hZ rfl) ⟨_, rfl, rfl⟩ rfl (Nat.le_of_ble_eq_true rfl) (Nat.le_of_ble_eq_true rfl) (Nat.le_of_ble_eq_true rfl) (Nat.le_of_ble_eq_true rfl) ?_
            rintro _ G4 _ ⟨rfl, rfl, p4⟩
            refine ax_if_eq (tgt := 120) dX4_takeClause_109 (by decide) (fun c_109 => ?_) (fun c_109 => ?_)
            · refine ax_iconst (v := 0) dX4_takeClause_120 (by decide) ?_
              refine ax_iret dX4_takeClause_121 rfl rfl (Nat.le_of_ble_eq_true rfl) (Nat.le_of_ble_eq_true rfl) ?_
              have nb : ¬ chT T a = 98 := mt (nx_eq hT2 (s := 98) (by decide)).mpr c_9
              have er : ¬ chT T (a + 1) = 114 := mt (nx_eq hT2 (s := 114) (by decide)).mpr c_40
              have e8 : pCl T a = pCw T 1 (pAll T [105, 109, 32] (a + 1)) := by rw [pCl_i ed er, all_di ed]
              have s1 := bI_t c_81
              have n0 : ¬ nmC T (pAll T [105, 109, 32] (a + 1)).2 = 0 := by have := bI_y c_93; omega
              have e7 : pCl T a = pCe T 1 (nmV T (pAll T [105, 109, 32] (a + 1)).2) ((pAll T [105, 109, 32] (a + 1)).2 + nmC T (pAll T [105, 109, 32] (a + 1)).2) := by rw [e8, pCw_e (by decide) s1 n0]
              have cb := bI_n c_109
              have e9 : pCl T a = (false, ((pAll T [105, 109, 32] (a + 1)).2 + nmC T (pAll T [105, 109, 32] (a + 1)).2), c0) := by rw [e7]; unfold pCe; rw [if_neg cb]
              rw [if_neg cb] at p4
              rw [e9]
              exact ⟨rfl, rfl, rfl, fun z => Bool.noConfusion z, fun _ => ⟨_, ss, by omega, p4⟩⟩
            · have cb := bI_y c_109
              rw [if_pos cb] at p4
              have hl3 := chT_lt cb (by decide)
              refine ax_aload_n (i := 0) dX4_takeClause_112 rfl rfl ?_
              refine ax_iconst (v := 0) dX4_takeClause_113 (by decide) ?_
              refine ax_cVq dX4_takeClause_114 lk_X4_71 (n_either0 hZ hT hT1 hT2 _ (((pAll T [105, 109, 32] (a + 1)).2 + nmC T (pAll T [105, 109, 32] (a + 1)).2) + 1) ss p4 hl3 (by omega)) rfl (OKs hZ rfl) ⟨_, rfl, rfl⟩ rfl (Nat.le_of_ble_eq_true rfl) (Nat.le_of_ble_eq_true rfl) (Nat.le_of_ble_eq_true rfl) (Nat.le_of_ble_eq_true rfl) ?_
              rintro _ G5 _ ⟨rfl, rfl, pt5, pf5⟩
              refine ax_if_ne (tgt := 122) dX4_takeClause_117 (by decide) (fun c_117 => ?_) (fun c_117 => ?_)
              · have cf := bI_t c_117
                have pt5 := pt5 cf
                obtain ⟨f1, f2⟩ := pE_ok (pF_ok T 4) 101 (((pAll T [105, 109, 32] (a + 1)).2 + nmC T (pAll T [105, 109, 32] (a + 1)).2) + 1) hl3
                obtain ⟨f3, f4⟩ := f2 cf
                refine ax_aload_n (i := 0) dX4_takeClause_122 rfl rfl ?_
                refine ax_iload_n (i := 1) dX4_takeClause_123 rfl rfl ?_
                refine ax_iload_n (i := 2) dX4_takeClause_124 rfl rfl ?_
                refine ax_iconst (v := 0) dX4_takeClause_125 (by decide) ?_
                refine ax_cVq0 dX4_takeClause_126 lk_X4_74 (n_add hZ pt5 (by rw [len_m]; omega) 7 (nmV T (pAll T [105, 109, 32] (a + 1)).2) 0) rfl (OKs hZ rfl) ⟨_, rfl, rfl⟩ rfl (Nat.le_of_ble_eq_true rfl) (Nat.le_of_ble_eq_true rfl) (Nat.le_of_ble_eq_true rfl) (Nat.le_of_ble_eq_true rfl) ?_
                rintro _ G6 _ ⟨rfl, rfl, p6⟩
                refine ax_iconst (v := 1) dX4_takeClause_129 (by decide) ?_
                refine ax_iret dX4_takeClause_130 rfl rfl (Nat.le_of_ble_eq_true rfl) (Nat.le_of_ble_eq_true rfl) ?_
                have nb : ¬ chT T a = 98 := mt (nx_eq hT2 (s := 98) (by decide)).mpr c_9
                have er : ¬ chT T (a + 1) = 114 := mt (nx_eq hT2 (s := 114) (by decide)).mpr c_40
                have e8 : pCl T a = pCw T 1 (pAll T [105, 109, 32] (a + 1)) := by rw [pCl_i ed er, all_di ed]
                have s1 := bI_t c_81
                have n0 : ¬ nmC T (pAll T [105, 109, 32] (a + 1)).2 = 0 := by have := bI_y c_93; omega
                have e7 : pCl T a = pCe T 1 (nmV T (pAll T [105, 109, 32] (a + 1)).2) ((pAll T [105, 109, 32] (a + 1)).2 + nmC T (pAll T [105, 109, 32] (a + 1)).2) := by rw [e8, pCw_e (by decide) s1 n0]
                have cb := bI_y c_109
                have e9 : pCl T a = (true, (pE (pF T 4) T 101 (((pAll T [105, 109, 32] (a + 1)).2 + nmC T (pAll T [105, 109, 32] (a + 1)).2) + 1)).2.1, (1, nmV T (pAll T [105, 109, 32] (a + 1)).2, (pE (pF T 4) T 101 (((pAll T [105, 109, 32] (a + 1)).2 + nmC T (pAll T [105, 109, 32] (a + 1)).2) + 1)).2.2)) := by rw [e7]; unfold pCe; rw [if_pos cb, if_pos cf]
                rw [e9]
                rw [if_pos (by rw [len_m]; omega), List.append_assoc] at p6
                exact ⟨rfl, rfl, rfl, fun _ => p6, fun z => Bool.noConfusion z⟩
              · refine ax_iconst (v := 0) dX4_takeClause_120 (by decide) ?_
                refine ax_iret dX4_takeClause_121 rfl rfl (Nat.le_of_ble_eq_true rfl) (Nat.le_of_ble_eq_true rfl) ?_
                have nb : ¬ chT T a = 98 := mt (nx_eq hT2 (s := 98) (by decide)).mpr c_9
                have er : ¬ chT T (a + 1) = 114 := mt (nx_eq hT2 (s := 114) (by decide)).mpr c_40
                have e8 : pCl T a = pCw T 1 (pAll T [105, 109, 32] (a + 1)) := by rw [pCl_i ed er, all_di ed]
                have s1 := bI_t c_81
                have n0 : ¬ nmC T (pAll T [105, 109, 32] (a + 1)).2 = 0 := by have := bI_y c_93; omega
                have e7 : pCl T a = pCe T 1 (nmV T (pAll T [105, 109, 32] (a + 1)).2) ((pAll T [105, 109, 32] (a + 1)).2 + nmC T (pAll T [105, 109, 32] (a + 1)).2) := by rw [e8, pCw_e (by decide) s1 n0]
                have cb := bI_y c_109
                have e9 : pCl T a = (false, (pE (pF T 4) T 101 (((pAll T [105, 109, 32] (a + 1)).2 + nmC T (pAll T [105, 109, 32] (a + 1)).2) + 1)).2.1, c0) := by rw [e7]; unfold pCe; rw [if_pos cb, if_neg (by rw [bI_f c_117]; decide)]
                rw [e9]
                exact ⟨rfl, rfl, rfl, fun z => Bool.noConfusion z, fun _ => ⟨_, pf5 (bI_f c_117)⟩⟩
          · refine ax_iconst (v := 0) dX4_takeClause_96 (by decide) ?_
            refine ax_iret dX4_takeClause_97 rfl rfl (Nat.le_of_ble_eq_true rfl) (Nat.le_of_ble_eq_true rfl) ?_
            have nb : ¬ chT T a = 98 := mt (nx_eq hT2 (s := 98) (by decide)).mpr c_9
            have er : ¬ chT T (a + 1) = 114 := mt (nx_eq hT2 (s := 114) (by decide)).mpr c_40
            have e8 : pCl T a = pCw T 1 (pAll T [105, 109, 32] (a + 1)) := by rw [pCl_i ed er, all_di ed]
            have s1 := bI_t c_81
            have n0 : nmC T (pAll T [105, 109, 32] (a + 1)).2 = 0 := by have := bI_n c_93; omega
            have e9 : pCl T a = (false, (pAll T [105, 109, 32] (a + 1)).2, c0) := by rw [e8, pCw_0 s1 n0]
            rw [n0] at p3
            rw [e9]
            exact ⟨rfl, rfl, rfl, fun z => Bool.noConfusion z, fun _ => ⟨_, ss, by omega, p3⟩⟩
        · refine ax_iconst (v := 0) dX4_takeClause_84 (by decide) ?_
          refine ax_iret dX4_takeClause_85 rfl rfl (Nat.le_of_ble_eq_true rfl) (Nat.le_of_ble_eq_true rfl) ?_
          have nb : ¬ chT T a = 98 := mt (nx_eq hT2 (s := 98) (by decide)).mpr c_9
          have er : ¬ chT T (a + 1) = 114 := mt (nx_eq hT2 (s := 114) (by decide)).mpr c_40
          have e8 : pCl T a = pCw T 1 (pAll T [105, 109, 32] (a + 1)) := by rw [pCl_i ed er, all_di ed]
          have e9 : pCl T a = (false, (pAll T [105, 109, 32] (a + 1)).2, c0) := by rw [e8, pCw_f (bI_f c_81)]
          rw [e9]
          exact ⟨rfl, rfl, rfl, fun z => Bool.noConfusion z, fun _ => ⟨_, ss, by omega, p2⟩⟩
      · refine ax_aload_n (i := 0) dX4_takeClause_43 rfl rfl ?_
        refine ax_ldcS (i := 1) (tx := "ry ") dX4_takeClause_44 (by decide) ?_
        refine ax_cVq dX4_takeClause_46 lk_X4_57 (n_all hZ hT hT1 hT2 (i := 1) (by decide) [114, 121, 32] rfl hw_ry p1 hl) rfl (OKs hZ rfl) ⟨_, rfl, rfl⟩ rfl (Nat.le_of_ble_eq_true rfl) (Nat.le_of_ble_eq_true rfl) (Nat.le_of_ble_eq_true rfl) (Nat.le_of_ble_eq_true rfl) ?_
        rintro _ G2 _ ⟨rfl, rfl, p2⟩
        refine ax_if_eq (tgt := 63) dX4_takeClause_49 (by decide) (fun c_49 => ?_) (fun c_49 => ?_)
        · refine ax_iconst (v := 0) dX4_takeClause_63 (by decide) ?_
          refine ax_istore_n (i := 2) dX4_takeClause_64 rfl (by decide) rfl ?_
          refine ax_aload_n (i := 0) dX4_takeClause_65 rfl rfl ?_
          refine ax_aload_n (i := 0) dX4_takeClause_66 rfl rfl ?_
          refine ax_getI dX4_takeClause_67 fl_X4_66 rfl (OKs hZ rfl) ?_
          refine ax_putI dX4_takeClause_70 fl_X4_26 (Or.inl fp_X4_4_6) rfl rfl rfl (OKs hZ rfl) ?_
          refine ax_iload_n (i := 2) dX4_takeClause_73 rfl rfl ?_
          refine ax_iret dX4_takeClause_74 rfl rfl (Nat.le_of_ble_eq_true rfl) (Nat.le_of_ble_eq_true rfl) ?_
          have nb : ¬ chT T a = 98 := mt (nx_eq hT2 (s := 98) (by decide)).mpr c_9
          have er : chT T (a + 1) = 114 := (nx_eq hT2 (by decide)).mp c_40
          have e8 : pCl T a = pCw T 2 (pAll T [114, 121, 32] (a + 1)) := by rw [pCl_r ed er, all_dr ed]
          have e9 : pCl T a = (false, (pAll T [114, 121, 32] (a + 1)).2, c0) := by rw [e8, pCw_f (bI_f c_49)]
          rw [e9]
          exact ⟨rfl, rfl, rfl, fun z => Bool.noConfusion z, fun _ => ⟨_, ss, by omega, RS_dr p2⟩⟩
        · obtain ⟨q1, q2, q3⟩ := pAll_ok [114, 121, 32] (a + 1) (by decide) hl
          have s1 := bI_t c_49
          have q4 := q3 s1
          have hnl := nmC_le (T := T) q2
          refine ax_aload_n (i := 0) dX4_takeClause_52 rfl rfl ?_
          refine ax_cVq dX4_takeClause_53 lk_X4_63 (n_num hZ hT hT1 hT2 p2 q2) rfl (OKs hZ rfl) ⟨_, rfl, rfl⟩ rfl (Nat.le_of_ble_eq_true rfl) (Nat.le_of_ble_eq_true rfl) (Nat.le_of_ble_eq_true rfl) (Nat.le_of_ble_eq_true rfl) ?_
          rintro _ G3 _ ⟨rfl, rfl, p3, v3⟩
          refine ax_if_eq (tgt := 63) dX4_takeClause_56 (by decide) (fun c_56 => ?_) (fun c_56 => ?_)
          · refine ax_iconst (v := 0) dX4_takeClause_63 (by decide) ?_
            refine ax_istore_n (i := 2) dX4_takeClause_64 rfl (by decide) rfl ?_
            refine ax_aload_n (i := 0) dX4_takeClause_65 rfl rfl ?_
            refine ax_aload_n (i := 0) dX4_takeClause_66 rfl rfl ?_
            refine ax_getI dX4_takeClause_67 fl_X4_66 rfl (OKs hZ rfl) ?_
            refine ax_putI dX4_takeClause_70 fl_X4_26 (Or.inl fp_X4_4_6) rfl rfl rfl (OKs hZ rfl) ?_
            refine ax_iload_n (i := 2) dX4_takeClause_73 rfl rfl ?_
            refine ax_iret dX4_takeClause_74 rfl rfl (Nat.le_of_ble_eq_true rfl) (Nat.le_of_ble_eq_true rfl) ?_
            have nb : ¬ chT T a = 98 := mt (nx_eq hT2 (s := 98) (by decide)).mpr c_9
            have er : chT T (a + 1) = 114 := (nx_eq hT2 (by decide)).mp c_40
            have e8 : pCl T a = pCw T 2 (pAll T [114, 121, 32] (a + 1)) := by rw [pCl_r ed er, all_dr ed]
            have s1 := bI_t c_49
            have n0 : nmC T (pAll T [114, 121, 32] (a + 1)).2 = 0 := by have := bI_n c_56; omega
            have e9 : pCl T a = (false, (pAll T [114, 121, 32] (a + 1)).2, c0) := by rw [e8, pCw_0 s1 n0]
            rw [n0] at p3
            rw [e9]
            exact ⟨rfl, rfl, rfl, fun z => Bool.noConfusion z, fun _ => ⟨_, ss, by omega, RS_dr p3⟩⟩
          · refine ax_iconst (v := 1) dX4_takeClause_59 (by decide) ?_
            refine ax_goto (tgt := 64) dX4_takeClause_60 (by decide) ?_
            refine ax_istore_n (i := 2) dX4_takeClause_64 rfl (by decide) rfl ?_
            refine ax_aload_n (i := 0) dX4_takeClause_65 rfl rfl ?_
            refine ax_aload_n (i := 0) dX4_takeClause_66 rfl rfl ?_
            refine ax_getI dX4_takeClause_67 fl_X4_66 rfl (OKs hZ rfl) ?_
            refine ax_putI dX4_takeClause_70 fl_X4_26 (Or.inl fp_X4_4_6) rfl rfl rfl (OKs hZ rfl) ?_
            refine ax_iload_n (i := 2) dX4_takeClause_73 rfl rfl ?_
            refine ax_iret dX4_takeClause_74 rfl rfl (Nat.le_of_ble_eq_true rfl) (Nat.le_of_ble_eq_true rfl) ?_
            have nb : ¬ chT T a = 98 := mt (nx_eq hT2 (s := 98) (by decide)).mpr c_9
            have er : chT T (a + 1) = 114 := (nx_eq hT2 (by decide)).mp c_40
            have e8 : pCl T a = pCw T 2 (pAll T [114, 121, 32] (a + 1)) := by rw [pCl_r ed er, all_dr ed]
            have s1 := bI_t c_49
            have n0 : ¬ nmC T (pAll T [114, 121, 32] (a + 1)).2 = 0 := by have := bI_y c_56; omega
            have e9 : pCl T a = (true, (pAll T [114, 121, 32] (a + 1)).2 + nmC T (pAll T [114, 121, 32] (a + 1)).2, (2, nmV T (pAll T [114, 121, 32] (a + 1)).2, [])) := by rw [e8, pCw_2 s1 n0]
            rw [e9]
            have q9 := RS_dr (v := nI (nmV T (pAll T [114, 121, 32] (a + 1)).2)) p3
            rw [← v3] at q9
            exact ⟨rfl, rfl, rfl, fun _ => by show RS G0 _ _ (ss ++ []) (nI (nmV T (pAll T [114, 121, 32] (a + 1)).2)); rw [List.append_nil, ← v3]; exact q9, fun z => Bool.noConfusion z⟩
    · refine ax_iconst (v := 0) dX4_takeClause_32 (by decide) ?_
      refine ax_iret dX4_takeClause_33 rfl rfl (Nat.le_of_ble_eq_true rfl) (Nat.le_of_ble_eq_true rfl) ?_
      have nb : ¬ chT T a = 98 := mt (nx_eq hT2 (s := 98) (by decide)).mpr c_9
      have nd := bI_n c_29
      have e9 : pCl T a = (false, a, c0) := pCl_n nb nd
      rw [if_neg nd] at p1
      rw [e9]
      exact ⟨rfl, rfl, rfl, fun z => Bool.noConfusion z, fun _ => ⟨_, ss, by omega, p1⟩⟩
  · refine ax_aload_n (i := 0) dX4_takeClause_12 rfl rfl ?_
    refine ax_ldcS (i := 0) (tx := "bright ") dX4_takeClause_13 (by decide) ?_
    refine ax_cVq dX4_takeClause_15 lk_X4_57 (n_all hZ hT hT1 hT2 (i := 0) (by decide) wBr rfl hw_br hp ha) rfl (OKs hZ rfl) ⟨_, rfl, rfl⟩ rfl (Nat.le_of_ble_eq_true rfl) (Nat.le_of_ble_eq_true rfl) (Nat.le_of_ble_eq_true rfl) (Nat.le_of_ble_eq_true rfl) ?_
    rintro _ G1 _ ⟨rfl, rfl, p1⟩
    refine ax_if_ne (tgt := 89) dX4_takeClause_18 (by decide) (fun c_18 => ?_) (fun c_18 => ?_)
    · obtain ⟨q1, q2, q3⟩ := pAll_ok wBr a (by decide) ha
      have s1 := bI_t c_18
      have q4 := q3 s1
      have hnl := nmC_le (T := T) q2
      refine ax_aload_n (i := 0) dX4_takeClause_89 rfl rfl ?_
      refine ax_cVq dX4_takeClause_90 lk_X4_63 (n_num hZ hT hT1 hT2 p1 q2) rfl (OKs hZ rfl) ⟨_, rfl, rfl⟩ rfl (Nat.le_of_ble_eq_true rfl) (Nat.le_of_ble_eq_true rfl) (Nat.le_of_ble_eq_true rfl) (Nat.le_of_ble_eq_true rfl) ?_
      rintro _ G2 _ ⟨rfl, rfl, p2, v2⟩
      refine ax_if_ne (tgt := 98) dX4_takeClause_93 (by decide) (fun c_93 => ?_) (fun c_93 => ?_)
      · refine ax_aload_n (i := 0) dX4_takeClause_98 rfl rfl ?_
        refine ax_getI dX4_takeClause_99 fl_X4_66 rfl (OKs hZ rfl) ?_
        refine ax_top (congrArg Value.int v2) ?_
        refine ax_istore_n (i := 2) dX4_takeClause_102 rfl (by decide) rfl ?_
        refine ax_aload_n (i := 0) dX4_takeClause_103 rfl rfl ?_
        refine ax_bipush (v := 32) dX4_takeClause_104 (by decide) ?_
        refine ax_cVq dX4_takeClause_106 lk_X4_36 (n_take hZ hT hT1 hT2 p2 hnl 32 (by decide)) rfl (OKs hZ rfl) ⟨_, rfl, rfl⟩ rfl (Nat.le_of_ble_eq_true rfl) (Nat.le_of_ble_eq_true rfl) (Nat.le_of_ble_eq_true rfl) (Nat.le_of_ble_eq_true rfl) ?_
        rintro _ G3 _ ⟨rfl, rfl, p3⟩
        refine ax_if_eq (tgt := 120) dX4_takeClause_109 (by decide) (fun c_109 => ?_) (fun c_109 => ?_)
        · refine ax_iconst (v := 0) dX4_takeClause_120 (by decide) ?_
          refine ax_iret dX4_takeClause_121 rfl rfl (Nat.le_of_ble_eq_true rfl) (Nat.le_of_ble_eq_true rfl) ?_
          have eb : chT T a = 98 := (nx_eq hT2 (by decide)).mp c_9
          have e8 : pCl T a = pCw T 0 (pAll T wBr a) := pCl_b eb
          have s1 := bI_t c_18
          have n0 : ¬ nmC T (pAll T wBr a).2 = 0 := by have := bI_y c_93; omega
          have e7 : pCl T a = pCe T 0 (nmV T (pAll T wBr a).2) ((pAll T wBr a).2 + nmC T (pAll T wBr a).2) := by rw [e8, pCw_e (by decide) s1 n0]
          have cb := bI_n c_109
          have e9 : pCl T a = (false, ((pAll T wBr a).2 + nmC T (pAll T wBr a).2), c0) := by rw [e7]; unfold pCe; rw [if_neg cb]
          rw [if_neg cb] at p3
          rw [e9]
          exact ⟨rfl, rfl, rfl, fun z => Bool.noConfusion z, fun _ => ⟨_, ss, by omega, p3⟩⟩
        · have cb := bI_y c_109
          rw [if_pos cb] at p3
          have hl3 := chT_lt cb (by decide)
          refine ax_aload_n (i := 0) dX4_takeClause_112 rfl rfl ?_
          refine ax_iconst (v := 0) dX4_takeClause_113 (by decide) ?_
          refine ax_cVq dX4_takeClause_114 lk_X4_71 (n_either0 hZ hT hT1 hT2 _ (((pAll T wBr a).2 + nmC T (pAll T wBr a).2) + 1) ss p3 hl3 (by omega)) rfl (OKs hZ rfl) ⟨_, rfl, rfl⟩ rfl (Nat.le_of_ble_eq_true rfl) (Nat.le_of_ble_eq_true rfl) (Nat.le_of_ble_eq_true rfl) (Nat.le_of_ble_eq_true rfl) ?_
          rintro _ G4 _ ⟨rfl, rfl, pt4, pf4⟩
          refine ax_if_ne (tgt := 122) dX4_takeClause_117 (by decide) (fun c_117 => ?_) (fun c_117 => ?_)
          · have cf := bI_t c_117
            have pt4 := pt4 cf
            obtain ⟨f1, f2⟩ := pE_ok (pF_ok T 4) 101 (((pAll T wBr a).2 + nmC T (pAll T wBr a).2) + 1) hl3
            obtain ⟨f3, f4⟩ := f2 cf
            refine ax_aload_n (i := 0) dX4_takeClause_122 rfl rfl ?_
            refine ax_iload_n (i := 1) dX4_takeClause_123 rfl rfl ?_
            refine ax_iload_n (i := 2) dX4_takeClause_124 rfl rfl ?_
            refine ax_iconst (v := 0) dX4_takeClause_125 (by decide) ?_
            refine ax_cVq0 dX4_takeClause_126 lk_X4_74 (n_add hZ pt4 (by rw [len_m]; omega) 6 (nmV T (pAll T wBr a).2) 0) rfl (OKs hZ rfl) ⟨_, rfl, rfl⟩ rfl (Nat.le_of_ble_eq_true rfl) (Nat.le_of_ble_eq_true rfl) (Nat.le_of_ble_eq_true rfl) (Nat.le_of_ble_eq_true rfl) ?_
            rintro _ G5 _ ⟨rfl, rfl, p5⟩
            refine ax_iconst (v := 1) dX4_takeClause_129 (by decide) ?_
            refine ax_iret dX4_takeClause_130 rfl rfl (Nat.le_of_ble_eq_true rfl) (Nat.le_of_ble_eq_true rfl) ?_
            have eb : chT T a = 98 := (nx_eq hT2 (by decide)).mp c_9
            have e8 : pCl T a = pCw T 0 (pAll T wBr a) := pCl_b eb
            have s1 := bI_t c_18
            have n0 : ¬ nmC T (pAll T wBr a).2 = 0 := by have := bI_y c_93; omega
            have e7 : pCl T a = pCe T 0 (nmV T (pAll T wBr a).2) ((pAll T wBr a).2 + nmC T (pAll T wBr a).2) := by rw [e8, pCw_e (by decide) s1 n0]
            have cb := bI_y c_109
            have e9 : pCl T a = (true, (pE (pF T 4) T 101 (((pAll T wBr a).2 + nmC T (pAll T wBr a).2) + 1)).2.1, (0, nmV T (pAll T wBr a).2, (pE (pF T 4) T 101 (((pAll T wBr a).2 + nmC T (pAll T wBr a).2) + 1)).2.2)) := by rw [e7]; unfold pCe; rw [if_pos cb, if_pos cf]
            rw [e9]
            rw [if_pos (by rw [len_m]; omega), List.append_assoc] at p5
            exact ⟨rfl, rfl, rfl, fun _ => p5, fun z => Bool.noConfusion z⟩
          · refine ax_iconst (v := 0) dX4_takeClause_120 (by decide) ?_
            refine ax_iret dX4_takeClause_121 rfl rfl (Nat.le_of_ble_eq_true rfl) (Nat.le_of_ble_eq_true rfl) ?_
            have eb : chT T a = 98 := (nx_eq hT2 (by decide)).mp c_9
            have e8 : pCl T a = pCw T 0 (pAll T wBr a) := pCl_b eb
            have s1 := bI_t c_18
            have n0 : ¬ nmC T (pAll T wBr a).2 = 0 := by have := bI_y c_93; omega
            have e7 : pCl T a = pCe T 0 (nmV T (pAll T wBr a).2) ((pAll T wBr a).2 + nmC T (pAll T wBr a).2) := by rw [e8, pCw_e (by decide) s1 n0]
            have cb := bI_y c_109
            have e9 : pCl T a = (false, (pE (pF T 4) T 101 (((pAll T wBr a).2 + nmC T (pAll T wBr a).2) + 1)).2.1, c0) := by rw [e7]; unfold pCe; rw [if_pos cb, if_neg (by rw [bI_f c_117]; decide)]
            rw [e9]
            exact ⟨rfl, rfl, rfl, fun z => Bool.noConfusion z, fun _ => ⟨_, pf4 (bI_f c_117)⟩⟩
      · refine ax_iconst (v := 0) dX4_takeClause_96 (by decide) ?_
        refine ax_iret dX4_takeClause_97 rfl rfl (Nat.le_of_ble_eq_true rfl) (Nat.le_of_ble_eq_true rfl) ?_
        have eb : chT T a = 98 := (nx_eq hT2 (by decide)).mp c_9
        have e8 : pCl T a = pCw T 0 (pAll T wBr a) := pCl_b eb
        have s1 := bI_t c_18
        have n0 : nmC T (pAll T wBr a).2 = 0 := by have := bI_n c_93; omega
        have e9 : pCl T a = (false, (pAll T wBr a).2, c0) := by rw [e8, pCw_0 s1 n0]
        rw [n0] at p2
        rw [e9]
        exact ⟨rfl, rfl, rfl, fun z => Bool.noConfusion z, fun _ => ⟨_, ss, by omega, p2⟩⟩
    · refine ax_iconst (v := 0) dX4_takeClause_21 (by decide) ?_
      refine ax_iret dX4_takeClause_22 rfl rfl (Nat.le_of_ble_eq_true rfl) (Nat.le_of_ble_eq_true rfl) ?_
      have eb : chT T a = 98 := (nx_eq hT2 (by decide)).mp c_9
      have e8 : pCl T a = pCw T 0 (pAll T wBr a) := pCl_b eb
      have e9 : pCl T a = (false, (pAll T wBr a).2, c0) := by rw [e8, pCw_f (bI_f c_18)]
      rw [e9]
      exact ⟨rfl, rfl, rfl, fun z => Bool.noConfusion z, fun _ => ⟨_, ss, by omega, p1⟩⟩
theorem ln_fault {Z : Zt} {L : Lt} (hZ : OK Z) {G0 : Gt} {T : Nat × (Nat → Nat)} (hT : imTc G0 T) (hT1 : T.1 ≤ 100) (hT2 : ∀ i, i < T.1 → T.2 i < 128) : ∀ (k a : Nat) (cls : List Cl) (G : Gt), cls.length + k = 10 → 1 ≤ k → RS G0 G a (stepsL cls) (nI (drL cls)) → a ≤ T.1 → (stepsL cls).length ≤ a → AX none mX4_findFault 18 0 0 0 0 17 [(0, .ref 1), (1, .int (nI (cls.length + 1)))] [] Z G L (RP (.int (if (pSh T k a cls).1 = true then -1 else nI (pSh T k a cls).2.1)) (fun Z' G' L' => Z' = Z ∧ L' = L ∧ ((pSh T k a cls).1 = true → RS G0 G' T.1 (stepsL (pSh T k a cls).2.2) (nI (drL (pSh T k a cls).2.2))) ∧ ((pSh T k a cls).1 = false → ∃ x', RSx G0 G' (pSh T k a cls).2.1 x'))) := by
  intro k
  induction k with
  | zero => intro a cls G _ h0; omega
  | succ k ih =>
    intro a cls G hk _ hp ha hlen
    refine ax_iload_n (i := 1) dX4_findFault_17 rfl rfl ?_
    refine ax_bipush (v := 10) dX4_findFault_18 (by decide) ?_
    refine ax_icmp_gt (tgt := 74) dX4_findFault_20 (by decide) (fun c_20 => ?_) (fun c_20 => ?_)
    · exact absurd c_20 (nI_nlt (a := 10) (by omega) (by decide))
    · refine ax_aload_n (i := 0) dX4_findFault_23 rfl rfl ?_
      refine ax_cVq dX4_findFault_24 lk_X4_29 (n_clause hZ hT hT1 hT2 hp ha hlen) rfl (OKs hZ rfl) ⟨_, rfl, rfl⟩ rfl (Nat.le_of_ble_eq_true rfl) (Nat.le_of_ble_eq_true rfl) (Nat.le_of_ble_eq_true rfl) (Nat.le_of_ble_eq_true rfl) ?_
      rintro _ G1 _ ⟨rfl, rfl, pt1, pf1⟩
      refine ax_if_ne (tgt := 35) dX4_findFault_27 (by decide) (fun c_27 => ?_) (fun c_27 => ?_)
      · have cf := bI_t c_27
        obtain ⟨i1, i2⟩ := pCl_ok (T := T) (a := a) hT1 ha
        obtain ⟨i3, i4, i5⟩ := i2 cf
        have pt1 := pt1 cf
        have hlen2 : (cls ++ [(pCl T a).2.2]).length = cls.length + 1 := by rw [List.length_append]; rfl
        have eL : stepsL cls ++ stepsC (pCl T a).2.2 = stepsL (cls ++ [(pCl T a).2.2]) := by unfold stepsL; rw [List.flatMap_append, List.flatMap_singleton]
        have eD : (if (pCl T a).2.2.1 = 2 then nI (pCl T a).2.2.2.1 else nI (drL cls)) = nI (drL (cls ++ [(pCl T a).2.2])) := by
          unfold drL
          rw [List.foldl_append]
          show _ = nI (if (pCl T a).2.2.1 = 2 then (pCl T a).2.2.2.1 else _)
          by_cases z : (pCl T a).2.2.1 = 2
          · rw [if_pos z, if_pos z]
          · rw [if_neg z, if_neg z]
        have lC : (stepsC (pCl T a).2.2).length ≤ (pCl T a).2.2.2.2.length + 1 := by
          unfold stepsC
          by_cases z : (pCl T a).2.2.1 = 2
          · rw [if_pos z]; exact Nat.zero_le _
          · rw [if_neg z, List.length_append, List.length_map]; exact Nat.le_refl _
        have lL : (stepsL (cls ++ [(pCl T a).2.2])).length ≤ (pCl T a).2.1 := by rw [← eL, List.length_append]; omega
        rw [eL, eD] at pt1
        refine ax_aload_n (i := 0) dX4_findFault_35 rfl rfl ?_
        refine ax_getI dX4_findFault_36 fl_X4_19 rfl (OKs hZ rfl) ?_
        refine ax_top (congrArg Value.int pt1.1) ?_
        refine ax_aload_n (i := 0) dX4_findFault_39 rfl rfl ?_
        refine ax_getI dX4_findFault_40 fl_X4_33 rfl (OKs hZ rfl) ?_
        refine ax_top (congrArg Value.int (RS_11 pt1 hT)) ?_
        refine ax_icmp_ne (tgt := 48) dX4_findFault_43 (by decide) (fun c_43 => ?_) (fun c_43 => ?_)
        · refine ax_iload_n (i := 1) dX4_findFault_48 rfl rfl ?_
          refine ax_bipush (v := 10) dX4_findFault_49 (by decide) ?_
          refine ax_icmp_eq (tgt := 63) dX4_findFault_51 (by decide) (fun c_51 => ?_) (fun c_51 => ?_)
          · refine ax_aload_n (i := 0) dX4_findFault_63 rfl rfl ?_
            refine ax_getI dX4_findFault_64 fl_X4_19 rfl (OKs hZ rfl) ?_
            refine ax_iret dX4_findFault_67 rfl rfl (Nat.le_of_ble_eq_true rfl) (Nat.le_of_ble_eq_true rfl) ?_
            have c8 : ¬ (pCl T a).2.1 = T.1 := fun z => c_43 (by rw [z])
            have c7 : k = 0 := by have := (nI_eq (by omega) (by decide)).mp (show nI (cls.length + 1) = nI 10 from c_51); omega
            have e9 : pSh T (k + 1) a cls = (false, (pCl T a).2.1, []) := by rw [pSh, if_pos cf, if_neg c8, if_pos c7]
            rw [e9]
            have hsx : ∃ x', RSx G0 _ (pCl T a).2.1 x' := ⟨_, _, by omega, pt1⟩
            obtain ⟨x9, ss9, l9, h9⟩ := hsx
            exact ⟨congrArg (fun z => some (Value.int z)) h9.1, rfl, rfl, fun z => Bool.noConfusion z, fun _ => ⟨x9, ss9, l9, h9⟩⟩
          · refine ax_aload_n (i := 0) dX4_findFault_54 rfl rfl ?_
            refine ax_bipush (v := 59) dX4_findFault_55 (by decide) ?_
            refine ax_cVq dX4_findFault_57 lk_X4_36 (n_take hZ hT hT1 hT2 pt1 i1 59 (by decide)) rfl (OKs hZ rfl) ⟨_, rfl, rfl⟩ rfl (Nat.le_of_ble_eq_true rfl) (Nat.le_of_ble_eq_true rfl) (Nat.le_of_ble_eq_true rfl) (Nat.le_of_ble_eq_true rfl) ?_
            rintro _ G2 _ ⟨rfl, rfl, p2⟩
            refine ax_if_ne (tgt := 68) dX4_findFault_60 (by decide) (fun c_60 => ?_) (fun c_60 => ?_)
            · refine ax_iinc (v := (nI (cls.length + 1)) + 1) dX4_findFault_68 rfl rfl (by decide) rfl ?_
              refine ax_goto (tgt := 17) dX4_findFault_71 (by decide) ?_
              have c8 : ¬ (pCl T a).2.1 = T.1 := fun z => c_43 (by rw [z])
              have c7 : ¬ k = 0 := fun z => c_51 (show nI (cls.length + 1) = nI 10 from by congr 1; omega)
              have c6 := bI_y c_60
              rw [if_pos c6] at p2
              have hl1 := chT_lt c6 (by decide)
              have e9 : pSh T (k + 1) a cls = pSh T k ((pCl T a).2.1 + 1) (cls ++ [(pCl T a).2.2]) := by rw [pSh, if_pos cf, if_neg c8, if_neg c7, if_pos c6]
              rw [e9]
              refine ax_lv [(0, .ref 1), (1, .int (nI ((cls ++ [(pCl T a).2.2]).length + 1)))] ⟨rfl, sI (by rw [hlen2, nI_1]), trivial⟩ ?_
              exact ih _ _ _ (by rw [hlen2]; omega) (by omega) p2 hl1 (by omega)
            · refine ax_aload_n (i := 0) dX4_findFault_63 rfl rfl ?_
              refine ax_getI dX4_findFault_64 fl_X4_19 rfl (OKs hZ rfl) ?_
              refine ax_iret dX4_findFault_67 rfl rfl (Nat.le_of_ble_eq_true rfl) (Nat.le_of_ble_eq_true rfl) ?_
              have c8 : ¬ (pCl T a).2.1 = T.1 := fun z => c_43 (by rw [z])
              have c7 : ¬ k = 0 := fun z => c_51 (show nI (cls.length + 1) = nI 10 from by congr 1; omega)
              have c6 := bI_n c_60
              rw [if_neg c6] at p2
              have e9 : pSh T (k + 1) a cls = (false, (pCl T a).2.1, []) := by rw [pSh, if_pos cf, if_neg c8, if_neg c7, if_neg c6]
              rw [e9]
              have hsx : ∃ x', RSx G0 _ (pCl T a).2.1 x' := ⟨_, _, by omega, p2⟩
              obtain ⟨x9, ss9, l9, h9⟩ := hsx
              exact ⟨congrArg (fun z => some (Value.int z)) h9.1, rfl, rfl, fun z => Bool.noConfusion z, fun _ => ⟨x9, ss9, l9, h9⟩⟩
        · refine ax_iconst (v := (-1)) dX4_findFault_46 (by decide) ?_
          refine ax_iret dX4_findFault_47 rfl rfl (Nat.le_of_ble_eq_true rfl) (Nat.le_of_ble_eq_true rfl) ?_
          have c8 : (pCl T a).2.1 = T.1 := (nI_eq (by omega) (by omega)).mp c_43
          have e9 : pSh T (k + 1) a cls = (true, T.1, cls ++ [(pCl T a).2.2]) := by rw [pSh, if_pos cf, if_pos c8]
          rw [e9]
          rw [c8] at pt1
          exact ⟨rfl, rfl, rfl, fun _ => pt1, fun z => Bool.noConfusion z⟩
      · refine ax_aload_n (i := 0) dX4_findFault_30 rfl rfl ?_
        refine ax_getI dX4_findFault_31 fl_X4_19 rfl (OKs hZ rfl) ?_
        refine ax_iret dX4_findFault_34 rfl rfl (Nat.le_of_ble_eq_true rfl) (Nat.le_of_ble_eq_true rfl) ?_
        have e9 : pSh T (k + 1) a cls = (false, (pCl T a).2.1, []) := by rw [pSh, if_neg (by rw [bI_f c_27]; decide)]
        rw [e9]
        have hsx : ∃ x', RSx G0 _ (pCl T a).2.1 x' := (pf1 (bI_f c_27))
        obtain ⟨x9, ss9, l9, h9⟩ := hsx
        exact ⟨congrArg (fun z => some (Value.int z)) h9.1, rfl, rfl, fun z => Bool.noConfusion z, fun _ => ⟨x9, ss9, l9, h9⟩⟩
theorem n_fault {Z : Zt} {G : Gt} {L : Lt} (hZ : OK Z) {T : Nat × (Nat → Nat)} (hT : imTc G T) (hT1 : T.1 ≤ 100) (hT2 : ∀ i, i < T.1 → T.2 i < 128) : AC mX4_findFault 18 0 0 [.ref 1] Z G L (RP (.int (if (pSh T 10 0 []).1 = true then -1 else nI (pSh T 10 0 []).2.1)) (fun Z' G' L' => Z' = Z ∧ L' = L ∧ ((pSh T 10 0 []).1 = true → RS G G' T.1 (stepsL (pSh T 10 0 []).2.2) (nI (drL (pSh T 10 0 []).2.2))) ∧ ((pSh T 10 0 []).1 = false → ∃ x', RSx G G' (pSh T 10 0 []).2.1 x'))) := by
  refine AC.intro (by decide +kernel) (Nat.le_of_ble_eq_true rfl) ?_
  refine ax_lv [(0, .ref 1)] ⟨rfl, trivial⟩ ?_
  refine ax_aload_n (i := 0) dX4_findFault_0 rfl rfl ?_
  refine ax_iconst (v := 0) dX4_findFault_1 (by decide) ?_
  refine ax_putI dX4_findFault_2 fl_X4_19 (Or.inl fp_X4_4_4) rfl rfl rfl (OKs hZ rfl) ?_
  refine ax_aload_n (i := 0) dX4_findFault_5 rfl rfl ?_
  refine ax_iconst (v := 0) dX4_findFault_6 (by decide) ?_
  refine ax_putI dX4_findFault_7 fl_X4_23 (Or.inl fp_X4_4_3) rfl rfl rfl (OKs hZ rfl) ?_
  refine ax_aload_n (i := 0) dX4_findFault_10 rfl rfl ?_
  refine ax_iconst (v := 2) dX4_findFault_11 (by decide) ?_
  refine ax_putI dX4_findFault_12 fl_X4_26 (Or.inl fp_X4_4_6) rfl rfl rfl (OKs hZ rfl) ?_
  refine ax_iconst (v := 1) dX4_findFault_15 (by decide) ?_
  refine ax_istore_n (i := 1) dX4_findFault_16 rfl (by decide) rfl ?_
  refine ax_lv [(0, .ref 1), (1, .int (nI (([] : List Cl).length + 1)))] ⟨rfl, rfl, trivial⟩ ?_
  exact ln_fault hZ hT hT1 hT2 10 0 [] _ rfl (by decide) ⟨by rw [up2_i (by decide), up2_i (by decide), up2_s]; rfl, by rw [up2_i (by decide), up2_s]; rfl, fun j hj => absurd hj (Nat.not_lt_zero j), by rw [up2_s]; rfl, fun y y1 _ => by rw [up2_row y1, up2_row y1, up2_row y1], fun i e1 e2 e3 e4 => by rw [up2_i e4, up2_i e1, up2_i e2]⟩ (Nat.zero_le _) (Nat.le_refl _)
