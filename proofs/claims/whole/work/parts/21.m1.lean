-- ===== contracts: the model, single steps (printed by auto.py) =====
def r_X12_grieve (G : Gt) (L : Lt) (a : Int32) (n : Int32) : Int32 := if (wi a 0 3) = 0 then (-1) else (if (wi n 0 999) = 0 then (-2) else (G 76 a.toNatClampNeg))
def g_X12_grieve (G : Gt) (L : Lt) (a : Int32) (n : Int32) : Gt := if (wi a 0 3) = 0 then G else (if (wi n 0 999) = 0 then G else (up2 G 76 a.toNatClampNeg n))
theorem c_X12_grieve {Z : Zt} {G : Gt} {L : Lt}  (hZ : OK Z) (a : Int32) (n : Int32) : AC mX12_grieve 3 0 0 [.ref 75, .int a, .int n] Z G L (DQ (some (.int (r_X12_grieve G L a n))) Z (g_X12_grieve G L a n) L) := by
  refine AC.intro (by decide +kernel) (Nat.le_of_ble_eq_true rfl) ?_
  refine ax_lv [(0, .ref 75), (1, .int a), (2, .int n)] ⟨rfl, rfl, rfl, trivial⟩ ?_
  refine ax_iload_n (i := 1) dX12_grieve_0 rfl rfl ?_
  refine ax_cSv dX12_grieve_1 lk_X12_121 (c_X12_isPerson a) rfl rfl (Nat.le_of_ble_eq_true rfl) (Nat.le_of_ble_eq_true rfl) (Nat.le_of_ble_eq_true rfl) (Nat.le_of_ble_eq_true rfl) ?_
  refine ax_if_ne (tgt := 9) dX12_grieve_4 (by decide) (fun c_4 => ?_) (fun c_4 => ?_)
  · refine ax_iload_n (i := 2) dX12_grieve_9 rfl rfl ?_
    refine ax_iconst (v := 0) dX12_grieve_10 (by decide) ?_
    refine ax_sipush (v := 999) dX12_grieve_11 (by decide) ?_
    refine ax_cSv dX12_grieve_14 lk_X12_117 (c_X12_within n 0 999) rfl rfl (Nat.le_of_ble_eq_true rfl) (Nat.le_of_ble_eq_true rfl) (Nat.le_of_ble_eq_true rfl) (Nat.le_of_ble_eq_true rfl) ?_
    refine ax_if_ne (tgt := 23) dX12_grieve_17 (by decide) (fun c_17 => ?_) (fun c_17 => ?_)
    · refine ax_aload_n (i := 0) dX12_grieve_23 rfl rfl ?_
      refine ax_getR dX12_grieve_24 fl_X12_9 rfl (OKs hZ rfl) (OKr hZ rfl) ?_
      refine ax_iload_n (i := 1) dX12_grieve_27 rfl rfl ?_
      refine ax_ialdN a.toNatClampNeg dX12_grieve_28 (OKs hZ rfl) (wi_e c_4) (wi_l c_4 (by decide)) (by decide) ?_
      refine ax_istore_n (i := 3) dX12_grieve_29 rfl (by decide) rfl ?_
      refine ax_aload_n (i := 0) dX12_grieve_30 rfl rfl ?_
      refine ax_getR dX12_grieve_31 fl_X12_9 rfl (OKs hZ rfl) (OKr hZ rfl) ?_
      refine ax_iload_n (i := 1) dX12_grieve_34 rfl rfl ?_
      refine ax_iload_n (i := 2) dX12_grieve_35 rfl rfl ?_
      refine ax_iastN a.toNatClampNeg dX12_grieve_36 (OKs hZ rfl) (wi_e c_4) (wi_l c_4 (by decide)) (by decide) ?_
      refine ax_iload_n (i := 3) dX12_grieve_37 rfl rfl ?_
      refine ax_iret dX12_grieve_38 rfl rfl (Nat.le_of_ble_eq_true rfl) (Nat.le_of_ble_eq_true rfl) ?_
      exact ⟨congrArg (fun z => some (Value.int z)) (Eq.symm (by unfold r_X12_grieve; try rw [if_neg c_4]; try rw [if_neg c_17])), rfl, Eq.symm (by unfold g_X12_grieve; try rw [if_neg c_4]; try rw [if_neg c_17]), rfl⟩
    · refine ax_bipush (v := (-2)) dX12_grieve_20 (by decide) ?_
      refine ax_iret dX12_grieve_22 rfl rfl (Nat.le_of_ble_eq_true rfl) (Nat.le_of_ble_eq_true rfl) ?_
      exact ⟨congrArg (fun z => some (Value.int z)) (Eq.symm (by unfold r_X12_grieve; try rw [if_neg c_4]; try rw [if_pos c_17])), rfl, Eq.symm (by unfold g_X12_grieve; try rw [if_neg c_4]; try rw [if_pos c_17]), rfl⟩
  · refine ax_iconst (v := (-1)) dX12_grieve_7 (by decide) ?_
    refine ax_iret dX12_grieve_8 rfl rfl (Nat.le_of_ble_eq_true rfl) (Nat.le_of_ble_eq_true rfl) ?_
    exact ⟨congrArg (fun z => some (Value.int z)) (Eq.symm (by unfold r_X12_grieve; try rw [if_pos c_4])), rfl, Eq.symm (by unfold g_X12_grieve; try rw [if_pos c_4]), rfl⟩
def r_X12_rain (G : Gt) (L : Lt) (a : Int32) (n : Int32) : Int32 := if (wi a 0 3) = 0 then (-1) else (if (wi n 0 9) = 0 then (-2) else (G 77 a.toNatClampNeg))
def g_X12_rain (G : Gt) (L : Lt) (a : Int32) (n : Int32) : Gt := if (wi a 0 3) = 0 then G else (if (wi n 0 9) = 0 then G else (up2 G 77 a.toNatClampNeg n))
theorem c_X12_rain {Z : Zt} {G : Gt} {L : Lt}  (hZ : OK Z) (a : Int32) (n : Int32) : AC mX12_rain 2 0 0 [.ref 75, .int a, .int n] Z G L (DQ (some (.int (r_X12_rain G L a n))) Z (g_X12_rain G L a n) L) := by
  refine AC.intro (by decide +kernel) (Nat.le_of_ble_eq_true rfl) ?_
  refine ax_lv [(0, .ref 75), (1, .int a), (2, .int n)] ⟨rfl, rfl, rfl, trivial⟩ ?_
  refine ax_iload_n (i := 1) dX12_rain_0 rfl rfl ?_
  refine ax_iconst (v := 0) dX12_rain_1 (by decide) ?_
  refine ax_iconst (v := 3) dX12_rain_2 (by decide) ?_
  refine ax_cSv dX12_rain_3 lk_X12_117 (c_X12_within a 0 3) rfl rfl (Nat.le_of_ble_eq_true rfl) (Nat.le_of_ble_eq_true rfl) (Nat.le_of_ble_eq_true rfl) (Nat.le_of_ble_eq_true rfl) ?_
  refine ax_if_ne (tgt := 11) dX12_rain_6 (by decide) (fun c_6 => ?_) (fun c_6 => ?_)
  · refine ax_iload_n (i := 2) dX12_rain_11 rfl rfl ?_
    refine ax_iconst (v := 0) dX12_rain_12 (by decide) ?_
    refine ax_bipush (v := 9) dX12_rain_13 (by decide) ?_
    refine ax_cSv dX12_rain_15 lk_X12_117 (c_X12_within n 0 9) rfl rfl (Nat.le_of_ble_eq_true rfl) (Nat.le_of_ble_eq_true rfl) (Nat.le_of_ble_eq_true rfl) (Nat.le_of_ble_eq_true rfl) ?_
    refine ax_if_ne (tgt := 24) dX12_rain_18 (by decide) (fun c_18 => ?_) (fun c_18 => ?_)
    · refine ax_aload_n (i := 0) dX12_rain_24 rfl rfl ?_
      refine ax_getR dX12_rain_25 fl_X12_15 rfl (OKs hZ rfl) (OKr hZ rfl) ?_
      refine ax_iload_n (i := 1) dX12_rain_28 rfl rfl ?_
      refine ax_ialdN a.toNatClampNeg dX12_rain_29 (OKs hZ rfl) (wi_e c_6) (wi_l c_6 (by decide)) (by decide) ?_
      refine ax_istore_n (i := 3) dX12_rain_30 rfl (by decide) rfl ?_
      refine ax_aload_n (i := 0) dX12_rain_31 rfl rfl ?_
      refine ax_getR dX12_rain_32 fl_X12_15 rfl (OKs hZ rfl) (OKr hZ rfl) ?_
      refine ax_iload_n (i := 1) dX12_rain_35 rfl rfl ?_
      refine ax_iload_n (i := 2) dX12_rain_36 rfl rfl ?_
      refine ax_iastN a.toNatClampNeg dX12_rain_37 (OKs hZ rfl) (wi_e c_6) (wi_l c_6 (by decide)) (by decide) ?_
      refine ax_iload_n (i := 3) dX12_rain_38 rfl rfl ?_
      refine ax_iret dX12_rain_39 rfl rfl (Nat.le_of_ble_eq_true rfl) (Nat.le_of_ble_eq_true rfl) ?_
      exact ⟨congrArg (fun z => some (Value.int z)) (Eq.symm (by unfold r_X12_rain; try rw [if_neg c_6]; try rw [if_neg c_18])), rfl, Eq.symm (by unfold g_X12_rain; try rw [if_neg c_6]; try rw [if_neg c_18]), rfl⟩
    · refine ax_bipush (v := (-2)) dX12_rain_21 (by decide) ?_
      refine ax_iret dX12_rain_23 rfl rfl (Nat.le_of_ble_eq_true rfl) (Nat.le_of_ble_eq_true rfl) ?_
      exact ⟨congrArg (fun z => some (Value.int z)) (Eq.symm (by unfold r_X12_rain; try rw [if_neg c_6]; try rw [if_pos c_18])), rfl, Eq.symm (by unfold g_X12_rain; try rw [if_neg c_6]; try rw [if_pos c_18]), rfl⟩
  · refine ax_iconst (v := (-1)) dX12_rain_9 (by decide) ?_
    refine ax_iret dX12_rain_10 rfl rfl (Nat.le_of_ble_eq_true rfl) (Nat.le_of_ble_eq_true rfl) ?_
    exact ⟨congrArg (fun z => some (Value.int z)) (Eq.symm (by unfold r_X12_rain; try rw [if_pos c_6])), rfl, Eq.symm (by unfold g_X12_rain; try rw [if_pos c_6]), rfl⟩
def r_X12_set (G : Gt) (L : Lt) (a : Int32) (b : Int32) (n : Int32) : Int32 := if (wi a 0 (G 75 2 - 1)) = 0 then (-1) else (if (wi b 0 2) = 0 then (-1) else (if b = 0 then (if (wi n 0 20) = 0 then (-2) else (G 80 a.toNatClampNeg)) else (if b = 1 then (if (wi n 0 99) = 0 then (-2) else (G 82 a.toNatClampNeg)) else (if (wi n 0 3) = 0 then (-2) else (G 81 a.toNatClampNeg)))))
def g_X12_set (G : Gt) (L : Lt) (a : Int32) (b : Int32) (n : Int32) : Gt := if (wi a 0 (G 75 2 - 1)) = 0 then G else (if (wi b 0 2) = 0 then G else (if b = 0 then (if (wi n 0 20) = 0 then G else (up2 G 80 a.toNatClampNeg n)) else (if b = 1 then (if (wi n 0 99) = 0 then G else (up2 G 82 a.toNatClampNeg n)) else (if (wi n 0 3) = 0 then G else (up2 G 81 a.toNatClampNeg n)))))
theorem c_X12_set {Z : Zt} {G : Gt} {L : Lt}  (hZ : OK Z) (hR : cntOK 6 (G 75 2)) (a : Int32) (b : Int32) (n : Int32) : AC mX12_set 3 0 0 [.ref 75, .int a, .int b, .int n] Z G L (DQ (some (.int (r_X12_set G L a b n))) Z (g_X12_set G L a b n) L) := by
  refine AC.intro (by decide +kernel) (Nat.le_of_ble_eq_true rfl) ?_
  refine ax_lv [(0, .ref 75), (1, .int a), (2, .int b), (3, .int n)] ⟨rfl, rfl, rfl, rfl, trivial⟩ ?_
  refine ax_aload_n (i := 0) dX12_set_0 rfl rfl ?_
  refine ax_iload_n (i := 1) dX12_set_1 rfl rfl ?_
  refine ax_cVv dX12_set_2 lk_X12_125 (c_X12_isOne hZ a) rfl (OKs hZ rfl) ⟨_, rfl, rfl⟩ rfl (Nat.le_of_ble_eq_true rfl) (Nat.le_of_ble_eq_true rfl) (Nat.le_of_ble_eq_true rfl) (Nat.le_of_ble_eq_true rfl) ?_
  refine ax_if_eq (tgt := 17) dX12_set_5 (by decide) (fun c_5 => ?_) (fun c_5 => ?_)
  · refine ax_iconst (v := (-1)) dX12_set_17 (by decide) ?_
    refine ax_iret dX12_set_18 rfl rfl (Nat.le_of_ble_eq_true rfl) (Nat.le_of_ble_eq_true rfl) ?_
    exact ⟨congrArg (fun z => some (Value.int z)) (Eq.symm (by unfold r_X12_set; try rw [if_pos c_5])), rfl, Eq.symm (by unfold g_X12_set; try rw [if_pos c_5]), rfl⟩
  · refine ax_iload_n (i := 2) dX12_set_8 rfl rfl ?_
    refine ax_iconst (v := 0) dX12_set_9 (by decide) ?_
    refine ax_iconst (v := 2) dX12_set_10 (by decide) ?_
    refine ax_cSv dX12_set_11 lk_X12_117 (c_X12_within b 0 2) rfl rfl (Nat.le_of_ble_eq_true rfl) (Nat.le_of_ble_eq_true rfl) (Nat.le_of_ble_eq_true rfl) (Nat.le_of_ble_eq_true rfl) ?_
    refine ax_if_ne (tgt := 19) dX12_set_14 (by decide) (fun c_14 => ?_) (fun c_14 => ?_)
    · refine ax_iload_n (i := 3) dX12_set_19 rfl rfl ?_
      refine ax_iconst (v := 0) dX12_set_20 (by decide) ?_
      refine ax_iload_n (i := 2) dX12_set_21 rfl rfl ?_
      refine ax_if_ne (tgt := 30) dX12_set_22 (by decide) (fun c_22 => ?_) (fun c_22 => ?_)
      · refine ax_iload_n (i := 2) dX12_set_30 rfl rfl ?_
        refine ax_iconst (v := 1) dX12_set_31 (by decide) ?_
        refine ax_icmp_ne (tgt := 40) dX12_set_32 (by decide) (fun c_32 => ?_) (fun c_32 => ?_)
        · refine ax_iconst (v := 3) dX12_set_40 (by decide) ?_
          refine ax_cSv dX12_set_41 lk_X12_117 (c_X12_within n 0 3) rfl rfl (Nat.le_of_ble_eq_true rfl) (Nat.le_of_ble_eq_true rfl) (Nat.le_of_ble_eq_true rfl) (Nat.le_of_ble_eq_true rfl) ?_
          refine ax_if_ne (tgt := 50) dX12_set_44 (by decide) (fun c_44 => ?_) (fun c_44 => ?_)
          · refine ax_iload_n (i := 2) dX12_set_50 rfl rfl ?_
            refine ax_if_ne (tgt := 63) dX12_set_51 (by decide) (fun c_51 => ?_) (fun c_51 => ?_)
            · refine ax_iload_n (i := 2) dX12_set_63 rfl rfl ?_
              refine ax_iconst (v := 1) dX12_set_64 (by decide) ?_
              refine ax_icmp_ne (tgt := 77) dX12_set_65 (by decide) (fun c_65 => ?_) (fun c_65 => ?_)
              · refine ax_aload_n (i := 0) dX12_set_77 rfl rfl ?_
                refine ax_getR dX12_set_78 fl_X12_27 rfl (OKs hZ rfl) (OKr hZ rfl) ?_
                refine ax_iload_n (i := 1) dX12_set_81 rfl rfl ?_
                refine ax_ialdN a.toNatClampNeg dX12_set_82 (OKs hZ rfl) (wi_e c_5) (has_l (by decide) hR c_5) (by decide) ?_
                refine ax_istore dX12_set_83 (by decide) rfl ?_
                refine ax_iload_n (i := 2) dX12_set_85 rfl rfl ?_
                refine ax_if_ne (tgt := 99) dX12_set_86 (by decide) (fun c_86 => ?_) (fun c_86 => ?_)
                · refine ax_iload_n (i := 2) dX12_set_99 rfl rfl ?_
                  refine ax_iconst (v := 1) dX12_set_100 (by decide) ?_
                  refine ax_icmp_ne (tgt := 114) dX12_set_101 (by decide) (fun c_101 => ?_) (fun c_101 => ?_)
                  · refine ax_aload_n (i := 0) dX12_set_114 rfl rfl ?_
                    refine ax_getR dX12_set_115 fl_X12_27 rfl (OKs hZ rfl) (OKr hZ rfl) ?_
                    refine ax_iload_n (i := 1) dX12_set_118 rfl rfl ?_
                    refine ax_iload_n (i := 3) dX12_set_119 rfl rfl ?_
                    refine ax_iastN a.toNatClampNeg dX12_set_120 (OKs hZ rfl) (wi_e c_5) (has_l (by decide) hR c_5) (by decide) ?_
                    refine ax_iload dX12_set_121 rfl ?_
                    refine ax_iret dX12_set_123 rfl rfl (Nat.le_of_ble_eq_true rfl) (Nat.le_of_ble_eq_true rfl) ?_
                    exact ⟨congrArg (fun z => some (Value.int z)) (Eq.symm (by unfold r_X12_set; try rw [if_neg c_5]; try rw [if_neg c_14]; try rw [if_neg c_22]; try rw [if_neg c_32]; try rw [if_neg c_44]; try rw [if_neg c_51]; try rw [if_neg c_65]; try rw [if_neg c_86]; try rw [if_neg c_101])), rfl, Eq.symm (by unfold g_X12_set; try rw [if_neg c_5]; try rw [if_neg c_14]; try rw [if_neg c_22]; try rw [if_neg c_32]; try rw [if_neg c_44]; try rw [if_neg c_51]; try rw [if_neg c_65]; try rw [if_neg c_86]; try rw [if_neg c_101]), rfl⟩
                  · exact absurd c_101 c_65
                · exact absurd c_86 c_51
              · exact absurd c_65 c_32
            · exact absurd c_51 c_22
          · refine ax_bipush (v := (-2)) dX12_set_47 (by decide) ?_
            refine ax_iret dX12_set_49 rfl rfl (Nat.le_of_ble_eq_true rfl) (Nat.le_of_ble_eq_true rfl) ?_
            exact ⟨congrArg (fun z => some (Value.int z)) (Eq.symm (by unfold r_X12_set; try rw [if_neg c_5]; try rw [if_neg c_14]; try rw [if_neg c_22]; try rw [if_neg c_32]; try rw [if_pos c_44])), rfl, Eq.symm (by unfold g_X12_set; try rw [if_neg c_5]; try rw [if_neg c_14]; try rw [if_neg c_22]; try rw [if_neg c_32]; try rw [if_pos c_44]), rfl⟩
        · refine ax_bipush (v := 99) dX12_set_35 (by decide) ?_
          refine ax_goto (tgt := 41) dX12_set_37 (by decide) ?_
          refine ax_cSv dX12_set_41 lk_X12_117 (c_X12_within n 0 99) rfl rfl (Nat.le_of_ble_eq_true rfl) (Nat.le_of_ble_eq_true rfl) (Nat.le_of_ble_eq_true rfl) (Nat.le_of_ble_eq_true rfl) ?_
          refine ax_if_ne (tgt := 50) dX12_set_44 (by decide) (fun c_44 => ?_) (fun c_44 => ?_)
          · refine ax_iload_n (i := 2) dX12_set_50 rfl rfl ?_
            refine ax_if_ne (tgt := 63) dX12_set_51 (by decide) (fun c_51 => ?_) (fun c_51 => ?_)
            · refine ax_iload_n (i := 2) dX12_set_63 rfl rfl ?_
              refine ax_iconst (v := 1) dX12_set_64 (by decide) ?_
              refine ax_icmp_ne (tgt := 77) dX12_set_65 (by decide) (fun c_65 => ?_) (fun c_65 => ?_)
              · exact absurd c_32 c_65
              · refine ax_aload_n (i := 0) dX12_set_68 rfl rfl ?_
                refine ax_getR dX12_set_69 fl_X12_30 rfl (OKs hZ rfl) (OKr hZ rfl) ?_
                refine ax_iload_n (i := 1) dX12_set_72 rfl rfl ?_
                refine ax_ialdN a.toNatClampNeg dX12_set_73 (OKs hZ rfl) (wi_e c_5) (has_l (by decide) hR c_5) (by decide) ?_
                refine ax_goto (tgt := 83) dX12_set_74 (by decide) ?_
                refine ax_istore dX12_set_83 (by decide) rfl ?_
                refine ax_iload_n (i := 2) dX12_set_85 rfl rfl ?_
                refine ax_if_ne (tgt := 99) dX12_set_86 (by decide) (fun c_86 => ?_) (fun c_86 => ?_)
                · refine ax_iload_n (i := 2) dX12_set_99 rfl rfl ?_
                  refine ax_iconst (v := 1) dX12_set_100 (by decide) ?_
                  refine ax_icmp_ne (tgt := 114) dX12_set_101 (by decide) (fun c_101 => ?_) (fun c_101 => ?_)
                  · exact absurd c_65 c_101
                  · refine ax_aload_n (i := 0) dX12_set_104 rfl rfl ?_
                    refine ax_getR dX12_set_105 fl_X12_30 rfl (OKs hZ rfl) (OKr hZ rfl) ?_
                    refine ax_iload_n (i := 1) dX12_set_108 rfl rfl ?_
                    refine ax_iload_n (i := 3) dX12_set_109 rfl rfl ?_
                    refine ax_iastN a.toNatClampNeg dX12_set_110 (OKs hZ rfl) (wi_e c_5) (has_l (by decide) hR c_5) (by decide) ?_
                    refine ax_goto (tgt := 121) dX12_set_111 (by decide) ?_
                    refine ax_iload dX12_set_121 rfl ?_
                    refine ax_iret dX12_set_123 rfl rfl (Nat.le_of_ble_eq_true rfl) (Nat.le_of_ble_eq_true rfl) ?_
                    exact ⟨congrArg (fun z => some (Value.int z)) (Eq.symm (by unfold r_X12_set; try rw [if_neg c_5]; try rw [if_neg c_14]; try rw [if_neg c_22]; try rw [if_pos c_32]; try rw [if_neg c_44]; try rw [if_neg c_51]; try rw [if_pos c_65]; try rw [if_neg c_86]; try rw [if_pos c_101])), rfl, Eq.symm (by unfold g_X12_set; try rw [if_neg c_5]; try rw [if_neg c_14]; try rw [if_neg c_22]; try rw [if_pos c_32]; try rw [if_neg c_44]; try rw [if_neg c_51]; try rw [if_pos c_65]; try rw [if_neg c_86]; try rw [if_pos c_101]), rfl⟩
                · exact absurd c_86 c_51
            · exact absurd c_51 c_22
          · refine ax_bipush (v := (-2)) dX12_set_47 (by decide) ?_
            refine ax_iret dX12_set_49 rfl rfl (Nat.le_of_ble_eq_true rfl) (Nat.le_of_ble_eq_true rfl) ?_
            exact ⟨congrArg (fun z => some (Value.int z)) (Eq.symm (by unfold r_X12_set; try rw [if_neg c_5]; try rw [if_neg c_14]; try rw [if_neg c_22]; try rw [if_pos c_32]; try rw [if_pos c_44])), rfl, Eq.symm (by unfold g_X12_set; try rw [if_neg c_5]; try rw [if_neg c_14]; try rw [if_neg c_22]; try rw [if_pos c_32]; try rw [if_pos c_44]), rfl⟩
      · refine ax_bipush (v := 20) dX12_set_25 (by decide) ?_
        refine ax_goto (tgt := 41) dX12_set_27 (by decide) ?_
        refine ax_cSv dX12_set_41 lk_X12_117 (c_X12_within n 0 20) rfl rfl (Nat.le_of_ble_eq_true rfl) (Nat.le_of_ble_eq_true rfl) (Nat.le_of_ble_eq_true rfl) (Nat.le_of_ble_eq_true rfl) ?_
        refine ax_if_ne (tgt := 50) dX12_set_44 (by decide) (fun c_44 => ?_) (fun c_44 => ?_)
        · refine ax_iload_n (i := 2) dX12_set_50 rfl rfl ?_
          refine ax_if_ne (tgt := 63) dX12_set_51 (by decide) (fun c_51 => ?_) (fun c_51 => ?_)
          · exact absurd c_22 c_51
          · refine ax_aload_n (i := 0) dX12_set_54 rfl rfl ?_
            refine ax_getR dX12_set_55 fl_X12_24 rfl (OKs hZ rfl) (OKr hZ rfl) ?_
            refine ax_iload_n (i := 1) dX12_set_58 rfl rfl ?_
            refine ax_ialdN a.toNatClampNeg dX12_set_59 (OKs hZ rfl) (wi_e c_5) (has_l (by decide) hR c_5) (by decide) ?_
            refine ax_goto (tgt := 83) dX12_set_60 (by decide) ?_
            refine ax_istore dX12_set_83 (by decide) rfl ?_
            refine ax_iload_n (i := 2) dX12_set_85 rfl rfl ?_
            refine ax_if_ne (tgt := 99) dX12_set_86 (by decide) (fun c_86 => ?_) (fun c_86 => ?_)
            · exact absurd c_51 c_86
            · refine ax_aload_n (i := 0) dX12_set_89 rfl rfl ?_
              refine ax_getR dX12_set_90 fl_X12_24 rfl (OKs hZ rfl) (OKr hZ rfl) ?_
              refine ax_iload_n (i := 1) dX12_set_93 rfl rfl ?_
              refine ax_iload_n (i := 3) dX12_set_94 rfl rfl ?_
              refine ax_iastN a.toNatClampNeg dX12_set_95 (OKs hZ rfl) (wi_e c_5) (has_l (by decide) hR c_5) (by decide) ?_
              refine ax_goto (tgt := 121) dX12_set_96 (by decide) ?_
              refine ax_iload dX12_set_121 rfl ?_
              refine ax_iret dX12_set_123 rfl rfl (Nat.le_of_ble_eq_true rfl) (Nat.le_of_ble_eq_true rfl) ?_
              exact ⟨congrArg (fun z => some (Value.int z)) (Eq.symm (by unfold r_X12_set; try rw [if_neg c_5]; try rw [if_neg c_14]; try rw [if_pos c_22]; try rw [if_neg c_44]; try rw [if_pos c_51]; try rw [if_pos c_86])), rfl, Eq.symm (by unfold g_X12_set; try rw [if_neg c_5]; try rw [if_neg c_14]; try rw [if_pos c_22]; try rw [if_neg c_44]; try rw [if_pos c_51]; try rw [if_pos c_86]), rfl⟩
        · refine ax_bipush (v := (-2)) dX12_set_47 (by decide) ?_
          refine ax_iret dX12_set_49 rfl rfl (Nat.le_of_ble_eq_true rfl) (Nat.le_of_ble_eq_true rfl) ?_
          exact ⟨congrArg (fun z => some (Value.int z)) (Eq.symm (by unfold r_X12_set; try rw [if_neg c_5]; try rw [if_neg c_14]; try rw [if_pos c_22]; try rw [if_pos c_44])), rfl, Eq.symm (by unfold g_X12_set; try rw [if_neg c_5]; try rw [if_neg c_14]; try rw [if_pos c_22]; try rw [if_pos c_44]), rfl⟩
    · refine ax_iconst (v := (-1)) dX12_set_17 (by decide) ?_
      refine ax_iret dX12_set_18 rfl rfl (Nat.le_of_ble_eq_true rfl) (Nat.le_of_ble_eq_true rfl) ?_
      exact ⟨congrArg (fun z => some (Value.int z)) (Eq.symm (by unfold r_X12_set; try rw [if_neg c_5]; try rw [if_pos c_14])), rfl, Eq.symm (by unfold g_X12_set; try rw [if_neg c_5]; try rw [if_pos c_14]), rfl⟩
def r_X12_count (G : Gt) (L : Lt) (a : Int32) : Int32 := if a = 0 then (G 75 2) else (if a = 1 then (G 75 17) else (if a = 2 then (G 75 27) else (if a = 3 then (G 75 31) else (if a = 4 then (G 75 34) else (if a = 5 then (G 75 11) else (if a = 6 then (G 75 37) else (-2)))))))
theorem c_X12_count {Z : Zt} {G : Gt} {L : Lt}  (hZ : OK Z) (a : Int32) : AC mX12_count 1 0 0 [.ref 75, .int a] Z G L (DQ (some (.int (r_X12_count G L a))) Z G L) := by
  refine AC.intro (by decide +kernel) (Nat.le_of_ble_eq_true rfl) ?_
  refine ax_lv [(0, .ref 75), (1, .int a)] ⟨rfl, rfl, trivial⟩ ?_
  refine ax_iload_n (i := 1) dX12_count_0 rfl rfl ?_
  refine (Decidable.em (a = 0)).elim (fun e_1_0 => ?_) (fun e_1_0 => ?_)
  · refine ax_tin (off := 43) (tgt := 44) dX12_count_1 (by rw [e_1_0]; decide) (by rw [e_1_0]; decide) (by rw [e_1_0]; decide) (by decide) ?_
    refine ax_aload_n (i := 0) dX12_count_44 rfl rfl ?_
    refine ax_getI dX12_count_45 fl_X12_114 rfl (OKs hZ rfl) ?_
    refine ax_iret dX12_count_48 rfl rfl (Nat.le_of_ble_eq_true rfl) (Nat.le_of_ble_eq_true rfl) ?_
    exact ⟨congrArg (fun z => some (Value.int z)) (Eq.symm (by unfold r_X12_count; try rw [if_pos e_1_0])), rfl, rfl, rfl⟩
  refine (Decidable.em (a = 1)).elim (fun e_1_1 => ?_) (fun e_1_1 => ?_)
  · refine ax_tin (off := 48) (tgt := 49) dX12_count_1 (by rw [e_1_1]; decide) (by rw [e_1_1]; decide) (by rw [e_1_1]; decide) (by decide) ?_
    refine ax_aload_n (i := 0) dX12_count_49 rfl rfl ?_
    refine ax_getI dX12_count_50 fl_X12_218 rfl (OKs hZ rfl) ?_
    refine ax_iret dX12_count_53 rfl rfl (Nat.le_of_ble_eq_true rfl) (Nat.le_of_ble_eq_true rfl) ?_
    exact ⟨congrArg (fun z => some (Value.int z)) (Eq.symm (by unfold r_X12_count; try rw [if_neg e_1_0]; try rw [if_pos e_1_1])), rfl, rfl, rfl⟩
  refine (Decidable.em (a = 2)).elim (fun e_1_2 => ?_) (fun e_1_2 => ?_)
  · refine ax_tin (off := 53) (tgt := 54) dX12_count_1 (by rw [e_1_2]; decide) (by rw [e_1_2]; decide) (by rw [e_1_2]; decide) (by decide) ?_
    refine ax_aload_n (i := 0) dX12_count_54 rfl rfl ?_
    refine ax_getI dX12_count_55 fl_X12_291 rfl (OKs hZ rfl) ?_
    refine ax_iret dX12_count_58 rfl rfl (Nat.le_of_ble_eq_true rfl) (Nat.le_of_ble_eq_true rfl) ?_
    exact ⟨congrArg (fun z => some (Value.int z)) (Eq.symm (by unfold r_X12_count; try rw [if_neg e_1_0]; try rw [if_neg e_1_1]; try rw [if_pos e_1_2])), rfl, rfl, rfl⟩
  refine (Decidable.em (a = 3)).elim (fun e_1_3 => ?_) (fun e_1_3 => ?_)
  · refine ax_tin (off := 58) (tgt := 59) dX12_count_1 (by rw [e_1_3]; decide) (by rw [e_1_3]; decide) (by rw [e_1_3]; decide) (by decide) ?_
    refine ax_aload_n (i := 0) dX12_count_59 rfl rfl ?_
    refine ax_getI dX12_count_60 fl_X12_308 rfl (OKs hZ rfl) ?_
    refine ax_iret dX12_count_63 rfl rfl (Nat.le_of_ble_eq_true rfl) (Nat.le_of_ble_eq_true rfl) ?_
    exact ⟨congrArg (fun z => some (Value.int z)) (Eq.symm (by unfold r_X12_count; try rw [if_neg e_1_0]; try rw [if_neg e_1_1]; try rw [if_neg e_1_2]; try rw [if_pos e_1_3])), rfl, rfl, rfl⟩
  refine (Decidable.em (a = 4)).elim (fun e_1_4 => ?_) (fun e_1_4 => ?_)
  · refine ax_tin (off := 63) (tgt := 64) dX12_count_1 (by rw [e_1_4]; decide) (by rw [e_1_4]; decide) (by rw [e_1_4]; decide) (by decide) ?_
    refine ax_aload_n (i := 0) dX12_count_64 rfl rfl ?_
    refine ax_getI dX12_count_65 fl_X12_311 rfl (OKs hZ rfl) ?_
    refine ax_iret dX12_count_68 rfl rfl (Nat.le_of_ble_eq_true rfl) (Nat.le_of_ble_eq_true rfl) ?_
    exact ⟨congrArg (fun z => some (Value.int z)) (Eq.symm (by unfold r_X12_count; try rw [if_neg e_1_0]; try rw [if_neg e_1_1]; try rw [if_neg e_1_2]; try rw [if_neg e_1_3]; try rw [if_pos e_1_4])), rfl, rfl, rfl⟩
  refine (Decidable.em (a = 5)).elim (fun e_1_5 => ?_) (fun e_1_5 => ?_)
  · refine ax_tin (off := 68) (tgt := 69) dX12_count_1 (by rw [e_1_5]; decide) (by rw [e_1_5]; decide) (by rw [e_1_5]; decide) (by decide) ?_
    refine ax_aload_n (i := 0) dX12_count_69 rfl rfl ?_
    refine ax_getI dX12_count_70 fl_X12_146 rfl (OKs hZ rfl) ?_
    refine ax_iret dX12_count_73 rfl rfl (Nat.le_of_ble_eq_true rfl) (Nat.le_of_ble_eq_true rfl) ?_
    exact ⟨congrArg (fun z => some (Value.int z)) (Eq.symm (by unfold r_X12_count; try rw [if_neg e_1_0]; try rw [if_neg e_1_1]; try rw [if_neg e_1_2]; try rw [if_neg e_1_3]; try rw [if_neg e_1_4]; try rw [if_pos e_1_5])), rfl, rfl, rfl⟩
  refine (Decidable.em (a = 6)).elim (fun e_1_6 => ?_) (fun e_1_6 => ?_)
  · refine ax_tin (off := 73) (tgt := 74) dX12_count_1 (by rw [e_1_6]; decide) (by rw [e_1_6]; decide) (by rw [e_1_6]; decide) (by decide) ?_
    refine ax_aload_n (i := 0) dX12_count_74 rfl rfl ?_
    refine ax_getI dX12_count_75 fl_X12_318 rfl (OKs hZ rfl) ?_
    refine ax_iret dX12_count_78 rfl rfl (Nat.le_of_ble_eq_true rfl) (Nat.le_of_ble_eq_true rfl) ?_
    exact ⟨congrArg (fun z => some (Value.int z)) (Eq.symm (by unfold r_X12_count; try rw [if_neg e_1_0]; try rw [if_neg e_1_1]; try rw [if_neg e_1_2]; try rw [if_neg e_1_3]; try rw [if_neg e_1_4]; try rw [if_neg e_1_5]; try rw [if_pos e_1_6])), rfl, rfl, rfl⟩
  refine ax_tout (tgt := 79) dX12_count_1 (sw_out 7 (by decide) (by decide) ⟨⟨⟨⟨⟨⟨⟨trivial, e_1_0⟩, e_1_1⟩, e_1_2⟩, e_1_3⟩, e_1_4⟩, e_1_5⟩, e_1_6⟩) (by decide) ?_
  refine ax_bipush (v := (-2)) dX12_count_79 (by decide) ?_
  refine ax_iret dX12_count_81 rfl rfl (Nat.le_of_ble_eq_true rfl) (Nat.le_of_ble_eq_true rfl) ?_
  exact ⟨congrArg (fun z => some (Value.int z)) (Eq.symm (by unfold r_X12_count; try rw [if_neg e_1_0]; try rw [if_neg e_1_1]; try rw [if_neg e_1_2]; try rw [if_neg e_1_3]; try rw [if_neg e_1_4]; try rw [if_neg e_1_5]; try rw [if_neg e_1_6])), rfl, rfl, rfl⟩
def r_X12_above (G : Gt) (L : Lt) (a : Int32) : Int32 := if a = 4 then 1 else (if a = 5 then 2 else (if a = 6 then 3 else 0))
theorem c_X12_above {Z : Zt} {G : Gt} {L : Lt}   (a : Int32) : AC mX12_above 1 0 0 [.int a] Z G L (DQ (some (.int (r_X12_above G L a))) Z G L) := by
  refine AC.intro (by decide +kernel) (Nat.le_of_ble_eq_true rfl) ?_
  refine ax_lv [(0, .int a)] ⟨rfl, trivial⟩ ?_
  refine ax_iload_n (i := 0) dX12_above_0 rfl rfl ?_
  refine ax_iconst (v := 4) dX12_above_1 (by decide) ?_
  refine ax_icmp_ne (tgt := 9) dX12_above_2 (by decide) (fun c_2 => ?_) (fun c_2 => ?_)
  · refine ax_iload_n (i := 0) dX12_above_9 rfl rfl ?_
    refine ax_iconst (v := 5) dX12_above_10 (by decide) ?_
    refine ax_icmp_ne (tgt := 18) dX12_above_11 (by decide) (fun c_11 => ?_) (fun c_11 => ?_)
    · refine ax_iload_n (i := 0) dX12_above_18 rfl rfl ?_
      refine ax_bipush (v := 6) dX12_above_19 (by decide) ?_
      refine ax_icmp_ne (tgt := 28) dX12_above_21 (by decide) (fun c_21 => ?_) (fun c_21 => ?_)
      · refine ax_iconst (v := 0) dX12_above_28 (by decide) ?_
        refine ax_iret dX12_above_29 rfl rfl (Nat.le_of_ble_eq_true rfl) (Nat.le_of_ble_eq_true rfl) ?_
        exact ⟨congrArg (fun z => some (Value.int z)) (Eq.symm (by unfold r_X12_above; try rw [if_neg c_2]; try rw [if_neg c_11]; try rw [if_neg c_21])), rfl, rfl, rfl⟩
      · refine ax_iconst (v := 3) dX12_above_24 (by decide) ?_
        refine ax_goto (tgt := 29) dX12_above_25 (by decide) ?_
        refine ax_iret dX12_above_29 rfl rfl (Nat.le_of_ble_eq_true rfl) (Nat.le_of_ble_eq_true rfl) ?_
        exact ⟨congrArg (fun z => some (Value.int z)) (Eq.symm (by unfold r_X12_above; try rw [if_neg c_2]; try rw [if_neg c_11]; try rw [if_pos c_21])), rfl, rfl, rfl⟩
    · refine ax_iconst (v := 2) dX12_above_14 (by decide) ?_
      refine ax_goto (tgt := 29) dX12_above_15 (by decide) ?_
      refine ax_iret dX12_above_29 rfl rfl (Nat.le_of_ble_eq_true rfl) (Nat.le_of_ble_eq_true rfl) ?_
      exact ⟨congrArg (fun z => some (Value.int z)) (Eq.symm (by unfold r_X12_above; try rw [if_neg c_2]; try rw [if_pos c_11])), rfl, rfl, rfl⟩
  · refine ax_iconst (v := 1) dX12_above_5 (by decide) ?_
    refine ax_goto (tgt := 29) dX12_above_6 (by decide) ?_
    refine ax_iret dX12_above_29 rfl rfl (Nat.le_of_ble_eq_true rfl) (Nat.le_of_ble_eq_true rfl) ?_
    exact ⟨congrArg (fun z => some (Value.int z)) (Eq.symm (by unfold r_X12_above; try rw [if_pos c_2])), rfl, rfl, rfl⟩
