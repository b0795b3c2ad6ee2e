-- ===== contracts: the model, single steps (printed by auto.py) =====
theorem wk_J6_265 : Cond.constant RJ6 265 1431655765 ∈ TB := in_TBt 308 (by decide +kernel) (by decide +kernel)
theorem wk_J6_266 : Cond.constant RJ6 266 858993459 ∈ TB := in_TBt 309 (by decide +kernel) (by decide +kernel)
theorem wk_J6_267 : Cond.constant RJ6 267 252645135 ∈ TB := in_TBt 310 (by decide +kernel) (by decide +kernel)
theorem wk_X11_181 : Cond.constant RX11 181 (-2147483648) ∈ TB := in_TBt 369 (by decide +kernel) (by decide +kernel)
theorem wk_J2_227 : Cond.constant RJ2 227 65536 ∈ TB := in_TBt 556 (by decide +kernel) (by decide +kernel)
theorem wk_J11_110 : Cond.constant RJ11 110 55232 ∈ TB := in_TBt 581 (by decide +kernel) (by decide +kernel)
theorem wk_J11_76 : Cond.constant RJ11 76 56320 ∈ TB := in_TBt 585 (by decide +kernel) (by decide +kernel)
theorem wk_J6_264 : Cond.constant RJ6 264 65536 ∈ TB := in_TBt 681 (by decide +kernel) (by decide +kernel)
theorem wk_X11_210 : Cond.constantLong RX11 210 (-9223372036854775808) ∈ TB := in_TBt 686 (by decide +kernel) (by decide +kernel)
theorem wk_X12_300 : Cond.constantLong RX12 300 (-9223372036854775808) ∈ TB := in_TBt 1230 (by decide +kernel) (by decide +kernel)
theorem wk_X12_302 : Cond.constantLong RX12 302 10 ∈ TB := in_TBt 1231 (by decide +kernel) (by decide +kernel)
theorem wk_L_140 : Cond.constantLong "FireApologiesLaw" 140 4294967295 ∈ TB := in_TBt 1324 (by decide +kernel) (by decide +kernel)
def r_X12_grieve (G : Gt) (L : Lt) (a : Int32) (n : Int32) : Int32 := if (wi a 0 3) = 0 then (-1) else (if (wi n 0 999) = 0 then (-2) else (G 76 a.toNatClampNeg))
def g_X12_grieve (G : Gt) (L : Lt) (a : Int32) (n : Int32) : Gt := if (wi a 0 3) = 0 then G else (if (wi n 0 999) = 0 then G else (up2 G 76 a.toNatClampNeg n))
theorem c_X12_grieve {Z : Zt} {G : Gt} {L : Lt}  (hZ : OK Z) (a : Int32) (n : Int32)  : AC mX12_grieve 3 0 0 [.ref 75, .int a, .int n] Z G L (DQ (some (.int (r_X12_grieve G L a n))) Z (g_X12_grieve G L a n) L) := by
  refine AC.intro (by decide +kernel) (Nat.le_of_ble_eq_true rfl) ?_
  refine ax_lv [(0, .ref 75), (1, .int a), (2, .int n)] ⟨rfl, rfl, rfl, trivial⟩ ?_
  refine ax_iload_n (i := 1) dX12_grieve_0 rfl rfl ?_
  refine ax_cSv dX12_grieve_1 lk_X12_121 (c_X12_isPerson a) rfl rfl (Nat.le_of_ble_eq_true rfl) (Nat.le_of_ble_eq_true rfl) (Nat.le_of_ble_eq_true rfl) (Nat.le_of_ble_eq_true rfl) ?_
  refine ax_if_ne (tgt := 9) dX12_grieve_4 (by decide) (fun c_4 => ?_) (fun c_4 => ?_)
  · refine ax_iload_n (i := 2) dX12_grieve_9 rfl rfl ?_
    refine ax_iconst (v := 0) dX12_grieve_10 (by decide) ?_
    refine ax_sipush (v := 999) dX12_grieve_11 (by decide) ?_
    refine ax_cSv dX12_grieve_14 lk_X12_117 (c_X12_within n 0 999) rfl rfl (Nat.le_of_ble_eq_true rfl) (Nat.le_of_ble_eq_true rfl) (Nat.le_of_ble_eq_true rfl) (Nat.le_of_ble_eq_true rfl) ?_
    refine ax_if_ne (tgt := 23) dX12_grieve_17 (by decide) (fun c_17 => ?_) (fun c_17 => ?_)
    · refine ax_aload_n (i := 0) dX12_grieve_23 rfl rfl ?_
      refine ax_getR dX12_grieve_24 fl_X12_9 rfl (OKs hZ rfl) (OKr hZ rfl) ?_
      refine ax_iload_n (i := 1) dX12_grieve_27 rfl rfl ?_
      refine ax_ialdN a.toNatClampNeg dX12_grieve_28 (OKs hZ rfl) (wi_e c_4) (wi_l c_4 (by decide)) (by decide) ?_
      refine ax_istore_n (i := 3) dX12_grieve_29 rfl (by decide) rfl ?_
      refine ax_aload_n (i := 0) dX12_grieve_30 rfl rfl ?_
      refine ax_getR dX12_grieve_31 fl_X12_9 rfl (OKs hZ rfl) (OKr hZ rfl) ?_
      refine ax_iload_n (i := 1) dX12_grieve_34 rfl rfl ?_
      refine ax_iload_n (i := 2) dX12_grieve_35 rfl rfl ?_
      refine ax_iastN a.toNatClampNeg dX12_grieve_36 (OKs hZ rfl) (wi_e c_4) (wi_l c_4 (by decide)) (by decide) ?_
      refine ax_iload_n (i := 3) dX12_grieve_37 rfl rfl ?_
      refine ax_iret dX12_grieve_38 rfl rfl (Nat.le_of_ble_eq_true rfl) (Nat.le_of_ble_eq_true rfl) ?_
      exact ⟨congrArg (fun z => some (Value.int z)) (Eq.symm (by unfold r_X12_grieve; (try rw [if_neg c_4]); (try rw [if_neg c_17]); first | done | rfl)), rfl, Eq.symm (by unfold g_X12_grieve; (try rw [if_neg c_4]); (try rw [if_neg c_17]); first | done | rfl), rfl⟩
    · refine ax_bipush (v := (-2)) dX12_grieve_20 (by decide) ?_
      refine ax_iret dX12_grieve_22 rfl rfl (Nat.le_of_ble_eq_true rfl) (Nat.le_of_ble_eq_true rfl) ?_
      exact ⟨congrArg (fun z => some (Value.int z)) (Eq.symm (by unfold r_X12_grieve; (try rw [if_neg c_4]); (try rw [if_pos c_17]); first | done | rfl)), rfl, Eq.symm (by unfold g_X12_grieve; (try rw [if_neg c_4]); (try rw [if_pos c_17]); first | done | rfl), rfl⟩
  · refine ax_iconst (v := (-1)) dX12_grieve_7 (by decide) ?_
    refine ax_iret dX12_grieve_8 rfl rfl (Nat.le_of_ble_eq_true rfl) (Nat.le_of_ble_eq_true rfl) ?_
    exact ⟨congrArg (fun z => some (Value.int z)) (Eq.symm (by unfold r_X12_grieve; (try rw [if_pos c_4]); first | done | rfl)), rfl, Eq.symm (by unfold g_X12_grieve; (try rw [if_pos c_4]); first | done | rfl), rfl⟩
def r_X12_rain (G : Gt) (L : Lt) (a : Int32) (n : Int32) : Int32 := if (wi a 0 3) = 0 then (-1) else (if (wi n 0 9) = 0 then (-2) else (G 77 a.toNatClampNeg))
def g_X12_rain (G : Gt) (L : Lt) (a : Int32) (n : Int32) : Gt := if (wi a 0 3) = 0 then G else (if (wi n 0 9) = 0 then G else (up2 G 77 a.toNatClampNeg n))
theorem c_X12_rain {Z : Zt} {G : Gt} {L : Lt}  (hZ : OK Z) (a : Int32) (n : Int32)  : AC mX12_rain 2 0 0 [.ref 75, .int a, .int n] Z G L (DQ (some (.int (r_X12_rain G L a n))) Z (g_X12_rain G L a n) L) := by
  refine AC.intro (by decide +kernel) (Nat.le_of_ble_eq_true rfl) ?_
  refine ax_lv [(0, .ref 75), (1, .int a), (2, .int n)] ⟨rfl, rfl, rfl, trivial⟩ ?_
  refine ax_iload_n (i := 1) dX12_rain_0 rfl rfl ?_
  refine ax_iconst (v := 0) dX12_rain_1 (by decide) ?_
  refine ax_iconst (v := 3) dX12_rain_2 (by decide) ?_
  refine ax_cSv dX12_rain_3 lk_X12_117 (c_X12_within a 0 3) rfl rfl (Nat.le_of_ble_eq_true rfl) (Nat.le_of_ble_eq_true rfl) (Nat.le_of_ble_eq_true rfl) (Nat.le_of_ble_eq_true rfl) ?_
  refine ax_if_ne (tgt := 11) dX12_rain_6 (by decide) (fun c_6 => ?_) (fun c_6 => ?_)
  · refine ax_iload_n (i := 2) dX12_rain_11 rfl rfl ?_
    refine ax_iconst (v := 0) dX12_rain_12 (by decide) ?_
    refine ax_bipush (v := 9) dX12_rain_13 (by decide) ?_
    refine ax_cSv dX12_rain_15 lk_X12_117 (c_X12_within n 0 9) rfl rfl (Nat.le_of_ble_eq_true rfl) (Nat.le_of_ble_eq_true rfl) (Nat.le_of_ble_eq_true rfl) (Nat.le_of_ble_eq_true rfl) ?_
    refine ax_if_ne (tgt := 24) dX12_rain_18 (by decide) (fun c_18 => ?_) (fun c_18 => ?_)
    · refine ax_aload_n (i := 0) dX12_rain_24 rfl rfl ?_
      refine ax_getR dX12_rain_25 fl_X12_15 rfl (OKs hZ rfl) (OKr hZ rfl) ?_
      refine ax_iload_n (i := 1) dX12_rain_28 rfl rfl ?_
      refine ax_ialdN a.toNatClampNeg dX12_rain_29 (OKs hZ rfl) (wi_e c_6) (wi_l c_6 (by decide)) (by decide) ?_
      refine ax_istore_n (i := 3) dX12_rain_30 rfl (by decide) rfl ?_
      refine ax_aload_n (i := 0) dX12_rain_31 rfl rfl ?_
      refine ax_getR dX12_rain_32 fl_X12_15 rfl (OKs hZ rfl) (OKr hZ rfl) ?_
      refine ax_iload_n (i := 1) dX12_rain_35 rfl rfl ?_
      refine ax_iload_n (i := 2) dX12_rain_36 rfl rfl ?_
      refine ax_iastN a.toNatClampNeg dX12_rain_37 (OKs hZ rfl) (wi_e c_6) (wi_l c_6 (by decide)) (by decide) ?_
      refine ax_iload_n (i := 3) dX12_rain_38 rfl rfl ?_
      refine ax_iret dX12_rain_39 rfl rfl (Nat.le_of_ble_eq_true rfl) (Nat.le_of_ble_eq_true rfl) ?_
      exact ⟨congrArg (fun z => some (Value.int z)) (Eq.symm (by unfold r_X12_rain; (try rw [if_neg c_6]); (try rw [if_neg c_18]); first | done | rfl)), rfl, Eq.symm (by unfold g_X12_rain; (try rw [if_neg c_6]); (try rw [if_neg c_18]); first | done | rfl), rfl⟩
    · refine ax_bipush (v := (-2)) dX12_rain_21 (by decide) ?_
      refine ax_iret dX12_rain_23 rfl rfl (Nat.le_of_ble_eq_true rfl) (Nat.le_of_ble_eq_true rfl) ?_
      exact ⟨congrArg (fun z => some (Value.int z)) (Eq.symm (by unfold r_X12_rain; (try rw [if_neg c_6]); (try rw [if_pos c_18]); first | done | rfl)), rfl, Eq.symm (by unfold g_X12_rain; (try rw [if_neg c_6]); (try rw [if_pos c_18]); first | done | rfl), rfl⟩
  · refine ax_iconst (v := (-1)) dX12_rain_9 (by decide) ?_
    refine ax_iret dX12_rain_10 rfl rfl (Nat.le_of_ble_eq_true rfl) (Nat.le_of_ble_eq_true rfl) ?_
    exact ⟨congrArg (fun z => some (Value.int z)) (Eq.symm (by unfold r_X12_rain; (try rw [if_pos c_6]); first | done | rfl)), rfl, Eq.symm (by unfold g_X12_rain; (try rw [if_pos c_6]); first | done | rfl), rfl⟩
def r_X12_set (G : Gt) (L : Lt) (a : Int32) (b : Int32) (n : Int32) : Int32 := if (wi a 0 (G 75 2 - 1)) = 0 then (-1) else (if (wi b 0 2) = 0 then (-1) else (if b = 0 then (if (wi n 0 20) = 0 then (-2) else (G 80 a.toNatClampNeg)) else (if b = 1 then (if (wi n 0 99) = 0 then (-2) else (G 82 a.toNatClampNeg)) else (if (wi n 0 3) = 0 then (-2) else (G 81 a.toNatClampNeg)))))
def g_X12_set (G : Gt) (L : Lt) (a : Int32) (b : Int32) (n : Int32) : Gt := if (wi a 0 (G 75 2 - 1)) = 0 then G else (if (wi b 0 2) = 0 then G else (if b = 0 then (if (wi n 0 20) = 0 then G else (up2 G 80 a.toNatClampNeg n)) else (if b = 1 then (if (wi n 0 99) = 0 then G else (up2 G 82 a.toNatClampNeg n)) else (if (wi n 0 3) = 0 then G else (up2 G 81 a.toNatClampNeg n)))))
theorem c_X12_set {Z : Zt} {G : Gt} {L : Lt}  (hZ : OK Z) (hR : cntOK 6 (G 75 2)) (a : Int32) (b : Int32) (n : Int32)  : AC mX12_set 3 0 0 [.ref 75, .int a, .int b, .int n] Z G L (DQ (some (.int (r_X12_set G L a b n))) Z (g_X12_set G L a b n) L) := by
  refine AC.intro (by decide +kernel) (Nat.le_of_ble_eq_true rfl) ?_
  refine ax_lv [(0, .ref 75), (1, .int a), (2, .int b), (3, .int n)] ⟨rfl, rfl, rfl, rfl, trivial⟩ ?_
  refine ax_aload_n (i := 0) dX12_set_0 rfl rfl ?_
  refine ax_iload_n (i := 1) dX12_set_1 rfl rfl ?_
  refine ax_cVv dX12_set_2 lk_X12_125 (c_X12_isOne hZ a) rfl (OKs hZ rfl) ⟨_, rfl, rfl⟩ rfl (Nat.le_of_ble_eq_true rfl) (Nat.le_of_ble_eq_true rfl) (Nat.le_of_ble_eq_true rfl) (Nat.le_of_ble_eq_true rfl) ?_
  refine ax_if_eq (tgt := 17) dX12_set_5 (by decide) (fun c_5 => ?_) (fun c_5 => ?_)
  · refine ax_iconst (v := (-1)) dX12_set_17 (by decide) ?_
    refine ax_iret dX12_set_18 rfl rfl (Nat.le_of_ble_eq_true rfl) (Nat.le_of_ble_eq_true rfl) ?_
    exact ⟨congrArg (fun z => some (Value.int z)) (Eq.symm (by unfold r_X12_set; (try rw [if_pos c_5]); first | done | rfl)), rfl, Eq.symm (by unfold g_X12_set; (try rw [if_pos c_5]); first | done | rfl), rfl⟩
  · refine ax_iload_n (i := 2) dX12_set_8 rfl rfl ?_
    refine ax_iconst (v := 0) dX12_set_9 (by decide) ?_
    refine ax_iconst (v := 2) dX12_set_10 (by decide) ?_
    refine ax_cSv dX12_set_11 lk_X12_117 (c_X12_within b 0 2) rfl rfl (Nat.le_of_ble_eq_true rfl) (Nat.le_of_ble_eq_true rfl) (Nat.le_of_ble_eq_true rfl) (Nat.le_of_ble_eq_true rfl) ?_
    refine ax_if_ne (tgt := 19) dX12_set_14 (by decide) (fun c_14 => ?_) (fun c_14 => ?_)
    · refine ax_iload_n (i := 3) dX12_set_19 rfl rfl ?_
      refine ax_iconst (v := 0) dX12_set_20 (by decide) ?_
      refine ax_iload_n (i := 2) dX12_set_21 rfl rfl ?_
      refine ax_if_ne (tgt := 30) dX12_set_22 (by decide) (fun c_22 => ?_) (fun c_22 => ?_)
      · refine ax_iload_n (i := 2) dX12_set_30 rfl rfl ?_
        refine ax_iconst (v := 1) dX12_set_31 (by decide) ?_
        refine ax_icmp_ne (tgt := 40) dX12_set_32 (by decide) (fun c_32 => ?_) (fun c_32 => ?_)
        · refine ax_iconst (v := 3) dX12_set_40 (by decide) ?_
          refine ax_cSv dX12_set_41 lk_X12_117 (c_X12_within n 0 3) rfl rfl (Nat.le_of_ble_eq_true rfl) (Nat.le_of_ble_eq_true rfl) (Nat.le_of_ble_eq_true rfl) (Nat.le_of_ble_eq_true rfl) ?_
          refine ax_if_ne (tgt := 50) dX12_set_44 (by decide) (fun c_44 => ?_) (fun c_44 => ?_)
          · refine ax_iload_n (i := 2) dX12_set_50 rfl rfl ?_
            refine ax_if_ne (tgt := 63) dX12_set_51 (by decide) (fun c_51 => ?_) (fun c_51 => ?_)
            · refine ax_iload_n (i := 2) dX12_set_63 rfl rfl ?_
              refine ax_iconst (v := 1) dX12_set_64 (by decide) ?_
              refine ax_icmp_ne (tgt := 77) dX12_set_65 (by decide) (fun c_65 => ?_) (fun c_65 => ?_)
              · refine ax_aload_n (i := 0) dX12_set_77 rfl rfl ?_
                refine ax_getR dX12_set_78 fl_X12_27 rfl (OKs hZ rfl) (OKr hZ rfl) ?_
                refine ax_iload_n (i := 1) dX12_set_81 rfl rfl ?_
                refine ax_ialdN a.toNatClampNeg dX12_set_82 (OKs hZ rfl) (wi_e c_5) (has_l (by decide) hR c_5) (by decide) ?_
                refine ax_istore dX12_set_83 (by decide) rfl ?_
                refine ax_iload_n (i := 2) dX12_set_85 rfl rfl ?_
                refine ax_if_ne (tgt := 99) dX12_set_86 (by decide) (fun c_86 => ?_) (fun c_86 => ?_)
                · refine ax_iload_n (i := 2) dX12_set_99 rfl rfl ?_
                  refine ax_iconst (v := 1) dX12_set_100 (by decide) ?_
                  refine ax_icmp_ne (tgt := 114) dX12_set_101 (by decide) (fun c_101 => ?_) (fun c_101 => ?_)
                  · refine ax_aload_n (i := 0) dX12_set_114 rfl rfl ?_
                    refine ax_getR dX12_set_115 fl_X12_27 rfl (OKs hZ rfl) (OKr hZ rfl) ?_
                    refine ax_iload_n (i := 1) dX12_set_118 rfl rfl ?_
                    refine ax_iload_n (i := 3) dX12_set_119 rfl rfl ?_
                    refine ax_iastN a.toNatClampNeg dX12_set_120 (OKs hZ rfl) (wi_e c_5) (has_l (by decide) hR c_5) (by decide) ?_
                    refine ax_iload dX12_set_121 rfl ?_
                    refine ax_iret dX12_set_123 rfl rfl (Nat.le_of_ble_eq_true rfl) (Nat.le_of_ble_eq_true rfl) ?_
                    exact ⟨congrArg (fun z => some (Value.int z)) (Eq.symm (by unfold r_X12_set; (try rw [if_neg c_5]); (try rw [if_neg c_14]); (try rw [if_neg c_22]); (try rw [if_neg c_32]); (try rw [if_neg c_44]); (try rw [if_neg c_51]); (try rw [if_neg c_65]); (try rw [if_neg c_86]); (try rw [if_neg c_101]); first | done | rfl)), rfl, Eq.symm (by unfold g_X12_set; (try rw [if_neg c_5]); (try rw [if_neg c_14]); (try rw [if_neg c_22]); (try rw [if_neg c_32]); (try rw [if_neg c_44]); (try rw [if_neg c_51]); (try rw [if_neg c_65]); (try rw [if_neg c_86]); (try rw [if_neg c_101]); first | done | rfl), rfl⟩
                  · exact absurd c_101 c_65
                · exact absurd c_86 c_51
              · exact absurd c_65 c_32
            · exact absurd c_51 c_22
          · refine ax_bipush (v := (-2)) dX12_set_47 (by decide) ?_
            refine ax_iret dX12_set_49 rfl rfl (Nat.le_of_ble_eq_true rfl) (Nat.le_of_ble_eq_true rfl) ?_
            exact ⟨congrArg (fun z => some (Value.int z)) (Eq.symm (by unfold r_X12_set; (try rw [if_neg c_5]); (try rw [if_neg c_14]); (try rw [if_neg c_22]); (try rw [if_neg c_32]); (try rw [if_pos c_44]); first | done | rfl)), rfl, Eq.symm (by unfold g_X12_set; (try rw [if_neg c_5]); (try rw [if_neg c_14]); (try rw [if_neg c_22]); (try rw [if_neg c_32]); (try rw [if_pos c_44]); first | done | rfl), rfl⟩
        · refine ax_bipush (v := 99) dX12_set_35 (by decide) ?_
          refine ax_goto (tgt := 41) dX12_set_37 (by decide) ?_
          refine ax_cSv dX12_set_41 lk_X12_117 (c_X12_within n 0 99) rfl rfl (Nat.le_of_ble_eq_true rfl) (Nat.le_of_ble_eq_true rfl) (Nat.le_of_ble_eq_true rfl) (Nat.le_of_ble_eq_true rfl) ?_
          refine ax_if_ne (tgt := 50) dX12_set_44 (by decide) (fun c_44 => ?_) (fun c_44 => ?_)
          · refine ax_iload_n (i := 2) dX12_set_50 rfl rfl ?_
            refine ax_if_ne (tgt := 63) dX12_set_51 (by decide) (fun c_51 => ?_) (fun c_51 => ?_)
            · refine ax_iload_n (i := 2) dX12_set_63 rfl rfl ?_
              refine ax_iconst (v := 1) dX12_set_64 (by decide) ?_
              refine ax_icmp_ne (tgt := 77) dX12_set_65 (by decide) (fun c_65 => ?_) (fun c_65 => ?_)
              · exact absurd c_32 c_65
              · refine ax_aload_n (i := 0) dX12_set_68 rfl rfl ?_
                refine ax_getR dX12_set_69 fl_X12_30 rfl (OKs hZ rfl) (OKr hZ rfl) ?_
                refine ax_iload_n (i := 1) dX12_set_72 rfl rfl ?_
                refine ax_ialdN a.toNatClampNeg dX12_set_73 (OKs hZ rfl) (wi_e c_5) (has_l (by decide) hR c_5) (by decide) ?_
                refine ax_goto (tgt := 83) dX12_set_74 (by decide) ?_
                refine ax_istore dX12_set_83 (by decide) rfl ?_
                refine ax_iload_n (i := 2) dX12_set_85 rfl rfl ?_
                refine ax_if_ne (tgt := 99) dX12_set_86 (by decide) (fun c_86 => ?_) (fun c_86 => ?_)
                · refine ax_iload_n (i := 2) dX12_set_99 rfl rfl ?_
                  refine ax_iconst (v := 1) dX12_set_100 (by decide) ?_
                  refine ax_icmp_ne (tgt := 114) dX12_set_101 (by decide) (fun c_101 => ?_) (fun c_101 => ?_)
                  · exact absurd c_65 c_101
                  · refine ax_aload_n (i := 0) dX12_set_104 rfl rfl ?_
                    refine ax_getR dX12_set_105 fl_X12_30 rfl (OKs hZ rfl) (OKr hZ rfl) ?_
                    refine ax_iload_n (i := 1) dX12_set_108 rfl rfl ?_
                    refine ax_iload_n (i := 3) dX12_set_109 rfl rfl ?_
                    refine ax_iastN a.toNatClampNeg dX12_set_110 (OKs hZ rfl) (wi_e c_5) (has_l (by decide) hR c_5) (by decide) ?_
                    refine ax_goto (tgt := 121) dX12_set_111 (by decide) ?_
                    refine ax_iload dX12_set_121 rfl ?_
                    refine ax_iret dX12_set_123 rfl rfl (Nat.le_of_ble_eq_true rfl) (Nat.le_of_ble_eq_true rfl) ?_
                    exact ⟨congrArg (fun z => some (Value.int z)) (Eq.symm (by unfold r_X12_set; (try rw [if_neg c_5]); (try rw [if_neg c_14]); (try rw [if_neg c_22]); (try rw [if_pos c_32]); (try rw [if_neg c_44]); (try rw [if_neg c_51]); (try rw [if_pos c_65]); (try rw [if_neg c_86]); (try rw [if_pos c_101]); first | done | rfl)), rfl, Eq.symm (by unfold g_X12_set; (try rw [if_neg c_5]); (try rw [if_neg c_14]); (try rw [if_neg c_22]); (try rw [if_pos c_32]); (try rw [if_neg c_44]); (try rw [if_neg c_51]); (try rw [if_pos c_65]); (try rw [if_neg c_86]); (try rw [if_pos c_101]); first | done | rfl), rfl⟩
                · exact absurd c_86 c_51
            · exact absurd c_51 c_22
          · refine ax_bipush (v := (-2)) dX12_set_47 (by decide) ?_
            refine ax_iret dX12_set_49 rfl rfl (Nat.le_of_ble_eq_true rfl) (Nat.le_of_ble_eq_true rfl) ?_
            exact ⟨congrArg (fun z => some (Value.int z)) (Eq.symm (by unfold r_X12_set; (try rw [if_neg c_5]); (try rw [if_neg c_14]); (try rw [if_neg c_22]); (try rw [if_pos c_32]); (try rw [if_pos c_44]); first | done | rfl)), rfl, Eq.symm (by unfold g_X12_set; (try rw [if_neg c_5]); (try rw [if_neg c_14]); (try rw [if_neg c_22]); (try rw [if_pos c_32]); (try rw [if_pos c_44]); first | done | rfl), rfl⟩
      · refine ax_bipush (v := 20) dX12_set_25 (by decide) ?_
        refine ax_goto (tgt := 41) dX12_set_27 (by decide) ?_
        refine ax_cSv dX12_set_41 lk_X12_117 (c_X12_within n 0 20) rfl rfl (Nat.le_of_ble_eq_true rfl) (Nat.le_of_ble_eq_true rfl) (Nat.le_of_ble_eq_true rfl) (Nat.le_of_ble_eq_true rfl) ?_
        refine ax_if_ne (tgt := 50) dX12_set_44 (by decide) (fun c_44 => ?_) (fun c_44 => ?_)
        · refine ax_iload_n (i := 2) dX12_set_50 rfl rfl ?_
          refine ax_if_ne (tgt := 63) dX12_set_51 (by decide) (fun c_51 => ?_) (fun c_51 => ?_)
          · exact absurd c_22 c_51
          · refine ax_aload_n (i := 0) dX12_set_54 rfl rfl ?_
            refine ax_getR dX12_set_55 fl_X12_24 rfl (OKs hZ rfl) (OKr hZ rfl) ?_
            refine ax_iload_n (i := 1) dX12_set_58 rfl rfl ?_
            refine ax_ialdN a.toNatClampNeg dX12_set_59 (OKs hZ rfl) (wi_e c_5) (has_l (by decide) hR c_5) (by decide) ?_
            refine ax_goto (tgt := 83) dX12_set_60 (by decide) ?_
            refine ax_istore dX12_set_83 (by decide) rfl ?_
            refine ax_iload_n (i := 2) dX12_set_85 rfl rfl ?_
            refine ax_if_ne (tgt := 99) dX12_set_86 (by decide) (fun c_86 => ?_) (fun c_86 => ?_)
            · exact absurd c_51 c_86
            · refine ax_aload_n (i := 0) dX12_set_89 rfl rfl ?_
              refine ax_getR dX12_set_90 fl_X12_24 rfl (OKs hZ rfl) (OKr hZ rfl) ?_
              refine ax_iload_n (i := 1) dX12_set_93 rfl rfl ?_
              refine ax_iload_n (i := 3) dX12_set_94 rfl rfl ?_
              refine ax_iastN a.toNatClampNeg dX12_set_95 (OKs hZ rfl) (wi_e c_5) (has_l (by decide) hR c_5) (by decide) ?_
              refine ax_goto (tgt := 121) dX12_set_96 (by decide) ?_
              refine ax_iload dX12_set_121 rfl ?_
              refine ax_iret dX12_set_123 rfl rfl (Nat.le_of_ble_eq_true rfl) (Nat.le_of_ble_eq_true rfl) ?_
              exact ⟨congrArg (fun z => some (Value.int z)) (Eq.symm (by unfold r_X12_set; (try rw [if_neg c_5]); (try rw [if_neg c_14]); (try rw [if_pos c_22]); (try rw [if_neg c_44]); (try rw [if_pos c_51]); (try rw [if_pos c_86]); first | done | rfl)), rfl, Eq.symm (by unfold g_X12_set; (try rw [if_neg c_5]); (try rw [if_neg c_14]); (try rw [if_pos c_22]); (try rw [if_neg c_44]); (try rw [if_pos c_51]); (try rw [if_pos c_86]); first | done | rfl), rfl⟩
        · refine ax_bipush (v := (-2)) dX12_set_47 (by decide) ?_
          refine ax_iret dX12_set_49 rfl rfl (Nat.le_of_ble_eq_true rfl) (Nat.le_of_ble_eq_true rfl) ?_
          exact ⟨congrArg (fun z => some (Value.int z)) (Eq.symm (by unfold r_X12_set; (try rw [if_neg c_5]); (try rw [if_neg c_14]); (try rw [if_pos c_22]); (try rw [if_pos c_44]); first | done | rfl)), rfl, Eq.symm (by unfold g_X12_set; (try rw [if_neg c_5]); (try rw [if_neg c_14]); (try rw [if_pos c_22]); (try rw [if_pos c_44]); first | done | rfl), rfl⟩
    · refine ax_iconst (v := (-1)) dX12_set_17 (by decide) ?_
      refine ax_iret dX12_set_18 rfl rfl (Nat.le_of_ble_eq_true rfl) (Nat.le_of_ble_eq_true rfl) ?_
      exact ⟨congrArg (fun z => some (Value.int z)) (Eq.symm (by unfold r_X12_set; (try rw [if_neg c_5]); (try rw [if_pos c_14]); first | done | rfl)), rfl, Eq.symm (by unfold g_X12_set; (try rw [if_neg c_5]); (try rw [if_pos c_14]); first | done | rfl), rfl⟩
def r_X12_count (G : Gt) (L : Lt) (a : Int32) : Int32 := if a = 0 then (G 75 2) else (if a = 1 then (G 75 17) else (if a = 2 then (G 75 27) else (if a = 3 then (G 75 31) else (if a = 4 then (G 75 34) else (if a = 5 then (G 75 11) else (if a = 6 then (G 75 37) else (-2)))))))
theorem c_X12_count {Z : Zt} {G : Gt} {L : Lt}  (hZ : OK Z) (a : Int32)  : AC mX12_count 1 0 0 [.ref 75, .int a] Z G L (DQ (some (.int (r_X12_count G L a))) Z G L) := by
  refine AC.intro (by decide +kernel) (Nat.le_of_ble_eq_true rfl) ?_
  refine ax_lv [(0, .ref 75), (1, .int a)] ⟨rfl, rfl, trivial⟩ ?_
  refine ax_iload_n (i := 1) dX12_count_0 rfl rfl ?_
  refine (Decidable.em (a = 0)).elim (fun e_1_0 => ?_) (fun e_1_0 => ?_)
  · refine ax_tin (off := 43) (tgt := 44) dX12_count_1 (by rw [e_1_0]; decide) (by rw [e_1_0]; decide) (by rw [e_1_0]; decide) (by decide) ?_
    refine ax_aload_n (i := 0) dX12_count_44 rfl rfl ?_
    refine ax_getI dX12_count_45 fl_X12_114 rfl (OKs hZ rfl) ?_
    refine ax_iret dX12_count_48 rfl rfl (Nat.le_of_ble_eq_true rfl) (Nat.le_of_ble_eq_true rfl) ?_
    exact ⟨congrArg (fun z => some (Value.int z)) (Eq.symm (by unfold r_X12_count; (try rw [if_pos e_1_0]); first | done | rfl)), rfl, rfl, rfl⟩
  refine (Decidable.em (a = 1)).elim (fun e_1_1 => ?_) (fun e_1_1 => ?_)
  · refine ax_tin (off := 48) (tgt := 49) dX12_count_1 (by rw [e_1_1]; decide) (by rw [e_1_1]; decide) (by rw [e_1_1]; decide) (by decide) ?_
    refine ax_aload_n (i := 0) dX12_count_49 rfl rfl ?_
    refine ax_getI dX12_count_50 fl_X12_218 rfl (OKs hZ rfl) ?_
    refine ax_iret dX12_count_53 rfl rfl (Nat.le_of_ble_eq_true rfl) (Nat.le_of_ble_eq_true rfl) ?_
    exact ⟨congrArg (fun z => some (Value.int z)) (Eq.symm (by unfold r_X12_count; (try rw [if_neg e_1_0]); (try rw [if_pos e_1_1]); first | done | rfl)), rfl, rfl, rfl⟩
  refine (Decidable.em (a = 2)).elim (fun e_1_2 => ?_) (fun e_1_2 => ?_)
  · refine ax_tin (off := 53) (tgt := 54) dX12_count_1 (by rw [e_1_2]; decide) (by rw [e_1_2]; decide) (by rw [e_1_2]; decide) (by decide) ?_
    refine ax_aload_n (i := 0) dX12_count_54 rfl rfl ?_
    refine ax_getI dX12_count_55 fl_X12_291 rfl (OKs hZ rfl) ?_
    refine ax_iret dX12_count_58 rfl rfl (Nat.le_of_ble_eq_true rfl) (Nat.le_of_ble_eq_true rfl) ?_
    exact ⟨congrArg (fun z => some (Value.int z)) (Eq.symm (by unfold r_X12_count; (try rw [if_neg e_1_0]); (try rw [if_neg e_1_1]); (try rw [if_pos e_1_2]); first | done | rfl)), rfl, rfl, rfl⟩
  refine (Decidable.em (a = 3)).elim (fun e_1_3 => ?_) (fun e_1_3 => ?_)
  · refine ax_tin (off := 58) (tgt := 59) dX12_count_1 (by rw [e_1_3]; decide) (by rw [e_1_3]; decide) (by rw [e_1_3]; decide) (by decide) ?_
    refine ax_aload_n (i := 0) dX12_count_59 rfl rfl ?_
    refine ax_getI dX12_count_60 fl_X12_308 rfl (OKs hZ rfl) ?_
    refine ax_iret dX12_count_63 rfl rfl (Nat.le_of_ble_eq_true rfl) (Nat.le_of_ble_eq_true rfl) ?_
    exact ⟨congrArg (fun z => some (Value.int z)) (Eq.symm (by unfold r_X12_count; (try rw [if_neg e_1_0]); (try rw [if_neg e_1_1]); (try rw [if_neg e_1_2]); (try rw [if_pos e_1_3]); first | done | rfl)), rfl, rfl, rfl⟩
  refine (Decidable.em (a = 4)).elim (fun e_1_4 => ?_) (fun e_1_4 => ?_)
  · refine ax_tin (off := 63) (tgt := 64) dX12_count_1 (by rw [e_1_4]; decide) (by rw [e_1_4]; decide) (by rw [e_1_4]; decide) (by decide) ?_
    refine ax_aload_n (i := 0) dX12_count_64 rfl rfl ?_
    refine ax_getI dX12_count_65 fl_X12_311 rfl (OKs hZ rfl) ?_
    refine ax_iret dX12_count_68 rfl rfl (Nat.le_of_ble_eq_true rfl) (Nat.le_of_ble_eq_true rfl) ?_
    exact ⟨congrArg (fun z => some (Value.int z)) (Eq.symm (by unfold r_X12_count; (try rw [if_neg e_1_0]); (try rw [if_neg e_1_1]); (try rw [if_neg e_1_2]); (try rw [if_neg e_1_3]); (try rw [if_pos e_1_4]); first | done | rfl)), rfl, rfl, rfl⟩
  refine (Decidable.em (a = 5)).elim (fun e_1_5 => ?_) (fun e_1_5 => ?_)
  · refine ax_tin (off := 68) (tgt := 69) dX12_count_1 (by rw [e_1_5]; decide) (by rw [e_1_5]; decide) (by rw [e_1_5]; decide) (by decide) ?_
    refine ax_aload_n (i := 0) dX12_count_69 rfl rfl ?_
    refine ax_getI dX12_count_70 fl_X12_146 rfl (OKs hZ rfl) ?_
    refine ax_iret dX12_count_73 rfl rfl (Nat.le_of_ble_eq_true rfl) (Nat.le_of_ble_eq_true rfl) ?_
    exact ⟨congrArg (fun z => some (Value.int z)) (Eq.symm (by unfold r_X12_count; (try rw [if_neg e_1_0]); (try rw [if_neg e_1_1]); (try rw [if_neg e_1_2]); (try rw [if_neg e_1_3]); (try rw [if_neg e_1_4]); (try rw [if_pos e_1_5]); first | done | rfl)), rfl, rfl, rfl⟩
  refine (Decidable.em (a = 6)).elim (fun e_1_6 => ?_) (fun e_1_6 => ?_)
  · refine ax_tin (off := 73) (tgt := 74) dX12_count_1 (by rw [e_1_6]; decide) (by rw [e_1_6]; decide) (by rw [e_1_6]; decide) (by decide) ?_
    refine ax_aload_n (i := 0) dX12_count_74 rfl rfl ?_
    refine ax_getI dX12_count_75 fl_X12_318 rfl (OKs hZ rfl) ?_
    refine ax_iret dX12_count_78 rfl rfl (Nat.le_of_ble_eq_true rfl) (Nat.le_of_ble_eq_true rfl) ?_
    exact ⟨congrArg (fun z => some (Value.int z)) (Eq.symm (by unfold r_X12_count; (try rw [if_neg e_1_0]); (try rw [if_neg e_1_1]); (try rw [if_neg e_1_2]); (try rw [if_neg e_1_3]); (try rw [if_neg e_1_4]); (try rw [if_neg e_1_5]); (try rw [if_pos e_1_6]); first | done | rfl)), rfl, rfl, rfl⟩
  refine ax_tout (tgt := 79) dX12_count_1 (sw_out 7 (by decide) (by decide) ⟨⟨⟨⟨⟨⟨⟨trivial, e_1_0⟩, e_1_1⟩, e_1_2⟩, e_1_3⟩, e_1_4⟩, e_1_5⟩, e_1_6⟩) (by decide) ?_
  refine ax_bipush (v := (-2)) dX12_count_79 (by decide) ?_
  refine ax_iret dX12_count_81 rfl rfl (Nat.le_of_ble_eq_true rfl) (Nat.le_of_ble_eq_true rfl) ?_
  exact ⟨congrArg (fun z => some (Value.int z)) (Eq.symm (by unfold r_X12_count; (try rw [if_neg e_1_0]); (try rw [if_neg e_1_1]); (try rw [if_neg e_1_2]); (try rw [if_neg e_1_3]); (try rw [if_neg e_1_4]); (try rw [if_neg e_1_5]); (try rw [if_neg e_1_6]); first | done | rfl)), rfl, rfl, rfl⟩
def r_X12_above (G : Gt) (L : Lt) (a : Int32) : Int32 := if a = 4 then 1 else (if a = 5 then 2 else (if a = 6 then 3 else 0))
theorem c_X12_above {Z : Zt} {G : Gt} {L : Lt}   (a : Int32)  : AC mX12_above 1 0 0 [.int a] Z G L (DQ (some (.int (r_X12_above G L a))) Z G L) := by
  refine AC.intro (by decide +kernel) (Nat.le_of_ble_eq_true rfl) ?_
  refine ax_lv [(0, .int a)] ⟨rfl, trivial⟩ ?_
  refine ax_iload_n (i := 0) dX12_above_0 rfl rfl ?_
  refine ax_iconst (v := 4) dX12_above_1 (by decide) ?_
  refine ax_icmp_ne (tgt := 9) dX12_above_2 (by decide) (fun c_2 => ?_) (fun c_2 => ?_)
  · refine ax_iload_n (i := 0) dX12_above_9 rfl rfl ?_
    refine ax_iconst (v := 5) dX12_above_10 (by decide) ?_
    refine ax_icmp_ne (tgt := 18) dX12_above_11 (by decide) (fun c_11 => ?_) (fun c_11 => ?_)
    · refine ax_iload_n (i := 0) dX12_above_18 rfl rfl ?_
      refine ax_bipush (v := 6) dX12_above_19 (by decide) ?_
      refine ax_icmp_ne (tgt := 28) dX12_above_21 (by decide) (fun c_21 => ?_) (fun c_21 => ?_)
      · refine ax_iconst (v := 0) dX12_above_28 (by decide) ?_
        refine ax_iret dX12_above_29 rfl rfl (Nat.le_of_ble_eq_true rfl) (Nat.le_of_ble_eq_true rfl) ?_
        exact ⟨congrArg (fun z => some (Value.int z)) (Eq.symm (by unfold r_X12_above; (try rw [if_neg c_2]); (try rw [if_neg c_11]); (try rw [if_neg c_21]); first | done | rfl)), rfl, rfl, rfl⟩
      · refine ax_iconst (v := 3) dX12_above_24 (by decide) ?_
        refine ax_goto (tgt := 29) dX12_above_25 (by decide) ?_
        refine ax_iret dX12_above_29 rfl rfl (Nat.le_of_ble_eq_true rfl) (Nat.le_of_ble_eq_true rfl) ?_
        exact ⟨congrArg (fun z => some (Value.int z)) (Eq.symm (by unfold r_X12_above; (try rw [if_neg c_2]); (try rw [if_neg c_11]); (try rw [if_pos c_21]); first | done | rfl)), rfl, rfl, rfl⟩
    · refine ax_iconst (v := 2) dX12_above_14 (by decide) ?_
      refine ax_goto (tgt := 29) dX12_above_15 (by decide) ?_
      refine ax_iret dX12_above_29 rfl rfl (Nat.le_of_ble_eq_true rfl) (Nat.le_of_ble_eq_true rfl) ?_
      exact ⟨congrArg (fun z => some (Value.int z)) (Eq.symm (by unfold r_X12_above; (try rw [if_neg c_2]); (try rw [if_pos c_11]); first | done | rfl)), rfl, rfl, rfl⟩
  · refine ax_iconst (v := 1) dX12_above_5 (by decide) ?_
    refine ax_goto (tgt := 29) dX12_above_6 (by decide) ?_
    refine ax_iret dX12_above_29 rfl rfl (Nat.le_of_ble_eq_true rfl) (Nat.le_of_ble_eq_true rfl) ?_
    exact ⟨congrArg (fun z => some (Value.int z)) (Eq.symm (by unfold r_X12_above; (try rw [if_pos c_2]); first | done | rfl)), rfl, rfl, rfl⟩
def r_X12_has (G : Gt) (L : Lt) (a : Int32) (b : Int32) : Int32 := if ((a >>> (b &&& 31)) &&& 1) = 1 then 1 else 0
theorem c_X12_has {Z : Zt} {G : Gt} {L : Lt}   (a : Int32) (b : Int32)  : AC mX12_has 1 0 0 [.int a, .int b] Z G L (DQ (some (.int (r_X12_has G L a b))) Z G L) := by
  refine AC.intro (by decide +kernel) (Nat.le_of_ble_eq_true rfl) ?_
  refine ax_lv [(0, .int a), (1, .int b)] ⟨rfl, rfl, trivial⟩ ?_
  refine ax_iload_n (i := 0) dX12_has_0 rfl rfl ?_
  refine ax_iload_n (i := 1) dX12_has_1 rfl rfl ?_
  refine ax_ishr dX12_has_2 ?_
  refine ax_iconst (v := 1) dX12_has_3 (by decide) ?_
  refine ax_iand dX12_has_4 ?_
  refine ax_iconst (v := 1) dX12_has_5 (by decide) ?_
  refine ax_icmp_ne (tgt := 13) dX12_has_6 (by decide) (fun c_6 => ?_) (fun c_6 => ?_)
  · refine ax_iconst (v := 0) dX12_has_13 (by decide) ?_
    refine ax_iret dX12_has_14 rfl rfl (Nat.le_of_ble_eq_true rfl) (Nat.le_of_ble_eq_true rfl) ?_
    exact ⟨congrArg (fun z => some (Value.int z)) (Eq.symm (by unfold r_X12_has; (try rw [if_neg c_6]); first | done | rfl)), rfl, rfl, rfl⟩
  · refine ax_iconst (v := 1) dX12_has_9 (by decide) ?_
    refine ax_goto (tgt := 14) dX12_has_10 (by decide) ?_
    refine ax_iret dX12_has_14 rfl rfl (Nat.le_of_ble_eq_true rfl) (Nat.le_of_ble_eq_true rfl) ?_
    exact ⟨congrArg (fun z => some (Value.int z)) (Eq.symm (by unfold r_X12_has; (try rw [if_pos c_6]); first | done | rfl)), rfl, rfl, rfl⟩
def r_X12_row (G : Gt) (L : Lt) (a : Int32) (b : Int32) (n : Int32) : Int32 := if (wi a 0 (G 75 2 - 1)) = 0 then (-1) else (if (wi b 0 3) = 0 then (-1) else (if (wi n 0 9) = 0 then (-2) else (if (G 78 a.toNatClampNeg) = 6 then (G 84 (4 * a.toNatClampNeg + b.toNatClampNeg)) else (-3))))
def g_X12_row (G : Gt) (L : Lt) (a : Int32) (b : Int32) (n : Int32) : Gt := if (wi a 0 (G 75 2 - 1)) = 0 then G else (if (wi b 0 3) = 0 then G else (if (wi n 0 9) = 0 then G else (if (G 78 a.toNatClampNeg) = 6 then (up2 G 84 (4 * a.toNatClampNeg + b.toNatClampNeg) n) else G)))
theorem c_X12_row {Z : Zt} {G : Gt} {L : Lt}  (hZ : OK Z) (hR : cntOK 6 (G 75 2)) (a : Int32) (b : Int32) (n : Int32)  : AC mX12_row 3 0 0 [.ref 75, .int a, .int b, .int n] Z G L (DQ (some (.int (r_X12_row G L a b n))) Z (g_X12_row G L a b n) L) := by
  refine AC.intro (by decide +kernel) (Nat.le_of_ble_eq_true rfl) ?_
  refine ax_lv [(0, .ref 75), (1, .int a), (2, .int b), (3, .int n)] ⟨rfl, rfl, rfl, rfl, trivial⟩ ?_
  refine ax_aload_n (i := 0) dX12_row_0 rfl rfl ?_
  refine ax_iload_n (i := 1) dX12_row_1 rfl rfl ?_
  refine ax_cVv dX12_row_2 lk_X12_125 (c_X12_isOne hZ a) rfl (OKs hZ rfl) ⟨_, rfl, rfl⟩ rfl (Nat.le_of_ble_eq_true rfl) (Nat.le_of_ble_eq_true rfl) (Nat.le_of_ble_eq_true rfl) (Nat.le_of_ble_eq_true rfl) ?_
  refine ax_if_eq (tgt := 17) dX12_row_5 (by decide) (fun c_5 => ?_) (fun c_5 => ?_)
  · refine ax_iconst (v := (-1)) dX12_row_17 (by decide) ?_
    refine ax_iret dX12_row_18 rfl rfl (Nat.le_of_ble_eq_true rfl) (Nat.le_of_ble_eq_true rfl) ?_
    exact ⟨congrArg (fun z => some (Value.int z)) (Eq.symm (by unfold r_X12_row; (try rw [if_pos c_5]); first | done | rfl)), rfl, Eq.symm (by unfold g_X12_row; (try rw [if_pos c_5]); first | done | rfl), rfl⟩
  · refine ax_iload_n (i := 2) dX12_row_8 rfl rfl ?_
    refine ax_iconst (v := 0) dX12_row_9 (by decide) ?_
    refine ax_iconst (v := 3) dX12_row_10 (by decide) ?_
    refine ax_cSv dX12_row_11 lk_X12_117 (c_X12_within b 0 3) rfl rfl (Nat.le_of_ble_eq_true rfl) (Nat.le_of_ble_eq_true rfl) (Nat.le_of_ble_eq_true rfl) (Nat.le_of_ble_eq_true rfl) ?_
    refine ax_if_ne (tgt := 19) dX12_row_14 (by decide) (fun c_14 => ?_) (fun c_14 => ?_)
    · refine ax_iload_n (i := 3) dX12_row_19 rfl rfl ?_
      refine ax_iconst (v := 0) dX12_row_20 (by decide) ?_
      refine ax_bipush (v := 9) dX12_row_21 (by decide) ?_
      refine ax_cSv dX12_row_23 lk_X12_117 (c_X12_within n 0 9) rfl rfl (Nat.le_of_ble_eq_true rfl) (Nat.le_of_ble_eq_true rfl) (Nat.le_of_ble_eq_true rfl) (Nat.le_of_ble_eq_true rfl) ?_
      refine ax_if_ne (tgt := 32) dX12_row_26 (by decide) (fun c_26 => ?_) (fun c_26 => ?_)
      · refine ax_aload_n (i := 0) dX12_row_32 rfl rfl ?_
        refine ax_getR dX12_row_33 fl_X12_18 rfl (OKs hZ rfl) (OKr hZ rfl) ?_
        refine ax_iload_n (i := 1) dX12_row_36 rfl rfl ?_
        refine ax_ialdN a.toNatClampNeg dX12_row_37 (OKs hZ rfl) (wi_e c_5) (has_l (by decide) hR c_5) (by decide) ?_
        refine ax_bipush (v := 6) dX12_row_38 (by decide) ?_
        refine ax_icmp_eq (tgt := 46) dX12_row_40 (by decide) (fun c_40 => ?_) (fun c_40 => ?_)
        · refine ax_aload_n (i := 0) dX12_row_46 rfl rfl ?_
          refine ax_getR dX12_row_47 fl_X12_36 rfl (OKs hZ rfl) (OKr hZ rfl) ?_
          refine ax_iconst (v := 4) dX12_row_50 (by decide) ?_
          refine ax_iload_n (i := 1) dX12_row_51 rfl rfl ?_
          refine ax_imul dX12_row_52 ?_
          refine ax_iload_n (i := 2) dX12_row_53 rfl rfl ?_
          refine ax_iadd dX12_row_54 ?_
          refine ax_ialdN (4 * a.toNatClampNeg + b.toNatClampNeg) dX12_row_55 (OKs hZ rfl) (ix2 4 (wi_e c_5) (wi_e c_14)) (by have := has_l (by decide) hR c_5; have := wi_l (n := 4) c_14 (by decide); omega) (by decide) ?_
          refine ax_istore dX12_row_56 (by decide) rfl ?_
          refine ax_aload_n (i := 0) dX12_row_58 rfl rfl ?_
          refine ax_getR dX12_row_59 fl_X12_36 rfl (OKs hZ rfl) (OKr hZ rfl) ?_
          refine ax_iconst (v := 4) dX12_row_62 (by decide) ?_
          refine ax_iload_n (i := 1) dX12_row_63 rfl rfl ?_
          refine ax_imul dX12_row_64 ?_
          refine ax_iload_n (i := 2) dX12_row_65 rfl rfl ?_
          refine ax_iadd dX12_row_66 ?_
          refine ax_iload_n (i := 3) dX12_row_67 rfl rfl ?_
          refine ax_iastN (4 * a.toNatClampNeg + b.toNatClampNeg) dX12_row_68 (OKs hZ rfl) (ix2 4 (wi_e c_5) (wi_e c_14)) (by have := has_l (by decide) hR c_5; have := wi_l (n := 4) c_14 (by decide); omega) (by decide) ?_
          refine ax_iload dX12_row_69 rfl ?_
          refine ax_iret dX12_row_71 rfl rfl (Nat.le_of_ble_eq_true rfl) (Nat.le_of_ble_eq_true rfl) ?_
          exact ⟨congrArg (fun z => some (Value.int z)) (Eq.symm (by unfold r_X12_row; (try rw [if_neg c_5]); (try rw [if_neg c_14]); (try rw [if_neg c_26]); (try rw [if_pos c_40]); first | done | rfl)), rfl, Eq.symm (by unfold g_X12_row; (try rw [if_neg c_5]); (try rw [if_neg c_14]); (try rw [if_neg c_26]); (try rw [if_pos c_40]); first | done | rfl), rfl⟩
        · refine ax_bipush (v := (-3)) dX12_row_43 (by decide) ?_
          refine ax_iret dX12_row_45 rfl rfl (Nat.le_of_ble_eq_true rfl) (Nat.le_of_ble_eq_true rfl) ?_
          exact ⟨congrArg (fun z => some (Value.int z)) (Eq.symm (by unfold r_X12_row; (try rw [if_neg c_5]); (try rw [if_neg c_14]); (try rw [if_neg c_26]); (try rw [if_neg c_40]); first | done | rfl)), rfl, Eq.symm (by unfold g_X12_row; (try rw [if_neg c_5]); (try rw [if_neg c_14]); (try rw [if_neg c_26]); (try rw [if_neg c_40]); first | done | rfl), rfl⟩
      · refine ax_bipush (v := (-2)) dX12_row_29 (by decide) ?_
        refine ax_iret dX12_row_31 rfl rfl (Nat.le_of_ble_eq_true rfl) (Nat.le_of_ble_eq_true rfl) ?_
        exact ⟨congrArg (fun z => some (Value.int z)) (Eq.symm (by unfold r_X12_row; (try rw [if_neg c_5]); (try rw [if_neg c_14]); (try rw [if_pos c_26]); first | done | rfl)), rfl, Eq.symm (by unfold g_X12_row; (try rw [if_neg c_5]); (try rw [if_neg c_14]); (try rw [if_pos c_26]); first | done | rfl), rfl⟩
    · refine ax_iconst (v := (-1)) dX12_row_17 (by decide) ?_
      refine ax_iret dX12_row_18 rfl rfl (Nat.le_of_ble_eq_true rfl) (Nat.le_of_ble_eq_true rfl) ?_
      exact ⟨congrArg (fun z => some (Value.int z)) (Eq.symm (by unfold r_X12_row; (try rw [if_neg c_5]); (try rw [if_pos c_14]); first | done | rfl)), rfl, Eq.symm (by unfold g_X12_row; (try rw [if_neg c_5]); (try rw [if_pos c_14]); first | done | rfl), rfl⟩
def r_X12_feed (G : Gt) (L : Lt) (a : Int32) : Int32 := if (wi a 0 127) = 0 then (-2) else (if (G 75 11) = 100 then (-4) else ((up2 (up2 G 75 11 ((G 75 11) + 1)) 85 ((G 75 11).toNatClampNeg) a) 75 11))
def g_X12_feed (G : Gt) (L : Lt) (a : Int32) : Gt := if (wi a 0 127) = 0 then G else (if (G 75 11) = 100 then G else (up2 (up2 G 75 11 ((G 75 11) + 1)) 85 ((G 75 11).toNatClampNeg) a))
theorem c_X12_feed {Z : Zt} {G : Gt} {L : Lt}  (hZ : OK Z) (hT : cntOK 100 (G 75 11)) (a : Int32)  : AC mX12_feed 2 0 0 [.ref 75, .int a] Z G L (DQ (some (.int (r_X12_feed G L a))) Z (g_X12_feed G L a) L) := by
  refine AC.intro (by decide +kernel) (Nat.le_of_ble_eq_true rfl) ?_
  refine ax_lv [(0, .ref 75), (1, .int a)] ⟨rfl, rfl, trivial⟩ ?_
  refine ax_iload_n (i := 1) dX12_feed_0 rfl rfl ?_
  refine ax_iconst (v := 0) dX12_feed_1 (by decide) ?_
  refine ax_bipush (v := 127) dX12_feed_2 (by decide) ?_
  refine ax_cSv dX12_feed_4 lk_X12_117 (c_X12_within a 0 127) rfl rfl (Nat.le_of_ble_eq_true rfl) (Nat.le_of_ble_eq_true rfl) (Nat.le_of_ble_eq_true rfl) (Nat.le_of_ble_eq_true rfl) ?_
  refine ax_if_ne (tgt := 13) dX12_feed_7 (by decide) (fun c_7 => ?_) (fun c_7 => ?_)
  · refine ax_aload_n (i := 0) dX12_feed_13 rfl rfl ?_
    refine ax_getI dX12_feed_14 fl_X12_146 rfl (OKs hZ rfl) ?_
    refine ax_bipush (v := 100) dX12_feed_17 (by decide) ?_
    refine ax_icmp_ne (tgt := 25) dX12_feed_19 (by decide) (fun c_19 => ?_) (fun c_19 => ?_)
    · refine ax_aload_n (i := 0) dX12_feed_25 rfl rfl ?_
      refine ax_getR dX12_feed_26 fl_X12_39 rfl (OKs hZ rfl) (OKr hZ rfl) ?_
      refine ax_aload_n (i := 0) dX12_feed_29 rfl rfl ?_
      refine ax_dup dX12_feed_30 rfl ?_
      refine ax_getI dX12_feed_31 fl_X12_146 rfl (OKs hZ rfl) ?_
      refine ax_dup_x1 dX12_feed_34 rfl rfl ?_
      refine ax_iconst (v := 1) dX12_feed_35 (by decide) ?_
      refine ax_iadd dX12_feed_36 ?_
      refine ax_putI dX12_feed_37 fl_X12_146 (Or.inl fp_X12_12_11) rfl rfl rfl (OKs hZ rfl) ?_
      refine ax_iload_n (i := 1) dX12_feed_40 rfl rfl ?_
      refine ax_iastN ((G 75 11).toNatClampNeg) dX12_feed_41 (OKs hZ rfl) (cnt_e (by decide) hT) (cnt_l (by decide) hT c_19) (by decide) ?_
      refine ax_aload_n (i := 0) dX12_feed_42 rfl rfl ?_
      refine ax_getI dX12_feed_43 fl_X12_146 rfl (OKs hZ rfl) ?_
      refine ax_iret dX12_feed_46 rfl rfl (Nat.le_of_ble_eq_true rfl) (Nat.le_of_ble_eq_true rfl) ?_
      exact ⟨congrArg (fun z => some (Value.int z)) (Eq.symm (by unfold r_X12_feed; (try rw [if_neg c_7]); (try rw [if_neg c_19]); first | done | rfl)), rfl, Eq.symm (by unfold g_X12_feed; (try rw [if_neg c_7]); (try rw [if_neg c_19]); first | done | rfl), rfl⟩
    · refine ax_bipush (v := (-4)) dX12_feed_22 (by decide) ?_
      refine ax_iret dX12_feed_24 rfl rfl (Nat.le_of_ble_eq_true rfl) (Nat.le_of_ble_eq_true rfl) ?_
      exact ⟨congrArg (fun z => some (Value.int z)) (Eq.symm (by unfold r_X12_feed; (try rw [if_neg c_7]); (try rw [if_pos c_19]); first | done | rfl)), rfl, Eq.symm (by unfold g_X12_feed; (try rw [if_neg c_7]); (try rw [if_pos c_19]); first | done | rfl), rfl⟩
  · refine ax_bipush (v := (-2)) dX12_feed_10 (by decide) ?_
    refine ax_iret dX12_feed_12 rfl rfl (Nat.le_of_ble_eq_true rfl) (Nat.le_of_ble_eq_true rfl) ?_
    exact ⟨congrArg (fun z => some (Value.int z)) (Eq.symm (by unfold r_X12_feed; (try rw [if_pos c_7]); first | done | rfl)), rfl, Eq.symm (by unfold g_X12_feed; (try rw [if_pos c_7]); first | done | rfl), rfl⟩
def r_X12_is (G : Gt) (L : Lt) (a : Int32) : Int32 := if (G 75 13) = (G 75 11) then 0 else (if (G 85 ((G 75 13).toNatClampNeg)) = a then 1 else 0)
def g_X12_is (G : Gt) (L : Lt) (a : Int32) : Gt := if (G 75 13) = (G 75 11) then G else (if (G 85 ((G 75 13).toNatClampNeg)) = a then (up2 G 75 13 ((G 75 13) + 1)) else G)
theorem c_X12_is {Z : Zt} {G : Gt} {L : Lt}  (hZ : OK Z) (hT : txOK (G 75 13) (G 75 11)) (a : Int32)  : AC mX12_is 1 0 0 [.ref 75, .int a] Z G L (DQ (some (.int (r_X12_is G L a))) Z (g_X12_is G L a) L) := by
  refine AC.intro (by decide +kernel) (Nat.le_of_ble_eq_true rfl) ?_
  refine ax_lv [(0, .ref 75), (1, .int a)] ⟨rfl, rfl, trivial⟩ ?_
  refine ax_aload_n (i := 0) dX12_is_0 rfl rfl ?_
  refine ax_getI dX12_is_1 fl_X12_149 rfl (OKs hZ rfl) ?_
  refine ax_aload_n (i := 0) dX12_is_4 rfl rfl ?_
  refine ax_getI dX12_is_5 fl_X12_146 rfl (OKs hZ rfl) ?_
  refine ax_icmp_eq (tgt := 24) dX12_is_8 (by decide) (fun c_8 => ?_) (fun c_8 => ?_)
  · refine ax_iconst (v := 0) dX12_is_24 (by decide) ?_
    refine ax_iret dX12_is_25 rfl rfl (Nat.le_of_ble_eq_true rfl) (Nat.le_of_ble_eq_true rfl) ?_
    exact ⟨congrArg (fun z => some (Value.int z)) (Eq.symm (by unfold r_X12_is; (try rw [if_pos c_8]); first | done | rfl)), rfl, Eq.symm (by unfold g_X12_is; (try rw [if_pos c_8]); first | done | rfl), rfl⟩
  · refine ax_aload_n (i := 0) dX12_is_11 rfl rfl ?_
    refine ax_getR dX12_is_12 fl_X12_39 rfl (OKs hZ rfl) (OKr hZ rfl) ?_
    refine ax_aload_n (i := 0) dX12_is_15 rfl rfl ?_
    refine ax_getI dX12_is_16 fl_X12_149 rfl (OKs hZ rfl) ?_
    refine ax_ialdN ((G 75 13).toNatClampNeg) dX12_is_19 (OKs hZ rfl) (tx_e hT) (tx_ne hT c_8) (by decide) ?_
    refine ax_iload_n (i := 1) dX12_is_20 rfl rfl ?_
    refine ax_icmp_eq (tgt := 26) dX12_is_21 (by decide) (fun c_21 => ?_) (fun c_21 => ?_)
    · refine ax_aload_n (i := 0) dX12_is_26 rfl rfl ?_
      refine ax_dup dX12_is_27 rfl ?_
      refine ax_getI dX12_is_28 fl_X12_149 rfl (OKs hZ rfl) ?_
      refine ax_iconst (v := 1) dX12_is_31 (by decide) ?_
      refine ax_iadd dX12_is_32 ?_
      refine ax_putI dX12_is_33 fl_X12_149 (Or.inl fp_X12_12_13) rfl rfl rfl (OKs hZ rfl) ?_
      refine ax_iconst (v := 1) dX12_is_36 (by decide) ?_
      refine ax_iret dX12_is_37 rfl rfl (Nat.le_of_ble_eq_true rfl) (Nat.le_of_ble_eq_true rfl) ?_
      exact ⟨congrArg (fun z => some (Value.int z)) (Eq.symm (by unfold r_X12_is; (try rw [if_neg c_8]); (try rw [if_pos c_21]); first | done | rfl)), rfl, Eq.symm (by unfold g_X12_is; (try rw [if_neg c_8]); (try rw [if_pos c_21]); first | done | rfl), rfl⟩
    · refine ax_iconst (v := 0) dX12_is_24 (by decide) ?_
      refine ax_iret dX12_is_25 rfl rfl (Nat.le_of_ble_eq_true rfl) (Nat.le_of_ble_eq_true rfl) ?_
      exact ⟨congrArg (fun z => some (Value.int z)) (Eq.symm (by unfold r_X12_is; (try rw [if_neg c_8]); (try rw [if_neg c_21]); first | done | rfl)), rfl, Eq.symm (by unfold g_X12_is; (try rw [if_neg c_8]); (try rw [if_neg c_21]); first | done | rfl), rfl⟩
def r_X12_isDigit (G : Gt) (L : Lt)  : Int32 := if (G 75 11) ≤ (G 75 13) then 0 else (if (G 85 ((G 75 13).toNatClampNeg)) < 48 then 0 else (if 57 < (G 85 ((G 75 13).toNatClampNeg)) then 0 else 1))
theorem c_X12_isDigit {Z : Zt} {G : Gt} {L : Lt}  (hZ : OK Z) (hT : txOK (G 75 13) (G 75 11))   : AC mX12_isDigit 1 0 0 [.ref 75] Z G L (DQ (some (.int (r_X12_isDigit G L ))) Z G L) := by
  refine AC.intro (by decide +kernel) (Nat.le_of_ble_eq_true rfl) ?_
  refine ax_lv [(0, .ref 75)] ⟨rfl, trivial⟩ ?_
  refine ax_aload_n (i := 0) dX12_isDigit_0 rfl rfl ?_
  refine ax_getI dX12_isDigit_1 fl_X12_149 rfl (OKs hZ rfl) ?_
  refine ax_aload_n (i := 0) dX12_isDigit_4 rfl rfl ?_
  refine ax_getI dX12_isDigit_5 fl_X12_146 rfl (OKs hZ rfl) ?_
  refine ax_icmp_ge (tgt := 43) dX12_isDigit_8 (by decide) (fun c_8 => ?_) (fun c_8 => ?_)
  · refine ax_iconst (v := 0) dX12_isDigit_43 (by decide) ?_
    refine ax_iret dX12_isDigit_44 rfl rfl (Nat.le_of_ble_eq_true rfl) (Nat.le_of_ble_eq_true rfl) ?_
    exact ⟨congrArg (fun z => some (Value.int z)) (Eq.symm (by unfold r_X12_isDigit; (try rw [if_pos c_8]); first | done | rfl)), rfl, rfl, rfl⟩
  · refine ax_aload_n (i := 0) dX12_isDigit_11 rfl rfl ?_
    refine ax_getR dX12_isDigit_12 fl_X12_39 rfl (OKs hZ rfl) (OKr hZ rfl) ?_
    refine ax_aload_n (i := 0) dX12_isDigit_15 rfl rfl ?_
    refine ax_getI dX12_isDigit_16 fl_X12_149 rfl (OKs hZ rfl) ?_
    refine ax_ialdN ((G 75 13).toNatClampNeg) dX12_isDigit_19 (OKs hZ rfl) (tx_e hT) (tx_lt hT c_8) (by decide) ?_
    refine ax_bipush (v := 48) dX12_isDigit_20 (by decide) ?_
    refine ax_icmp_lt (tgt := 43) dX12_isDigit_22 (by decide) (fun c_22 => ?_) (fun c_22 => ?_)
    · refine ax_iconst (v := 0) dX12_isDigit_43 (by decide) ?_
      refine ax_iret dX12_isDigit_44 rfl rfl (Nat.le_of_ble_eq_true rfl) (Nat.le_of_ble_eq_true rfl) ?_
      exact ⟨congrArg (fun z => some (Value.int z)) (Eq.symm (by unfold r_X12_isDigit; (try rw [if_neg c_8]); (try rw [if_pos c_22]); first | done | rfl)), rfl, rfl, rfl⟩
    · refine ax_aload_n (i := 0) dX12_isDigit_25 rfl rfl ?_
      refine ax_getR dX12_isDigit_26 fl_X12_39 rfl (OKs hZ rfl) (OKr hZ rfl) ?_
      refine ax_aload_n (i := 0) dX12_isDigit_29 rfl rfl ?_
      refine ax_getI dX12_isDigit_30 fl_X12_149 rfl (OKs hZ rfl) ?_
      refine ax_ialdN ((G 75 13).toNatClampNeg) dX12_isDigit_33 (OKs hZ rfl) (tx_e hT) (tx_lt hT c_8) (by decide) ?_
      refine ax_bipush (v := 57) dX12_isDigit_34 (by decide) ?_
      refine ax_icmp_gt (tgt := 43) dX12_isDigit_36 (by decide) (fun c_36 => ?_) (fun c_36 => ?_)
      · refine ax_iconst (v := 0) dX12_isDigit_43 (by decide) ?_
        refine ax_iret dX12_isDigit_44 rfl rfl (Nat.le_of_ble_eq_true rfl) (Nat.le_of_ble_eq_true rfl) ?_
        exact ⟨congrArg (fun z => some (Value.int z)) (Eq.symm (by unfold r_X12_isDigit; (try rw [if_neg c_8]); (try rw [if_neg c_22]); (try rw [if_pos c_36]); first | done | rfl)), rfl, rfl, rfl⟩
      · refine ax_iconst (v := 1) dX12_isDigit_39 (by decide) ?_
        refine ax_goto (tgt := 44) dX12_isDigit_40 (by decide) ?_
        refine ax_iret dX12_isDigit_44 rfl rfl (Nat.le_of_ble_eq_true rfl) (Nat.le_of_ble_eq_true rfl) ?_
        exact ⟨congrArg (fun z => some (Value.int z)) (Eq.symm (by unfold r_X12_isDigit; (try rw [if_neg c_8]); (try rw [if_neg c_22]); (try rw [if_neg c_36]); first | done | rfl)), rfl, rfl, rfl⟩
theorem c_X12_codes {Z : Zt} {G : Gt} {L : Lt}  (hZ : OK Z) (hC : cntOK 799 (G 75 25)) (a : Int32)  : AC mX12_codes 1 0 0 [.ref 75, .int a] Z G L (DQ (some (.int (1))) Z (up2 (up2 G 75 25 ((G 75 25) + 1)) 91 ((G 75 25).toNatClampNeg) a) L) := by
  refine AC.intro (by decide +kernel) (Nat.le_of_ble_eq_true rfl) ?_
  refine ax_lv [(0, .ref 75), (1, .int a)] ⟨rfl, rfl, trivial⟩ ?_
  refine ax_aload_n (i := 0) dX12_codes_0 rfl rfl ?_
  refine ax_getR dX12_codes_1 fl_X12_57 rfl (OKs hZ rfl) (OKr hZ rfl) ?_
  refine ax_aload_n (i := 0) dX12_codes_4 rfl rfl ?_
  refine ax_dup dX12_codes_5 rfl ?_
  refine ax_getI dX12_codes_6 fl_X12_174 rfl (OKs hZ rfl) ?_
  refine ax_dup_x1 dX12_codes_9 rfl rfl ?_
  refine ax_iconst (v := 1) dX12_codes_10 (by decide) ?_
  refine ax_iadd dX12_codes_11 ?_
  refine ax_putI dX12_codes_12 fl_X12_174 (Or.inl fp_X12_12_25) rfl rfl rfl (OKs hZ rfl) ?_
  refine ax_iload_n (i := 1) dX12_codes_15 rfl rfl ?_
  refine ax_iastN ((G 75 25).toNatClampNeg) dX12_codes_16 (OKs hZ rfl) (cnt_e (by decide) hC) (Nat.lt_succ_of_le (cnt_le (by decide) hC)) (by decide) ?_
  refine ax_iconst (v := 1) dX12_codes_17 (by decide) ?_
  refine ax_iret dX12_codes_18 rfl rfl (Nat.le_of_ble_eq_true rfl) (Nat.le_of_ble_eq_true rfl) ?_
  exact ⟨rfl, rfl, rfl, rfl⟩
def r_X12_isOpened (G : Gt) (L : Lt) (a : Int32) : Int32 := if (G 75 16) = 4 then 0 else (if (r_X12_is G L a) = 0 then 0 else 1)
def g_X12_isOpened (G : Gt) (L : Lt) (a : Int32) : Gt := if (G 75 16) = 4 then G else (if (r_X12_is G L a) = 0 then (g_X12_is G L a) else (up2 (g_X12_is G L a) 75 16 (((g_X12_is G L a) 75 16) + 1)))
theorem c_X12_isOpened {Z : Zt} {G : Gt} {L : Lt}  (hZ : OK Z) (hT : txOK (G 75 13) (G 75 11)) (a : Int32)  : AC mX12_isOpened 2 0 0 [.ref 75, .int a] Z G L (DQ (some (.int (r_X12_isOpened G L a))) Z (g_X12_isOpened G L a) L) := by
  refine AC.intro (by decide +kernel) (Nat.le_of_ble_eq_true rfl) ?_
  refine ax_lv [(0, .ref 75), (1, .int a)] ⟨rfl, rfl, trivial⟩ ?_
  refine ax_aload_n (i := 0) dX12_isOpened_0 rfl rfl ?_
  refine ax_getI dX12_isOpened_1 fl_X12_190 rfl (OKs hZ rfl) ?_
  refine ax_iconst (v := 4) dX12_isOpened_4 (by decide) ?_
  refine ax_icmp_eq (tgt := 16) dX12_isOpened_5 (by decide) (fun c_5 => ?_) (fun c_5 => ?_)
  · refine ax_iconst (v := 0) dX12_isOpened_16 (by decide) ?_
    refine ax_iret dX12_isOpened_17 rfl rfl (Nat.le_of_ble_eq_true rfl) (Nat.le_of_ble_eq_true rfl) ?_
    exact ⟨congrArg (fun z => some (Value.int z)) (Eq.symm (by unfold r_X12_isOpened; (try rw [if_pos c_5]); first | done | rfl)), rfl, Eq.symm (by unfold g_X12_isOpened; (try rw [if_pos c_5]); first | done | rfl), rfl⟩
  · refine ax_aload_n (i := 0) dX12_isOpened_8 rfl rfl ?_
    refine ax_iload_n (i := 1) dX12_isOpened_9 rfl rfl ?_
    refine ax_cVv dX12_isOpened_10 lk_X12_171 (c_X12_is hZ hT a) rfl (OKs hZ rfl) ⟨_, rfl, rfl⟩ rfl (Nat.le_of_ble_eq_true rfl) (Nat.le_of_ble_eq_true rfl) (Nat.le_of_ble_eq_true rfl) (Nat.le_of_ble_eq_true rfl) ?_
    refine ax_if_ne (tgt := 18) dX12_isOpened_13 (by decide) (fun c_13 => ?_) (fun c_13 => ?_)
    · refine ax_aload_n (i := 0) dX12_isOpened_18 rfl rfl ?_
      refine ax_dup dX12_isOpened_19 rfl ?_
      refine ax_getI dX12_isOpened_20 fl_X12_190 rfl (OKs hZ rfl) ?_
      refine ax_iconst (v := 1) dX12_isOpened_23 (by decide) ?_
      refine ax_iadd dX12_isOpened_24 ?_
      refine ax_putI dX12_isOpened_25 fl_X12_190 (Or.inl fp_X12_12_16) rfl rfl rfl (OKs hZ rfl) ?_
      refine ax_iconst (v := 1) dX12_isOpened_28 (by decide) ?_
      refine ax_iret dX12_isOpened_29 rfl rfl (Nat.le_of_ble_eq_true rfl) (Nat.le_of_ble_eq_true rfl) ?_
      exact ⟨congrArg (fun z => some (Value.int z)) (Eq.symm (by unfold r_X12_isOpened; (try rw [if_neg c_5]); (try rw [if_neg c_13]); first | done | rfl)), rfl, Eq.symm (by unfold g_X12_isOpened; (try rw [if_neg c_5]); (try rw [if_neg c_13]); first | done | rfl), rfl⟩
    · refine ax_iconst (v := 0) dX12_isOpened_16 (by decide) ?_
      refine ax_iret dX12_isOpened_17 rfl rfl (Nat.le_of_ble_eq_true rfl) (Nat.le_of_ble_eq_true rfl) ?_
      exact ⟨congrArg (fun z => some (Value.int z)) (Eq.symm (by unfold r_X12_isOpened; (try rw [if_neg c_5]); (try rw [if_pos c_13]); first | done | rfl)), rfl, Eq.symm (by unfold g_X12_isOpened; (try rw [if_neg c_5]); (try rw [if_pos c_13]); first | done | rfl), rfl⟩
def r_X12_mark (G : Gt) (L : Lt) (a : Int32) (n : Int32) (b : Int32) : Int32 := if a = (-1) then 0 else (if (wi a 0 (G 75 2 - 1)) = 0 then (-1) else (if (wi n 0 12) = 0 then (-2) else (if (wi b 0 999) = 0 then (-2) else (if (G 75 27) = 5 then (-4) else ((up2 (up2 (up2 (up2 G 93 ((G 75 27).toNatClampNeg) a) 94 ((G 75 27).toNatClampNeg) n) 75 27 (((up2 (up2 G 93 ((G 75 27).toNatClampNeg) a) 94 ((G 75 27).toNatClampNeg) n) 75 27) + 1)) 95 ((G 75 27).toNatClampNeg) b) 75 27)))))
def g_X12_mark (G : Gt) (L : Lt) (a : Int32) (n : Int32) (b : Int32) : Gt := if a = (-1) then (up2 G 75 27 0) else (if (wi a 0 (G 75 2 - 1)) = 0 then G else (if (wi n 0 12) = 0 then G else (if (wi b 0 999) = 0 then G else (if (G 75 27) = 5 then G else (up2 (up2 (up2 (up2 G 93 ((G 75 27).toNatClampNeg) a) 94 ((G 75 27).toNatClampNeg) n) 75 27 (((up2 (up2 G 93 ((G 75 27).toNatClampNeg) a) 94 ((G 75 27).toNatClampNeg) n) 75 27) + 1)) 95 ((G 75 27).toNatClampNeg) b)))))
theorem c_X12_mark {Z : Zt} {G : Gt} {L : Lt}  (hZ : OK Z) (hK : cntOK 5 (G 75 27)) (a : Int32) (n : Int32) (b : Int32)  : AC mX12_mark 3 0 0 [.ref 75, .int a, .int n, .int b] Z G L (DQ (some (.int (r_X12_mark G L a n b))) Z (g_X12_mark G L a n b) L) := by
  refine AC.intro (by decide +kernel) (Nat.le_of_ble_eq_true rfl) ?_
  refine ax_lv [(0, .ref 75), (1, .int a), (2, .int n), (3, .int b)] ⟨rfl, rfl, rfl, rfl, trivial⟩ ?_
  refine ax_iload_n (i := 1) dX12_mark_0 rfl rfl ?_
  refine ax_iconst (v := (-1)) dX12_mark_1 (by decide) ?_
  refine ax_icmp_ne (tgt := 12) dX12_mark_2 (by decide) (fun c_2 => ?_) (fun c_2 => ?_)
  · refine ax_aload_n (i := 0) dX12_mark_12 rfl rfl ?_
    refine ax_iload_n (i := 1) dX12_mark_13 rfl rfl ?_
    refine ax_cVv dX12_mark_14 lk_X12_125 (c_X12_isOne hZ a) rfl (OKs hZ rfl) ⟨_, rfl, rfl⟩ rfl (Nat.le_of_ble_eq_true rfl) (Nat.le_of_ble_eq_true rfl) (Nat.le_of_ble_eq_true rfl) (Nat.le_of_ble_eq_true rfl) ?_
    refine ax_if_ne (tgt := 22) dX12_mark_17 (by decide) (fun c_17 => ?_) (fun c_17 => ?_)
    · refine ax_iload_n (i := 2) dX12_mark_22 rfl rfl ?_
      refine ax_iconst (v := 0) dX12_mark_23 (by decide) ?_
      refine ax_bipush (v := 12) dX12_mark_24 (by decide) ?_
      refine ax_cSv dX12_mark_26 lk_X12_117 (c_X12_within n 0 12) rfl rfl (Nat.le_of_ble_eq_true rfl) (Nat.le_of_ble_eq_true rfl) (Nat.le_of_ble_eq_true rfl) (Nat.le_of_ble_eq_true rfl) ?_
      refine ax_if_eq (tgt := 43) dX12_mark_29 (by decide) (fun c_29 => ?_) (fun c_29 => ?_)
      · refine ax_bipush (v := (-2)) dX12_mark_43 (by decide) ?_
        refine ax_iret dX12_mark_45 rfl rfl (Nat.le_of_ble_eq_true rfl) (Nat.le_of_ble_eq_true rfl) ?_
        exact ⟨congrArg (fun z => some (Value.int z)) (Eq.symm (by unfold r_X12_mark; (try rw [if_neg c_2]); (try rw [if_neg c_17]); (try rw [if_pos c_29]); first | done | rfl)), rfl, Eq.symm (by unfold g_X12_mark; (try rw [if_neg c_2]); (try rw [if_neg c_17]); (try rw [if_pos c_29]); first | done | rfl), rfl⟩
      · refine ax_iload_n (i := 3) dX12_mark_32 rfl rfl ?_
        refine ax_iconst (v := 0) dX12_mark_33 (by decide) ?_
        refine ax_sipush (v := 999) dX12_mark_34 (by decide) ?_
        refine ax_cSv dX12_mark_37 lk_X12_117 (c_X12_within b 0 999) rfl rfl (Nat.le_of_ble_eq_true rfl) (Nat.le_of_ble_eq_true rfl) (Nat.le_of_ble_eq_true rfl) (Nat.le_of_ble_eq_true rfl) ?_
        refine ax_if_ne (tgt := 46) dX12_mark_40 (by decide) (fun c_40 => ?_) (fun c_40 => ?_)
        · refine ax_aload_n (i := 0) dX12_mark_46 rfl rfl ?_
          refine ax_getI dX12_mark_47 fl_X12_291 rfl (OKs hZ rfl) ?_
          refine ax_iconst (v := 5) dX12_mark_50 (by decide) ?_
          refine ax_icmp_ne (tgt := 57) dX12_mark_51 (by decide) (fun c_51 => ?_) (fun c_51 => ?_)
          · refine ax_aload_n (i := 0) dX12_mark_57 rfl rfl ?_
            refine ax_getR dX12_mark_58 fl_X12_64 rfl (OKs hZ rfl) (OKr hZ rfl) ?_
            refine ax_aload_n (i := 0) dX12_mark_61 rfl rfl ?_
            refine ax_getI dX12_mark_62 fl_X12_291 rfl (OKs hZ rfl) ?_
            refine ax_iload_n (i := 1) dX12_mark_65 rfl rfl ?_
            refine ax_iastN ((G 75 27).toNatClampNeg) dX12_mark_66 (OKs hZ rfl) (cnt_e (by decide) hK) (cnt_l (by decide) hK c_51) (by decide) ?_
            refine ax_aload_n (i := 0) dX12_mark_67 rfl rfl ?_
            refine ax_getR dX12_mark_68 fl_X12_67 rfl (OKs hZ rfl) (OKr hZ rfl) ?_
            refine ax_aload_n (i := 0) dX12_mark_71 rfl rfl ?_
            refine ax_getI dX12_mark_72 fl_X12_291 rfl (OKs hZ rfl) ?_
            refine ax_iload_n (i := 2) dX12_mark_75 rfl rfl ?_
            refine ax_iastN ((G 75 27).toNatClampNeg) dX12_mark_76 (OKs hZ rfl) (by simp [up2]; exact cnt_e (by decide) hK) (cnt_l (by decide) hK c_51) (by decide) ?_
            refine ax_aload_n (i := 0) dX12_mark_77 rfl rfl ?_
            refine ax_getR dX12_mark_78 fl_X12_70 rfl (OKs hZ rfl) (OKr hZ rfl) ?_
            refine ax_aload_n (i := 0) dX12_mark_81 rfl rfl ?_
            refine ax_dup dX12_mark_82 rfl ?_
            refine ax_getI dX12_mark_83 fl_X12_291 rfl (OKs hZ rfl) ?_
            refine ax_dup_x1 dX12_mark_86 rfl rfl ?_
            refine ax_iconst (v := 1) dX12_mark_87 (by decide) ?_
            refine ax_iadd dX12_mark_88 ?_
            refine ax_putI dX12_mark_89 fl_X12_291 (Or.inl fp_X12_12_27) rfl rfl rfl (OKs hZ rfl) ?_
            refine ax_iload_n (i := 3) dX12_mark_92 rfl rfl ?_
            refine ax_iastN ((G 75 27).toNatClampNeg) dX12_mark_93 (OKs hZ rfl) (by simp [up2]; exact cnt_e (by decide) hK) (cnt_l (by decide) hK c_51) (by decide) ?_
            refine ax_aload_n (i := 0) dX12_mark_94 rfl rfl ?_
            refine ax_getI dX12_mark_95 fl_X12_291 rfl (OKs hZ rfl) ?_
            refine ax_iret dX12_mark_98 rfl rfl (Nat.le_of_ble_eq_true rfl) (Nat.le_of_ble_eq_true rfl) ?_
            exact ⟨congrArg (fun z => some (Value.int z)) (Eq.symm (by unfold r_X12_mark; (try rw [if_neg c_2]); (try rw [if_neg c_17]); (try rw [if_neg c_29]); (try rw [if_neg c_40]); (try rw [if_neg c_51]); first | done | rfl)), rfl, Eq.symm (by unfold g_X12_mark; (try rw [if_neg c_2]); (try rw [if_neg c_17]); (try rw [if_neg c_29]); (try rw [if_neg c_40]); (try rw [if_neg c_51]); first | done | rfl), rfl⟩
          · refine ax_bipush (v := (-4)) dX12_mark_54 (by decide) ?_
            refine ax_iret dX12_mark_56 rfl rfl (Nat.le_of_ble_eq_true rfl) (Nat.le_of_ble_eq_true rfl) ?_
            exact ⟨congrArg (fun z => some (Value.int z)) (Eq.symm (by unfold r_X12_mark; (try rw [if_neg c_2]); (try rw [if_neg c_17]); (try rw [if_neg c_29]); (try rw [if_neg c_40]); (try rw [if_pos c_51]); first | done | rfl)), rfl, Eq.symm (by unfold g_X12_mark; (try rw [if_neg c_2]); (try rw [if_neg c_17]); (try rw [if_neg c_29]); (try rw [if_neg c_40]); (try rw [if_pos c_51]); first | done | rfl), rfl⟩
        · refine ax_bipush (v := (-2)) dX12_mark_43 (by decide) ?_
          refine ax_iret dX12_mark_45 rfl rfl (Nat.le_of_ble_eq_true rfl) (Nat.le_of_ble_eq_true rfl) ?_
          exact ⟨congrArg (fun z => some (Value.int z)) (Eq.symm (by unfold r_X12_mark; (try rw [if_neg c_2]); (try rw [if_neg c_17]); (try rw [if_neg c_29]); (try rw [if_pos c_40]); first | done | rfl)), rfl, Eq.symm (by unfold g_X12_mark; (try rw [if_neg c_2]); (try rw [if_neg c_17]); (try rw [if_neg c_29]); (try rw [if_pos c_40]); first | done | rfl), rfl⟩
    · refine ax_iconst (v := (-1)) dX12_mark_20 (by decide) ?_
      refine ax_iret dX12_mark_21 rfl rfl (Nat.le_of_ble_eq_true rfl) (Nat.le_of_ble_eq_true rfl) ?_
      exact ⟨congrArg (fun z => some (Value.int z)) (Eq.symm (by unfold r_X12_mark; (try rw [if_neg c_2]); (try rw [if_pos c_17]); first | done | rfl)), rfl, Eq.symm (by unfold g_X12_mark; (try rw [if_neg c_2]); (try rw [if_pos c_17]); first | done | rfl), rfl⟩
  · refine ax_aload_n (i := 0) dX12_mark_5 rfl rfl ?_
    refine ax_iconst (v := 0) dX12_mark_6 (by decide) ?_
    refine ax_putI dX12_mark_7 fl_X12_291 (Or.inl fp_X12_12_27) rfl rfl rfl (OKs hZ rfl) ?_
    refine ax_iconst (v := 0) dX12_mark_10 (by decide) ?_
    refine ax_iret dX12_mark_11 rfl rfl (Nat.le_of_ble_eq_true rfl) (Nat.le_of_ble_eq_true rfl) ?_
    exact ⟨congrArg (fun z => some (Value.int z)) (Eq.symm (by unfold r_X12_mark; (try rw [if_pos c_2]); first | done | rfl)), rfl, Eq.symm (by unfold g_X12_mark; (try rw [if_pos c_2]); first | done | rfl), rfl⟩
def r_X12_plan (G : Gt) (L : Lt) (a : Int32) (b : Int32) : Int32 := if a = (-1) then 0 else (if (wi a 0 3) = 0 then (-1) else (if a ≤ 0 then (if (G 75 31) = 10 then (-4) else (if a = 0 then ((up2 (up2 (up2 G 96 ((G 75 31).toNatClampNeg) a) 75 31 (((up2 G 96 ((G 75 31).toNatClampNeg) a) 75 31) + 1)) 97 ((G 75 31).toNatClampNeg) 0) 75 31) else ((up2 (up2 (up2 G 96 ((G 75 31).toNatClampNeg) a) 75 31 (((up2 G 96 ((G 75 31).toNatClampNeg) a) 75 31) + 1)) 97 ((G 75 31).toNatClampNeg) b) 75 31))) else (if (wi b 0 (G 75 2 - 1)) = 0 then (-1) else (if (G 75 31) = 10 then (-4) else (if a = 0 then ((up2 (up2 (up2 G 96 ((G 75 31).toNatClampNeg) a) 75 31 (((up2 G 96 ((G 75 31).toNatClampNeg) a) 75 31) + 1)) 97 ((G 75 31).toNatClampNeg) 0) 75 31) else ((up2 (up2 (up2 G 96 ((G 75 31).toNatClampNeg) a) 75 31 (((up2 G 96 ((G 75 31).toNatClampNeg) a) 75 31) + 1)) 97 ((G 75 31).toNatClampNeg) b) 75 31))))))
def g_X12_plan (G : Gt) (L : Lt) (a : Int32) (b : Int32) : Gt := if a = (-1) then (up2 G 75 31 0) else (if (wi a 0 3) = 0 then G else (if a ≤ 0 then (if (G 75 31) = 10 then G else (if a = 0 then (up2 (up2 (up2 G 96 ((G 75 31).toNatClampNeg) a) 75 31 (((up2 G 96 ((G 75 31).toNatClampNeg) a) 75 31) + 1)) 97 ((G 75 31).toNatClampNeg) 0) else (up2 (up2 (up2 G 96 ((G 75 31).toNatClampNeg) a) 75 31 (((up2 G 96 ((G 75 31).toNatClampNeg) a) 75 31) + 1)) 97 ((G 75 31).toNatClampNeg) b))) else (if (wi b 0 (G 75 2 - 1)) = 0 then G else (if (G 75 31) = 10 then G else (if a = 0 then (up2 (up2 (up2 G 96 ((G 75 31).toNatClampNeg) a) 75 31 (((up2 G 96 ((G 75 31).toNatClampNeg) a) 75 31) + 1)) 97 ((G 75 31).toNatClampNeg) 0) else (up2 (up2 (up2 G 96 ((G 75 31).toNatClampNeg) a) 75 31 (((up2 G 96 ((G 75 31).toNatClampNeg) a) 75 31) + 1)) 97 ((G 75 31).toNatClampNeg) b))))))
theorem c_X12_plan {Z : Zt} {G : Gt} {L : Lt}  (hZ : OK Z) (hK : cntOK 10 (G 75 31)) (a : Int32) (b : Int32)  : AC mX12_plan 3 0 0 [.ref 75, .int a, .int b] Z G L (DQ (some (.int (r_X12_plan G L a b))) Z (g_X12_plan G L a b) L) := by
  refine AC.intro (by decide +kernel) (Nat.le_of_ble_eq_true rfl) ?_
  refine ax_lv [(0, .ref 75), (1, .int a), (2, .int b)] ⟨rfl, rfl, rfl, trivial⟩ ?_
  refine ax_iload_n (i := 1) dX12_plan_0 rfl rfl ?_
  refine ax_iconst (v := (-1)) dX12_plan_1 (by decide) ?_
  refine ax_icmp_ne (tgt := 12) dX12_plan_2 (by decide) (fun c_2 => ?_) (fun c_2 => ?_)
  · refine ax_iload_n (i := 1) dX12_plan_12 rfl rfl ?_
    refine ax_iconst (v := 0) dX12_plan_13 (by decide) ?_
    refine ax_iconst (v := 3) dX12_plan_14 (by decide) ?_
    refine ax_cSv dX12_plan_15 lk_X12_117 (c_X12_within a 0 3) rfl rfl (Nat.le_of_ble_eq_true rfl) (Nat.le_of_ble_eq_true rfl) (Nat.le_of_ble_eq_true rfl) (Nat.le_of_ble_eq_true rfl) ?_
    refine ax_if_eq (tgt := 33) dX12_plan_18 (by decide) (fun c_18 => ?_) (fun c_18 => ?_)
    · refine ax_iconst (v := (-1)) dX12_plan_33 (by decide) ?_
      refine ax_iret dX12_plan_34 rfl rfl (Nat.le_of_ble_eq_true rfl) (Nat.le_of_ble_eq_true rfl) ?_
      exact ⟨congrArg (fun z => some (Value.int z)) (Eq.symm (by unfold r_X12_plan; (try rw [if_neg c_2]); (try rw [if_pos c_18]); first | done | rfl)), rfl, Eq.symm (by unfold g_X12_plan; (try rw [if_neg c_2]); (try rw [if_pos c_18]); first | done | rfl), rfl⟩
    · refine ax_iload_n (i := 1) dX12_plan_21 rfl rfl ?_
      refine ax_if_le (tgt := 35) dX12_plan_22 (by decide) (fun c_22 => ?_) (fun c_22 => ?_)
      · refine ax_aload_n (i := 0) dX12_plan_35 rfl rfl ?_
        refine ax_getI dX12_plan_36 fl_X12_308 rfl (OKs hZ rfl) ?_
        refine ax_bipush (v := 10) dX12_plan_39 (by decide) ?_
        refine ax_icmp_ne (tgt := 47) dX12_plan_41 (by decide) (fun c_41 => ?_) (fun c_41 => ?_)
        · refine ax_aload_n (i := 0) dX12_plan_47 rfl rfl ?_
          refine ax_getR dX12_plan_48 fl_X12_73 rfl (OKs hZ rfl) (OKr hZ rfl) ?_
          refine ax_aload_n (i := 0) dX12_plan_51 rfl rfl ?_
          refine ax_getI dX12_plan_52 fl_X12_308 rfl (OKs hZ rfl) ?_
          refine ax_iload_n (i := 1) dX12_plan_55 rfl rfl ?_
          refine ax_iastN ((G 75 31).toNatClampNeg) dX12_plan_56 (OKs hZ rfl) (cnt_e (by decide) hK) (cnt_l (by decide) hK c_41) (by decide) ?_
          refine ax_aload_n (i := 0) dX12_plan_57 rfl rfl ?_
          refine ax_getR dX12_plan_58 fl_X12_76 rfl (OKs hZ rfl) (OKr hZ rfl) ?_
          refine ax_aload_n (i := 0) dX12_plan_61 rfl rfl ?_
          refine ax_dup dX12_plan_62 rfl ?_
          refine ax_getI dX12_plan_63 fl_X12_308 rfl (OKs hZ rfl) ?_
          refine ax_dup_x1 dX12_plan_66 rfl rfl ?_
          refine ax_iconst (v := 1) dX12_plan_67 (by decide) ?_
          refine ax_iadd dX12_plan_68 ?_
          refine ax_putI dX12_plan_69 fl_X12_308 (Or.inl fp_X12_12_31) rfl rfl rfl (OKs hZ rfl) ?_
          refine ax_iload_n (i := 1) dX12_plan_72 rfl rfl ?_
          refine ax_if_ne (tgt := 80) dX12_plan_73 (by decide) (fun c_73 => ?_) (fun c_73 => ?_)
          · refine ax_iload_n (i := 2) dX12_plan_80 rfl rfl ?_
            refine ax_iastN ((G 75 31).toNatClampNeg) dX12_plan_81 (OKs hZ rfl) (by simp [up2]; exact cnt_e (by decide) hK) (cnt_l (by decide) hK c_41) (by decide) ?_
            refine ax_aload_n (i := 0) dX12_plan_82 rfl rfl ?_
            refine ax_getI dX12_plan_83 fl_X12_308 rfl (OKs hZ rfl) ?_
            refine ax_iret dX12_plan_86 rfl rfl (Nat.le_of_ble_eq_true rfl) (Nat.le_of_ble_eq_true rfl) ?_
            exact ⟨congrArg (fun z => some (Value.int z)) (Eq.symm (by unfold r_X12_plan; (try rw [if_neg c_2]); (try rw [if_neg c_18]); (try rw [if_pos c_22]); (try rw [if_neg c_41]); (try rw [if_neg c_73]); first | done | rfl)), rfl, Eq.symm (by unfold g_X12_plan; (try rw [if_neg c_2]); (try rw [if_neg c_18]); (try rw [if_pos c_22]); (try rw [if_neg c_41]); (try rw [if_neg c_73]); first | done | rfl), rfl⟩
          · refine ax_iconst (v := 0) dX12_plan_76 (by decide) ?_
            refine ax_goto (tgt := 81) dX12_plan_77 (by decide) ?_
            refine ax_iastN ((G 75 31).toNatClampNeg) dX12_plan_81 (OKs hZ rfl) (by simp [up2]; exact cnt_e (by decide) hK) (cnt_l (by decide) hK c_41) (by decide) ?_
            refine ax_aload_n (i := 0) dX12_plan_82 rfl rfl ?_
            refine ax_getI dX12_plan_83 fl_X12_308 rfl (OKs hZ rfl) ?_
            refine ax_iret dX12_plan_86 rfl rfl (Nat.le_of_ble_eq_true rfl) (Nat.le_of_ble_eq_true rfl) ?_
            exact ⟨congrArg (fun z => some (Value.int z)) (Eq.symm (by unfold r_X12_plan; (try rw [if_neg c_2]); (try rw [if_neg c_18]); (try rw [if_pos c_22]); (try rw [if_neg c_41]); (try rw [if_pos c_73]); first | done | rfl)), rfl, Eq.symm (by unfold g_X12_plan; (try rw [if_neg c_2]); (try rw [if_neg c_18]); (try rw [if_pos c_22]); (try rw [if_neg c_41]); (try rw [if_pos c_73]); first | done | rfl), rfl⟩
        · refine ax_bipush (v := (-4)) dX12_plan_44 (by decide) ?_
          refine ax_iret dX12_plan_46 rfl rfl (Nat.le_of_ble_eq_true rfl) (Nat.le_of_ble_eq_true rfl) ?_
          exact ⟨congrArg (fun z => some (Value.int z)) (Eq.symm (by unfold r_X12_plan; (try rw [if_neg c_2]); (try rw [if_neg c_18]); (try rw [if_pos c_22]); (try rw [if_pos c_41]); first | done | rfl)), rfl, Eq.symm (by unfold g_X12_plan; (try rw [if_neg c_2]); (try rw [if_neg c_18]); (try rw [if_pos c_22]); (try rw [if_pos c_41]); first | done | rfl), rfl⟩
      · refine ax_aload_n (i := 0) dX12_plan_25 rfl rfl ?_
        refine ax_iload_n (i := 2) dX12_plan_26 rfl rfl ?_
        refine ax_cVv dX12_plan_27 lk_X12_125 (c_X12_isOne hZ b) rfl (OKs hZ rfl) ⟨_, rfl, rfl⟩ rfl (Nat.le_of_ble_eq_true rfl) (Nat.le_of_ble_eq_true rfl) (Nat.le_of_ble_eq_true rfl) (Nat.le_of_ble_eq_true rfl) ?_
        refine ax_if_ne (tgt := 35) dX12_plan_30 (by decide) (fun c_30 => ?_) (fun c_30 => ?_)
        · refine ax_aload_n (i := 0) dX12_plan_35 rfl rfl ?_
          refine ax_getI dX12_plan_36 fl_X12_308 rfl (OKs hZ rfl) ?_
          refine ax_bipush (v := 10) dX12_plan_39 (by decide) ?_
          refine ax_icmp_ne (tgt := 47) dX12_plan_41 (by decide) (fun c_41 => ?_) (fun c_41 => ?_)
          · refine ax_aload_n (i := 0) dX12_plan_47 rfl rfl ?_
            refine ax_getR dX12_plan_48 fl_X12_73 rfl (OKs hZ rfl) (OKr hZ rfl) ?_
            refine ax_aload_n (i := 0) dX12_plan_51 rfl rfl ?_
            refine ax_getI dX12_plan_52 fl_X12_308 rfl (OKs hZ rfl) ?_
            refine ax_iload_n (i := 1) dX12_plan_55 rfl rfl ?_
            refine ax_iastN ((G 75 31).toNatClampNeg) dX12_plan_56 (OKs hZ rfl) (cnt_e (by decide) hK) (cnt_l (by decide) hK c_41) (by decide) ?_
            refine ax_aload_n (i := 0) dX12_plan_57 rfl rfl ?_
            refine ax_getR dX12_plan_58 fl_X12_76 rfl (OKs hZ rfl) (OKr hZ rfl) ?_
            refine ax_aload_n (i := 0) dX12_plan_61 rfl rfl ?_
            refine ax_dup dX12_plan_62 rfl ?_
            refine ax_getI dX12_plan_63 fl_X12_308 rfl (OKs hZ rfl) ?_
            refine ax_dup_x1 dX12_plan_66 rfl rfl ?_
            refine ax_iconst (v := 1) dX12_plan_67 (by decide) ?_
            refine ax_iadd dX12_plan_68 ?_
            refine ax_putI dX12_plan_69 fl_X12_308 (Or.inl fp_X12_12_31) rfl rfl rfl (OKs hZ rfl) ?_
            refine ax_iload_n (i := 1) dX12_plan_72 rfl rfl ?_
            refine ax_if_ne (tgt := 80) dX12_plan_73 (by decide) (fun c_73 => ?_) (fun c_73 => ?_)
            · refine ax_iload_n (i := 2) dX12_plan_80 rfl rfl ?_
              refine ax_iastN ((G 75 31).toNatClampNeg) dX12_plan_81 (OKs hZ rfl) (by simp [up2]; exact cnt_e (by decide) hK) (cnt_l (by decide) hK c_41) (by decide) ?_
              refine ax_aload_n (i := 0) dX12_plan_82 rfl rfl ?_
              refine ax_getI dX12_plan_83 fl_X12_308 rfl (OKs hZ rfl) ?_
              refine ax_iret dX12_plan_86 rfl rfl (Nat.le_of_ble_eq_true rfl) (Nat.le_of_ble_eq_true rfl) ?_
              exact ⟨congrArg (fun z => some (Value.int z)) (Eq.symm (by unfold r_X12_plan; (try rw [if_neg c_2]); (try rw [if_neg c_18]); (try rw [if_neg c_22]); (try rw [if_neg c_30]); (try rw [if_neg c_41]); (try rw [if_neg c_73]); first | done | rfl)), rfl, Eq.symm (by unfold g_X12_plan; (try rw [if_neg c_2]); (try rw [if_neg c_18]); (try rw [if_neg c_22]); (try rw [if_neg c_30]); (try rw [if_neg c_41]); (try rw [if_neg c_73]); first | done | rfl), rfl⟩
            · refine ax_iconst (v := 0) dX12_plan_76 (by decide) ?_
              refine ax_goto (tgt := 81) dX12_plan_77 (by decide) ?_
              refine ax_iastN ((G 75 31).toNatClampNeg) dX12_plan_81 (OKs hZ rfl) (by simp [up2]; exact cnt_e (by decide) hK) (cnt_l (by decide) hK c_41) (by decide) ?_
              refine ax_aload_n (i := 0) dX12_plan_82 rfl rfl ?_
              refine ax_getI dX12_plan_83 fl_X12_308 rfl (OKs hZ rfl) ?_
              refine ax_iret dX12_plan_86 rfl rfl (Nat.le_of_ble_eq_true rfl) (Nat.le_of_ble_eq_true rfl) ?_
              exact ⟨congrArg (fun z => some (Value.int z)) (Eq.symm (by unfold r_X12_plan; (try rw [if_neg c_2]); (try rw [if_neg c_18]); (try rw [if_neg c_22]); (try rw [if_neg c_30]); (try rw [if_neg c_41]); (try rw [if_pos c_73]); first | done | rfl)), rfl, Eq.symm (by unfold g_X12_plan; (try rw [if_neg c_2]); (try rw [if_neg c_18]); (try rw [if_neg c_22]); (try rw [if_neg c_30]); (try rw [if_neg c_41]); (try rw [if_pos c_73]); first | done | rfl), rfl⟩
          · refine ax_bipush (v := (-4)) dX12_plan_44 (by decide) ?_
            refine ax_iret dX12_plan_46 rfl rfl (Nat.le_of_ble_eq_true rfl) (Nat.le_of_ble_eq_true rfl) ?_
            exact ⟨congrArg (fun z => some (Value.int z)) (Eq.symm (by unfold r_X12_plan; (try rw [if_neg c_2]); (try rw [if_neg c_18]); (try rw [if_neg c_22]); (try rw [if_neg c_30]); (try rw [if_pos c_41]); first | done | rfl)), rfl, Eq.symm (by unfold g_X12_plan; (try rw [if_neg c_2]); (try rw [if_neg c_18]); (try rw [if_neg c_22]); (try rw [if_neg c_30]); (try rw [if_pos c_41]); first | done | rfl), rfl⟩
        · refine ax_iconst (v := (-1)) dX12_plan_33 (by decide) ?_
          refine ax_iret dX12_plan_34 rfl rfl (Nat.le_of_ble_eq_true rfl) (Nat.le_of_ble_eq_true rfl) ?_
          exact ⟨congrArg (fun z => some (Value.int z)) (Eq.symm (by unfold r_X12_plan; (try rw [if_neg c_2]); (try rw [if_neg c_18]); (try rw [if_neg c_22]); (try rw [if_pos c_30]); first | done | rfl)), rfl, Eq.symm (by unfold g_X12_plan; (try rw [if_neg c_2]); (try rw [if_neg c_18]); (try rw [if_neg c_22]); (try rw [if_pos c_30]); first | done | rfl), rfl⟩
  · refine ax_aload_n (i := 0) dX12_plan_5 rfl rfl ?_
    refine ax_iconst (v := 0) dX12_plan_6 (by decide) ?_
    refine ax_putI dX12_plan_7 fl_X12_308 (Or.inl fp_X12_12_31) rfl rfl rfl (OKs hZ rfl) ?_
    refine ax_iconst (v := 0) dX12_plan_10 (by decide) ?_
    refine ax_iret dX12_plan_11 rfl rfl (Nat.le_of_ble_eq_true rfl) (Nat.le_of_ble_eq_true rfl) ?_
    exact ⟨congrArg (fun z => some (Value.int z)) (Eq.symm (by unfold r_X12_plan; (try rw [if_pos c_2]); first | done | rfl)), rfl, Eq.symm (by unfold g_X12_plan; (try rw [if_pos c_2]); first | done | rfl), rfl⟩
def r_X12_book (G : Gt) (L : Lt) (a : Int32) (b : Int32) : Int32 := if a = (-1) then 0 else (if (wi a 0 (G 75 2 - 1)) = 0 then (-1) else (if (wi b 0 99) = 0 then (-2) else (if (G 75 34) = 8 then (-4) else ((up2 (up2 (up2 G 98 ((G 75 34).toNatClampNeg) a) 75 34 (((up2 G 98 ((G 75 34).toNatClampNeg) a) 75 34) + 1)) 99 ((G 75 34).toNatClampNeg) b) 75 34))))
def g_X12_book (G : Gt) (L : Lt) (a : Int32) (b : Int32) : Gt := if a = (-1) then (up2 G 75 34 0) else (if (wi a 0 (G 75 2 - 1)) = 0 then G else (if (wi b 0 99) = 0 then G else (if (G 75 34) = 8 then G else (up2 (up2 (up2 G 98 ((G 75 34).toNatClampNeg) a) 75 34 (((up2 G 98 ((G 75 34).toNatClampNeg) a) 75 34) + 1)) 99 ((G 75 34).toNatClampNeg) b))))
theorem c_X12_book {Z : Zt} {G : Gt} {L : Lt}  (hZ : OK Z) (hK : cntOK 8 (G 75 34)) (a : Int32) (b : Int32)  : AC mX12_book 3 0 0 [.ref 75, .int a, .int b] Z G L (DQ (some (.int (r_X12_book G L a b))) Z (g_X12_book G L a b) L) := by
  refine AC.intro (by decide +kernel) (Nat.le_of_ble_eq_true rfl) ?_
  refine ax_lv [(0, .ref 75), (1, .int a), (2, .int b)] ⟨rfl, rfl, rfl, trivial⟩ ?_
  refine ax_iload_n (i := 1) dX12_book_0 rfl rfl ?_
  refine ax_iconst (v := (-1)) dX12_book_1 (by decide) ?_
  refine ax_icmp_ne (tgt := 12) dX12_book_2 (by decide) (fun c_2 => ?_) (fun c_2 => ?_)
  · refine ax_aload_n (i := 0) dX12_book_12 rfl rfl ?_
    refine ax_iload_n (i := 1) dX12_book_13 rfl rfl ?_
    refine ax_cVv dX12_book_14 lk_X12_125 (c_X12_isOne hZ a) rfl (OKs hZ rfl) ⟨_, rfl, rfl⟩ rfl (Nat.le_of_ble_eq_true rfl) (Nat.le_of_ble_eq_true rfl) (Nat.le_of_ble_eq_true rfl) (Nat.le_of_ble_eq_true rfl) ?_
    refine ax_if_ne (tgt := 22) dX12_book_17 (by decide) (fun c_17 => ?_) (fun c_17 => ?_)
    · refine ax_iload_n (i := 2) dX12_book_22 rfl rfl ?_
      refine ax_iconst (v := 0) dX12_book_23 (by decide) ?_
      refine ax_bipush (v := 99) dX12_book_24 (by decide) ?_
      refine ax_cSv dX12_book_26 lk_X12_117 (c_X12_within b 0 99) rfl rfl (Nat.le_of_ble_eq_true rfl) (Nat.le_of_ble_eq_true rfl) (Nat.le_of_ble_eq_true rfl) (Nat.le_of_ble_eq_true rfl) ?_
      refine ax_if_ne (tgt := 35) dX12_book_29 (by decide) (fun c_29 => ?_) (fun c_29 => ?_)
      · refine ax_aload_n (i := 0) dX12_book_35 rfl rfl ?_
        refine ax_getI dX12_book_36 fl_X12_311 rfl (OKs hZ rfl) ?_
        refine ax_bipush (v := 8) dX12_book_39 (by decide) ?_
        refine ax_icmp_ne (tgt := 47) dX12_book_41 (by decide) (fun c_41 => ?_) (fun c_41 => ?_)
        · refine ax_aload_n (i := 0) dX12_book_47 rfl rfl ?_
          refine ax_getR dX12_book_48 fl_X12_79 rfl (OKs hZ rfl) (OKr hZ rfl) ?_
          refine ax_aload_n (i := 0) dX12_book_51 rfl rfl ?_
          refine ax_getI dX12_book_52 fl_X12_311 rfl (OKs hZ rfl) ?_
          refine ax_iload_n (i := 1) dX12_book_55 rfl rfl ?_
          refine ax_iastN ((G 75 34).toNatClampNeg) dX12_book_56 (OKs hZ rfl) (cnt_e (by decide) hK) (cnt_l (by decide) hK c_41) (by decide) ?_
          refine ax_aload_n (i := 0) dX12_book_57 rfl rfl ?_
          refine ax_getR dX12_book_58 fl_X12_82 rfl (OKs hZ rfl) (OKr hZ rfl) ?_
          refine ax_aload_n (i := 0) dX12_book_61 rfl rfl ?_
          refine ax_dup dX12_book_62 rfl ?_
          refine ax_getI dX12_book_63 fl_X12_311 rfl (OKs hZ rfl) ?_
          refine ax_dup_x1 dX12_book_66 rfl rfl ?_
          refine ax_iconst (v := 1) dX12_book_67 (by decide) ?_
          refine ax_iadd dX12_book_68 ?_
          refine ax_putI dX12_book_69 fl_X12_311 (Or.inl fp_X12_12_34) rfl rfl rfl (OKs hZ rfl) ?_
          refine ax_iload_n (i := 2) dX12_book_72 rfl rfl ?_
          refine ax_iastN ((G 75 34).toNatClampNeg) dX12_book_73 (OKs hZ rfl) (by simp [up2]; exact cnt_e (by decide) hK) (cnt_l (by decide) hK c_41) (by decide) ?_
          refine ax_aload_n (i := 0) dX12_book_74 rfl rfl ?_
          refine ax_getI dX12_book_75 fl_X12_311 rfl (OKs hZ rfl) ?_
          refine ax_iret dX12_book_78 rfl rfl (Nat.le_of_ble_eq_true rfl) (Nat.le_of_ble_eq_true rfl) ?_
          exact ⟨congrArg (fun z => some (Value.int z)) (Eq.symm (by unfold r_X12_book; (try rw [if_neg c_2]); (try rw [if_neg c_17]); (try rw [if_neg c_29]); (try rw [if_neg c_41]); first | done | rfl)), rfl, Eq.symm (by unfold g_X12_book; (try rw [if_neg c_2]); (try rw [if_neg c_17]); (try rw [if_neg c_29]); (try rw [if_neg c_41]); first | done | rfl), rfl⟩
        · refine ax_bipush (v := (-4)) dX12_book_44 (by decide) ?_
          refine ax_iret dX12_book_46 rfl rfl (Nat.le_of_ble_eq_true rfl) (Nat.le_of_ble_eq_true rfl) ?_
          exact ⟨congrArg (fun z => some (Value.int z)) (Eq.symm (by unfold r_X12_book; (try rw [if_neg c_2]); (try rw [if_neg c_17]); (try rw [if_neg c_29]); (try rw [if_pos c_41]); first | done | rfl)), rfl, Eq.symm (by unfold g_X12_book; (try rw [if_neg c_2]); (try rw [if_neg c_17]); (try rw [if_neg c_29]); (try rw [if_pos c_41]); first | done | rfl), rfl⟩
      · refine ax_bipush (v := (-2)) dX12_book_32 (by decide) ?_
        refine ax_iret dX12_book_34 rfl rfl (Nat.le_of_ble_eq_true rfl) (Nat.le_of_ble_eq_true rfl) ?_
        exact ⟨congrArg (fun z => some (Value.int z)) (Eq.symm (by unfold r_X12_book; (try rw [if_neg c_2]); (try rw [if_neg c_17]); (try rw [if_pos c_29]); first | done | rfl)), rfl, Eq.symm (by unfold g_X12_book; (try rw [if_neg c_2]); (try rw [if_neg c_17]); (try rw [if_pos c_29]); first | done | rfl), rfl⟩
    · refine ax_iconst (v := (-1)) dX12_book_20 (by decide) ?_
      refine ax_iret dX12_book_21 rfl rfl (Nat.le_of_ble_eq_true rfl) (Nat.le_of_ble_eq_true rfl) ?_
      exact ⟨congrArg (fun z => some (Value.int z)) (Eq.symm (by unfold r_X12_book; (try rw [if_neg c_2]); (try rw [if_pos c_17]); first | done | rfl)), rfl, Eq.symm (by unfold g_X12_book; (try rw [if_neg c_2]); (try rw [if_pos c_17]); first | done | rfl), rfl⟩
  · refine ax_aload_n (i := 0) dX12_book_5 rfl rfl ?_
    refine ax_iconst (v := 0) dX12_book_6 (by decide) ?_
    refine ax_putI dX12_book_7 fl_X12_311 (Or.inl fp_X12_12_34) rfl rfl rfl (OKs hZ rfl) ?_
    refine ax_iconst (v := 0) dX12_book_10 (by decide) ?_
    refine ax_iret dX12_book_11 rfl rfl (Nat.le_of_ble_eq_true rfl) (Nat.le_of_ble_eq_true rfl) ?_
    exact ⟨congrArg (fun z => some (Value.int z)) (Eq.symm (by unfold r_X12_book; (try rw [if_pos c_2]); first | done | rfl)), rfl, Eq.symm (by unfold g_X12_book; (try rw [if_pos c_2]); first | done | rfl), rfl⟩
def r_X12_trace (G : Gt) (L : Lt) (a : Int32) : Int32 := if (wi a 0 ((if (G 75 37) < 20 then (G 75 37) else 20) - 1)) = 0 then (-1) else (G 100 a.toNatClampNeg)
theorem c_X12_trace {Z : Zt} {G : Gt} {L : Lt}  (hZ : OK Z) (hT : cntOK 100 (G 75 37)) (a : Int32)  : AC mX12_trace 2 0 0 [.ref 75, .int a] Z G L (DQ (some (.int (r_X12_trace G L a))) Z G L) := by
  refine AC.intro (by decide +kernel) (Nat.le_of_ble_eq_true rfl) ?_
  refine ax_lv [(0, .ref 75), (1, .int a)] ⟨rfl, rfl, trivial⟩ ?_
  refine ax_iload_n (i := 1) dX12_trace_0 rfl rfl ?_
  refine ax_iconst (v := 0) dX12_trace_1 (by decide) ?_
  refine ax_bipush (v := 20) dX12_trace_2 (by decide) ?_
  refine ax_aload_n (i := 0) dX12_trace_4 rfl rfl ?_
  refine ax_getI dX12_trace_5 fl_X12_318 rfl (OKs hZ rfl) ?_
  refine ax_min dX12_trace_8 lm_X12_256 (by decide) (Nat.le_of_ble_eq_true rfl) (Nat.le_of_ble_eq_true rfl) (Nat.le_of_ble_eq_true rfl) ?_
  refine ax_iconst (v := 1) dX12_trace_11 (by decide) ?_
  refine ax_isub dX12_trace_12 ?_
  refine ax_cSv dX12_trace_13 lk_X12_117 (c_X12_within a 0 ((if (G 75 37) < 20 then (G 75 37) else 20) - 1)) rfl rfl (Nat.le_of_ble_eq_true rfl) (Nat.le_of_ble_eq_true rfl) (Nat.le_of_ble_eq_true rfl) (Nat.le_of_ble_eq_true rfl) ?_
  refine ax_if_eq (tgt := 28) dX12_trace_16 (by decide) (fun c_16 => ?_) (fun c_16 => ?_)
  · refine ax_iconst (v := (-1)) dX12_trace_28 (by decide) ?_
    refine ax_iret dX12_trace_29 rfl rfl (Nat.le_of_ble_eq_true rfl) (Nat.le_of_ble_eq_true rfl) ?_
    exact ⟨congrArg (fun z => some (Value.int z)) (Eq.symm (by unfold r_X12_trace; (try rw [if_pos c_16]); first | done | rfl)), rfl, rfl, rfl⟩
  · refine ax_aload_n (i := 0) dX12_trace_19 rfl rfl ?_
    refine ax_getR dX12_trace_20 fl_X12_85 rfl (OKs hZ rfl) (OKr hZ rfl) ?_
    refine ax_iload_n (i := 1) dX12_trace_23 rfl rfl ?_
    refine ax_ialdN a.toNatClampNeg dX12_trace_24 (OKs hZ rfl) (wi_e c_16) (tr_l hT c_16) (by decide) ?_
    refine ax_goto (tgt := 29) dX12_trace_25 (by decide) ?_
    refine ax_iret dX12_trace_29 rfl rfl (Nat.le_of_ble_eq_true rfl) (Nat.le_of_ble_eq_true rfl) ?_
    exact ⟨congrArg (fun z => some (Value.int z)) (Eq.symm (by unfold r_X12_trace; (try rw [if_neg c_16]); first | done | rfl)), rfl, rfl, rfl⟩
def g_X12_ran (G : Gt) (L : Lt) (a : Int32) : Gt := if 20 ≤ (G 75 37) then (up2 G 75 37 ((G 75 37) + 1)) else (up2 (up2 G 100 ((G 75 37).toNatClampNeg) a) 75 37 (((up2 G 100 ((G 75 37).toNatClampNeg) a) 75 37) + 1))
theorem c_X12_ran {Z : Zt} {G : Gt} {L : Lt}  (hZ : OK Z) (hT : cntOK 100 (G 75 37)) (a : Int32)  : AC mX12_ran 1 0 0 [.ref 75, .int a] Z G L (DQ none Z (g_X12_ran G L a) L) := by
  refine AC.intro (by decide +kernel) (Nat.le_of_ble_eq_true rfl) ?_
  refine ax_lv [(0, .ref 75), (1, .int a)] ⟨rfl, rfl, trivial⟩ ?_
  refine ax_aload_n (i := 0) dX12_ran_0 rfl rfl ?_
  refine ax_getI dX12_ran_1 fl_X12_318 rfl (OKs hZ rfl) ?_
  refine ax_bipush (v := 20) dX12_ran_4 (by decide) ?_
  refine ax_icmp_ge (tgt := 19) dX12_ran_6 (by decide) (fun c_6 => ?_) (fun c_6 => ?_)
  · refine ax_aload_n (i := 0) dX12_ran_19 rfl rfl ?_
    refine ax_dup dX12_ran_20 rfl ?_
    refine ax_getI dX12_ran_21 fl_X12_318 rfl (OKs hZ rfl) ?_
    refine ax_iconst (v := 1) dX12_ran_24 (by decide) ?_
    refine ax_iadd dX12_ran_25 ?_
    refine ax_putI dX12_ran_26 fl_X12_318 (Or.inl fp_X12_12_37) rfl rfl rfl (OKs hZ rfl) ?_
    refine ax_vret dX12_ran_29 rfl (Nat.le_of_ble_eq_true rfl) (Nat.le_of_ble_eq_true rfl) ?_
    exact ⟨rfl, rfl, Eq.symm (by unfold g_X12_ran; (try rw [if_pos c_6]); first | done | rfl), rfl⟩
  · refine ax_aload_n (i := 0) dX12_ran_9 rfl rfl ?_
    refine ax_getR dX12_ran_10 fl_X12_85 rfl (OKs hZ rfl) (OKr hZ rfl) ?_
    refine ax_aload_n (i := 0) dX12_ran_13 rfl rfl ?_
    refine ax_getI dX12_ran_14 fl_X12_318 rfl (OKs hZ rfl) ?_
    refine ax_iload_n (i := 1) dX12_ran_17 rfl rfl ?_
    refine ax_iastN ((G 75 37).toNatClampNeg) dX12_ran_18 (OKs hZ rfl) (cnt_e (by decide) hT) (by obtain ⟨n, h1, h2⟩ := hT; rw [h2, nI_clamp (by omega)]; rcases Nat.lt_or_ge n 20 with q | q; exact q; exact absurd (by rw [h2]; exact nI_le q (by omega)) c_6) (by decide) ?_
    refine ax_aload_n (i := 0) dX12_ran_19 rfl rfl ?_
    refine ax_dup dX12_ran_20 rfl ?_
    refine ax_getI dX12_ran_21 fl_X12_318 rfl (OKs hZ rfl) ?_
    refine ax_iconst (v := 1) dX12_ran_24 (by decide) ?_
    refine ax_iadd dX12_ran_25 ?_
    refine ax_putI dX12_ran_26 fl_X12_318 (Or.inl fp_X12_12_37) rfl rfl rfl (OKs hZ rfl) ?_
    refine ax_vret dX12_ran_29 rfl (Nat.le_of_ble_eq_true rfl) (Nat.le_of_ble_eq_true rfl) ?_
    exact ⟨rfl, rfl, Eq.symm (by unfold g_X12_ran; (try rw [if_neg c_6]); first | done | rfl), rfl⟩
def r_X12_letterOf (G : Gt) (L : Lt) (a : Int32) (b : Int32) : Int32 := if b = 0 then a else (if b = 1 then (G 78 a.toNatClampNeg) else (if b = 2 then (G 79 a.toNatClampNeg) else (if b = 3 then (G 80 a.toNatClampNeg) else (if b = 4 then ((G 82 a.toNatClampNeg) / 10) else ((G 75 10) - (G 75 10) / 10 * 10)))))
theorem c_X12_letterOf {Z : Zt} {G : Gt} {L : Lt}  (hZ : OK Z) (a : Int32) (b : Int32) (ha : a = nI a.toNatClampNeg) (hl : a.toNatClampNeg < 6) : AC mX12_letterOf 1 0 0 [.ref 75, .int a, .int b] Z G L (DQ (some (.int (r_X12_letterOf G L a b))) Z G L) := by
  refine AC.intro (by decide +kernel) (Nat.le_of_ble_eq_true rfl) ?_
  refine ax_lv [(0, .ref 75), (1, .int a), (2, .int b)] ⟨rfl, rfl, rfl, trivial⟩ ?_
  refine ax_iload_n (i := 2) dX12_letterOf_0 rfl rfl ?_
  refine (Decidable.em (b = 0)).elim (fun e_1_0 => ?_) (fun e_1_0 => ?_)
  · refine ax_tin (off := 35) (tgt := 36) dX12_letterOf_1 (by rw [e_1_0]; decide) (by rw [e_1_0]; decide) (by rw [e_1_0]; decide) (by decide) ?_
    refine ax_iload_n (i := 1) dX12_letterOf_36 rfl rfl ?_
    refine ax_iret dX12_letterOf_37 rfl rfl (Nat.le_of_ble_eq_true rfl) (Nat.le_of_ble_eq_true rfl) ?_
    exact ⟨congrArg (fun z => some (Value.int z)) (Eq.symm (by unfold r_X12_letterOf; (try rw [if_pos e_1_0]); first | done | rfl)), rfl, rfl, rfl⟩
  refine (Decidable.em (b = 1)).elim (fun e_1_1 => ?_) (fun e_1_1 => ?_)
  · refine ax_tin (off := 37) (tgt := 38) dX12_letterOf_1 (by rw [e_1_1]; decide) (by rw [e_1_1]; decide) (by rw [e_1_1]; decide) (by decide) ?_
    refine ax_aload_n (i := 0) dX12_letterOf_38 rfl rfl ?_
    refine ax_getR dX12_letterOf_39 fl_X12_18 rfl (OKs hZ rfl) (OKr hZ rfl) ?_
    refine ax_iload_n (i := 1) dX12_letterOf_42 rfl rfl ?_
    refine ax_ialdN a.toNatClampNeg dX12_letterOf_43 (OKs hZ rfl) ha hl (by decide) ?_
    refine ax_iret dX12_letterOf_44 rfl rfl (Nat.le_of_ble_eq_true rfl) (Nat.le_of_ble_eq_true rfl) ?_
    exact ⟨congrArg (fun z => some (Value.int z)) (Eq.symm (by unfold r_X12_letterOf; (try rw [if_neg e_1_0]); (try rw [if_pos e_1_1]); first | done | rfl)), rfl, rfl, rfl⟩
  refine (Decidable.em (b = 2)).elim (fun e_1_2 => ?_) (fun e_1_2 => ?_)
  · refine ax_tin (off := 44) (tgt := 45) dX12_letterOf_1 (by rw [e_1_2]; decide) (by rw [e_1_2]; decide) (by rw [e_1_2]; decide) (by decide) ?_
    refine ax_aload_n (i := 0) dX12_letterOf_45 rfl rfl ?_
    refine ax_getR dX12_letterOf_46 fl_X12_21 rfl (OKs hZ rfl) (OKr hZ rfl) ?_
    refine ax_iload_n (i := 1) dX12_letterOf_49 rfl rfl ?_
    refine ax_ialdN a.toNatClampNeg dX12_letterOf_50 (OKs hZ rfl) ha hl (by decide) ?_
    refine ax_iret dX12_letterOf_51 rfl rfl (Nat.le_of_ble_eq_true rfl) (Nat.le_of_ble_eq_true rfl) ?_
    exact ⟨congrArg (fun z => some (Value.int z)) (Eq.symm (by unfold r_X12_letterOf; (try rw [if_neg e_1_0]); (try rw [if_neg e_1_1]); (try rw [if_pos e_1_2]); first | done | rfl)), rfl, rfl, rfl⟩
  refine (Decidable.em (b = 3)).elim (fun e_1_3 => ?_) (fun e_1_3 => ?_)
  · refine ax_tin (off := 51) (tgt := 52) dX12_letterOf_1 (by rw [e_1_3]; decide) (by rw [e_1_3]; decide) (by rw [e_1_3]; decide) (by decide) ?_
    refine ax_aload_n (i := 0) dX12_letterOf_52 rfl rfl ?_
    refine ax_getR dX12_letterOf_53 fl_X12_24 rfl (OKs hZ rfl) (OKr hZ rfl) ?_
    refine ax_iload_n (i := 1) dX12_letterOf_56 rfl rfl ?_
    refine ax_ialdN a.toNatClampNeg dX12_letterOf_57 (OKs hZ rfl) ha hl (by decide) ?_
    refine ax_iret dX12_letterOf_58 rfl rfl (Nat.le_of_ble_eq_true rfl) (Nat.le_of_ble_eq_true rfl) ?_
    exact ⟨congrArg (fun z => some (Value.int z)) (Eq.symm (by unfold r_X12_letterOf; (try rw [if_neg e_1_0]); (try rw [if_neg e_1_1]); (try rw [if_neg e_1_2]); (try rw [if_pos e_1_3]); first | done | rfl)), rfl, rfl, rfl⟩
  refine (Decidable.em (b = 4)).elim (fun e_1_4 => ?_) (fun e_1_4 => ?_)
  · refine ax_tin (off := 58) (tgt := 59) dX12_letterOf_1 (by rw [e_1_4]; decide) (by rw [e_1_4]; decide) (by rw [e_1_4]; decide) (by decide) ?_
    refine ax_aload_n (i := 0) dX12_letterOf_59 rfl rfl ?_
    refine ax_getR dX12_letterOf_60 fl_X12_30 rfl (OKs hZ rfl) (OKr hZ rfl) ?_
    refine ax_iload_n (i := 1) dX12_letterOf_63 rfl rfl ?_
    refine ax_ialdN a.toNatClampNeg dX12_letterOf_64 (OKs hZ rfl) ha hl (by decide) ?_
    refine ax_bipush (v := 10) dX12_letterOf_65 (by decide) ?_
    refine ax_idiv dX12_letterOf_67 (by decide) ?_
    refine ax_iret dX12_letterOf_68 rfl rfl (Nat.le_of_ble_eq_true rfl) (Nat.le_of_ble_eq_true rfl) ?_
    exact ⟨congrArg (fun z => some (Value.int z)) (Eq.symm (by unfold r_X12_letterOf; (try rw [if_neg e_1_0]); (try rw [if_neg e_1_1]); (try rw [if_neg e_1_2]); (try rw [if_neg e_1_3]); (try rw [if_pos e_1_4]); first | done | rfl)), rfl, rfl, rfl⟩
  refine ax_tout (tgt := 69) dX12_letterOf_1 (sw_out 5 (by decide) (by decide) ⟨⟨⟨⟨⟨trivial, e_1_0⟩, e_1_1⟩, e_1_2⟩, e_1_3⟩, e_1_4⟩) (by decide) ?_
  refine ax_aload_n (i := 0) dX12_letterOf_69 rfl rfl ?_
  refine ax_getI dX12_letterOf_70 fl_X12_224 rfl (OKs hZ rfl) ?_
  refine ax_bipush (v := 10) dX12_letterOf_73 (by decide) ?_
  refine ax_irem dX12_letterOf_75 (by decide) ?_
  refine ax_iret dX12_letterOf_76 rfl rfl (Nat.le_of_ble_eq_true rfl) (Nat.le_of_ble_eq_true rfl) ?_
  exact ⟨congrArg (fun z => some (Value.int z)) (Eq.symm (by unfold r_X12_letterOf; (try rw [if_neg e_1_0]); (try rw [if_neg e_1_1]); (try rw [if_neg e_1_2]); (try rw [if_neg e_1_3]); (try rw [if_neg e_1_4]); first | done | rfl)), rfl, rfl, rfl⟩
def r_X12_kept (G : Gt) (L : Lt) (a : Int32) (x : Int64) : Int64 := if a = 0 then ((((x).toInt32).toInt8.toInt32).toInt64) else (if a = 1 then ((((x).toInt32).toInt16.toInt32).toInt64) else (if a = 2 then (((x).toInt32).toInt64) else (if a = 3 then x else (if (lg_cmp x 0) = 0 then 0 else 1))))
theorem c_X12_kept {Z : Zt} {G : Gt} {L : Lt}   (a : Int32) (x : Int64)  : AC mX12_kept 1 0 0 [.int a, .long x] Z G L (DQ (some (.long (r_X12_kept G L a x))) Z G L) := by
  refine AC.intro (by decide +kernel) (Nat.le_of_ble_eq_true rfl) ?_
  refine ax_lv [(0, .int a), (1, .long x)] ⟨rfl, rfl, trivial⟩ ?_
  refine ax_iload_n (i := 0) dX12_kept_0 rfl rfl ?_
  refine (Decidable.em (a = 0)).elim (fun e_1_0 => ?_) (fun e_1_0 => ?_)
  · refine ax_tin (off := 31) (tgt := 32) dX12_kept_1 (by rw [e_1_0]; decide) (by rw [e_1_0]; decide) (by rw [e_1_0]; decide) (by decide) ?_
    refine ax_lload_n (i := 1) dX12_kept_32 rfl rfl ?_
    refine ax_l2i dX12_kept_33 ?_
    refine ax_i2b dX12_kept_34 ?_
    refine ax_i2l dX12_kept_35 ?_
    refine ax_lret dX12_kept_36 rfl (Nat.le_of_ble_eq_true rfl) (Nat.le_of_ble_eq_true rfl) ?_
    exact ⟨congrArg (fun z => some (Value.long z)) (Eq.symm (by unfold r_X12_kept; (try rw [if_pos e_1_0]); first | done | rfl)), rfl, rfl, rfl⟩
  refine (Decidable.em (a = 1)).elim (fun e_1_1 => ?_) (fun e_1_1 => ?_)
  · refine ax_tin (off := 36) (tgt := 37) dX12_kept_1 (by rw [e_1_1]; decide) (by rw [e_1_1]; decide) (by rw [e_1_1]; decide) (by decide) ?_
    refine ax_lload_n (i := 1) dX12_kept_37 rfl rfl ?_
    refine ax_l2i dX12_kept_38 ?_
    refine ax_i2s dX12_kept_39 ?_
    refine ax_i2l dX12_kept_40 ?_
    refine ax_lret dX12_kept_41 rfl (Nat.le_of_ble_eq_true rfl) (Nat.le_of_ble_eq_true rfl) ?_
    exact ⟨congrArg (fun z => some (Value.long z)) (Eq.symm (by unfold r_X12_kept; (try rw [if_neg e_1_0]); (try rw [if_pos e_1_1]); first | done | rfl)), rfl, rfl, rfl⟩
  refine (Decidable.em (a = 2)).elim (fun e_1_2 => ?_) (fun e_1_2 => ?_)
  · refine ax_tin (off := 41) (tgt := 42) dX12_kept_1 (by rw [e_1_2]; decide) (by rw [e_1_2]; decide) (by rw [e_1_2]; decide) (by decide) ?_
    refine ax_lload_n (i := 1) dX12_kept_42 rfl rfl ?_
    refine ax_l2i dX12_kept_43 ?_
    refine ax_i2l dX12_kept_44 ?_
    refine ax_lret dX12_kept_45 rfl (Nat.le_of_ble_eq_true rfl) (Nat.le_of_ble_eq_true rfl) ?_
    exact ⟨congrArg (fun z => some (Value.long z)) (Eq.symm (by unfold r_X12_kept; (try rw [if_neg e_1_0]); (try rw [if_neg e_1_1]); (try rw [if_pos e_1_2]); first | done | rfl)), rfl, rfl, rfl⟩
  refine (Decidable.em (a = 3)).elim (fun e_1_3 => ?_) (fun e_1_3 => ?_)
  · refine ax_tin (off := 45) (tgt := 46) dX12_kept_1 (by rw [e_1_3]; decide) (by rw [e_1_3]; decide) (by rw [e_1_3]; decide) (by decide) ?_
    refine ax_lload_n (i := 1) dX12_kept_46 rfl rfl ?_
    refine ax_lret dX12_kept_47 rfl (Nat.le_of_ble_eq_true rfl) (Nat.le_of_ble_eq_true rfl) ?_
    exact ⟨congrArg (fun z => some (Value.long z)) (Eq.symm (by unfold r_X12_kept; (try rw [if_neg e_1_0]); (try rw [if_neg e_1_1]); (try rw [if_neg e_1_2]); (try rw [if_pos e_1_3]); first | done | rfl)), rfl, rfl, rfl⟩
  refine ax_tout (tgt := 48) dX12_kept_1 (sw_out 4 (by decide) (by decide) ⟨⟨⟨⟨trivial, e_1_0⟩, e_1_1⟩, e_1_2⟩, e_1_3⟩) (by decide) ?_
  refine ax_lload_n (i := 1) dX12_kept_48 rfl rfl ?_
  refine ax_lconst (v := 0) dX12_kept_49 (by decide) ?_
  refine ax_lcmp dX12_kept_50 ?_
  refine ax_if_eq (tgt := 58) dX12_kept_51 (by decide) (fun c_51 => ?_) (fun c_51 => ?_)
  · refine ax_lconst (v := 0) dX12_kept_58 (by decide) ?_
    refine ax_lret dX12_kept_59 rfl (Nat.le_of_ble_eq_true rfl) (Nat.le_of_ble_eq_true rfl) ?_
    exact ⟨congrArg (fun z => some (Value.long z)) (Eq.symm (by unfold r_X12_kept; (try rw [if_neg e_1_0]); (try rw [if_neg e_1_1]); (try rw [if_neg e_1_2]); (try rw [if_neg e_1_3]); (try rw [if_pos c_51]); first | done | rfl)), rfl, rfl, rfl⟩
  · refine ax_lconst (v := 1) dX12_kept_54 (by decide) ?_
    refine ax_goto (tgt := 59) dX12_kept_55 (by decide) ?_
    refine ax_lret dX12_kept_59 rfl (Nat.le_of_ble_eq_true rfl) (Nat.le_of_ble_eq_true rfl) ?_
    exact ⟨congrArg (fun z => some (Value.long z)) (Eq.symm (by unfold r_X12_kept; (try rw [if_neg e_1_0]); (try rw [if_neg e_1_1]); (try rw [if_neg e_1_2]); (try rw [if_neg e_1_3]); (try rw [if_neg c_51]); first | done | rfl)), rfl, rfl, rfl⟩
def r_X12_item (G : Gt) (L : Lt) (a : Int32) (b : Int32) (x : Int64) : Int32 := if (wi a 0 5) = 0 then (-1) else (if 0 ≤ (G 105 a.toNatClampNeg) then (if (wi b 0 ((G 106 a.toNatClampNeg) - 1)) = 0 then (-13) else 1) else (-11))
def l_X12_item (G : Gt) (L : Lt) (a : Int32) (b : Int32) (x : Int64) : Lt := if (wi a 0 5) = 0 then L else (if 0 ≤ (G 105 a.toNatClampNeg) then (if (wi b 0 ((G 106 a.toNatClampNeg) - 1)) = 0 then L else (up2 L 107 (60 * a.toNatClampNeg + b.toNatClampNeg) (r_X12_kept G L (G 105 a.toNatClampNeg) x))) else L)
theorem c_X12_item {Z : Zt} {G : Gt} {L : Lt}  (hZ : OK Z) (hS : ∀ t, t < 6 → cntOK 60 (G 106 t)) (a : Int32) (b : Int32) (x : Int64)  : AC mX12_item 3 0 0 [.ref 75, .int a, .int b, .long x] Z G L (DQ (some (.int (r_X12_item G L a b x))) Z G (l_X12_item G L a b x)) := by
  refine AC.intro (by decide +kernel) (Nat.le_of_ble_eq_true rfl) ?_
  refine ax_lv [(0, .ref 75), (1, .int a), (2, .int b), (3, .long x)] ⟨rfl, rfl, rfl, rfl, trivial⟩ ?_
  refine ax_iload_n (i := 1) dX12_item_0 rfl rfl ?_
  refine ax_cSv dX12_item_1 lk_X12_337 (c_X12_isTape a) rfl rfl (Nat.le_of_ble_eq_true rfl) (Nat.le_of_ble_eq_true rfl) (Nat.le_of_ble_eq_true rfl) (Nat.le_of_ble_eq_true rfl) ?_
  refine ax_if_ne (tgt := 9) dX12_item_4 (by decide) (fun c_4 => ?_) (fun c_4 => ?_)
  · refine ax_aload_n (i := 0) dX12_item_9 rfl rfl ?_
    refine ax_getR dX12_item_10 fl_X12_100 rfl (OKs hZ rfl) (OKr hZ rfl) ?_
    refine ax_iload_n (i := 1) dX12_item_13 rfl rfl ?_
    refine ax_ialdN a.toNatClampNeg dX12_item_14 (OKs hZ rfl) (wi_e c_4) (wi_l c_4 (by decide)) (by decide) ?_
    refine ax_if_ge (tgt := 21) dX12_item_15 (by decide) (fun c_15 => ?_) (fun c_15 => ?_)
    · refine ax_iload_n (i := 2) dX12_item_21 rfl rfl ?_
      refine ax_iconst (v := 0) dX12_item_22 (by decide) ?_
      refine ax_aload_n (i := 0) dX12_item_23 rfl rfl ?_
      refine ax_getR dX12_item_24 fl_X12_103 rfl (OKs hZ rfl) (OKr hZ rfl) ?_
      refine ax_iload_n (i := 1) dX12_item_27 rfl rfl ?_
      refine ax_ialdN a.toNatClampNeg dX12_item_28 (OKs hZ rfl) (wi_e c_4) (wi_l c_4 (by decide)) (by decide) ?_
      refine ax_iconst (v := 1) dX12_item_29 (by decide) ?_
      refine ax_isub dX12_item_30 ?_
      refine ax_cSv dX12_item_31 lk_X12_117 (c_X12_within b 0 ((G 106 a.toNatClampNeg) - 1)) rfl rfl (Nat.le_of_ble_eq_true rfl) (Nat.le_of_ble_eq_true rfl) (Nat.le_of_ble_eq_true rfl) (Nat.le_of_ble_eq_true rfl) ?_
      refine ax_if_ne (tgt := 40) dX12_item_34 (by decide) (fun c_34 => ?_) (fun c_34 => ?_)
      · refine ax_aload_n (i := 0) dX12_item_40 rfl rfl ?_
        refine ax_getR dX12_item_41 fl_X12_106 rfl (OKs hZ rfl) (OKr hZ rfl) ?_
        refine ax_bipush (v := 60) dX12_item_44 (by decide) ?_
        refine ax_iload_n (i := 1) dX12_item_46 rfl rfl ?_
        refine ax_imul dX12_item_47 ?_
        refine ax_iload_n (i := 2) dX12_item_48 rfl rfl ?_
        refine ax_iadd dX12_item_49 ?_
        refine ax_aload_n (i := 0) dX12_item_50 rfl rfl ?_
        refine ax_getR dX12_item_51 fl_X12_100 rfl (OKs hZ rfl) (OKr hZ rfl) ?_
        refine ax_iload_n (i := 1) dX12_item_54 rfl rfl ?_
        refine ax_ialdN a.toNatClampNeg dX12_item_55 (OKs hZ rfl) (wi_e c_4) (wi_l c_4 (by decide)) (by decide) ?_
        refine ax_lload_n (i := 3) dX12_item_56 rfl rfl ?_
        refine ax_cSv dX12_item_57 lk_X12_340 (c_X12_kept  (G 105 a.toNatClampNeg) x) rfl rfl (Nat.le_of_ble_eq_true rfl) (Nat.le_of_ble_eq_true rfl) (Nat.le_of_ble_eq_true rfl) (Nat.le_of_ble_eq_true rfl) ?_
        refine ax_lastN (60 * a.toNatClampNeg + b.toNatClampNeg) dX12_item_60 (OKs hZ rfl) (ix2 60 (wi_e c_4) (wi_e c_34)) (by have := wi_l (n := 6) c_4 (by decide); have := has_l (by decide) (hS _ this) c_34; omega) (by decide) ?_
        refine ax_iconst (v := 1) dX12_item_61 (by decide) ?_
        refine ax_iret dX12_item_62 rfl rfl (Nat.le_of_ble_eq_true rfl) (Nat.le_of_ble_eq_true rfl) ?_
        exact ⟨congrArg (fun z => some (Value.int z)) (Eq.symm (by unfold r_X12_item; (try rw [if_neg c_4]); (try rw [if_pos c_15]); (try rw [if_neg c_34]); first | done | rfl)), rfl, rfl, Eq.symm (by unfold l_X12_item; (try rw [if_neg c_4]); (try rw [if_pos c_15]); (try rw [if_neg c_34]); first | done | rfl)⟩
      · refine ax_bipush (v := (-13)) dX12_item_37 (by decide) ?_
        refine ax_iret dX12_item_39 rfl rfl (Nat.le_of_ble_eq_true rfl) (Nat.le_of_ble_eq_true rfl) ?_
        exact ⟨congrArg (fun z => some (Value.int z)) (Eq.symm (by unfold r_X12_item; (try rw [if_neg c_4]); (try rw [if_pos c_15]); (try rw [if_pos c_34]); first | done | rfl)), rfl, rfl, Eq.symm (by unfold l_X12_item; (try rw [if_neg c_4]); (try rw [if_pos c_15]); (try rw [if_pos c_34]); first | done | rfl)⟩
    · refine ax_bipush (v := (-11)) dX12_item_18 (by decide) ?_
      refine ax_iret dX12_item_20 rfl rfl (Nat.le_of_ble_eq_true rfl) (Nat.le_of_ble_eq_true rfl) ?_
      exact ⟨congrArg (fun z => some (Value.int z)) (Eq.symm (by unfold r_X12_item; (try rw [if_neg c_4]); (try rw [if_neg c_15]); first | done | rfl)), rfl, rfl, Eq.symm (by unfold l_X12_item; (try rw [if_neg c_4]); (try rw [if_neg c_15]); first | done | rfl)⟩
  · refine ax_iconst (v := (-1)) dX12_item_7 (by decide) ?_
    refine ax_iret dX12_item_8 rfl rfl (Nat.le_of_ble_eq_true rfl) (Nat.le_of_ble_eq_true rfl) ?_
    exact ⟨congrArg (fun z => some (Value.int z)) (Eq.symm (by unfold r_X12_item; (try rw [if_pos c_4]); first | done | rfl)), rfl, rfl, Eq.symm (by unfold l_X12_item; (try rw [if_pos c_4]); first | done | rfl)⟩
def r_X12_read (G : Gt) (L : Lt) (a : Int32) (b : Int32) : Int64 := if (wi a 0 5) = 0 then (-9223372036854775808) else (if (G 105 a.toNatClampNeg) < 0 then (-9223372036854775808) else (if (wi b 0 ((G 106 a.toNatClampNeg) - 1)) = 0 then (-9223372036854775808) else (L 107 (60 * a.toNatClampNeg + b.toNatClampNeg))))
theorem c_X12_read {Z : Zt} {G : Gt} {L : Lt}  (hZ : OK Z) (hS : ∀ t, t < 6 → cntOK 60 (G 106 t)) (a : Int32) (b : Int32)  : AC mX12_read 3 0 0 [.ref 75, .int a, .int b] Z G L (DQ (some (.long (r_X12_read G L a b))) Z G L) := by
  refine AC.intro (by decide +kernel) (Nat.le_of_ble_eq_true rfl) ?_
  refine ax_lv [(0, .ref 75), (1, .int a), (2, .int b)] ⟨rfl, rfl, rfl, trivial⟩ ?_
  refine ax_iload_n (i := 1) dX12_read_0 rfl rfl ?_
  refine ax_cSv dX12_read_1 lk_X12_337 (c_X12_isTape a) rfl rfl (Nat.le_of_ble_eq_true rfl) (Nat.le_of_ble_eq_true rfl) (Nat.le_of_ble_eq_true rfl) (Nat.le_of_ble_eq_true rfl) ?_
  refine ax_if_eq (tgt := 46) dX12_read_4 (by decide) (fun c_4 => ?_) (fun c_4 => ?_)
  · refine ax_ldc2 dX12_read_46 wk_X12_300 ?_
    refine ax_lret dX12_read_49 rfl (Nat.le_of_ble_eq_true rfl) (Nat.le_of_ble_eq_true rfl) ?_
    exact ⟨congrArg (fun z => some (Value.long z)) (Eq.symm (by unfold r_X12_read; (try rw [if_pos c_4]); first | done | rfl)), rfl, rfl, rfl⟩
  · refine ax_aload_n (i := 0) dX12_read_7 rfl rfl ?_
    refine ax_getR dX12_read_8 fl_X12_100 rfl (OKs hZ rfl) (OKr hZ rfl) ?_
    refine ax_iload_n (i := 1) dX12_read_11 rfl rfl ?_
    refine ax_ialdN a.toNatClampNeg dX12_read_12 (OKs hZ rfl) (wi_e c_4) (wi_l c_4 (by decide)) (by decide) ?_
    refine ax_if_lt (tgt := 46) dX12_read_13 (by decide) (fun c_13 => ?_) (fun c_13 => ?_)
    · refine ax_ldc2 dX12_read_46 wk_X12_300 ?_
      refine ax_lret dX12_read_49 rfl (Nat.le_of_ble_eq_true rfl) (Nat.le_of_ble_eq_true rfl) ?_
      exact ⟨congrArg (fun z => some (Value.long z)) (Eq.symm (by unfold r_X12_read; (try rw [if_neg c_4]); (try rw [if_pos c_13]); first | done | rfl)), rfl, rfl, rfl⟩
    · refine ax_iload_n (i := 2) dX12_read_16 rfl rfl ?_
      refine ax_iconst (v := 0) dX12_read_17 (by decide) ?_
      refine ax_aload_n (i := 0) dX12_read_18 rfl rfl ?_
      refine ax_getR dX12_read_19 fl_X12_103 rfl (OKs hZ rfl) (OKr hZ rfl) ?_
      refine ax_iload_n (i := 1) dX12_read_22 rfl rfl ?_
      refine ax_ialdN a.toNatClampNeg dX12_read_23 (OKs hZ rfl) (wi_e c_4) (wi_l c_4 (by decide)) (by decide) ?_
      refine ax_iconst (v := 1) dX12_read_24 (by decide) ?_
      refine ax_isub dX12_read_25 ?_
      refine ax_cSv dX12_read_26 lk_X12_117 (c_X12_within b 0 ((G 106 a.toNatClampNeg) - 1)) rfl rfl (Nat.le_of_ble_eq_true rfl) (Nat.le_of_ble_eq_true rfl) (Nat.le_of_ble_eq_true rfl) (Nat.le_of_ble_eq_true rfl) ?_
      refine ax_if_eq (tgt := 46) dX12_read_29 (by decide) (fun c_29 => ?_) (fun c_29 => ?_)
      · refine ax_ldc2 dX12_read_46 wk_X12_300 ?_
        refine ax_lret dX12_read_49 rfl (Nat.le_of_ble_eq_true rfl) (Nat.le_of_ble_eq_true rfl) ?_
        exact ⟨congrArg (fun z => some (Value.long z)) (Eq.symm (by unfold r_X12_read; (try rw [if_neg c_4]); (try rw [if_neg c_13]); (try rw [if_pos c_29]); first | done | rfl)), rfl, rfl, rfl⟩
      · refine ax_aload_n (i := 0) dX12_read_32 rfl rfl ?_
        refine ax_getR dX12_read_33 fl_X12_106 rfl (OKs hZ rfl) (OKr hZ rfl) ?_
        refine ax_bipush (v := 60) dX12_read_36 (by decide) ?_
        refine ax_iload_n (i := 1) dX12_read_38 rfl rfl ?_
        refine ax_imul dX12_read_39 ?_
        refine ax_iload_n (i := 2) dX12_read_40 rfl rfl ?_
        refine ax_iadd dX12_read_41 ?_
        refine ax_laldN (60 * a.toNatClampNeg + b.toNatClampNeg) dX12_read_42 (OKs hZ rfl) (ix2 60 (wi_e c_4) (wi_e c_29)) (by have := wi_l (n := 6) c_4 (by decide); have := has_l (by decide) (hS _ this) c_29; omega) (by decide) ?_
        refine ax_goto (tgt := 49) dX12_read_43 (by decide) ?_
        refine ax_lret dX12_read_49 rfl (Nat.le_of_ble_eq_true rfl) (Nat.le_of_ble_eq_true rfl) ?_
        exact ⟨congrArg (fun z => some (Value.long z)) (Eq.symm (by unfold r_X12_read; (try rw [if_neg c_4]); (try rw [if_neg c_13]); (try rw [if_neg c_29]); first | done | rfl)), rfl, rfl, rfl⟩
