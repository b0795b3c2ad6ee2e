-- ===== contracts: the class, single steps (printed by auto.py) =====
theorem ix6 {b : Int32} (hb : b = nI b.toNatClampNeg) : 6 + b = nI (6 + b.toNatClampNeg) := by
  generalize b.toNatClampNeg = q at hb ⊢
  rw [hb]
  exact nI_add 6 q
theorem isW24 {Z : Zt} (h : OK Z) : isW Z 24 := ⟨h, Or.inl rfl⟩
theorem isW41 {Z : Zt} (h : OK Z) : isW Z 41 := ⟨h, Or.inr (Or.inl rfl)⟩
theorem isW58 {Z : Zt} (h : OK Z) : isW Z 58 := ⟨h, Or.inr (Or.inr rfl)⟩
theorem Trf {Z : Zt} {t : Nat} (h : OK Z) (ht : t < 6) : Z.2.2 9 t = some (10 + t) := by
  have e : ∀ p, p < 6 → RF0 9 p = some (10 + p) := by decide +kernel
  exact OKr h (e t ht)
theorem Trow {Z : Zt} {t : Nat} (h : OK Z) (ht : t < 6) : Z.2.1 (10 + t) = some (.inr (.long, 60)) := by
  have e : ∀ p, p < 6 → SH0 (10 + p) = some (.inr (.long, 60)) := by decide +kernel
  exact OKs h (e t ht)
theorem c_X11_swap {Z : Zt} {G : Gt} {L : Lt} {k len : Nat} (hz : Z.2.1 k = some (.inr (.int, len))) (hl : len < 2147483648) (j : Nat) (hj : j < len) (a n : Int32) (hi : a = nI j) : AC mX11_swap 1 0 0 [.ref k, .int a, .int n] Z G L (DQ (some (.int (G k j))) Z (up2 G k j n) L) := by
  refine AC.intro (by decide +kernel) (Nat.le_of_ble_eq_true rfl) ?_
  refine ax_lv [(0, .ref k), (1, .int a), (2, .int n)] ⟨rfl, rfl, rfl, trivial⟩ ?_
  refine ax_aload_n (i := 0) dX11_swap_0 rfl rfl ?_
  refine ax_iload_n (i := 1) dX11_swap_1 rfl rfl ?_
  refine ax_ialdN j dX11_swap_2 hz hi hj hl ?_
  refine ax_istore_n (i := 3) dX11_swap_3 rfl (by decide) rfl ?_
  refine ax_aload_n (i := 0) dX11_swap_4 rfl rfl ?_
  refine ax_iload_n (i := 1) dX11_swap_5 rfl rfl ?_
  refine ax_iload_n (i := 2) dX11_swap_6 rfl rfl ?_
  refine ax_iastN j dX11_swap_7 hz hi hj hl ?_
  refine ax_iload_n (i := 3) dX11_swap_8 rfl rfl ?_
  refine ax_iret dX11_swap_9 rfl rfl (Nat.le_of_ble_eq_true rfl) (Nat.le_of_ble_eq_true rfl) ?_
  exact ⟨rfl, rfl, rfl, rfl⟩
def r_X11_grieve (G : Gt) (L : Lt) (a : Int32) (n : Int32) : Int32 := if (wi a 0 3) = 0 then (-1) else (if (wi n 0 999) = 0 then (-2) else (G 32 a.toNatClampNeg))
def g_X11_grieve (G : Gt) (L : Lt) (a : Int32) (n : Int32) : Gt := if (wi a 0 3) = 0 then G else (if (wi n 0 999) = 0 then G else (up2 G 32 a.toNatClampNeg n))
theorem c_X11_grieve {Z : Zt} {G : Gt} {L : Lt}  (hZ : OK Z) (a : Int32) (n : Int32)  : AC mX11_grieve 2 0 0 [.ref 0, .int a, .int n] Z G L (DQ (some (.int (r_X11_grieve G L a n))) Z (g_X11_grieve G L a n) L) := by
  refine AC.intro (by decide +kernel) (Nat.le_of_ble_eq_true rfl) ?_
  refine ax_lv [(0, .ref 0), (1, .int a), (2, .int n)] ⟨rfl, rfl, rfl, trivial⟩ ?_
  refine ax_iload_n (i := 1) dX11_grieve_0 rfl rfl ?_
  refine ax_iconst (v := 3) dX11_grieve_1 (by decide) ?_
  refine ax_cSv dX11_grieve_2 lk_X11_53 (c_X11_within a 3) rfl rfl (Nat.le_of_ble_eq_true rfl) (Nat.le_of_ble_eq_true rfl) (Nat.le_of_ble_eq_true rfl) (Nat.le_of_ble_eq_true rfl) ?_
  refine ax_if_ne (tgt := 10) dX11_grieve_5 (by decide) (fun c_5 => ?_) (fun c_5 => ?_)
  · refine ax_iload_n (i := 2) dX11_grieve_10 rfl rfl ?_
    refine ax_sipush (v := 999) dX11_grieve_11 (by decide) ?_
    refine ax_cSv dX11_grieve_14 lk_X11_53 (c_X11_within n 999) rfl rfl (Nat.le_of_ble_eq_true rfl) (Nat.le_of_ble_eq_true rfl) (Nat.le_of_ble_eq_true rfl) (Nat.le_of_ble_eq_true rfl) ?_
    refine ax_if_ne (tgt := 23) dX11_grieve_17 (by decide) (fun c_17 => ?_) (fun c_17 => ?_)
    · refine ax_aload_n (i := 0) dX11_grieve_23 rfl rfl ?_
      refine ax_getR dX11_grieve_24 fl_X11_14 rfl (OKs hZ rfl) (OKr hZ rfl) ?_
      refine ax_getR dX11_grieve_27 fl_X11_101 rfl (OKs hZ rfl) (OKr hZ rfl) ?_
      refine ax_iload_n (i := 1) dX11_grieve_30 rfl rfl ?_
      refine ax_iload_n (i := 2) dX11_grieve_31 rfl rfl ?_
      refine ax_cSv dX11_grieve_32 lk_X11_91 (c_X11_swap (OKs hZ rfl) (by decide) a.toNatClampNeg (wi_l c_5 (by decide)) a n (wi_e c_5)) rfl rfl (Nat.le_of_ble_eq_true rfl) (Nat.le_of_ble_eq_true rfl) (Nat.le_of_ble_eq_true rfl) (Nat.le_of_ble_eq_true rfl) ?_
      refine ax_iret dX11_grieve_35 rfl rfl (Nat.le_of_ble_eq_true rfl) (Nat.le_of_ble_eq_true rfl) ?_
      exact ⟨congrArg (fun z => some (Value.int z)) (Eq.symm (by unfold r_X11_grieve; (try rw [if_neg c_5]); (try rw [if_neg c_17]); first | done | rfl)), rfl, Eq.symm (by unfold g_X11_grieve; (try rw [if_neg c_5]); (try rw [if_neg c_17]); first | done | rfl), rfl⟩
    · refine ax_bipush (v := (-2)) dX11_grieve_20 (by decide) ?_
      refine ax_iret dX11_grieve_22 rfl rfl (Nat.le_of_ble_eq_true rfl) (Nat.le_of_ble_eq_true rfl) ?_
      exact ⟨congrArg (fun z => some (Value.int z)) (Eq.symm (by unfold r_X11_grieve; (try rw [if_neg c_5]); (try rw [if_pos c_17]); first | done | rfl)), rfl, Eq.symm (by unfold g_X11_grieve; (try rw [if_neg c_5]); (try rw [if_pos c_17]); first | done | rfl), rfl⟩
  · refine ax_iconst (v := (-1)) dX11_grieve_8 (by decide) ?_
    refine ax_iret dX11_grieve_9 rfl rfl (Nat.le_of_ble_eq_true rfl) (Nat.le_of_ble_eq_true rfl) ?_
    exact ⟨congrArg (fun z => some (Value.int z)) (Eq.symm (by unfold r_X11_grieve; (try rw [if_pos c_5]); first | done | rfl)), rfl, Eq.symm (by unfold g_X11_grieve; (try rw [if_pos c_5]); first | done | rfl), rfl⟩
def r_X11_rain (G : Gt) (L : Lt) (a : Int32) (n : Int32) : Int32 := if (wi a 0 3) = 0 then (-1) else (if (wi n 0 9) = 0 then (-2) else (G 33 a.toNatClampNeg))
def g_X11_rain (G : Gt) (L : Lt) (a : Int32) (n : Int32) : Gt := if (wi a 0 3) = 0 then G else (if (wi n 0 9) = 0 then G else (up2 G 33 a.toNatClampNeg n))
theorem c_X11_rain {Z : Zt} {G : Gt} {L : Lt}  (hZ : OK Z) (a : Int32) (n : Int32)  : AC mX11_rain 2 0 0 [.ref 0, .int a, .int n] Z G L (DQ (some (.int (r_X11_rain G L a n))) Z (g_X11_rain G L a n) L) := by
  refine AC.intro (by decide +kernel) (Nat.le_of_ble_eq_true rfl) ?_
  refine ax_lv [(0, .ref 0), (1, .int a), (2, .int n)] ⟨rfl, rfl, rfl, trivial⟩ ?_
  refine ax_iload_n (i := 1) dX11_rain_0 rfl rfl ?_
  refine ax_iconst (v := 3) dX11_rain_1 (by decide) ?_
  refine ax_cSv dX11_rain_2 lk_X11_53 (c_X11_within a 3) rfl rfl (Nat.le_of_ble_eq_true rfl) (Nat.le_of_ble_eq_true rfl) (Nat.le_of_ble_eq_true rfl) (Nat.le_of_ble_eq_true rfl) ?_
  refine ax_if_ne (tgt := 10) dX11_rain_5 (by decide) (fun c_5 => ?_) (fun c_5 => ?_)
  · refine ax_iload_n (i := 2) dX11_rain_10 rfl rfl ?_
    refine ax_bipush (v := 9) dX11_rain_11 (by decide) ?_
    refine ax_cSv dX11_rain_13 lk_X11_53 (c_X11_within n 9) rfl rfl (Nat.le_of_ble_eq_true rfl) (Nat.le_of_ble_eq_true rfl) (Nat.le_of_ble_eq_true rfl) (Nat.le_of_ble_eq_true rfl) ?_
    refine ax_if_ne (tgt := 22) dX11_rain_16 (by decide) (fun c_16 => ?_) (fun c_16 => ?_)
    · refine ax_aload_n (i := 0) dX11_rain_22 rfl rfl ?_
      refine ax_getR dX11_rain_23 fl_X11_14 rfl (OKs hZ rfl) (OKr hZ rfl) ?_
      refine ax_getR dX11_rain_26 fl_X11_104 rfl (OKs hZ rfl) (OKr hZ rfl) ?_
      refine ax_iload_n (i := 1) dX11_rain_29 rfl rfl ?_
      refine ax_iload_n (i := 2) dX11_rain_30 rfl rfl ?_
      refine ax_cSv dX11_rain_31 lk_X11_91 (c_X11_swap (OKs hZ rfl) (by decide) a.toNatClampNeg (wi_l c_5 (by decide)) a n (wi_e c_5)) rfl rfl (Nat.le_of_ble_eq_true rfl) (Nat.le_of_ble_eq_true rfl) (Nat.le_of_ble_eq_true rfl) (Nat.le_of_ble_eq_true rfl) ?_
      refine ax_iret dX11_rain_34 rfl rfl (Nat.le_of_ble_eq_true rfl) (Nat.le_of_ble_eq_true rfl) ?_
      exact ⟨congrArg (fun z => some (Value.int z)) (Eq.symm (by unfold r_X11_rain; (try rw [if_neg c_5]); (try rw [if_neg c_16]); first | done | rfl)), rfl, Eq.symm (by unfold g_X11_rain; (try rw [if_neg c_5]); (try rw [if_neg c_16]); first | done | rfl), rfl⟩
    · refine ax_bipush (v := (-2)) dX11_rain_19 (by decide) ?_
      refine ax_iret dX11_rain_21 rfl rfl (Nat.le_of_ble_eq_true rfl) (Nat.le_of_ble_eq_true rfl) ?_
      exact ⟨congrArg (fun z => some (Value.int z)) (Eq.symm (by unfold r_X11_rain; (try rw [if_neg c_5]); (try rw [if_pos c_16]); first | done | rfl)), rfl, Eq.symm (by unfold g_X11_rain; (try rw [if_neg c_5]); (try rw [if_pos c_16]); first | done | rfl), rfl⟩
  · refine ax_iconst (v := (-1)) dX11_rain_8 (by decide) ?_
    refine ax_iret dX11_rain_9 rfl rfl (Nat.le_of_ble_eq_true rfl) (Nat.le_of_ble_eq_true rfl) ?_
    exact ⟨congrArg (fun z => some (Value.int z)) (Eq.symm (by unfold r_X11_rain; (try rw [if_pos c_5]); first | done | rfl)), rfl, Eq.symm (by unfold g_X11_rain; (try rw [if_pos c_5]); first | done | rfl), rfl⟩
def r_X11_set (G : Gt) (L : Lt) (a : Int32) (b : Int32) (n : Int32) : Int32 := if (wi a 0 (G 24 11 - 1)) = 0 then (-1) else (if (wi b 0 2) = 0 then (-1) else (if b = 0 then (if (wi n 0 20) = 0 then (-2) else (G (26 + a.toNatClampNeg) 2)) else (if b = 1 then (if (wi n 0 99) = 0 then (-2) else (G (26 + a.toNatClampNeg) 4)) else (if (wi n 0 3) = 0 then (-2) else (G (26 + a.toNatClampNeg) 3)))))
def g_X11_set (G : Gt) (L : Lt) (a : Int32) (b : Int32) (n : Int32) : Gt := if (wi a 0 (G 24 11 - 1)) = 0 then G else (if (wi b 0 2) = 0 then G else (if b = 0 then (if (wi n 0 20) = 0 then G else (up2 G (26 + a.toNatClampNeg) 2 n)) else (if b = 1 then (if (wi n 0 99) = 0 then G else (up2 G (26 + a.toNatClampNeg) 4 n)) else (if (wi n 0 3) = 0 then G else (up2 G (26 + a.toNatClampNeg) 3 n)))))
theorem c_X11_set {Z : Zt} {G : Gt} {L : Lt}  (hZ : OK Z) (hR : cntOK 6 (G 24 11)) (a : Int32) (b : Int32) (n : Int32)  : AC mX11_set 3 0 0 [.ref 0, .int a, .int b, .int n] Z G L (DQ (some (.int (r_X11_set G L a b n))) Z (g_X11_set G L a b n) L) := by
  refine AC.intro (by decide +kernel) (Nat.le_of_ble_eq_true rfl) ?_
  refine ax_lv [(0, .ref 0), (1, .int a), (2, .int b), (3, .int n)] ⟨rfl, rfl, rfl, rfl, trivial⟩ ?_
  refine ax_aload_n (i := 0) dX11_set_0 rfl rfl ?_
  refine ax_getR dX11_set_1 fl_X11_14 rfl (OKs hZ rfl) (OKr hZ rfl) ?_
  refine ax_iload_n (i := 1) dX11_set_4 rfl rfl ?_
  refine ax_cVv dX11_set_5 lk_X11_65 (c_X10_has (isW24 hZ) a) rfl (OKs hZ rfl) ⟨_, rfl, rfl⟩ rfl (Nat.le_of_ble_eq_true rfl) (Nat.le_of_ble_eq_true rfl) (Nat.le_of_ble_eq_true rfl) (Nat.le_of_ble_eq_true rfl) ?_
  refine ax_if_eq (tgt := 19) dX11_set_8 (by decide) (fun c_8 => ?_) (fun c_8 => ?_)
  · refine ax_iconst (v := (-1)) dX11_set_19 (by decide) ?_
    refine ax_iret dX11_set_20 rfl rfl (Nat.le_of_ble_eq_true rfl) (Nat.le_of_ble_eq_true rfl) ?_
    exact ⟨congrArg (fun z => some (Value.int z)) (Eq.symm (by unfold r_X11_set; (try rw [if_pos c_8]); first | done | rfl)), rfl, Eq.symm (by unfold g_X11_set; (try rw [if_pos c_8]); first | done | rfl), rfl⟩
  · refine ax_iload_n (i := 2) dX11_set_11 rfl rfl ?_
    refine ax_iconst (v := 2) dX11_set_12 (by decide) ?_
    refine ax_cSv dX11_set_13 lk_X11_53 (c_X11_within b 2) rfl rfl (Nat.le_of_ble_eq_true rfl) (Nat.le_of_ble_eq_true rfl) (Nat.le_of_ble_eq_true rfl) (Nat.le_of_ble_eq_true rfl) ?_
    refine ax_if_ne (tgt := 21) dX11_set_16 (by decide) (fun c_16 => ?_) (fun c_16 => ?_)
    · refine ax_iload_n (i := 2) dX11_set_21 rfl rfl ?_
      refine ax_if_ne (tgt := 29) dX11_set_22 (by decide) (fun c_22 => ?_) (fun c_22 => ?_)
      · refine ax_iload_n (i := 2) dX11_set_29 rfl rfl ?_
        refine ax_iconst (v := 1) dX11_set_30 (by decide) ?_
        refine ax_icmp_ne (tgt := 38) dX11_set_31 (by decide) (fun c_31 => ?_) (fun c_31 => ?_)
        · refine ax_iconst (v := 3) dX11_set_38 (by decide) ?_
          refine ax_istore dX11_set_39 (by decide) rfl ?_
          refine ax_iload_n (i := 2) dX11_set_41 rfl rfl ?_
          refine ax_if_ne (tgt := 50) dX11_set_42 (by decide) (fun c_42 => ?_) (fun c_42 => ?_)
          · refine ax_iload_n (i := 2) dX11_set_50 rfl rfl ?_
            refine ax_iconst (v := 1) dX11_set_51 (by decide) ?_
            refine ax_icmp_ne (tgt := 60) dX11_set_52 (by decide) (fun c_52 => ?_) (fun c_52 => ?_)
            · refine ax_iconst (v := 3) dX11_set_60 (by decide) ?_
              refine ax_istore dX11_set_61 (by decide) rfl ?_
              refine ax_iload_n (i := 3) dX11_set_63 rfl rfl ?_
              refine ax_iload dX11_set_64 rfl ?_
              refine ax_cSv dX11_set_66 lk_X11_53 (c_X11_within n 3) rfl rfl (Nat.le_of_ble_eq_true rfl) (Nat.le_of_ble_eq_true rfl) (Nat.le_of_ble_eq_true rfl) (Nat.le_of_ble_eq_true rfl) ?_
              refine ax_if_ne (tgt := 75) dX11_set_69 (by decide) (fun c_69 => ?_) (fun c_69 => ?_)
              · refine ax_aload_n (i := 0) dX11_set_75 rfl rfl ?_
                refine ax_getR dX11_set_76 fl_X11_14 rfl (OKs hZ rfl) (OKr hZ rfl) ?_
                refine ax_getR dX11_set_79 fl_X11_87 rfl (OKs hZ rfl) (OKr hZ rfl) ?_
                refine ax_iload_n (i := 1) dX11_set_82 rfl rfl ?_
                refine ax_aaldN a.toNatClampNeg (t0 := 5) dX11_set_83 (OKs hZ rfl) rfl (fun _ => rfl) (wi_e c_8) (has_l (by decide) hR c_8) (by decide) (Wrf (isW24 hZ) (has_l (by decide) hR c_8)) ?_
                refine ax_iload dX11_set_84 rfl ?_
                refine ax_iload_n (i := 3) dX11_set_86 rfl rfl ?_
                refine ax_cSv dX11_set_87 lk_X11_91 (c_X11_swap (Wrow (isW24 hZ) (has_l (by decide) hR c_8)) (by decide) 3 (by decide) 3 n rfl) rfl rfl (Nat.le_of_ble_eq_true rfl) (Nat.le_of_ble_eq_true rfl) (Nat.le_of_ble_eq_true rfl) (Nat.le_of_ble_eq_true rfl) ?_
                refine ax_iret dX11_set_90 rfl rfl (Nat.le_of_ble_eq_true rfl) (Nat.le_of_ble_eq_true rfl) ?_
                exact ⟨congrArg (fun z => some (Value.int z)) (Eq.symm (by unfold r_X11_set; (try rw [if_neg c_8]); (try rw [if_neg c_16]); (try rw [if_neg c_22]); (try rw [if_neg c_31]); (try rw [if_neg c_42]); (try rw [if_neg c_52]); (try rw [if_neg c_69]); first | done | rfl)), rfl, Eq.symm (by unfold g_X11_set; (try rw [if_neg c_8]); (try rw [if_neg c_16]); (try rw [if_neg c_22]); (try rw [if_neg c_31]); (try rw [if_neg c_42]); (try rw [if_neg c_52]); (try rw [if_neg c_69]); first | done | rfl), rfl⟩
              · refine ax_bipush (v := (-2)) dX11_set_72 (by decide) ?_
                refine ax_iret dX11_set_74 rfl rfl (Nat.le_of_ble_eq_true rfl) (Nat.le_of_ble_eq_true rfl) ?_
                exact ⟨congrArg (fun z => some (Value.int z)) (Eq.symm (by unfold r_X11_set; (try rw [if_neg c_8]); (try rw [if_neg c_16]); (try rw [if_neg c_22]); (try rw [if_neg c_31]); (try rw [if_neg c_42]); (try rw [if_neg c_52]); (try rw [if_pos c_69]); first | done | rfl)), rfl, Eq.symm (by unfold g_X11_set; (try rw [if_neg c_8]); (try rw [if_neg c_16]); (try rw [if_neg c_22]); (try rw [if_neg c_31]); (try rw [if_neg c_42]); (try rw [if_neg c_52]); (try rw [if_pos c_69]); first | done | rfl), rfl⟩
            · exact absurd c_52 c_31
          · exact absurd c_42 c_22
        · refine ax_iconst (v := 4) dX11_set_34 (by decide) ?_
          refine ax_goto (tgt := 39) dX11_set_35 (by decide) ?_
          refine ax_istore dX11_set_39 (by decide) rfl ?_
          refine ax_iload_n (i := 2) dX11_set_41 rfl rfl ?_
          refine ax_if_ne (tgt := 50) dX11_set_42 (by decide) (fun c_42 => ?_) (fun c_42 => ?_)
          · refine ax_iload_n (i := 2) dX11_set_50 rfl rfl ?_
            refine ax_iconst (v := 1) dX11_set_51 (by decide) ?_
            refine ax_icmp_ne (tgt := 60) dX11_set_52 (by decide) (fun c_52 => ?_) (fun c_52 => ?_)
            · exact absurd c_31 c_52
            · refine ax_bipush (v := 99) dX11_set_55 (by decide) ?_
              refine ax_goto (tgt := 61) dX11_set_57 (by decide) ?_
              refine ax_istore dX11_set_61 (by decide) rfl ?_
              refine ax_iload_n (i := 3) dX11_set_63 rfl rfl ?_
              refine ax_iload dX11_set_64 rfl ?_
              refine ax_cSv dX11_set_66 lk_X11_53 (c_X11_within n 99) rfl rfl (Nat.le_of_ble_eq_true rfl) (Nat.le_of_ble_eq_true rfl) (Nat.le_of_ble_eq_true rfl) (Nat.le_of_ble_eq_true rfl) ?_
              refine ax_if_ne (tgt := 75) dX11_set_69 (by decide) (fun c_69 => ?_) (fun c_69 => ?_)
              · refine ax_aload_n (i := 0) dX11_set_75 rfl rfl ?_
                refine ax_getR dX11_set_76 fl_X11_14 rfl (OKs hZ rfl) (OKr hZ rfl) ?_
                refine ax_getR dX11_set_79 fl_X11_87 rfl (OKs hZ rfl) (OKr hZ rfl) ?_
                refine ax_iload_n (i := 1) dX11_set_82 rfl rfl ?_
                refine ax_aaldN a.toNatClampNeg (t0 := 5) dX11_set_83 (OKs hZ rfl) rfl (fun _ => rfl) (wi_e c_8) (has_l (by decide) hR c_8) (by decide) (Wrf (isW24 hZ) (has_l (by decide) hR c_8)) ?_
                refine ax_iload dX11_set_84 rfl ?_
                refine ax_iload_n (i := 3) dX11_set_86 rfl rfl ?_
                refine ax_cSv dX11_set_87 lk_X11_91 (c_X11_swap (Wrow (isW24 hZ) (has_l (by decide) hR c_8)) (by decide) 4 (by decide) 4 n rfl) rfl rfl (Nat.le_of_ble_eq_true rfl) (Nat.le_of_ble_eq_true rfl) (Nat.le_of_ble_eq_true rfl) (Nat.le_of_ble_eq_true rfl) ?_
                refine ax_iret dX11_set_90 rfl rfl (Nat.le_of_ble_eq_true rfl) (Nat.le_of_ble_eq_true rfl) ?_
                exact ⟨congrArg (fun z => some (Value.int z)) (Eq.symm (by unfold r_X11_set; (try rw [if_neg c_8]); (try rw [if_neg c_16]); (try rw [if_neg c_22]); (try rw [if_pos c_31]); (try rw [if_neg c_42]); (try rw [if_pos c_52]); (try rw [if_neg c_69]); first | done | rfl)), rfl, Eq.symm (by unfold g_X11_set; (try rw [if_neg c_8]); (try rw [if_neg c_16]); (try rw [if_neg c_22]); (try rw [if_pos c_31]); (try rw [if_neg c_42]); (try rw [if_pos c_52]); (try rw [if_neg c_69]); first | done | rfl), rfl⟩
              · refine ax_bipush (v := (-2)) dX11_set_72 (by decide) ?_
                refine ax_iret dX11_set_74 rfl rfl (Nat.le_of_ble_eq_true rfl) (Nat.le_of_ble_eq_true rfl) ?_
                exact ⟨congrArg (fun z => some (Value.int z)) (Eq.symm (by unfold r_X11_set; (try rw [if_neg c_8]); (try rw [if_neg c_16]); (try rw [if_neg c_22]); (try rw [if_pos c_31]); (try rw [if_neg c_42]); (try rw [if_pos c_52]); (try rw [if_pos c_69]); first | done | rfl)), rfl, Eq.symm (by unfold g_X11_set; (try rw [if_neg c_8]); (try rw [if_neg c_16]); (try rw [if_neg c_22]); (try rw [if_pos c_31]); (try rw [if_neg c_42]); (try rw [if_pos c_52]); (try rw [if_pos c_69]); first | done | rfl), rfl⟩
          · exact absurd c_42 c_22
      · refine ax_iconst (v := 2) dX11_set_25 (by decide) ?_
        refine ax_goto (tgt := 39) dX11_set_26 (by decide) ?_
        refine ax_istore dX11_set_39 (by decide) rfl ?_
        refine ax_iload_n (i := 2) dX11_set_41 rfl rfl ?_
        refine ax_if_ne (tgt := 50) dX11_set_42 (by decide) (fun c_42 => ?_) (fun c_42 => ?_)
        · exact absurd c_22 c_42
        · refine ax_bipush (v := 20) dX11_set_45 (by decide) ?_
          refine ax_goto (tgt := 61) dX11_set_47 (by decide) ?_
          refine ax_istore dX11_set_61 (by decide) rfl ?_
          refine ax_iload_n (i := 3) dX11_set_63 rfl rfl ?_
          refine ax_iload dX11_set_64 rfl ?_
          refine ax_cSv dX11_set_66 lk_X11_53 (c_X11_within n 20) rfl rfl (Nat.le_of_ble_eq_true rfl) (Nat.le_of_ble_eq_true rfl) (Nat.le_of_ble_eq_true rfl) (Nat.le_of_ble_eq_true rfl) ?_
          refine ax_if_ne (tgt := 75) dX11_set_69 (by decide) (fun c_69 => ?_) (fun c_69 => ?_)
          · refine ax_aload_n (i := 0) dX11_set_75 rfl rfl ?_
            refine ax_getR dX11_set_76 fl_X11_14 rfl (OKs hZ rfl) (OKr hZ rfl) ?_
            refine ax_getR dX11_set_79 fl_X11_87 rfl (OKs hZ rfl) (OKr hZ rfl) ?_
            refine ax_iload_n (i := 1) dX11_set_82 rfl rfl ?_
            refine ax_aaldN a.toNatClampNeg (t0 := 5) dX11_set_83 (OKs hZ rfl) rfl (fun _ => rfl) (wi_e c_8) (has_l (by decide) hR c_8) (by decide) (Wrf (isW24 hZ) (has_l (by decide) hR c_8)) ?_
            refine ax_iload dX11_set_84 rfl ?_
            refine ax_iload_n (i := 3) dX11_set_86 rfl rfl ?_
            refine ax_cSv dX11_set_87 lk_X11_91 (c_X11_swap (Wrow (isW24 hZ) (has_l (by decide) hR c_8)) (by decide) 2 (by decide) 2 n rfl) rfl rfl (Nat.le_of_ble_eq_true rfl) (Nat.le_of_ble_eq_true rfl) (Nat.le_of_ble_eq_true rfl) (Nat.le_of_ble_eq_true rfl) ?_
            refine ax_iret dX11_set_90 rfl rfl (Nat.le_of_ble_eq_true rfl) (Nat.le_of_ble_eq_true rfl) ?_
            exact ⟨congrArg (fun z => some (Value.int z)) (Eq.symm (by unfold r_X11_set; (try rw [if_neg c_8]); (try rw [if_neg c_16]); (try rw [if_pos c_22]); (try rw [if_pos c_42]); (try rw [if_neg c_69]); first | done | rfl)), rfl, Eq.symm (by unfold g_X11_set; (try rw [if_neg c_8]); (try rw [if_neg c_16]); (try rw [if_pos c_22]); (try rw [if_pos c_42]); (try rw [if_neg c_69]); first | done | rfl), rfl⟩
          · refine ax_bipush (v := (-2)) dX11_set_72 (by decide) ?_
            refine ax_iret dX11_set_74 rfl rfl (Nat.le_of_ble_eq_true rfl) (Nat.le_of_ble_eq_true rfl) ?_
            exact ⟨congrArg (fun z => some (Value.int z)) (Eq.symm (by unfold r_X11_set; (try rw [if_neg c_8]); (try rw [if_neg c_16]); (try rw [if_pos c_22]); (try rw [if_pos c_42]); (try rw [if_pos c_69]); first | done | rfl)), rfl, Eq.symm (by unfold g_X11_set; (try rw [if_neg c_8]); (try rw [if_neg c_16]); (try rw [if_pos c_22]); (try rw [if_pos c_42]); (try rw [if_pos c_69]); first | done | rfl), rfl⟩
    · refine ax_iconst (v := (-1)) dX11_set_19 (by decide) ?_
      refine ax_iret dX11_set_20 rfl rfl (Nat.le_of_ble_eq_true rfl) (Nat.le_of_ble_eq_true rfl) ?_
      exact ⟨congrArg (fun z => some (Value.int z)) (Eq.symm (by unfold r_X11_set; (try rw [if_neg c_8]); (try rw [if_pos c_16]); first | done | rfl)), rfl, Eq.symm (by unfold g_X11_set; (try rw [if_neg c_8]); (try rw [if_pos c_16]); first | done | rfl), rfl⟩
def r_X11_row (G : Gt) (L : Lt) (a : Int32) (b : Int32) (n : Int32) : Int32 := if (wi a 0 (G 24 11 - 1)) = 0 then (-1) else (if (wi b 0 3) = 0 then (-1) else (if (wi n 0 9) = 0 then (-2) else (if (G (26 + a.toNatClampNeg) 0) = 6 then (G (26 + a.toNatClampNeg) (6 + b.toNatClampNeg)) else (-3))))
def g_X11_row (G : Gt) (L : Lt) (a : Int32) (b : Int32) (n : Int32) : Gt := if (wi a 0 (G 24 11 - 1)) = 0 then G else (if (wi b 0 3) = 0 then G else (if (wi n 0 9) = 0 then G else (if (G (26 + a.toNatClampNeg) 0) = 6 then (up2 G (26 + a.toNatClampNeg) (6 + b.toNatClampNeg) n) else G)))
theorem c_X11_row {Z : Zt} {G : Gt} {L : Lt}  (hZ : OK Z) (hR : cntOK 6 (G 24 11)) (a : Int32) (b : Int32) (n : Int32)  : AC mX11_row 3 0 0 [.ref 0, .int a, .int b, .int n] Z G L (DQ (some (.int (r_X11_row G L a b n))) Z (g_X11_row G L a b n) L) := by
  refine AC.intro (by decide +kernel) (Nat.le_of_ble_eq_true rfl) ?_
  refine ax_lv [(0, .ref 0), (1, .int a), (2, .int b), (3, .int n)] ⟨rfl, rfl, rfl, rfl, trivial⟩ ?_
  refine ax_aload_n (i := 0) dX11_row_0 rfl rfl ?_
  refine ax_getR dX11_row_1 fl_X11_14 rfl (OKs hZ rfl) (OKr hZ rfl) ?_
  refine ax_iload_n (i := 1) dX11_row_4 rfl rfl ?_
  refine ax_cVv dX11_row_5 lk_X11_65 (c_X10_has (isW24 hZ) a) rfl (OKs hZ rfl) ⟨_, rfl, rfl⟩ rfl (Nat.le_of_ble_eq_true rfl) (Nat.le_of_ble_eq_true rfl) (Nat.le_of_ble_eq_true rfl) (Nat.le_of_ble_eq_true rfl) ?_
  refine ax_if_eq (tgt := 19) dX11_row_8 (by decide) (fun c_8 => ?_) (fun c_8 => ?_)
  · refine ax_iconst (v := (-1)) dX11_row_19 (by decide) ?_
    refine ax_iret dX11_row_20 rfl rfl (Nat.le_of_ble_eq_true rfl) (Nat.le_of_ble_eq_true rfl) ?_
    exact ⟨congrArg (fun z => some (Value.int z)) (Eq.symm (by unfold r_X11_row; (try rw [if_pos c_8]); first | done | rfl)), rfl, Eq.symm (by unfold g_X11_row; (try rw [if_pos c_8]); first | done | rfl), rfl⟩
  · refine ax_iload_n (i := 2) dX11_row_11 rfl rfl ?_
    refine ax_iconst (v := 3) dX11_row_12 (by decide) ?_
    refine ax_cSv dX11_row_13 lk_X11_53 (c_X11_within b 3) rfl rfl (Nat.le_of_ble_eq_true rfl) (Nat.le_of_ble_eq_true rfl) (Nat.le_of_ble_eq_true rfl) (Nat.le_of_ble_eq_true rfl) ?_
    refine ax_if_ne (tgt := 21) dX11_row_16 (by decide) (fun c_16 => ?_) (fun c_16 => ?_)
    · refine ax_iload_n (i := 3) dX11_row_21 rfl rfl ?_
      refine ax_bipush (v := 9) dX11_row_22 (by decide) ?_
      refine ax_cSv dX11_row_24 lk_X11_53 (c_X11_within n 9) rfl rfl (Nat.le_of_ble_eq_true rfl) (Nat.le_of_ble_eq_true rfl) (Nat.le_of_ble_eq_true rfl) (Nat.le_of_ble_eq_true rfl) ?_
      refine ax_if_ne (tgt := 33) dX11_row_27 (by decide) (fun c_27 => ?_) (fun c_27 => ?_)
      · refine ax_aload_n (i := 0) dX11_row_33 rfl rfl ?_
        refine ax_getR dX11_row_34 fl_X11_14 rfl (OKs hZ rfl) (OKr hZ rfl) ?_
        refine ax_getR dX11_row_37 fl_X11_87 rfl (OKs hZ rfl) (OKr hZ rfl) ?_
        refine ax_iload_n (i := 1) dX11_row_40 rfl rfl ?_
        refine ax_aaldN a.toNatClampNeg (t0 := 5) dX11_row_41 (OKs hZ rfl) rfl (fun _ => rfl) (wi_e c_8) (has_l (by decide) hR c_8) (by decide) (Wrf (isW24 hZ) (has_l (by decide) hR c_8)) ?_
        refine ax_iconst (v := 0) dX11_row_42 (by decide) ?_
        refine ax_ialdN 0 dX11_row_43 (Wrow (isW24 hZ) (has_l (by decide) hR c_8)) rfl (by decide) (by decide) ?_
        refine ax_bipush (v := 6) dX11_row_44 (by decide) ?_
        refine ax_icmp_eq (tgt := 52) dX11_row_46 (by decide) (fun c_46 => ?_) (fun c_46 => ?_)
        · refine ax_aload_n (i := 0) dX11_row_52 rfl rfl ?_
          refine ax_getR dX11_row_53 fl_X11_14 rfl (OKs hZ rfl) (OKr hZ rfl) ?_
          refine ax_getR dX11_row_56 fl_X11_87 rfl (OKs hZ rfl) (OKr hZ rfl) ?_
          refine ax_iload_n (i := 1) dX11_row_59 rfl rfl ?_
          refine ax_aaldN a.toNatClampNeg (t0 := 5) dX11_row_60 (OKs hZ rfl) rfl (fun _ => rfl) (wi_e c_8) (has_l (by decide) hR c_8) (by decide) (Wrf (isW24 hZ) (has_l (by decide) hR c_8)) ?_
          refine ax_bipush (v := 6) dX11_row_61 (by decide) ?_
          refine ax_iload_n (i := 2) dX11_row_63 rfl rfl ?_
          refine ax_iadd dX11_row_64 ?_
          refine ax_iload_n (i := 3) dX11_row_65 rfl rfl ?_
          refine ax_cSv dX11_row_66 lk_X11_91 (c_X11_swap (Wrow (isW24 hZ) (has_l (by decide) hR c_8)) (by decide) (6 + b.toNatClampNeg) (by have := wi_l (n := 4) c_16 (by decide); omega) (6 + b) n (ix6 (wi_e c_16))) rfl rfl (Nat.le_of_ble_eq_true rfl) (Nat.le_of_ble_eq_true rfl) (Nat.le_of_ble_eq_true rfl) (Nat.le_of_ble_eq_true rfl) ?_
          refine ax_iret dX11_row_69 rfl rfl (Nat.le_of_ble_eq_true rfl) (Nat.le_of_ble_eq_true rfl) ?_
          exact ⟨congrArg (fun z => some (Value.int z)) (Eq.symm (by unfold r_X11_row; (try rw [if_neg c_8]); (try rw [if_neg c_16]); (try rw [if_neg c_27]); (try rw [if_pos c_46]); first | done | rfl)), rfl, Eq.symm (by unfold g_X11_row; (try rw [if_neg c_8]); (try rw [if_neg c_16]); (try rw [if_neg c_27]); (try rw [if_pos c_46]); first | done | rfl), rfl⟩
        · refine ax_bipush (v := (-3)) dX11_row_49 (by decide) ?_
          refine ax_iret dX11_row_51 rfl rfl (Nat.le_of_ble_eq_true rfl) (Nat.le_of_ble_eq_true rfl) ?_
          exact ⟨congrArg (fun z => some (Value.int z)) (Eq.symm (by unfold r_X11_row; (try rw [if_neg c_8]); (try rw [if_neg c_16]); (try rw [if_neg c_27]); (try rw [if_neg c_46]); first | done | rfl)), rfl, Eq.symm (by unfold g_X11_row; (try rw [if_neg c_8]); (try rw [if_neg c_16]); (try rw [if_neg c_27]); (try rw [if_neg c_46]); first | done | rfl), rfl⟩
      · refine ax_bipush (v := (-2)) dX11_row_30 (by decide) ?_
        refine ax_iret dX11_row_32 rfl rfl (Nat.le_of_ble_eq_true rfl) (Nat.le_of_ble_eq_true rfl) ?_
        exact ⟨congrArg (fun z => some (Value.int z)) (Eq.symm (by unfold r_X11_row; (try rw [if_neg c_8]); (try rw [if_neg c_16]); (try rw [if_pos c_27]); first | done | rfl)), rfl, Eq.symm (by unfold g_X11_row; (try rw [if_neg c_8]); (try rw [if_neg c_16]); (try rw [if_pos c_27]); first | done | rfl), rfl⟩
    · refine ax_iconst (v := (-1)) dX11_row_19 (by decide) ?_
      refine ax_iret dX11_row_20 rfl rfl (Nat.le_of_ble_eq_true rfl) (Nat.le_of_ble_eq_true rfl) ?_
      exact ⟨congrArg (fun z => some (Value.int z)) (Eq.symm (by unfold r_X11_row; (try rw [if_neg c_8]); (try rw [if_pos c_16]); first | done | rfl)), rfl, Eq.symm (by unfold g_X11_row; (try rw [if_neg c_8]); (try rw [if_pos c_16]); first | done | rfl), rfl⟩
def r_X11_count (G : Gt) (L : Lt) (a : Int32) : Int32 := if a = 0 then (G 24 11) else (if a = 1 then (G 0 3) else (if a = 2 then (G 24 12) else (if a = 3 then (G 24 13) else (if a = 4 then (G 24 14) else (if a = 5 then (G 1 1) else (if a = 6 then (G 4 1) else (-2)))))))
theorem c_X11_count {Z : Zt} {G : Gt} {L : Lt}  (hZ : OK Z) (a : Int32)  : AC mX11_count 1 0 0 [.ref 0, .int a] Z G L (DQ (some (.int (r_X11_count G L a))) Z G L) := by
  refine AC.intro (by decide +kernel) (Nat.le_of_ble_eq_true rfl) ?_
  refine ax_lv [(0, .ref 0), (1, .int a)] ⟨rfl, rfl, trivial⟩ ?_
  refine ax_iload_n (i := 1) dX11_count_0 rfl rfl ?_
  refine (Decidable.em (a = 0)).elim (fun e_1_0 => ?_) (fun e_1_0 => ?_)
  · refine ax_tin (off := 43) (tgt := 44) dX11_count_1 (by rw [e_1_0]; decide) (by rw [e_1_0]; decide) (by rw [e_1_0]; decide) (by decide) ?_
    refine ax_aload_n (i := 0) dX11_count_44 rfl rfl ?_
    refine ax_getR dX11_count_45 fl_X11_14 rfl (OKs hZ rfl) (OKr hZ rfl) ?_
    refine ax_getI dX11_count_48 fl_X11_57 rfl (OKs hZ rfl) ?_
    refine ax_iret dX11_count_51 rfl rfl (Nat.le_of_ble_eq_true rfl) (Nat.le_of_ble_eq_true rfl) ?_
    exact ⟨congrArg (fun z => some (Value.int z)) (Eq.symm (by unfold r_X11_count; (try rw [if_pos e_1_0]); first | done | rfl)), rfl, rfl, rfl⟩
  refine (Decidable.em (a = 1)).elim (fun e_1_1 => ?_) (fun e_1_1 => ?_)
  · refine ax_tin (off := 51) (tgt := 52) dX11_count_1 (by rw [e_1_1]; decide) (by rw [e_1_1]; decide) (by rw [e_1_1]; decide) (by decide) ?_
    refine ax_aload_n (i := 0) dX11_count_52 rfl rfl ?_
    refine ax_getI dX11_count_53 fl_X11_114 rfl (OKs hZ rfl) ?_
    refine ax_iret dX11_count_56 rfl rfl (Nat.le_of_ble_eq_true rfl) (Nat.le_of_ble_eq_true rfl) ?_
    exact ⟨congrArg (fun z => some (Value.int z)) (Eq.symm (by unfold r_X11_count; (try rw [if_neg e_1_0]); (try rw [if_pos e_1_1]); first | done | rfl)), rfl, rfl, rfl⟩
  refine (Decidable.em (a = 2)).elim (fun e_1_2 => ?_) (fun e_1_2 => ?_)
  · refine ax_tin (off := 56) (tgt := 57) dX11_count_1 (by rw [e_1_2]; decide) (by rw [e_1_2]; decide) (by rw [e_1_2]; decide) (by decide) ?_
    refine ax_aload_n (i := 0) dX11_count_57 rfl rfl ?_
    refine ax_getR dX11_count_58 fl_X11_14 rfl (OKs hZ rfl) (OKr hZ rfl) ?_
    refine ax_getI dX11_count_61 fl_X11_191 rfl (OKs hZ rfl) ?_
    refine ax_iret dX11_count_64 rfl rfl (Nat.le_of_ble_eq_true rfl) (Nat.le_of_ble_eq_true rfl) ?_
    exact ⟨congrArg (fun z => some (Value.int z)) (Eq.symm (by unfold r_X11_count; (try rw [if_neg e_1_0]); (try rw [if_neg e_1_1]); (try rw [if_pos e_1_2]); first | done | rfl)), rfl, rfl, rfl⟩
  refine (Decidable.em (a = 3)).elim (fun e_1_3 => ?_) (fun e_1_3 => ?_)
  · refine ax_tin (off := 64) (tgt := 65) dX11_count_1 (by rw [e_1_3]; decide) (by rw [e_1_3]; decide) (by rw [e_1_3]; decide) (by decide) ?_
    refine ax_aload_n (i := 0) dX11_count_65 rfl rfl ?_
    refine ax_getR dX11_count_66 fl_X11_14 rfl (OKs hZ rfl) (OKr hZ rfl) ?_
    refine ax_getI dX11_count_69 fl_X11_222 rfl (OKs hZ rfl) ?_
    refine ax_iret dX11_count_72 rfl rfl (Nat.le_of_ble_eq_true rfl) (Nat.le_of_ble_eq_true rfl) ?_
    exact ⟨congrArg (fun z => some (Value.int z)) (Eq.symm (by unfold r_X11_count; (try rw [if_neg e_1_0]); (try rw [if_neg e_1_1]); (try rw [if_neg e_1_2]); (try rw [if_pos e_1_3]); first | done | rfl)), rfl, rfl, rfl⟩
  refine (Decidable.em (a = 4)).elim (fun e_1_4 => ?_) (fun e_1_4 => ?_)
  · refine ax_tin (off := 72) (tgt := 73) dX11_count_1 (by rw [e_1_4]; decide) (by rw [e_1_4]; decide) (by rw [e_1_4]; decide) (by decide) ?_
    refine ax_aload_n (i := 0) dX11_count_73 rfl rfl ?_
    refine ax_getR dX11_count_74 fl_X11_14 rfl (OKs hZ rfl) (OKr hZ rfl) ?_
    refine ax_getI dX11_count_77 fl_X11_234 rfl (OKs hZ rfl) ?_
    refine ax_iret dX11_count_80 rfl rfl (Nat.le_of_ble_eq_true rfl) (Nat.le_of_ble_eq_true rfl) ?_
    exact ⟨congrArg (fun z => some (Value.int z)) (Eq.symm (by unfold r_X11_count; (try rw [if_neg e_1_0]); (try rw [if_neg e_1_1]); (try rw [if_neg e_1_2]); (try rw [if_neg e_1_3]); (try rw [if_pos e_1_4]); first | done | rfl)), rfl, rfl, rfl⟩
  refine (Decidable.em (a = 5)).elim (fun e_1_5 => ?_) (fun e_1_5 => ?_)
  · refine ax_tin (off := 80) (tgt := 81) dX11_count_1 (by rw [e_1_5]; decide) (by rw [e_1_5]; decide) (by rw [e_1_5]; decide) (by decide) ?_
    refine ax_aload_n (i := 0) dX11_count_81 rfl rfl ?_
    refine ax_getR dX11_count_82 fl_X11_27 rfl (OKs hZ rfl) (OKr hZ rfl) ?_
    refine ax_getI dX11_count_85 fl_X11_107 rfl (OKs hZ rfl) ?_
    refine ax_iret dX11_count_88 rfl rfl (Nat.le_of_ble_eq_true rfl) (Nat.le_of_ble_eq_true rfl) ?_
    exact ⟨congrArg (fun z => some (Value.int z)) (Eq.symm (by unfold r_X11_count; (try rw [if_neg e_1_0]); (try rw [if_neg e_1_1]); (try rw [if_neg e_1_2]); (try rw [if_neg e_1_3]); (try rw [if_neg e_1_4]); (try rw [if_pos e_1_5]); first | done | rfl)), rfl, rfl, rfl⟩
  refine (Decidable.em (a = 6)).elim (fun e_1_6 => ?_) (fun e_1_6 => ?_)
  · refine ax_tin (off := 88) (tgt := 89) dX11_count_1 (by rw [e_1_6]; decide) (by rw [e_1_6]; decide) (by rw [e_1_6]; decide) (by decide) ?_
    refine ax_aload_n (i := 0) dX11_count_89 rfl rfl ?_
    refine ax_getR dX11_count_90 fl_X11_34 rfl (OKs hZ rfl) (OKr hZ rfl) ?_
    refine ax_getI dX11_count_93 fl_X11_253 rfl (OKs hZ rfl) ?_
    refine ax_iret dX11_count_96 rfl rfl (Nat.le_of_ble_eq_true rfl) (Nat.le_of_ble_eq_true rfl) ?_
    exact ⟨congrArg (fun z => some (Value.int z)) (Eq.symm (by unfold r_X11_count; (try rw [if_neg e_1_0]); (try rw [if_neg e_1_1]); (try rw [if_neg e_1_2]); (try rw [if_neg e_1_3]); (try rw [if_neg e_1_4]); (try rw [if_neg e_1_5]); (try rw [if_pos e_1_6]); first | done | rfl)), rfl, rfl, rfl⟩
  refine ax_tout (tgt := 97) dX11_count_1 (sw_out 7 (by decide) (by decide) ⟨⟨⟨⟨⟨⟨⟨trivial, e_1_0⟩, e_1_1⟩, e_1_2⟩, e_1_3⟩, e_1_4⟩, e_1_5⟩, e_1_6⟩) (by decide) ?_
  refine ax_bipush (v := (-2)) dX11_count_97 (by decide) ?_
  refine ax_iret dX11_count_99 rfl rfl (Nat.le_of_ble_eq_true rfl) (Nat.le_of_ble_eq_true rfl) ?_
  exact ⟨congrArg (fun z => some (Value.int z)) (Eq.symm (by unfold r_X11_count; (try rw [if_neg e_1_0]); (try rw [if_neg e_1_1]); (try rw [if_neg e_1_2]); (try rw [if_neg e_1_3]); (try rw [if_neg e_1_4]); (try rw [if_neg e_1_5]); (try rw [if_neg e_1_6]); first | done | rfl)), rfl, rfl, rfl⟩
def r_X11_feed (G : Gt) (L : Lt) (a : Int32) : Int32 := if (wi a 0 127) = 0 then (-2) else (if (G 1 1) < 100 then ((up2 (up2 G 2 ((G 1 1).toNatClampNeg) (vp_nar .byte (a).toInt8.toInt32)) 1 1 (((up2 G 2 ((G 1 1).toNatClampNeg) (vp_nar .byte (a).toInt8.toInt32)) 1 1) + 1)) 1 1) else (-4))
def g_X11_feed (G : Gt) (L : Lt) (a : Int32) : Gt := if (wi a 0 127) = 0 then G else (if (G 1 1) < 100 then (up2 (up2 G 2 ((G 1 1).toNatClampNeg) (vp_nar .byte (a).toInt8.toInt32)) 1 1 (((up2 G 2 ((G 1 1).toNatClampNeg) (vp_nar .byte (a).toInt8.toInt32)) 1 1) + 1)) else G)
theorem c_X11_feed {Z : Zt} {G : Gt} {L : Lt}  (hZ : OK Z) (hT : cntOK 100 (G 1 1)) (a : Int32)  : AC mX11_feed 2 0 0 [.ref 0, .int a] Z G L (DQ (some (.int (r_X11_feed G L a))) Z (g_X11_feed G L a) L) := by
  refine AC.intro (by decide +kernel) (Nat.le_of_ble_eq_true rfl) ?_
  refine ax_lv [(0, .ref 0), (1, .int a)] ⟨rfl, rfl, trivial⟩ ?_
  refine ax_iload_n (i := 1) dX11_feed_0 rfl rfl ?_
  refine ax_bipush (v := 127) dX11_feed_1 (by decide) ?_
  refine ax_cSv dX11_feed_3 lk_X11_53 (c_X11_within a 127) rfl rfl (Nat.le_of_ble_eq_true rfl) (Nat.le_of_ble_eq_true rfl) (Nat.le_of_ble_eq_true rfl) (Nat.le_of_ble_eq_true rfl) ?_
  refine ax_if_ne (tgt := 12) dX11_feed_6 (by decide) (fun c_6 => ?_) (fun c_6 => ?_)
  · refine ax_aload_n (i := 0) dX11_feed_12 rfl rfl ?_
    refine ax_getR dX11_feed_13 fl_X11_27 rfl (OKs hZ rfl) (OKr hZ rfl) ?_
    refine ax_getI dX11_feed_16 fl_X11_107 rfl (OKs hZ rfl) ?_
    refine ax_bipush (v := 100) dX11_feed_19 (by decide) ?_
    refine ax_icmp_lt (tgt := 27) dX11_feed_21 (by decide) (fun c_21 => ?_) (fun c_21 => ?_)
    · refine ax_aload_n (i := 0) dX11_feed_27 rfl rfl ?_
      refine ax_getR dX11_feed_28 fl_X11_27 rfl (OKs hZ rfl) (OKr hZ rfl) ?_
      refine ax_getR dX11_feed_31 fl_X11_110 rfl (OKs hZ rfl) (OKr hZ rfl) ?_
      refine ax_aload_n (i := 0) dX11_feed_34 rfl rfl ?_
      refine ax_getR dX11_feed_35 fl_X11_27 rfl (OKs hZ rfl) (OKr hZ rfl) ?_
      refine ax_getI dX11_feed_38 fl_X11_107 rfl (OKs hZ rfl) ?_
      refine ax_iload_n (i := 1) dX11_feed_41 rfl rfl ?_
      refine ax_i2b dX11_feed_42 ?_
      refine ax_bastN ((G 1 1).toNatClampNeg) dX11_feed_43 (OKs hZ rfl) (cnt_e (by decide) hT) (cnt_lg (by decide) hT (by have := Int32.not_le.mpr c_21; exact this)) (by decide) ?_
      refine ax_aload_n (i := 0) dX11_feed_44 rfl rfl ?_
      refine ax_getR dX11_feed_45 fl_X11_27 rfl (OKs hZ rfl) (OKr hZ rfl) ?_
      refine ax_dup dX11_feed_48 rfl ?_
      refine ax_getI dX11_feed_49 fl_X11_107 rfl (OKs hZ rfl) ?_
      refine ax_iconst (v := 1) dX11_feed_52 (by decide) ?_
      refine ax_iadd dX11_feed_53 ?_
      refine ax_putI dX11_feed_54 fl_X11_107 (Or.inl fp_X11_4_1) rfl rfl rfl (OKs hZ rfl) ?_
      refine ax_aload_n (i := 0) dX11_feed_57 rfl rfl ?_
      refine ax_getR dX11_feed_58 fl_X11_27 rfl (OKs hZ rfl) (OKr hZ rfl) ?_
      refine ax_getI dX11_feed_61 fl_X11_107 rfl (OKs hZ rfl) ?_
      refine ax_iret dX11_feed_64 rfl rfl (Nat.le_of_ble_eq_true rfl) (Nat.le_of_ble_eq_true rfl) ?_
      exact ⟨congrArg (fun z => some (Value.int z)) (Eq.symm (by unfold r_X11_feed; (try rw [if_neg c_6]); (try rw [if_pos c_21]); first | done | rfl)), rfl, Eq.symm (by unfold g_X11_feed; (try rw [if_neg c_6]); (try rw [if_pos c_21]); first | done | rfl), rfl⟩
    · refine ax_bipush (v := (-4)) dX11_feed_24 (by decide) ?_
      refine ax_iret dX11_feed_26 rfl rfl (Nat.le_of_ble_eq_true rfl) (Nat.le_of_ble_eq_true rfl) ?_
      exact ⟨congrArg (fun z => some (Value.int z)) (Eq.symm (by unfold r_X11_feed; (try rw [if_neg c_6]); (try rw [if_neg c_21]); first | done | rfl)), rfl, Eq.symm (by unfold g_X11_feed; (try rw [if_neg c_6]); (try rw [if_neg c_21]); first | done | rfl), rfl⟩
  · refine ax_bipush (v := (-2)) dX11_feed_9 (by decide) ?_
    refine ax_iret dX11_feed_11 rfl rfl (Nat.le_of_ble_eq_true rfl) (Nat.le_of_ble_eq_true rfl) ?_
    exact ⟨congrArg (fun z => some (Value.int z)) (Eq.symm (by unfold r_X11_feed; (try rw [if_pos c_6]); first | done | rfl)), rfl, Eq.symm (by unfold g_X11_feed; (try rw [if_pos c_6]); first | done | rfl), rfl⟩
def r_X11_mark (G : Gt) (L : Lt) (a : Int32) (n : Int32) (b : Int32) : Int32 := if a = (-1) then 0 else (if (wi a 0 (G 24 11 - 1)) = 0 then (-1) else (if (wi n 0 12) = 0 then (-2) else (if (wi b 0 999) = 0 then (-2) else (if (G 24 12) < 5 then ((up2 (up2 (up2 (up2 G 34 ((G 24 12).toNatClampNeg) a) 35 ((G 24 12).toNatClampNeg) n) 36 ((G 24 12).toNatClampNeg) b) 24 12 (((up2 (up2 (up2 G 34 ((G 24 12).toNatClampNeg) a) 35 ((G 24 12).toNatClampNeg) n) 36 ((G 24 12).toNatClampNeg) b) 24 12) + 1)) 24 12) else (-4)))))
def g_X11_mark (G : Gt) (L : Lt) (a : Int32) (n : Int32) (b : Int32) : Gt := if a = (-1) then (up2 G 24 12 0) else (if (wi a 0 (G 24 11 - 1)) = 0 then G else (if (wi n 0 12) = 0 then G else (if (wi b 0 999) = 0 then G else (if (G 24 12) < 5 then (up2 (up2 (up2 (up2 G 34 ((G 24 12).toNatClampNeg) a) 35 ((G 24 12).toNatClampNeg) n) 36 ((G 24 12).toNatClampNeg) b) 24 12 (((up2 (up2 (up2 G 34 ((G 24 12).toNatClampNeg) a) 35 ((G 24 12).toNatClampNeg) n) 36 ((G 24 12).toNatClampNeg) b) 24 12) + 1)) else G))))
theorem c_X11_mark {Z : Zt} {G : Gt} {L : Lt}  (hZ : OK Z) (hK : cntOK 5 (G 24 12)) (a : Int32) (n : Int32) (b : Int32)  : AC mX11_mark 3 0 0 [.ref 0, .int a, .int n, .int b] Z G L (DQ (some (.int (r_X11_mark G L a n b))) Z (g_X11_mark G L a n b) L) := by
  refine AC.intro (by decide +kernel) (Nat.le_of_ble_eq_true rfl) ?_
  refine ax_lv [(0, .ref 0), (1, .int a), (2, .int n), (3, .int b)] ⟨rfl, rfl, rfl, rfl, trivial⟩ ?_
  refine ax_iload_n (i := 1) dX11_mark_0 rfl rfl ?_
  refine ax_iconst (v := (-1)) dX11_mark_1 (by decide) ?_
  refine ax_icmp_ne (tgt := 15) dX11_mark_2 (by decide) (fun c_2 => ?_) (fun c_2 => ?_)
  · refine ax_aload_n (i := 0) dX11_mark_15 rfl rfl ?_
    refine ax_getR dX11_mark_16 fl_X11_14 rfl (OKs hZ rfl) (OKr hZ rfl) ?_
    refine ax_iload_n (i := 1) dX11_mark_19 rfl rfl ?_
    refine ax_cVv dX11_mark_20 lk_X11_65 (c_X10_has (isW24 hZ) a) rfl (OKs hZ rfl) ⟨_, rfl, rfl⟩ rfl (Nat.le_of_ble_eq_true rfl) (Nat.le_of_ble_eq_true rfl) (Nat.le_of_ble_eq_true rfl) (Nat.le_of_ble_eq_true rfl) ?_
    refine ax_if_ne (tgt := 28) dX11_mark_23 (by decide) (fun c_23 => ?_) (fun c_23 => ?_)
    · refine ax_iload_n (i := 2) dX11_mark_28 rfl rfl ?_
      refine ax_bipush (v := 12) dX11_mark_29 (by decide) ?_
      refine ax_cSv dX11_mark_31 lk_X11_53 (c_X11_within n 12) rfl rfl (Nat.le_of_ble_eq_true rfl) (Nat.le_of_ble_eq_true rfl) (Nat.le_of_ble_eq_true rfl) (Nat.le_of_ble_eq_true rfl) ?_
      refine ax_if_eq (tgt := 47) dX11_mark_34 (by decide) (fun c_34 => ?_) (fun c_34 => ?_)
      · refine ax_bipush (v := (-2)) dX11_mark_47 (by decide) ?_
        refine ax_iret dX11_mark_49 rfl rfl (Nat.le_of_ble_eq_true rfl) (Nat.le_of_ble_eq_true rfl) ?_
        exact ⟨congrArg (fun z => some (Value.int z)) (Eq.symm (by unfold r_X11_mark; (try rw [if_neg c_2]); (try rw [if_neg c_23]); (try rw [if_pos c_34]); first | done | rfl)), rfl, Eq.symm (by unfold g_X11_mark; (try rw [if_neg c_2]); (try rw [if_neg c_23]); (try rw [if_pos c_34]); first | done | rfl), rfl⟩
      · refine ax_iload_n (i := 3) dX11_mark_37 rfl rfl ?_
        refine ax_sipush (v := 999) dX11_mark_38 (by decide) ?_
        refine ax_cSv dX11_mark_41 lk_X11_53 (c_X11_within b 999) rfl rfl (Nat.le_of_ble_eq_true rfl) (Nat.le_of_ble_eq_true rfl) (Nat.le_of_ble_eq_true rfl) (Nat.le_of_ble_eq_true rfl) ?_
        refine ax_if_ne (tgt := 50) dX11_mark_44 (by decide) (fun c_44 => ?_) (fun c_44 => ?_)
        · refine ax_aload_n (i := 0) dX11_mark_50 rfl rfl ?_
          refine ax_getR dX11_mark_51 fl_X11_14 rfl (OKs hZ rfl) (OKr hZ rfl) ?_
          refine ax_getI dX11_mark_54 fl_X11_191 rfl (OKs hZ rfl) ?_
          refine ax_iconst (v := 5) dX11_mark_57 (by decide) ?_
          refine ax_icmp_lt (tgt := 64) dX11_mark_58 (by decide) (fun c_58 => ?_) (fun c_58 => ?_)
          · refine ax_aload_n (i := 0) dX11_mark_64 rfl rfl ?_
            refine ax_getR dX11_mark_65 fl_X11_14 rfl (OKs hZ rfl) (OKr hZ rfl) ?_
            refine ax_getR dX11_mark_68 fl_X11_194 rfl (OKs hZ rfl) (OKr hZ rfl) ?_
            refine ax_aload_n (i := 0) dX11_mark_71 rfl rfl ?_
            refine ax_getR dX11_mark_72 fl_X11_14 rfl (OKs hZ rfl) (OKr hZ rfl) ?_
            refine ax_getI dX11_mark_75 fl_X11_191 rfl (OKs hZ rfl) ?_
            refine ax_iload_n (i := 1) dX11_mark_78 rfl rfl ?_
            refine ax_iastN ((G 24 12).toNatClampNeg) dX11_mark_79 (OKs hZ rfl) (cnt_e (by decide) hK) (cnt_lg (by decide) hK (Int32.not_le.mpr c_58)) (by decide) ?_
            refine ax_aload_n (i := 0) dX11_mark_80 rfl rfl ?_
            refine ax_getR dX11_mark_81 fl_X11_14 rfl (OKs hZ rfl) (OKr hZ rfl) ?_
            refine ax_getR dX11_mark_84 fl_X11_197 rfl (OKs hZ rfl) (OKr hZ rfl) ?_
            refine ax_aload_n (i := 0) dX11_mark_87 rfl rfl ?_
            refine ax_getR dX11_mark_88 fl_X11_14 rfl (OKs hZ rfl) (OKr hZ rfl) ?_
            refine ax_getI dX11_mark_91 fl_X11_191 rfl (OKs hZ rfl) ?_
            refine ax_iload_n (i := 2) dX11_mark_94 rfl rfl ?_
            refine ax_iastN ((G 24 12).toNatClampNeg) dX11_mark_95 (OKs hZ rfl) (by simp [up2]; exact cnt_e (by decide) hK) (cnt_lg (by decide) hK (Int32.not_le.mpr c_58)) (by decide) ?_
            refine ax_aload_n (i := 0) dX11_mark_96 rfl rfl ?_
            refine ax_getR dX11_mark_97 fl_X11_14 rfl (OKs hZ rfl) (OKr hZ rfl) ?_
            refine ax_getR dX11_mark_100 fl_X11_200 rfl (OKs hZ rfl) (OKr hZ rfl) ?_
            refine ax_aload_n (i := 0) dX11_mark_103 rfl rfl ?_
            refine ax_getR dX11_mark_104 fl_X11_14 rfl (OKs hZ rfl) (OKr hZ rfl) ?_
            refine ax_getI dX11_mark_107 fl_X11_191 rfl (OKs hZ rfl) ?_
            refine ax_iload_n (i := 3) dX11_mark_110 rfl rfl ?_
            refine ax_iastN ((G 24 12).toNatClampNeg) dX11_mark_111 (OKs hZ rfl) (by simp [up2]; exact cnt_e (by decide) hK) (cnt_lg (by decide) hK (Int32.not_le.mpr c_58)) (by decide) ?_
            refine ax_aload_n (i := 0) dX11_mark_112 rfl rfl ?_
            refine ax_getR dX11_mark_113 fl_X11_14 rfl (OKs hZ rfl) (OKr hZ rfl) ?_
            refine ax_dup dX11_mark_116 rfl ?_
            refine ax_getI dX11_mark_117 fl_X11_191 rfl (OKs hZ rfl) ?_
            refine ax_iconst (v := 1) dX11_mark_120 (by decide) ?_
            refine ax_iadd dX11_mark_121 ?_
            refine ax_putI dX11_mark_122 fl_X11_191 (Or.inl fp_X11_10_12) rfl rfl rfl (OKs hZ rfl) ?_
            refine ax_aload_n (i := 0) dX11_mark_125 rfl rfl ?_
            refine ax_getR dX11_mark_126 fl_X11_14 rfl (OKs hZ rfl) (OKr hZ rfl) ?_
            refine ax_getI dX11_mark_129 fl_X11_191 rfl (OKs hZ rfl) ?_
            refine ax_iret dX11_mark_132 rfl rfl (Nat.le_of_ble_eq_true rfl) (Nat.le_of_ble_eq_true rfl) ?_
            exact ⟨congrArg (fun z => some (Value.int z)) (Eq.symm (by unfold r_X11_mark; (try rw [if_neg c_2]); (try rw [if_neg c_23]); (try rw [if_neg c_34]); (try rw [if_neg c_44]); (try rw [if_pos c_58]); first | done | rfl)), rfl, Eq.symm (by unfold g_X11_mark; (try rw [if_neg c_2]); (try rw [if_neg c_23]); (try rw [if_neg c_34]); (try rw [if_neg c_44]); (try rw [if_pos c_58]); first | done | rfl), rfl⟩
          · refine ax_bipush (v := (-4)) dX11_mark_61 (by decide) ?_
            refine ax_iret dX11_mark_63 rfl rfl (Nat.le_of_ble_eq_true rfl) (Nat.le_of_ble_eq_true rfl) ?_
            exact ⟨congrArg (fun z => some (Value.int z)) (Eq.symm (by unfold r_X11_mark; (try rw [if_neg c_2]); (try rw [if_neg c_23]); (try rw [if_neg c_34]); (try rw [if_neg c_44]); (try rw [if_neg c_58]); first | done | rfl)), rfl, Eq.symm (by unfold g_X11_mark; (try rw [if_neg c_2]); (try rw [if_neg c_23]); (try rw [if_neg c_34]); (try rw [if_neg c_44]); (try rw [if_neg c_58]); first | done | rfl), rfl⟩
        · refine ax_bipush (v := (-2)) dX11_mark_47 (by decide) ?_
          refine ax_iret dX11_mark_49 rfl rfl (Nat.le_of_ble_eq_true rfl) (Nat.le_of_ble_eq_true rfl) ?_
          exact ⟨congrArg (fun z => some (Value.int z)) (Eq.symm (by unfold r_X11_mark; (try rw [if_neg c_2]); (try rw [if_neg c_23]); (try rw [if_neg c_34]); (try rw [if_pos c_44]); first | done | rfl)), rfl, Eq.symm (by unfold g_X11_mark; (try rw [if_neg c_2]); (try rw [if_neg c_23]); (try rw [if_neg c_34]); (try rw [if_pos c_44]); first | done | rfl), rfl⟩
    · refine ax_iconst (v := (-1)) dX11_mark_26 (by decide) ?_
      refine ax_iret dX11_mark_27 rfl rfl (Nat.le_of_ble_eq_true rfl) (Nat.le_of_ble_eq_true rfl) ?_
      exact ⟨congrArg (fun z => some (Value.int z)) (Eq.symm (by unfold r_X11_mark; (try rw [if_neg c_2]); (try rw [if_pos c_23]); first | done | rfl)), rfl, Eq.symm (by unfold g_X11_mark; (try rw [if_neg c_2]); (try rw [if_pos c_23]); first | done | rfl), rfl⟩
  · refine ax_aload_n (i := 0) dX11_mark_5 rfl rfl ?_
    refine ax_getR dX11_mark_6 fl_X11_14 rfl (OKs hZ rfl) (OKr hZ rfl) ?_
    refine ax_iconst (v := 0) dX11_mark_9 (by decide) ?_
    refine ax_putI dX11_mark_10 fl_X11_191 (Or.inl fp_X11_10_12) rfl rfl rfl (OKs hZ rfl) ?_
    refine ax_iconst (v := 0) dX11_mark_13 (by decide) ?_
    refine ax_iret dX11_mark_14 rfl rfl (Nat.le_of_ble_eq_true rfl) (Nat.le_of_ble_eq_true rfl) ?_
    exact ⟨congrArg (fun z => some (Value.int z)) (Eq.symm (by unfold r_X11_mark; (try rw [if_pos c_2]); first | done | rfl)), rfl, Eq.symm (by unfold g_X11_mark; (try rw [if_pos c_2]); first | done | rfl), rfl⟩
def r_X11_plan (G : Gt) (L : Lt) (a : Int32) (b : Int32) : Int32 := if a = (-1) then 0 else (if (wi a 0 3) = 0 then (-1) else (if a = 0 then (if (G 24 13) < 10 then ((up2 (up2 (up2 G 37 ((G 24 13).toNatClampNeg) a) 38 ((G 24 13).toNatClampNeg) 0) 24 13 (((up2 (up2 G 37 ((G 24 13).toNatClampNeg) a) 38 ((G 24 13).toNatClampNeg) 0) 24 13) + 1)) 24 13) else (-4)) else (if (wi b 0 (G 24 11 - 1)) = 0 then (-1) else (if (G 24 13) < 10 then ((up2 (up2 (up2 G 37 ((G 24 13).toNatClampNeg) a) 38 ((G 24 13).toNatClampNeg) b) 24 13 (((up2 (up2 G 37 ((G 24 13).toNatClampNeg) a) 38 ((G 24 13).toNatClampNeg) b) 24 13) + 1)) 24 13) else (-4)))))
def g_X11_plan (G : Gt) (L : Lt) (a : Int32) (b : Int32) : Gt := if a = (-1) then (up2 G 24 13 0) else (if (wi a 0 3) = 0 then G else (if a = 0 then (if (G 24 13) < 10 then (up2 (up2 (up2 G 37 ((G 24 13).toNatClampNeg) a) 38 ((G 24 13).toNatClampNeg) 0) 24 13 (((up2 (up2 G 37 ((G 24 13).toNatClampNeg) a) 38 ((G 24 13).toNatClampNeg) 0) 24 13) + 1)) else G) else (if (wi b 0 (G 24 11 - 1)) = 0 then G else (if (G 24 13) < 10 then (up2 (up2 (up2 G 37 ((G 24 13).toNatClampNeg) a) 38 ((G 24 13).toNatClampNeg) b) 24 13 (((up2 (up2 G 37 ((G 24 13).toNatClampNeg) a) 38 ((G 24 13).toNatClampNeg) b) 24 13) + 1)) else G))))
theorem c_X11_plan {Z : Zt} {G : Gt} {L : Lt}  (hZ : OK Z) (hK : cntOK 10 (G 24 13)) (a : Int32) (b : Int32)  : AC mX11_plan 3 0 0 [.ref 0, .int a, .int b] Z G L (DQ (some (.int (r_X11_plan G L a b))) Z (g_X11_plan G L a b) L) := by
  refine AC.intro (by decide +kernel) (Nat.le_of_ble_eq_true rfl) ?_
  refine ax_lv [(0, .ref 0), (1, .int a), (2, .int b)] ⟨rfl, rfl, rfl, trivial⟩ ?_
  refine ax_iload_n (i := 1) dX11_plan_0 rfl rfl ?_
  refine ax_iconst (v := (-1)) dX11_plan_1 (by decide) ?_
  refine ax_icmp_ne (tgt := 15) dX11_plan_2 (by decide) (fun c_2 => ?_) (fun c_2 => ?_)
  · refine ax_iload_n (i := 1) dX11_plan_15 rfl rfl ?_
    refine ax_iconst (v := 3) dX11_plan_16 (by decide) ?_
    refine ax_cSv dX11_plan_17 lk_X11_53 (c_X11_within a 3) rfl rfl (Nat.le_of_ble_eq_true rfl) (Nat.le_of_ble_eq_true rfl) (Nat.le_of_ble_eq_true rfl) (Nat.le_of_ble_eq_true rfl) ?_
    refine ax_if_eq (tgt := 38) dX11_plan_20 (by decide) (fun c_20 => ?_) (fun c_20 => ?_)
    · refine ax_iconst (v := (-1)) dX11_plan_38 (by decide) ?_
      refine ax_iret dX11_plan_39 rfl rfl (Nat.le_of_ble_eq_true rfl) (Nat.le_of_ble_eq_true rfl) ?_
      exact ⟨congrArg (fun z => some (Value.int z)) (Eq.symm (by unfold r_X11_plan; (try rw [if_neg c_2]); (try rw [if_pos c_20]); first | done | rfl)), rfl, Eq.symm (by unfold g_X11_plan; (try rw [if_neg c_2]); (try rw [if_pos c_20]); first | done | rfl), rfl⟩
    · refine ax_iload_n (i := 1) dX11_plan_23 rfl rfl ?_
      refine ax_if_eq (tgt := 40) dX11_plan_24 (by decide) (fun c_24 => ?_) (fun c_24 => ?_)
      · refine ax_aload_n (i := 0) dX11_plan_40 rfl rfl ?_
        refine ax_getR dX11_plan_41 fl_X11_14 rfl (OKs hZ rfl) (OKr hZ rfl) ?_
        refine ax_getI dX11_plan_44 fl_X11_222 rfl (OKs hZ rfl) ?_
        refine ax_bipush (v := 10) dX11_plan_47 (by decide) ?_
        refine ax_icmp_lt (tgt := 55) dX11_plan_49 (by decide) (fun c_49 => ?_) (fun c_49 => ?_)
        · refine ax_aload_n (i := 0) dX11_plan_55 rfl rfl ?_
          refine ax_getR dX11_plan_56 fl_X11_14 rfl (OKs hZ rfl) (OKr hZ rfl) ?_
          refine ax_getR dX11_plan_59 fl_X11_225 rfl (OKs hZ rfl) (OKr hZ rfl) ?_
          refine ax_aload_n (i := 0) dX11_plan_62 rfl rfl ?_
          refine ax_getR dX11_plan_63 fl_X11_14 rfl (OKs hZ rfl) (OKr hZ rfl) ?_
          refine ax_getI dX11_plan_66 fl_X11_222 rfl (OKs hZ rfl) ?_
          refine ax_iload_n (i := 1) dX11_plan_69 rfl rfl ?_
          refine ax_iastN ((G 24 13).toNatClampNeg) dX11_plan_70 (OKs hZ rfl) (cnt_e (by decide) hK) (cnt_lg (by decide) hK (Int32.not_le.mpr c_49)) (by decide) ?_
          refine ax_aload_n (i := 0) dX11_plan_71 rfl rfl ?_
          refine ax_getR dX11_plan_72 fl_X11_14 rfl (OKs hZ rfl) (OKr hZ rfl) ?_
          refine ax_getR dX11_plan_75 fl_X11_228 rfl (OKs hZ rfl) (OKr hZ rfl) ?_
          refine ax_aload_n (i := 0) dX11_plan_78 rfl rfl ?_
          refine ax_getR dX11_plan_79 fl_X11_14 rfl (OKs hZ rfl) (OKr hZ rfl) ?_
          refine ax_getI dX11_plan_82 fl_X11_222 rfl (OKs hZ rfl) ?_
          refine ax_iload_n (i := 1) dX11_plan_85 rfl rfl ?_
          refine ax_if_ne (tgt := 93) dX11_plan_86 (by decide) (fun c_86 => ?_) (fun c_86 => ?_)
          · exact absurd c_24 c_86
          · refine ax_iconst (v := 0) dX11_plan_89 (by decide) ?_
            refine ax_goto (tgt := 94) dX11_plan_90 (by decide) ?_
            refine ax_iastN ((G 24 13).toNatClampNeg) dX11_plan_94 (OKs hZ rfl) (by simp [up2]; exact cnt_e (by decide) hK) (cnt_lg (by decide) hK (Int32.not_le.mpr c_49)) (by decide) ?_
            refine ax_aload_n (i := 0) dX11_plan_95 rfl rfl ?_
            refine ax_getR dX11_plan_96 fl_X11_14 rfl (OKs hZ rfl) (OKr hZ rfl) ?_
            refine ax_dup dX11_plan_99 rfl ?_
            refine ax_getI dX11_plan_100 fl_X11_222 rfl (OKs hZ rfl) ?_
            refine ax_iconst (v := 1) dX11_plan_103 (by decide) ?_
            refine ax_iadd dX11_plan_104 ?_
            refine ax_putI dX11_plan_105 fl_X11_222 (Or.inl fp_X11_10_13) rfl rfl rfl (OKs hZ rfl) ?_
            refine ax_aload_n (i := 0) dX11_plan_108 rfl rfl ?_
            refine ax_getR dX11_plan_109 fl_X11_14 rfl (OKs hZ rfl) (OKr hZ rfl) ?_
            refine ax_getI dX11_plan_112 fl_X11_222 rfl (OKs hZ rfl) ?_
            refine ax_iret dX11_plan_115 rfl rfl (Nat.le_of_ble_eq_true rfl) (Nat.le_of_ble_eq_true rfl) ?_
            exact ⟨congrArg (fun z => some (Value.int z)) (Eq.symm (by unfold r_X11_plan; (try rw [if_neg c_2]); (try rw [if_neg c_20]); (try rw [if_pos c_24]); (try rw [if_pos c_49]); (try rw [if_pos c_86]); first | done | rfl)), rfl, Eq.symm (by unfold g_X11_plan; (try rw [if_neg c_2]); (try rw [if_neg c_20]); (try rw [if_pos c_24]); (try rw [if_pos c_49]); (try rw [if_pos c_86]); first | done | rfl), rfl⟩
        · refine ax_bipush (v := (-4)) dX11_plan_52 (by decide) ?_
          refine ax_iret dX11_plan_54 rfl rfl (Nat.le_of_ble_eq_true rfl) (Nat.le_of_ble_eq_true rfl) ?_
          exact ⟨congrArg (fun z => some (Value.int z)) (Eq.symm (by unfold r_X11_plan; (try rw [if_neg c_2]); (try rw [if_neg c_20]); (try rw [if_pos c_24]); (try rw [if_neg c_49]); first | done | rfl)), rfl, Eq.symm (by unfold g_X11_plan; (try rw [if_neg c_2]); (try rw [if_neg c_20]); (try rw [if_pos c_24]); (try rw [if_neg c_49]); first | done | rfl), rfl⟩
      · refine ax_aload_n (i := 0) dX11_plan_27 rfl rfl ?_
        refine ax_getR dX11_plan_28 fl_X11_14 rfl (OKs hZ rfl) (OKr hZ rfl) ?_
        refine ax_iload_n (i := 2) dX11_plan_31 rfl rfl ?_
        refine ax_cVv dX11_plan_32 lk_X11_65 (c_X10_has (isW24 hZ) b) rfl (OKs hZ rfl) ⟨_, rfl, rfl⟩ rfl (Nat.le_of_ble_eq_true rfl) (Nat.le_of_ble_eq_true rfl) (Nat.le_of_ble_eq_true rfl) (Nat.le_of_ble_eq_true rfl) ?_
        refine ax_if_ne (tgt := 40) dX11_plan_35 (by decide) (fun c_35 => ?_) (fun c_35 => ?_)
        · refine ax_aload_n (i := 0) dX11_plan_40 rfl rfl ?_
          refine ax_getR dX11_plan_41 fl_X11_14 rfl (OKs hZ rfl) (OKr hZ rfl) ?_
          refine ax_getI dX11_plan_44 fl_X11_222 rfl (OKs hZ rfl) ?_
          refine ax_bipush (v := 10) dX11_plan_47 (by decide) ?_
          refine ax_icmp_lt (tgt := 55) dX11_plan_49 (by decide) (fun c_49 => ?_) (fun c_49 => ?_)
          · refine ax_aload_n (i := 0) dX11_plan_55 rfl rfl ?_
            refine ax_getR dX11_plan_56 fl_X11_14 rfl (OKs hZ rfl) (OKr hZ rfl) ?_
            refine ax_getR dX11_plan_59 fl_X11_225 rfl (OKs hZ rfl) (OKr hZ rfl) ?_
            refine ax_aload_n (i := 0) dX11_plan_62 rfl rfl ?_
            refine ax_getR dX11_plan_63 fl_X11_14 rfl (OKs hZ rfl) (OKr hZ rfl) ?_
            refine ax_getI dX11_plan_66 fl_X11_222 rfl (OKs hZ rfl) ?_
            refine ax_iload_n (i := 1) dX11_plan_69 rfl rfl ?_
            refine ax_iastN ((G 24 13).toNatClampNeg) dX11_plan_70 (OKs hZ rfl) (cnt_e (by decide) hK) (cnt_lg (by decide) hK (Int32.not_le.mpr c_49)) (by decide) ?_
            refine ax_aload_n (i := 0) dX11_plan_71 rfl rfl ?_
            refine ax_getR dX11_plan_72 fl_X11_14 rfl (OKs hZ rfl) (OKr hZ rfl) ?_
            refine ax_getR dX11_plan_75 fl_X11_228 rfl (OKs hZ rfl) (OKr hZ rfl) ?_
            refine ax_aload_n (i := 0) dX11_plan_78 rfl rfl ?_
            refine ax_getR dX11_plan_79 fl_X11_14 rfl (OKs hZ rfl) (OKr hZ rfl) ?_
            refine ax_getI dX11_plan_82 fl_X11_222 rfl (OKs hZ rfl) ?_
            refine ax_iload_n (i := 1) dX11_plan_85 rfl rfl ?_
            refine ax_if_ne (tgt := 93) dX11_plan_86 (by decide) (fun c_86 => ?_) (fun c_86 => ?_)
            · refine ax_iload_n (i := 2) dX11_plan_93 rfl rfl ?_
              refine ax_iastN ((G 24 13).toNatClampNeg) dX11_plan_94 (OKs hZ rfl) (by simp [up2]; exact cnt_e (by decide) hK) (cnt_lg (by decide) hK (Int32.not_le.mpr c_49)) (by decide) ?_
              refine ax_aload_n (i := 0) dX11_plan_95 rfl rfl ?_
              refine ax_getR dX11_plan_96 fl_X11_14 rfl (OKs hZ rfl) (OKr hZ rfl) ?_
              refine ax_dup dX11_plan_99 rfl ?_
              refine ax_getI dX11_plan_100 fl_X11_222 rfl (OKs hZ rfl) ?_
              refine ax_iconst (v := 1) dX11_plan_103 (by decide) ?_
              refine ax_iadd dX11_plan_104 ?_
              refine ax_putI dX11_plan_105 fl_X11_222 (Or.inl fp_X11_10_13) rfl rfl rfl (OKs hZ rfl) ?_
              refine ax_aload_n (i := 0) dX11_plan_108 rfl rfl ?_
              refine ax_getR dX11_plan_109 fl_X11_14 rfl (OKs hZ rfl) (OKr hZ rfl) ?_
              refine ax_getI dX11_plan_112 fl_X11_222 rfl (OKs hZ rfl) ?_
              refine ax_iret dX11_plan_115 rfl rfl (Nat.le_of_ble_eq_true rfl) (Nat.le_of_ble_eq_true rfl) ?_
              exact ⟨congrArg (fun z => some (Value.int z)) (Eq.symm (by unfold r_X11_plan; (try rw [if_neg c_2]); (try rw [if_neg c_20]); (try rw [if_neg c_24]); (try rw [if_neg c_35]); (try rw [if_pos c_49]); (try rw [if_neg c_86]); first | done | rfl)), rfl, Eq.symm (by unfold g_X11_plan; (try rw [if_neg c_2]); (try rw [if_neg c_20]); (try rw [if_neg c_24]); (try rw [if_neg c_35]); (try rw [if_pos c_49]); (try rw [if_neg c_86]); first | done | rfl), rfl⟩
            · exact absurd c_86 c_24
          · refine ax_bipush (v := (-4)) dX11_plan_52 (by decide) ?_
            refine ax_iret dX11_plan_54 rfl rfl (Nat.le_of_ble_eq_true rfl) (Nat.le_of_ble_eq_true rfl) ?_
            exact ⟨congrArg (fun z => some (Value.int z)) (Eq.symm (by unfold r_X11_plan; (try rw [if_neg c_2]); (try rw [if_neg c_20]); (try rw [if_neg c_24]); (try rw [if_neg c_35]); (try rw [if_neg c_49]); first | done | rfl)), rfl, Eq.symm (by unfold g_X11_plan; (try rw [if_neg c_2]); (try rw [if_neg c_20]); (try rw [if_neg c_24]); (try rw [if_neg c_35]); (try rw [if_neg c_49]); first | done | rfl), rfl⟩
        · refine ax_iconst (v := (-1)) dX11_plan_38 (by decide) ?_
          refine ax_iret dX11_plan_39 rfl rfl (Nat.le_of_ble_eq_true rfl) (Nat.le_of_ble_eq_true rfl) ?_
          exact ⟨congrArg (fun z => some (Value.int z)) (Eq.symm (by unfold r_X11_plan; (try rw [if_neg c_2]); (try rw [if_neg c_20]); (try rw [if_neg c_24]); (try rw [if_pos c_35]); first | done | rfl)), rfl, Eq.symm (by unfold g_X11_plan; (try rw [if_neg c_2]); (try rw [if_neg c_20]); (try rw [if_neg c_24]); (try rw [if_pos c_35]); first | done | rfl), rfl⟩
  · refine ax_aload_n (i := 0) dX11_plan_5 rfl rfl ?_
    refine ax_getR dX11_plan_6 fl_X11_14 rfl (OKs hZ rfl) (OKr hZ rfl) ?_
    refine ax_iconst (v := 0) dX11_plan_9 (by decide) ?_
    refine ax_putI dX11_plan_10 fl_X11_222 (Or.inl fp_X11_10_13) rfl rfl rfl (OKs hZ rfl) ?_
    refine ax_iconst (v := 0) dX11_plan_13 (by decide) ?_
    refine ax_iret dX11_plan_14 rfl rfl (Nat.le_of_ble_eq_true rfl) (Nat.le_of_ble_eq_true rfl) ?_
    exact ⟨congrArg (fun z => some (Value.int z)) (Eq.symm (by unfold r_X11_plan; (try rw [if_pos c_2]); first | done | rfl)), rfl, Eq.symm (by unfold g_X11_plan; (try rw [if_pos c_2]); first | done | rfl), rfl⟩
def r_X11_book (G : Gt) (L : Lt) (a : Int32) (b : Int32) : Int32 := if a = (-1) then 0 else (if (wi a 0 (G 24 11 - 1)) = 0 then (-1) else (if (wi b 0 99) = 0 then (-2) else (if (G 24 14) < 8 then ((up2 (up2 (up2 G 39 ((G 24 14).toNatClampNeg) a) 40 ((G 24 14).toNatClampNeg) b) 24 14 (((up2 (up2 G 39 ((G 24 14).toNatClampNeg) a) 40 ((G 24 14).toNatClampNeg) b) 24 14) + 1)) 24 14) else (-4))))
def g_X11_book (G : Gt) (L : Lt) (a : Int32) (b : Int32) : Gt := if a = (-1) then (up2 G 24 14 0) else (if (wi a 0 (G 24 11 - 1)) = 0 then G else (if (wi b 0 99) = 0 then G else (if (G 24 14) < 8 then (up2 (up2 (up2 G 39 ((G 24 14).toNatClampNeg) a) 40 ((G 24 14).toNatClampNeg) b) 24 14 (((up2 (up2 G 39 ((G 24 14).toNatClampNeg) a) 40 ((G 24 14).toNatClampNeg) b) 24 14) + 1)) else G)))
theorem c_X11_book {Z : Zt} {G : Gt} {L : Lt}  (hZ : OK Z) (hK : cntOK 8 (G 24 14)) (a : Int32) (b : Int32)  : AC mX11_book 3 0 0 [.ref 0, .int a, .int b] Z G L (DQ (some (.int (r_X11_book G L a b))) Z (g_X11_book G L a b) L) := by
  refine AC.intro (by decide +kernel) (Nat.le_of_ble_eq_true rfl) ?_
  refine ax_lv [(0, .ref 0), (1, .int a), (2, .int b)] ⟨rfl, rfl, rfl, trivial⟩ ?_
  refine ax_iload_n (i := 1) dX11_book_0 rfl rfl ?_
  refine ax_iconst (v := (-1)) dX11_book_1 (by decide) ?_
  refine ax_icmp_ne (tgt := 15) dX11_book_2 (by decide) (fun c_2 => ?_) (fun c_2 => ?_)
  · refine ax_aload_n (i := 0) dX11_book_15 rfl rfl ?_
    refine ax_getR dX11_book_16 fl_X11_14 rfl (OKs hZ rfl) (OKr hZ rfl) ?_
    refine ax_iload_n (i := 1) dX11_book_19 rfl rfl ?_
    refine ax_cVv dX11_book_20 lk_X11_65 (c_X10_has (isW24 hZ) a) rfl (OKs hZ rfl) ⟨_, rfl, rfl⟩ rfl (Nat.le_of_ble_eq_true rfl) (Nat.le_of_ble_eq_true rfl) (Nat.le_of_ble_eq_true rfl) (Nat.le_of_ble_eq_true rfl) ?_
    refine ax_if_ne (tgt := 28) dX11_book_23 (by decide) (fun c_23 => ?_) (fun c_23 => ?_)
    · refine ax_iload_n (i := 2) dX11_book_28 rfl rfl ?_
      refine ax_bipush (v := 99) dX11_book_29 (by decide) ?_
      refine ax_cSv dX11_book_31 lk_X11_53 (c_X11_within b 99) rfl rfl (Nat.le_of_ble_eq_true rfl) (Nat.le_of_ble_eq_true rfl) (Nat.le_of_ble_eq_true rfl) (Nat.le_of_ble_eq_true rfl) ?_
      refine ax_if_ne (tgt := 40) dX11_book_34 (by decide) (fun c_34 => ?_) (fun c_34 => ?_)
      · refine ax_aload_n (i := 0) dX11_book_40 rfl rfl ?_
        refine ax_getR dX11_book_41 fl_X11_14 rfl (OKs hZ rfl) (OKr hZ rfl) ?_
        refine ax_getI dX11_book_44 fl_X11_234 rfl (OKs hZ rfl) ?_
        refine ax_bipush (v := 8) dX11_book_47 (by decide) ?_
        refine ax_icmp_lt (tgt := 55) dX11_book_49 (by decide) (fun c_49 => ?_) (fun c_49 => ?_)
        · refine ax_aload_n (i := 0) dX11_book_55 rfl rfl ?_
          refine ax_getR dX11_book_56 fl_X11_14 rfl (OKs hZ rfl) (OKr hZ rfl) ?_
          refine ax_getR dX11_book_59 fl_X11_237 rfl (OKs hZ rfl) (OKr hZ rfl) ?_
          refine ax_aload_n (i := 0) dX11_book_62 rfl rfl ?_
          refine ax_getR dX11_book_63 fl_X11_14 rfl (OKs hZ rfl) (OKr hZ rfl) ?_
          refine ax_getI dX11_book_66 fl_X11_234 rfl (OKs hZ rfl) ?_
          refine ax_iload_n (i := 1) dX11_book_69 rfl rfl ?_
          refine ax_iastN ((G 24 14).toNatClampNeg) dX11_book_70 (OKs hZ rfl) (cnt_e (by decide) hK) (cnt_lg (by decide) hK (Int32.not_le.mpr c_49)) (by decide) ?_
          refine ax_aload_n (i := 0) dX11_book_71 rfl rfl ?_
          refine ax_getR dX11_book_72 fl_X11_14 rfl (OKs hZ rfl) (OKr hZ rfl) ?_
          refine ax_getR dX11_book_75 fl_X11_240 rfl (OKs hZ rfl) (OKr hZ rfl) ?_
          refine ax_aload_n (i := 0) dX11_book_78 rfl rfl ?_
          refine ax_getR dX11_book_79 fl_X11_14 rfl (OKs hZ rfl) (OKr hZ rfl) ?_
          refine ax_getI dX11_book_82 fl_X11_234 rfl (OKs hZ rfl) ?_
          refine ax_iload_n (i := 2) dX11_book_85 rfl rfl ?_
          refine ax_iastN ((G 24 14).toNatClampNeg) dX11_book_86 (OKs hZ rfl) (by simp [up2]; exact cnt_e (by decide) hK) (cnt_lg (by decide) hK (Int32.not_le.mpr c_49)) (by decide) ?_
          refine ax_aload_n (i := 0) dX11_book_87 rfl rfl ?_
          refine ax_getR dX11_book_88 fl_X11_14 rfl (OKs hZ rfl) (OKr hZ rfl) ?_
          refine ax_dup dX11_book_91 rfl ?_
          refine ax_getI dX11_book_92 fl_X11_234 rfl (OKs hZ rfl) ?_
          refine ax_iconst (v := 1) dX11_book_95 (by decide) ?_
          refine ax_iadd dX11_book_96 ?_
          refine ax_putI dX11_book_97 fl_X11_234 (Or.inl fp_X11_10_14) rfl rfl rfl (OKs hZ rfl) ?_
          refine ax_aload_n (i := 0) dX11_book_100 rfl rfl ?_
          refine ax_getR dX11_book_101 fl_X11_14 rfl (OKs hZ rfl) (OKr hZ rfl) ?_
          refine ax_getI dX11_book_104 fl_X11_234 rfl (OKs hZ rfl) ?_
          refine ax_iret dX11_book_107 rfl rfl (Nat.le_of_ble_eq_true rfl) (Nat.le_of_ble_eq_true rfl) ?_
          exact ⟨congrArg (fun z => some (Value.int z)) (Eq.symm (by unfold r_X11_book; (try rw [if_neg c_2]); (try rw [if_neg c_23]); (try rw [if_neg c_34]); (try rw [if_pos c_49]); first | done | rfl)), rfl, Eq.symm (by unfold g_X11_book; (try rw [if_neg c_2]); (try rw [if_neg c_23]); (try rw [if_neg c_34]); (try rw [if_pos c_49]); first | done | rfl), rfl⟩
        · refine ax_bipush (v := (-4)) dX11_book_52 (by decide) ?_
          refine ax_iret dX11_book_54 rfl rfl (Nat.le_of_ble_eq_true rfl) (Nat.le_of_ble_eq_true rfl) ?_
          exact ⟨congrArg (fun z => some (Value.int z)) (Eq.symm (by unfold r_X11_book; (try rw [if_neg c_2]); (try rw [if_neg c_23]); (try rw [if_neg c_34]); (try rw [if_neg c_49]); first | done | rfl)), rfl, Eq.symm (by unfold g_X11_book; (try rw [if_neg c_2]); (try rw [if_neg c_23]); (try rw [if_neg c_34]); (try rw [if_neg c_49]); first | done | rfl), rfl⟩
      · refine ax_bipush (v := (-2)) dX11_book_37 (by decide) ?_
        refine ax_iret dX11_book_39 rfl rfl (Nat.le_of_ble_eq_true rfl) (Nat.le_of_ble_eq_true rfl) ?_
        exact ⟨congrArg (fun z => some (Value.int z)) (Eq.symm (by unfold r_X11_book; (try rw [if_neg c_2]); (try rw [if_neg c_23]); (try rw [if_pos c_34]); first | done | rfl)), rfl, Eq.symm (by unfold g_X11_book; (try rw [if_neg c_2]); (try rw [if_neg c_23]); (try rw [if_pos c_34]); first | done | rfl), rfl⟩
    · refine ax_iconst (v := (-1)) dX11_book_26 (by decide) ?_
      refine ax_iret dX11_book_27 rfl rfl (Nat.le_of_ble_eq_true rfl) (Nat.le_of_ble_eq_true rfl) ?_
      exact ⟨congrArg (fun z => some (Value.int z)) (Eq.symm (by unfold r_X11_book; (try rw [if_neg c_2]); (try rw [if_pos c_23]); first | done | rfl)), rfl, Eq.symm (by unfold g_X11_book; (try rw [if_neg c_2]); (try rw [if_pos c_23]); first | done | rfl), rfl⟩
  · refine ax_aload_n (i := 0) dX11_book_5 rfl rfl ?_
    refine ax_getR dX11_book_6 fl_X11_14 rfl (OKs hZ rfl) (OKr hZ rfl) ?_
    refine ax_iconst (v := 0) dX11_book_9 (by decide) ?_
    refine ax_putI dX11_book_10 fl_X11_234 (Or.inl fp_X11_10_14) rfl rfl rfl (OKs hZ rfl) ?_
    refine ax_iconst (v := 0) dX11_book_13 (by decide) ?_
    refine ax_iret dX11_book_14 rfl rfl (Nat.le_of_ble_eq_true rfl) (Nat.le_of_ble_eq_true rfl) ?_
    exact ⟨congrArg (fun z => some (Value.int z)) (Eq.symm (by unfold r_X11_book; (try rw [if_pos c_2]); first | done | rfl)), rfl, Eq.symm (by unfold g_X11_book; (try rw [if_pos c_2]); first | done | rfl), rfl⟩
theorem tr_l2 {i t : Int32} (ht : cntOK 100 t) (h : ¬ wi i 0 ((if 20 < t then 20 else t) - 1) = 0) : i.toNatClampNeg < 20 := by
  obtain ⟨n, h1, rfl⟩ := ht
  refine wi_l h ?_
  by_cases q : (20 : Int32) < nI n
  · rw [if_pos q]
    decide
  · rw [if_neg q, show nI n - 1 = nI n - nI 1 from rfl, pk_sub_toInt (by omega) (by decide)]
    have := mt (nI_ltI (by decide) (by omega)).mpr (show ¬ nI 20 < nI n from q)
    omega
def r_X11_trace (G : Gt) (L : Lt) (a : Int32) : Int32 := if (wi a 0 ((if 20 < (G 4 1) then 20 else (G 4 1)) - 1)) = 0 then (-1) else (G 5 a.toNatClampNeg)
theorem c_X11_trace {Z : Zt} {G : Gt} {L : Lt}  (hZ : OK Z) (hT : cntOK 100 (G 4 1)) (a : Int32)  : AC mX11_trace 2 0 0 [.ref 0, .int a] Z G L (DQ (some (.int (r_X11_trace G L a))) Z G L) := by
  refine AC.intro (by decide +kernel) (Nat.le_of_ble_eq_true rfl) ?_
  refine ax_lv [(0, .ref 0), (1, .int a)] ⟨rfl, rfl, trivial⟩ ?_
  refine ax_iload_n (i := 1) dX11_trace_0 rfl rfl ?_
  refine ax_aload_n (i := 0) dX11_trace_1 rfl rfl ?_
  refine ax_getR dX11_trace_2 fl_X11_34 rfl (OKs hZ rfl) (OKr hZ rfl) ?_
  refine ax_getI dX11_trace_5 fl_X11_253 rfl (OKs hZ rfl) ?_
  refine ax_bipush (v := 20) dX11_trace_8 (by decide) ?_
  refine ax_min dX11_trace_10 lm_X11_278 (by decide) (Nat.le_of_ble_eq_true rfl) (Nat.le_of_ble_eq_true rfl) (Nat.le_of_ble_eq_true rfl) ?_
  refine ax_iconst (v := 1) dX11_trace_13 (by decide) ?_
  refine ax_isub dX11_trace_14 ?_
  refine ax_cSv dX11_trace_15 lk_X11_53 (c_X11_within a ((if 20 < (G 4 1) then 20 else (G 4 1)) - 1)) rfl rfl (Nat.le_of_ble_eq_true rfl) (Nat.le_of_ble_eq_true rfl) (Nat.le_of_ble_eq_true rfl) (Nat.le_of_ble_eq_true rfl) ?_
  refine ax_if_ne (tgt := 23) dX11_trace_18 (by decide) (fun c_18 => ?_) (fun c_18 => ?_)
  · refine ax_aload_n (i := 0) dX11_trace_23 rfl rfl ?_
    refine ax_getR dX11_trace_24 fl_X11_34 rfl (OKs hZ rfl) (OKr hZ rfl) ?_
    refine ax_getR dX11_trace_27 fl_X11_281 rfl (OKs hZ rfl) (OKr hZ rfl) ?_
    refine ax_iload_n (i := 1) dX11_trace_30 rfl rfl ?_
    refine ax_ialdN a.toNatClampNeg dX11_trace_31 (OKs hZ rfl) (wi_e c_18) (tr_l2 hT c_18) (by decide) ?_
    refine ax_iret dX11_trace_32 rfl rfl (Nat.le_of_ble_eq_true rfl) (Nat.le_of_ble_eq_true rfl) ?_
    exact ⟨congrArg (fun z => some (Value.int z)) (Eq.symm (by unfold r_X11_trace; (try rw [if_neg c_18]); first | done | rfl)), rfl, rfl, rfl⟩
  · refine ax_iconst (v := (-1)) dX11_trace_21 (by decide) ?_
    refine ax_iret dX11_trace_22 rfl rfl (Nat.le_of_ble_eq_true rfl) (Nat.le_of_ble_eq_true rfl) ?_
    exact ⟨congrArg (fun z => some (Value.int z)) (Eq.symm (by unfold r_X11_trace; (try rw [if_pos c_18]); first | done | rfl)), rfl, rfl, rfl⟩
theorem c_X11_hasItem {Z : Zt} {G : Gt} {L : Lt}  (hZ : OK Z) (a : Int32) (b : Int32) (ha : a = nI a.toNatClampNeg) (hl : a.toNatClampNeg < 6) : AC mX11_hasItem 2 0 0 [.ref 0, .int a, .int b] Z G L (DQ (some (.int ((wi b 0 ((G 8 a.toNatClampNeg) - 1))))) Z G L) := by
  refine AC.intro (by decide +kernel) (Nat.le_of_ble_eq_true rfl) ?_
  refine ax_lv [(0, .ref 0), (1, .int a), (2, .int b)] ⟨rfl, rfl, rfl, trivial⟩ ?_
  refine ax_iload_n (i := 2) dX11_hasItem_0 rfl rfl ?_
  refine ax_aload_n (i := 0) dX11_hasItem_1 rfl rfl ?_
  refine ax_getR dX11_hasItem_2 fl_X11_45 rfl (OKs hZ rfl) (OKr hZ rfl) ?_
  refine ax_iload_n (i := 1) dX11_hasItem_5 rfl rfl ?_
  refine ax_ialdN a.toNatClampNeg dX11_hasItem_6 (OKs hZ rfl) ha hl (by decide) ?_
  refine ax_iconst (v := 1) dX11_hasItem_7 (by decide) ?_
  refine ax_isub dX11_hasItem_8 ?_
  refine ax_cSv dX11_hasItem_9 lk_X11_53 (c_X11_within b ((G 8 a.toNatClampNeg) - 1)) rfl rfl (Nat.le_of_ble_eq_true rfl) (Nat.le_of_ble_eq_true rfl) (Nat.le_of_ble_eq_true rfl) (Nat.le_of_ble_eq_true rfl) ?_
  refine ax_iret dX11_hasItem_12 rfl nb_bi (Nat.le_of_ble_eq_true rfl) (Nat.le_of_ble_eq_true rfl) ?_
  exact ⟨rfl, rfl, rfl, rfl⟩
def r_X11_hasItems (G : Gt) (L : Lt) (a : Int32) (b : Int32) (n : Int32) : Int32 := if b < 0 then 0 else (if n < 0 then 0 else (if 0 < (lg_cmp ((b).toInt64 + (n).toInt64) ((G 8 a.toNatClampNeg)).toInt64) then 0 else 1))
theorem c_X11_hasItems {Z : Zt} {G : Gt} {L : Lt}  (hZ : OK Z) (a : Int32) (b : Int32) (n : Int32) (ha : a = nI a.toNatClampNeg) (hl : a.toNatClampNeg < 6) : AC mX11_hasItems 1 0 0 [.ref 0, .int a, .int b, .int n] Z G L (DQ (some (.int (r_X11_hasItems G L a b n))) Z G L) := by
  refine AC.intro (by decide +kernel) (Nat.le_of_ble_eq_true rfl) ?_
  refine ax_lv [(0, .ref 0), (1, .int a), (2, .int b), (3, .int n)] ⟨rfl, rfl, rfl, rfl, trivial⟩ ?_
  refine ax_iload_n (i := 2) dX11_hasItems_0 rfl rfl ?_
  refine ax_if_lt (tgt := 28) dX11_hasItems_1 (by decide) (fun c_1 => ?_) (fun c_1 => ?_)
  · refine ax_iconst (v := 0) dX11_hasItems_28 (by decide) ?_
    refine ax_iret dX11_hasItems_29 rfl rfl (Nat.le_of_ble_eq_true rfl) (Nat.le_of_ble_eq_true rfl) ?_
    exact ⟨congrArg (fun z => some (Value.int z)) (Eq.symm (by unfold r_X11_hasItems; (try rw [if_pos c_1]); first | done | rfl)), rfl, rfl, rfl⟩
  · refine ax_iload_n (i := 3) dX11_hasItems_4 rfl rfl ?_
    refine ax_if_lt (tgt := 28) dX11_hasItems_5 (by decide) (fun c_5 => ?_) (fun c_5 => ?_)
    · refine ax_iconst (v := 0) dX11_hasItems_28 (by decide) ?_
      refine ax_iret dX11_hasItems_29 rfl rfl (Nat.le_of_ble_eq_true rfl) (Nat.le_of_ble_eq_true rfl) ?_
      exact ⟨congrArg (fun z => some (Value.int z)) (Eq.symm (by unfold r_X11_hasItems; (try rw [if_neg c_1]); (try rw [if_pos c_5]); first | done | rfl)), rfl, rfl, rfl⟩
    · refine ax_iload_n (i := 2) dX11_hasItems_8 rfl rfl ?_
      refine ax_i2l dX11_hasItems_9 ?_
      refine ax_iload_n (i := 3) dX11_hasItems_10 rfl rfl ?_
      refine ax_i2l dX11_hasItems_11 ?_
      refine ax_ladd dX11_hasItems_12 ?_
      refine ax_aload_n (i := 0) dX11_hasItems_13 rfl rfl ?_
      refine ax_getR dX11_hasItems_14 fl_X11_45 rfl (OKs hZ rfl) (OKr hZ rfl) ?_
      refine ax_iload_n (i := 1) dX11_hasItems_17 rfl rfl ?_
      refine ax_ialdN a.toNatClampNeg dX11_hasItems_18 (OKs hZ rfl) ha hl (by decide) ?_
      refine ax_i2l dX11_hasItems_19 ?_
      refine ax_lcmp dX11_hasItems_20 ?_
      refine ax_if_gt (tgt := 28) dX11_hasItems_21 (by decide) (fun c_21 => ?_) (fun c_21 => ?_)
      · refine ax_iconst (v := 0) dX11_hasItems_28 (by decide) ?_
        refine ax_iret dX11_hasItems_29 rfl rfl (Nat.le_of_ble_eq_true rfl) (Nat.le_of_ble_eq_true rfl) ?_
        exact ⟨congrArg (fun z => some (Value.int z)) (Eq.symm (by unfold r_X11_hasItems; (try rw [if_neg c_1]); (try rw [if_neg c_5]); (try rw [if_pos c_21]); first | done | rfl)), rfl, rfl, rfl⟩
      · refine ax_iconst (v := 1) dX11_hasItems_24 (by decide) ?_
        refine ax_goto (tgt := 29) dX11_hasItems_25 (by decide) ?_
        refine ax_iret dX11_hasItems_29 rfl rfl (Nat.le_of_ble_eq_true rfl) (Nat.le_of_ble_eq_true rfl) ?_
        exact ⟨congrArg (fun z => some (Value.int z)) (Eq.symm (by unfold r_X11_hasItems; (try rw [if_neg c_1]); (try rw [if_neg c_5]); (try rw [if_neg c_21]); first | done | rfl)), rfl, rfl, rfl⟩
def r_X11_lowestBits (G : Gt) (L : Lt) (a : Int32) (x : Int64) : Int64 := if a = 0 then ((((x).toInt32).toInt8.toInt32).toInt64) else (if a = 1 then ((((x).toInt32).toInt16.toInt32).toInt64) else (if a = 2 then (((x).toInt32).toInt64) else (if a = 3 then x else (if (lg_cmp x 0) = 0 then 0 else 1))))
theorem c_X11_lowestBits {Z : Zt} {G : Gt} {L : Lt}   (a : Int32) (x : Int64)  : AC mX11_lowestBits 1 0 0 [.int a, .long x] Z G L (DQ (some (.long (r_X11_lowestBits G L a x))) Z G L) := by
  refine AC.intro (by decide +kernel) (Nat.le_of_ble_eq_true rfl) ?_
  refine ax_lv [(0, .int a), (1, .long x)] ⟨rfl, rfl, trivial⟩ ?_
  refine ax_iload_n (i := 0) dX11_lowestBits_0 rfl rfl ?_
  refine (Decidable.em (a = 0)).elim (fun e_1_0 => ?_) (fun e_1_0 => ?_)
  · refine ax_tin (off := 31) (tgt := 32) dX11_lowestBits_1 (by rw [e_1_0]; decide) (by rw [e_1_0]; decide) (by rw [e_1_0]; decide) (by decide) ?_
    refine ax_lload_n (i := 1) dX11_lowestBits_32 rfl rfl ?_
    refine ax_l2i dX11_lowestBits_33 ?_
    refine ax_i2b dX11_lowestBits_34 ?_
    refine ax_i2l dX11_lowestBits_35 ?_
    refine ax_lret dX11_lowestBits_36 rfl (Nat.le_of_ble_eq_true rfl) (Nat.le_of_ble_eq_true rfl) ?_
    exact ⟨congrArg (fun z => some (Value.long z)) (Eq.symm (by unfold r_X11_lowestBits; (try rw [if_pos e_1_0]); first | done | rfl)), rfl, rfl, rfl⟩
  refine (Decidable.em (a = 1)).elim (fun e_1_1 => ?_) (fun e_1_1 => ?_)
  · refine ax_tin (off := 36) (tgt := 37) dX11_lowestBits_1 (by rw [e_1_1]; decide) (by rw [e_1_1]; decide) (by rw [e_1_1]; decide) (by decide) ?_
    refine ax_lload_n (i := 1) dX11_lowestBits_37 rfl rfl ?_
    refine ax_l2i dX11_lowestBits_38 ?_
    refine ax_i2s dX11_lowestBits_39 ?_
    refine ax_i2l dX11_lowestBits_40 ?_
    refine ax_lret dX11_lowestBits_41 rfl (Nat.le_of_ble_eq_true rfl) (Nat.le_of_ble_eq_true rfl) ?_
    exact ⟨congrArg (fun z => some (Value.long z)) (Eq.symm (by unfold r_X11_lowestBits; (try rw [if_neg e_1_0]); (try rw [if_pos e_1_1]); first | done | rfl)), rfl, rfl, rfl⟩
  refine (Decidable.em (a = 2)).elim (fun e_1_2 => ?_) (fun e_1_2 => ?_)
  · refine ax_tin (off := 41) (tgt := 42) dX11_lowestBits_1 (by rw [e_1_2]; decide) (by rw [e_1_2]; decide) (by rw [e_1_2]; decide) (by decide) ?_
    refine ax_lload_n (i := 1) dX11_lowestBits_42 rfl rfl ?_
    refine ax_l2i dX11_lowestBits_43 ?_
    refine ax_i2l dX11_lowestBits_44 ?_
    refine ax_lret dX11_lowestBits_45 rfl (Nat.le_of_ble_eq_true rfl) (Nat.le_of_ble_eq_true rfl) ?_
    exact ⟨congrArg (fun z => some (Value.long z)) (Eq.symm (by unfold r_X11_lowestBits; (try rw [if_neg e_1_0]); (try rw [if_neg e_1_1]); (try rw [if_pos e_1_2]); first | done | rfl)), rfl, rfl, rfl⟩
  refine (Decidable.em (a = 3)).elim (fun e_1_3 => ?_) (fun e_1_3 => ?_)
  · refine ax_tin (off := 45) (tgt := 46) dX11_lowestBits_1 (by rw [e_1_3]; decide) (by rw [e_1_3]; decide) (by rw [e_1_3]; decide) (by decide) ?_
    refine ax_lload_n (i := 1) dX11_lowestBits_46 rfl rfl ?_
    refine ax_lret dX11_lowestBits_47 rfl (Nat.le_of_ble_eq_true rfl) (Nat.le_of_ble_eq_true rfl) ?_
    exact ⟨congrArg (fun z => some (Value.long z)) (Eq.symm (by unfold r_X11_lowestBits; (try rw [if_neg e_1_0]); (try rw [if_neg e_1_1]); (try rw [if_neg e_1_2]); (try rw [if_pos e_1_3]); first | done | rfl)), rfl, rfl, rfl⟩
  refine ax_tout (tgt := 48) dX11_lowestBits_1 (sw_out 4 (by decide) (by decide) ⟨⟨⟨⟨trivial, e_1_0⟩, e_1_1⟩, e_1_2⟩, e_1_3⟩) (by decide) ?_
  refine ax_lload_n (i := 1) dX11_lowestBits_48 rfl rfl ?_
  refine ax_lconst (v := 0) dX11_lowestBits_49 (by decide) ?_
  refine ax_lcmp dX11_lowestBits_50 ?_
  refine ax_if_eq (tgt := 58) dX11_lowestBits_51 (by decide) (fun c_51 => ?_) (fun c_51 => ?_)
  · refine ax_lconst (v := 0) dX11_lowestBits_58 (by decide) ?_
    refine ax_lret dX11_lowestBits_59 rfl (Nat.le_of_ble_eq_true rfl) (Nat.le_of_ble_eq_true rfl) ?_
    exact ⟨congrArg (fun z => some (Value.long z)) (Eq.symm (by unfold r_X11_lowestBits; (try rw [if_neg e_1_0]); (try rw [if_neg e_1_1]); (try rw [if_neg e_1_2]); (try rw [if_neg e_1_3]); (try rw [if_pos c_51]); first | done | rfl)), rfl, rfl, rfl⟩
  · refine ax_lconst (v := 1) dX11_lowestBits_54 (by decide) ?_
    refine ax_goto (tgt := 59) dX11_lowestBits_55 (by decide) ?_
    refine ax_lret dX11_lowestBits_59 rfl (Nat.le_of_ble_eq_true rfl) (Nat.le_of_ble_eq_true rfl) ?_
    exact ⟨congrArg (fun z => some (Value.long z)) (Eq.symm (by unfold r_X11_lowestBits; (try rw [if_neg e_1_0]); (try rw [if_neg e_1_1]); (try rw [if_neg e_1_2]); (try rw [if_neg e_1_3]); (try rw [if_neg c_51]); first | done | rfl)), rfl, rfl, rfl⟩
def r_X11_item (G : Gt) (L : Lt) (a : Int32) (b : Int32) (x : Int64) : Int32 := if (wi a 0 5) = 0 then (-1) else (if (G 7 a.toNatClampNeg) = (-1) then (-11) else (if ((wi b 0 ((G 8 a.toNatClampNeg) - 1))) = 0 then (-13) else 1))
def l_X11_item (G : Gt) (L : Lt) (a : Int32) (b : Int32) (x : Int64) : Lt := if (wi a 0 5) = 0 then L else (if (G 7 a.toNatClampNeg) = (-1) then L else (if ((wi b 0 ((G 8 a.toNatClampNeg) - 1))) = 0 then L else (up2 L (10 + a.toNatClampNeg) b.toNatClampNeg (r_X11_lowestBits G L (G 7 a.toNatClampNeg) x))))
theorem c_X11_item {Z : Zt} {G : Gt} {L : Lt}  (hZ : OK Z) (hS : ∀ t, t < 6 → cntOK 60 (G 8 t)) (a : Int32) (b : Int32) (x : Int64)  : AC mX11_item 3 0 0 [.ref 0, .int a, .int b, .long x] Z G L (DQ (some (.int (r_X11_item G L a b x))) Z G (l_X11_item G L a b x)) := by
  refine AC.intro (by decide +kernel) (Nat.le_of_ble_eq_true rfl) ?_
  refine ax_lv [(0, .ref 0), (1, .int a), (2, .int b), (3, .long x)] ⟨rfl, rfl, rfl, rfl, trivial⟩ ?_
  refine ax_iload_n (i := 1) dX11_item_0 rfl rfl ?_
  refine ax_iconst (v := 5) dX11_item_1 (by decide) ?_
  refine ax_cSv dX11_item_2 lk_X11_53 (c_X11_within a 5) rfl rfl (Nat.le_of_ble_eq_true rfl) (Nat.le_of_ble_eq_true rfl) (Nat.le_of_ble_eq_true rfl) (Nat.le_of_ble_eq_true rfl) ?_
  refine ax_if_ne (tgt := 10) dX11_item_5 (by decide) (fun c_5 => ?_) (fun c_5 => ?_)
  · refine ax_aload_n (i := 0) dX11_item_10 rfl rfl ?_
    refine ax_getR dX11_item_11 fl_X11_42 rfl (OKs hZ rfl) (OKr hZ rfl) ?_
    refine ax_iload_n (i := 1) dX11_item_14 rfl rfl ?_
    refine ax_ialdN a.toNatClampNeg dX11_item_15 (OKs hZ rfl) (wi_e c_5) (wi_l c_5 (by decide)) (by decide) ?_
    refine ax_iconst (v := (-1)) dX11_item_16 (by decide) ?_
    refine ax_icmp_ne (tgt := 23) dX11_item_17 (by decide) (fun c_17 => ?_) (fun c_17 => ?_)
    · refine ax_aload_n (i := 0) dX11_item_23 rfl rfl ?_
      refine ax_iload_n (i := 1) dX11_item_24 rfl rfl ?_
      refine ax_iload_n (i := 2) dX11_item_25 rfl rfl ?_
      refine ax_cVv dX11_item_26 lk_X11_243 (c_X11_hasItem hZ a b (wi_e c_5) (wi_l c_5 (by decide))) rfl (OKs hZ rfl) ⟨_, rfl, rfl⟩ rfl (Nat.le_of_ble_eq_true rfl) (Nat.le_of_ble_eq_true rfl) (Nat.le_of_ble_eq_true rfl) (Nat.le_of_ble_eq_true rfl) ?_
      refine ax_if_ne (tgt := 35) dX11_item_29 (by decide) (fun c_29 => ?_) (fun c_29 => ?_)
      · refine ax_aload_n (i := 0) dX11_item_35 rfl rfl ?_
        refine ax_getR dX11_item_36 fl_X11_50 rfl (OKs hZ rfl) (OKr hZ rfl) ?_
        refine ax_iload_n (i := 1) dX11_item_39 rfl rfl ?_
        refine ax_aaldN a.toNatClampNeg (t0 := 6) dX11_item_40 (OKs hZ rfl) rfl (fun _ => rfl) (wi_e c_5) (wi_l c_5 (by decide)) (by decide) (Trf hZ (wi_l c_5 (by decide))) ?_
        refine ax_iload_n (i := 2) dX11_item_41 rfl rfl ?_
        refine ax_aload_n (i := 0) dX11_item_42 rfl rfl ?_
        refine ax_getR dX11_item_43 fl_X11_42 rfl (OKs hZ rfl) (OKr hZ rfl) ?_
        refine ax_iload_n (i := 1) dX11_item_46 rfl rfl ?_
        refine ax_ialdN a.toNatClampNeg dX11_item_47 (OKs hZ rfl) (wi_e c_5) (wi_l c_5 (by decide)) (by decide) ?_
        refine ax_lload_n (i := 3) dX11_item_48 rfl rfl ?_
        refine ax_cSv dX11_item_49 lk_X11_293 (c_X11_lowestBits  (G 7 a.toNatClampNeg) x) rfl rfl (Nat.le_of_ble_eq_true rfl) (Nat.le_of_ble_eq_true rfl) (Nat.le_of_ble_eq_true rfl) (Nat.le_of_ble_eq_true rfl) ?_
        refine ax_lastN b.toNatClampNeg dX11_item_52 (Trow hZ (wi_l c_5 (by decide))) (wi_e c_29) (has_l (by decide) (hS _ (wi_l c_5 (by decide))) c_29) (by decide) ?_
        refine ax_iconst (v := 1) dX11_item_53 (by decide) ?_
        refine ax_iret dX11_item_54 rfl rfl (Nat.le_of_ble_eq_true rfl) (Nat.le_of_ble_eq_true rfl) ?_
        exact ⟨congrArg (fun z => some (Value.int z)) (Eq.symm (by unfold r_X11_item; (try rw [if_neg c_5]); (try rw [if_neg c_17]); (try rw [if_neg c_29]); first | done | rfl)), rfl, rfl, Eq.symm (by unfold l_X11_item; (try rw [if_neg c_5]); (try rw [if_neg c_17]); (try rw [if_neg c_29]); first | done | rfl)⟩
      · refine ax_bipush (v := (-13)) dX11_item_32 (by decide) ?_
        refine ax_iret dX11_item_34 rfl rfl (Nat.le_of_ble_eq_true rfl) (Nat.le_of_ble_eq_true rfl) ?_
        exact ⟨congrArg (fun z => some (Value.int z)) (Eq.symm (by unfold r_X11_item; (try rw [if_neg c_5]); (try rw [if_neg c_17]); (try rw [if_pos c_29]); first | done | rfl)), rfl, rfl, Eq.symm (by unfold l_X11_item; (try rw [if_neg c_5]); (try rw [if_neg c_17]); (try rw [if_pos c_29]); first | done | rfl)⟩
    · refine ax_bipush (v := (-11)) dX11_item_20 (by decide) ?_
      refine ax_iret dX11_item_22 rfl rfl (Nat.le_of_ble_eq_true rfl) (Nat.le_of_ble_eq_true rfl) ?_
      exact ⟨congrArg (fun z => some (Value.int z)) (Eq.symm (by unfold r_X11_item; (try rw [if_neg c_5]); (try rw [if_pos c_17]); first | done | rfl)), rfl, rfl, Eq.symm (by unfold l_X11_item; (try rw [if_neg c_5]); (try rw [if_pos c_17]); first | done | rfl)⟩
  · refine ax_iconst (v := (-1)) dX11_item_8 (by decide) ?_
    refine ax_iret dX11_item_9 rfl rfl (Nat.le_of_ble_eq_true rfl) (Nat.le_of_ble_eq_true rfl) ?_
    exact ⟨congrArg (fun z => some (Value.int z)) (Eq.symm (by unfold r_X11_item; (try rw [if_pos c_5]); first | done | rfl)), rfl, rfl, Eq.symm (by unfold l_X11_item; (try rw [if_pos c_5]); first | done | rfl)⟩
def r_X11_read (G : Gt) (L : Lt) (a : Int32) (b : Int32) : Int64 := if (wi a 0 5) = 0 then (-9223372036854775808) else (if ((wi b 0 ((G 8 a.toNatClampNeg) - 1))) = 0 then (-9223372036854775808) else (L (10 + a.toNatClampNeg) b.toNatClampNeg))
theorem c_X11_read {Z : Zt} {G : Gt} {L : Lt}  (hZ : OK Z) (hS : ∀ t, t < 6 → cntOK 60 (G 8 t)) (a : Int32) (b : Int32)  : AC mX11_read 3 0 0 [.ref 0, .int a, .int b] Z G L (DQ (some (.long (r_X11_read G L a b))) Z G L) := by
  refine AC.intro (by decide +kernel) (Nat.le_of_ble_eq_true rfl) ?_
  refine ax_lv [(0, .ref 0), (1, .int a), (2, .int b)] ⟨rfl, rfl, rfl, trivial⟩ ?_
  refine ax_iload_n (i := 1) dX11_read_0 rfl rfl ?_
  refine ax_iconst (v := 5) dX11_read_1 (by decide) ?_
  refine ax_cSv dX11_read_2 lk_X11_53 (c_X11_within a 5) rfl rfl (Nat.le_of_ble_eq_true rfl) (Nat.le_of_ble_eq_true rfl) (Nat.le_of_ble_eq_true rfl) (Nat.le_of_ble_eq_true rfl) ?_
  refine ax_if_eq (tgt := 17) dX11_read_5 (by decide) (fun c_5 => ?_) (fun c_5 => ?_)
  · refine ax_ldc2 dX11_read_17 wk_X11_210 ?_
    refine ax_lret dX11_read_20 rfl (Nat.le_of_ble_eq_true rfl) (Nat.le_of_ble_eq_true rfl) ?_
    exact ⟨congrArg (fun z => some (Value.long z)) (Eq.symm (by unfold r_X11_read; (try rw [if_pos c_5]); first | done | rfl)), rfl, rfl, rfl⟩
  · refine ax_aload_n (i := 0) dX11_read_8 rfl rfl ?_
    refine ax_iload_n (i := 1) dX11_read_9 rfl rfl ?_
    refine ax_iload_n (i := 2) dX11_read_10 rfl rfl ?_
    refine ax_cVv dX11_read_11 lk_X11_243 (c_X11_hasItem hZ a b (wi_e c_5) (wi_l c_5 (by decide))) rfl (OKs hZ rfl) ⟨_, rfl, rfl⟩ rfl (Nat.le_of_ble_eq_true rfl) (Nat.le_of_ble_eq_true rfl) (Nat.le_of_ble_eq_true rfl) (Nat.le_of_ble_eq_true rfl) ?_
    refine ax_if_ne (tgt := 21) dX11_read_14 (by decide) (fun c_14 => ?_) (fun c_14 => ?_)
    · refine ax_aload_n (i := 0) dX11_read_21 rfl rfl ?_
      refine ax_getR dX11_read_22 fl_X11_50 rfl (OKs hZ rfl) (OKr hZ rfl) ?_
      refine ax_iload_n (i := 1) dX11_read_25 rfl rfl ?_
      refine ax_aaldN a.toNatClampNeg (t0 := 6) dX11_read_26 (OKs hZ rfl) rfl (fun _ => rfl) (wi_e c_5) (wi_l c_5 (by decide)) (by decide) (Trf hZ (wi_l c_5 (by decide))) ?_
      refine ax_iload_n (i := 2) dX11_read_27 rfl rfl ?_
      refine ax_laldN b.toNatClampNeg dX11_read_28 (Trow hZ (wi_l c_5 (by decide))) (wi_e c_14) (has_l (by decide) (hS _ (wi_l c_5 (by decide))) c_14) (by decide) ?_
      refine ax_lret dX11_read_29 rfl (Nat.le_of_ble_eq_true rfl) (Nat.le_of_ble_eq_true rfl) ?_
      exact ⟨congrArg (fun z => some (Value.long z)) (Eq.symm (by unfold r_X11_read; (try rw [if_neg c_5]); (try rw [if_neg c_14]); first | done | rfl)), rfl, rfl, rfl⟩
    · refine ax_ldc2 dX11_read_17 wk_X11_210 ?_
      refine ax_lret dX11_read_20 rfl (Nat.le_of_ble_eq_true rfl) (Nat.le_of_ble_eq_true rfl) ?_
      exact ⟨congrArg (fun z => some (Value.long z)) (Eq.symm (by unfold r_X11_read; (try rw [if_neg c_5]); (try rw [if_pos c_14]); first | done | rfl)), rfl, rfl, rfl⟩
def g_X0_begin (G : Gt) (L : Lt) (a : Int32) : Gt := if 20 ≤ (G 4 1) then (up2 G 4 1 ((G 4 1) + 1)) else (up2 (up2 G 5 ((G 4 1).toNatClampNeg) a) 4 1 (((up2 G 5 ((G 4 1).toNatClampNeg) a) 4 1) + 1))
theorem c_X0_begin {Z : Zt} {G : Gt} {L : Lt}  (hZ : OK Z) (hT : cntOK 100 (G 4 1)) (a : Int32)  : AC mX0_begin 1 0 0 [.ref 4, .int a] Z G L (DQ none Z (g_X0_begin G L a) L) := by
  refine AC.intro (by decide +kernel) (Nat.le_of_ble_eq_true rfl) ?_
  refine ax_lv [(0, .ref 4), (1, .int a)] ⟨rfl, rfl, trivial⟩ ?_
  refine ax_aload_n (i := 0) dX0_begin_0 rfl rfl ?_
  refine ax_getI dX0_begin_1 fl_X0_15 rfl (OKs hZ rfl) ?_
  refine ax_bipush (v := 20) dX0_begin_4 (by decide) ?_
  refine ax_icmp_ge (tgt := 19) dX0_begin_6 (by decide) (fun c_6 => ?_) (fun c_6 => ?_)
  · refine ax_aload_n (i := 0) dX0_begin_19 rfl rfl ?_
    refine ax_dup dX0_begin_20 rfl ?_
    refine ax_getI dX0_begin_21 fl_X0_15 rfl (OKs hZ rfl) ?_
    refine ax_iconst (v := 1) dX0_begin_24 (by decide) ?_
    refine ax_iadd dX0_begin_25 ?_
    refine ax_putI dX0_begin_26 fl_X0_15 (Or.inl fp_X0_0_1) rfl rfl rfl (OKs hZ rfl) ?_
    refine ax_vret dX0_begin_29 rfl (Nat.le_of_ble_eq_true rfl) (Nat.le_of_ble_eq_true rfl) ?_
    exact ⟨rfl, rfl, Eq.symm (by unfold g_X0_begin; (try rw [if_pos c_6]); first | done | rfl), rfl⟩
  · refine ax_aload_n (i := 0) dX0_begin_9 rfl rfl ?_
    refine ax_getR dX0_begin_10 fl_X0_9 rfl (OKs hZ rfl) (OKr hZ rfl) ?_
    refine ax_aload_n (i := 0) dX0_begin_13 rfl rfl ?_
    refine ax_getI dX0_begin_14 fl_X0_15 rfl (OKs hZ rfl) ?_
    refine ax_iload_n (i := 1) dX0_begin_17 rfl rfl ?_
    refine ax_iastN ((G 4 1).toNatClampNeg) dX0_begin_18 (OKs hZ rfl) (cnt_e (by decide) hT) (by obtain ⟨n, h1, h2⟩ := hT; rw [h2, nI_clamp (by omega)]; rcases Nat.lt_or_ge n 20 with q | q; exact q; exact absurd (by rw [h2]; exact nI_le q (by omega)) c_6) (by decide) ?_
    refine ax_aload_n (i := 0) dX0_begin_19 rfl rfl ?_
    refine ax_dup dX0_begin_20 rfl ?_
    refine ax_getI dX0_begin_21 fl_X0_15 rfl (OKs hZ rfl) ?_
    refine ax_iconst (v := 1) dX0_begin_24 (by decide) ?_
    refine ax_iadd dX0_begin_25 ?_
    refine ax_putI dX0_begin_26 fl_X0_15 (Or.inl fp_X0_0_1) rfl rfl rfl (OKs hZ rfl) ?_
    refine ax_vret dX0_begin_29 rfl (Nat.le_of_ble_eq_true rfl) (Nat.le_of_ble_eq_true rfl) ?_
    exact ⟨rfl, rfl, Eq.symm (by unfold g_X0_begin; (try rw [if_neg c_6]); first | done | rfl), rfl⟩
