-- ===== the class: taken, judge, tapes =====
theorem l_taken {Z : Zt} {G : Gt} {L : Lt} {Q : Qt} (k kind : Int32) : ∀ (r q : Nat) (u : Int32), q + r = 7 → abOK u → Q (some (.int (tkV k kind r u))) Z G L → AX none mX11_taken 3 0 0 0 0 44 [(2, .int k), (3, .int kind), (4, .int u), (5, .int (nI q))] [] Z G L Q := by
  intro r
  induction r with
  | zero =>
    intro q u h1 hu hend
    refine ax_iload dX11_taken_44 rfl ?_
    refine ax_bipush (v := 7) dX11_taken_46 (by decide) ?_
    refine ax_icmp_ge (tgt := 78) dX11_taken_48 (by decide) (fun c_48 => ?_) (fun c_48 => ?_)
    · refine ax_bipush (v := (-12)) dX11_taken_78 (by decide) ?_
      refine ax_iret dX11_taken_80 rfl rfl (Nat.le_of_ble_eq_true rfl) (Nat.le_of_ble_eq_true rfl) ?_
      exact hend
    · exact absurd (by rw [show q = 7 by omega]; decide) c_48
  | succ r ih =>
    intro q u h1 hu hend
    refine ax_iload dX11_taken_44 rfl ?_
    refine ax_bipush (v := 7) dX11_taken_46 (by decide) ?_
    refine ax_icmp_ge (tgt := 78) dX11_taken_48 (by decide) (fun c_48 => ?_) (fun c_48 => ?_)
    · exact absurd c_48 (nI_ge (show q < 7 by omega) (by decide))
    · refine ax_iload dX11_taken_51 rfl ?_
      refine ax_if_lt (tgt := 78) dX11_taken_53 (by decide) (fun c_53 => ?_) (fun c_53 => ?_)
      · refine ax_bipush (v := (-12)) dX11_taken_78 (by decide) ?_
        refine ax_iret dX11_taken_80 rfl rfl (Nat.le_of_ble_eq_true rfl) (Nat.le_of_ble_eq_true rfl) ?_
        exact cast (congrArg (fun z => Q (some (Value.int z)) Z G L) (by rw [tkV, if_pos c_53])) hend
      · refine ax_iload dX11_taken_56 rfl ?_
        refine ax_iload_n (i := 2) dX11_taken_58 rfl rfl ?_
        refine ax_icmp_ne (tgt := 64) dX11_taken_59 (by decide) (fun c_59 => ?_) (fun c_59 => ?_)
        · obtain ⟨n1, n2⟩ := ab_next hu c_53
          refine ax_above dX11_taken_64 fw_X11_284 ?_
          refine ax_iload dX11_taken_67 rfl ?_
          refine ax_aboveAt dX11_taken_69 n1 ?_
          refine ax_istore dX11_taken_70 (by decide) rfl ?_
          refine ax_iinc (v := (nI q) + 1) dX11_taken_72 rfl rfl (by decide) rfl ?_
          refine ax_goto (tgt := 44) dX11_taken_75 (by decide) ?_
          refine ax_lv [(2, .int k), (3, .int kind), (4, .int (tAbove.getD u.toNatClampNeg 0)), (5, .int (nI (q + 1)))] ⟨rfl, rfl, rfl, sI (nI_1 q), trivial⟩ ?_
          exact ih (q + 1) _ (by omega) n2 (cast (congrArg (fun z => Q (some (Value.int z)) Z G L) (by conv => lhs; rw [tkV, if_neg c_53, if_neg c_59])) hend)
        · refine ax_iload_n (i := 3) dX11_taken_62 rfl rfl ?_
          refine ax_iret dX11_taken_63 rfl rfl (Nat.le_of_ble_eq_true rfl) (Nat.le_of_ble_eq_true rfl) ?_
          exact cast (congrArg (fun z => Q (some (Value.int z)) Z G L) (by rw [tkV, if_neg c_53, if_pos c_59])) hend
theorem c_taken {Z : Zt} {G : Gt} {L : Lt} {W : Wv} (hZ : OK Z) (hv : vC Z G 24 W) (ho : okW W) (a k : Int32) : AC mX11_taken 3 0 0 [.ref 0, .int a, .int k] Z G L (RQ (.int (tkA W a k)) Z G L) := by
  refine AC.intro (by decide +kernel) (Nat.le_of_ble_eq_true rfl) ?_
  refine ax_lv [(0, .ref 0), (1, .int a), (2, .int k)] ⟨rfl, rfl, rfl, trivial⟩ ?_
  refine ax_iload_n (i := 2) dX11_taken_0 rfl rfl ?_
  refine ax_bipush (v := 6) dX11_taken_1 (by decide) ?_
  refine ax_cSv dX11_taken_3 lk_X11_53 (c_X11_within k 6) rfl rfl (Nat.le_of_ble_eq_true rfl) (Nat.le_of_ble_eq_true rfl) (Nat.le_of_ble_eq_true rfl) (Nat.le_of_ble_eq_true rfl) ?_
  refine ax_if_ne (tgt := 12) dX11_taken_6 (by decide) (fun c_6 => ?_) (fun c_6 => ?_)
  · refine ax_aload_n (i := 0) dX11_taken_12 rfl rfl ?_
    refine ax_getR dX11_taken_13 fl_X11_14 rfl (OKs hZ rfl) (OKr hZ rfl) ?_
    refine ax_iload_n (i := 1) dX11_taken_16 rfl rfl ?_
    refine ax_cVv dX11_taken_17 lk_X11_65 (k_has (isW24 hZ) hv a) rfl (OKs hZ rfl) ⟨_, rfl, rfl⟩ rfl (Nat.le_of_ble_eq_true rfl) (Nat.le_of_ble_eq_true rfl) (Nat.le_of_ble_eq_true rfl) (Nat.le_of_ble_eq_true rfl) ?_
    refine ax_if_ne (tgt := 26) dX11_taken_20 (by decide) (fun c_20 => ?_) (fun c_20 => ?_)
    · obtain ⟨p, hp, rfl⟩ := has_p ho.1 c_20
      have hp6 : p < 6 := by have := ho.1; omega
      obtain ⟨kk, hk7, hkk⟩ := ho.2.2.1 p hp
      refine ax_aload_n (i := 0) dX11_taken_26 rfl rfl ?_
      refine ax_getR dX11_taken_27 fl_X11_14 rfl (OKs hZ rfl) (OKr hZ rfl) ?_
      refine ax_getR dX11_taken_30 fl_X11_87 rfl (OKs hZ rfl) (OKr hZ rfl) ?_
      refine ax_iload_n (i := 1) dX11_taken_33 rfl rfl ?_
      refine ax_aaldN p (t0 := 5) dX11_taken_34 (OKs hZ rfl) rfl (fun _ => rfl) rfl hp6 (by decide) (Wrf (isW24 hZ) hp6) ?_
      refine ax_iconst (v := 0) dX11_taken_35 (by decide) ?_
      refine ax_ialdN 0 dX11_taken_36 (Wrow (isW24 hZ) hp6) rfl (by decide) (by decide) ?_
      refine ax_top (congrArg Value.int (hv.2.2.1 p hp 0 (by decide))) ?_
      refine ax_istore_n (i := 3) dX11_taken_37 rfl (by decide) rfl ?_
      refine ax_iload_n (i := 3) dX11_taken_38 rfl rfl ?_
      refine ax_istore dX11_taken_39 (by decide) rfl ?_
      refine ax_iconst (v := 0) dX11_taken_41 (by decide) ?_
      refine ax_istore dX11_taken_42 (by decide) rfl ?_
      refine ax_lv [(2, .int k), (3, .int (W.C p 0)), (4, .int (W.C p 0)), (5, .int (nI 0))] ⟨rfl, rfl, rfl, rfl, trivial⟩ ?_
      exact l_taken k (W.C p 0) 7 0 (W.C p 0) rfl (Or.inr ⟨kk, hk7, hkk⟩) ⟨congrArg (fun z => some (Value.int z)) (Eq.symm (by unfold tkA; rw [if_neg c_6, if_neg c_20, nI_clamp (by omega)])), rfl, rfl, rfl⟩
    · refine ax_bipush (v := (-11)) dX11_taken_23 (by decide) ?_
      refine ax_iret dX11_taken_25 rfl rfl (Nat.le_of_ble_eq_true rfl) (Nat.le_of_ble_eq_true rfl) ?_
      exact ⟨congrArg (fun z => some (Value.int z)) (Eq.symm (by unfold tkA; (try rw [if_neg c_6]); (try rw [if_pos c_20]); first | done | rfl)), rfl, rfl, rfl⟩
  · refine ax_bipush (v := (-2)) dX11_taken_9 (by decide) ?_
    refine ax_iret dX11_taken_11 rfl rfl (Nat.le_of_ble_eq_true rfl) (Nat.le_of_ble_eq_true rfl) ?_
    exact ⟨congrArg (fun z => some (Value.int z)) (Eq.symm (by unfold tkA; (try rw [if_pos c_6]); first | done | rfl)), rfl, rfl, rfl⟩
theorem x_taken {Z : Zt} {G : Gt} {L : Lt} {W : Wv} {H : Hv} {I : Option (Wv × Hv)} {T : Nat × (Nat → Nat)} {R : Nat × (Nat → Int32)} {P : Pt9} {n9 : Nat} (h : IC Z G L W H I T R P n9) (a k : Int32) : AC mX11_taken 3 0 0 [.ref 0, .int a, .int k] Z G L (RP (.int (tkA W a k)) (IQ G L W H I T R P n9)) := by
  obtain ⟨hZ, ⟨hv, ho, h9⟩, ⟨hH, hh⟩, -⟩ := id h
  exact w_RQ h (c_taken hZ hv ho a k)
def juV (P : Pt9) (W : Wv) (t : Nat) (i : Int32) : Nat → Nat → Int32
  | 0, _ => -5
  | r + 1, q => if wi (i + nI q) 0 (nI (P.2.1 t) - 1) = 0 then 100 + nI q else if lg_cmp (P.2.2 t (i + nI q).toNatClampNeg) (W.gr q).toInt64 = 0 then juV P W t i r (q + 1) else nI q
def juA (P : Pt9) (W : Wv) (a i : Int32) : Int32 := if wi a 0 5 = 0 then -1 else if P.1 a.toNatClampNeg = 1 then juV P W a.toNatClampNeg i 4 0 else if P.1 a.toNatClampNeg = -1 then juV P W a.toNatClampNeg i 4 0 else -12
theorem l_judge {Z : Zt} {G : Gt} {L : Lt} {Q : Qt} {W : Wv} (hZ : OK Z) (hv : vC Z G 24 W) {P : Pt9} (hP : icP G L P) (t : Nat) (ht : t < 6) (i : Int32) : ∀ (r q : Nat), q + r = 4 → Q (some (.int (juV P W t i r q))) Z G L → AX none mX11_judge 3 0 0 0 0 33 [(0, .ref 0), (1, .int (nI t)), (2, .int i), (4, .int (nI q))] [] Z G L Q := by
  intro r
  induction r with
  | zero =>
    intro q h1 hend
    refine ax_iload dX11_judge_33 rfl ?_
    refine ax_iconst (v := 4) dX11_judge_35 (by decide) ?_
    refine ax_icmp_ge (tgt := 92) dX11_judge_36 (by decide) (fun c_36 => ?_) (fun c_36 => ?_)
    · refine ax_bipush (v := (-5)) dX11_judge_92 (by decide) ?_
      refine ax_iret dX11_judge_94 rfl rfl (Nat.le_of_ble_eq_true rfl) (Nat.le_of_ble_eq_true rfl) ?_
      exact hend
    · exact absurd (by rw [show q = 4 by omega]; decide) c_36
  | succ r ih =>
    intro q h1 hend
    refine ax_iload dX11_judge_33 rfl ?_
    refine ax_iconst (v := 4) dX11_judge_35 (by decide) ?_
    refine ax_icmp_ge (tgt := 92) dX11_judge_36 (by decide) (fun c_36 => ?_) (fun c_36 => ?_)
    · exact absurd c_36 (nI_ge (show q < 4 by omega) (by decide))
    · refine ax_aload_n (i := 0) dX11_judge_39 rfl rfl ?_
      refine ax_iload_n (i := 1) dX11_judge_40 rfl rfl ?_
      refine ax_iload_n (i := 2) dX11_judge_41 rfl rfl ?_
      refine ax_iload dX11_judge_42 rfl ?_
      refine ax_iadd dX11_judge_44 ?_
      refine ax_cVv dX11_judge_45 lk_X11_243 (c_X11_hasItem hZ _ _ (by rw [nI_clamp (by omega)]) (by rw [nI_clamp (by omega)]; exact ht)) rfl (OKs hZ rfl) ⟨_, rfl, rfl⟩ rfl (Nat.le_of_ble_eq_true rfl) (Nat.le_of_ble_eq_true rfl) (Nat.le_of_ble_eq_true rfl) (Nat.le_of_ble_eq_true rfl) ?_
      refine ax_if_ne (tgt := 57) dX11_judge_48 (by decide) (fun c_48 => ?_) (fun c_48 => ?_)
      · have c9 := c_48
        rw [nI_clamp (by omega), (hP t ht).2.2.1] at c9
        have hl9 := has_l (m := P.2.1 t) (by have := (hP t ht).2.2.2.1; omega) ⟨_, Nat.le_refl _, rfl⟩ c9
        have hp60 := (hP t ht).2.2.2.1
        refine ax_aload_n (i := 0) dX11_judge_57 rfl rfl ?_
        refine ax_getR dX11_judge_58 fl_X11_50 rfl (OKs hZ rfl) (OKr hZ rfl) ?_
        refine ax_iload_n (i := 1) dX11_judge_61 rfl rfl ?_
        refine ax_aaldN t (t0 := 6) dX11_judge_62 (OKs hZ rfl) rfl (fun _ => rfl) rfl ht (by decide) (Trf hZ ht) ?_
        refine ax_iload_n (i := 2) dX11_judge_63 rfl rfl ?_
        refine ax_iload dX11_judge_64 rfl ?_
        refine ax_iadd dX11_judge_66 ?_
        refine ax_laldN ((i + nI q).toNatClampNeg) dX11_judge_67 (Trow hZ ht) (wi_e c9) (by omega) (by decide) ?_
        refine ax_aload_n (i := 0) dX11_judge_68 rfl rfl ?_
        refine ax_getR dX11_judge_69 fl_X11_14 rfl (OKs hZ rfl) (OKr hZ rfl) ?_
        refine ax_getR dX11_judge_72 fl_X11_101 rfl (OKs hZ rfl) (OKr hZ rfl) ?_
        refine ax_iload dX11_judge_75 rfl ?_
        refine ax_ialdN q dX11_judge_77 (OKs hZ rfl) rfl (show q < 4 by omega) (by decide) ?_
        refine ax_i2l dX11_judge_78 ?_
        refine ax_lcmp dX11_judge_79 ?_
        refine ax_if_eq (tgt := 86) dX11_judge_80 (by decide) (fun c_80 => ?_) (fun c_80 => ?_)
        · have d9 := c_80
          rw [(hP t ht).2.2.2.2.2 _ (by omega), hv.2.2.2.1 q (by omega)] at d9
          refine ax_iinc (v := (nI q) + 1) dX11_judge_86 rfl rfl (by decide) rfl ?_
          refine ax_goto (tgt := 33) dX11_judge_89 (by decide) ?_
          refine ax_lv [(0, .ref 0), (1, .int (nI t)), (2, .int i), (4, .int (nI (q + 1)))] ⟨rfl, rfl, rfl, sI (nI_1 q), trivial⟩ ?_
          exact ih (q + 1) (by omega) (cast (congrArg (fun z => Q (some (Value.int z)) Z G L) (by conv => lhs; rw [juV, if_neg c9, if_pos d9])) hend)
        · have d9 := c_80
          rw [(hP t ht).2.2.2.2.2 _ (by omega), hv.2.2.2.1 q (by omega)] at d9
          refine ax_iload dX11_judge_83 rfl ?_
          refine ax_iret dX11_judge_85 rfl rfl (Nat.le_of_ble_eq_true rfl) (Nat.le_of_ble_eq_true rfl) ?_
          exact cast (congrArg (fun z => Q (some (Value.int z)) Z G L) (by rw [juV, if_neg c9, if_neg d9])) hend
      · have c9 := c_48
        rw [nI_clamp (by omega), (hP t ht).2.2.1] at c9
        refine ax_bipush (v := 100) dX11_judge_51 (by decide) ?_
        refine ax_iload dX11_judge_53 rfl ?_
        refine ax_iadd dX11_judge_55 ?_
        refine ax_iret dX11_judge_56 rfl rfl (Nat.le_of_ble_eq_true rfl) (Nat.le_of_ble_eq_true rfl) ?_
        exact cast (congrArg (fun z => Q (some (Value.int z)) Z G L) (by rw [juV, if_pos c9])) hend
theorem c_judge {Z : Zt} {G : Gt} {L : Lt} {W : Wv} (hZ : OK Z) (hv : vC Z G 24 W) (ho : okW W) {P : Pt9} (hP : icP G L P) (a i : Int32) : AC mX11_judge 3 0 0 [.ref 0, .int a, .int i] Z G L (RQ (.int (juA P W a i)) Z G L) := by
  refine AC.intro (by decide +kernel) (Nat.le_of_ble_eq_true rfl) ?_
  refine ax_lv [(0, .ref 0), (1, .int a), (2, .int i)] ⟨rfl, rfl, rfl, trivial⟩ ?_
  refine ax_iload_n (i := 1) dX11_judge_0 rfl rfl ?_
  refine ax_iconst (v := 5) dX11_judge_1 (by decide) ?_
  refine ax_cSv dX11_judge_2 lk_X11_53 (c_X11_within a 5) rfl rfl (Nat.le_of_ble_eq_true rfl) (Nat.le_of_ble_eq_true rfl) (Nat.le_of_ble_eq_true rfl) (Nat.le_of_ble_eq_true rfl) ?_
  refine ax_if_ne (tgt := 10) dX11_judge_5 (by decide) (fun c_5 => ?_) (fun c_5 => ?_)
  · obtain ⟨t, ht5, rfl⟩ := wi_n (k := 5) (by decide) c_5
    have ht : t < 6 := by omega
    refine ax_aload_n (i := 0) dX11_judge_10 rfl rfl ?_
    refine ax_getR dX11_judge_11 fl_X11_42 rfl (OKs hZ rfl) (OKr hZ rfl) ?_
    refine ax_iload_n (i := 1) dX11_judge_14 rfl rfl ?_
    refine ax_ialdN t dX11_judge_15 (OKs hZ rfl) rfl ht (by decide) ?_
    refine ax_top (congrArg Value.int (hP t ht).1) ?_
    refine ax_istore_n (i := 3) dX11_judge_16 rfl (by decide) rfl ?_
    refine ax_iload_n (i := 3) dX11_judge_17 rfl rfl ?_
    refine ax_iconst (v := 1) dX11_judge_18 (by decide) ?_
    refine ax_icmp_eq (tgt := 30) dX11_judge_19 (by decide) (fun c_19 => ?_) (fun c_19 => ?_)
    · refine ax_iconst (v := 0) dX11_judge_30 (by decide) ?_
      refine ax_istore dX11_judge_31 (by decide) rfl ?_
      refine ax_lv [(0, .ref 0), (1, .int (nI t)), (2, .int i), (4, .int (nI 0))] ⟨rfl, rfl, rfl, rfl, trivial⟩ ?_
      exact l_judge hZ hv hP t ht i 4 0 rfl ⟨congrArg (fun z => some (Value.int z)) (Eq.symm (by unfold juA; rw [if_neg c_5, nI_clamp (by omega), if_pos c_19])), rfl, rfl, rfl⟩
    · refine ax_iload_n (i := 3) dX11_judge_22 rfl rfl ?_
      refine ax_iconst (v := (-1)) dX11_judge_23 (by decide) ?_
      refine ax_icmp_eq (tgt := 30) dX11_judge_24 (by decide) (fun c_24 => ?_) (fun c_24 => ?_)
      · refine ax_iconst (v := 0) dX11_judge_30 (by decide) ?_
        refine ax_istore dX11_judge_31 (by decide) rfl ?_
        refine ax_lv [(0, .ref 0), (1, .int (nI t)), (2, .int i), (4, .int (nI 0))] ⟨rfl, rfl, rfl, rfl, trivial⟩ ?_
        exact l_judge hZ hv hP t ht i 4 0 rfl ⟨congrArg (fun z => some (Value.int z)) (Eq.symm (by unfold juA; rw [if_neg c_5, nI_clamp (by omega), if_neg c_19, if_pos c_24])), rfl, rfl, rfl⟩
      · refine ax_bipush (v := (-12)) dX11_judge_27 (by decide) ?_
        refine ax_iret dX11_judge_29 rfl rfl (Nat.le_of_ble_eq_true rfl) (Nat.le_of_ble_eq_true rfl) ?_
        exact ⟨congrArg (fun z => some (Value.int z)) (Eq.symm (by unfold juA; rw [if_neg c_5, nI_clamp (by omega), if_neg c_19, if_neg c_24])), rfl, rfl, rfl⟩
  · refine ax_iconst (v := (-1)) dX11_judge_8 (by decide) ?_
    refine ax_iret dX11_judge_9 rfl rfl (Nat.le_of_ble_eq_true rfl) (Nat.le_of_ble_eq_true rfl) ?_
    exact ⟨congrArg (fun z => some (Value.int z)) (Eq.symm (by unfold juA; rw [if_pos c_5])), rfl, rfl, rfl⟩
theorem x_judge {Z : Zt} {G : Gt} {L : Lt} {W : Wv} {H : Hv} {I : Option (Wv × Hv)} {T : Nat × (Nat → Nat)} {R : Nat × (Nat → Int32)} {P : Pt9} {n9 : Nat} (h : IC Z G L W H I T R P n9) (a i : Int32) : AC mX11_judge 3 0 0 [.ref 0, .int a, .int i] Z G L (RP (.int (juA P W a i)) (IQ G L W H I T R P n9)) := by
  obtain ⟨hZ, ⟨hv, ho, h9⟩, -, -, -, -, hP, -⟩ := id h
  exact w_RQ h (c_judge hZ hv ho hP a i)
def setT (P : Pt9) (t : Nat) (s : Int32) (m : Nat) : Pt9 := (up1 P.1 t s, up1 P.2.1 t m, upr P.2.2 t (fun _ => 0))
def tpA (P : Pt9) (a s x : Int32) : Int32 × Pt9 := if wi a 0 5 = 0 then (-1, P) else if s < -1 then (-2, P) else if 4 < s then (-2, P) else if s = -1 then (1, setT P a.toNatClampNeg s 0) else if x ≤ 60 then (if 0 ≤ x then (1, setT P a.toNatClampNeg s x.toNatClampNeg) else (-14, P)) else (-2, P)
abbrev PV (Z : Zt) (G : Gt) (L : Lt) (P : Pt9) : Zt → Gt → Lt → Prop := fun Z' G' L' => Z' = Z ∧ icP G' L' P ∧ (∀ a, ¬ (7 ≤ a ∧ a < 9) → G' a = G a) ∧ (∀ a, ¬ (10 ≤ a ∧ a < 16) → L' a = L a)
theorem PV_same {Z : Zt} {G : Gt} {L : Lt} {P : Pt9} (h : icP G L P) : PV Z G L P Z G L := ⟨rfl, h, fun _ _ => rfl, fun _ _ => rfl⟩
theorem pv_set {Z : Zt} {G : Gt} {L : Lt} {P : Pt9} (h : icP G L P) {t m : Nat} {s v : Int32} (ht : t < 6) (hs : s = -1 ∨ ∃ k, k < 5 ∧ s = nI k) (hm : m ≤ 60) (hv : v = nI m) (h0 : s = -1 → m = 0) : PV Z G L (setT P t s m) Z (up2 (up2 G 7 t s) 8 t v) (upr L (10 + t) (fillF (L (10 + t)) 0 60)) := by
  refine ⟨rfl, fun u hu => ?_, fun a ha => by rw [up2_row (by omega), up2_row (by omega)], fun a ha => upr_n (by omega)⟩
  show up2 (up2 G 7 t s) 8 t v 7 u = up1 P.1 t s u ∧ (up1 P.1 t s u = -1 ∨ ∃ k, k < 5 ∧ up1 P.1 t s u = nI k) ∧ up2 (up2 G 7 t s) 8 t v 8 u = nI (up1 P.2.1 t m u) ∧ up1 P.2.1 t m u ≤ 60 ∧ (up1 P.1 t s u = -1 → up1 P.2.1 t m u = 0) ∧ ∀ i, i < 60 → upr L (10 + t) (fillF (L (10 + t)) 0 60) (10 + u) i = upr P.2.2 t (fun _ => 0) u i
  by_cases e : u = t
  · subst e
    rw [up1_s, up1_s, up2_s, up2_k (by decide), up2_s]
    refine ⟨rfl, hs, hv, hm, h0, fun i hi => ?_⟩
    rw [upr_s, upr_s]
    unfold fillF
    rw [if_pos hi]
  · rw [up1_n e, up1_n e, up2_i e, up2_i e, up2_i e, up2_i e, upr_n (by omega), upr_n e]
    exact h u hu
theorem w_PV {M : Mt} {d mc ms : Nat} {av : List Value} {v : Value} {Z : Zt} {G : Gt} {L : Lt} {W : Wv} {H : Hv} {I : Option (Wv × Hv)} {T : Nat × (Nat → Nat)} {R : Nat × (Nat → Int32)} {P P' : Pt9} {n : Nat} (h : IC Z G L W H I T R P n) (c : AC M d mc ms av Z G L (RP v (PV Z G L P'))) : AC M d mc ms av Z G L (RP v (IQ G L W H I T R P' n)) :=
  AC.weaken c (fun _ _ _ _ q => by
    obtain ⟨rfl, rfl, q1, q2, q3⟩ := q
    exact ⟨rfl, IC_other h (fun a ha => q2 a (by omega)) (q2 0 (by omega)) (icT_keep h.2.2.2.2.1 (by rw [q2 1 (by omega)]) (q2 2 (by omega))) (icR_keep h.2.2.2.2.2.1 (by rw [q2 4 (by omega)]) (q2 5 (by omega))) q1 (fun a ha => q3 a (by omega))⟩)
theorem srt {s : Int32} (h1 : ¬ s < -1) (h2 : ¬ 4 < s) (h3 : ¬ s = -1) : ∃ k, k < 5 ∧ s = nI k := by
  have h0 : ¬ s < 0 := by
    intro z
    have a1 := mt Int32.lt_iff_toInt_lt.mpr h1
    have a2 := Int32.lt_iff_toInt_lt.mp z
    have a3 : s.toInt ≠ -1 := fun e => h3 (Int32.toInt_inj.mp e)
    have e1 : (-1 : Int32).toInt = -1 := rfl
    have e0 : (0 : Int32).toInt = 0 := rfl
    rw [e1] at a1
    rw [e0] at a2
    omega
  obtain ⟨j, hj, rfl⟩ := nI_of h0
  have := mt (nI_ltI (by decide) hj).mpr (show ¬ nI 4 < nI j from h2)
  exact ⟨j, by omega, rfl⟩
theorem k_tape {Z : Zt} {G : Gt} {L : Lt} (hZ : OK Z) {P : Pt9} (hP : icP G L P) (a s x : Int32) : AC mX11_tape 2 0 0 [.ref 0, .int a, .int s, .int x] Z G L (RP (.int (tpA P a s x).1) (PV Z G L (tpA P a s x).2)) := by
  refine AC.intro (by decide +kernel) (Nat.le_of_ble_eq_true rfl) ?_
  refine ax_lv [(0, .ref 0), (1, .int a), (2, .int s), (3, .int x)] ⟨rfl, rfl, rfl, rfl, trivial⟩ ?_
  refine ax_iload_n (i := 1) dX11_tape_0 rfl rfl ?_
  refine ax_iconst (v := 5) dX11_tape_1 (by decide) ?_
  refine ax_cSv dX11_tape_2 lk_X11_53 (c_X11_within a 5) rfl rfl (Nat.le_of_ble_eq_true rfl) (Nat.le_of_ble_eq_true rfl) (Nat.le_of_ble_eq_true rfl) (Nat.le_of_ble_eq_true rfl) ?_
  refine ax_if_ne (tgt := 10) dX11_tape_5 (by decide) (fun c_5 => ?_) (fun c_5 => ?_)
  · obtain ⟨t, ht5, rfl⟩ := wi_n (k := 5) (by decide) c_5
    have ht : t < 6 := by omega
    refine ax_iload_n (i := 2) dX11_tape_10 rfl rfl ?_
    refine ax_iconst (v := (-1)) dX11_tape_11 (by decide) ?_
    refine ax_icmp_lt (tgt := 31) dX11_tape_12 (by decide) (fun c_12 => ?_) (fun c_12 => ?_)
    · refine ax_bipush (v := (-2)) dX11_tape_31 (by decide) ?_
      refine ax_iret dX11_tape_33 rfl rfl (Nat.le_of_ble_eq_true rfl) (Nat.le_of_ble_eq_true rfl) ?_
      have e9 : tpA P (nI t) s x = ((-2), P) := by unfold tpA; (try rw [if_neg c_5]); (try rw [if_pos c_12]); first | done | rfl
      rw [e9]
      exact ⟨rfl, PV_same hP⟩
    · refine ax_iload_n (i := 2) dX11_tape_15 rfl rfl ?_
      refine ax_iconst (v := 4) dX11_tape_16 (by decide) ?_
      refine ax_icmp_gt (tgt := 31) dX11_tape_17 (by decide) (fun c_17 => ?_) (fun c_17 => ?_)
      · refine ax_bipush (v := (-2)) dX11_tape_31 (by decide) ?_
        refine ax_iret dX11_tape_33 rfl rfl (Nat.le_of_ble_eq_true rfl) (Nat.le_of_ble_eq_true rfl) ?_
        have e9 : tpA P (nI t) s x = ((-2), P) := by unfold tpA; (try rw [if_neg c_5]); (try rw [if_neg c_12]); (try rw [if_pos c_17]); first | done | rfl
        rw [e9]
        exact ⟨rfl, PV_same hP⟩
      · refine ax_iload_n (i := 2) dX11_tape_20 rfl rfl ?_
        refine ax_iconst (v := (-1)) dX11_tape_21 (by decide) ?_
        refine ax_icmp_eq (tgt := 34) dX11_tape_22 (by decide) (fun c_22 => ?_) (fun c_22 => ?_)
        · refine ax_iload_n (i := 2) dX11_tape_34 rfl rfl ?_
          refine ax_iconst (v := (-1)) dX11_tape_35 (by decide) ?_
          refine ax_icmp_eq (tgt := 46) dX11_tape_36 (by decide) (fun c_36 => ?_) (fun c_36 => ?_)
          · refine ax_aload_n (i := 0) dX11_tape_46 rfl rfl ?_
            refine ax_getR dX11_tape_47 fl_X11_42 rfl (OKs hZ rfl) (OKr hZ rfl) ?_
            refine ax_iload_n (i := 1) dX11_tape_50 rfl rfl ?_
            refine ax_iload_n (i := 2) dX11_tape_51 rfl rfl ?_
            refine ax_iastN t dX11_tape_52 (OKs hZ rfl) rfl ht (by decide) ?_
            refine ax_aload_n (i := 0) dX11_tape_53 rfl rfl ?_
            refine ax_getR dX11_tape_54 fl_X11_45 rfl (OKs hZ rfl) (OKr hZ rfl) ?_
            refine ax_iload_n (i := 1) dX11_tape_57 rfl rfl ?_
            refine ax_iload_n (i := 2) dX11_tape_58 rfl rfl ?_
            refine ax_iconst (v := (-1)) dX11_tape_59 (by decide) ?_
            refine ax_icmp_ne (tgt := 67) dX11_tape_60 (by decide) (fun c_60 => ?_) (fun c_60 => ?_)
            · exact absurd c_36 c_60
            · refine ax_iconst (v := 0) dX11_tape_63 (by decide) ?_
              refine ax_goto (tgt := 68) dX11_tape_64 (by decide) ?_
              refine ax_iastN t dX11_tape_68 (OKs hZ rfl) rfl ht (by decide) ?_
              refine ax_aload_n (i := 0) dX11_tape_69 rfl rfl ?_
              refine ax_getR dX11_tape_70 fl_X11_50 rfl (OKs hZ rfl) (OKr hZ rfl) ?_
              refine ax_iload_n (i := 1) dX11_tape_73 rfl rfl ?_
              refine ax_aaldN t (t0 := 6) dX11_tape_74 (OKs hZ rfl) rfl (fun _ => rfl) rfl ht (by decide) (Trf hZ ht) ?_
              refine ax_lconst (v := 0) dX11_tape_75 (by decide) ?_
              refine ax_cS0 dX11_tape_76 lk_X11_287 (c_fillL (Trow hZ ht) (by decide) 0) rfl rfl (Nat.le_of_ble_eq_true rfl) (Nat.le_of_ble_eq_true rfl) (Nat.le_of_ble_eq_true rfl) (Nat.le_of_ble_eq_true rfl) ?_
              refine ax_iconst (v := 1) dX11_tape_79 (by decide) ?_
              refine ax_iret dX11_tape_80 rfl rfl (Nat.le_of_ble_eq_true rfl) (Nat.le_of_ble_eq_true rfl) ?_
              have e9 : tpA P (nI t) s x = (1, setT P t s 0) := by unfold tpA; (try rw [if_neg c_5]); (try rw [if_neg c_12]); (try rw [if_neg c_17]); (try rw [if_pos c_22]); (try rw [if_pos c_36]); (try rw [if_pos c_60]); rw [nI_clamp (by omega)]
              rw [e9]
              exact ⟨rfl, pv_set hP ht (Or.inl c_22) (by decide) rfl (fun _ => rfl)⟩
          · exact absurd c_22 c_36
        · refine ax_iload_n (i := 3) dX11_tape_25 rfl rfl ?_
          refine ax_bipush (v := 60) dX11_tape_26 (by decide) ?_
          refine ax_icmp_le (tgt := 34) dX11_tape_28 (by decide) (fun c_28 => ?_) (fun c_28 => ?_)
          · refine ax_iload_n (i := 2) dX11_tape_34 rfl rfl ?_
            refine ax_iconst (v := (-1)) dX11_tape_35 (by decide) ?_
            refine ax_icmp_eq (tgt := 46) dX11_tape_36 (by decide) (fun c_36 => ?_) (fun c_36 => ?_)
            · exact absurd c_36 c_22
            · refine ax_iload_n (i := 3) dX11_tape_39 rfl rfl ?_
              refine ax_if_ge (tgt := 46) dX11_tape_40 (by decide) (fun c_40 => ?_) (fun c_40 => ?_)
              · refine ax_aload_n (i := 0) dX11_tape_46 rfl rfl ?_
                refine ax_getR dX11_tape_47 fl_X11_42 rfl (OKs hZ rfl) (OKr hZ rfl) ?_
                refine ax_iload_n (i := 1) dX11_tape_50 rfl rfl ?_
                refine ax_iload_n (i := 2) dX11_tape_51 rfl rfl ?_
                refine ax_iastN t dX11_tape_52 (OKs hZ rfl) rfl ht (by decide) ?_
                refine ax_aload_n (i := 0) dX11_tape_53 rfl rfl ?_
                refine ax_getR dX11_tape_54 fl_X11_45 rfl (OKs hZ rfl) (OKr hZ rfl) ?_
                refine ax_iload_n (i := 1) dX11_tape_57 rfl rfl ?_
                refine ax_iload_n (i := 2) dX11_tape_58 rfl rfl ?_
                refine ax_iconst (v := (-1)) dX11_tape_59 (by decide) ?_
                refine ax_icmp_ne (tgt := 67) dX11_tape_60 (by decide) (fun c_60 => ?_) (fun c_60 => ?_)
                · refine ax_iload_n (i := 3) dX11_tape_67 rfl rfl ?_
                  refine ax_iastN t dX11_tape_68 (OKs hZ rfl) rfl ht (by decide) ?_
                  refine ax_aload_n (i := 0) dX11_tape_69 rfl rfl ?_
                  refine ax_getR dX11_tape_70 fl_X11_50 rfl (OKs hZ rfl) (OKr hZ rfl) ?_
                  refine ax_iload_n (i := 1) dX11_tape_73 rfl rfl ?_
                  refine ax_aaldN t (t0 := 6) dX11_tape_74 (OKs hZ rfl) rfl (fun _ => rfl) rfl ht (by decide) (Trf hZ ht) ?_
                  refine ax_lconst (v := 0) dX11_tape_75 (by decide) ?_
                  refine ax_cS0 dX11_tape_76 lk_X11_287 (c_fillL (Trow hZ ht) (by decide) 0) rfl rfl (Nat.le_of_ble_eq_true rfl) (Nat.le_of_ble_eq_true rfl) (Nat.le_of_ble_eq_true rfl) (Nat.le_of_ble_eq_true rfl) ?_
                  refine ax_iconst (v := 1) dX11_tape_79 (by decide) ?_
                  refine ax_iret dX11_tape_80 rfl rfl (Nat.le_of_ble_eq_true rfl) (Nat.le_of_ble_eq_true rfl) ?_
                  obtain ⟨x9, hx9, rfl⟩ := nI_of (Int32.not_lt.mpr c_40)
                  have hx60 := (nI_leI hx9 (by decide)).mp (show nI x9 ≤ nI 60 from c_28)
                  have e9 : tpA P (nI t) s (nI x9) = (1, setT P t s x9) := by unfold tpA; (try rw [if_neg c_5]); (try rw [if_neg c_12]); (try rw [if_neg c_17]); (try rw [if_neg c_22]); (try rw [if_pos c_28]); (try rw [if_neg c_36]); (try rw [if_pos c_40]); (try rw [if_neg c_60]); rw [nI_clamp (by omega), nI_clamp (by omega)]
                  rw [e9]
                  exact ⟨rfl, pv_set hP ht (Or.inr (srt c_12 c_17 c_22)) hx60 rfl (fun z => absurd z c_22)⟩
                · exact absurd c_60 c_36
              · refine ax_bipush (v := (-14)) dX11_tape_43 (by decide) ?_
                refine ax_iret dX11_tape_45 rfl rfl (Nat.le_of_ble_eq_true rfl) (Nat.le_of_ble_eq_true rfl) ?_
                have e9 : tpA P (nI t) s x = ((-14), P) := by unfold tpA; (try rw [if_neg c_5]); (try rw [if_neg c_12]); (try rw [if_neg c_17]); (try rw [if_neg c_22]); (try rw [if_pos c_28]); (try rw [if_neg c_36]); (try rw [if_neg c_40]); first | done | rfl
                rw [e9]
                exact ⟨rfl, PV_same hP⟩
          · refine ax_bipush (v := (-2)) dX11_tape_31 (by decide) ?_
            refine ax_iret dX11_tape_33 rfl rfl (Nat.le_of_ble_eq_true rfl) (Nat.le_of_ble_eq_true rfl) ?_
            have e9 : tpA P (nI t) s x = ((-2), P) := by unfold tpA; (try rw [if_neg c_5]); (try rw [if_neg c_12]); (try rw [if_neg c_17]); (try rw [if_neg c_22]); (try rw [if_neg c_28]); first | done | rfl
            rw [e9]
            exact ⟨rfl, PV_same hP⟩
  · refine ax_iconst (v := (-1)) dX11_tape_8 (by decide) ?_
    refine ax_iret dX11_tape_9 rfl rfl (Nat.le_of_ble_eq_true rfl) (Nat.le_of_ble_eq_true rfl) ?_
    have e9 : tpA P a s x = ((-1), P) := by unfold tpA; (try rw [if_pos c_5]); first | done | rfl
    rw [e9]
    exact ⟨rfl, PV_same hP⟩
theorem x_tape {Z : Zt} {G : Gt} {L : Lt} {W : Wv} {H : Hv} {I : Option (Wv × Hv)} {T : Nat × (Nat → Nat)} {R : Nat × (Nat → Int32)} {P : Pt9} {n9 : Nat} (h : IC Z G L W H I T R P n9) (a s x : Int32) : AC mX11_tape 2 0 0 [.ref 0, .int a, .int s, .int x] Z G L (RP (.int (tpA P a s x).1) (IQ G L W H I T R (tpA P a s x).2 n9)) := by
  obtain ⟨hZ, -, -, -, -, -, hP, -⟩ := id h
  exact w_PV h (k_tape hZ hP a s x)
