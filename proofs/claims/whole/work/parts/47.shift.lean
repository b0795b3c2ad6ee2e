-- ===== the class: shift =====
theorem lgc_pos {x y : Int64} : 0 < lg_cmp x y ↔ y < x := by
  unfold lg_cmp
  by_cases h : x > y
  · rw [if_pos h]; exact ⟨fun _ => h, fun _ => by decide⟩
  · rw [if_neg h]
    by_cases e : x = y
    · rw [if_pos e]; exact ⟨fun z => absurd z (by decide), fun z => absurd z h⟩
    · rw [if_neg e]; exact ⟨fun z => absurd z (by decide), fun z => absurd z h⟩
theorem lgc_0 {x y : Int64} : lg_cmp x y = 0 ↔ x = y := by
  unfold lg_cmp
  by_cases h : x > y
  · rw [if_pos h]
    refine ⟨fun z => absurd z (by decide), fun z => ?_⟩
    rw [z] at h
    exact absurd h (Int64.lt_irrefl)
  · rw [if_neg h]
    by_cases e : x = y
    · rw [if_pos e]; exact ⟨fun _ => e, fun _ => rfl⟩
    · rw [if_neg e]; exact ⟨fun z => absurd z (by decide), fun z => absurd z e⟩
/-- n items from i on -/
def hiS (i n : Int32) (m : Nat) : Int32 := if i < 0 then 0 else if n < 0 then 0 else if 0 < lg_cmp (i.toInt64 + n.toInt64) (nI m).toInt64 then 0 else 1
theorem hiS_n {i n : Int32} {m : Nat} (hm : m ≤ 60) (h : ¬ hiS i n m = 0) : ∃ i' n', i = nI i' ∧ n = nI n' ∧ i' + n' ≤ m := by
  unfold hiS at h
  by_cases c1 : i < 0
  · rw [if_pos c1] at h; exact absurd rfl h
  rw [if_neg c1] at h
  by_cases c2 : n < 0
  · rw [if_pos c2] at h; exact absurd rfl h
  rw [if_neg c2] at h
  by_cases c3 : 0 < lg_cmp (i.toInt64 + n.toInt64) (nI m).toInt64
  · rw [if_pos c3] at h; exact absurd rfl h
  obtain ⟨i', hi, rfl⟩ := nI_of c1
  obtain ⟨n', hn, rfl⟩ := nI_of c2
  rw [lgc_pos, nI_l hi, nI_l hn, nI_l (by omega), lN_add] at c3
  refine ⟨i', n', rfl, rfl, ?_⟩
  have t1 : (lN m).toInt = m := lN_toInt (by omega)
  have t2 : (lN (i' + n')).toInt = ((i' + n' : Nat) : Int) := pk_lT (by omega)
  have := mt Int64.lt_iff_toInt_lt.mpr c3
  rw [t1, t2] at this
  omega
def cpP (P : Pt9) (a b i j n : Nat) : Pt9 := (P.1, P.2.1, upr P.2.2 b (va_cpy (P.2.2 a) (P.2.2 b) i j n))
def shR (P : Pt9) (a : Nat) (i : Int32) (b : Nat) (j n : Int32) : Int32 × Pt9 := if P.1 a = -1 then (-11, P) else if P.1 b = -1 then (-11, P) else if P.1 a = P.1 b then (if hiS i n (P.2.1 a) = 0 then (-13, P) else if hiS j n (P.2.1 b) = 0 then (-13, P) else (n, cpP P a b i.toNatClampNeg j.toNatClampNeg n.toNatClampNeg)) else (-12, P)
def shA (P : Pt9) (a i b j n : Int32) : Int32 × Pt9 := if wi a 0 5 = 0 then (-1, P) else if wi b 0 5 = 0 then (-1, P) else shR P a.toNatClampNeg i b.toNatClampNeg j n
theorem pv_cp {Z : Zt} {G : Gt} {L : Lt} {P : Pt9} (h : icP G L P) {a b i j n : Nat} (ha : a < 6) (hb : b < 6) (hi : i + n ≤ 60) (hj : j + n ≤ 60) : PV Z G L (cpP P a b i j n) Z G (upr L (10 + b) (va_cpy (L (10 + a)) (L (10 + b)) i j n)) := by
  refine ⟨rfl, fun u hu => ?_, fun a ha => rfl, fun a ha => upr_n (by omega)⟩
  obtain ⟨a1, a2, a3, a4, a5, a6⟩ := h u hu
  refine ⟨a1, a2, a3, a4, a5, fun q hq => ?_⟩
  show upr L (10 + b) _ (10 + u) q = upr P.2.2 b _ u q
  by_cases e : u = b
  · subst e
    rw [upr_s, upr_s]
    unfold va_cpy
    by_cases c : j ≤ q ∧ q < j + n
    · rw [if_pos c, if_pos c]; exact (h a ha).2.2.2.2.2 _ (by omega)
    · rw [if_neg c, if_neg c]; exact a6 q hq
  · rw [upr_n (by omega), upr_n e]; exact a6 q hq
theorem k_shift {Z : Zt} {G : Gt} {L : Lt} (hZ : OK Z) {P : Pt9} (hP : icP G L P) (a i b j x : Int32) : AC mX11_shift 2 0 0 [.ref 0, .int a, .int i, .int b, .int j, .int x] Z G L (RP (.int (shA P a i b j x).1) (PV Z G L (shA P a i b j x).2)) := by
  refine AC.intro (by decide +kernel) (Nat.le_of_ble_eq_true rfl) ?_
  refine ax_lv [(0, .ref 0), (1, .int a), (2, .int i), (3, .int b), (4, .int j), (5, .int x)] ⟨rfl, rfl, rfl, rfl, rfl, rfl, trivial⟩ ?_
  refine ax_iload_n (i := 1) dX11_shift_0 rfl rfl ?_
  refine ax_iconst (v := 5) dX11_shift_1 (by decide) ?_
  refine ax_cSv dX11_shift_2 lk_X11_53 (c_X11_within a 5) rfl rfl (Nat.le_of_ble_eq_true rfl) (Nat.le_of_ble_eq_true rfl) (Nat.le_of_ble_eq_true rfl) (Nat.le_of_ble_eq_true rfl) ?_
  refine ax_if_eq (tgt := 16) dX11_shift_5 (by decide) (fun c_5 => ?_) (fun c_5 => ?_)
  · refine ax_iconst (v := (-1)) dX11_shift_16 (by decide) ?_
    refine ax_iret dX11_shift_17 rfl rfl (Nat.le_of_ble_eq_true rfl) (Nat.le_of_ble_eq_true rfl) ?_
    have e9 : shA P a i b j x = (-1, P) := by unfold shA; rw [if_pos c_5]
    rw [e9]
    exact ⟨rfl, PV_same hP⟩
  · obtain ⟨t, ht5, rfl⟩ := wi_n (k := 5) (by decide) c_5
    have ht : t < 6 := by omega
    refine ax_iload_n (i := 3) dX11_shift_8 rfl rfl ?_
    refine ax_iconst (v := 5) dX11_shift_9 (by decide) ?_
    refine ax_cSv dX11_shift_10 lk_X11_53 (c_X11_within b 5) rfl rfl (Nat.le_of_ble_eq_true rfl) (Nat.le_of_ble_eq_true rfl) (Nat.le_of_ble_eq_true rfl) (Nat.le_of_ble_eq_true rfl) ?_
    refine ax_if_ne (tgt := 18) dX11_shift_13 (by decide) (fun c_13 => ?_) (fun c_13 => ?_)
    · obtain ⟨u, hu5, rfl⟩ := wi_n (k := 5) (by decide) c_13
      have hu : u < 6 := by omega
      refine ax_aload_n (i := 0) dX11_shift_18 rfl rfl ?_
      refine ax_getR dX11_shift_19 fl_X11_42 rfl (OKs hZ rfl) (OKr hZ rfl) ?_
      refine ax_iload_n (i := 1) dX11_shift_22 rfl rfl ?_
      refine ax_ialdN t dX11_shift_23 (OKs hZ rfl) rfl ht (by decide) ?_
      refine ax_top (congrArg Value.int (hP t ht).1) ?_
      refine ax_iconst (v := (-1)) dX11_shift_24 (by decide) ?_
      refine ax_icmp_eq (tgt := 38) dX11_shift_25 (by decide) (fun c_25 => ?_) (fun c_25 => ?_)
      · refine ax_bipush (v := (-11)) dX11_shift_38 (by decide) ?_
        refine ax_iret dX11_shift_40 rfl rfl (Nat.le_of_ble_eq_true rfl) (Nat.le_of_ble_eq_true rfl) ?_
        have e9 : shA P (nI t) i (nI u) j x = (-11, P) := by unfold shA; rw [if_neg c_5, if_neg c_13, nI_clamp (by omega), nI_clamp (by omega)]; unfold shR; rw [if_pos c_25]
        rw [e9]
        exact ⟨rfl, PV_same hP⟩
      · refine ax_aload_n (i := 0) dX11_shift_28 rfl rfl ?_
        refine ax_getR dX11_shift_29 fl_X11_42 rfl (OKs hZ rfl) (OKr hZ rfl) ?_
        refine ax_iload_n (i := 3) dX11_shift_32 rfl rfl ?_
        refine ax_ialdN u dX11_shift_33 (OKs hZ rfl) rfl hu (by decide) ?_
        refine ax_top (congrArg Value.int (hP u hu).1) ?_
        refine ax_iconst (v := (-1)) dX11_shift_34 (by decide) ?_
        refine ax_icmp_ne (tgt := 41) dX11_shift_35 (by decide) (fun c_35 => ?_) (fun c_35 => ?_)
        · refine ax_aload_n (i := 0) dX11_shift_41 rfl rfl ?_
          refine ax_getR dX11_shift_42 fl_X11_42 rfl (OKs hZ rfl) (OKr hZ rfl) ?_
          refine ax_iload_n (i := 1) dX11_shift_45 rfl rfl ?_
          refine ax_ialdN t dX11_shift_46 (OKs hZ rfl) rfl ht (by decide) ?_
          refine ax_top (congrArg Value.int (hP t ht).1) ?_
          refine ax_aload_n (i := 0) dX11_shift_47 rfl rfl ?_
          refine ax_getR dX11_shift_48 fl_X11_42 rfl (OKs hZ rfl) (OKr hZ rfl) ?_
          refine ax_iload_n (i := 3) dX11_shift_51 rfl rfl ?_
          refine ax_ialdN u dX11_shift_52 (OKs hZ rfl) rfl hu (by decide) ?_
          refine ax_top (congrArg Value.int (hP u hu).1) ?_
          refine ax_icmp_eq (tgt := 59) dX11_shift_53 (by decide) (fun c_53 => ?_) (fun c_53 => ?_)
          · have e67 : ∀ i x : Int32, r_X11_hasItems G L (nI t) i x = hiS i x (P.2.1 t) := fun i x => by unfold r_X11_hasItems hiS; rw [nI_clamp (by omega), (hP t ht).2.2.1]
            have e79 : ∀ i x : Int32, r_X11_hasItems G L (nI u) i x = hiS i x (P.2.1 u) := fun i x => by unfold r_X11_hasItems hiS; rw [nI_clamp (by omega), (hP u hu).2.2.1]
            refine ax_aload_n (i := 0) dX11_shift_59 rfl rfl ?_
            refine ax_iload_n (i := 1) dX11_shift_60 rfl rfl ?_
            refine ax_iload_n (i := 2) dX11_shift_61 rfl rfl ?_
            refine ax_iload dX11_shift_62 rfl ?_
            refine ax_cVv dX11_shift_64 lk_X11_297 (c_X11_hasItems hZ _ _ _ (by rw [nI_clamp (by omega)]) (by rw [nI_clamp (by omega)]; exact ht)) rfl (OKs hZ rfl) ⟨_, rfl, rfl⟩ rfl (Nat.le_of_ble_eq_true rfl) (Nat.le_of_ble_eq_true rfl) (Nat.le_of_ble_eq_true rfl) (Nat.le_of_ble_eq_true rfl) ?_
            refine ax_top (congrArg Value.int (e67 i x)) ?_
            refine ax_if_eq (tgt := 82) dX11_shift_67 (by decide) (fun c_67 => ?_) (fun c_67 => ?_)
            · have c6 := c_67
              refine ax_bipush (v := (-13)) dX11_shift_82 (by decide) ?_
              refine ax_iret dX11_shift_84 rfl rfl (Nat.le_of_ble_eq_true rfl) (Nat.le_of_ble_eq_true rfl) ?_
              have e9 : shA P (nI t) i (nI u) j x = (-13, P) := by unfold shA; rw [if_neg c_5, if_neg c_13, nI_clamp (by omega), nI_clamp (by omega)]; unfold shR; rw [if_neg c_25, if_neg c_35, if_pos c_53, if_pos c6]
              rw [e9]
              exact ⟨rfl, PV_same hP⟩
            · refine ax_aload_n (i := 0) dX11_shift_70 rfl rfl ?_
              refine ax_iload_n (i := 3) dX11_shift_71 rfl rfl ?_
              refine ax_iload dX11_shift_72 rfl ?_
              refine ax_iload dX11_shift_74 rfl ?_
              refine ax_cVv dX11_shift_76 lk_X11_297 (c_X11_hasItems hZ _ _ _ (by rw [nI_clamp (by omega)]) (by rw [nI_clamp (by omega)]; exact hu)) rfl (OKs hZ rfl) ⟨_, rfl, rfl⟩ rfl (Nat.le_of_ble_eq_true rfl) (Nat.le_of_ble_eq_true rfl) (Nat.le_of_ble_eq_true rfl) (Nat.le_of_ble_eq_true rfl) ?_
              refine ax_top (congrArg Value.int (e79 j x)) ?_
              refine ax_if_ne (tgt := 85) dX11_shift_79 (by decide) (fun c_79 => ?_) (fun c_79 => ?_)
              · have c6 := c_67
                have c7 := c_79
                have hl1 := (hP t ht).2.2.2.1
                have hl2 := (hP u hu).2.2.2.1
                obtain ⟨i', x', rfl, rfl, hix⟩ := hiS_n hl1 c6
                obtain ⟨j', x2, rfl, ex2, hjx⟩ := hiS_n hl2 c7
                obtain rfl : x' = x2 := (nI_eq (by omega) (by omega)).mp ex2
                refine ax_aload_n (i := 0) dX11_shift_85 rfl rfl ?_
                refine ax_getR dX11_shift_86 fl_X11_50 rfl (OKs hZ rfl) (OKr hZ rfl) ?_
                refine ax_iload_n (i := 1) dX11_shift_89 rfl rfl ?_
                refine ax_aaldN t (t0 := 6) dX11_shift_90 (OKs hZ rfl) rfl (fun _ => rfl) rfl ht (by decide) (Trf hZ ht) ?_
                refine ax_iload_n (i := 2) dX11_shift_91 rfl rfl ?_
                refine ax_aload_n (i := 0) dX11_shift_92 rfl rfl ?_
                refine ax_getR dX11_shift_93 fl_X11_50 rfl (OKs hZ rfl) (OKr hZ rfl) ?_
                refine ax_iload_n (i := 3) dX11_shift_96 rfl rfl ?_
                refine ax_aaldN u (t0 := 6) dX11_shift_97 (OKs hZ rfl) rfl (fun _ => rfl) rfl hu (by decide) (Trf hZ hu) ?_
                refine ax_iload dX11_shift_98 rfl ?_
                refine ax_iload dX11_shift_100 rfl ?_
                refine ax_copyL dX11_shift_102 lc_X11_300 (Trow hZ ht) (Trow hZ hu) (nI_pos (by omega)) (nI_pos (by omega)) (nI_pos (by omega)) (by rw [nI_clamp (by omega), nI_clamp (by omega)]; omega) (by rw [nI_clamp (by omega), nI_clamp (by omega)]; omega) (by decide) (Nat.le_of_ble_eq_true rfl) ?_
                rw [nI_clamp (show i' < 2 ^ 31 by omega), nI_clamp (show j' < 2 ^ 31 by omega), nI_clamp (show x' < 2 ^ 31 by omega)]
                refine ax_iload dX11_shift_105 rfl ?_
                refine ax_iret dX11_shift_107 rfl rfl (Nat.le_of_ble_eq_true rfl) (Nat.le_of_ble_eq_true rfl) ?_
                have e9 : shA P (nI t) (nI i') (nI u) (nI j') (nI x') = (nI x', cpP P t u i' j' x') := by unfold shA; rw [if_neg c_5, if_neg c_13, nI_clamp (by omega), nI_clamp (by omega)]; unfold shR; rw [if_neg c_25, if_neg c_35, if_pos c_53, if_neg c6, if_neg c7, nI_clamp (by omega), nI_clamp (by omega), nI_clamp (by omega)]
                rw [e9]
                exact ⟨rfl, pv_cp hP ht hu (by omega) (by omega)⟩
              · have c6 := c_67
                have c7 := c_79
                refine ax_bipush (v := (-13)) dX11_shift_82 (by decide) ?_
                refine ax_iret dX11_shift_84 rfl rfl (Nat.le_of_ble_eq_true rfl) (Nat.le_of_ble_eq_true rfl) ?_
                have e9 : shA P (nI t) i (nI u) j x = (-13, P) := by unfold shA; rw [if_neg c_5, if_neg c_13, nI_clamp (by omega), nI_clamp (by omega)]; unfold shR; rw [if_neg c_25, if_neg c_35, if_pos c_53, if_neg c6, if_pos c7]
                rw [e9]
                exact ⟨rfl, PV_same hP⟩
          · refine ax_bipush (v := (-12)) dX11_shift_56 (by decide) ?_
            refine ax_iret dX11_shift_58 rfl rfl (Nat.le_of_ble_eq_true rfl) (Nat.le_of_ble_eq_true rfl) ?_
            have e9 : shA P (nI t) i (nI u) j x = (-12, P) := by unfold shA; rw [if_neg c_5, if_neg c_13, nI_clamp (by omega), nI_clamp (by omega)]; unfold shR; rw [if_neg c_25, if_neg c_35, if_neg c_53]
            rw [e9]
            exact ⟨rfl, PV_same hP⟩
        · refine ax_bipush (v := (-11)) dX11_shift_38 (by decide) ?_
          refine ax_iret dX11_shift_40 rfl rfl (Nat.le_of_ble_eq_true rfl) (Nat.le_of_ble_eq_true rfl) ?_
          have e9 : shA P (nI t) i (nI u) j x = (-11, P) := by unfold shA; rw [if_neg c_5, if_neg c_13, nI_clamp (by omega), nI_clamp (by omega)]; unfold shR; rw [if_neg c_25, if_pos c_35]
          rw [e9]
          exact ⟨rfl, PV_same hP⟩
    · refine ax_iconst (v := (-1)) dX11_shift_16 (by decide) ?_
      refine ax_iret dX11_shift_17 rfl rfl (Nat.le_of_ble_eq_true rfl) (Nat.le_of_ble_eq_true rfl) ?_
      have e9 : shA P (nI t) i b j x = (-1, P) := by unfold shA; rw [if_neg c_5, if_pos c_13]
      rw [e9]
      exact ⟨rfl, PV_same hP⟩
theorem x_shift {Z : Zt} {G : Gt} {L : Lt} {W : Wv} {H : Hv} {I : Option (Wv × Hv)} {T : Nat × (Nat → Nat)} {R : Nat × (Nat → Int32)} {P : Pt9} {n9 : Nat} (h : IC Z G L W H I T R P n9) (a i b j x : Int32) : AC mX11_shift 2 0 0 [.ref 0, .int a, .int i, .int b, .int j, .int x] Z G L (RP (.int (shA P a i b j x).1) (IQ G L W H I T R (shA P a i b j x).2 n9)) := by
  obtain ⟨hZ, -, -, -, -, -, hP, -⟩ := id h
  exact w_PV h (k_shift hZ hP a i b j x)
