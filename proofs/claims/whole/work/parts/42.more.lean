-- ===== the class, call by call =====
theorem grA_ok {W : Wv} (h : okW W) (a x : Int32) : okW (grA W a x).2 ∧ (grA W a x).2.m = W.m ∧ (grA W a x).2.mm = W.mm := by
  unfold grA
  by_cases c1 : wi a 0 3 = 0
  · rw [if_pos c1]; exact ⟨h, rfl, rfl⟩
  rw [if_neg c1]
  by_cases c2 : wi x 0 999 = 0
  · rw [if_pos c2]; exact ⟨h, rfl, rfl⟩
  rw [if_neg c2]
  refine ⟨⟨h.1, h.2.1, h.2.2.1, h.2.2.2.1, fun q hq => ?_⟩, rfl, rfl⟩
  show ∃ g, g ≤ 999 ∧ up1 W.gr a.toNatClampNeg x q = nI g
  obtain ⟨g, hg, rfl⟩ := wi_n (k := 999) (by decide) c2
  by_cases e : q = a.toNatClampNeg
  · rw [e, up1_s]; exact ⟨g, hg, rfl⟩
  · rw [up1_n e]; exact h.2.2.2.2 q hq
theorem raA_ok {W : Wv} (h : okW W) (a x : Int32) : okW (raA W a x).2 ∧ (raA W a x).2.m = W.m ∧ (raA W a x).2.mm = W.mm := by
  unfold raA
  by_cases c1 : wi a 0 3 = 0
  · rw [if_pos c1]; exact ⟨h, rfl, rfl⟩
  rw [if_neg c1]
  by_cases c2 : wi x 0 9 = 0
  · rw [if_pos c2]; exact ⟨h, rfl, rfl⟩
  rw [if_neg c2]
  exact ⟨rnV_ok h, rfl, rfl⟩
theorem seA_ok {W : Wv} (h : okW W) (a b x : Int32) : okW (seA W a b x).2 ∧ (seA W a b x).2.m = W.m ∧ (seA W a b x).2.mm = W.mm := by
  unfold seA
  by_cases c1 : wi a 0 (nI W.m - 1) = 0
  · rw [if_pos c1]; exact ⟨h, rfl, rfl⟩
  rw [if_neg c1]
  by_cases c2 : wi b 0 2 = 0
  · rw [if_pos c2]; exact ⟨h, rfl, rfl⟩
  rw [if_neg c2]
  unfold seR
  by_cases c3 : b = 0
  · rw [if_pos c3]
    by_cases c4 : wi x 0 20 = 0
    · rw [if_pos c4]; exact ⟨h, rfl, rfl⟩
    · rw [if_neg c4]; exact ⟨setV_ok h (fun e => absurd e (by decide)) (fun e => absurd e (by decide)), rfl, rfl⟩
  rw [if_neg c3]
  by_cases c5 : b = 1
  · rw [if_pos c5]
    by_cases c4 : wi x 0 99 = 0
    · rw [if_pos c4]; exact ⟨h, rfl, rfl⟩
    · rw [if_neg c4]; exact ⟨setV_ok h (fun e => absurd e (by decide)) (fun e => absurd e (by decide)), rfl, rfl⟩
  rw [if_neg c5]
  by_cases c4 : wi x 0 3 = 0
  · rw [if_pos c4]; exact ⟨h, rfl, rfl⟩
  · rw [if_neg c4]
    obtain ⟨g, hg, rfl⟩ := wi_n (k := 3) (by decide) c4
    exact ⟨setV_ok h (fun e => absurd e (by decide)) (fun _ => ⟨g, by omega, rfl⟩), rfl, rfl⟩
theorem roA_ok {W : Wv} (h : okW W) (a b x : Int32) : okW (roA W a b x).2 ∧ (roA W a b x).2.m = W.m ∧ (roA W a b x).2.mm = W.mm := by
  unfold roA
  by_cases c1 : wi a 0 (nI W.m - 1) = 0
  · rw [if_pos c1]; exact ⟨h, rfl, rfl⟩
  rw [if_neg c1]
  by_cases c2 : wi b 0 3 = 0
  · rw [if_pos c2]; exact ⟨h, rfl, rfl⟩
  rw [if_neg c2]
  by_cases c3 : wi x 0 9 = 0
  · rw [if_pos c3]; exact ⟨h, rfl, rfl⟩
  rw [if_neg c3]
  by_cases c4 : W.C a.toNatClampNeg 0 = 6
  · rw [if_pos c4]; exact ⟨setV_ok h (fun e => absurd e (by omega)) (fun e => absurd e (by omega)), rfl, rfl⟩
  · rw [if_neg c4]; exact ⟨h, rfl, rfl⟩
theorem paA_ok {W : Wv} (h : okW W) (h9 : W.mm ≤ 9999) (a : Int32) : okW (paA W a).2 ∧ (paA W a).2.m = W.m ∧ (paA W a).2.mm ≤ 9999 := by
  unfold paA
  by_cases c1 : wi a 0 60 = 0
  · rw [if_pos c1]; exact ⟨h, rfl, h9⟩
  rw [if_neg c1]
  obtain ⟨q, hq, rfl⟩ := wi_n (k := 60) (by decide) c1
  rw [nI_add]
  by_cases c2 : nI (W.mm + q) ≤ 9999
  · rw [if_pos c2]
    have := (nI_leI (by omega) (by decide)).mp (show nI (W.mm + q) ≤ nI 9999 from c2)
    rw [nI_clamp (by omega)]
    exact ⟨minVN_ok q h (by omega), minVN_m q W, by rw [minVN_mm]; exact this⟩
  · rw [if_neg c2]; exact ⟨h, rfl, h9⟩
theorem liA_ok {W : Wv} (h : okW W) (a : Int32) : okW (liA W a).2 ∧ (liA W a).2.m = W.m ∧ (liA W a).2.mm = W.mm := by
  unfold liA
  by_cases c1 : wi a 0 (nI W.m - 1) = 0
  · rw [if_pos c1]; exact ⟨h, rfl, rfl⟩
  rw [if_neg c1]
  obtain ⟨p, hp, rfl⟩ := has_p h.1 c1
  rw [nI_clamp (by have := h.1; omega)]
  by_cases c2 : W.C p 5 = 0
  · rw [if_pos c2]; exact ⟨litV_ok h hp, rfl, rfl⟩
  · rw [if_neg c2]; exact ⟨h, rfl, rfl⟩
theorem nwA_ok {W : Wv} (h : okW W) (a b c d : Int32) : okW (nwA W a b c d).2 ∧ W.m ≤ (nwA W a b c d).2.m ∧ (nwA W a b c d).2.mm = W.mm := by
  unfold nwA
  by_cases c1 : wi a 0 6 = 0
  · rw [if_pos c1]; exact ⟨h, Nat.le_refl _, rfl⟩
  rw [if_neg c1]
  by_cases c2 : wi d 0 3 = 0
  · rw [if_pos c2]; exact ⟨h, Nat.le_refl _, rfl⟩
  rw [if_neg c2]
  by_cases c3 : wi b 0 9 = 0
  · rw [if_pos c3]; exact ⟨h, Nat.le_refl _, rfl⟩
  rw [if_neg c3]
  by_cases c4 : wi c 0 20 = 0
  · rw [if_pos c4]; exact ⟨h, Nat.le_refl _, rfl⟩
  rw [if_neg c4]
  by_cases c5 : nI W.m < 6
  · rw [if_pos c5]
    obtain ⟨ka, hka, rfl⟩ := wi_n (k := 6) (by decide) c1
    obtain ⟨kd, hkd, rfl⟩ := wi_n (k := 3) (by decide) c2
    have hm6 := h.1
    have := (nI_ltI (by omega) (by decide)).mp (show nI W.m < nI 6 from c5)
    refine ⟨⟨by show W.m + 1 ≤ 6; omega, h.2.1, fun p hp => ?_, fun p hp => ?_, h.2.2.2.2⟩, Nat.le_succ _, rfl⟩
    · have hp : p < W.m + 1 := hp
      show ∃ k, k < 7 ∧ (if p = W.m then nI ka else W.C p 0) = nI k
      by_cases e : p = W.m
      · rw [if_pos e]; exact ⟨ka, by omega, rfl⟩
      · rw [if_neg e]; exact h.2.2.1 p (by omega)
    · have hp : p < W.m + 1 := hp
      show ∃ k, k < 4 ∧ (if p = W.m then nI kd else W.C p 3) = nI k
      by_cases e : p = W.m
      · rw [if_pos e]; exact ⟨kd, by omega, rfl⟩
      · rw [if_neg e]; exact h.2.2.2.1 p (by omega)
  · rw [if_neg c5]; exact ⟨h, Nat.le_refl _, rfl⟩
theorem x_of {Z : Zt} {G : Gt} {L : Lt} {W : Wv} {H : Hv} {I : Option (Wv × Hv)} {T : Nat × (Nat → Nat)} {R : Nat × (Nat → Int32)} {P : Pt9} {n9 : Nat} (h : IC Z G L W H I T R P n9) (a b : Int32) : AC mX11_of 8 0 0 [.ref 0, .int a, .int b] Z G L (RP (.int (ofV W H a b)) (IQ G L W H I T R P n9)) := by
  obtain ⟨hZ, ⟨hv, ho, h9⟩, ⟨hH, hh⟩, -⟩ := id h
  exact w_TP h (c_of hZ hv ho hH hh (by omega) a b)
theorem x_on {Z : Zt} {G : Gt} {L : Lt} {W : Wv} {H : Hv} {I : Option (Wv × Hv)} {T : Nat × (Nat → Nat)} {R : Nat × (Nat → Int32)} {P : Pt9} {n9 : Nat} (h : IC Z G L W H I T R P n9) (a b : Int32) : AC mX11_on 6 0 0 [.ref 0, .int a, .int b] Z G L (RP (.int (onV W a b)) (IQ G L W H I T R P n9)) := by
  obtain ⟨hZ, ⟨hv, ho, h9⟩, ⟨hH, hh⟩, -⟩ := id h
  exact w_TP h (c_on hZ hv ho (by omega) a b)
theorem x_told {Z : Zt} {G : Gt} {L : Lt} {W : Wv} {H : Hv} {I : Option (Wv × Hv)} {T : Nat × (Nat → Nat)} {R : Nat × (Nat → Int32)} {P : Pt9} {n9 : Nat} (h : IC Z G L W H I T R P n9) (a : Int32) : AC mX11_told 8 0 0 [.ref 0, .int a] Z G L (RP (.int (toldV W a)) (IQ G L W H I T R P n9)) := by
  obtain ⟨hZ, ⟨hv, ho, h9⟩, ⟨hH, hh⟩, -⟩ := id h
  exact w_TP h (c_told hZ hv ho a)
theorem x_best {Z : Zt} {G : Gt} {L : Lt} {W : Wv} {H : Hv} {I : Option (Wv × Hv)} {T : Nat × (Nat → Nat)} {R : Nat × (Nat → Int32)} {P : Pt9} {n9 : Nat} (h : IC Z G L W H I T R P n9) (a b : Int32) : AC mX11_best 9 0 0 [.ref 0, .int a, .int b] Z G L (RP (.int (besV W a b)) (IQ G L W H I T R P n9)) := by
  obtain ⟨hZ, ⟨hv, ho, h9⟩, ⟨hH, hh⟩, -⟩ := id h
  exact w_T6 h (c_best hZ hv ho (by omega) a b)
theorem x_wrong {Z : Zt} {G : Gt} {L : Lt} {W : Wv} {H : Hv} {I : Option (Wv × Hv)} {T : Nat × (Nat → Nat)} {R : Nat × (Nat → Int32)} {P : Pt9} {n9 : Nat} (h : IC Z G L W H I T R P n9)  : AC mX11_wrong 6 0 0 [.ref 0] Z G L (RP (.int (fst0 (fun k => decide (¬ msV W H k 2 (W.C (H.k0 k) 2))) H.nk 0)) (IQ G L W H I T R P n9)) := by
  obtain ⟨hZ, ⟨hv, ho, h9⟩, ⟨hH, hh⟩, -⟩ := id h
  exact w_TP h (c_wrong hZ hv ho hH hh (by omega))
theorem x_can {Z : Zt} {G : Gt} {L : Lt} {W : Wv} {H : Hv} {I : Option (Wv × Hv)} {T : Nat × (Nat → Nat)} {R : Nat × (Nat → Int32)} {P : Pt9} {n9 : Nat} (h : IC Z G L W H I T R P n9) (a b : Int32) : AC mX11_can 8 0 0 [.ref 0, .int a, .int b] Z G L (RP (.int (canV W H a b)) (IQ G L W H I T R P n9)) := by
  obtain ⟨hZ, ⟨hv, ho, h9⟩, ⟨hH, hh⟩, -⟩ := id h
  exact w_TP h (c_can hZ hv ho hH hh (by omega) a b)
theorem x_odds {Z : Zt} {G : Gt} {L : Lt} {W : Wv} {H : Hv} {I : Option (Wv × Hv)} {T : Nat × (Nat → Nat)} {R : Nat × (Nat → Int32)} {P : Pt9} {n9 : Nat} (h : IC Z G L W H I T R P n9) (a b : Int32) : AC mX11_odds 5 0 0 [.ref 0, .int a, .int b] Z G L (RP (.long (oddV W a b)) (IQ G L W H I T R P n9)) := by
  obtain ⟨hZ, ⟨hv, ho, h9⟩, ⟨hH, hh⟩, -⟩ := id h
  exact w_TP h (c_odds hZ hv ho (by omega) a b)
theorem x_mean {Z : Zt} {G : Gt} {L : Lt} {W : Wv} {H : Hv} {I : Option (Wv × Hv)} {T : Nat × (Nat → Nat)} {R : Nat × (Nat → Int32)} {P : Pt9} {n9 : Nat} (h : IC Z G L W H I T R P n9) (a : Int32) : AC mX11_mean 2 0 0 [.ref 0, .int a] Z G L (RP (.long (meaV W a)) (IQ G L W H I T R P n9)) := by
  obtain ⟨hZ, ⟨hv, ho, h9⟩, ⟨hH, hh⟩, -⟩ := id h
  exact w_TP h (c_mean hZ hv ho a)
theorem x_ends {Z : Zt} {G : Gt} {L : Lt} {W : Wv} {H : Hv} {I : Option (Wv × Hv)} {T : Nat × (Nat → Nat)} {R : Nat × (Nat → Int32)} {P : Pt9} {n9 : Nat} (h : IC Z G L W H I T R P n9) (a : Int32) : AC mX11_ends 7 0 0 [.ref 0, .int a] Z G L (RP (.int (endV W H a)) (IQ G L W H I T R P n9)) := by
  obtain ⟨hZ, ⟨hv, ho, h9⟩, ⟨hH, hh⟩, -⟩ := id h
  exact w_TP h (c_ends hZ hv ho hH hh (by omega) a)
theorem x_grieve {Z : Zt} {G : Gt} {L : Lt} {W : Wv} {H : Hv} {I : Option (Wv × Hv)} {T : Nat × (Nat → Nat)} {R : Nat × (Nat → Int32)} {P : Pt9} {n9 : Nat} (h : IC Z G L W H I T R P n9) (a x : Int32) : AC mX11_grieve 2 0 0 [.ref 0, .int a, .int x] Z G L (RP (.int (grA W a x).1) (IQ G L (grA W a x).2 H I T R P n9)) := by
  obtain ⟨hZ, ⟨hv, ho, h9⟩, ⟨hH, hh⟩, -⟩ := id h
  obtain ⟨o1, o2, o3⟩ := grA_ok ho a x
  exact w_MV h o1 (by omega) (okH_mono hh (by omega)) (k_grieve hZ hv ho a x)
theorem x_rain {Z : Zt} {G : Gt} {L : Lt} {W : Wv} {H : Hv} {I : Option (Wv × Hv)} {T : Nat × (Nat → Nat)} {R : Nat × (Nat → Int32)} {P : Pt9} {n9 : Nat} (h : IC Z G L W H I T R P n9) (a x : Int32) : AC mX11_rain 2 0 0 [.ref 0, .int a, .int x] Z G L (RP (.int (raA W a x).1) (IQ G L (raA W a x).2 H I T R P n9)) := by
  obtain ⟨hZ, ⟨hv, ho, h9⟩, ⟨hH, hh⟩, -⟩ := id h
  obtain ⟨o1, o2, o3⟩ := raA_ok ho a x
  exact w_MV h o1 (by omega) (okH_mono hh (by omega)) (k_rain hZ hv ho a x)
theorem x_set {Z : Zt} {G : Gt} {L : Lt} {W : Wv} {H : Hv} {I : Option (Wv × Hv)} {T : Nat × (Nat → Nat)} {R : Nat × (Nat → Int32)} {P : Pt9} {n9 : Nat} (h : IC Z G L W H I T R P n9) (a b x : Int32) : AC mX11_set 3 0 0 [.ref 0, .int a, .int b, .int x] Z G L (RP (.int (seA W a b x).1) (IQ G L (seA W a b x).2 H I T R P n9)) := by
  obtain ⟨hZ, ⟨hv, ho, h9⟩, ⟨hH, hh⟩, -⟩ := id h
  obtain ⟨o1, o2, o3⟩ := seA_ok ho a b x
  exact w_MV h o1 (by omega) (okH_mono hh (by omega)) (k_set hZ hv ho a b x)
theorem x_row {Z : Zt} {G : Gt} {L : Lt} {W : Wv} {H : Hv} {I : Option (Wv × Hv)} {T : Nat × (Nat → Nat)} {R : Nat × (Nat → Int32)} {P : Pt9} {n9 : Nat} (h : IC Z G L W H I T R P n9) (a b x : Int32) : AC mX11_row 3 0 0 [.ref 0, .int a, .int b, .int x] Z G L (RP (.int (roA W a b x).1) (IQ G L (roA W a b x).2 H I T R P n9)) := by
  obtain ⟨hZ, ⟨hv, ho, h9⟩, ⟨hH, hh⟩, -⟩ := id h
  obtain ⟨o1, o2, o3⟩ := roA_ok ho a b x
  exact w_MV h o1 (by omega) (okH_mono hh (by omega)) (k_row hZ hv ho a b x)
theorem x_pass {Z : Zt} {G : Gt} {L : Lt} {W : Wv} {H : Hv} {I : Option (Wv × Hv)} {T : Nat × (Nat → Nat)} {R : Nat × (Nat → Int32)} {P : Pt9} {n9 : Nat} (h : IC Z G L W H I T R P n9) (a : Int32) : AC mX11_pass 4 0 0 [.ref 0, .int a] Z G L (RP (.int (paA W a).1) (IQ G L (paA W a).2 H I T R P n9)) := by
  obtain ⟨hZ, ⟨hv, ho, h9⟩, ⟨hH, hh⟩, -⟩ := id h
  obtain ⟨o1, o2, o3⟩ := paA_ok ho h9 a
  exact w_MV h o1 (by omega) (okH_mono hh (by omega)) (k_pass hZ hv ho (by omega) a)
theorem x_light {Z : Zt} {G : Gt} {L : Lt} {W : Wv} {H : Hv} {I : Option (Wv × Hv)} {T : Nat × (Nat → Nat)} {R : Nat × (Nat → Int32)} {P : Pt9} {n9 : Nat} (h : IC Z G L W H I T R P n9) (a : Int32) : AC mX11_light 6 0 0 [.ref 0, .int a] Z G L (RP (.int (liA W a).1) (IQ G L (liA W a).2 H I T R P n9)) := by
  obtain ⟨hZ, ⟨hv, ho, h9⟩, ⟨hH, hh⟩, -⟩ := id h
  obtain ⟨o1, o2, o3⟩ := liA_ok ho a
  exact w_MV h o1 (by omega) (okH_mono hh (by omega)) (k_light hZ hv ho a)
theorem x_rocket {Z : Zt} {G : Gt} {L : Lt} {W : Wv} {H : Hv} {I : Option (Wv × Hv)} {T : Nat × (Nat → Nat)} {R : Nat × (Nat → Int32)} {P : Pt9} {n9 : Nat} (h : IC Z G L W H I T R P n9) (a b c e : Int32) : AC mX11_rocket 3 0 0 [.ref 0, .int a, .int b, .int c, .int e] Z G L (RP (.int (nwA W a b c e).1) (IQ G L (nwA W a b c e).2 H I T R P n9)) := by
  obtain ⟨hZ, ⟨hv, ho, h9⟩, ⟨hH, hh⟩, -⟩ := id h
  obtain ⟨o1, o2, o3⟩ := nwA_ok ho a b c e
  exact w_MV h o1 (by omega) (okH_mono hh (by omega)) (k_rocket hZ hv ho a b c e)
theorem l_looked {Z : Zt} {G : Gt} {L : Lt} {Q : Qt} {W : Wv} (hZ : OK Z) (hv : vC Z G 24 W) (ho : okW W) {H : Hv} (hH : hC G 24 H) (hh : okH W.m H) : ∀ (r k : Nat), k + r = H.nb → Q (some (.int (fst0 (fun k => decide (¬ W.C (H.b0 k) 4 = H.b1 k)) r k))) Z G L → AX none mX11_looked 1 0 0 0 0 2 [(0, .ref 0), (1, .int (nI k))] [] Z G L Q := by
  have hm6 := ho.1
  have hk5 := hh.2.2.2.2.1
  intro r
  induction r with
  | zero =>
    intro k h1 hend
    refine ax_iload_n (i := 1) dX11_looked_2 rfl rfl ?_
    refine ax_aload_n (i := 0) dX11_looked_3 rfl rfl ?_
    refine ax_getR dX11_looked_4 fl_X11_14 rfl (OKs hZ rfl) (OKr hZ rfl) ?_
    refine ax_getI dX11_looked_7 fl_X11_234 rfl (OKs hZ rfl) ?_
    refine ax_top (congrArg Value.int hH.2.2.1) ?_
    refine ax_icmp_ge (tgt := 52) dX11_looked_10 (by decide) (fun c_10 => ?_) (fun c_10 => ?_)
    · refine ax_bipush (v := (-5)) dX11_looked_52 (by decide) ?_
      refine ax_iret dX11_looked_54 rfl rfl (Nat.le_of_ble_eq_true rfl) (Nat.le_of_ble_eq_true rfl) ?_
      exact hend
    · exact absurd (nI_le (by omega) (by omega)) c_10
  | succ r ih =>
    intro k h1 hend
    refine ax_iload_n (i := 1) dX11_looked_2 rfl rfl ?_
    refine ax_aload_n (i := 0) dX11_looked_3 rfl rfl ?_
    refine ax_getR dX11_looked_4 fl_X11_14 rfl (OKs hZ rfl) (OKr hZ rfl) ?_
    refine ax_getI dX11_looked_7 fl_X11_234 rfl (OKs hZ rfl) ?_
    refine ax_top (congrArg Value.int hH.2.2.1) ?_
    refine ax_icmp_ge (tgt := 52) dX11_looked_10 (by decide) (fun c_10 => ?_) (fun c_10 => ?_)
    · exact absurd ((nI_leI (by omega) (by omega)).mp c_10) (by omega)
    · refine ax_aload_n (i := 0) dX11_looked_13 rfl rfl ?_
      refine ax_getR dX11_looked_14 fl_X11_14 rfl (OKs hZ rfl) (OKr hZ rfl) ?_
      refine ax_getR dX11_looked_17 fl_X11_87 rfl (OKs hZ rfl) (OKr hZ rfl) ?_
      refine ax_aload_n (i := 0) dX11_looked_20 rfl rfl ?_
      refine ax_getR dX11_looked_21 fl_X11_14 rfl (OKs hZ rfl) (OKr hZ rfl) ?_
      refine ax_getR dX11_looked_24 fl_X11_237 rfl (OKs hZ rfl) (OKr hZ rfl) ?_
      refine ax_iload_n (i := 1) dX11_looked_27 rfl rfl ?_
      refine ax_ialdN k dX11_looked_28 (OKs hZ rfl) rfl (show k < 8 by omega) (by decide) ?_
      refine ax_top (congrArg Value.int (hH.2.2.2 k (by omega)).1) ?_
      refine ax_aaldN (H.b0 k) (t0 := 5) dX11_looked_29 (OKs hZ rfl) rfl (fun _ => rfl) rfl (show H.b0 k < 6 by have := hh.2.2.2.2.2 k (by omega); omega) (by decide) (Wrf (isW24 hZ) (show H.b0 k < 6 by have := hh.2.2.2.2.2 k (by omega); omega)) ?_
      refine ax_iconst (v := 4) dX11_looked_30 (by decide) ?_
      refine ax_ialdN 4 dX11_looked_31 (Wrow (isW24 hZ) (show H.b0 k < 6 by have := hh.2.2.2.2.2 k (by omega); omega)) rfl (by decide) (by decide) ?_
      refine ax_top (congrArg Value.int (hv.2.2.1 (H.b0 k) (hh.2.2.2.2.2 k (by omega)) 4 (by decide))) ?_
      refine ax_aload_n (i := 0) dX11_looked_32 rfl rfl ?_
      refine ax_getR dX11_looked_33 fl_X11_14 rfl (OKs hZ rfl) (OKr hZ rfl) ?_
      refine ax_getR dX11_looked_36 fl_X11_240 rfl (OKs hZ rfl) (OKr hZ rfl) ?_
      refine ax_iload_n (i := 1) dX11_looked_39 rfl rfl ?_
      refine ax_ialdN k dX11_looked_40 (OKs hZ rfl) rfl (show k < 8 by omega) (by decide) ?_
      refine ax_top (congrArg Value.int (hH.2.2.2 k (by omega)).2) ?_
      refine ax_icmp_eq (tgt := 46) dX11_looked_41 (by decide) (fun c_41 => ?_) (fun c_41 => ?_)
      · refine ax_iinc (v := (nI k) + 1) dX11_looked_46 rfl rfl (by decide) rfl ?_
        refine ax_goto (tgt := 2) dX11_looked_49 (by decide) ?_
        refine ax_lv [(0, .ref 0), (1, .int (nI (k + 1)))] ⟨rfl, sI (nI_1 k), trivial⟩ ?_
        refine ih (k + 1) (by omega) ?_
        exact cast (congrArg (fun z => Q (some (Value.int z)) Z G L) (by conv => lhs; rw [fst0, if_neg (by rw [decide_eq_true_iff, Decidable.not_not]; exact c_41)])) hend
      · refine ax_iload_n (i := 1) dX11_looked_44 rfl rfl ?_
        refine ax_iret dX11_looked_45 rfl rfl (Nat.le_of_ble_eq_true rfl) (Nat.le_of_ble_eq_true rfl) ?_
        exact cast (congrArg (fun z => Q (some (Value.int z)) _ _ _) (by rw [fst0, if_pos (decide_eq_true c_41)])) hend
theorem c_looked {Z : Zt} {G : Gt} {L : Lt} {W : Wv} (hZ : OK Z) (hv : vC Z G 24 W) (ho : okW W) {H : Hv} (hH : hC G 24 H) (hh : okH W.m H) : AC mX11_looked 1 0 0 [.ref 0] Z G L (RQ (.int (fst0 (fun k => decide (¬ W.C (H.b0 k) 4 = H.b1 k)) H.nb 0)) Z G L) := by
  refine AC.intro (by decide +kernel) (Nat.le_of_ble_eq_true rfl) ?_
  refine ax_lv [(0, .ref 0)] ⟨rfl, trivial⟩ ?_
  refine ax_iconst (v := 0) dX11_looked_0 (by decide) ?_
  refine ax_istore_n (i := 1) dX11_looked_1 rfl (by decide) rfl ?_
  refine ax_lv [(0, .ref 0), (1, .int (nI 0))] ⟨rfl, rfl, trivial⟩ ?_
  exact l_looked hZ hv ho hH hh H.nb 0 (by omega) ⟨rfl, rfl, rfl, rfl⟩
theorem x_looked {Z : Zt} {G : Gt} {L : Lt} {W : Wv} {H : Hv} {I : Option (Wv × Hv)} {T : Nat × (Nat → Nat)} {R : Nat × (Nat → Int32)} {P : Pt9} {n9 : Nat} (h : IC Z G L W H I T R P n9)  : AC mX11_looked 1 0 0 [.ref 0] Z G L (RP (.int (fst0 (fun k => decide (¬ W.C (H.b0 k) 4 = H.b1 k)) H.nb 0)) (IQ G L W H I T R P n9)) := by
  obtain ⟨hZ, ⟨hv, ho, h9⟩, ⟨hH, hh⟩, -⟩ := id h
  exact w_RQ h (c_looked hZ hv ho hH hh)
def tkV (k kind : Int32) : Nat → Int32 → Int32
  | 0, _ => -12
  | r + 1, u => if u < 0 then -12 else if u = k then kind else tkV k kind r (tAbove.getD u.toNatClampNeg 0)
def tkA (W : Wv) (a k : Int32) : Int32 := if wi k 0 6 = 0 then -2 else if wi a 0 (nI W.m - 1) = 0 then -11 else tkV k (W.C a.toNatClampNeg 0) 7 (W.C a.toNatClampNeg 0)
def abOK (u : Int32) : Prop := u = -1 ∨ ∃ j, j < 7 ∧ u = nI j
theorem ab_next {u : Int32} (h : abOK u) (h0 : ¬ u < 0) : vp_in u 7 ∧ abOK (tAbove.getD u.toNatClampNeg 0) := by
  rcases h with rfl | ⟨j, hj, rfl⟩
  · exact absurd (by decide) h0
  · rw [nI_clamp (by omega)]
    refine ⟨nI_in hj (by decide), ?_⟩
    have : ∀ j, j < 7 → (tAbove.getD j 0 = -1 ∨ ∃ i, i < 7 ∧ tAbove.getD j 0 = nI i) := by
      intro j hj
      rcases (show j = 0 ∨ j = 1 ∨ j = 2 ∨ j = 3 ∨ j = 4 ∨ j = 5 ∨ j = 6 by omega) with rfl | rfl | rfl | rfl | rfl | rfl | rfl
      · exact Or.inl rfl
      · exact Or.inr ⟨0, by decide, rfl⟩
      · exact Or.inr ⟨0, by decide, rfl⟩
      · exact Or.inr ⟨0, by decide, rfl⟩
      · exact Or.inr ⟨1, by decide, rfl⟩
      · exact Or.inr ⟨2, by decide, rfl⟩
      · exact Or.inr ⟨3, by decide, rfl⟩
    exact this j hj
