-- ===== the model: counts, tapes, taken, judge =====
theorem vM_keepT {G G' : Gt} {W : Wv} (h : vM G W) (h1 : ∀ a, 76 ≤ a → a < 92 → a ≠ 85 → G' a = G a) (h2 : ∀ i, i = 2 ∨ i = 10 ∨ i = 18 ∨ i = 17 ∨ i = 25 → G' 75 i = G 75 i) : vM G' W := by
  obtain ⟨a1, a2, a3, a4, a5, a6⟩ := h
  refine ⟨?_, ?_, fun p hp => ⟨fun i hi => ?_, fun i hi => ?_⟩, fun q hq => ?_, fun q hq => ?_, ?_⟩
  · rw [h2 2 (by decide)]; exact a1
  · rw [h2 10 (by decide)]; exact a2
  · rw [h1 (78 + i) (by omega) (by omega) (by omega)]; exact (a3 p hp).1 i hi
  · rw [h1 84 (by decide) (by decide) (by decide)]; exact (a3 p hp).2 i hi
  · rw [h1 76 (by decide) (by decide) (by decide)]; exact a4 q hq
  · rw [h1 77 (by decide) (by decide) (by decide)]; exact a5 q hq
  · rw [h2 18 (by decide)]; exact smV_keep (fun a x y => h1 a (by omega) y (by omega)) (h2 17 (by decide)) (h2 25 (by decide)) a6
theorem y_count {Z : Zt} {G : Gt} {L : Lt} {W : Wv} {H : Hv} {I : Option (Wv × Hv)} {T : Nat × (Nat → Nat)} {R : Nat × (Nat → Int32)} {P : Pt9} {n9 : Nat} (hZ : OK Z) (ok : okA W H I T R P n9) (h : IM G L W H I T R P n9) (a : Int32) : AC mX12_count 1 0 0 [.ref 75, .int a] Z G L (RP (.int (ctA W H T R n9 a)) (JQ Z G L W H I T R P n9)) := by
  obtain ⟨hv, hH, -, hT, hR, -, hN⟩ := id h
  have e : r_X12_count G L a = ctA W H T R n9 a := by
    unfold r_X12_count ctA
    rw [hv.1, hN.1, hH.1.1, hH.2.1.1, hH.2.2.1, hT.1, hR.1]
  rw [← e]
  exact w_JR h (c_X12_count hZ a)
theorem y_trace {Z : Zt} {G : Gt} {L : Lt} {W : Wv} {H : Hv} {I : Option (Wv × Hv)} {T : Nat × (Nat → Nat)} {R : Nat × (Nat → Int32)} {P : Pt9} {n9 : Nat} (hZ : OK Z) (ok : okA W H I T R P n9) (h : IM G L W H I T R P n9) (a : Int32) : AC mX12_trace 2 0 0 [.ref 75, .int a] Z G L (RP (.int (trA R a)) (JQ Z G L W H I T R P n9)) := by
  obtain ⟨hv, hH, -, hT, hR, -, hN⟩ := id h
  have r1 := ok.2.2.2.2.1
  obtain ⟨r2, r3⟩ := id hR
  have e : r_X12_trace G L a = trA R a := by
    have e20 : (if nI R.1 < 20 then nI R.1 else 20) = (if 20 < nI R.1 then 20 else nI R.1) := by
      by_cases q : nI R.1 < 20
      · have := (nI_ltI (by omega) (by decide)).mp (show nI R.1 < nI 20 from q)
        rw [if_pos q, if_neg (show ¬ (20 : Int32) < nI R.1 from nI_nlt (a := 20) (by omega) (by decide))]
      · have q' := mt (nI_ltI (by omega) (by decide)).mpr (show ¬ nI R.1 < nI 20 from q)
        rw [if_neg q]
        by_cases q2 : (20 : Int32) < nI R.1
        · rw [if_pos q2]
        · have := mt (nI_ltI (by decide) (by omega)).mpr (show ¬ nI 20 < nI R.1 from q2)
          rw [if_neg q2, show R.1 = 20 by omega]
          rfl
    unfold r_X12_trace trA
    rw [r2, e20]
    by_cases c1 : wi a 0 ((if 20 < nI R.1 then 20 else nI R.1) - 1) = 0
    · rw [if_pos c1, if_pos c1]
    rw [if_neg c1, if_neg c1]
    have h20 := tr_l2 ⟨R.1, r1, rfl⟩ c1
    refine r3 _ h20 ?_
    by_cases q : (20 : Int32) < nI R.1
    · have := (nI_ltI (by decide) (by omega)).mp (show nI 20 < nI R.1 from q); omega
    · rw [if_neg q] at c1
      exact has_l (m := R.1) (by omega) ⟨_, Nat.le_refl _, rfl⟩ c1
  rw [← e]
  exact w_JR h (c_X12_trace hZ ⟨R.1, r1, r2⟩ a)
theorem y_feed {Z : Zt} {G : Gt} {L : Lt} {W : Wv} {H : Hv} {I : Option (Wv × Hv)} {T : Nat × (Nat → Nat)} {R : Nat × (Nat → Int32)} {P : Pt9} {n9 : Nat} (hZ : OK Z) (ok : okA W H I T R P n9) (h : IM G L W H I T R P n9) (a : Int32) : AC mX12_feed 2 0 0 [.ref 75, .int a] Z G L (RP (.int (fdA T a).1) (JQ Z G L W H I (fdA T a).2 R P n9)) := by
  obtain ⟨hv, hH, b3, hT, b5, b6, b7⟩ := id h
  have t1 := ok.2.2.2.1.1
  refine AC.weaken (c_X12_feed hZ ⟨T.1, t1, hT.1⟩ a) ?_
  rintro r Z' G' L' ⟨rfl, rfl, rfl, rfl⟩
  unfold r_X12_feed g_X12_feed fdA
  simp only [up2_k (show (75 : Nat) ≠ 85 by decide), up2_s]
  rw [hT.1, nI_clamp (by omega), nI_1]
  by_cases c1 : wi a 0 127 = 0
  · simp only [if_pos c1]; exact ⟨rfl, JQ_same h⟩
  simp only [if_neg c1]
  by_cases c4 : nI T.1 = 100
  · simp only [if_pos c4, if_neg (show ¬ nI T.1 < 100 from (full_n (m := 100) t1 (by decide)).mp c4)]; exact ⟨rfl, JQ_same h⟩
  simp only [if_neg c4, if_pos (show nI T.1 < 100 from Decidable.not_not.mp (mt (full_n (m := 100) t1 (by decide)).mpr c4))]
  obtain ⟨k, hk, rfl⟩ := wi_n (k := 127) (by decide) c1
  rw [nI_clamp (show k < 2 ^ 31 by omega)]
  have g : ∀ x, x ≠ 85 → x ≠ 75 → up2 (up2 G 75 11 (nI (T.1 + 1))) 85 T.1 (nI k) x = G x := fun x h1 h2 => (up2_row h1).trans (up2_row h2)
  have g75 : ∀ i, i ≠ 11 → up2 (up2 G 75 11 (nI (T.1 + 1))) 85 T.1 (nI k) 75 i = G 75 i := fun i hi => (up2_k (by decide)).trans (up2_i hi)
  refine ⟨rfl, rfl, ⟨vM_keepT hv (fun x h1 h2 h3 => g x h3 (by omega)) (fun i hi => g75 i (by omega)), hM_keep hH (fun i hi => g75 i (by omega)) (fun x h1 h2 => g x (by omega) (by omega)), imI_keep b3 (g75 39 (by decide)) (g 101 (by decide) (by decide)) (fun x h1 h2 => g x (by omega) (by omega)) (g75 17 (by decide)) (g75 25 (by decide)), ⟨?_, fun i hi => ?_⟩, imR_keep b5 (g75 37 (by decide)) (g 100 (by decide) (by decide)), imP_keep b6 (g 105 (by decide) (by decide)) (g 106 (by decide) (by decide)) rfl, imN_keep b7 (g75 17 (by decide)) (g75 25 (by decide))⟩, fun x hx => ⟨g x (by omega) (by omega), rfl⟩⟩
  · rw [up2_k (by decide), up2_s]
  · have hi : i < T.1 + 1 := hi
    show _ = nI (up1 T.2 T.1 k i)
    by_cases e : i = T.1
    · rw [e, up2_s, up1_s]
    · rw [up2_i e, up1_n e, up2_k (by decide)]; exact hT.2 i (by omega)
theorem iP_s {P : Pt9} {t : Nat} (h : P.1 t = -1 ∨ ∃ s, s < 5 ∧ P.1 t = nI s) : 0 ≤ P.1 t ↔ ¬ P.1 t = -1 := by
  rcases h with e | ⟨s, hs, e⟩
  · rw [e]; exact ⟨fun z => absurd z (by decide), fun z => absurd rfl z⟩
  · rw [e]; exact ⟨fun _ => nI_m1 (by omega), fun _ => nI_le (a := 0) (by omega) (by omega)⟩
theorem imP_S {G : Gt} {L : Lt} {W : Wv} {H : Hv} {I : Option (Wv × Hv)} {T : Nat × (Nat → Nat)} {R : Nat × (Nat → Int32)} {P : Pt9} {n9 : Nat} (ok : okA W H I T R P n9) (hP : imP G L P) : ∀ t, t < 6 → cntOK 60 (G 106 t) := fun t ht => ⟨_, (ok.2.2.2.2.2.1 t ht).2.1, (hP t ht).2.1⟩
theorem y_read {Z : Zt} {G : Gt} {L : Lt} {W : Wv} {H : Hv} {I : Option (Wv × Hv)} {T : Nat × (Nat → Nat)} {R : Nat × (Nat → Int32)} {P : Pt9} {n9 : Nat} (hZ : OK Z) (ok : okA W H I T R P n9) (h : IM G L W H I T R P n9) (a b : Int32) : AC mX12_read 3 0 0 [.ref 75, .int a, .int b] Z G L (RP (.long (reA P a b)) (JQ Z G L W H I T R P n9)) := by
  have hP := h.2.2.2.2.2.1
  have oP := ok.2.2.2.2.2.1
  have e : r_X12_read G L a b = reA P a b := by
    unfold r_X12_read reA
    by_cases c1 : wi a 0 5 = 0
    · rw [if_pos c1, if_pos c1]
    rw [if_neg c1, if_neg c1]
    obtain ⟨t, ht5, rfl⟩ := wi_n (k := 5) (by decide) c1
    have ht : t < 6 := by omega
    obtain ⟨p1, p2, p3⟩ := hP t ht
    obtain ⟨o1, o2, o3⟩ := oP t ht
    rw [nI_clamp (by omega), p1, p2]
    by_cases c3 : wi b 0 (nI (P.2.1 t) - 1) = 0
    · rw [if_pos c3, if_pos c3]
      by_cases c2 : P.1 t < 0
      · rw [if_pos c2]
      · rw [if_neg c2]
    rw [if_neg c3, if_neg c3]
    have hb := has_l (m := P.2.1 t) (by omega) ⟨_, Nat.le_refl _, rfl⟩ c3
    have n1 : ¬ P.1 t = -1 := fun z => by have := o3 z; omega
    rw [if_neg (Int32.not_lt.mpr ((iP_s o1).mpr n1))]
    exact p3 _ (by omega)
  rw [← e]
  exact w_JR h (c_X12_read hZ (imP_S ok hP) a b)
theorem JQ_P {Z : Zt} {G : Gt} {L : Lt} {W : Wv} {H : Hv} {I : Option (Wv × Hv)} {T : Nat × (Nat → Nat)} {R : Nat × (Nat → Int32)} {P : Pt9} {n9 : Nat} {G' : Gt} {L' : Lt} {P' : Pt9} (h : IM G L W H I T R P n9) (f : ∀ x, x ≠ 105 → x ≠ 106 → G' x = G x) (g : ∀ x, x ≠ 107 → L' x = L x) (hP : imP G' L' P') : JQ Z G L W H I T R P' n9 Z G' L' := by
  obtain ⟨b1, b2, b3, b4, b5, b6, b7⟩ := h
  have e75 := f 75 (by decide) (by decide)
  exact ⟨rfl, ⟨vM_keep b1 (fun a x y => f a (by omega) (by omega)) (fun i _ => by rw [e75]), hM_keep b2 (fun i _ => by rw [e75]) (fun a x y => f a (by omega) (by omega)), imI_keep b3 (by rw [e75]) (f 101 (by decide) (by decide)) (fun a x y => f a (by omega) (by omega)) (by rw [e75]) (by rw [e75]), imT_keep b4 (by rw [e75]) (f 85 (by decide) (by decide)), imR_keep b5 (by rw [e75]) (f 100 (by decide) (by decide)), hP, imN_keep b7 (by rw [e75]) (by rw [e75])⟩, fun a ha => ⟨f a (by omega) (by omega), g a (by omega)⟩⟩
theorem y_item {Z : Zt} {G : Gt} {L : Lt} {W : Wv} {H : Hv} {I : Option (Wv × Hv)} {T : Nat × (Nat → Nat)} {R : Nat × (Nat → Int32)} {P : Pt9} {n9 : Nat} (hZ : OK Z) (ok : okA W H I T R P n9) (h : IM G L W H I T R P n9) (a b : Int32) (x : Int64) : AC mX12_item 3 0 0 [.ref 75, .int a, .int b, .long x] Z G L (RP (.int (itA P a b x).1) (JQ Z G L W H I T R (itA P a b x).2 n9)) := by
  have hP := h.2.2.2.2.2.1
  have oP := ok.2.2.2.2.2.1
  refine AC.weaken (c_X12_item hZ (imP_S ok hP) a b x) ?_
  rintro r Z' G' L' ⟨rfl, rfl, rfl, rfl⟩
  unfold r_X12_item l_X12_item itA
  by_cases c1 : wi a 0 5 = 0
  · simp only [if_pos c1]; exact ⟨rfl, JQ_same h⟩
  simp only [if_neg c1]
  obtain ⟨t, ht5, rfl⟩ := wi_n (k := 5) (by decide) c1
  have ht : t < 6 := by omega
  obtain ⟨p1, p2, p3⟩ := hP t ht
  obtain ⟨o1, o2, o3⟩ := oP t ht
  rw [nI_clamp (by omega), p1, p2]
  by_cases c2 : P.1 t = -1
  · simp only [if_pos c2, if_neg (fun z => (iP_s o1).mp z c2)]; exact ⟨rfl, JQ_same h⟩
  simp only [if_neg c2, if_pos ((iP_s o1).mpr c2)]
  by_cases c3 : wi b 0 (nI (P.2.1 t) - 1) = 0
  · simp only [if_pos c3]; exact ⟨rfl, JQ_same h⟩
  simp only [if_neg c3]
  have hb := has_l (m := P.2.1 t) (by omega) ⟨_, Nat.le_refl _, rfl⟩ c3
  refine ⟨rfl, JQ_P h (fun _ _ _ => rfl) (fun y hy => up2_row hy) (fun u hu => ?_)⟩
  obtain ⟨q1, q2, q3⟩ := hP u hu
  refine ⟨q1, q2, fun j hj => ?_⟩
  show up2 L 107 (60 * t + b.toNatClampNeg) _ 107 (60 * u + j) = up2 P.2.2 t b.toNatClampNeg (lowB (P.1 t) x) u j
  by_cases e : u = t
  · subst e
    by_cases f : j = b.toNatClampNeg
    · rw [f, up2_s, up2_s]; rfl
    · rw [up2_i (by omega), up2_i f]; exact q3 j hj
  · rw [up2_i (by omega), up2_k e]; exact q3 j hj
/-- the items of a tape are 0 so far -/
def NT (L0 : Lt) (t q : Nat) (L : Lt) : Prop := (∀ a, a ≠ 107 → L a = L0 a) ∧ ∀ i, L 107 i = if 60 * t ≤ i ∧ i < 60 * t + q then 0 else L0 107 i
theorem NT_0 {L : Lt} {t : Nat} : NT L t 0 L := ⟨fun _ _ => rfl, fun i => by rw [if_neg (by omega)]⟩
theorem NT_s {L0 L : Lt} {t q : Nat} (h : NT L0 t q L) : NT L0 t (q + 1) (up2 L 107 (60 * t + q) 0) := by
  refine ⟨fun a ha => (up2_row ha).trans (h.1 a ha), fun i => ?_⟩
  by_cases e : i = 60 * t + q
  · subst e; rw [up2_s, if_pos (by omega)]
  · rw [up2_i e, h.2 i]
    by_cases c : 60 * t ≤ i ∧ i < 60 * t + q
    · rw [if_pos c, if_pos (by omega)]
    · rw [if_neg c, if_neg (by omega)]
theorem l_tapeM {Z : Zt} {G : Gt} {L0 : Lt} {Q : Qt} (hZ : OK Z) {t : Nat} (ht : t < 6) (hend : ∀ L : Lt, NT L0 t 60 L → AX none mX12_tape 3 0 0 0 0 93 [] [] Z G L Q) : ∀ (r q : Nat), q ≤ 60 → 60 - q < r → ∀ L : Lt, NT L0 t q L → AX none mX12_tape 3 0 0 0 0 67 [(0, .ref 75), (1, .int (nI t)), (4, .int (nI q))] [] Z G L Q := by
  intro r
  induction r with
  | zero => intro q h1 h2; omega
  | succ r ih =>
    intro q h1 h2 L h
    refine ax_iload dX12_tape_67 rfl ?_
    refine ax_bipush (v := 60) dX12_tape_69 (by decide) ?_
    refine ax_icmp_ge (tgt := 93) dX12_tape_71 (by decide) (fun c_71 => ?_) (fun c_71 => ?_)
    · obtain rfl : q = 60 := by have := (nI_leI (by omega) (by omega)).mp (show nI 60 ≤ nI q from c_71); omega
      exact ax_lv [] trivial (hend L h)
    · have hqm : q < 60 := by have := mt (nI_leI (by omega) (by omega)).mpr (show ¬ nI 60 ≤ nI q from c_71); omega
      refine ax_aload_n (i := 0) dX12_tape_74 rfl rfl ?_
      refine ax_getR dX12_tape_75 fl_X12_106 rfl (OKs hZ rfl) (OKr hZ rfl) ?_
      refine ax_bipush (v := 60) dX12_tape_78 (by decide) ?_
      refine ax_iload_n (i := 1) dX12_tape_80 rfl rfl ?_
      refine ax_imul dX12_tape_81 ?_
      refine ax_iload dX12_tape_82 rfl ?_
      refine ax_iadd dX12_tape_84 ?_
      refine ax_lconst (v := 0) dX12_tape_85 (by decide) ?_
      refine ax_lastN (60 * t + q) dX12_tape_86 (OKs hZ rfl) (show 60 * nI t + nI q = nI (60 * t + q) by rw [show (60 : Int32) = nI 60 from rfl, pk_mul, nI_add]) (by omega) (by decide) ?_
      refine ax_iinc (v := (nI q) + 1) dX12_tape_87 rfl rfl (by decide) rfl ?_
      refine ax_goto (tgt := 67) dX12_tape_90 (by decide) ?_
      refine ax_lv [(0, .ref 75), (1, .int (nI t)), (4, .int (nI (q + 1)))] ⟨rfl, rfl, sI (nI_1 q), trivial⟩ ?_
      exact ih (q + 1) (by omega) (by omega) _ (NT_s h)
theorem wi14 {s : Int32} : wi s (-1) 4 = 0 ↔ s < -1 ∨ 4 < s := by
  rw [show wi s (-1) 4 = bi (¬ s < -1 ∧ ¬ 4 < s) from rfl, bi_eq]
  constructor
  · intro z
    by_cases c : s < -1
    · exact Or.inl c
    · exact Or.inr (Decidable.not_not.mp (fun d => z ⟨c, d⟩))
  · rintro (z | z) ⟨y1, y2⟩
    · exact y1 z
    · exact y2 z
theorem s_neg {s : Int32} (h1 : ¬ s < -1) : s < 0 ↔ s = -1 := by
  constructor
  · intro z
    have a1 := mt Int32.lt_iff_toInt_lt.mpr h1
    have a2 := Int32.lt_iff_toInt_lt.mp z
    have e1 : (-1 : Int32).toInt = -1 := rfl
    have e0 : (0 : Int32).toInt = 0 := rfl
    rw [e1] at a1
    rw [e0] at a2
    apply Int32.toInt_inj.mp
    rw [e1]
    omega
  · rintro rfl; decide
theorem tpA_bad {P : Pt9} {a s x : Int32} (h0 : ¬ wi a 0 5 = 0) (h : wi s (-1) 4 = 0) : tpA P a s x = (-2, P) := by
  unfold tpA
  rw [if_neg h0]
  by_cases c : s < -1
  · rw [if_pos c]
  · rw [if_neg c, if_pos ((wi14.mp h).resolve_left c)]
theorem y_tape {Z : Zt} {G : Gt} {L : Lt} {W : Wv} {H : Hv} {I : Option (Wv × Hv)} {T : Nat × (Nat → Nat)} {R : Nat × (Nat → Int32)} {P : Pt9} {n9 : Nat} (hZ : OK Z) (ok : okA W H I T R P n9) (h : IM G L W H I T R P n9) (a s x : Int32) : AC mX12_tape 3 0 0 [.ref 75, .int a, .int s, .int x] Z G L (RP (.int (tpA P a s x).1) (JQ Z G L W H I T R (tpA P a s x).2 n9)) := by
  have hP := h.2.2.2.2.2.1
  refine AC.intro (by decide +kernel) (Nat.le_of_ble_eq_true rfl) ?_
  refine ax_lv [(0, .ref 75), (1, .int a), (2, .int s), (3, .int x)] ⟨rfl, rfl, rfl, rfl, trivial⟩ ?_
  refine ax_iload_n (i := 1) dX12_tape_0 rfl rfl ?_
  refine ax_cSv dX12_tape_1 lk_X12_337 (c_X12_isTape a) rfl rfl (Nat.le_of_ble_eq_true rfl) (Nat.le_of_ble_eq_true rfl) (Nat.le_of_ble_eq_true rfl) (Nat.le_of_ble_eq_true rfl) ?_
  refine ax_if_ne (tgt := 9) dX12_tape_4 (by decide) (fun c_4 => ?_) (fun c_4 => ?_)
  · obtain ⟨t, ht5, rfl⟩ := wi_n (k := 5) (by decide) c_4
    have ht : t < 6 := by omega
    refine ax_iload_n (i := 2) dX12_tape_9 rfl rfl ?_
    refine ax_iconst (v := (-1)) dX12_tape_10 (by decide) ?_
    refine ax_iconst (v := 4) dX12_tape_11 (by decide) ?_
    refine ax_cSv dX12_tape_12 lk_X12_117 (c_X12_within s (-1) 4) rfl rfl (Nat.le_of_ble_eq_true rfl) (Nat.le_of_ble_eq_true rfl) (Nat.le_of_ble_eq_true rfl) (Nat.le_of_ble_eq_true rfl) ?_
    refine ax_if_eq (tgt := 28) dX12_tape_15 (by decide) (fun c_15 => ?_) (fun c_15 => ?_)
    · refine ax_bipush (v := (-2)) dX12_tape_28 (by decide) ?_
      refine ax_iret dX12_tape_30 rfl rfl (Nat.le_of_ble_eq_true rfl) (Nat.le_of_ble_eq_true rfl) ?_
      rw [tpA_bad c_4 c_15]
      exact ⟨rfl, JQ_same h⟩
    · refine ax_iload_n (i := 2) dX12_tape_18 rfl rfl ?_
      refine ax_if_lt (tgt := 31) dX12_tape_19 (by decide) (fun c_19 => ?_) (fun c_19 => ?_)
      · refine ax_iload_n (i := 2) dX12_tape_31 rfl rfl ?_
        refine ax_if_lt (tgt := 42) dX12_tape_32 (by decide) (fun c_32 => ?_) (fun c_32 => ?_)
        · refine ax_aload_n (i := 0) dX12_tape_42 rfl rfl ?_
          refine ax_getR dX12_tape_43 fl_X12_100 rfl (OKs hZ rfl) (OKr hZ rfl) ?_
          refine ax_iload_n (i := 1) dX12_tape_46 rfl rfl ?_
          refine ax_iload_n (i := 2) dX12_tape_47 rfl rfl ?_
          refine ax_iastN t dX12_tape_48 (OKs hZ rfl) rfl ht (by decide) ?_
          refine ax_aload_n (i := 0) dX12_tape_49 rfl rfl ?_
          refine ax_getR dX12_tape_50 fl_X12_103 rfl (OKs hZ rfl) (OKr hZ rfl) ?_
          refine ax_iload_n (i := 1) dX12_tape_53 rfl rfl ?_
          refine ax_iload_n (i := 2) dX12_tape_54 rfl rfl ?_
          refine ax_if_ge (tgt := 62) dX12_tape_55 (by decide) (fun c_55 => ?_) (fun c_55 => ?_)
          · exact absurd c_19 (Int32.not_lt.mpr c_55)
          · refine ax_iconst (v := 0) dX12_tape_58 (by decide) ?_
            refine ax_goto (tgt := 63) dX12_tape_59 (by decide) ?_
            refine ax_iastN t dX12_tape_63 (OKs hZ rfl) rfl ht (by decide) ?_
            refine ax_iconst (v := 0) dX12_tape_64 (by decide) ?_
            refine ax_istore dX12_tape_65 (by decide) rfl ?_
            have n1 : ¬ s < -1 := fun z => c_15 (wi14.mpr (Or.inl z))
            have n2 : ¬ 4 < s := fun z => c_15 (wi14.mpr (Or.inr z))
            have n3 : s = -1 := (s_neg n1).mp c_19
            have e9 : tpA P (nI t) s x = (1, setT P t s 0) := by unfold tpA; rw [if_neg c_4, if_neg n1, if_neg n2, if_pos n3, nI_clamp (by omega)]
            rw [e9]
            refine ax_lv [(0, .ref 75), (1, .int (nI t)), (4, .int (nI 0))] ⟨rfl, rfl, rfl, trivial⟩ ?_
            refine l_tapeM (L0 := L) hZ ht ?_ 61 0 (by omega) (by omega) L NT_0
            intro L9 h9
            refine ax_iconst (v := 1) dX12_tape_93 (by decide) ?_
            refine ax_iret dX12_tape_94 rfl rfl (Nat.le_of_ble_eq_true rfl) (Nat.le_of_ble_eq_true rfl) ?_
            refine ⟨rfl, JQ_P h (fun y h1 h2 => (up2_row h2).trans (up2_row h1)) h9.1 (fun u hu => ?_)⟩
            obtain ⟨q1, q2, q3⟩ := hP u hu
            show up2 (up2 G 105 t s) 106 t 0 105 u = up1 P.1 t s u ∧ up2 (up2 G 105 t s) 106 t 0 106 u = nI (up1 P.2.1 t 0 u) ∧ ∀ i, i < 60 → L9 107 (60 * u + i) = upr P.2.2 t (fun _ => 0) u i
            by_cases e : u = t
            · subst e
              rw [up1_s, up1_s, up2_s, up2_k (by decide), up2_s, upr_s]
              exact ⟨rfl, rfl, fun i hi => by rw [h9.2, if_pos (by omega)]⟩
            · rw [up1_n e, up1_n e, up2_i e, up2_i e, up2_i e, up2_i e, upr_n e]
              exact ⟨q1, q2, fun i hi => by rw [h9.2, if_neg (by omega)]; exact q3 i hi⟩
        · exact absurd c_19 c_32
      · refine ax_iload_n (i := 3) dX12_tape_22 rfl rfl ?_
        refine ax_bipush (v := 60) dX12_tape_23 (by decide) ?_
        refine ax_icmp_le (tgt := 31) dX12_tape_25 (by decide) (fun c_25 => ?_) (fun c_25 => ?_)
        · refine ax_iload_n (i := 2) dX12_tape_31 rfl rfl ?_
          refine ax_if_lt (tgt := 42) dX12_tape_32 (by decide) (fun c_32 => ?_) (fun c_32 => ?_)
          · exact absurd c_32 c_19
          · refine ax_iload_n (i := 3) dX12_tape_35 rfl rfl ?_
            refine ax_if_ge (tgt := 42) dX12_tape_36 (by decide) (fun c_36 => ?_) (fun c_36 => ?_)
            · refine ax_aload_n (i := 0) dX12_tape_42 rfl rfl ?_
              refine ax_getR dX12_tape_43 fl_X12_100 rfl (OKs hZ rfl) (OKr hZ rfl) ?_
              refine ax_iload_n (i := 1) dX12_tape_46 rfl rfl ?_
              refine ax_iload_n (i := 2) dX12_tape_47 rfl rfl ?_
              refine ax_iastN t dX12_tape_48 (OKs hZ rfl) rfl ht (by decide) ?_
              refine ax_aload_n (i := 0) dX12_tape_49 rfl rfl ?_
              refine ax_getR dX12_tape_50 fl_X12_103 rfl (OKs hZ rfl) (OKr hZ rfl) ?_
              refine ax_iload_n (i := 1) dX12_tape_53 rfl rfl ?_
              refine ax_iload_n (i := 2) dX12_tape_54 rfl rfl ?_
              refine ax_if_ge (tgt := 62) dX12_tape_55 (by decide) (fun c_55 => ?_) (fun c_55 => ?_)
              · refine ax_iload_n (i := 3) dX12_tape_62 rfl rfl ?_
                refine ax_iastN t dX12_tape_63 (OKs hZ rfl) rfl ht (by decide) ?_
                refine ax_iconst (v := 0) dX12_tape_64 (by decide) ?_
                refine ax_istore dX12_tape_65 (by decide) rfl ?_
                have n1 : ¬ s < -1 := fun z => c_15 (wi14.mpr (Or.inl z))
                have n2 : ¬ 4 < s := fun z => c_15 (wi14.mpr (Or.inr z))
                have n3 : ¬ s = -1 := fun z => c_19 ((s_neg n1).mpr z)
                obtain ⟨x9, hx9, rfl⟩ := nI_of (Int32.not_lt.mpr c_36)
                have hx60 := (nI_leI hx9 (by decide)).mp (show nI x9 ≤ nI 60 from c_25)
                have e9 : tpA P (nI t) s (nI x9) = (1, setT P t s x9) := by unfold tpA; rw [if_neg c_4, if_neg n1, if_neg n2, if_neg n3, if_pos c_25, if_pos c_36, nI_clamp (by omega), nI_clamp (by omega)]
                rw [e9]
                refine ax_lv [(0, .ref 75), (1, .int (nI t)), (4, .int (nI 0))] ⟨rfl, rfl, rfl, trivial⟩ ?_
                refine l_tapeM (L0 := L) hZ ht ?_ 61 0 (by omega) (by omega) L NT_0
                intro L9 h9
                refine ax_iconst (v := 1) dX12_tape_93 (by decide) ?_
                refine ax_iret dX12_tape_94 rfl rfl (Nat.le_of_ble_eq_true rfl) (Nat.le_of_ble_eq_true rfl) ?_
                refine ⟨rfl, JQ_P h (fun y h1 h2 => (up2_row h2).trans (up2_row h1)) h9.1 (fun u hu => ?_)⟩
                obtain ⟨q1, q2, q3⟩ := hP u hu
                show up2 (up2 G 105 t s) 106 t (nI x9) 105 u = up1 P.1 t s u ∧ up2 (up2 G 105 t s) 106 t (nI x9) 106 u = nI (up1 P.2.1 t x9 u) ∧ ∀ i, i < 60 → L9 107 (60 * u + i) = upr P.2.2 t (fun _ => 0) u i
                by_cases e : u = t
                · subst e
                  rw [up1_s, up1_s, up2_s, up2_k (by decide), up2_s, upr_s]
                  exact ⟨rfl, rfl, fun i hi => by rw [h9.2, if_pos (by omega)]⟩
                · rw [up1_n e, up1_n e, up2_i e, up2_i e, up2_i e, up2_i e, upr_n e]
                  exact ⟨q1, q2, fun i hi => by rw [h9.2, if_neg (by omega)]; exact q3 i hi⟩
              · exact absurd (Int32.not_lt.mp c_19) c_55
            · refine ax_bipush (v := (-14)) dX12_tape_39 (by decide) ?_
              refine ax_iret dX12_tape_41 rfl rfl (Nat.le_of_ble_eq_true rfl) (Nat.le_of_ble_eq_true rfl) ?_
              have n1 : ¬ s < -1 := fun z => c_15 (wi14.mpr (Or.inl z))
              have n2 : ¬ 4 < s := fun z => c_15 (wi14.mpr (Or.inr z))
              have n3 : ¬ s = -1 := fun z => c_19 ((s_neg n1).mpr z)
              have e9 : tpA P (nI t) s x = (-14, P) := by unfold tpA; rw [if_neg c_4, if_neg n1, if_neg n2, if_neg n3, if_pos c_25, if_neg c_36]
              rw [e9]
              exact ⟨rfl, JQ_same h⟩
        · refine ax_bipush (v := (-2)) dX12_tape_28 (by decide) ?_
          refine ax_iret dX12_tape_30 rfl rfl (Nat.le_of_ble_eq_true rfl) (Nat.le_of_ble_eq_true rfl) ?_
          have n1 : ¬ s < -1 := fun z => c_15 (wi14.mpr (Or.inl z))
          have n2 : ¬ 4 < s := fun z => c_15 (wi14.mpr (Or.inr z))
          have n3 : ¬ s = -1 := fun z => c_19 ((s_neg n1).mpr z)
          have e9 : tpA P (nI t) s x = (-2, P) := by unfold tpA; rw [if_neg c_4, if_neg n1, if_neg n2, if_neg n3, if_neg c_25]
          rw [e9]
          exact ⟨rfl, JQ_same h⟩
  · refine ax_iconst (v := (-1)) dX12_tape_7 (by decide) ?_
    refine ax_iret dX12_tape_8 rfl rfl (Nat.le_of_ble_eq_true rfl) (Nat.le_of_ble_eq_true rfl) ?_
    have e9 : tpA P a s x = (-1, P) := by unfold tpA; rw [if_pos c_4]
    rw [e9]
    exact ⟨rfl, JQ_same h⟩
def tkM (k kind : Int32) : Nat → Int32 → Int32
  | 0, _ => -12
  | r + 1, u => if u = k then kind else if u ≤ 0 then -12 else tkM k kind r (if u = 4 then 1 else if u = 5 then 2 else if u = 6 then 3 else 0)
theorem tk_eq : ∀ k, k < 7 → ∀ u, u < 7 → tkV (nI k) (nI u) 7 (nI u) = tkM (nI k) (nI u) 5 (nI u) := by decide +kernel
def upOK (r : Nat) (u : Int32) : Prop := (1 ≤ r ∧ u = 0) ∨ (2 ≤ r ∧ (u = 1 ∨ u = 2 ∨ u = 3)) ∨ (3 ≤ r ∧ (u = 4 ∨ u = 5 ∨ u = 6))
theorem up_next {r : Nat} {u : Int32} (h : upOK (r + 1) u) (h0 : ¬ u ≤ 0) : upOK r (if u = 4 then 1 else if u = 5 then 2 else if u = 6 then 3 else 0) := by
  rcases h with ⟨_, rfl⟩ | ⟨h1, rfl | rfl | rfl⟩ | ⟨h1, rfl | rfl | rfl⟩
  · exact absurd (by decide) h0
  · exact Or.inl ⟨by omega, by decide⟩
  · exact Or.inl ⟨by omega, by decide⟩
  · exact Or.inl ⟨by omega, by decide⟩
  · exact Or.inr (Or.inl ⟨by omega, Or.inl (by decide)⟩)
  · exact Or.inr (Or.inl ⟨by omega, Or.inr (Or.inl (by decide))⟩)
  · exact Or.inr (Or.inl ⟨by omega, Or.inr (Or.inr (by decide))⟩)
theorem up_k {u : Nat} (h : u < 7) : upOK 5 (nI u) := by
  rcases (show u = 0 ∨ u = 1 ∨ u = 2 ∨ u = 3 ∨ u = 4 ∨ u = 5 ∨ u = 6 by omega) with rfl | rfl | rfl | rfl | rfl | rfl | rfl
  · exact Or.inl ⟨by decide, rfl⟩
  · exact Or.inr (Or.inl ⟨by decide, Or.inl rfl⟩)
  · exact Or.inr (Or.inl ⟨by decide, Or.inr (Or.inl rfl)⟩)
  · exact Or.inr (Or.inl ⟨by decide, Or.inr (Or.inr rfl)⟩)
  · exact Or.inr (Or.inr ⟨by decide, Or.inl rfl⟩)
  · exact Or.inr (Or.inr ⟨by decide, Or.inr (Or.inl rfl)⟩)
  · exact Or.inr (Or.inr ⟨by decide, Or.inr (Or.inr rfl)⟩)
theorem l_takenM {Z : Zt} {G : Gt} {L : Lt} (hZ : OK Z) (k kind x : Int32) (p : Nat) (hp6 : p < 6) (hkk : G 78 p = kind) : ∀ (r : Nat) (u : Int32), upOK r u → x = tkM k kind r u → AX none mX12_taken 3 0 0 0 0 31 [(0, .ref 75), (1, .int (nI p)), (2, .int k), (3, .int u)] [] Z G L (RQ (.int x) Z G L) := by
  intro r
  induction r with
  | zero =>
    intro u hu hend
    exfalso
    rcases hu with ⟨h, _⟩ | ⟨h, _⟩ | ⟨h, _⟩ <;> omega
  | succ r ih =>
    intro u hu hend
    refine ax_iload_n (i := 3) dX12_taken_31 rfl rfl ?_
    refine ax_iload_n (i := 2) dX12_taken_32 rfl rfl ?_
    refine ax_icmp_eq (tgt := 48) dX12_taken_33 (by decide) (fun c_33 => ?_) (fun c_33 => ?_)
    · refine ax_iload_n (i := 3) dX12_taken_48 rfl rfl ?_
      refine ax_iload_n (i := 2) dX12_taken_49 rfl rfl ?_
      refine ax_icmp_ne (tgt := 62) dX12_taken_50 (by decide) (fun c_50 => ?_) (fun c_50 => ?_)
      · exact absurd c_33 c_50
      · refine ax_aload_n (i := 0) dX12_taken_53 rfl rfl ?_
        refine ax_getR dX12_taken_54 fl_X12_18 rfl (OKs hZ rfl) (OKr hZ rfl) ?_
        refine ax_iload_n (i := 1) dX12_taken_57 rfl rfl ?_
        refine ax_ialdN p dX12_taken_58 (OKs hZ rfl) rfl hp6 (by decide) ?_
        refine ax_top (congrArg Value.int hkk) ?_
        refine ax_goto (tgt := 64) dX12_taken_59 (by decide) ?_
        refine ax_iret dX12_taken_64 rfl rfl (Nat.le_of_ble_eq_true rfl) (Nat.le_of_ble_eq_true rfl) ?_
        exact ⟨congrArg (fun z => some (Value.int z)) (hend.trans (by rw [tkM, if_pos c_33])).symm, rfl, rfl, rfl⟩
    · refine ax_iload_n (i := 3) dX12_taken_36 rfl rfl ?_
      refine ax_if_le (tgt := 48) dX12_taken_37 (by decide) (fun c_37 => ?_) (fun c_37 => ?_)
      · refine ax_iload_n (i := 3) dX12_taken_48 rfl rfl ?_
        refine ax_iload_n (i := 2) dX12_taken_49 rfl rfl ?_
        refine ax_icmp_ne (tgt := 62) dX12_taken_50 (by decide) (fun c_50 => ?_) (fun c_50 => ?_)
        · refine ax_bipush (v := (-12)) dX12_taken_62 (by decide) ?_
          refine ax_iret dX12_taken_64 rfl rfl (Nat.le_of_ble_eq_true rfl) (Nat.le_of_ble_eq_true rfl) ?_
          exact ⟨congrArg (fun z => some (Value.int z)) (hend.trans (by rw [tkM, if_neg c_33, if_pos c_37])).symm, rfl, rfl, rfl⟩
        · exact absurd c_50 c_33
      · refine ax_iload_n (i := 3) dX12_taken_40 rfl rfl ?_
        refine ax_cSv dX12_taken_41 lk_X12_328 (c_X12_above u) rfl rfl (Nat.le_of_ble_eq_true rfl) (Nat.le_of_ble_eq_true rfl) (Nat.le_of_ble_eq_true rfl) (Nat.le_of_ble_eq_true rfl) ?_
        refine ax_istore_n (i := 3) dX12_taken_44 rfl (by decide) rfl ?_
        refine ax_goto (tgt := 31) dX12_taken_45 (by decide) ?_
        refine ax_lv [(0, .ref 75), (1, .int (nI p)), (2, .int k), (3, .int (if u = 4 then 1 else if u = 5 then 2 else if u = 6 then 3 else 0))] ⟨rfl, rfl, rfl, rfl, trivial⟩ ?_
        exact ih _ (up_next hu c_37) (hend.trans (by rw [tkM, if_neg c_33, if_neg c_37]))
theorem k_takenM {Z : Zt} {G : Gt} {L : Lt} {W : Wv} (hZ : OK Z) (hv : vM G W) (ho : okW W) (a k : Int32) : AC mX12_taken 3 0 0 [.ref 75, .int a, .int k] Z G L (RQ (.int (tkA W a k)) Z G L) := by
  refine AC.intro (by decide +kernel) (Nat.le_of_ble_eq_true rfl) ?_
  refine ax_lv [(0, .ref 75), (1, .int a), (2, .int k)] ⟨rfl, rfl, rfl, trivial⟩ ?_
  refine ax_iload_n (i := 2) dX12_taken_0 rfl rfl ?_
  refine ax_iconst (v := 0) dX12_taken_1 (by decide) ?_
  refine ax_bipush (v := 6) dX12_taken_2 (by decide) ?_
  refine ax_cSv dX12_taken_4 lk_X12_117 (c_X12_within k 0 6) rfl rfl (Nat.le_of_ble_eq_true rfl) (Nat.le_of_ble_eq_true rfl) (Nat.le_of_ble_eq_true rfl) (Nat.le_of_ble_eq_true rfl) ?_
  refine ax_if_ne (tgt := 13) dX12_taken_7 (by decide) (fun c_7 => ?_) (fun c_7 => ?_)
  · refine ax_aload_n (i := 0) dX12_taken_13 rfl rfl ?_
    refine ax_iload_n (i := 1) dX12_taken_14 rfl rfl ?_
    refine ax_cVv dX12_taken_15 lk_X12_125 (c_X12_isOne hZ a) rfl (OKs hZ rfl) ⟨_, rfl, rfl⟩ rfl (Nat.le_of_ble_eq_true rfl) (Nat.le_of_ble_eq_true rfl) (Nat.le_of_ble_eq_true rfl) (Nat.le_of_ble_eq_true rfl) ?_
    refine ax_top (congrArg Value.int (show wi _ 0 (G 75 2 - 1) = wi _ 0 (nI W.m - 1) from by rw [hv.1])) ?_
    refine ax_if_ne (tgt := 24) dX12_taken_18 (by decide) (fun c_18 => ?_) (fun c_18 => ?_)
    · obtain ⟨p, hp, rfl⟩ := has_p ho.1 c_18
      have hp6 : p < 6 := by have := ho.1; omega
      obtain ⟨kk, hk7, hkk⟩ := ho.2.2.1 p hp
      obtain ⟨k9, hk9, rfl⟩ := wi_n (k := 6) (by decide) c_7
      refine ax_aload_n (i := 0) dX12_taken_24 rfl rfl ?_
      refine ax_getR dX12_taken_25 fl_X12_18 rfl (OKs hZ rfl) (OKr hZ rfl) ?_
      refine ax_iload_n (i := 1) dX12_taken_28 rfl rfl ?_
      refine ax_ialdN p dX12_taken_29 (OKs hZ rfl) rfl hp6 (by decide) ?_
      refine ax_top (congrArg Value.int ((show G 78 p = W.C p 0 from (hv.2.2.1 p hp).1 0 (by decide)).trans hkk)) ?_
      refine ax_istore_n (i := 3) dX12_taken_30 rfl (by decide) rfl ?_
      refine ax_lv [(0, .ref 75), (1, .int (nI p)), (2, .int (nI k9)), (3, .int (nI kk))] ⟨rfl, rfl, rfl, rfl, trivial⟩ ?_
      refine l_takenM hZ (nI k9) (nI kk) _ p hp6 ((show G 78 p = W.C p 0 from (hv.2.2.1 p hp).1 0 (by decide)).trans hkk) 5 (nI kk) (up_k hk7) ?_
      unfold tkA
      rw [if_neg c_7, if_neg c_18, nI_clamp (by omega), hkk]
      exact tk_eq k9 (by omega) kk hk7
    · refine ax_bipush (v := (-11)) dX12_taken_21 (by decide) ?_
      refine ax_iret dX12_taken_23 rfl rfl (Nat.le_of_ble_eq_true rfl) (Nat.le_of_ble_eq_true rfl) ?_
      exact rq (Eq.symm (by unfold tkA; rw [if_neg c_7, if_pos c_18]))
  · refine ax_bipush (v := (-2)) dX12_taken_10 (by decide) ?_
    refine ax_iret dX12_taken_12 rfl rfl (Nat.le_of_ble_eq_true rfl) (Nat.le_of_ble_eq_true rfl) ?_
    exact rq (Eq.symm (by unfold tkA; rw [if_pos c_7]))
theorem y_taken {Z : Zt} {G : Gt} {L : Lt} {W : Wv} {H : Hv} {I : Option (Wv × Hv)} {T : Nat × (Nat → Nat)} {R : Nat × (Nat → Int32)} {P : Pt9} {n9 : Nat} (hZ : OK Z) (ok : okA W H I T R P n9) (h : IM G L W H I T R P n9) (a k : Int32) : AC mX12_taken 3 0 0 [.ref 75, .int a, .int k] Z G L (RP (.int (tkA W a k)) (JQ Z G L W H I T R P n9)) := by
  obtain ⟨⟨ho, h9⟩, hh, -⟩ := id ok
  obtain ⟨hv, hH, -⟩ := id h
  exact w_JR h (k_takenM hZ hv ho a k)
theorem ju_key {i : Int32} {q m : Nat} (hq : q < 4) (hm : m ≤ 60) (hi : ¬ i < 0) : wi (i + nI q) 0 (nI m - 1) = 0 ↔ ¬ lg_cmp (i.toInt64 + (nI q).toInt64) (nI m).toInt64 < 0 := by
  obtain ⟨j, hj, rfl⟩ := nI_of hi
  rw [nI_l hj, nI_l (by omega), nI_l (by omega), lN_add]
  have hc : lg_cmp (lN (j + q)) (lN m) < 0 ↔ j + q < m := by
    rw [← pk_lLT (by omega) (by omega)]
    unfold lg_cmp
    by_cases c : lN (j + q) > lN m
    · rw [if_pos c]
      exact ⟨fun z => absurd z (by decide), fun z => absurd (Int64.lt_trans z c) (Int64.lt_irrefl)⟩
    · rw [if_neg c]
      by_cases d : lN (j + q) = lN m
      · rw [if_pos d]
        exact ⟨fun z => absurd z (by decide), fun z => absurd z (by rw [d]; exact Int64.lt_irrefl)⟩
      · rw [if_neg d]
        exact ⟨fun _ => Int64.lt_of_le_of_ne (Int64.not_lt.mp c) d, fun _ => by decide⟩
  rw [hc, nI_add]
  by_cases big : j + q < 2147483648
  · constructor
    · intro z y
      obtain ⟨m', rfl⟩ : ∃ m', m = m' + 1 := ⟨m - 1, by omega⟩
      rw [nI_pred] at z
      exact bi_eq.mp z ⟨nI_pos (by omega), nI_nlt (by omega) (by omega)⟩
    · intro y
      refine bi_f (fun z => y ?_)
      have z2 := Int32.le_iff_toInt_le.mp (Int32.not_lt.mp z.2)
      rw [nI_toInt (by omega), show nI m - 1 = nI m - nI 1 from rfl, pk_sub_toInt (by omega) (by decide)] at z2
      omega
  · constructor
    · intro _; omega
    · intro _
      refine bi_f (fun z => z.1 ?_)
      rw [Int32.lt_iff_toInt_lt]
      show (nI (j + q)).toInt < 0
      rw [← nI_add, Int32.toInt_add, nI_toInt (by omega), nI_toInt (by omega)]
      show ((j : Int) + q).bmod (2 ^ 32) < 0
      rw [Int.bmod_def]
      omega
theorem l_judgeM {Z : Zt} {G : Gt} {L : Lt} {W : Wv} (hZ : OK Z) (hv : vM G W) {P : Pt9} (hP : imP G L P) (t : Nat) (ht : t < 6) (hl : P.2.1 t ≤ 60) (hs : P.1 t = -1 → P.2.1 t = 0) (i x : Int32) : ∀ (r q : Nat), q + r = 4 → (q = 0 ∨ ¬ i < 0) → x = juV P W t i r q → AX none mX12_judge 2 0 0 0 0 36 [(0, .ref 75), (1, .int (nI t)), (2, .int i), (3, .int (nI q))] [] Z G L (RQ (.int x) Z G L) := by
  intro r
  induction r with
  | zero =>
    intro q h1 hq0 hend
    refine ax_iload_n (i := 3) dX12_judge_36 rfl rfl ?_
    refine ax_iconst (v := 4) dX12_judge_37 (by decide) ?_
    refine ax_icmp_ge (tgt := 108) dX12_judge_38 (by decide) (fun c_38 => ?_) (fun c_38 => ?_)
    · refine ax_bipush (v := (-5)) dX12_judge_108 (by decide) ?_
      refine ax_iret dX12_judge_110 rfl rfl (Nat.le_of_ble_eq_true rfl) (Nat.le_of_ble_eq_true rfl) ?_
      exact ⟨congrArg (fun z => some (Value.int z)) hend.symm, rfl, rfl, rfl⟩
    · exact absurd (by rw [show q = 4 by omega]; decide) c_38
  | succ r ih =>
    intro q h1 hq0 hend
    have wneg : P.1 t = -1 → wi (i + nI q) 0 (nI (P.2.1 t) - 1) = 0 := fun z => by
      rw [hs z]
      refine bi_f (fun y => y.2 ?_)
      have y1 := i32_nn y.1
      rw [Int32.lt_iff_toInt_lt]
      have e1 : (nI 0 - 1).toInt = -1 := by decide
      rw [e1]
      omega
    have wlt0 : i < 0 → wi (i + nI q) 0 (nI (P.2.1 t) - 1) = 0 := fun z => by
      rcases hq0 with rfl | n
      · rw [show i + nI 0 = i from Int32.add_zero i]
        exact bi_f (fun y => y.1 z)
      · exact absurd z n
    refine ax_iload_n (i := 3) dX12_judge_36 rfl rfl ?_
    refine ax_iconst (v := 4) dX12_judge_37 (by decide) ?_
    refine ax_icmp_ge (tgt := 108) dX12_judge_38 (by decide) (fun c_38 => ?_) (fun c_38 => ?_)
    · exact absurd c_38 (nI_ge (show q < 4 by omega) (by decide))
    · refine ax_aload_n (i := 0) dX12_judge_41 rfl rfl ?_
      refine ax_getR dX12_judge_42 fl_X12_100 rfl (OKs hZ rfl) (OKr hZ rfl) ?_
      refine ax_iload_n (i := 1) dX12_judge_45 rfl rfl ?_
      refine ax_ialdN t dX12_judge_46 (OKs hZ rfl) rfl ht (by decide) ?_
      refine ax_top (congrArg Value.int (hP t ht).1) ?_
      refine ax_iconst (v := (-1)) dX12_judge_47 (by decide) ?_
      refine ax_icmp_eq (tgt := 71) dX12_judge_48 (by decide) (fun c_48 => ?_) (fun c_48 => ?_)
      · refine ax_bipush (v := 100) dX12_judge_71 (by decide) ?_
        refine ax_iload_n (i := 3) dX12_judge_73 rfl rfl ?_
        refine ax_iadd dX12_judge_74 ?_
        refine ax_iret dX12_judge_75 rfl rfl (Nat.le_of_ble_eq_true rfl) (Nat.le_of_ble_eq_true rfl) ?_
        exact ⟨congrArg (fun z => some (Value.int z)) (hend.trans (by rw [juV, if_pos (show wi (i + nI q) 0 (nI (P.2.1 t) - 1) = 0 from wneg c_48)])).symm, rfl, rfl, rfl⟩
      · refine ax_iload_n (i := 2) dX12_judge_51 rfl rfl ?_
        refine ax_if_lt (tgt := 71) dX12_judge_52 (by decide) (fun c_52 => ?_) (fun c_52 => ?_)
        · refine ax_bipush (v := 100) dX12_judge_71 (by decide) ?_
          refine ax_iload_n (i := 3) dX12_judge_73 rfl rfl ?_
          refine ax_iadd dX12_judge_74 ?_
          refine ax_iret dX12_judge_75 rfl rfl (Nat.le_of_ble_eq_true rfl) (Nat.le_of_ble_eq_true rfl) ?_
          exact ⟨congrArg (fun z => some (Value.int z)) (hend.trans (by rw [juV, if_pos (show wi (i + nI q) 0 (nI (P.2.1 t) - 1) = 0 from wlt0 c_52)])).symm, rfl, rfl, rfl⟩
        · refine ax_iload_n (i := 2) dX12_judge_55 rfl rfl ?_
          refine ax_i2l dX12_judge_56 ?_
          refine ax_iload_n (i := 3) dX12_judge_57 rfl rfl ?_
          refine ax_i2l dX12_judge_58 ?_
          refine ax_ladd dX12_judge_59 ?_
          refine ax_aload_n (i := 0) dX12_judge_60 rfl rfl ?_
          refine ax_getR dX12_judge_61 fl_X12_103 rfl (OKs hZ rfl) (OKr hZ rfl) ?_
          refine ax_iload_n (i := 1) dX12_judge_64 rfl rfl ?_
          refine ax_ialdN t dX12_judge_65 (OKs hZ rfl) rfl ht (by decide) ?_
          refine ax_top (congrArg Value.int (hP t ht).2.1) ?_
          refine ax_i2l dX12_judge_66 ?_
          refine ax_lcmp dX12_judge_67 ?_
          refine ax_if_lt (tgt := 76) dX12_judge_68 (by decide) (fun c_68 => ?_) (fun c_68 => ?_)
          · have c9 : ¬ wi (i + nI q) 0 (nI (P.2.1 t) - 1) = 0 := fun z => (ju_key (by omega) hl c_52).mp z c_68
            have hl9 := has_l (m := P.2.1 t) (by omega) ⟨_, Nat.le_refl _, rfl⟩ c9
            obtain ⟨i9, hi9, rfl⟩ := nI_of c_52
            have e9 : nI i9 + nI q = nI (i9 + q) := nI_add _ _
            have eq9 := wi_e c9
            have hiq : (nI i9 + nI q).toNatClampNeg = i9 + q := by
              rw [e9]
              rcases Nat.lt_or_ge (i9 + q) (2 ^ 31) with z | z
              · exact nI_clamp z
              · exfalso
                have := (bi_ne.mp c9).1
                rw [e9] at this
                refine this ?_
                rw [Int32.lt_iff_toInt_lt]
                show (nI (i9 + q)).toInt < 0
                rw [← nI_add, Int32.toInt_add, nI_toInt (by omega), nI_toInt (by omega)]
                show ((i9 : Int) + q).bmod (2 ^ 32) < 0
                rw [Int.bmod_def]
                omega
            rw [hiq] at hl9
            refine ax_aload_n (i := 0) dX12_judge_76 rfl rfl ?_
            refine ax_getR dX12_judge_77 fl_X12_106 rfl (OKs hZ rfl) (OKr hZ rfl) ?_
            refine ax_bipush (v := 60) dX12_judge_80 (by decide) ?_
            refine ax_iload_n (i := 1) dX12_judge_82 rfl rfl ?_
            refine ax_imul dX12_judge_83 ?_
            refine ax_iload_n (i := 2) dX12_judge_84 rfl rfl ?_
            refine ax_iadd dX12_judge_85 ?_
            refine ax_iload_n (i := 3) dX12_judge_86 rfl rfl ?_
            refine ax_iadd dX12_judge_87 ?_
            refine ax_laldN (60 * t + (i9 + q)) dX12_judge_88 (OKs hZ rfl) (show 60 * nI t + nI i9 + nI q = nI (60 * t + (i9 + q)) by rw [show (60 : Int32) = nI 60 from rfl, pk_mul, nI_add, nI_add, Nat.add_assoc]) (by omega) (by decide) ?_
            refine ax_top (congrArg Value.long (((hP t ht).2.2 (i9 + q) (by omega)).trans (congrArg (P.2.2 t) hiq.symm))) ?_
            refine ax_aload_n (i := 0) dX12_judge_89 rfl rfl ?_
            refine ax_getR dX12_judge_90 fl_X12_9 rfl (OKs hZ rfl) (OKr hZ rfl) ?_
            refine ax_iload_n (i := 3) dX12_judge_93 rfl rfl ?_
            refine ax_ialdN q dX12_judge_94 (OKs hZ rfl) rfl (show q < 4 by omega) (by decide) ?_
            refine ax_top (congrArg Value.int (hv.2.2.2.1 q (by omega))) ?_
            refine ax_i2l dX12_judge_95 ?_
            refine ax_lcmp dX12_judge_96 ?_
            refine ax_if_eq (tgt := 102) dX12_judge_97 (by decide) (fun c_97 => ?_) (fun c_97 => ?_)
            · have d9 := c_97
              refine ax_iinc (v := (nI q) + 1) dX12_judge_102 rfl rfl (by decide) rfl ?_
              refine ax_goto (tgt := 36) dX12_judge_105 (by decide) ?_
              refine ax_lv [(0, .ref 75), (1, .int (nI t)), (2, .int (nI i9)), (3, .int (nI (q + 1)))] ⟨rfl, rfl, rfl, sI (nI_1 q), trivial⟩ ?_
              exact ih (q + 1) (by omega) (Or.inr (nI_pos hi9)) (hend.trans (by rw [juV, if_neg c9, if_pos d9]))
            · have d9 := c_97
              refine ax_iload_n (i := 3) dX12_judge_100 rfl rfl ?_
              refine ax_iret dX12_judge_101 rfl rfl (Nat.le_of_ble_eq_true rfl) (Nat.le_of_ble_eq_true rfl) ?_
              exact ⟨congrArg (fun z => some (Value.int z)) (hend.trans (by rw [juV, if_neg c9, if_neg d9])).symm, rfl, rfl, rfl⟩
          · refine ax_bipush (v := 100) dX12_judge_71 (by decide) ?_
            refine ax_iload_n (i := 3) dX12_judge_73 rfl rfl ?_
            refine ax_iadd dX12_judge_74 ?_
            refine ax_iret dX12_judge_75 rfl rfl (Nat.le_of_ble_eq_true rfl) (Nat.le_of_ble_eq_true rfl) ?_
            exact ⟨congrArg (fun z => some (Value.int z)) (hend.trans (by rw [juV, if_pos ((ju_key (by omega) hl c_52).mpr c_68)])).symm, rfl, rfl, rfl⟩
theorem k_judgeM {Z : Zt} {G : Gt} {L : Lt} {W : Wv} (hZ : OK Z) (hv : vM G W) {P : Pt9} (hP : imP G L P) (oP : ∀ t, t < 6 → (P.1 t = -1 ∨ ∃ s, s < 5 ∧ P.1 t = nI s) ∧ P.2.1 t ≤ 60 ∧ (P.1 t = -1 → P.2.1 t = 0)) (a i : Int32) : AC mX12_judge 2 0 0 [.ref 75, .int a, .int i] Z G L (RQ (.int (juA P W a i)) Z G L) := by
  refine AC.intro (by decide +kernel) (Nat.le_of_ble_eq_true rfl) ?_
  refine ax_lv [(0, .ref 75), (1, .int a), (2, .int i)] ⟨rfl, rfl, rfl, trivial⟩ ?_
  refine ax_iload_n (i := 1) dX12_judge_0 rfl rfl ?_
  refine ax_iconst (v := 0) dX12_judge_1 (by decide) ?_
  refine ax_iconst (v := 5) dX12_judge_2 (by decide) ?_
  refine ax_cSv dX12_judge_3 lk_X12_117 (c_X12_within a 0 5) rfl rfl (Nat.le_of_ble_eq_true rfl) (Nat.le_of_ble_eq_true rfl) (Nat.le_of_ble_eq_true rfl) (Nat.le_of_ble_eq_true rfl) ?_
  refine ax_if_ne (tgt := 11) dX12_judge_6 (by decide) (fun c_6 => ?_) (fun c_6 => ?_)
  · obtain ⟨t, ht5, rfl⟩ := wi_n (k := 5) (by decide) c_6
    have ht : t < 6 := by omega
    obtain ⟨o1, o2, o3⟩ := oP t ht
    refine ax_aload_n (i := 0) dX12_judge_11 rfl rfl ?_
    refine ax_getR dX12_judge_12 fl_X12_100 rfl (OKs hZ rfl) (OKr hZ rfl) ?_
    refine ax_iload_n (i := 1) dX12_judge_15 rfl rfl ?_
    refine ax_ialdN t dX12_judge_16 (OKs hZ rfl) rfl ht (by decide) ?_
    refine ax_top (congrArg Value.int (hP t ht).1) ?_
    refine ax_iconst (v := (-1)) dX12_judge_17 (by decide) ?_
    refine ax_icmp_eq (tgt := 34) dX12_judge_18 (by decide) (fun c_18 => ?_) (fun c_18 => ?_)
    · refine ax_iconst (v := 0) dX12_judge_34 (by decide) ?_
      refine ax_istore_n (i := 3) dX12_judge_35 rfl (by decide) rfl ?_
      refine ax_lv [(0, .ref 75), (1, .int (nI t)), (2, .int i), (3, .int (nI 0))] ⟨rfl, rfl, rfl, rfl, trivial⟩ ?_
      exact l_judgeM hZ hv hP t ht o2 o3 i _ 4 0 rfl (Or.inl rfl) (by unfold juA; rw [if_neg c_6, nI_clamp (by omega), if_neg (show ¬ P.1 t = 1 from fun y => by rw [c_18] at y; exact absurd y (by decide)), if_pos c_18])
    · refine ax_aload_n (i := 0) dX12_judge_21 rfl rfl ?_
      refine ax_getR dX12_judge_22 fl_X12_100 rfl (OKs hZ rfl) (OKr hZ rfl) ?_
      refine ax_iload_n (i := 1) dX12_judge_25 rfl rfl ?_
      refine ax_ialdN t dX12_judge_26 (OKs hZ rfl) rfl ht (by decide) ?_
      refine ax_top (congrArg Value.int (hP t ht).1) ?_
      refine ax_iconst (v := 1) dX12_judge_27 (by decide) ?_
      refine ax_icmp_eq (tgt := 34) dX12_judge_28 (by decide) (fun c_28 => ?_) (fun c_28 => ?_)
      · refine ax_iconst (v := 0) dX12_judge_34 (by decide) ?_
        refine ax_istore_n (i := 3) dX12_judge_35 rfl (by decide) rfl ?_
        refine ax_lv [(0, .ref 75), (1, .int (nI t)), (2, .int i), (3, .int (nI 0))] ⟨rfl, rfl, rfl, rfl, trivial⟩ ?_
        exact l_judgeM hZ hv hP t ht o2 o3 i _ 4 0 rfl (Or.inl rfl) (by unfold juA; rw [if_neg c_6, nI_clamp (by omega), if_pos c_28])
      · refine ax_bipush (v := (-12)) dX12_judge_31 (by decide) ?_
        refine ax_iret dX12_judge_33 rfl rfl (Nat.le_of_ble_eq_true rfl) (Nat.le_of_ble_eq_true rfl) ?_
        exact rq (Eq.symm (by unfold juA; rw [if_neg c_6, nI_clamp (by omega), if_neg c_28, if_neg c_18]))
  · refine ax_iconst (v := (-1)) dX12_judge_9 (by decide) ?_
    refine ax_iret dX12_judge_10 rfl rfl (Nat.le_of_ble_eq_true rfl) (Nat.le_of_ble_eq_true rfl) ?_
    exact rq (Eq.symm (by unfold juA; rw [if_pos c_6]))
theorem y_judge {Z : Zt} {G : Gt} {L : Lt} {W : Wv} {H : Hv} {I : Option (Wv × Hv)} {T : Nat × (Nat → Nat)} {R : Nat × (Nat → Int32)} {P : Pt9} {n9 : Nat} (hZ : OK Z) (ok : okA W H I T R P n9) (h : IM G L W H I T R P n9) (a i : Int32) : AC mX12_judge 2 0 0 [.ref 75, .int a, .int i] Z G L (RP (.int (juA P W a i)) (JQ Z G L W H I T R P n9)) := w_JR h (k_judgeM hZ h.1 h.2.2.2.2.2.1 ok.2.2.2.2.2.1 a i)
