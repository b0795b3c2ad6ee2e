-- ===== the class: items, text, trace, counts, the image =====
def lowB (a : Int32) (x : Int64) : Int64 := if a = 0 then x.toInt32.toInt8.toInt32.toInt64 else if a = 1 then x.toInt32.toInt16.toInt32.toInt64 else if a = 2 then x.toInt32.toInt64 else if a = 3 then x else if lg_cmp x 0 = 0 then 0 else 1
def setI (P : Pt9) (t i : Nat) (x : Int64) : Pt9 := (P.1, P.2.1, up2 P.2.2 t i x)
def itA (P : Pt9) (a b : Int32) (x : Int64) : Int32 × Pt9 := if wi a 0 5 = 0 then (-1, P) else if P.1 a.toNatClampNeg = -1 then (-11, P) else if wi b 0 (nI (P.2.1 a.toNatClampNeg) - 1) = 0 then (-13, P) else (1, setI P a.toNatClampNeg b.toNatClampNeg (lowB (P.1 a.toNatClampNeg) x))
def reA (P : Pt9) (a b : Int32) : Int64 := if wi a 0 5 = 0 then -9223372036854775808 else if wi b 0 (nI (P.2.1 a.toNatClampNeg) - 1) = 0 then -9223372036854775808 else P.2.2 a.toNatClampNeg b.toNatClampNeg
theorem icP_S {G : Gt} {L : Lt} {P : Pt9} (h : icP G L P) : ∀ t, t < 6 → cntOK 60 (G 8 t) := fun t ht => ⟨_, (h t ht).2.2.2.1, (h t ht).2.2.1⟩
theorem pv_item {Z : Zt} {G : Gt} {L : Lt} {P : Pt9} (h : icP G L P) {t i : Nat} (ht : t < 6) {x : Int64} : PV Z G L (setI P t i x) Z G (up2 L (10 + t) i x) := by
  refine ⟨rfl, fun u hu => ?_, fun a ha => rfl, fun a ha => up2_row (by omega)⟩
  obtain ⟨a1, a2, a3, a4, a5, a6⟩ := h u hu
  refine ⟨a1, a2, a3, a4, a5, fun j hj => ?_⟩
  show up2 L (10 + t) i x (10 + u) j = up2 P.2.2 t i x u j
  by_cases e : u = t
  · subst e
    by_cases f : j = i
    · rw [f, up2_s, up2_s]
    · rw [up2_i f, up2_i f]; exact a6 j hj
  · rw [up2_k (by omega), up2_k e]; exact a6 j hj
theorem x_item {Z : Zt} {G : Gt} {L : Lt} {W : Wv} {H : Hv} {I : Option (Wv × Hv)} {T : Nat × (Nat → Nat)} {R : Nat × (Nat → Int32)} {P : Pt9} {n9 : Nat} (h : IC Z G L W H I T R P n9) (a b : Int32) (x : Int64) : AC mX11_item 3 0 0 [.ref 0, .int a, .int b, .long x] Z G L (RP (.int (itA P a b x).1) (IQ G L W H I T R (itA P a b x).2 n9)) := by
  obtain ⟨hZ, -, -, -, -, -, hP, -⟩ := id h
  refine w_PV h (AC.weaken (c_X11_item hZ (icP_S hP) a b x) ?_)
  rintro r Z' G' L' ⟨rfl, rfl, rfl, rfl⟩
  unfold r_X11_item l_X11_item itA
  by_cases c1 : wi a 0 5 = 0
  · simp only [if_pos c1]; exact ⟨rfl, PV_same hP⟩
  simp only [if_neg c1]
  obtain ⟨t, ht5, rfl⟩ := wi_n (k := 5) (by decide) c1
  have ht : t < 6 := by omega
  obtain ⟨p1, p2, p3, p4, p5, p6⟩ := hP t ht
  rw [nI_clamp (by omega), p1, p3]
  by_cases c2 : P.1 t = -1
  · simp only [if_pos c2]; exact ⟨rfl, PV_same hP⟩
  simp only [if_neg c2]
  by_cases c3 : wi b 0 (nI (P.2.1 t) - 1) = 0
  · simp only [if_pos c3]; exact ⟨rfl, PV_same hP⟩
  simp only [if_neg c3]
  exact ⟨rfl, pv_item hP ht⟩
theorem x_read {Z : Zt} {G : Gt} {L : Lt} {W : Wv} {H : Hv} {I : Option (Wv × Hv)} {T : Nat × (Nat → Nat)} {R : Nat × (Nat → Int32)} {P : Pt9} {n9 : Nat} (h : IC Z G L W H I T R P n9) (a b : Int32) : AC mX11_read 3 0 0 [.ref 0, .int a, .int b] Z G L (RP (.long (reA P a b)) (IQ G L W H I T R P n9)) := by
  obtain ⟨hZ, -, -, -, -, -, hP, -⟩ := id h
  have e : r_X11_read G L a b = reA P a b := by
    unfold r_X11_read reA
    by_cases c1 : wi a 0 5 = 0
    · rw [if_pos c1, if_pos c1]
    rw [if_neg c1, if_neg c1]
    obtain ⟨t, ht5, rfl⟩ := wi_n (k := 5) (by decide) c1
    have ht : t < 6 := by omega
    obtain ⟨p1, p2, p3, p4, p5, p6⟩ := hP t ht
    rw [nI_clamp (by omega), p3]
    by_cases c3 : wi b 0 (nI (P.2.1 t) - 1) = 0
    · rw [if_pos c3, if_pos c3]
    rw [if_neg c3, if_neg c3]
    have := has_l (m := P.2.1 t) (by omega) ⟨_, Nat.le_refl _, rfl⟩ c3
    exact p6 _ (by omega)
  rw [← e]
  exact w_RQ h (c_X11_read hZ (icP_S hP) a b)
def fdA (T : Nat × (Nat → Nat)) (a : Int32) : Int32 × (Nat × (Nat → Nat)) := if wi a 0 127 = 0 then (-2, T) else if nI T.1 < 100 then (nI (T.1 + 1), (T.1 + 1, up1 T.2 T.1 a.toNatClampNeg)) else (-4, T)
theorem nar_b (k : Nat) (hk : k < 128) : vp_nar .byte (nI k).toInt8.toInt32 = nI k := by
  have : ∀ k, k < 128 → vp_nar .byte (nI k).toInt8.toInt32 = nI k := by decide +kernel
  exact this k hk
theorem x_feed {Z : Zt} {G : Gt} {L : Lt} {W : Wv} {H : Hv} {I : Option (Wv × Hv)} {T : Nat × (Nat → Nat)} {R : Nat × (Nat → Int32)} {P : Pt9} {n9 : Nat} (h : IC Z G L W H I T R P n9) (a : Int32) : AC mX11_feed 2 0 0 [.ref 0, .int a] Z G L (RP (.int (fdA T a).1) (IQ G L W H I (fdA T a).2 R P n9)) := by
  obtain ⟨hZ, -, -, -, hT, hR, hP, -⟩ := id h
  obtain ⟨t1, t2, t3⟩ := id hT
  refine AC.weaken (c_X11_feed hZ ⟨T.1, t1, t2⟩ a) ?_
  rintro r Z' G' L' ⟨rfl, rfl, rfl, rfl⟩
  unfold r_X11_feed g_X11_feed fdA
  rw [t2, nI_clamp (by omega)]
  by_cases c1 : wi a 0 127 = 0
  · simp only [if_pos c1]; exact ⟨rfl, h, fC_refl⟩
  simp only [if_neg c1]
  by_cases c2 : nI T.1 < 100
  · simp only [if_pos c2]
    obtain ⟨k, hk, rfl⟩ := wi_n (k := 127) (by decide) c1
    have e100 := (nI_ltI (by omega) (by decide)).mp (show nI T.1 < nI 100 from c2)
    rw [nar_b k (by omega), nI_clamp (by omega), up2_s, up2_k (by decide), t2, nI_1]
    refine ⟨rfl, IC_other h (fun a ha => ?_) ?_ ?_ (icR_keep hR ?_ ?_) (icP_keep hP ?_ ?_ (fun _ _ => rfl)) (fun _ _ => rfl)⟩
    · rw [up2_row (by omega), up2_row (by omega)]
    · rw [up2_row (by omega), up2_row (by omega)]
    · refine ⟨by show T.1 + 1 ≤ 100; omega, by rw [up2_s], fun i hi => ?_⟩
      have hi : i < T.1 + 1 := hi
      show up2 (up2 G 2 T.1 (nI k)) 1 1 _ 2 i = nI (up1 T.2 T.1 k i) ∧ up1 T.2 T.1 k i < 128
      rw [up2_k (by decide)]
      by_cases e : i = T.1
      · rw [e, up2_s, up1_s]; exact ⟨rfl, by omega⟩
      · rw [up2_i e, up1_n e]; exact t3 i (by omega)
    · rw [up2_k (by decide), up2_k (by decide)]
    · rw [up2_row (by omega), up2_row (by omega)]
    · rw [up2_row (by omega), up2_row (by omega)]
    · rw [up2_row (by omega), up2_row (by omega)]
  · simp only [if_neg c2]; exact ⟨rfl, h, fC_refl⟩
def trA (R : Nat × (Nat → Int32)) (a : Int32) : Int32 := if wi a 0 ((if 20 < nI R.1 then 20 else nI R.1) - 1) = 0 then -1 else R.2 a.toNatClampNeg
theorem x_trace {Z : Zt} {G : Gt} {L : Lt} {W : Wv} {H : Hv} {I : Option (Wv × Hv)} {T : Nat × (Nat → Nat)} {R : Nat × (Nat → Int32)} {P : Pt9} {n9 : Nat} (h : IC Z G L W H I T R P n9) (a : Int32) : AC mX11_trace 2 0 0 [.ref 0, .int a] Z G L (RP (.int (trA R a)) (IQ G L W H I T R P n9)) := by
  obtain ⟨hZ, -, -, -, -, hR, -⟩ := id h
  obtain ⟨r1, r2, r3⟩ := id hR
  have e : r_X11_trace G L a = trA R a := by
    unfold r_X11_trace trA
    rw [r2]
    by_cases c1 : wi a 0 ((if 20 < nI R.1 then 20 else nI R.1) - 1) = 0
    · rw [if_pos c1, if_pos c1]
    rw [if_neg c1, if_neg c1]
    have h20 := tr_l2 ⟨R.1, r1, rfl⟩ c1
    refine r3 _ h20 ?_
    have h2 := (bi_ne.mp c1).2
    have h0 := nn_e (bi_ne.mp c1).1
    by_cases q : (20 : Int32) < nI R.1
    · have := (nI_ltI (by decide) (by omega)).mp (show nI 20 < nI R.1 from q); omega
    · rw [if_neg q] at c1
      exact has_l (m := R.1) (by omega) ⟨_, Nat.le_refl _, rfl⟩ c1
  rw [← e]
  exact w_RQ h (c_X11_trace hZ ⟨R.1, r1, r2⟩ a)
def ctA (W : Wv) (H : Hv) (T : Nat × (Nat → Nat)) (R : Nat × (Nat → Int32)) (n : Nat) (a : Int32) : Int32 := if a = 0 then nI W.m else if a = 1 then nI n else if a = 2 then nI H.nk else if a = 3 then nI H.np else if a = 4 then nI H.nb else if a = 5 then nI T.1 else if a = 6 then nI R.1 else -2
theorem x_count {Z : Zt} {G : Gt} {L : Lt} {W : Wv} {H : Hv} {I : Option (Wv × Hv)} {T : Nat × (Nat → Nat)} {R : Nat × (Nat → Int32)} {P : Pt9} {n9 : Nat} (h : IC Z G L W H I T R P n9) (a : Int32) : AC mX11_count 1 0 0 [.ref 0, .int a] Z G L (RP (.int (ctA W H T R n9 a)) (IQ G L W H I T R P n9)) := by
  obtain ⟨hZ, ⟨hv, -⟩, ⟨hH, -⟩, -, hT, hR, -, hN⟩ := id h
  have e : r_X11_count G L a = ctA W H T R n9 a := by
    unfold r_X11_count ctA
    rw [hv.1, hN.2.1, hH.1.1, hH.2.1.1, hH.2.2.1, hT.2.1, hR.2.1]
  rw [← e]
  exact w_RQ h (c_X11_count hZ a)
theorem wlt {w : Nat} (h : w = 24 ∨ w = 41 ∨ w = 58) : RF0 w 16 = none := by rcases h with rfl | rfl | rfl <;> decide +kernel
theorem held_OK {Z : Zt} {w v : Nat} (h : OK Z) (hw : w = 24 ∨ w = 41 ∨ w = 58) : OK (Zheld Z w v) := by
  refine ⟨h.1, fun k i j hj => ?_, h.2.2⟩
  show up2 Z.2.2 w 16 _ k i = _
  by_cases e : k = w
  · by_cases f : i = 16
    · rw [e, f, wlt hw] at hj; exact absurd hj (by simp)
    · rw [up2_i f]; exact h.2.1 k i j hj
  · rw [up2_k e]; exact h.2.1 k i j hj
theorem cr_hC {G G' : Gt} {w v m : Nat} {H : Hv} (h : crP G G' w v) (hh : hC G v H) (ho : okH m H) : hC G' w H := by
  obtain ⟨c1, c2, c3, c4, -⟩ := h
  obtain ⟨⟨a1, a2⟩, ⟨a3, a4⟩, a5, a6⟩ := hh
  obtain ⟨o1, -, o2, -, o3, -⟩ := ho
  refine ⟨⟨c2.trans a1, fun k hk => ?_⟩, ⟨c3.trans a3, fun k hk => ?_⟩, c4.trans a5, fun k hk => ?_⟩
  · rw [c1 10 k (by omega), c1 11 k (by omega), c1 12 k (by omega)]; exact a2 k hk
  · rw [c1 13 k (by omega), c1 14 k (by omega)]; exact a4 k hk
  · rw [c1 15 k (by omega), c1 16 k (by omega)]; exact a6 k hk
theorem x_image {Z : Zt} {G : Gt} {L : Lt} {W : Wv} {H : Hv} {I : Option (Wv × Hv)} {T : Nat × (Nat → Nat)} {R : Nat × (Nat → Int32)} {P : Pt9} {n9 : Nat} (h : IC Z G L W H I T R P n9) : AC mX11_image 3 0 0 [.ref 0] Z G L (RP (.int (nI W.m)) (IQ G L W H (some (W, H)) T R P n9)) := by
  refine ac_wf (fun hwf => ?_)
  obtain ⟨hZ, ⟨hv, ho, h9⟩, ⟨hH, hh⟩, hI, hT, hR, hP, hN⟩ := id h
  refine AC.intro (by decide +kernel) (Nat.le_of_ble_eq_true rfl) ?_
  refine ax_lv [(0, .ref 0)] ⟨rfl, trivial⟩ ?_
  refine ax_aload_n (i := 0) dX11_image_0 rfl rfl ?_
  refine ax_getR dX11_image_1 fl_X11_18 rfl (OKs hZ rfl) (OKr hZ rfl) ?_
  refine ax_aload_n (i := 0) dX11_image_4 rfl rfl ?_
  refine ax_getR dX11_image_5 fl_X11_14 rfl (OKs hZ rfl) (OKr hZ rfl) ?_
  refine ax_callV dX11_image_8 lk_X11_162 (c_goOnFrom hZ (isW41 hZ) (isW24 hZ) (Or.inr (by decide)) ho.1 hv.1 (fun j hj => hwf.2.2.1 _ _ _ hj)) rfl (OKs hZ rfl) ⟨_, rfl, rfl⟩ rfl (Nat.le_of_ble_eq_true rfl) (Nat.le_of_ble_eq_true rfl) (Nat.le_of_ble_eq_true rfl) (Nat.le_of_ble_eq_true rfl) ?_
  rintro _ _ G1 _ ⟨rfl, rfl, rfl, hg⟩
  have hZ1 := held_OK (v := 24) hZ (Or.inr (Or.inl rfl))
  refine ax_aload_n (i := 0) dX11_image_11 rfl rfl ?_
  refine ax_getR dX11_image_12 fl_X11_18 rfl (OKs hZ1 rfl) (OKr hZ1 rfl) ?_
  refine ax_aload_n (i := 0) dX11_image_15 rfl rfl ?_
  refine ax_getR dX11_image_16 fl_X11_14 rfl (OKs hZ1 rfl) (OKr hZ1 rfl) ?_
  refine ax_callV dX11_image_19 lk_X11_246 (c_copyRowsOf (isW41 hZ1) (isW24 hZ1) (Or.inr (by decide))) rfl (OKs hZ1 rfl) ⟨_, rfl, rfl⟩ rfl (Nat.le_of_ble_eq_true rfl) (Nat.le_of_ble_eq_true rfl) (Nat.le_of_ble_eq_true rfl) (Nat.le_of_ble_eq_true rfl) ?_
  rintro _ _ G2 _ ⟨rfl, rfl, rfl, hc⟩
  refine ax_aload_n (i := 0) dX11_image_22 rfl rfl ?_
  refine ax_iconst (v := 1) dX11_image_23 (by decide) ?_
  refine ax_putI dX11_image_24 fl_X11_249 (Or.inl fp_X11_11_10) rfl rfl rfl (OKs hZ1 rfl) ?_
  refine ax_aload_n (i := 0) dX11_image_27 rfl rfl ?_
  refine ax_getR dX11_image_28 fl_X11_14 rfl (OKs hZ1 rfl) (OKr hZ1 rfl) ?_
  refine ax_getI dX11_image_31 fl_X11_57 rfl (OKs hZ1 rfl) ?_
  refine ax_iret dX11_image_34 rfl rfl (Nat.le_of_ble_eq_true rfl) (Nat.le_of_ble_eq_true rfl) ?_
  have g7 := hg.2.2.2.2.2.2
  have e1 : ∀ a, ¬ (41 ≤ a ∧ a < 58) → G2 a = G a := fun a ha => (hc.2.2.2.2.2 a (by omega) (by omega)).trans (g7 a (by omega))
  have e2 : ∀ a, ¬ (41 ≤ a ∧ a < 58) → a ≠ 0 → up2 G2 0 10 1 a = G a := fun a ha h0 => (up2_row h0).trans (e1 a ha)
  have hr : ∀ k i, ¬ (k = 41 ∧ i = 16) → (Zheld Z 41 24).2.2 k i = Z.2.2 k i := fun k i hk => by
    show up2 Z.2.2 41 16 _ k i = _
    by_cases e : k = 41
    · rw [up2_i (fun z => hk ⟨e, z⟩)]
    · rw [up2_k e]
  have hv1 := go_vC (by decide) (by decide) hg hv
  refine ⟨congrArg (fun z => some (Value.int z)) ?_, ⟨hZ1, ⟨vC_keep hv ho.1 (fun a x y => e2 a (by omega) (by omega)) (hr 24 16 (by omega)) (fun _ _ h => h) (fun k i j hk e => by rw [hr k i (by omega)]; exact e) (fun a x ha _ => e2 a (by omega) (by omega)), ho, h9⟩, ⟨hC_keep hH (fun i _ => by rw [e2 24 (by omega) (by omega)]) (fun a x y => e2 a (by omega) (by omega)), hh⟩, ⟨by rw [up2_s], vC_step hv1 (fun a ha => ?_) ?_ ?_ (fun p hp i hi => ?_) (fun q hq => ?_) (fun q hq => ?_) rfl rfl, ho, h9, hC_keep (cr_hC hc (hC_keep hH (fun i _ => by rw [g7 24 (by omega)]) (fun a x y => g7 a (by omega))) hh) (fun i _ => up2_k (by decide)) (fun a x y => up2_row (by omega)), hh⟩, icT_keep hT (by rw [e2 1 (by omega) (by omega)]) (e2 2 (by omega) (by omega)), icR_keep hR (by rw [e2 4 (by omega) (by omega)]) (e2 5 (by omega) (by omega)), icP_keep hP (e2 7 (by omega) (by omega)) (e2 8 (by omega) (by omega)) (fun _ _ => rfl), hN.1, (by rw [up2_i (by decide), e1 0 (by omega)]; exact hN.2.1), hN.2.2⟩, fun a x y => ⟨e2 a (by omega) (by omega), rfl⟩⟩
  · rw [up2_k (by decide), e1 24 (by omega)]; exact hv.1
  · rw [up2_row (by omega), hc.2.2.2.2.2 a (by omega) (by omega)]
  · rw [up2_k (by decide), hc.2.2.2.2.1 11 (by decide) (by decide) (by decide)]; exact hv1.1
  · rw [up2_k (by decide), hc.2.2.2.2.1 15 (by decide) (by decide) (by decide)]; exact hv1.2.1
  · have := ho.1
    have hp : p < W.m := hp
    rw [up2_k (by omega), hc.2.2.2.2.2 (41 + 2 + p) (by omega) (by omega)]; exact hv1.2.2.1 p hp i hi
  · rw [up2_k (by decide), hc.2.2.2.2.2 (41 + 8) (by omega) (by omega)]; exact hv1.2.2.2.1 q hq
  · rw [up2_k (by decide), hc.2.2.2.2.2 (41 + 9) (by omega) (by omega)]; exact hv1.2.2.2.2.1 q hq
def unA (W : Wv) (H : Hv) (I : Option (Wv × Hv)) : Int32 × Wv × Hv := match I with
  | none => (-3, W, H)
  | some q => (nI q.1.m, q.1, q.2)
theorem x_undo {Z : Zt} {G : Gt} {L : Lt} {W : Wv} {H : Hv} {I : Option (Wv × Hv)} {T : Nat × (Nat → Nat)} {R : Nat × (Nat → Int32)} {P : Pt9} {n9 : Nat} (h : IC Z G L W H I T R P n9) : AC mX11_undo 3 0 0 [.ref 0] Z G L (RP (.int (unA W H I).1) (IQ G L (unA W H I).2.1 (unA W H I).2.2 I T R P n9)) := by
  refine ac_wf (fun hwf => ?_)
  obtain ⟨hZ, ⟨hv, ho, h9⟩, ⟨hH, hh⟩, hI, hT, hR, hP, hN⟩ := id h
  refine AC.intro (by decide +kernel) (Nat.le_of_ble_eq_true rfl) ?_
  refine ax_lv [(0, .ref 0)] ⟨rfl, trivial⟩ ?_
  cases I with
  | none =>
    refine ax_aload_n (i := 0) dX11_undo_0 rfl rfl ?_
    refine ax_getI dX11_undo_1 fl_X11_249 rfl (OKs hZ rfl) ?_
    refine ax_if_ne (tgt := 10) dX11_undo_4 (by decide) (fun c_4 => ?_) (fun c_4 => ?_)
    · exact absurd hI c_4
    · refine ax_bipush (v := (-3)) dX11_undo_7 (by decide) ?_
      refine ax_iret dX11_undo_9 rfl rfl (Nat.le_of_ble_eq_true rfl) (Nat.le_of_ble_eq_true rfl) ?_
      exact ⟨rfl, h, fC_refl⟩
  | some q =>
    obtain ⟨i1, iv, io, i9, ih, ioh⟩ := id hI
    refine ax_aload_n (i := 0) dX11_undo_0 rfl rfl ?_
    refine ax_getI dX11_undo_1 fl_X11_249 rfl (OKs hZ rfl) ?_
    refine ax_if_ne (tgt := 10) dX11_undo_4 (by decide) (fun c_4 => ?_) (fun c_4 => ?_)
    · refine ax_aload_n (i := 0) dX11_undo_10 rfl rfl ?_
      refine ax_getR dX11_undo_11 fl_X11_14 rfl (OKs hZ rfl) (OKr hZ rfl) ?_
      refine ax_aload_n (i := 0) dX11_undo_14 rfl rfl ?_
      refine ax_getR dX11_undo_15 fl_X11_18 rfl (OKs hZ rfl) (OKr hZ rfl) ?_
      refine ax_callV dX11_undo_18 lk_X11_162 (c_goOnFrom hZ (isW24 hZ) (isW41 hZ) (Or.inl (by decide)) io.1 iv.1 (fun j hj => hwf.2.2.1 _ _ _ hj)) rfl (OKs hZ rfl) ⟨_, rfl, rfl⟩ rfl (Nat.le_of_ble_eq_true rfl) (Nat.le_of_ble_eq_true rfl) (Nat.le_of_ble_eq_true rfl) (Nat.le_of_ble_eq_true rfl) ?_
      rintro _ _ G1 _ ⟨rfl, rfl, rfl, hg⟩
      have hZ1 := held_OK (v := 41) hZ (Or.inl rfl)
      refine ax_aload_n (i := 0) dX11_undo_21 rfl rfl ?_
      refine ax_getR dX11_undo_22 fl_X11_14 rfl (OKs hZ1 rfl) (OKr hZ1 rfl) ?_
      refine ax_aload_n (i := 0) dX11_undo_25 rfl rfl ?_
      refine ax_getR dX11_undo_26 fl_X11_18 rfl (OKs hZ1 rfl) (OKr hZ1 rfl) ?_
      refine ax_callV dX11_undo_29 lk_X11_246 (c_copyRowsOf (isW24 hZ1) (isW41 hZ1) (Or.inl (by decide))) rfl (OKs hZ1 rfl) ⟨_, rfl, rfl⟩ rfl (Nat.le_of_ble_eq_true rfl) (Nat.le_of_ble_eq_true rfl) (Nat.le_of_ble_eq_true rfl) (Nat.le_of_ble_eq_true rfl) ?_
      rintro _ _ G2 _ ⟨rfl, rfl, rfl, hc⟩
      refine ax_aload_n (i := 0) dX11_undo_32 rfl rfl ?_
      refine ax_getR dX11_undo_33 fl_X11_14 rfl (OKs hZ1 rfl) (OKr hZ1 rfl) ?_
      refine ax_getI dX11_undo_36 fl_X11_57 rfl (OKs hZ1 rfl) ?_
      refine ax_iret dX11_undo_39 rfl rfl (Nat.le_of_ble_eq_true rfl) (Nat.le_of_ble_eq_true rfl) ?_
      have g7 := hg.2.2.2.2.2.2
      have e2 : ∀ a, ¬ (24 ≤ a ∧ a < 41) → G2 a = G a := fun a ha => (hc.2.2.2.2.2 a (by omega) (by omega)).trans (g7 a (by omega))
      have hr : ∀ k i, ¬ (k = 24 ∧ i = 16) → (Zheld Z 24 41).2.2 k i = Z.2.2 k i := fun k i hk => by
        show up2 Z.2.2 24 16 _ k i = _
        by_cases e : k = 24
        · rw [up2_i (fun z => hk ⟨e, z⟩)]
        · rw [up2_k e]
      have hv1 := go_vC (by decide) (by decide) hg iv
      have e11 : G2 24 11 = nI q.1.m := by rw [hc.2.2.2.2.1 11 (by decide) (by decide) (by decide)]; exact hv1.1
      refine ⟨congrArg (fun z => some (Value.int z)) e11, ⟨hZ1, ⟨vC_step hv1 (fun a ha => ?_) e11 ?_ (fun p hp i hi => ?_) (fun q hq => ?_) (fun q hq => ?_) rfl rfl, io, i9⟩, ⟨cr_hC hc (hC_keep ih (fun i _ => by rw [g7 41 (by omega)]) (fun a x y => g7 a (by omega))) ioh, ioh⟩, icI_keep (I := some q) hI (by rw [e2 0 (by omega)]) (fun a x y => e2 a (by omega)) (hr 41 16 (by omega)) (fun _ _ h => h) (fun k i j hk e => by rw [hr k i (by omega)]; exact e) (fun a x ha _ => e2 a (by omega)), icT_keep hT (by rw [e2 1 (by omega)]) (e2 2 (by omega)), icR_keep hR (by rw [e2 4 (by omega)]) (e2 5 (by omega)), icP_keep hP (e2 7 (by omega)) (e2 8 (by omega)) (fun _ _ => rfl), hN.1, (by rw [e2 0 (by omega)]; exact hN.2.1), hN.2.2⟩, fun a x y => ⟨e2 a (by omega), rfl⟩⟩
      · rw [hc.2.2.2.2.2 a (by omega) (by omega)]
      · rw [hc.2.2.2.2.1 15 (by decide) (by decide) (by decide)]; exact hv1.2.1
      · have := io.1
        have hp : p < q.1.m := hp
        rw [hc.2.2.2.2.2 (24 + 2 + p) (by omega) (by omega)]; exact hv1.2.2.1 p hp i hi
      · rw [hc.2.2.2.2.2 (24 + 8) (by omega) (by omega)]; exact hv1.2.2.2.1 q hq
      · rw [hc.2.2.2.2.2 (24 + 9) (by omega) (by omega)]; exact hv1.2.2.2.2.1 q hq
    · exact absurd (hI.1.symm.trans c_4) (by decide)
