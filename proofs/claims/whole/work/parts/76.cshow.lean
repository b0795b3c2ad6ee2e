-- ===== the class: show =====
theorem SH0_lt {k : Nat} {x : Sh} (h : SH0 k = some x) : k < 124 := by
  rcases Nat.lt_or_ge k 124 with q | q
  · exact q
  · unfold SH0 at h
    rw [List.getD_eq_getElem?_getD, List.getElem?_eq_none (show SHl.length ≤ k from q)] at h
    cases h
theorem RF0_lt {k i j : Nat} (h : RF0 k i = some j) : k < 124 := by
  rcases Nat.lt_or_ge k 124 with q | q
  · exact q
  · unfold RF0 at h
    rw [List.getD_eq_getElem?_getD (l := RFl), List.getElem?_eq_none (show RFl.length ≤ k from Nat.le_trans (by decide) q)] at h
    cases h
theorem OK_n {Z : Zt} {x : Sh} (h : OK Z) : OK (Zn Z x) := by
  obtain ⟨h1, h2, h3⟩ := h
  refine ⟨fun k y hk => ?_, fun k i j hk => ?_, by show 124 ≤ Z.1 + 1; omega⟩
  · have := SH0_lt hk
    exact (upd1_n (by omega)).trans (h1 k y hk)
  · have := RF0_lt hk
    show upr Z.2.2 Z.1 (fun _ => none) k i = some j
    rw [upr_n (by omega)]; exact h2 k i j hk
theorem OK_ref {Z : Zt} {k i : Nat} {o : Option Nat} (h : OK Z) (hk : RF0 k i = none) : OK (Z.1, Z.2.1, up2 Z.2.2 k i o) := by
  obtain ⟨h1, h2, h3⟩ := h
  refine ⟨h1, fun k' i' j hj => ?_, h3⟩
  show up2 Z.2.2 k i o k' i' = some j
  by_cases e : k' = k
  · subst e
    by_cases e2 : i' = i
    · subst e2; rw [hk] at hj; cases hj
    · rw [up2_i e2]; exact h2 k' i' j hj
  · rw [up2_k e]; exact h2 k' i' j hj
theorem lc_J7_150 : LkC RJ7 150 := ⟨kk_J7_150, ac_nat, ac_stat, kn_RJ10⟩
theorem n_copyOf {Z : Zt} {G : Gt} {L : Lt} (hZ : OK Z) {N : Nat} (hN : N < 300) (hr : Z.1 + 1 ≤ 1000) : AC mJ7_copyOf_59c91 2 1 N [.ref 3, .int (nI N)] Z G L (DQ (some (.ref Z.1)) (Zn Z (.inr (.int, N))) (upr (upr G Z.1 (fun _ => 0)) Z.1 (cpN (upr G Z.1 (fun _ => 0) 3) (upr G Z.1 (fun _ => 0) Z.1) N)) (upr L Z.1 (fun _ => 0))) := by
  refine AC.introF (by decide +kernel) (Nat.le_of_ble_eq_true rfl) ?_
  refine ax_lv [(0, .ref 3), (1, .int (nI N))] ⟨rfl, rfl, trivial⟩ ?_
  refine ax_iload_n (i := 1) dJ7_copyOf_59c91_0 rfl rfl ?_
  refine ax_aload_n (i := 0) dJ7_copyOf_59c91_1 rfl rfl ?_
  refine ax_alen (t0 := 0) (v := 300) dJ7_copyOf_59c91_2 (OKs hZ rfl) (fun _ => rfl) rfl ?_
  refine ax_icmp_ne (tgt := 14) dJ7_copyOf_59c91_3 (by decide) (fun c_3 => ?_) (fun c_3 => ?_)
  · refine ax_iload_n (i := 1) dJ7_copyOf_59c91_14 rfl rfl ?_
    refine ax_newarr (t0 := 0) dJ7_copyOf_59c91_15 rfl (Or.inl rfl) (fun _ => rfl) aw_int rfl (show N * 4 ≤ _ by omega) (by omega) hr (by omega) (by omega) ?_
    refine ax_astore_n (i := 2) dJ7_copyOf_59c91_17 rfl (by decide) rfl ?_
    refine ax_aload_n (i := 0) dJ7_copyOf_59c91_18 rfl rfl ?_
    refine ax_iconst (v := 0) dJ7_copyOf_59c91_19 (by decide) ?_
    refine ax_aload_n (i := 2) dJ7_copyOf_59c91_20 rfl rfl ?_
    refine ax_iconst (v := 0) dJ7_copyOf_59c91_21 (by decide) ?_
    refine ax_aload_n (i := 0) dJ7_copyOf_59c91_22 rfl rfl ?_
    refine ax_alen (t0 := 0) (v := 300) dJ7_copyOf_59c91_23 (OKs (OK_n hZ) rfl) (fun _ => rfl) rfl ?_
    refine ax_iload_n (i := 1) dJ7_copyOf_59c91_24 rfl rfl ?_
    refine ax_cSv dJ7_copyOf_59c91_25 lk_J7_304 (c_jmin 300 (nI N)) rfl rfl (Nat.le_of_ble_eq_true rfl) (Nat.le_of_ble_eq_true rfl) (by omega) (by omega) ?_
    refine ax_top (congrArg Value.int (show r_jmin _ _ 300 (nI N) = nI N from by unfold r_jmin; rw [if_pos (show nI N < 300 from nI_lt (b := 300) hN (by decide))])) ?_
    refine ax_copyI0 N dJ7_copyOf_59c91_28 lc_J7_150 (OKs (OK_n hZ) rfl) (show upd1 _ _ _ _ = _ from upd1_s) rfl (by omega) (Nat.le_refl _) (by omega) (Nat.le_of_ble_eq_true rfl) (Nat.le_of_ble_eq_true rfl) ?_
    refine ax_aload_n (i := 2) dJ7_copyOf_59c91_31 rfl rfl ?_
    refine ax_aret dJ7_copyOf_59c91_32 rfl (Or.inr ⟨_, rfl⟩) (by omega) (by omega) ?_
    exact ⟨rfl, rfl, rfl, rfl⟩
  · exact absurd ((nI_eq (by omega) (by decide)).mp (show nI N = nI 300 from c_3)) (by omega)
theorem n_showInit {Z : Zt} {G : Gt} {L : Lt} {k sp : Nat} (hk : Z.2.1 k = some (.inl 6)) (hsp : sp < Z.1) (x : Int32) : AC mX6_init 2 0 0 [.ref k, .ref sp, .int x] Z G L (DQ none (Z.1, Z.2.1, up2 Z.2.2 k 0 (some sp)) (up2 G k 1 x) L) := by
  refine AC.intro (by decide +kernel) (Nat.le_of_ble_eq_true rfl) ?_
  refine ax_lv [(0, .ref k), (1, .ref sp), (2, .int x)] ⟨rfl, rfl, rfl, trivial⟩ ?_
  refine ax_aload_n (i := 0) dX6_init_0 rfl rfl ?_
  refine ax_objI dX6_init_1 lo_X6_3 oi_inst oi_code (Nat.le_of_ble_eq_true rfl) (Nat.le_of_ble_eq_true rfl) ?_
  refine ax_aload_n (i := 0) dX6_init_4 rfl rfl ?_
  refine ax_aload_n (i := 1) dX6_init_5 rfl rfl ?_
  refine ax_putO (o := some sp) dX6_init_6 fl_X6_9 (Or.inr ⟨fp_X6_6_0, rfl⟩) rfl (fun j hj => by cases hj; exact hsp) hk ?_
  refine ax_aload_n (i := 0) dX6_init_9 rfl rfl ?_
  refine ax_iload_n (i := 2) dX6_init_10 rfl rfl ?_
  refine ax_putI dX6_init_11 fl_X6_15 (Or.inr ⟨fp_X6_6_1, rfl⟩) rfl rfl rfl hk ?_
  refine ax_vret dX6_init_14 rfl (Nat.le_of_ble_eq_true rfl) (Nat.le_of_ble_eq_true rfl) ?_
  exact ⟨rfl, rfl, rfl, rfl⟩
/-- the places with a new show -/
def Zs (Z : Zt) (m : Nat) : Zt := ((Zn (Zn Z (.inl 6)) (.inr (.int, 3 * m))).1, (Zn (Zn Z (.inl 6)) (.inr (.int, 3 * m))).2.1, up2 (Zn (Zn Z (.inl 6)) (.inr (.int, 3 * m))).2.2 Z.1 0 (some (Z.1 + 1)))
theorem n_make {Z : Zt} {G : Gt} {L : Lt} (hZ : OK Z) {m : Nat} (hm : m < 100) (hr : Z.1 + 2 ≤ 1000) (h3 : G 1 3 = nI (3 * m)) : AC mX4_makeShow 4 2 (2 + 3 * m) [.ref 1] Z G L (RP (.ref Z.1) (fun Z' G' L' => Z' = Zs Z m ∧ (∀ a, a < Z.1 → G' a = G a ∧ L' a = L a) ∧ G' Z.1 1 = G 1 6 ∧ ∀ j, j < 3 * m → G' (Z.1 + 1) j = G 3 j)) := by
  have h108 := hZ.2.2
  have hZ1 : OK (Zn Z (.inl 6)) := OK_n hZ
  have hZ2 : OK (Zn (Zn Z (.inl 6)) (.inr (.int, 3 * m))) := OK_n hZ1
  refine AC.intro (by decide +kernel) (Nat.le_of_ble_eq_true rfl) ?_
  refine ax_lv [(0, .ref 1)] ⟨rfl, trivial⟩ ?_
  refine ax_new (ci := 6) dX4_makeShow_0 cn_X4_40 (by omega) (by decide) (by omega) (show 0 + 2 ≤ 2 + 3 * m by omega) ?_
  refine ax_dup dX4_makeShow_3 rfl ?_
  refine ax_aload_n (i := 0) dX4_makeShow_4 rfl rfl ?_
  refine ax_getR dX4_makeShow_5 fl_X4_15 rfl (OKs hZ1 rfl) (OKr hZ1 rfl) ?_
  refine ax_aload_n (i := 0) dX4_makeShow_8 rfl rfl ?_
  refine ax_getI dX4_makeShow_9 fl_X4_23 rfl (OKs hZ1 rfl) ?_
  refine ax_top (congrArg Value.int (show upr G Z.1 (fun _ => 0) 1 3 = nI (3 * m) from by rw [upr_n (by omega)]; exact h3)) ?_
  refine ax_callS dX4_makeShow_12 lk_X4_42 (n_copyOf hZ1 (by omega) (show Z.1 + 1 + 1 ≤ 1000 by omega)) rfl rfl (Nat.le_of_ble_eq_true rfl) (Nat.le_of_ble_eq_true rfl) (by omega) (show 0 + 2 + 3 * m ≤ 2 + 3 * m by omega) ?_
  rintro r Z' G' L' ⟨rfl, rfl, rfl, rfl⟩
  refine ax_aload_n (i := 0) dX4_makeShow_15 rfl rfl ?_
  refine ax_getI dX4_makeShow_16 fl_X4_26 rfl (OKs hZ2 rfl) ?_
  refine ax_callI dX4_makeShow_19 li_X4_48 (n_showInit (k := Z.1) (sp := Z.1 + 1) (show upd1 (upd1 Z.2.1 Z.1 _) (Z.1 + 1) _ Z.1 = _ from by rw [upd1_n (by omega), upd1_s]) (show Z.1 + 1 < Z.1 + 1 + 1 by omega) _) rfl rfl (Nat.le_of_ble_eq_true rfl) (Nat.le_of_ble_eq_true rfl) (by omega) (show 0 + 2 + 3 * m + 0 ≤ 2 + 3 * m by omega) ?_
  refine ax_aret dX4_makeShow_22 rfl (Or.inl ⟨_, rfl⟩) (by omega) (show 0 + 2 + 3 * m + 0 ≤ 2 + 3 * m by omega) ?_
  refine ⟨rfl, rfl, fun a ha => ⟨?_, ?_⟩, ?_, fun j hj => ?_⟩
  · rw [up2_row (by omega), upr_n (show a ≠ (Zn Z (.inl 6)).1 from by show a ≠ Z.1 + 1; omega), upr_n (show a ≠ (Zn Z (.inl 6)).1 from by show a ≠ Z.1 + 1; omega), upr_n (by omega)]
  · rw [upr_n (show a ≠ (Zn Z (.inl 6)).1 from by show a ≠ Z.1 + 1; omega), upr_n (by omega)]
  · rw [up2_s, upr_n (show 1 ≠ (Zn Z (.inl 6)).1 from by show 1 ≠ Z.1 + 1; omega), upr_n (show 1 ≠ (Zn Z (.inl 6)).1 from by show 1 ≠ Z.1 + 1; omega), upr_n (show 1 ≠ Z.1 by omega)]
  · rw [up2_k (show Z.1 + 1 ≠ Z.1 by omega)]
    show upr _ (Z.1 + 1) _ (Z.1 + 1) j = _
    rw [upr_s, cpN_l hj]
    show upr (upr G Z.1 _) (Z.1 + 1) _ 3 j = _
    rw [upr_n (show 3 ≠ Z.1 + 1 by omega), upr_n (show 3 ≠ Z.1 by omega)]
theorem pCl_4 {T : Nat × (Nat → Nat)} {a : Nat} (hT : T.1 ≤ 100) (ha : a ≤ T.1) (h : (pCl T a).1 = true) : a + 4 + (pCl T a).2.2.2.2.length ≤ (pCl T a).2.1 := by
  have go : ∀ (w : Nat) (ws : List Nat), w < 3 → (∀ c, c ∈ ws → c < 200) → 4 ≤ ws.length → (pCw T w (pAll T ws a)).1 = true → a + 4 + (pCw T w (pAll T ws a)).2.2.2.2.length ≤ (pCw T w (pAll T ws a)).2.1 := fun w ws hw hws hl z => by
    obtain ⟨i1, i2, i3⟩ := pAll_ok ws a hws ha
    obtain ⟨j1, j2⟩ := pCw_ok (w := w) (r := pAll T ws a) hT i2 hw
    obtain ⟨j3, j4, j5⟩ := j2 z
    have hr : (pAll T ws a).1 = true := by
      cases e : (pAll T ws a).1 with
      | true => rfl
      | false =>
        rw [pCw_f e] at z
        exact Bool.noConfusion z
    have := i3 hr
    omega
  by_cases c1 : chT T a = 98
  · rw [pCl_b c1] at h ⊢; exact go 0 wBr (by decide) (by decide) (by decide) h
  by_cases c2 : chT T a = 100
  · by_cases c3 : chT T (a + 1) = 114
    · rw [pCl_r c2 c3] at h ⊢; exact go 2 wDr (by decide) (by decide) (by decide) h
    · rw [pCl_i c2 c3] at h ⊢; exact go 1 wDi (by decide) (by decide) (by decide) h
  · rw [pCl_n c1 c2] at h; exact Bool.noConfusion h
theorem pSh_len {T : Nat × (Nat → Nat)} (hT : T.1 ≤ 100) : ∀ k a cls, a ≤ T.1 → (stepsL cls).length ≤ a → (pSh T k a cls).1 = true → (stepsL (pSh T k a cls).2.2).length < 100
  | 0, a, cls, _, _, z => Bool.noConfusion z
  | k + 1, a, cls, ha, hl, z => by
    by_cases c1 : (pCl T a).1 = true
    · have h4 := pCl_4 hT ha c1
      have h5 := (pCl_ok hT ha).1
      have lC : (stepsC (pCl T a).2.2).length ≤ (pCl T a).2.2.2.2.length + 1 := by
        unfold stepsC
        by_cases z : (pCl T a).2.2.1 = 2
        · rw [if_pos z]; exact Nat.zero_le _
        · rw [if_neg z, List.length_append, List.length_map]; exact Nat.le_refl _
      have eL : (stepsL (cls ++ [(pCl T a).2.2])).length = (stepsL cls).length + (stepsC (pCl T a).2.2).length := by unfold stepsL; rw [List.flatMap_append, List.flatMap_singleton, List.length_append]
      by_cases c2 : (pCl T a).2.1 = T.1
      · have e9 : pSh T (k + 1) a cls = (true, T.1, cls ++ [(pCl T a).2.2]) := by rw [pSh, if_pos c1, if_pos c2]
        rw [e9]
        show (stepsL (cls ++ [(pCl T a).2.2])).length < 100
        omega
      by_cases c3 : k = 0
      · rw [pSh, if_pos c1, if_neg c2, if_pos c3] at z; exact Bool.noConfusion z
      by_cases c4 : chT T (pCl T a).2.1 = 59
      · have e9 : pSh T (k + 1) a cls = pSh T k ((pCl T a).2.1 + 1) (cls ++ [(pCl T a).2.2]) := by rw [pSh, if_pos c1, if_neg c2, if_neg c3, if_pos c4]
        rw [e9] at z ⊢
        exact pSh_len hT k _ _ (chT_lt c4 (by decide)) (by omega) z
      · rw [pSh, if_pos c1, if_neg c2, if_neg c3, if_neg c4] at z; exact Bool.noConfusion z
    · rw [pSh, if_neg c1] at z; exact Bool.noConfusion z
theorem xs_fail {Z : Zt} {G G1 : Gt} {L : Lt} {W : Wv} {H : Hv} {I : Option (Wv × Hv)} {T : Nat × (Nat → Nat)} {R : Nat × (Nat → Int32)} {P : Pt9} {n : Nat} (h : IC Z G L W H I T R P n) {a : Nat} {ss : List St} {x : Int32} (hs : RS G G1 a ss x) : IQ G L W H I (0, T.2) R P n Z (up2 G1 1 1 0) L := by
  obtain ⟨-, -, -, -, hT, hR, hP, -⟩ := id h
  have f := hs.2.2.2.2.1
  refine IC_other h (fun a ha => ?_) ?_ ⟨Nat.zero_le _, by rw [up2_s]; rfl, fun i hi => absurd hi (Nat.not_lt_zero i)⟩ (icR_keep hR ?_ ?_) (icP_keep hP ?_ ?_ (fun _ _ => rfl)) (fun _ _ => rfl)
  · rw [up2_row (by omega), f a (by omega) (by omega)]
  · rw [up2_row (by decide), f 0 (by decide) (by decide)]
  · rw [up2_row (by decide), f 4 (by decide) (by decide)]
  · rw [up2_row (by decide), f 5 (by decide) (by decide)]
  · rw [up2_row (by decide), f 7 (by decide) (by decide)]
  · rw [up2_row (by decide), f 8 (by decide) (by decide)]
theorem Zs_1 {Z : Zt} {m k : Nat} (h : k < Z.1) : (Zs Z m).2.1 k = Z.2.1 k := by
  show upd1 (upd1 Z.2.1 Z.1 _) (Z.1 + 1) _ k = _
  rw [upd1_n (by omega), upd1_n (by omega)]
theorem Zs_2 {Z : Zt} {m k : Nat} (h : k < Z.1) : (Zs Z m).2.2 k = Z.2.2 k := by
  show up2 (upr (upr Z.2.2 Z.1 _) (Z.1 + 1) _) Z.1 0 _ k = _
  rw [up2_row (by omega), upr_n (by omega), upr_n (by omega)]
theorem Zs_OK {Z : Zt} {m : Nat} (h : OK Z) : OK (Zs Z m) := by
  have h9 := h.2.2
  refine ⟨fun k y hk => ?_, fun k i j hk => ?_, by show 124 ≤ Z.1 + 1 + 1; omega⟩
  · have := SH0_lt hk
    rw [Zs_1 (by omega)]; exact h.1 k y hk
  · have := RF0_lt hk
    rw [Zs_2 (by omega)]; exact h.2.1 k i j hk
theorem vC_keep2 {Z Z' : Zt} {G G' : Gt} {w : Nat} {W : Wv} (h : vC Z G w W) (ho : W.m ≤ 6) (hG : ∀ a, w ≤ a → a < w + 10 → G' a = G a) (hr : Z'.2.2 w 16 = Z.2.2 w 16) (h1 : ∀ k x, Z.2.1 k = some x → Z'.2.1 k = some x) (h2 : ∀ k i j x, 108 ≤ k → Z.2.1 k = some x → Z.2.2 k i = some j → Z'.2.2 k i = some j) (h3 : ∀ a x, 108 ≤ a → Z.2.1 a = some x → G' a = G a) : vC Z' G' w W := by
  obtain ⟨a1, a2, a3, a4, a5, a6, a7, a8⟩ := h
  have key : shOK Z' G' (Z.2.2 w 16) ∧ dryO Z' G' (Z.2.2 w 16) = dryO Z G (Z.2.2 w 16) ∧ ∀ num row mi, sbO Z' G' (Z.2.2 w 16) num row mi = sbO Z G (Z.2.2 w 16) num row mi := by
    generalize Z.2.2 w 16 = o at a6
    cases o with
    | none => exact ⟨fun k hk => absurd hk (by simp), rfl, fun _ _ _ => rfl⟩
    | some k =>
      obtain ⟨b1, b2, sp, m, b3, b4, b5, b6, b7⟩ := a6 k rfl
      refine ⟨fun k' hk' => ?_, ?_, fun num row mi => ?_⟩
      · obtain rfl : k = k' := Option.some.inj hk'
        exact ⟨b1, h1 _ _ b2, sp, m, b3, h2 _ _ _ _ b1 b2 b4, h1 _ _ b5, b6, by rw [h3 sp _ b3 b5]; exact b7⟩
      · show G' k 1 = G k 1
        rw [h3 k _ b1 b2]
      · rw [sbO_s b4 b5, sbO_s (h2 _ _ _ _ b1 b2 b4) (h1 _ _ b5), h3 sp _ b3 b5]
  obtain ⟨c1, c2, c3⟩ := key
  refine ⟨by rw [hG w (by omega) (by omega)]; exact a1, by rw [hG w (by omega) (by omega)]; exact a2, fun p hp i hi => by rw [hG (w + 2 + p) (by omega) (by omega)]; exact a3 p hp i hi, fun q hq => by rw [hG (w + 8) (by omega) (by omega)]; exact a4 q hq, fun q hq => by rw [hG (w + 9) (by omega) (by omega)]; exact a5 q hq, ?_, ?_, fun p row mi => ?_⟩
  · rw [hr]; exact c1
  · rw [hr]; exact c2.trans a7
  · rw [hr]; exact (c3 _ _ _).trans (a8 p row mi)
theorem xs_ok {Z : Zt} {G G1 G2 : Gt} {L L2 : Lt} {W : Wv} {H : Hv} {I : Option (Wv × Hv)} {T : Nat × (Nat → Nat)} {R : Nat × (Nat → Int32)} {P : Pt9} {n : Nat} (h : IC Z G L W H I T R P n) (hF : WF Z) (hn : n < 6) {a : Nat} {cls : List Cl} (hs : RS G G1 a (stepsL cls) (nI (drL cls))) (ho : ∀ c, c ∈ cls → okC c) (hl : (stepsL cls).length < 100) (g1 : ∀ a, a < Z.1 → G2 a = (up2 G1 1 1 0) a ∧ L2 a = L a) (g2 : G2 Z.1 1 = (up2 G1 1 1 0) 1 6) (g3 : ∀ j, j < 3 * (stepsL cls).length → G2 (Z.1 + 1) j = (up2 G1 1 1 0) 3 j) {x : Int32} (hx : x = nI (n + 1)) : IQ G L (shV W cls) H I (0, T.2) R P (n + 1) ((Zs Z (stepsL cls).length).1, (Zs Z (stepsL cls).length).2.1, up2 (Zs Z (stepsL cls).length).2.2 24 16 (some Z.1)) (up2 G2 0 3 x) L2 := by
  obtain ⟨a0, a1, a2, a3, a4, a5, a6, a7⟩ := h
  have hz := a7.2.2
  have f := hs.2.2.2.2.1
  have K : ∀ a, a < Z.1 → a ≠ 0 → a ≠ 1 → a ≠ 3 → up2 G2 0 3 x a = G a := fun a h1 h2 h3 h4 => by rw [up2_row h2, (g1 a h1).1, up2_row h3, f a h3 h4]
  have K0 : ∀ i, i ≠ 3 → up2 G2 0 3 x 0 i = G 0 i := fun i hi => by rw [up2_i hi, (g1 0 (by omega)).1, up2_row (by decide), f 0 (by decide) (by decide)]
  have KL : ∀ a, a < Z.1 → L2 a = L a := fun a h1 => (g1 a h1).2
  have hZ2 := Zs_OK (m := (stepsL cls).length) a0
  have e1 : ∀ k y, Z.2.1 k = some y → (Zs Z (stepsL cls).length).2.1 k = some y := fun k y e => by rw [Zs_1 (hF.2.1 k y e)]; exact e
  have e3 : ∀ k i j y, 108 ≤ k → Z.2.1 k = some y → Z.2.2 k i = some j → up2 (Zs Z (stepsL cls).length).2.2 24 16 (some Z.1) k i = some j := fun k i j y hk hy e => by
    rw [up2_row (by omega), Zs_2 (hF.2.1 k y hy)]; exact e
  have e4 : ∀ k y, 108 ≤ k → Z.2.1 k = some y → up2 G2 0 3 x k = G k := fun k y hk hy => K k (hF.2.1 k y hy) (by omega) (by omega) (by omega)
  have e24 : up2 (Zs Z (stepsL cls).length).2.2 24 16 (some Z.1) 24 16 = some Z.1 := up2_s
  have eS : up2 (Zs Z (stepsL cls).length).2.2 24 16 (some Z.1) Z.1 0 = some (Z.1 + 1) := by
    rw [up2_row (by omega)]; exact up2_s
  have eT : (Zs Z (stepsL cls).length).2.1 Z.1 = some (.inl 6) := by
    show upd1 (upd1 Z.2.1 Z.1 _) (Z.1 + 1) _ Z.1 = _
    rw [upd1_n (by omega), upd1_s]
  have eU : (Zs Z (stepsL cls).length).2.1 (Z.1 + 1) = some (.inr (.int, 3 * (stepsL cls).length)) := upd1_s
  have eM : stM3 (up2 G2 0 3 x (Z.1 + 1)) (stepsL cls) := fun j hj => by
    obtain ⟨m1, m2, m3⟩ := hs.2.2.1 j hj
    rw [up2_row (by omega)]
    exact ⟨by rw [g3 _ (by omega), up2_k (by decide)]; exact m1, by rw [g3 _ (by omega), up2_k (by decide)]; exact m2, by rw [g3 _ (by omega), up2_k (by decide)]; exact m3⟩
  have K11 : up2 G2 0 3 x 1 1 = nI 0 := by rw [up2_k (by decide), (g1 1 (by omega)).1, up2_s]; rfl
  obtain ⟨v1, v2, v3, v4, v5, v6, v7, v8⟩ := a1.1
  have hw6 := a1.2.1.1
  refine ⟨⟨?_, ⟨⟨?_, ?_, ?_, ?_, ?_, ?_, ?_, ?_⟩, a1.2.1, a1.2.2⟩, ⟨hC_keep a2.1 (fun i _ => by rw [K 24 (by omega) (by decide) (by decide) (by decide)]) (fun a x y => K a (by omega) (by omega) (by omega) (by omega)), a2.2⟩, ?_, ⟨Nat.zero_le _, K11, fun i hi => absurd hi (Nat.not_lt_zero i)⟩, icR_keep a5 (by rw [K 4 (by omega) (by decide) (by decide) (by decide)]) (K 5 (by omega) (by decide) (by decide) (by decide)), icP_keep a6 (K 7 (by omega) (by decide) (by decide) (by decide)) (K 8 (by omega) (by decide) (by decide) (by decide)) (fun t ht => KL (10 + t) (by omega)), by omega, by rw [up2_s]; exact hx, by show Z.1 + 1 + 1 = _; omega⟩, fun a x y => ⟨K a (by omega) (by omega) (by omega) (by omega), KL a (by omega)⟩⟩
  · exact OK_ref hZ2 rfl
  · rw [K 24 (by omega) (by decide) (by decide) (by decide)]; exact v1
  · rw [K 24 (by omega) (by decide) (by decide) (by decide)]; exact v2
  · exact fun p hp i hi => by rw [K (24 + 2 + p) (by have : p < W.m := hp; omega) (by omega) (by omega) (by omega)]; exact v3 p hp i hi
  · exact fun q hq => by rw [K (24 + 8) (by omega) (by decide) (by decide) (by decide)]; exact v4 q hq
  · exact fun q hq => by rw [K (24 + 9) (by omega) (by decide) (by decide) (by decide)]; exact v5 q hq
  · show shOK _ _ (up2 (Zs Z (stepsL cls).length).2.2 24 16 (some Z.1) 24 16)
    rw [e24]
    intro k hk
    obtain rfl : Z.1 = k := Option.some.inj hk
    exact ⟨by omega, eT, Z.1 + 1, (stepsL cls).length, by omega, eS, eU, by omega, steps_ok eM ho⟩
  · show dryO _ _ (up2 (Zs Z (stepsL cls).length).2.2 24 16 (some Z.1) 24 16) = nI (drL cls)
    rw [e24]
    show up2 G2 0 3 x Z.1 1 = _
    rw [up2_k (by omega), g2, up2_i (by decide)]
    exact hs.2.2.2.1
  · intro p row mi
    show sbO _ _ (up2 (Zs Z (stepsL cls).length).2.2 24 16 (some Z.1) 24 16) _ _ _ = sbL cls (nI p) row (nI mi)
    rw [e24, sbO_s (Z := ((Zs Z (stepsL cls).length).1, (Zs Z (stepsL cls).length).2.1, up2 (Zs Z (stepsL cls).length).2.2 24 16 (some Z.1))) (sp := Z.1 + 1) (m := (stepsL cls).length) eS eU]
    exact br_sb eM ho _ _ _
  · cases I with
    | none => exact (K0 10 (by decide)).trans a3
    | some q =>
      obtain ⟨b1, b2, b3, b4, b5, b6⟩ := a3
      refine ⟨(K0 10 (by decide)).trans b1, vC_keep2 b2 b3.1 (fun a x y => K a (by omega) (by omega) (by omega) (by omega)) ?_ e1 e3 e4, b3, b4, hC_keep b5 (fun i _ => by rw [K 41 (by omega) (by decide) (by decide) (by decide)]) (fun a x y => K a (by omega) (by omega) (by omega) (by omega)), b6⟩
      show up2 (Zs Z (stepsL cls).length).2.2 24 16 (some Z.1) 41 16 = _
      rw [up2_row (by decide), Zs_2 (by omega)]
theorem x_show {Z : Zt} {G : Gt} {L : Lt} {W : Wv} {H : Hv} {I : Option (Wv × Hv)} {T : Nat × (Nat → Nat)} {R : Nat × (Nat → Int32)} {P : Pt9} {n : Nat} (h : IC Z G L W H I T R P n) : AC mX11_show 19 2 302 [.ref 0] Z G L (RP (.int (shoA n T)) (IQ G L (shoW n T W) H I (shoT n T) R P (shoN n T))) := by
  refine ac_wf (fun hF => ?_)
  obtain ⟨hZ, -, -, -, ⟨t1, t2, t3⟩, -, -, hN⟩ := id h
  have hz := hN.2.2
  have hn6 := hN.1
  refine AC.intro (by decide +kernel) (Nat.le_of_ble_eq_true rfl) ?_
  refine ax_lv [(0, .ref 0)] ⟨rfl, trivial⟩ ?_
  refine ax_aload_n (i := 0) dX11_show_0 rfl rfl ?_
  refine ax_getI dX11_show_1 fl_X11_114 rfl (OKs hZ rfl) ?_
  refine ax_bipush (v := 6) dX11_show_4 (by decide) ?_
  refine ax_icmp_lt (tgt := 12) dX11_show_6 (by decide) (fun c_6 => ?_) (fun c_6 => ?_)
  · have n6 : ¬ n = 6 := fun z => absurd c_6 (by rw [hN.2.1, z]; decide)
    refine ax_aload_n (i := 0) dX11_show_12 rfl rfl ?_
    refine ax_getR dX11_show_13 fl_X11_27 rfl (OKs hZ rfl) (OKr hZ rfl) ?_
    refine ax_cVq dX11_show_16 lk_X11_117 (n_fault hZ ⟨t2, fun i hi => (t3 i hi).1⟩ t1 (fun i hi => (t3 i hi).2)) rfl (OKs hZ rfl) ⟨_, rfl, rfl⟩ rfl (Nat.le_of_ble_eq_true rfl) (Nat.le_of_ble_eq_true rfl) (Nat.le_of_ble_eq_true rfl) (Nat.le_of_ble_eq_true rfl) ?_
    intro Z9 G1 L9 h9
    obtain ⟨hz9, hl9, pt1, pf1⟩ := h9
    subst Z9
    subst L9
    refine ax_istore_n (i := 1) dX11_show_19 rfl (by decide) rfl ?_
    by_cases ck : (pSh T 10 0 []).1 = true
    · have pt1 := pt1 ck
      have hlen := pSh_len t1 10 0 [] (Nat.zero_le _) (Nat.le_refl _) ck
      have hok := ((pSh_ok t1 10 0 [] (Nat.zero_le _) (fun c hc => absurd hc (by simp))).2 ck).1
      rw [if_pos ck]
      unfold shoA shoW shoT shoN
      rw [if_neg n6, if_neg n6, if_neg n6, if_neg n6, if_pos ck, if_pos ck, if_pos ck]
      refine ax_lv [(0, .ref 0), (1, .int (-1))] ⟨rfl, rfl, trivial⟩ ?_
      refine ax_aload_n (i := 0) dX11_show_20 rfl rfl ?_
      refine ax_getR dX11_show_21 fl_X11_27 rfl (OKs hZ rfl) (OKr hZ rfl) ?_
      refine ax_iconst (v := 0) dX11_show_24 (by decide) ?_
      refine ax_putI dX11_show_25 fl_X11_107 (Or.inl fp_X11_4_1) rfl rfl rfl (OKs hZ rfl) ?_
      refine ax_iload_n (i := 1) dX11_show_28 rfl rfl ?_
      refine ax_if_lt (tgt := 37) dX11_show_29 (by decide) (fun c_29 => ?_) (fun c_29 => absurd (by decide) c_29)
      refine ax_aload_n (i := 0) dX11_show_37 rfl rfl ?_
      refine ax_getR dX11_show_38 fl_X11_14 rfl (OKs hZ rfl) (OKr hZ rfl) ?_
      refine ax_aload_n (i := 0) dX11_show_41 rfl rfl ?_
      refine ax_getR dX11_show_42 fl_X11_27 rfl (OKs hZ rfl) (OKr hZ rfl) ?_
      refine ax_callV dX11_show_45 lk_X11_121 (n_make hZ hlen (by omega) (show up2 G1 1 1 0 1 3 = _ from by rw [up2_i (by decide)]; exact pt1.2.1)) rfl (OKs hZ rfl) ⟨_, rfl, rfl⟩ rfl (Nat.le_of_ble_eq_true rfl) (Nat.le_of_ble_eq_true rfl) (by omega) (by omega) ?_
      rintro r Z' G2 L2 ⟨rfl, rfl, g1, g2, g3⟩
      refine ax_putO (o := some Z.1) dX11_show_48 fl_X11_125 (Or.inl fp_X11_10_16) rfl (fun j hj => by cases hj; show Z.1 < Z.1 + 1 + 1; omega) (OKs (Zs_OK hZ) rfl) ?_
      have hZ3 := OK_ref (k := 24) (i := 16) (o := some Z.1) (Zs_OK (m := (stepsL (pSh T 10 0 []).2.2).length) hZ) rfl
      refine ax_aload_n (i := 0) dX11_show_51 rfl rfl ?_
      refine ax_dup dX11_show_52 rfl ?_
      refine ax_getI dX11_show_53 fl_X11_114 rfl (OKs hZ3 rfl) ?_
      refine ax_iconst (v := 1) dX11_show_56 (by decide) ?_
      refine ax_iadd dX11_show_57 ?_
      have e11 : G2 0 3 = nI n := by rw [(g1 0 (by omega)).1, up2_k (by decide), pt1.2.2.2.2.1 0 (by decide) (by decide)]; exact hN.2.1
      refine ax_top (congrArg Value.int (show G2 0 3 + 1 = nI (n + 1) from by rw [e11, nI_1])) ?_
      refine ax_putI dX11_show_58 fl_X11_114 (Or.inl fp_X11_11_3) rfl rfl rfl (OKs hZ3 rfl) ?_
      refine ax_aload_n (i := 0) dX11_show_61 rfl rfl ?_
      refine ax_getI dX11_show_62 fl_X11_114 rfl (OKs hZ3 rfl) ?_
      refine ax_iconst (v := 1) dX11_show_65 (by decide) ?_
      refine ax_isub dX11_show_66 ?_
      refine ax_top (congrArg Value.int (show up2 G2 0 3 (nI (n + 1)) 0 3 - 1 = nI n from by rw [up2_s]; exact nI_pred n)) ?_
      refine ax_iret dX11_show_67 rfl rfl (by omega) (show 0 + (2 + 3 * (stepsL (pSh T 10 0 []).2.2).length) ≤ 302 by omega) ?_
      exact ⟨rfl, xs_ok h hF (by omega) pt1 hok hlen g1 g2 g3 rfl⟩
    · have pf1 := pf1 (by cases e : (pSh T 10 0 []).1 with | true => exact absurd e ck | false => rfl)
      obtain ⟨x9, ss9, l9, h9⟩ := pf1
      have hle := (pSh_ok t1 10 0 [] (Nat.zero_le _) (fun c hc => absurd hc (by simp))).1
      rw [if_neg ck]
      unfold shoA shoW shoT shoN
      rw [if_neg n6, if_neg n6, if_neg n6, if_neg n6, if_neg ck, if_neg ck, if_neg ck]
      refine ax_lv [(0, .ref 0), (1, .int (nI (pSh T 10 0 []).2.1))] ⟨rfl, rfl, trivial⟩ ?_
      refine ax_aload_n (i := 0) dX11_show_20 rfl rfl ?_
      refine ax_getR dX11_show_21 fl_X11_27 rfl (OKs hZ rfl) (OKr hZ rfl) ?_
      refine ax_iconst (v := 0) dX11_show_24 (by decide) ?_
      refine ax_putI dX11_show_25 fl_X11_107 (Or.inl fp_X11_4_1) rfl rfl rfl (OKs hZ rfl) ?_
      refine ax_iload_n (i := 1) dX11_show_28 rfl rfl ?_
      refine ax_if_lt (tgt := 37) dX11_show_29 (by decide) (fun c_29 => absurd c_29 (nI_pos (by omega))) (fun c_29 => ?_)
      refine ax_bipush (v := (-10)) dX11_show_32 (by decide) ?_
      refine ax_iload_n (i := 1) dX11_show_34 rfl rfl ?_
      refine ax_isub dX11_show_35 ?_
      refine ax_iret dX11_show_36 rfl rfl (Nat.zero_le _) (Nat.zero_le _) ?_
      exact ⟨rfl, xs_fail h h9⟩
  · refine ax_bipush (v := (-4)) dX11_show_9 (by decide) ?_
    refine ax_iret dX11_show_11 rfl rfl (Nat.zero_le _) (Nat.zero_le _) ?_
    have e6 : n = 6 := by have := mt (nI_ltI (by omega) (by decide)).mpr (show ¬ nI n < nI 6 from fun z => c_6 (by rw [hN.2.1]; exact z)); omega
    unfold shoA shoW shoT shoN
    rw [if_pos e6, if_pos e6, if_pos e6, if_pos e6]
    exact ⟨rfl, h, fC_refl⟩
