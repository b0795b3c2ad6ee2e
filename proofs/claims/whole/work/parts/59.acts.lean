-- ===== the model: what changes, what is told by hand, the image =====
theorem vM_row {G : Gt} {W : Wv} {p q : Nat} {x : Int32} (hv : vM G W) (hq : q < 4) : vM (up2 G 84 (4 * p + q) x) (setV W p (6 + q) x) := by
  obtain ⟨a1, a2, a3, a4, a5, a6⟩ := id hv
  refine vM_step hv (fun a _ _ => up2_row (by omega)) ?_ ?_ ?_ (fun a ha i hi => ?_) (fun a ha i hi => ?_) (fun u hu => ?_) (fun u hu => ?_) rfl rfl
  · refine ⟨?_, ?_, ?_⟩ <;> rw [up2_k (by decide)]
  · rw [up2_k (by decide)]; exact a1
  · rw [up2_k (by decide)]; exact a2
  · have ha : a < W.m := ha
    show _ = up2 W.C p (6 + q) x a i
    rw [up2_k (by omega), up2_i (by omega)]; exact (a3 a ha).1 i hi
  · have ha : a < W.m := ha
    show _ = up2 W.C p (6 + q) x a (6 + i)
    by_cases e : a = p
    · subst e
      by_cases f : i = q
      · subst f; rw [up2_s, up2_s]
      · rw [up2_i (by omega), up2_i (by omega)]; exact (a3 a ha).2 i hi
    · rw [up2_i (by omega), up2_k e]; exact (a3 a ha).2 i hi
  · rw [up2_k (by decide)]; exact a4 u hu
  · rw [up2_k (by decide)]; exact a5 u hu
theorem JQ_same {Z : Zt} {G : Gt} {L : Lt} {W : Wv} {H : Hv} {I : Option (Wv × Hv)} {T : Nat × (Nat → Nat)} {R : Nat × (Nat → Int32)} {P : Pt9} {n9 : Nat} (h : IM G L W H I T R P n9) : JQ Z G L W H I T R P n9 Z G L := ⟨rfl, h, fM_refl⟩
theorem JQ_up {Z : Zt} {G : Gt} {L : Lt} {W : Wv} {H : Hv} {I : Option (Wv × Hv)} {T : Nat × (Nat → Nat)} {R : Nat × (Nat → Int32)} {P : Pt9} {n9 : Nat} {W' : Wv} {a i : Nat} {x : Int32} (h : IM G L W H I T R P n9) (ha : 76 ≤ a ∧ a < 85) (hv : vM (up2 G a i x) W') : JQ Z G L W' H I T R P n9 Z (up2 G a i x) L := by
  obtain ⟨z1, z2⟩ := IM_MA h (mA_up ha) hv (hM_up h.2.1 ha)
  exact ⟨rfl, z1, z2⟩
theorem y_grieve {Z : Zt} {G : Gt} {L : Lt} {W : Wv} {H : Hv} {I : Option (Wv × Hv)} {T : Nat × (Nat → Nat)} {R : Nat × (Nat → Int32)} {P : Pt9} {n9 : Nat} (hZ : OK Z) (ok : okA W H I T R P n9) (h : IM G L W H I T R P n9) (a x : Int32) : AC mX12_grieve 3 0 0 [.ref 75, .int a, .int x] Z G L (RP (.int (grA W a x).1) (JQ Z G L (grA W a x).2 H I T R P n9)) := by
  refine AC.weaken (c_X12_grieve hZ a x) ?_
  rintro r Z' G' L' ⟨rfl, rfl, rfl, rfl⟩
  have hv := h.1
  unfold r_X12_grieve g_X12_grieve grA
  by_cases c1 : wi a 0 3 = 0
  · simp only [if_pos c1]; exact ⟨rfl, JQ_same h⟩
  simp only [if_neg c1]
  by_cases c2 : wi x 0 999 = 0
  · simp only [if_pos c2]; exact ⟨rfl, JQ_same h⟩
  simp only [if_neg c2]
  obtain ⟨p, hp, rfl⟩ := wi_n (k := 3) (by decide) c1
  rw [nI_clamp (by omega)]
  exact ⟨congrArg (fun z => some (Value.int z)) (hv.2.2.2.1 p (by omega)), JQ_up h (by decide) (vM_gr hv)⟩
theorem y_rain {Z : Zt} {G : Gt} {L : Lt} {W : Wv} {H : Hv} {I : Option (Wv × Hv)} {T : Nat × (Nat → Nat)} {R : Nat × (Nat → Int32)} {P : Pt9} {n9 : Nat} (hZ : OK Z) (ok : okA W H I T R P n9) (h : IM G L W H I T R P n9) (a x : Int32) : AC mX12_rain 2 0 0 [.ref 75, .int a, .int x] Z G L (RP (.int (raA W a x).1) (JQ Z G L (raA W a x).2 H I T R P n9)) := by
  refine AC.weaken (c_X12_rain hZ a x) ?_
  rintro r Z' G' L' ⟨rfl, rfl, rfl, rfl⟩
  have hv := h.1
  unfold r_X12_rain g_X12_rain raA
  by_cases c1 : wi a 0 3 = 0
  · simp only [if_pos c1]; exact ⟨rfl, JQ_same h⟩
  simp only [if_neg c1]
  by_cases c2 : wi x 0 9 = 0
  · simp only [if_pos c2]; exact ⟨rfl, JQ_same h⟩
  simp only [if_neg c2]
  obtain ⟨p, hp, rfl⟩ := wi_n (k := 3) (by decide) c1
  rw [nI_clamp (by omega)]
  exact ⟨congrArg (fun z => some (Value.int z)) (hv.2.2.2.2.1 p (by omega)), JQ_up h (by decide) (vM_rn hv)⟩
theorem y_set {Z : Zt} {G : Gt} {L : Lt} {W : Wv} {H : Hv} {I : Option (Wv × Hv)} {T : Nat × (Nat → Nat)} {R : Nat × (Nat → Int32)} {P : Pt9} {n9 : Nat} (hZ : OK Z) (ok : okA W H I T R P n9) (h : IM G L W H I T R P n9) (a b x : Int32) : AC mX12_set 3 0 0 [.ref 75, .int a, .int b, .int x] Z G L (RP (.int (seA W a b x).1) (JQ Z G L (seA W a b x).2 H I T R P n9)) := by
  have ho := ok.1.1
  have hv := h.1
  refine AC.weaken (c_X12_set hZ ⟨W.m, ho.1, hv.1⟩ a b x) ?_
  rintro r Z' G' L' ⟨rfl, rfl, rfl, rfl⟩
  unfold r_X12_set g_X12_set seA
  rw [hv.1]
  by_cases c1 : wi a 0 (nI W.m - 1) = 0
  · simp only [if_pos c1]; exact ⟨rfl, JQ_same h⟩
  simp only [if_neg c1]
  by_cases c2 : wi b 0 2 = 0
  · simp only [if_pos c2]; exact ⟨rfl, JQ_same h⟩
  simp only [if_neg c2]
  obtain ⟨p, hp, rfl⟩ := has_p ho.1 c1
  have hp6 : p < 6 := by have := ho.1; omega
  rw [nI_clamp (by omega)]
  have h3 := (hv.2.2.1 p hp).1
  unfold seR
  by_cases b0 : b = 0
  · simp only [if_pos b0]
    by_cases c3 : wi x 0 20 = 0
    · simp only [if_pos c3]; exact ⟨rfl, JQ_same h⟩
    · simp only [if_neg c3]; exact ⟨congrArg (fun z => some (Value.int z)) (h3 2 (by decide)), JQ_up h (by decide) (vM_set (c := 2) hv (by decide))⟩
  simp only [if_neg b0]
  by_cases b1 : b = 1
  · simp only [if_pos b1]
    by_cases c3 : wi x 0 99 = 0
    · simp only [if_pos c3]; exact ⟨rfl, JQ_same h⟩
    · simp only [if_neg c3]; exact ⟨congrArg (fun z => some (Value.int z)) (h3 4 (by decide)), JQ_up h (by decide) (vM_set (c := 4) hv (by decide))⟩
  simp only [if_neg b1]
  by_cases c3 : wi x 0 3 = 0
  · simp only [if_pos c3]; exact ⟨rfl, JQ_same h⟩
  · simp only [if_neg c3]; exact ⟨congrArg (fun z => some (Value.int z)) (h3 3 (by decide)), JQ_up h (by decide) (vM_set (c := 3) hv (by decide))⟩
theorem y_row {Z : Zt} {G : Gt} {L : Lt} {W : Wv} {H : Hv} {I : Option (Wv × Hv)} {T : Nat × (Nat → Nat)} {R : Nat × (Nat → Int32)} {P : Pt9} {n9 : Nat} (hZ : OK Z) (ok : okA W H I T R P n9) (h : IM G L W H I T R P n9) (a b x : Int32) : AC mX12_row 3 0 0 [.ref 75, .int a, .int b, .int x] Z G L (RP (.int (roA W a b x).1) (JQ Z G L (roA W a b x).2 H I T R P n9)) := by
  have ho := ok.1.1
  have hv := h.1
  refine AC.weaken (c_X12_row hZ ⟨W.m, ho.1, hv.1⟩ a b x) ?_
  rintro r Z' G' L' ⟨rfl, rfl, rfl, rfl⟩
  unfold r_X12_row g_X12_row roA
  rw [hv.1]
  by_cases c1 : wi a 0 (nI W.m - 1) = 0
  · simp only [if_pos c1]; exact ⟨rfl, JQ_same h⟩
  simp only [if_neg c1]
  by_cases c2 : wi b 0 3 = 0
  · simp only [if_pos c2]; exact ⟨rfl, JQ_same h⟩
  simp only [if_neg c2]
  by_cases c3 : wi x 0 9 = 0
  · simp only [if_pos c3]; exact ⟨rfl, JQ_same h⟩
  simp only [if_neg c3]
  obtain ⟨p, hp, rfl⟩ := has_p ho.1 c1
  obtain ⟨q, hq, rfl⟩ := wi_n (k := 3) (by decide) c2
  have hp6 : p < 6 := by have := ho.1; omega
  rw [nI_clamp (show p < 2 ^ 31 by omega), nI_clamp (show q < 2 ^ 31 by omega), show G 78 p = W.C p 0 from (hv.2.2.1 p hp).1 0 (by decide)]
  by_cases c4 : W.C p 0 = 6
  · simp only [if_pos c4]; exact ⟨congrArg (fun z => some (Value.int z)) ((hv.2.2.1 p hp).2 q (by omega)), JQ_up h (by decide) (vM_row hv (by omega))⟩
  · simp only [if_neg c4]; exact ⟨rfl, JQ_same h⟩
theorem k_lightM {Z : Zt} {G : Gt} {L : Lt} {W : Wv} (hZ : OK Z) (hv : vM G W) (ho : okW W) (a : Int32) : AC mX12_light 6 0 0 [.ref 75, .int a] Z G L (RP (.int (liA W a).1) (fun Z' G' L' => Z' = Z ∧ L' = L ∧ mS G G' ∧ vM G' (liA W a).2)) := by
  refine AC.intro (by decide +kernel) (Nat.le_of_ble_eq_true rfl) ?_
  refine ax_lv [(0, .ref 75), (1, .int a)] ⟨rfl, rfl, trivial⟩ ?_
  refine ax_aload_n (i := 0) dX12_light_0 rfl rfl ?_
  refine ax_iload_n (i := 1) dX12_light_1 rfl rfl ?_
  refine ax_cVv dX12_light_2 lk_X12_125 (c_X12_isOne hZ a) rfl (OKs hZ rfl) ⟨_, rfl, rfl⟩ rfl (Nat.le_of_ble_eq_true rfl) (Nat.le_of_ble_eq_true rfl) (Nat.le_of_ble_eq_true rfl) (Nat.le_of_ble_eq_true rfl) ?_
  refine ax_top (congrArg Value.int (show wi _ 0 (G 75 2 - 1) = wi _ 0 (nI W.m - 1) from by rw [hv.1])) ?_
  refine ax_if_ne (tgt := 10) dX12_light_5 (by decide) (fun c_5 => ?_) (fun c_5 => ?_)
  · obtain ⟨p, hp, rfl⟩ := has_p ho.1 c_5
    have hp6 : p < 6 := by have := ho.1; omega
    refine ax_aload_n (i := 0) dX12_light_10 rfl rfl ?_
    refine ax_getR dX12_light_11 fl_X12_33 rfl (OKs hZ rfl) (OKr hZ rfl) ?_
    refine ax_iload_n (i := 1) dX12_light_14 rfl rfl ?_
    refine ax_ialdN p dX12_light_15 (OKs hZ rfl) rfl hp6 (by decide) ?_
    refine ax_if_eq (tgt := 22) dX12_light_16 (by decide) (fun c_16 => ?_) (fun c_16 => ?_)
    · refine ax_aload_n (i := 0) dX12_light_22 rfl rfl ?_
      refine ax_iload_n (i := 1) dX12_light_23 rfl rfl ?_
      refine ax_cVq0 dX12_light_24 lk_X12_142 (k_lights hZ hv ho p hp) rfl (OKs hZ rfl) ⟨_, rfl, rfl⟩ rfl (Nat.le_of_ble_eq_true rfl) (Nat.le_of_ble_eq_true rfl) (Nat.le_of_ble_eq_true rfl) (Nat.le_of_ble_eq_true rfl) ?_
      rintro _ G1 _ ⟨rfl, rfl, m'1, v1⟩
      have m1 := mS_tr mS_refl m'1
      refine ax_aload_n (i := 0) dX12_light_27 rfl rfl ?_
      refine ax_getR dX12_light_28 fl_X12_33 rfl (OKs hZ rfl) (OKr hZ rfl) ?_
      refine ax_iload_n (i := 1) dX12_light_31 rfl rfl ?_
      refine ax_ialdN p dX12_light_32 (OKs hZ rfl) rfl hp6 (by decide) ?_
      refine ax_iret dX12_light_33 rfl rfl (Nat.le_of_ble_eq_true rfl) (Nat.le_of_ble_eq_true rfl) ?_
      have c9 := c_16
      rw [show G 83 p = W.C p 5 from (hv.2.2.1 p hp).1 5 (by decide)] at c9
      have e9 : liA W (nI p) = (if lightV W p ≤ 0 then 1 else 2, litV W p) := by unfold liA; rw [if_neg c_5, nI_clamp (by omega), if_pos c9]
      rw [e9]
      exact ⟨congrArg (fun z => some (Value.int z)) (show G1 83 p = _ from ((v1.2.2.1 p hp).1 5 (by decide)).trans up2_s), rfl, rfl, m1, v1⟩
    · refine ax_bipush (v := (-3)) dX12_light_19 (by decide) ?_
      refine ax_iret dX12_light_21 rfl rfl (Nat.le_of_ble_eq_true rfl) (Nat.le_of_ble_eq_true rfl) ?_
      have c9 := c_16
      rw [show G 83 p = W.C p 5 from (hv.2.2.1 p hp).1 5 (by decide)] at c9
      have e9 : liA W (nI p) = (-3, W) := by unfold liA; rw [if_neg c_5, nI_clamp (by omega), if_neg c9]
      rw [e9]
      exact ⟨rfl, rfl, rfl, mS_refl, hv⟩
  · refine ax_iconst (v := (-1)) dX12_light_8 (by decide) ?_
    refine ax_iret dX12_light_9 rfl rfl (Nat.le_of_ble_eq_true rfl) (Nat.le_of_ble_eq_true rfl) ?_
    have e9 : liA W a = (-1, W) := by unfold liA; rw [if_pos c_5]
    rw [e9]
    exact ⟨rfl, rfl, rfl, mS_refl, hv⟩
theorem y_light {Z : Zt} {G : Gt} {L : Lt} {W : Wv} {H : Hv} {I : Option (Wv × Hv)} {T : Nat × (Nat → Nat)} {R : Nat × (Nat → Int32)} {P : Pt9} {n9 : Nat} (hZ : OK Z) (ok : okA W H I T R P n9) (h : IM G L W H I T R P n9) (a : Int32) : AC mX12_light 6 0 0 [.ref 75, .int a] Z G L (RP (.int (liA W a).1) (JQ Z G L (liA W a).2 H I T R P n9)) := w_MS h (k_lightM hZ h.1 ok.1.1 a)
/-- the row of a new rocket is 0 so far -/
def NR (G0 : Gt) (m q : Nat) (G : Gt) : Prop := (∀ a, a ≠ 84 → G a = G0 a) ∧ ∀ i, G 84 i = if 4 * m ≤ i ∧ i < 4 * m + q then 0 else G0 84 i
theorem NR_0 {G : Gt} {m : Nat} : NR G m 0 G := ⟨fun _ _ => rfl, fun i => by rw [if_neg (by omega)]⟩
theorem NR_s {G0 G : Gt} {m q : Nat} (h : NR G0 m q G) : NR G0 m (q + 1) (up2 G 84 (4 * m + q) 0) := by
  refine ⟨fun a ha => (up2_row ha).trans (h.1 a ha), fun i => ?_⟩
  by_cases e : i = 4 * m + q
  · subst e; rw [up2_s, if_pos (by omega)]
  · rw [up2_i e, h.2 i]
    by_cases c : 4 * m ≤ i ∧ i < 4 * m + q
    · rw [if_pos c, if_pos (by omega)]
    · rw [if_neg c, if_neg (by omega)]
theorem l_rocketM {Z : Zt} {G0 : Gt} {L : Lt} {Q : Qt} (hZ : OK Z) {m : Nat} (hm : m < 6) (hc : G0 75 2 = nI m) (hend : ∀ G : Gt, NR G0 m 4 G → AX none mX12_rocket 3 0 0 0 0 146 [(0, .ref 75)] [] Z G L Q) : ∀ (r q : Nat), q ≤ 4 → 4 - q < r → ∀ G : Gt, NR G0 m q G → AX none mX12_rocket 3 0 0 0 0 119 [(0, .ref 75), (5, .int (nI q))] [] Z G L Q := by
  intro r
  induction r with
  | zero => intro q h1 h2; omega
  | succ r ih =>
    intro q h1 h2 G h
    refine ax_iload dX12_rocket_119 rfl ?_
    refine ax_iconst (v := 4) dX12_rocket_121 (by decide) ?_
    refine ax_icmp_ge (tgt := 146) dX12_rocket_122 (by decide) (fun c_122 => ?_) (fun c_122 => ?_)
    · obtain rfl : q = 4 := by have := (nI_leI (by omega) (by omega)).mp (show nI 4 ≤ nI q from c_122); omega
      exact ax_lv [(0, .ref 75)] ⟨rfl, trivial⟩ (hend G h)
    · have hqm : q < 4 := by have := mt (nI_leI (by omega) (by omega)).mpr (show ¬ nI 4 ≤ nI q from c_122); omega
      refine ax_aload_n (i := 0) dX12_rocket_125 rfl rfl ?_
      refine ax_getR dX12_rocket_126 fl_X12_36 rfl (OKs hZ rfl) (OKr hZ rfl) ?_
      refine ax_iconst (v := 4) dX12_rocket_129 (by decide) ?_
      refine ax_aload_n (i := 0) dX12_rocket_130 rfl rfl ?_
      refine ax_getI dX12_rocket_131 fl_X12_114 rfl (OKs hZ rfl) ?_
      refine ax_top (congrArg Value.int ((congrFun (h.1 75 (by decide)) 2).trans hc)) ?_
      refine ax_imul dX12_rocket_134 ?_
      refine ax_iload dX12_rocket_135 rfl ?_
      refine ax_iadd dX12_rocket_137 ?_
      refine ax_iconst (v := 0) dX12_rocket_138 (by decide) ?_
      refine ax_iastN (4 * m + q) dX12_rocket_139 (OKs hZ rfl) (show 4 * nI m + nI q = nI (4 * m + q) by rw [show (4 : Int32) = nI 4 from rfl, pk_mul, nI_add]) (by omega) (by decide) ?_
      refine ax_iinc (v := (nI q) + 1) dX12_rocket_140 rfl rfl (by decide) rfl ?_
      refine ax_goto (tgt := 119) dX12_rocket_143 (by decide) ?_
      refine ax_lv [(0, .ref 75), (5, .int (nI (q + 1)))] ⟨rfl, sI (nI_1 q), trivial⟩ ?_
      exact ih (q + 1) (by omega) (by omega) _ (NR_s h)
theorem vM_new {G G9 : Gt} {W : Wv} {a b c e v : Int32} (hv : vM G W) (hm : W.m < 6) (h : NR (up2 (up2 (up2 (up2 (up2 (up2 G 78 W.m a) 79 W.m b) 80 W.m c) 81 W.m e) 82 W.m 0) 83 W.m 0) W.m 4 G9) (hx : v = nI (W.m + 1)) : vM (up2 G9 75 2 v) (newV W a b c e) ∧ mS G (up2 G9 75 2 v) := by
  have f75 : ∀ i, G9 75 i = G 75 i := fun i => by
    rw [h.1 75 (by decide), up2_k (by decide), up2_k (by decide), up2_k (by decide), up2_k (by decide), up2_k (by decide), up2_k (by decide)]
  have fo : ∀ x, ¬ (78 ≤ x ∧ x < 85) → G9 x = G x := fun x hx => by
    rw [h.1 x (by omega), up2_row (by omega), up2_row (by omega), up2_row (by omega), up2_row (by omega), up2_row (by omega), up2_row (by omega)]
  obtain ⟨a1, a2, a3, a4, a5, a6⟩ := id hv
  refine ⟨?_, fun x h1 h2 => (up2_row (by omega)).trans (fo x (by omega)), fun i h1 h2 => (up2_i h1).trans (f75 i)⟩
  refine vM_step hv (fun x _ _ => (up2_row (by omega)).trans (fo x (by omega))) ?_ ?_ ?_ (fun p hp i hi => ?_) (fun p hp i hi => ?_) (fun q hq => ?_) (fun q hq => ?_) rfl rfl
  · refine ⟨?_, ?_, ?_⟩ <;> rw [up2_i (by decide), f75]
  · rw [up2_s]; exact hx
  · rw [up2_i (by decide), f75]; exact a2
  · have hp : p < W.m + 1 := hp
    show _ = if p = W.m then (if i = 0 then a else if i = 1 then b else if i = 2 then c else if i = 3 then e else 0) else W.C p i
    rw [up2_k (by omega), h.1 (78 + i) (by omega)]
    by_cases ep : p = W.m
    · subst ep
      rw [if_pos rfl]
      rcases (show i = 0 ∨ i = 1 ∨ i = 2 ∨ i = 3 ∨ i = 4 ∨ i = 5 by omega) with rfl | rfl | rfl | rfl | rfl | rfl
      · rw [up2_k (by decide), up2_k (by decide), up2_k (by decide), up2_k (by decide), up2_k (by decide)]; exact up2_s
      · rw [up2_k (by decide), up2_k (by decide), up2_k (by decide), up2_k (by decide)]; exact up2_s
      · rw [up2_k (by decide), up2_k (by decide), up2_k (by decide)]; exact up2_s
      · rw [up2_k (by decide), up2_k (by decide)]; exact up2_s
      · rw [up2_k (by decide)]; exact up2_s
      · exact up2_s
    · rw [if_neg ep, up2_i ep, up2_i ep, up2_i ep, up2_i ep, up2_i ep, up2_i ep]
      exact (a3 p (by omega)).1 i hi
  · have hp : p < W.m + 1 := hp
    show _ = if p = W.m then (if 6 + i = 0 then a else if 6 + i = 1 then b else if 6 + i = 2 then c else if 6 + i = 3 then e else 0) else W.C p (6 + i)
    rw [up2_k (by decide), h.2]
    by_cases ep : p = W.m
    · subst ep
      rw [if_pos rfl, if_pos (by omega), if_neg (by omega), if_neg (by omega), if_neg (by omega), if_neg (by omega)]
    · rw [if_neg ep, if_neg (by omega), up2_k (by decide), up2_k (by decide), up2_k (by decide), up2_k (by decide), up2_k (by decide), up2_k (by decide)]
      exact (a3 p (by omega)).2 i hi
  · rw [up2_k (by decide), fo 76 (by omega)]; exact a4 q hq
  · rw [up2_k (by decide), fo 77 (by omega)]; exact a5 q hq
theorem k_rocketM {Z : Zt} {G : Gt} {L : Lt} {W : Wv} (hZ : OK Z) (hv : vM G W) (ho : okW W) (a b c e : Int32) : AC mX12_rocket 3 0 0 [.ref 75, .int a, .int b, .int c, .int e] Z G L (RP (.int (nwA W a b c e).1) (fun Z' G' L' => Z' = Z ∧ L' = L ∧ mS G G' ∧ vM G' (nwA W a b c e).2)) := by
  refine AC.intro (by decide +kernel) (Nat.le_of_ble_eq_true rfl) ?_
  refine ax_lv [(0, .ref 75), (1, .int a), (2, .int b), (3, .int c), (4, .int e)] ⟨rfl, rfl, rfl, rfl, rfl, trivial⟩ ?_
  refine ax_iload_n (i := 1) dX12_rocket_0 rfl rfl ?_
  refine ax_iconst (v := 0) dX12_rocket_1 (by decide) ?_
  refine ax_bipush (v := 6) dX12_rocket_2 (by decide) ?_
  refine ax_cSv dX12_rocket_4 lk_X12_117 (c_X12_within a 0 6) rfl rfl (Nat.le_of_ble_eq_true rfl) (Nat.le_of_ble_eq_true rfl) (Nat.le_of_ble_eq_true rfl) (Nat.le_of_ble_eq_true rfl) ?_
  refine ax_if_eq (tgt := 18) dX12_rocket_7 (by decide) (fun c_7 => ?_) (fun c_7 => ?_)
  · refine ax_iconst (v := (-1)) dX12_rocket_18 (by decide) ?_
    refine ax_iret dX12_rocket_19 rfl rfl (Nat.le_of_ble_eq_true rfl) (Nat.le_of_ble_eq_true rfl) ?_
    have e9 : nwA W a b c e = (-1, W) := by unfold nwA; rw [if_pos c_7]
    rw [e9]
    exact ⟨rfl, rfl, rfl, mS_refl, hv⟩
  · refine ax_iload dX12_rocket_10 rfl ?_
    refine ax_cSv dX12_rocket_12 lk_X12_121 (c_X12_isPerson e) rfl rfl (Nat.le_of_ble_eq_true rfl) (Nat.le_of_ble_eq_true rfl) (Nat.le_of_ble_eq_true rfl) (Nat.le_of_ble_eq_true rfl) ?_
    refine ax_if_ne (tgt := 20) dX12_rocket_15 (by decide) (fun c_15 => ?_) (fun c_15 => ?_)
    · refine ax_iload_n (i := 2) dX12_rocket_20 rfl rfl ?_
      refine ax_iconst (v := 0) dX12_rocket_21 (by decide) ?_
      refine ax_bipush (v := 9) dX12_rocket_22 (by decide) ?_
      refine ax_cSv dX12_rocket_24 lk_X12_117 (c_X12_within b 0 9) rfl rfl (Nat.le_of_ble_eq_true rfl) (Nat.le_of_ble_eq_true rfl) (Nat.le_of_ble_eq_true rfl) (Nat.le_of_ble_eq_true rfl) ?_
      refine ax_if_eq (tgt := 40) dX12_rocket_27 (by decide) (fun c_27 => ?_) (fun c_27 => ?_)
      · refine ax_bipush (v := (-2)) dX12_rocket_40 (by decide) ?_
        refine ax_iret dX12_rocket_42 rfl rfl (Nat.le_of_ble_eq_true rfl) (Nat.le_of_ble_eq_true rfl) ?_
        have e9 : nwA W a b c e = (-2, W) := by unfold nwA; rw [if_neg c_7, if_neg c_15, if_pos c_27]
        rw [e9]
        exact ⟨rfl, rfl, rfl, mS_refl, hv⟩
      · refine ax_iload_n (i := 3) dX12_rocket_30 rfl rfl ?_
        refine ax_iconst (v := 0) dX12_rocket_31 (by decide) ?_
        refine ax_bipush (v := 20) dX12_rocket_32 (by decide) ?_
        refine ax_cSv dX12_rocket_34 lk_X12_117 (c_X12_within c 0 20) rfl rfl (Nat.le_of_ble_eq_true rfl) (Nat.le_of_ble_eq_true rfl) (Nat.le_of_ble_eq_true rfl) (Nat.le_of_ble_eq_true rfl) ?_
        refine ax_if_ne (tgt := 43) dX12_rocket_37 (by decide) (fun c_37 => ?_) (fun c_37 => ?_)
        · refine ax_aload_n (i := 0) dX12_rocket_43 rfl rfl ?_
          refine ax_getI dX12_rocket_44 fl_X12_114 rfl (OKs hZ rfl) ?_
          refine ax_bipush (v := 6) dX12_rocket_47 (by decide) ?_
          refine ax_icmp_ne (tgt := 55) dX12_rocket_49 (by decide) (fun c_49 => ?_) (fun c_49 => ?_)
          · have hm6 : W.m < 6 := by
              rcases Nat.lt_or_ge W.m 6 with q | q
              · exact q
              · exact absurd (hv.1.trans (by rw [show W.m = 6 by have := ho.1; omega]; rfl)) c_49
            refine ax_aload_n (i := 0) dX12_rocket_55 rfl rfl ?_
            refine ax_getR dX12_rocket_56 fl_X12_18 rfl (OKs hZ rfl) (OKr hZ rfl) ?_
            refine ax_aload_n (i := 0) dX12_rocket_59 rfl rfl ?_
            refine ax_getI dX12_rocket_60 fl_X12_114 rfl (OKs hZ rfl) ?_
            refine ax_iload_n (i := 1) dX12_rocket_63 rfl rfl ?_
            refine ax_iastN W.m dX12_rocket_64 (OKs hZ rfl) (by exact hv.1) hm6 (by decide) ?_
            refine ax_aload_n (i := 0) dX12_rocket_65 rfl rfl ?_
            refine ax_getR dX12_rocket_66 fl_X12_21 rfl (OKs hZ rfl) (OKr hZ rfl) ?_
            refine ax_aload_n (i := 0) dX12_rocket_69 rfl rfl ?_
            refine ax_getI dX12_rocket_70 fl_X12_114 rfl (OKs hZ rfl) ?_
            refine ax_iload_n (i := 2) dX12_rocket_73 rfl rfl ?_
            refine ax_iastN W.m dX12_rocket_74 (OKs hZ rfl) (by rw [up2_k (by decide)]; exact hv.1) hm6 (by decide) ?_
            refine ax_aload_n (i := 0) dX12_rocket_75 rfl rfl ?_
            refine ax_getR dX12_rocket_76 fl_X12_24 rfl (OKs hZ rfl) (OKr hZ rfl) ?_
            refine ax_aload_n (i := 0) dX12_rocket_79 rfl rfl ?_
            refine ax_getI dX12_rocket_80 fl_X12_114 rfl (OKs hZ rfl) ?_
            refine ax_iload_n (i := 3) dX12_rocket_83 rfl rfl ?_
            refine ax_iastN W.m dX12_rocket_84 (OKs hZ rfl) (by rw [up2_k (by decide), up2_k (by decide)]; exact hv.1) hm6 (by decide) ?_
            refine ax_aload_n (i := 0) dX12_rocket_85 rfl rfl ?_
            refine ax_getR dX12_rocket_86 fl_X12_27 rfl (OKs hZ rfl) (OKr hZ rfl) ?_
            refine ax_aload_n (i := 0) dX12_rocket_89 rfl rfl ?_
            refine ax_getI dX12_rocket_90 fl_X12_114 rfl (OKs hZ rfl) ?_
            refine ax_iload dX12_rocket_93 rfl ?_
            refine ax_iastN W.m dX12_rocket_95 (OKs hZ rfl) (by rw [up2_k (by decide), up2_k (by decide), up2_k (by decide)]; exact hv.1) hm6 (by decide) ?_
            refine ax_aload_n (i := 0) dX12_rocket_96 rfl rfl ?_
            refine ax_getR dX12_rocket_97 fl_X12_30 rfl (OKs hZ rfl) (OKr hZ rfl) ?_
            refine ax_aload_n (i := 0) dX12_rocket_100 rfl rfl ?_
            refine ax_getI dX12_rocket_101 fl_X12_114 rfl (OKs hZ rfl) ?_
            refine ax_iconst (v := 0) dX12_rocket_104 (by decide) ?_
            refine ax_iastN W.m dX12_rocket_105 (OKs hZ rfl) (by rw [up2_k (by decide), up2_k (by decide), up2_k (by decide), up2_k (by decide)]; exact hv.1) hm6 (by decide) ?_
            refine ax_aload_n (i := 0) dX12_rocket_106 rfl rfl ?_
            refine ax_getR dX12_rocket_107 fl_X12_33 rfl (OKs hZ rfl) (OKr hZ rfl) ?_
            refine ax_aload_n (i := 0) dX12_rocket_110 rfl rfl ?_
            refine ax_getI dX12_rocket_111 fl_X12_114 rfl (OKs hZ rfl) ?_
            refine ax_iconst (v := 0) dX12_rocket_114 (by decide) ?_
            refine ax_iastN W.m dX12_rocket_115 (OKs hZ rfl) (by rw [up2_k (by decide), up2_k (by decide), up2_k (by decide), up2_k (by decide), up2_k (by decide)]; exact hv.1) hm6 (by decide) ?_
            refine ax_iconst (v := 0) dX12_rocket_116 (by decide) ?_
            refine ax_istore dX12_rocket_117 (by decide) rfl ?_
            refine ax_lv [(0, .ref 75), (5, .int (nI 0))] ⟨rfl, rfl, trivial⟩ ?_
            have e9 : nwA W a b c e = (nI W.m, newV W a b c e) := by unfold nwA; rw [if_neg c_7, if_neg c_15, if_neg c_27, if_neg c_37, if_pos (show nI W.m < 6 from nI_lt (b := 6) hm6 (by decide))]
            rw [e9]
            have hc9 : (up2 (up2 (up2 (up2 (up2 (up2 G 78 W.m a) 79 W.m b) 80 W.m c) 81 W.m e) 82 W.m 0) 83 W.m 0) 75 2 = nI W.m := by rw [up2_k (by decide), up2_k (by decide), up2_k (by decide), up2_k (by decide), up2_k (by decide), up2_k (by decide)]; exact hv.1
            refine l_rocketM hZ hm6 hc9 ?_ 5 0 (by omega) (by omega) _ NR_0
            intro G9 h9
            have e75 : G9 75 2 = nI W.m := (congrFun (h9.1 75 (by decide)) 2).trans hc9
            refine ax_aload_n (i := 0) dX12_rocket_146 rfl rfl ?_
            refine ax_dup dX12_rocket_147 rfl ?_
            refine ax_getI dX12_rocket_148 fl_X12_114 rfl (OKs hZ rfl) ?_
            refine ax_top (congrArg Value.int e75) ?_
            refine ax_dup_x1 dX12_rocket_151 rfl rfl ?_
            refine ax_iconst (v := 1) dX12_rocket_152 (by decide) ?_
            refine ax_iadd dX12_rocket_153 ?_
            refine ax_putI dX12_rocket_154 fl_X12_114 (Or.inl fp_X12_12_2) rfl rfl rfl (OKs hZ rfl) ?_
            refine ax_iret dX12_rocket_157 rfl rfl (Nat.le_of_ble_eq_true rfl) (Nat.le_of_ble_eq_true rfl) ?_
            obtain ⟨z1, z2⟩ := vM_new hv hm6 h9 (nI_1 W.m)
            exact ⟨rfl, rfl, rfl, z2, z1⟩
          · refine ax_bipush (v := (-4)) dX12_rocket_52 (by decide) ?_
            refine ax_iret dX12_rocket_54 rfl rfl (Nat.le_of_ble_eq_true rfl) (Nat.le_of_ble_eq_true rfl) ?_
            have e9 : nwA W a b c e = (-4, W) := by unfold nwA; rw [if_neg c_7, if_neg c_15, if_neg c_27, if_neg c_37, if_neg (fun z => by rw [show nI W.m = 6 from hv.1.symm.trans c_49] at z; exact absurd z (by decide))]
            rw [e9]
            exact ⟨rfl, rfl, rfl, mS_refl, hv⟩
        · refine ax_bipush (v := (-2)) dX12_rocket_40 (by decide) ?_
          refine ax_iret dX12_rocket_42 rfl rfl (Nat.le_of_ble_eq_true rfl) (Nat.le_of_ble_eq_true rfl) ?_
          have e9 : nwA W a b c e = (-2, W) := by unfold nwA; rw [if_neg c_7, if_neg c_15, if_neg c_27, if_pos c_37]
          rw [e9]
          exact ⟨rfl, rfl, rfl, mS_refl, hv⟩
    · refine ax_iconst (v := (-1)) dX12_rocket_18 (by decide) ?_
      refine ax_iret dX12_rocket_19 rfl rfl (Nat.le_of_ble_eq_true rfl) (Nat.le_of_ble_eq_true rfl) ?_
      have e9 : nwA W a b c e = (-1, W) := by unfold nwA; rw [if_neg c_7, if_pos c_15]
      rw [e9]
      exact ⟨rfl, rfl, rfl, mS_refl, hv⟩
theorem y_rocket {Z : Zt} {G : Gt} {L : Lt} {W : Wv} {H : Hv} {I : Option (Wv × Hv)} {T : Nat × (Nat → Nat)} {R : Nat × (Nat → Int32)} {P : Pt9} {n9 : Nat} (hZ : OK Z) (ok : okA W H I T R P n9) (h : IM G L W H I T R P n9) (a b c e : Int32) : AC mX12_rocket 3 0 0 [.ref 75, .int a, .int b, .int c, .int e] Z G L (RP (.int (nwA W a b c e).1) (JQ Z G L (nwA W a b c e).2 H I T R P n9)) := w_MS h (k_rocketM hZ h.1 ok.1.1 a b c e)
def MHm (G G' : Gt) (H : Hv) : Prop := hM G' H ∧ (∀ a, ¬ (93 ≤ a ∧ a < 100) → a ≠ 75 → G' a = G a) ∧ ∀ i, i ≠ 27 → i ≠ 31 → i ≠ 34 → G' 75 i = G 75 i
theorem JQ_MH {Z : Zt} {G : Gt} {L : Lt} {W : Wv} {H : Hv} {I : Option (Wv × Hv)} {T : Nat × (Nat → Nat)} {R : Nat × (Nat → Int32)} {P : Pt9} {n9 : Nat} {G' : Gt} {H' : Hv} (h : IM G L W H I T R P n9) (m : MHm G G' H') : JQ Z G L W H' I T R P n9 Z G' L := by
  obtain ⟨m1, m2, m3⟩ := m
  obtain ⟨z1, z2⟩ := IM_MA (H' := H') h ⟨fun a x y z => m2 a (by omega) (by omega), fun i _ _ _ h1 h2 h3 _ _ => m3 i h1 h2 h3⟩ (vM_keep h.1 (fun a x y => m2 a (by omega) (by omega)) (fun i hi => m3 i (by omega) (by omega) (by omega))) m1
  exact ⟨rfl, z1, z2⟩
theorem mm_clrK {G : Gt} {H : Hv} (h : hM G H) : MHm G (up2 G 75 27 0) (clrK H) := by
  obtain ⟨⟨a1, a2⟩, ⟨a3, a4⟩, a5, a6⟩ := h
  refine ⟨⟨⟨up2_s, fun k hk => absurd hk (Nat.not_lt_zero k)⟩, ⟨?_, fun k hk => ?_⟩, ?_, fun k hk => ?_⟩, fun a _ h => up2_row h, fun i h _ _ => up2_i h⟩
  · rw [up2_i (by decide)]; exact a3
  · rw [up2_k (by decide), up2_k (by decide)]; exact a4 k hk
  · rw [up2_i (by decide)]; exact a5
  · rw [up2_k (by decide), up2_k (by decide)]; exact a6 k hk
theorem mm_clrP {G : Gt} {H : Hv} (h : hM G H) : MHm G (up2 G 75 31 0) (clrP H) := by
  obtain ⟨⟨a1, a2⟩, ⟨a3, a4⟩, a5, a6⟩ := h
  refine ⟨⟨⟨?_, fun k hk => ?_⟩, ⟨up2_s, fun k hk => absurd hk (Nat.not_lt_zero k)⟩, ?_, fun k hk => ?_⟩, fun a _ h => up2_row h, fun i _ h _ => up2_i h⟩
  · rw [up2_i (by decide)]; exact a1
  · rw [up2_k (by decide), up2_k (by decide), up2_k (by decide)]; exact a2 k hk
  · rw [up2_i (by decide)]; exact a5
  · rw [up2_k (by decide), up2_k (by decide)]; exact a6 k hk
theorem mm_clrB {G : Gt} {H : Hv} (h : hM G H) : MHm G (up2 G 75 34 0) (clrB H) := by
  obtain ⟨⟨a1, a2⟩, ⟨a3, a4⟩, a5, a6⟩ := h
  refine ⟨⟨⟨?_, fun k hk => ?_⟩, ⟨?_, fun k hk => ?_⟩, up2_s, fun k hk => absurd hk (Nat.not_lt_zero k)⟩, fun a _ h => up2_row h, fun i _ _ h => up2_i h⟩
  · rw [up2_i (by decide)]; exact a1
  · rw [up2_k (by decide), up2_k (by decide), up2_k (by decide)]; exact a2 k hk
  · rw [up2_i (by decide)]; exact a3
  · rw [up2_k (by decide), up2_k (by decide)]; exact a4 k hk
theorem mm_pushK {G : Gt} {H : Hv} (h : hM G H) (r m : Nat) (l : Int32) {v : Int32} (hv : v = nI (H.nk + 1)) : MHm G (up2 (up2 (up2 (up2 G 93 H.nk (nI r)) 94 H.nk (nI m)) 75 27 v) 95 H.nk l) (pushK H r m l) := by
  obtain ⟨⟨a1, a2⟩, ⟨a3, a4⟩, a5, a6⟩ := h
  have f : ∀ a, a ≠ 93 → a ≠ 94 → a ≠ 95 → a ≠ 75 → up2 (up2 (up2 (up2 G 93 H.nk (nI r)) 94 H.nk (nI m)) 75 27 v) 95 H.nk l a = G a := fun a h1 h2 h3 h4 => by
    rw [up2_row h3, up2_row h4, up2_row h2, up2_row h1]
  have g : ∀ i, i ≠ 27 → up2 (up2 (up2 (up2 G 93 H.nk (nI r)) 94 H.nk (nI m)) 75 27 v) 95 H.nk l 75 i = G 75 i := fun i hi => by
    rw [up2_k (by decide), up2_i hi, up2_k (by decide), up2_k (by decide)]
  refine ⟨⟨⟨?_, fun k hk => ?_⟩, ⟨?_, fun k hk => ?_⟩, ?_, fun k hk => ?_⟩, fun a h1 h2 => f a (by omega) (by omega) (by omega) h2, fun i h1 _ _ => g i h1⟩
  · rw [up2_k (by decide), up2_s]; exact hv
  · have hk : k < H.nk + 1 := hk
    show _ = nI (up1 H.k0 H.nk r k) ∧ _ = nI (up1 H.k1 H.nk m k) ∧ _ = up1 H.k2 H.nk l k
    by_cases e : k = H.nk
    · simp [up2, up1, e]
    · have := a2 k (by omega)
      simp [up2, up1, e]
      exact this
  · rw [g 31 (by decide)]; exact a3
  · rw [f 96 (by decide) (by decide) (by decide) (by decide), f 97 (by decide) (by decide) (by decide) (by decide)]; exact a4 k hk
  · rw [g 34 (by decide)]; exact a5
  · rw [f 98 (by decide) (by decide) (by decide) (by decide), f 99 (by decide) (by decide) (by decide) (by decide)]; exact a6 k hk
theorem mm_pushP {G : Gt} {H : Hv} (h : hM G H) (r m : Nat) {v : Int32} (hv : v = nI (H.np + 1)) : MHm G (up2 (up2 (up2 G 96 H.np (nI r)) 75 31 v) 97 H.np (nI m)) (pushP H r m) := by
  obtain ⟨⟨a1, a2⟩, ⟨a3, a4⟩, a5, a6⟩ := h
  have f : ∀ a, a ≠ 96 → a ≠ 97 → a ≠ 75 → up2 (up2 (up2 G 96 H.np (nI r)) 75 31 v) 97 H.np (nI m) a = G a := fun a h1 h2 h4 => by
    rw [up2_row h2, up2_row h4, up2_row h1]
  have g : ∀ i, i ≠ 31 → up2 (up2 (up2 G 96 H.np (nI r)) 75 31 v) 97 H.np (nI m) 75 i = G 75 i := fun i hi => by
    rw [up2_k (by decide), up2_i hi, up2_k (by decide)]
  refine ⟨⟨⟨?_, fun k hk => ?_⟩, ⟨?_, fun k hk => ?_⟩, ?_, fun k hk => ?_⟩, fun a h1 h2 => f a (by omega) (by omega) h2, fun i _ h1 _ => g i h1⟩
  · rw [g 27 (by decide)]; exact a1
  · rw [f 93 (by decide) (by decide) (by decide), f 94 (by decide) (by decide) (by decide), f 95 (by decide) (by decide) (by decide)]; exact a2 k hk
  · rw [up2_k (by decide), up2_s]; exact hv
  · have hk : k < H.np + 1 := hk
    show _ = nI (up1 H.p0 H.np r k) ∧ _ = nI (up1 H.p1 H.np m k)
    by_cases e : k = H.np
    · simp [up2, up1, e]
    · have := a4 k (by omega)
      simp [up2, up1, e]
      exact this
  · rw [g 34 (by decide)]; exact a5
  · rw [f 98 (by decide) (by decide) (by decide), f 99 (by decide) (by decide) (by decide)]; exact a6 k hk
theorem mm_pushB {G : Gt} {H : Hv} (h : hM G H) (r : Nat) (l : Int32) {v : Int32} (hv : v = nI (H.nb + 1)) : MHm G (up2 (up2 (up2 G 98 H.nb (nI r)) 75 34 v) 99 H.nb l) (pushB H r l) := by
  obtain ⟨⟨a1, a2⟩, ⟨a3, a4⟩, a5, a6⟩ := h
  have f : ∀ a, a ≠ 98 → a ≠ 99 → a ≠ 75 → up2 (up2 (up2 G 98 H.nb (nI r)) 75 34 v) 99 H.nb l a = G a := fun a h1 h2 h4 => by
    rw [up2_row h2, up2_row h4, up2_row h1]
  have g : ∀ i, i ≠ 34 → up2 (up2 (up2 G 98 H.nb (nI r)) 75 34 v) 99 H.nb l 75 i = G 75 i := fun i hi => by
    rw [up2_k (by decide), up2_i hi, up2_k (by decide)]
  refine ⟨⟨⟨?_, fun k hk => ?_⟩, ⟨?_, fun k hk => ?_⟩, ?_, fun k hk => ?_⟩, fun a h1 h2 => f a (by omega) (by omega) h2, fun i _ _ h1 => g i h1⟩
  · rw [g 27 (by decide)]; exact a1
  · rw [f 93 (by decide) (by decide) (by decide), f 94 (by decide) (by decide) (by decide), f 95 (by decide) (by decide) (by decide)]; exact a2 k hk
  · rw [g 31 (by decide)]; exact a3
  · rw [f 96 (by decide) (by decide) (by decide), f 97 (by decide) (by decide) (by decide)]; exact a4 k hk
  · rw [up2_k (by decide), up2_s]; exact hv
  · have hk : k < H.nb + 1 := hk
    show _ = nI (up1 H.b0 H.nb r k) ∧ _ = up1 H.b1 H.nb l k
    by_cases e : k = H.nb
    · simp [up2, up1, e]
    · have := a6 k (by omega)
      simp [up2, up1, e]
      exact this
theorem full_n {n m : Nat} (hn : n ≤ m) (hm : m < 1000) : nI n = nI m ↔ ¬ nI n < nI m := by
  rw [nI_eq (by omega) (by omega), nI_ltI (by omega) (by omega)]
  omega
theorem y_mark {Z : Zt} {G : Gt} {L : Lt} {W : Wv} {H : Hv} {I : Option (Wv × Hv)} {T : Nat × (Nat → Nat)} {R : Nat × (Nat → Int32)} {P : Pt9} {n9 : Nat} (hZ : OK Z) (ok : okA W H I T R P n9) (h : IM G L W H I T R P n9) (a n b : Int32) : AC mX12_mark 3 0 0 [.ref 75, .int a, .int n, .int b] Z G L (RP (.int (mkA W.m H a n b).1) (JQ Z G L W (mkA W.m H a n b).2 I T R P n9)) := by
  obtain ⟨⟨ho, h9⟩, hh, -⟩ := id ok
  obtain ⟨hv, hH, -⟩ := id h
  have hk5 := hh.1
  refine AC.weaken (c_X12_mark hZ ⟨H.nk, hk5, hH.1.1⟩ a n b) ?_
  rintro r Z' G' L' ⟨rfl, rfl, rfl, rfl⟩
  unfold r_X12_mark g_X12_mark mkA
  simp only [up2_k (show (75 : Nat) ≠ 93 by decide), up2_k (show (75 : Nat) ≠ 94 by decide), up2_k (show (75 : Nat) ≠ 95 by decide), up2_s]
  rw [hv.1, hH.1.1, nI_clamp (by omega), nI_1]
  by_cases c0 : a = -1
  · simp only [if_pos c0]; exact ⟨rfl, JQ_MH h (mm_clrK hH)⟩
  simp only [if_neg c0]
  by_cases c1 : wi a 0 (nI W.m - 1) = 0
  · simp only [if_pos c1]; exact ⟨rfl, JQ_same h⟩
  simp only [if_neg c1]
  by_cases c2 : wi n 0 12 = 0
  · simp only [if_pos c2]; exact ⟨rfl, JQ_same h⟩
  simp only [if_neg c2]
  by_cases c3 : wi b 0 999 = 0
  · simp only [if_pos c3]; exact ⟨rfl, JQ_same h⟩
  simp only [if_neg c3]
  by_cases c4 : nI H.nk = 5
  · simp only [if_pos c4, if_neg (show ¬ nI H.nk < 5 from (full_n (m := 5) hk5 (by decide)).mp c4)]; exact ⟨rfl, JQ_same h⟩
  simp only [if_neg c4, if_pos (show nI H.nk < 5 from Decidable.not_not.mp (mt (full_n (m := 5) hk5 (by decide)).mpr c4))]
  obtain ⟨p, hp, rfl⟩ := has_p ho.1 c1
  obtain ⟨q, hq, rfl⟩ := wi_n (k := 12) (by decide) c2
  have hm6 := ho.1
  rw [nI_clamp (show p < 2 ^ 31 by omega), nI_clamp (show q < 2 ^ 31 by omega)]
  exact ⟨rfl, JQ_MH h (mm_pushK hH p q b rfl)⟩
theorem y_book {Z : Zt} {G : Gt} {L : Lt} {W : Wv} {H : Hv} {I : Option (Wv × Hv)} {T : Nat × (Nat → Nat)} {R : Nat × (Nat → Int32)} {P : Pt9} {n9 : Nat} (hZ : OK Z) (ok : okA W H I T R P n9) (h : IM G L W H I T R P n9) (a b : Int32) : AC mX12_book 3 0 0 [.ref 75, .int a, .int b] Z G L (RP (.int (boA W.m H a b).1) (JQ Z G L W (boA W.m H a b).2 I T R P n9)) := by
  obtain ⟨⟨ho, h9⟩, hh, -⟩ := id ok
  obtain ⟨hv, hH, -⟩ := id h
  have hk5 := hh.2.2.2.2.1
  refine AC.weaken (c_X12_book hZ ⟨H.nb, hk5, hH.2.2.1⟩ a b) ?_
  rintro r Z' G' L' ⟨rfl, rfl, rfl, rfl⟩
  unfold r_X12_book g_X12_book boA
  simp only [up2_k (show (75 : Nat) ≠ 98 by decide), up2_k (show (75 : Nat) ≠ 99 by decide), up2_s]
  rw [hv.1, hH.2.2.1, nI_clamp (by omega), nI_1]
  by_cases c0 : a = -1
  · simp only [if_pos c0]; exact ⟨rfl, JQ_MH h (mm_clrB hH)⟩
  simp only [if_neg c0]
  by_cases c1 : wi a 0 (nI W.m - 1) = 0
  · simp only [if_pos c1]; exact ⟨rfl, JQ_same h⟩
  simp only [if_neg c1]
  by_cases c2 : wi b 0 99 = 0
  · simp only [if_pos c2]; exact ⟨rfl, JQ_same h⟩
  simp only [if_neg c2]
  by_cases c4 : nI H.nb = 8
  · simp only [if_pos c4, if_neg (show ¬ nI H.nb < 8 from (full_n (m := 8) hk5 (by decide)).mp c4)]; exact ⟨rfl, JQ_same h⟩
  simp only [if_neg c4, if_pos (show nI H.nb < 8 from Decidable.not_not.mp (mt (full_n (m := 8) hk5 (by decide)).mpr c4))]
  obtain ⟨p, hp, rfl⟩ := has_p ho.1 c1
  have hm6 := ho.1
  rw [nI_clamp (show p < 2 ^ 31 by omega)]
  exact ⟨rfl, JQ_MH h (mm_pushB hH p b rfl)⟩
theorem y_plan {Z : Zt} {G : Gt} {L : Lt} {W : Wv} {H : Hv} {I : Option (Wv × Hv)} {T : Nat × (Nat → Nat)} {R : Nat × (Nat → Int32)} {P : Pt9} {n9 : Nat} (hZ : OK Z) (ok : okA W H I T R P n9) (h : IM G L W H I T R P n9) (a b : Int32) : AC mX12_plan 3 0 0 [.ref 75, .int a, .int b] Z G L (RP (.int (plA W.m H a b).1) (JQ Z G L W (plA W.m H a b).2 I T R P n9)) := by
  obtain ⟨⟨ho, h9⟩, hh, -⟩ := id ok
  obtain ⟨hv, hH, -⟩ := id h
  have hk5 := hh.2.2.1
  refine AC.weaken (c_X12_plan hZ ⟨H.np, hk5, hH.2.1.1⟩ a b) ?_
  rintro r Z' G' L' ⟨rfl, rfl, rfl, rfl⟩
  unfold r_X12_plan g_X12_plan plA
  simp only [up2_k (show (75 : Nat) ≠ 96 by decide), up2_k (show (75 : Nat) ≠ 97 by decide), up2_s]
  rw [hv.1, hH.2.1.1, nI_clamp (by omega), nI_1]
  by_cases c0 : a = -1
  · simp only [if_pos c0]; exact ⟨rfl, JQ_MH h (mm_clrP hH)⟩
  simp only [if_neg c0]
  by_cases c1 : wi a 0 3 = 0
  · simp only [if_pos c1]; exact ⟨rfl, JQ_same h⟩
  simp only [if_neg c1]
  obtain ⟨j, hj, rfl⟩ := wi_n (k := 3) (by decide) c1
  by_cases j0 : j = 0
  · subst j0
    simp only [if_pos (show nI 0 ≤ 0 by decide), if_pos (show nI 0 = 0 from rfl)]
    by_cases c4 : nI H.np = 10
    · simp only [if_pos c4, if_neg (show ¬ nI H.np < 10 from (full_n (m := 10) hk5 (by decide)).mp c4)]; exact ⟨rfl, JQ_same h⟩
    simp only [if_neg c4, if_pos (show nI H.np < 10 from Decidable.not_not.mp (mt (full_n (m := 10) hk5 (by decide)).mpr c4))]
    exact ⟨rfl, JQ_MH h (mm_pushP hH 0 0 rfl)⟩
  have n0 : ¬ nI j = 0 := fun z => j0 ((nI_eq (by omega) (by decide)).mp (show nI j = nI 0 from z))
  have n1 : ¬ nI j ≤ 0 := fun z => j0 (Nat.le_zero.mp ((nI_leI (by omega) (by decide)).mp (show nI j ≤ nI 0 from z)))
  simp only [if_neg n0, if_neg n1]
  by_cases c3 : wi b 0 (nI W.m - 1) = 0
  · simp only [if_pos c3]; exact ⟨rfl, JQ_same h⟩
  simp only [if_neg c3]
  by_cases c4 : nI H.np = 10
  · simp only [if_pos c4, if_neg (show ¬ nI H.np < 10 from (full_n (m := 10) hk5 (by decide)).mp c4)]; exact ⟨rfl, JQ_same h⟩
  simp only [if_neg c4, if_pos (show nI H.np < 10 from Decidable.not_not.mp (mt (full_n (m := 10) hk5 (by decide)).mpr c4))]
  obtain ⟨p, hp, rfl⟩ := has_p ho.1 c3
  have hm6 := ho.1
  rw [nI_clamp (show j < 2 ^ 31 by omega), nI_clamp (show p < 2 ^ 31 by omega)]
  exact ⟨rfl, JQ_MH h (mm_pushP hH j p rfl)⟩
theorem l_lookedM {Z : Zt} {G : Gt} {L : Lt} {W : Wv} (hZ : OK Z) (hv : vM G W) (ho : okW W) {H : Hv} (hH : hM G H) (hh : okH W.m H) (x : Int32) : ∀ (r k : Nat), k + r = H.nb → x = fst0 (fun k => decide (¬ W.C (H.b0 k) 4 = H.b1 k)) r k → AX none mX12_looked 1 0 0 0 0 2 [(0, .ref 75), (1, .int (nI k))] [] Z G L (RQ (.int x) Z G L) := by
  have hm6 := ho.1
  have hk5 := hh.2.2.2.2.1
  intro r
  induction r with
  | zero =>
    intro k h1 hend
    refine ax_iload_n (i := 1) dX12_looked_2 rfl rfl ?_
    refine ax_aload_n (i := 0) dX12_looked_3 rfl rfl ?_
    refine ax_getI dX12_looked_4 fl_X12_311 rfl (OKs hZ rfl) ?_
    refine ax_top (congrArg Value.int hH.2.2.1) ?_
    refine ax_icmp_ge (tgt := 38) dX12_looked_7 (by decide) (fun c_7 => ?_) (fun c_7 => ?_)
    · refine ax_bipush (v := (-5)) dX12_looked_38 (by decide) ?_
      refine ax_iret dX12_looked_40 rfl rfl (Nat.le_of_ble_eq_true rfl) (Nat.le_of_ble_eq_true rfl) ?_
      exact ⟨congrArg (fun z => some (Value.int z)) hend.symm, rfl, rfl, rfl⟩
    · exact absurd (nI_le (by omega) (by omega)) c_7
  | succ r ih =>
    intro k h1 hend
    refine ax_iload_n (i := 1) dX12_looked_2 rfl rfl ?_
    refine ax_aload_n (i := 0) dX12_looked_3 rfl rfl ?_
    refine ax_getI dX12_looked_4 fl_X12_311 rfl (OKs hZ rfl) ?_
    refine ax_top (congrArg Value.int hH.2.2.1) ?_
    refine ax_icmp_ge (tgt := 38) dX12_looked_7 (by decide) (fun c_7 => ?_) (fun c_7 => ?_)
    · exact absurd ((nI_leI (by omega) (by omega)).mp c_7) (by omega)
    · refine ax_aload_n (i := 0) dX12_looked_10 rfl rfl ?_
      refine ax_getR dX12_looked_11 fl_X12_30 rfl (OKs hZ rfl) (OKr hZ rfl) ?_
      refine ax_aload_n (i := 0) dX12_looked_14 rfl rfl ?_
      refine ax_getR dX12_looked_15 fl_X12_79 rfl (OKs hZ rfl) (OKr hZ rfl) ?_
      refine ax_iload_n (i := 1) dX12_looked_18 rfl rfl ?_
      refine ax_ialdN k dX12_looked_19 (OKs hZ rfl) rfl (show k < 8 by omega) (by decide) ?_
      refine ax_top (congrArg Value.int (hH.2.2.2 k (by omega)).1) ?_
      refine ax_ialdN (H.b0 k) dX12_looked_20 (OKs hZ rfl) rfl (show H.b0 k < 6 by have := hh.2.2.2.2.2 k (by omega); omega) (by decide) ?_
      refine ax_top (congrArg Value.int (show G 82 (H.b0 k) = W.C (H.b0 k) 4 from (hv.2.2.1 (H.b0 k) (hh.2.2.2.2.2 k (by omega))).1 4 (by decide))) ?_
      refine ax_aload_n (i := 0) dX12_looked_21 rfl rfl ?_
      refine ax_getR dX12_looked_22 fl_X12_82 rfl (OKs hZ rfl) (OKr hZ rfl) ?_
      refine ax_iload_n (i := 1) dX12_looked_25 rfl rfl ?_
      refine ax_ialdN k dX12_looked_26 (OKs hZ rfl) rfl (show k < 8 by omega) (by decide) ?_
      refine ax_top (congrArg Value.int (hH.2.2.2 k (by omega)).2) ?_
      refine ax_icmp_eq (tgt := 32) dX12_looked_27 (by decide) (fun c_27 => ?_) (fun c_27 => ?_)
      · refine ax_iinc (v := (nI k) + 1) dX12_looked_32 rfl rfl (by decide) rfl ?_
        refine ax_goto (tgt := 2) dX12_looked_35 (by decide) ?_
        refine ax_lv [(0, .ref 75), (1, .int (nI (k + 1)))] ⟨rfl, sI (nI_1 k), trivial⟩ ?_
        exact ih (k + 1) (by omega) (hend.trans (by rw [fst0, if_neg (by rw [decide_eq_true_iff, Decidable.not_not]; exact c_27)]))
      · refine ax_iload_n (i := 1) dX12_looked_30 rfl rfl ?_
        refine ax_iret dX12_looked_31 rfl rfl (Nat.le_of_ble_eq_true rfl) (Nat.le_of_ble_eq_true rfl) ?_
        exact ⟨congrArg (fun z => some (Value.int z)) (hend.trans (by rw [fst0, if_pos (decide_eq_true c_27)])).symm, rfl, rfl, rfl⟩
theorem k_lookedM {Z : Zt} {G : Gt} {L : Lt} {W : Wv} (hZ : OK Z) (hv : vM G W) (ho : okW W) {H : Hv} (hH : hM G H) (hh : okH W.m H) : AC mX12_looked 1 0 0 [.ref 75] Z G L (RQ (.int (fst0 (fun k => decide (¬ W.C (H.b0 k) 4 = H.b1 k)) H.nb 0)) Z G L) := by
  refine AC.intro (by decide +kernel) (Nat.le_of_ble_eq_true rfl) ?_
  refine ax_lv [(0, .ref 75)] ⟨rfl, trivial⟩ ?_
  refine ax_iconst (v := 0) dX12_looked_0 (by decide) ?_
  refine ax_istore_n (i := 1) dX12_looked_1 rfl (by decide) rfl ?_
  refine ax_lv [(0, .ref 75), (1, .int (nI 0))] ⟨rfl, rfl, trivial⟩ ?_
  exact l_lookedM hZ hv ho hH hh _ H.nb 0 (by omega) rfl
theorem y_looked {Z : Zt} {G : Gt} {L : Lt} {W : Wv} {H : Hv} {I : Option (Wv × Hv)} {T : Nat × (Nat → Nat)} {R : Nat × (Nat → Int32)} {P : Pt9} {n9 : Nat} (hZ : OK Z) (ok : okA W H I T R P n9) (h : IM G L W H I T R P n9)  : AC mX12_looked 1 0 0 [.ref 75] Z G L (RP (.int (fst0 (fun k => decide (¬ W.C (H.b0 k) 4 = H.b1 k)) H.nb 0)) (JQ Z G L W H I T R P n9)) := by
  obtain ⟨⟨ho, h9⟩, hh, -⟩ := id ok
  obtain ⟨hv, hH, -⟩ := id h
  exact w_JR h (k_lookedM hZ hv ho hH hh)
theorem y_image {Z : Zt} {G : Gt} {L : Lt} {W : Wv} {H : Hv} {I : Option (Wv × Hv)} {T : Nat × (Nat → Nat)} {R : Nat × (Nat → Int32)} {P : Pt9} {n9 : Nat} (hZ : OK Z) (ok : okA W H I T R P n9) (h : IM G L W H I T R P n9) : AC mX12_image 2 0 0 [.ref 75] Z G L (RP (.int (nI W.m)) (JQ Z G L W H (some (W, H)) T R P n9)) := by
  obtain ⟨⟨ho, h9⟩, hh, -⟩ := id ok
  obtain ⟨hv, hH, -, b4, b5, b6, b7⟩ := id h
  refine AC.intro (by decide +kernel) (Nat.le_of_ble_eq_true rfl) ?_
  refine ax_lv [(0, .ref 75)] ⟨rfl, trivial⟩ ?_
  refine ax_aload_n (i := 0) dX12_image_0 rfl rfl ?_
  refine ax_iconst (v := 1) dX12_image_1 (by decide) ?_
  refine ax_putI dX12_image_2 fl_X12_314 (Or.inl fp_X12_12_39) rfl rfl rfl (OKs hZ rfl) ?_
  refine ax_aload_n (i := 0) dX12_image_5 rfl rfl ?_
  refine ax_aload_n (i := 0) dX12_image_6 rfl rfl ?_
  refine ax_getR dX12_image_7 fl_X12_88 rfl (OKs hZ rfl) (OKr hZ rfl) ?_
  refine ax_cVq0 dX12_image_10 lk_X12_271 (k_keep hZ (Or.inl rfl) (vM_keep hv (fun a x y => up2_row (by omega)) (fun i hi => up2_i (by omega))) ho.1 (hM_keep hH (fun i hi => up2_i (by omega)) (fun a x y => up2_row (by omega))) hh) rfl (OKs hZ rfl) ⟨_, rfl, rfl⟩ rfl (Nat.le_of_ble_eq_true rfl) (Nat.le_of_ble_eq_true rfl) (Nat.le_of_ble_eq_true rfl) (Nat.le_of_ble_eq_true rfl) ?_
  rintro _ G1 _ ⟨rfl, rfl, f1, i1⟩
  refine ax_aload_n (i := 0) dX12_image_13 rfl rfl ?_
  refine ax_getI dX12_image_14 fl_X12_114 rfl (OKs hZ rfl) ?_
  refine ax_iret dX12_image_17 rfl rfl (Nat.le_of_ble_eq_true rfl) (Nat.le_of_ble_eq_true rfl) ?_
  refine ⟨congrArg (fun z => some (Value.int z)) (show G1 75 2 = _ from ?_), rfl, ?_, fun a ha => ⟨(f1 a (by omega)).trans (up2_row (by omega)), rfl⟩⟩
  · rw [f1 75 (by decide), up2_i (by decide)]; exact hv.1
  have g : ∀ a, a ≠ 101 → a ≠ 75 → G1 a = G a := fun a h1 h2 => (f1 a h1).trans (up2_row h2)
  have g75 : ∀ i, i ≠ 39 → G1 75 i = G 75 i := fun i hi => by rw [f1 75 (by decide), up2_i hi]
  exact ⟨vM_keep hv (fun a x y => g a (by omega) (by omega)) (fun i hi => g75 i (by omega)), hM_keep hH (fun i hi => g75 i (by omega)) (fun a x y => g a (by omega) (by omega)), ⟨by rw [f1 75 (by decide), up2_s], i1⟩, imT_keep b4 (g75 11 (by decide)) (g 85 (by decide) (by decide)), imR_keep b5 (g75 37 (by decide)) (g 100 (by decide) (by decide)), imP_keep b6 (g 105 (by decide) (by decide)) (g 106 (by decide) (by decide)) rfl, imN_keep b7 (g75 17 (by decide)) (g75 25 (by decide))⟩
theorem y_undo {Z : Zt} {G : Gt} {L : Lt} {W : Wv} {H : Hv} {I : Option (Wv × Hv)} {T : Nat × (Nat → Nat)} {R : Nat × (Nat → Int32)} {P : Pt9} {n9 : Nat} (hZ : OK Z) (ok : okA W H I T R P n9) (h : IM G L W H I T R P n9) : AC mX12_undo 2 0 0 [.ref 75] Z G L (RP (.int (unA W H I).1) (JQ Z G L (unA W H I).2.1 (unA W H I).2.2 I T R P n9)) := by
  have hI := h.2.2.1
  have oI := ok.2.2.1
  refine AC.intro (by decide +kernel) (Nat.le_of_ble_eq_true rfl) ?_
  refine ax_lv [(0, .ref 75)] ⟨rfl, trivial⟩ ?_
  cases I with
  | none =>
    refine ax_aload_n (i := 0) dX12_undo_0 rfl rfl ?_
    refine ax_getI dX12_undo_1 fl_X12_314 rfl (OKs hZ rfl) ?_
    refine ax_top (congrArg Value.int hI) ?_
    refine ax_if_ne (tgt := 10) dX12_undo_4 (by decide) (fun c_4 => ?_) (fun c_4 => ?_)
    · exact absurd rfl c_4
    · refine ax_bipush (v := (-3)) dX12_undo_7 (by decide) ?_
      refine ax_iret dX12_undo_9 rfl rfl (Nat.le_of_ble_eq_true rfl) (Nat.le_of_ble_eq_true rfl) ?_
      exact ⟨rfl, JQ_same h⟩
  | some q =>
    have oq := oI q rfl
    have iq := hI.2
    refine ax_aload_n (i := 0) dX12_undo_0 rfl rfl ?_
    refine ax_getI dX12_undo_1 fl_X12_314 rfl (OKs hZ rfl) ?_
    refine ax_top (congrArg Value.int hI.1) ?_
    refine ax_if_ne (tgt := 10) dX12_undo_4 (by decide) (fun c_4 => ?_) (fun c_4 => ?_)
    · refine ax_aload_n (i := 0) dX12_undo_10 rfl rfl ?_
      refine ax_aload_n (i := 0) dX12_undo_11 rfl rfl ?_
      refine ax_getR dX12_undo_12 fl_X12_88 rfl (OKs hZ rfl) (OKr hZ rfl) ?_
      refine ax_cVq0 dX12_undo_15 lk_X12_275 (k_again hZ (Or.inl rfl) oq.1.1 oq.2.2 iq) rfl (OKs hZ rfl) ⟨_, rfl, rfl⟩ rfl (Nat.le_of_ble_eq_true rfl) (Nat.le_of_ble_eq_true rfl) (Nat.le_of_ble_eq_true rfl) (Nat.le_of_ble_eq_true rfl) ?_
      rintro _ G1 _ ⟨rfl, rfl, a1, v1, h1⟩
      refine ax_aload_n (i := 0) dX12_undo_18 rfl rfl ?_
      refine ax_getI dX12_undo_19 fl_X12_114 rfl (OKs hZ rfl) ?_
      refine ax_iret dX12_undo_22 rfl rfl (Nat.le_of_ble_eq_true rfl) (Nat.le_of_ble_eq_true rfl) ?_
      obtain ⟨z1, z2⟩ := IM_MA h a1 v1 h1
      exact ⟨congrArg (fun z => some (Value.int z)) (show G1 75 2 = _ from v1.1), rfl, z1, z2⟩
    · exact absurd c_4 (by decide)
