-- ===== the model: between calls; of, told =====
-- what stands between calls: the model's side
def imI (G : Gt) (I : Option (Wv × Hv)) : Prop := match I with
  | none => G 75 39 = 0
  | some q => G 75 39 = 1 ∧ iM G 101 q.1 q.2
def imT (G : Gt) (T : Nat × (Nat → Nat)) : Prop := G 75 11 = nI T.1 ∧ ∀ i, i < T.1 → G 85 i = nI (T.2 i)
def imR (G : Gt) (R : Nat × (Nat → Int32)) : Prop := G 75 37 = nI R.1 ∧ ∀ i, i < 20 → i < R.1 → G 100 i = R.2 i
def imP (G : Gt) (L : Lt) (P : Pt9) : Prop := ∀ t, t < 6 → G 105 t = P.1 t ∧ G 106 t = nI (P.2.1 t) ∧ ∀ i, i < 60 → L 107 (60 * t + i) = P.2.2 t i
def imN (G : Gt) (n : Nat) : Prop := G 75 17 = nI n ∧ ∃ c, c ≤ 100 * n ∧ G 75 25 = nI c
def IM (G : Gt) (L : Lt) (W : Wv) (H : Hv) (I : Option (Wv × Hv)) (T : Nat × (Nat → Nat)) (R : Nat × (Nat → Int32)) (P : Pt9) (n : Nat) : Prop :=
  vM G W ∧ hM G H ∧ imI G I ∧ imT G T ∧ imR G R ∧ imP G L P ∧ imN G n
/-- the class's places are as they were -/
def fM (G : Gt) (L : Lt) (G' : Gt) (L' : Lt) : Prop := ∀ a, ¬ (75 ≤ a ∧ a < 108) → G' a = G a ∧ L' a = L a
theorem fM_refl {G : Gt} {L : Lt} : fM G L G L := fun _ _ => ⟨rfl, rfl⟩
abbrev JQ (Z : Zt) (G : Gt) (L : Lt) (W : Wv) (H : Hv) (I : Option (Wv × Hv)) (T : Nat × (Nat → Nat)) (R : Nat × (Nat → Int32)) (P : Pt9) (n : Nat) : Zt → Gt → Lt → Prop := fun Z' G' L' => Z' = Z ∧ IM G' L' W H I T R P n ∧ fM G L G' L'
/-- the values are as they must be -/
def okA (W : Wv) (H : Hv) (I : Option (Wv × Hv)) (T : Nat × (Nat → Nat)) (R : Nat × (Nat → Int32)) (P : Pt9) (n : Nat) : Prop := (okW W ∧ W.mm ≤ 9999) ∧ okH W.m H ∧ (∀ q, I = some q → okW q.1 ∧ q.1.mm ≤ 9999 ∧ okH q.1.m q.2) ∧ (T.1 ≤ 100 ∧ ∀ i, i < T.1 → T.2 i < 128) ∧ R.1 ≤ 100 ∧ (∀ t, t < 6 → (P.1 t = -1 ∨ ∃ s, s < 5 ∧ P.1 t = nI s) ∧ P.2.1 t ≤ 60 ∧ (P.1 t = -1 → P.2.1 t = 0)) ∧ n ≤ 6
theorem IC_ok {Z : Zt} {G : Gt} {L : Lt} {W : Wv} {H : Hv} {I : Option (Wv × Hv)} {T : Nat × (Nat → Nat)} {R : Nat × (Nat → Int32)} {P : Pt9} {n9 : Nat} (h : IC Z G L W H I T R P n9) : okA W H I T R P n9 := by
  obtain ⟨a0, a1, a2, a3, a4, a5, a6, a7⟩ := h
  refine ⟨a1.2, a2.2, fun q hq => ?_, ⟨a4.1, fun i hi => (a4.2.2 i hi).2⟩, a5.1, fun t ht => ⟨(a6 t ht).2.1, (a6 t ht).2.2.2.1, (a6 t ht).2.2.2.2.1⟩, a7.1⟩
  subst hq
  exact ⟨a3.2.2.1, a3.2.2.2.1, a3.2.2.2.2.2⟩
theorem IC_fM {Z : Zt} {G : Gt} {L : Lt} {W : Wv} {H : Hv} {I : Option (Wv × Hv)} {T : Nat × (Nat → Nat)} {R : Nat × (Nat → Int32)} {P : Pt9} {n9 : Nat} {G' : Gt} {L' : Lt} (h : IC Z G L W H I T R P n9) (f : fM G L G' L') : IC Z G' L' W H I T R P n9 := by
  obtain ⟨a0, a1, a2, a3, a4, a5, a6, a7⟩ := h
  have t4 : ∀ a, ¬ (75 ≤ a ∧ a < 108) → G' a = G a := fun a ha => (f a ha).1
  exact ⟨a0, ⟨vC_keep a1.1 a1.2.1.1 (fun a x y => t4 a (by omega)) rfl (fun _ _ h => h) (fun _ _ _ _ h => h) (fun a _ ha _ => t4 a (by omega)), a1.2⟩, ⟨hC_keep a2.1 (fun i _ => by rw [t4 24 (by omega)]) (fun a x y => t4 a (by omega)), a2.2⟩, icI_keep a3 (by rw [t4 0 (by omega)]) (fun a x y => t4 a (by omega)) rfl (fun k x e => e) (fun k i j hk e => e) (fun a x ha _ => t4 a (by omega)), icT_keep a4 (by rw [t4 1 (by omega)]) (t4 2 (by omega)), icR_keep a5 (by rw [t4 4 (by omega)]) (t4 5 (by omega)), icP_keep a6 (t4 7 (by omega)) (t4 8 (by omega)) (fun t ht => (f (10 + t) (by omega)).2), a7.1, (by rw [t4 0 (by omega)]; exact a7.2.1), a7.2.2⟩
theorem imT_keep {G G' : Gt} {T : Nat × (Nat → Nat)} (h : imT G T) (h1 : G' 75 11 = G 75 11) (h2 : G' 85 = G 85) : imT G' T := by
  unfold imT; rw [h1, h2]; exact h
theorem imR_keep {G G' : Gt} {R : Nat × (Nat → Int32)} (h : imR G R) (h1 : G' 75 37 = G 75 37) (h2 : G' 100 = G 100) : imR G' R := by
  unfold imR; rw [h1, h2]; exact h
theorem imP_keep {G G' : Gt} {L L' : Lt} {P : Pt9} (h : imP G L P) (h1 : G' 105 = G 105) (h2 : G' 106 = G 106) (h3 : L' 107 = L 107) : imP G' L' P := by
  unfold imP; rw [h1, h2, h3]; exact h
theorem imN_keep {G G' : Gt} {n : Nat} (h : imN G n) (h1 : G' 75 17 = G 75 17) (h2 : G' 75 25 = G 75 25) : imN G' n := by
  unfold imN; rw [h1, h2]; exact h
theorem imI_keep {G G' : Gt} {I : Option (Wv × Hv)} (h : imI G I) (h1 : G' 75 39 = G 75 39) (h2 : G' 101 = G 101) (h3 : ∀ a, 86 ≤ a → a < 92 → G' a = G a) (h17 : G' 75 17 = G 75 17) (h25 : G' 75 25 = G 75 25) : imI G' I := by
  cases I with
  | none => exact h1.trans h
  | some q => exact ⟨h1.trans h.1, iM_keep h.2 h2 h3 h17 h25⟩
theorem IM_fC {G : Gt} {L : Lt} {W : Wv} {H : Hv} {I : Option (Wv × Hv)} {T : Nat × (Nat → Nat)} {R : Nat × (Nat → Int32)} {P : Pt9} {n9 : Nat} {G' : Gt} {L' : Lt} (h : IM G L W H I T R P n9) (f : fC G L G' L') : IM G' L' W H I T R P n9 := by
  obtain ⟨b1, b2, b3, b4, b5, b6, b7⟩ := h
  have e : ∀ a, 75 ≤ a → a < 108 → G' a = G a := fun a x y => (f a x y).1
  have e75 := e 75 (by decide) (by decide)
  exact ⟨vM_keep b1 (fun a x y => e a (by omega) (by omega)) (fun i _ => by rw [e75]), hM_keep b2 (fun i _ => by rw [e75]) (fun a x y => e a (by omega) (by omega)), imI_keep b3 (by rw [e75]) (e 101 (by decide) (by decide)) (fun a x y => e a (by omega) (by omega)) (by rw [e75]) (by rw [e75]), imT_keep b4 (by rw [e75]) (e 85 (by decide) (by decide)), imR_keep b5 (by rw [e75]) (e 100 (by decide) (by decide)), imP_keep b6 (e 105 (by decide) (by decide)) (e 106 (by decide) (by decide)) ((f 107 (by decide) (by decide)).2), imN_keep b7 (by rw [e75]) (by rw [e75])⟩
theorem IM_MA {G : Gt} {L : Lt} {W : Wv} {H : Hv} {I : Option (Wv × Hv)} {T : Nat × (Nat → Nat)} {R : Nat × (Nat → Int32)} {P : Pt9} {n9 : Nat} {G' : Gt} {W' : Wv} {H' : Hv} (h : IM G L W H I T R P n9) (m : mA G G') (hv : vM G' W') (hH : hM G' H') : IM G' L W' H' I T R P n9 ∧ fM G L G' L := by
  obtain ⟨b1, b2, b3, b4, b5, b6, b7⟩ := h
  have e := m.1
  have g := m.2
  exact ⟨⟨hv, hH, imI_keep b3 (g 39 (by decide) (by decide) (by decide) (by decide) (by decide) (by decide) (by decide) (by decide)) (e 101 (by decide) (by decide) (by decide)) (fun a x y => e a (by omega) (by omega) (by omega)) (g 17 (by decide) (by decide) (by decide) (by decide) (by decide) (by decide) (by decide) (by decide)) (g 25 (by decide) (by decide) (by decide) (by decide) (by decide) (by decide) (by decide) (by decide)), imT_keep b4 (g 11 (by decide) (by decide) (by decide) (by decide) (by decide) (by decide) (by decide) (by decide)) (e 85 (by decide) (by decide) (by decide)), imR_keep b5 (g 37 (by decide) (by decide) (by decide) (by decide) (by decide) (by decide) (by decide) (by decide)) (e 100 (by decide) (by decide) (by decide)), imP_keep b6 (e 105 (by decide) (by decide) (by decide)) (e 106 (by decide) (by decide) (by decide)) rfl, imN_keep b7 (g 17 (by decide) (by decide) (by decide) (by decide) (by decide) (by decide) (by decide) (by decide)) (g 25 (by decide) (by decide) (by decide) (by decide) (by decide) (by decide) (by decide) (by decide))⟩, fun a ha => ⟨e a (by omega) (by omega) (by omega), rfl⟩⟩
theorem w_MA {M : Mt} {d mc ms : Nat} {av : List Value} {v : Value} {Z : Zt} {G : Gt} {L : Lt} {W : Wv} {H : Hv} {I : Option (Wv × Hv)} {T : Nat × (Nat → Nat)} {R : Nat × (Nat → Int32)} {P : Pt9} {n9 : Nat} (h : IM G L W H I T R P n9) (c : AC M d mc ms av Z G L (RP v (MA Z G L W H))) : AC M d mc ms av Z G L (RP v (JQ Z G L W H I T R P n9)) :=
  AC.weaken c (fun _ _ _ _ q => by obtain ⟨rfl, rfl, rfl, m, hv, hH⟩ := q; obtain ⟨z1, z2⟩ := IM_MA h m hv hH; exact ⟨rfl, rfl, z1, z2⟩)
theorem w_MS {M : Mt} {d mc ms : Nat} {av : List Value} {v : Value} {Z : Zt} {G : Gt} {L : Lt} {W : Wv} {H : Hv} {I : Option (Wv × Hv)} {T : Nat × (Nat → Nat)} {R : Nat × (Nat → Int32)} {P : Pt9} {n9 : Nat} {W' : Wv} (h : IM G L W H I T R P n9) (c : AC M d mc ms av Z G L (RP v (fun Z' G' L' => Z' = Z ∧ L' = L ∧ mS G G' ∧ vM G' W'))) : AC M d mc ms av Z G L (RP v (JQ Z G L W' H I T R P n9)) :=
  AC.weaken c (fun _ _ _ _ q => by obtain ⟨rfl, rfl, rfl, m, hv⟩ := q; obtain ⟨z1, z2⟩ := IM_MA h (mS_mA m) hv (mS_hM m h.2.1); exact ⟨rfl, rfl, z1, z2⟩)
theorem w_JR {M : Mt} {d mc ms : Nat} {av : List Value} {v : Value} {Z : Zt} {G : Gt} {L : Lt} {W : Wv} {H : Hv} {I : Option (Wv × Hv)} {T : Nat × (Nat → Nat)} {R : Nat × (Nat → Int32)} {P : Pt9} {n9 : Nat} (h : IM G L W H I T R P n9) (c : AC M d mc ms av Z G L (RQ v Z G L)) : AC M d mc ms av Z G L (RP v (JQ Z G L W H I T R P n9)) :=
  AC.weaken c (fun _ _ _ _ q => by obtain ⟨rfl, rfl, rfl, rfl⟩ := q; exact ⟨rfl, rfl, h, fM_refl⟩)
theorem bmV_light {W : Wv} {p : Nat} : ∀ n, lightV (minVN (bmV W p n).2 W) p = (bmV W p n).1
  | 0 => rfl
  | n + 1 => by
    unfold bmV
    by_cases c : lightV (minVN (n + 1) W) p ≤ (bmV W p n).1
    · rw [if_pos c]; exact bmV_light n
    · rw [if_neg c]
theorem of_out {b : Int32} (h : (((((((((((True ∧ ¬b = 0) ∧ ¬b = 1) ∧ ¬b = 2) ∧ ¬b = 3) ∧ ¬b = 4) ∧ ¬b = 5) ∧ ¬b = 6) ∧ ¬b = 7) ∧ ¬b = 8) ∧ ¬b = 9) ∧ ¬b = 10)) : wi b 0 10 = 0 := by
  by_cases c : wi b 0 10 = 0
  · exact c
  · obtain ⟨n, hn, rfl⟩ := wi_n (k := 10) (by decide) c
    exfalso
    obtain ⟨⟨⟨⟨⟨⟨⟨⟨⟨⟨⟨-, h0⟩, h1⟩, h2⟩, h3⟩, h4⟩, h5⟩, h6⟩, h7⟩, h8⟩, h9⟩, h10⟩ := h
    rcases (show n = 0 ∨ n = 1 ∨ n = 2 ∨ n = 3 ∨ n = 4 ∨ n = 5 ∨ n = 6 ∨ n = 7 ∨ n = 8 ∨ n = 9 ∨ n = 10 by omega) with rfl | rfl | rfl | rfl | rfl | rfl | rfl | rfl | rfl | rfl | rfl
    · exact h0 rfl
    · exact h1 rfl
    · exact h2 rfl
    · exact h3 rfl
    · exact h4 rfl
    · exact h5 rfl
    · exact h6 rfl
    · exact h7 rfl
    · exact h8 rfl
    · exact h9 rfl
    · exact h10 rfl
theorem k_ofM {Z : Zt} {G : Gt} {L : Lt} {W : Wv} (hZ : OK Z) (hv : vM G W) (ho : okW W) {H : Hv} (hH : hM G H) (hh : okH W.m H) (hm : W.mm + 20 < 20000) (a b : Int32) : AC mX12_of 8 0 0 [.ref 75, .int a, .int b] Z G L (RP (.int (ofV W H a b)) (MA Z G L W H)) := by
  refine AC.intro (by decide +kernel) (Nat.le_of_ble_eq_true rfl) ?_
  refine ax_lv [(0, .ref 75), (1, .int a), (2, .int b)] ⟨rfl, rfl, rfl, trivial⟩ ?_
  refine ax_aload_n (i := 0) dX12_of_0 rfl rfl ?_
  refine ax_iload_n (i := 1) dX12_of_1 rfl rfl ?_
  refine ax_cVv dX12_of_2 lk_X12_125 (c_X12_isOne hZ a) rfl (OKs hZ rfl) ⟨_, rfl, rfl⟩ rfl (Nat.le_of_ble_eq_true rfl) (Nat.le_of_ble_eq_true rfl) (Nat.le_of_ble_eq_true rfl) (Nat.le_of_ble_eq_true rfl) ?_
  refine ax_top (congrArg Value.int (show wi _ 0 (G 75 2 - 1) = wi _ 0 (nI W.m - 1) from by rw [hv.1])) ?_
  refine ax_if_ne (tgt := 12) dX12_of_5 (by decide) (fun c_5 => ?_) (fun c_5 => ?_)
  · obtain ⟨p, hp, rfl⟩ := has_p ho.1 c_5
    have hp6 : p < 6 := by have := ho.1; omega
    refine ax_iload_n (i := 2) dX12_of_12 rfl rfl ?_
    refine (Decidable.em (b = 0)).elim (fun e_13_0 => ?_) (fun e_13_0 => ?_)
    · refine ax_tin (off := 59) (tgt := 72) dX12_of_13 (by rw [e_13_0]; decide) (by rw [e_13_0]; decide) (by rw [e_13_0]; decide) (by decide) ?_
      subst e_13_0
      refine ax_aload_n (i := 0) dX12_of_72 rfl rfl ?_
      refine ax_getR dX12_of_73 fl_X12_18 rfl (OKs hZ rfl) (OKr hZ rfl) ?_
      refine ax_iload_n (i := 1) dX12_of_76 rfl rfl ?_
      refine ax_ialdN p dX12_of_77 (OKs hZ rfl) rfl hp6 (by decide) ?_
      refine ax_iret dX12_of_78 rfl rfl (Nat.le_of_ble_eq_true rfl) (Nat.le_of_ble_eq_true rfl) ?_
      have e9 : ofV W H (nI p) 0 = W.C p 0 := by
        unfold ofV
        rw [if_neg c_5, if_neg (show ¬ wi 0 0 10 = 0 by decide), nI_clamp (by omega)]
        unfold ofR
        rw [if_neg (show ¬ (0 : Int32) = 6 by decide), if_neg (show ¬ (0 : Int32) = 7 by decide), if_neg (show ¬ (0 : Int32) = 8 by decide), if_neg (show ¬ (0 : Int32) = 9 by decide), if_neg (show ¬ (0 : Int32) = 10 by decide)]
        rfl
      rw [e9]
      exact ⟨congrArg (fun z => some (Value.int z)) (show G 78 p = W.C p 0 from (hv.2.2.1 p hp).1 0 (by decide)), rfl, rfl, mA_refl, hv, hH⟩
    refine (Decidable.em (b = 1)).elim (fun e_13_1 => ?_) (fun e_13_1 => ?_)
    · refine ax_tin (off := 66) (tgt := 79) dX12_of_13 (by rw [e_13_1]; decide) (by rw [e_13_1]; decide) (by rw [e_13_1]; decide) (by decide) ?_
      subst e_13_1
      refine ax_aload_n (i := 0) dX12_of_79 rfl rfl ?_
      refine ax_getR dX12_of_80 fl_X12_21 rfl (OKs hZ rfl) (OKr hZ rfl) ?_
      refine ax_iload_n (i := 1) dX12_of_83 rfl rfl ?_
      refine ax_ialdN p dX12_of_84 (OKs hZ rfl) rfl hp6 (by decide) ?_
      refine ax_iret dX12_of_85 rfl rfl (Nat.le_of_ble_eq_true rfl) (Nat.le_of_ble_eq_true rfl) ?_
      have e9 : ofV W H (nI p) 1 = W.C p 1 := by
        unfold ofV
        rw [if_neg c_5, if_neg (show ¬ wi 1 0 10 = 0 by decide), nI_clamp (by omega)]
        unfold ofR
        rw [if_neg (show ¬ (1 : Int32) = 6 by decide), if_neg (show ¬ (1 : Int32) = 7 by decide), if_neg (show ¬ (1 : Int32) = 8 by decide), if_neg (show ¬ (1 : Int32) = 9 by decide), if_neg (show ¬ (1 : Int32) = 10 by decide)]
        rfl
      rw [e9]
      exact ⟨congrArg (fun z => some (Value.int z)) (show G 79 p = W.C p 1 from (hv.2.2.1 p hp).1 1 (by decide)), rfl, rfl, mA_refl, hv, hH⟩
    refine (Decidable.em (b = 2)).elim (fun e_13_2 => ?_) (fun e_13_2 => ?_)
    · refine ax_tin (off := 73) (tgt := 86) dX12_of_13 (by rw [e_13_2]; decide) (by rw [e_13_2]; decide) (by rw [e_13_2]; decide) (by decide) ?_
      subst e_13_2
      refine ax_aload_n (i := 0) dX12_of_86 rfl rfl ?_
      refine ax_getR dX12_of_87 fl_X12_24 rfl (OKs hZ rfl) (OKr hZ rfl) ?_
      refine ax_iload_n (i := 1) dX12_of_90 rfl rfl ?_
      refine ax_ialdN p dX12_of_91 (OKs hZ rfl) rfl hp6 (by decide) ?_
      refine ax_iret dX12_of_92 rfl rfl (Nat.le_of_ble_eq_true rfl) (Nat.le_of_ble_eq_true rfl) ?_
      have e9 : ofV W H (nI p) 2 = W.C p 2 := by
        unfold ofV
        rw [if_neg c_5, if_neg (show ¬ wi 2 0 10 = 0 by decide), nI_clamp (by omega)]
        unfold ofR
        rw [if_neg (show ¬ (2 : Int32) = 6 by decide), if_neg (show ¬ (2 : Int32) = 7 by decide), if_neg (show ¬ (2 : Int32) = 8 by decide), if_neg (show ¬ (2 : Int32) = 9 by decide), if_neg (show ¬ (2 : Int32) = 10 by decide)]
        rfl
      rw [e9]
      exact ⟨congrArg (fun z => some (Value.int z)) (show G 80 p = W.C p 2 from (hv.2.2.1 p hp).1 2 (by decide)), rfl, rfl, mA_refl, hv, hH⟩
    refine (Decidable.em (b = 3)).elim (fun e_13_3 => ?_) (fun e_13_3 => ?_)
    · refine ax_tin (off := 80) (tgt := 93) dX12_of_13 (by rw [e_13_3]; decide) (by rw [e_13_3]; decide) (by rw [e_13_3]; decide) (by decide) ?_
      subst e_13_3
      refine ax_aload_n (i := 0) dX12_of_93 rfl rfl ?_
      refine ax_getR dX12_of_94 fl_X12_27 rfl (OKs hZ rfl) (OKr hZ rfl) ?_
      refine ax_iload_n (i := 1) dX12_of_97 rfl rfl ?_
      refine ax_ialdN p dX12_of_98 (OKs hZ rfl) rfl hp6 (by decide) ?_
      refine ax_iret dX12_of_99 rfl rfl (Nat.le_of_ble_eq_true rfl) (Nat.le_of_ble_eq_true rfl) ?_
      have e9 : ofV W H (nI p) 3 = W.C p 3 := by
        unfold ofV
        rw [if_neg c_5, if_neg (show ¬ wi 3 0 10 = 0 by decide), nI_clamp (by omega)]
        unfold ofR
        rw [if_neg (show ¬ (3 : Int32) = 6 by decide), if_neg (show ¬ (3 : Int32) = 7 by decide), if_neg (show ¬ (3 : Int32) = 8 by decide), if_neg (show ¬ (3 : Int32) = 9 by decide), if_neg (show ¬ (3 : Int32) = 10 by decide)]
        rfl
      rw [e9]
      exact ⟨congrArg (fun z => some (Value.int z)) (show G 81 p = W.C p 3 from (hv.2.2.1 p hp).1 3 (by decide)), rfl, rfl, mA_refl, hv, hH⟩
    refine (Decidable.em (b = 4)).elim (fun e_13_4 => ?_) (fun e_13_4 => ?_)
    · refine ax_tin (off := 87) (tgt := 100) dX12_of_13 (by rw [e_13_4]; decide) (by rw [e_13_4]; decide) (by rw [e_13_4]; decide) (by decide) ?_
      subst e_13_4
      refine ax_aload_n (i := 0) dX12_of_100 rfl rfl ?_
      refine ax_getR dX12_of_101 fl_X12_30 rfl (OKs hZ rfl) (OKr hZ rfl) ?_
      refine ax_iload_n (i := 1) dX12_of_104 rfl rfl ?_
      refine ax_ialdN p dX12_of_105 (OKs hZ rfl) rfl hp6 (by decide) ?_
      refine ax_iret dX12_of_106 rfl rfl (Nat.le_of_ble_eq_true rfl) (Nat.le_of_ble_eq_true rfl) ?_
      have e9 : ofV W H (nI p) 4 = W.C p 4 := by
        unfold ofV
        rw [if_neg c_5, if_neg (show ¬ wi 4 0 10 = 0 by decide), nI_clamp (by omega)]
        unfold ofR
        rw [if_neg (show ¬ (4 : Int32) = 6 by decide), if_neg (show ¬ (4 : Int32) = 7 by decide), if_neg (show ¬ (4 : Int32) = 8 by decide), if_neg (show ¬ (4 : Int32) = 9 by decide), if_neg (show ¬ (4 : Int32) = 10 by decide)]
        rfl
      rw [e9]
      exact ⟨congrArg (fun z => some (Value.int z)) (show G 82 p = W.C p 4 from (hv.2.2.1 p hp).1 4 (by decide)), rfl, rfl, mA_refl, hv, hH⟩
    refine (Decidable.em (b = 5)).elim (fun e_13_5 => ?_) (fun e_13_5 => ?_)
    · refine ax_tin (off := 94) (tgt := 107) dX12_of_13 (by rw [e_13_5]; decide) (by rw [e_13_5]; decide) (by rw [e_13_5]; decide) (by decide) ?_
      subst e_13_5
      refine ax_aload_n (i := 0) dX12_of_107 rfl rfl ?_
      refine ax_getR dX12_of_108 fl_X12_33 rfl (OKs hZ rfl) (OKr hZ rfl) ?_
      refine ax_iload_n (i := 1) dX12_of_111 rfl rfl ?_
      refine ax_ialdN p dX12_of_112 (OKs hZ rfl) rfl hp6 (by decide) ?_
      refine ax_iret dX12_of_113 rfl rfl (Nat.le_of_ble_eq_true rfl) (Nat.le_of_ble_eq_true rfl) ?_
      have e9 : ofV W H (nI p) 5 = W.C p 5 := by
        unfold ofV
        rw [if_neg c_5, if_neg (show ¬ wi 5 0 10 = 0 by decide), nI_clamp (by omega)]
        unfold ofR
        rw [if_neg (show ¬ (5 : Int32) = 6 by decide), if_neg (show ¬ (5 : Int32) = 7 by decide), if_neg (show ¬ (5 : Int32) = 8 by decide), if_neg (show ¬ (5 : Int32) = 9 by decide), if_neg (show ¬ (5 : Int32) = 10 by decide)]
        rfl
      rw [e9]
      exact ⟨congrArg (fun z => some (Value.int z)) (show G 83 p = W.C p 5 from (hv.2.2.1 p hp).1 5 (by decide)), rfl, rfl, mA_refl, hv, hH⟩
    refine (Decidable.em (b = 6)).elim (fun e_13_6 => ?_) (fun e_13_6 => ?_)
    · refine ax_tin (off := 101) (tgt := 114) dX12_of_13 (by rw [e_13_6]; decide) (by rw [e_13_6]; decide) (by rw [e_13_6]; decide) (by decide) ?_
      subst e_13_6
      refine ax_aload_n (i := 0) dX12_of_114 rfl rfl ?_
      refine ax_iload_n (i := 1) dX12_of_115 rfl rfl ?_
      refine ax_cVq dX12_of_116 lk_X12_128 (k_lightOf hZ hv ho p hp) rfl (OKs hZ rfl) ⟨_, rfl, rfl⟩ rfl (Nat.le_of_ble_eq_true rfl) (Nat.le_of_ble_eq_true rfl) (Nat.le_of_ble_eq_true rfl) (Nat.le_of_ble_eq_true rfl) ?_
      rintro _ G1 _ ⟨rfl, rfl, f1⟩
      have hv1 := vM_f f1 hv
      have s1 := mS_f f1
      refine ax_iret dX12_of_119 rfl rfl (Nat.le_of_ble_eq_true rfl) (Nat.le_of_ble_eq_true rfl) ?_
      have e9 : ofV W H (nI p) 6 = lightV W p := by
        unfold ofV
        rw [if_neg c_5, if_neg (show ¬ wi 6 0 10 = 0 by decide), nI_clamp (by omega)]
        unfold ofR
        rw [if_pos (show (6 : Int32) = 6 from rfl)]
      rw [e9]
      exact ⟨rfl, rfl, rfl, mS_mA s1, hv1, mS_hM s1 hH⟩
    refine (Decidable.em (b = 7)).elim (fun e_13_7 => ?_) (fun e_13_7 => ?_)
    · refine ax_tin (off := 107) (tgt := 120) dX12_of_13 (by rw [e_13_7]; decide) (by rw [e_13_7]; decide) (by rw [e_13_7]; decide) (by decide) ?_
      subst e_13_7
      refine ax_aload_n (i := 0) dX12_of_120 rfl rfl ?_
      refine ax_iload_n (i := 1) dX12_of_121 rfl rfl ?_
      refine ax_iconst (v := 0) dX12_of_122 (by decide) ?_
      refine ax_cVq dX12_of_123 lk_X12_132 (k_brightest hZ hv ho hH hh hm p hp 0) rfl (OKs hZ rfl) ⟨_, rfl, rfl⟩ rfl (Nat.le_of_ble_eq_true rfl) (Nat.le_of_ble_eq_true rfl) (Nat.le_of_ble_eq_true rfl) (Nat.le_of_ble_eq_true rfl) ?_
      rintro _ G1 _ ⟨rfl, rfl, a'1, v1, h1⟩
      have a1 := mA_tr mA_refl a'1
      refine ax_iret dX12_of_126 rfl rfl (Nat.le_of_ble_eq_true rfl) (Nat.le_of_ble_eq_true rfl) ?_
      have e9 : ofV W H (nI p) 7 = nI (bmV W p 20).2 := by
        unfold ofV
        rw [if_neg c_5, if_neg (show ¬ wi 7 0 10 = 0 by decide), nI_clamp (by omega)]
        unfold ofR
        rw [if_neg (show ¬ (7 : Int32) = 6 by decide), if_pos (show (7 : Int32) = 7 from rfl)]
      rw [e9]
      exact ⟨congrArg (fun z => some (Value.int z)) (if_pos rfl), rfl, rfl, a1, v1, h1⟩
    refine (Decidable.em (b = 8)).elim (fun e_13_8 => ?_) (fun e_13_8 => ?_)
    · refine ax_tin (off := 114) (tgt := 127) dX12_of_13 (by rw [e_13_8]; decide) (by rw [e_13_8]; decide) (by rw [e_13_8]; decide) (by decide) ?_
      subst e_13_8
      refine ax_aload_n (i := 0) dX12_of_127 rfl rfl ?_
      refine ax_iload_n (i := 1) dX12_of_128 rfl rfl ?_
      refine ax_iconst (v := 1) dX12_of_129 (by decide) ?_
      refine ax_cVq dX12_of_130 lk_X12_132 (k_brightest hZ hv ho hH hh hm p hp 1) rfl (OKs hZ rfl) ⟨_, rfl, rfl⟩ rfl (Nat.le_of_ble_eq_true rfl) (Nat.le_of_ble_eq_true rfl) (Nat.le_of_ble_eq_true rfl) (Nat.le_of_ble_eq_true rfl) ?_
      rintro _ G1 _ ⟨rfl, rfl, a'1, v1, h1⟩
      have a1 := mA_tr mA_refl a'1
      refine ax_iret dX12_of_133 rfl rfl (Nat.le_of_ble_eq_true rfl) (Nat.le_of_ble_eq_true rfl) ?_
      have e9 : ofV W H (nI p) 8 = lightV (minVN (bmV W p 20).2 W) p := by
        unfold ofV
        rw [if_neg c_5, if_neg (show ¬ wi 8 0 10 = 0 by decide), nI_clamp (by omega)]
        unfold ofR
        rw [if_neg (show ¬ (8 : Int32) = 6 by decide), if_neg (show ¬ (8 : Int32) = 7 by decide), if_pos (show (8 : Int32) = 8 from rfl)]
      rw [e9]
      exact ⟨congrArg (fun z => some (Value.int z)) ((if_neg (by decide)).trans (bmV_light 20).symm), rfl, rfl, a1, v1, h1⟩
    refine (Decidable.em (b = 9)).elim (fun e_13_9 => ?_) (fun e_13_9 => ?_)
    · refine ax_tin (off := 121) (tgt := 134) dX12_of_13 (by rw [e_13_9]; decide) (by rw [e_13_9]; decide) (by rw [e_13_9]; decide) (by decide) ?_
      subst e_13_9
      refine ax_aload_n (i := 0) dX12_of_134 rfl rfl ?_
      refine ax_iload_n (i := 1) dX12_of_135 rfl rfl ?_
      refine ax_cVq dX12_of_136 lk_X12_136 (k_gift hZ hv ho hH hh p hp) rfl (OKs hZ rfl) ⟨_, rfl, rfl⟩ rfl (Nat.le_of_ble_eq_true rfl) (Nat.le_of_ble_eq_true rfl) (Nat.le_of_ble_eq_true rfl) (Nat.le_of_ble_eq_true rfl) ?_
      rintro _ G1 _ ⟨rfl, rfl, a'1, v1, h1⟩
      have a1 := mA_tr mA_refl a'1
      refine ax_iret dX12_of_139 rfl rfl (Nat.le_of_ble_eq_true rfl) (Nat.le_of_ble_eq_true rfl) ?_
      have e9 : ofV W H (nI p) 9 = (giV W p 4).1 := by
        unfold ofV
        rw [if_neg c_5, if_neg (show ¬ wi 9 0 10 = 0 by decide), nI_clamp (by omega)]
        unfold ofR
        rw [if_neg (show ¬ (9 : Int32) = 6 by decide), if_neg (show ¬ (9 : Int32) = 7 by decide), if_neg (show ¬ (9 : Int32) = 8 by decide), if_pos (show (9 : Int32) = 9 from rfl)]
      rw [e9]
      exact ⟨rfl, rfl, rfl, a1, v1, h1⟩
    refine (Decidable.em (b = 10)).elim (fun e_13_10 => ?_) (fun e_13_10 => ?_)
    · refine ax_tin (off := 127) (tgt := 140) dX12_of_13 (by rw [e_13_10]; decide) (by rw [e_13_10]; decide) (by rw [e_13_10]; decide) (by decide) ?_
      subst e_13_10
      refine ax_aload_n (i := 0) dX12_of_140 rfl rfl ?_
      refine ax_iload_n (i := 1) dX12_of_141 rfl rfl ?_
      refine ax_cVq dX12_of_142 lk_X12_139 (k_sizes hZ hv ho hH hh hm p hp) rfl (OKs hZ rfl) ⟨_, rfl, rfl⟩ rfl (Nat.le_of_ble_eq_true rfl) (Nat.le_of_ble_eq_true rfl) (Nat.le_of_ble_eq_true rfl) (Nat.le_of_ble_eq_true rfl) ?_
      rintro _ G1 _ ⟨rfl, rfl, a'1, v1, h1⟩
      have a1 := mA_tr mA_refl a'1
      refine ax_iret dX12_of_145 rfl rfl (Nat.le_of_ble_eq_true rfl) (Nat.le_of_ble_eq_true rfl) ?_
      have e9 : ofV W H (nI p) 10 = fiV W H p 2 21 := by
        unfold ofV
        rw [if_neg c_5, if_neg (show ¬ wi 10 0 10 = 0 by decide), nI_clamp (by omega)]
        unfold ofR
        rw [if_neg (show ¬ (10 : Int32) = 6 by decide), if_neg (show ¬ (10 : Int32) = 7 by decide), if_neg (show ¬ (10 : Int32) = 8 by decide), if_neg (show ¬ (10 : Int32) = 9 by decide), if_pos (show (10 : Int32) = 10 from rfl)]
      rw [e9]
      exact ⟨rfl, rfl, rfl, a1, v1, h1⟩
    refine ax_tout (tgt := 146) dX12_of_13 (sw_out 11 (by decide) (by decide) ⟨⟨⟨⟨⟨⟨⟨⟨⟨⟨⟨trivial, e_13_0⟩, e_13_1⟩, e_13_2⟩, e_13_3⟩, e_13_4⟩, e_13_5⟩, e_13_6⟩, e_13_7⟩, e_13_8⟩, e_13_9⟩, e_13_10⟩) (by decide) ?_
    refine ax_sipush (v := (-10001)) dX12_of_146 (by decide) ?_
    refine ax_iret dX12_of_149 rfl rfl (Nat.le_of_ble_eq_true rfl) (Nat.le_of_ble_eq_true rfl) ?_
    have e9 : ofV W H (nI p) b = -10001 := by unfold ofV; rw [if_neg c_5, if_pos (of_out ⟨⟨⟨⟨⟨⟨⟨⟨⟨⟨⟨trivial, e_13_0⟩, e_13_1⟩, e_13_2⟩, e_13_3⟩, e_13_4⟩, e_13_5⟩, e_13_6⟩, e_13_7⟩, e_13_8⟩, e_13_9⟩, e_13_10⟩)]
    rw [e9]
    exact ⟨rfl, rfl, rfl, mA_refl, hv, hH⟩
  · refine ax_sipush (v := (-10001)) dX12_of_8 (by decide) ?_
    refine ax_iret dX12_of_11 rfl rfl (Nat.le_of_ble_eq_true rfl) (Nat.le_of_ble_eq_true rfl) ?_
    have e9 : ofV W H a b = -10001 := by unfold ofV; rw [if_pos c_5]
    rw [e9]
    exact ⟨rfl, rfl, rfl, mA_refl, hv, hH⟩
theorem fd_small : ∀ j, j < 40 → r_fdiv (fun _ _ => 0) (fun _ _ => 0) (nI j) 10 = nI (j / 10) ∧ r_fmod (fun _ _ => 0) (fun _ _ => 0) (nI j) 10 = nI (j % 10) := by decide +kernel
theorem fd_out {G : Gt} {L : Lt} {a : Int32} (h : a.toInt < 0 ∨ 40 ≤ a.toInt) : (r_fdiv G L a 10).toInt < 0 ∨ 4 ≤ (r_fdiv G L a 10).toInt := by
  obtain ⟨f1, f2, f3, f4, f5⟩ := tm_facts a.toInt
  have e := (rem_i a).2
  have hlo := Int32.le_toInt a
  have hhi := Int32.toInt_lt a
  unfold r_fdiv
  by_cases c : (0 : Int32) ≤ a ^^^ 10
  · rw [if_pos c, e]
    have := le0.mp ((x10 a).mp c)
    right
    omega
  · rw [if_neg c]
    have hn : ¬ 0 ≤ a.toInt := fun h => c ((x10 a).mpr (le0.mpr h))
    left
    by_cases d : a / 10 * 10 = a
    · have z : a.toInt.tmod 10 = 0 := by rw [← (rem_i a).1, d, Int32.sub_self]; rfl
      rw [if_pos d, e]
      have := f5 (by omega)
      omega
    · rw [if_neg d, Int32.toInt_sub, e]
      show (a.toInt.tdiv 10 - 1).bmod (2 ^ 32) < 0
      have := f5 (by omega)
      rw [bmod_in (by omega) (by omega)]
      omega
theorem told_s {W : Wv} {j : Nat} (h : j < 40) : toldV W (nI j) = toR W (nI (j / 10)) (nI (j % 10)) := by
  unfold toldV
  rw [(fd_small j h).1, (fd_small j h).2]
theorem wi_off {a : Int32} {o k : Nat} (ho : o < 1000) (hk : k < 4) (h : a = nI (o + k)) : ¬ wi (a - nI o) 0 3 = 0 := by
  subst h
  rw [pk_sub (by omega), Nat.add_sub_cancel_left]
  exact bi_ne.mpr ⟨nI_pos (by omega), fun z => by have := (nI_ltI (by decide) (by omega)).mp (show nI 3 < nI k from z); omega⟩
theorem wi_offE {a : Int32} {o : Nat} (h : ¬ wi (a - nI o) 0 3 = 0) : ∃ k, k < 4 ∧ a = nI (o + k) := by
  obtain ⟨k, hk, e⟩ := wi_n (k := 3) (by decide) h
  exact ⟨k, by omega, by rw [← nI_add, ← e, Int32.add_comm]; exact (Int32.sub_add_cancel a (nI o)).symm⟩
theorem wi_1013 {a : Int32} : wi a 10 13 = wi (a - nI 10) 0 3 := by
  by_cases c : wi (a - nI 10) 0 3 = 0
  · rw [c]
    refine bi_f (fun z => ?_)
    have h1 := Int32.not_lt.mp z.1
    have h2 := Int32.not_lt.mp z.2
    have i1 : (10 : Int) ≤ a.toInt := Int32.le_iff_toInt_le.mp h1
    have i2 : a.toInt ≤ 13 := Int32.le_iff_toInt_le.mp h2
    have ea : a = nI (10 + (a.toInt - 10).toNat) := by
      apply Int32.toInt_inj.mp
      rw [nI_toInt (by omega)]
      omega
    exact wi_off (o := 10) (by decide) (by omega) ea c
  · obtain ⟨k, hk, rfl⟩ := wi_offE c
    have e1 : wi (nI (10 + k)) 10 13 = 1 := bi_t ⟨nI_nlt (a := 10 + k) (b := 10) (by omega) (by omega), nI_nlt (a := 13) (b := 10 + k) (by omega) (by omega)⟩
    have e2 : wi (nI (10 + k) - nI 10) 0 3 = 1 := bi_t (bi_ne.mp c)
    rw [e1, e2]
theorem told_out {W : Wv} {a : Int32} (h1 : wi a 10 13 = 0) (h2 : wi (a - 20) 0 3 = 0) (h3 : wi (a - 30) 0 3 = 0) (h : (((((True ∧ ¬a = 0) ∧ ¬a = 1) ∧ ¬a = 2) ∧ ¬a = 3) ∧ ¬a = 4) ∧ ¬a = 5) : toldV W a = -1 := by
  by_cases c : a.toInt < 0 ∨ 40 ≤ a.toInt
  · have f := fd_out (G := fun _ _ => 0) (L := fun _ _ => 0) c
    unfold toldV toR
    have ne : ∀ k : Nat, k < 4 → ¬ r_fdiv (fun _ _ => 0) (fun _ _ => 0) a 10 = nI k := fun k hk z => by
      rw [z, nI_toInt (by omega)] at f
      omega
    have m0 : ¬ r_fdiv (fun _ _ => 0) (fun _ _ => 0) a 10 = 0 := ne 0 (by decide)
    have m1 : ¬ r_fdiv (fun _ _ => 0) (fun _ _ => 0) a 10 = 1 := ne 1 (by decide)
    have m2 : ¬ r_fdiv (fun _ _ => 0) (fun _ _ => 0) a 10 = 2 := ne 2 (by decide)
    have m3 : ¬ r_fdiv (fun _ _ => 0) (fun _ _ => 0) a 10 = 3 := ne 3 (by decide)
    rw [if_neg m0, if_neg m1, if_neg m2, if_neg m3]
  · obtain ⟨j, hj, rfl⟩ : ∃ j, j < 40 ∧ a = nI j := ⟨a.toInt.toNat, by omega, by apply Int32.toInt_inj.mp; rw [nI_toInt (by omega)]; omega⟩
    rw [told_s hj]
    rw [wi_1013] at h1
    obtain ⟨⟨⟨⟨⟨⟨-, n0⟩, n1⟩, n2⟩, n3⟩, n4⟩, n5⟩ := h
    have q1 : ¬ (10 ≤ j ∧ j < 14) := fun z => wi_off (o := 10) (k := j - 10) (by decide) (by omega) (by rw [show 10 + (j - 10) = j by omega]) h1
    have q2 : ¬ (20 ≤ j ∧ j < 24) := fun z => wi_off (o := 20) (k := j - 20) (by decide) (by omega) (by rw [show 20 + (j - 20) = j by omega]) h2
    have q3 : ¬ (30 ≤ j ∧ j < 34) := fun z => wi_off (o := 30) (k := j - 30) (by decide) (by omega) (by rw [show 30 + (j - 30) = j by omega]) h3
    unfold toR
    by_cases g0 : j / 10 = 0
    · rw [g0, if_pos (show nI 0 = (0 : Int32) from rfl), show j % 10 = j by omega]
      unfold taV
      rw [if_neg n0, if_neg n1, if_neg n2, if_neg n3, if_neg n4, if_neg n5]
    have m4 : (4 : Int32) ≤ nI (j % 10) := nI_le (a := 4) (by omega) (by omega)
    rcases (show j / 10 = 1 ∨ j / 10 = 2 ∨ j / 10 = 3 by omega) with e | e | e
    · rw [e, if_neg (show ¬ nI 1 = (0 : Int32) by decide), if_pos (show nI 1 = (1 : Int32) from rfl), if_pos m4]
    · rw [e, if_neg (show ¬ nI 2 = (0 : Int32) by decide), if_neg (show ¬ nI 2 = (1 : Int32) by decide), if_pos (show nI 2 = (2 : Int32) from rfl), if_pos m4]
    · rw [e, if_neg (show ¬ nI 3 = (0 : Int32) by decide), if_neg (show ¬ nI 3 = (1 : Int32) by decide), if_neg (show ¬ nI 3 = (2 : Int32) by decide), if_pos (show nI 3 = (3 : Int32) from rfl), if_pos m4]
theorem told_g {W : Wv} {g k : Nat} (hg : g = 1 ∨ g = 2 ∨ g = 3) (hk : k < 4) : toldV W (nI (10 * g + k)) = if g = 1 then W.rn k else if g = 2 then W.gr k else (enV W k 64).1 := by
  rw [told_s (by omega), show (10 * g + k) / 10 = g by omega, show (10 * g + k) % 10 = k by omega]
  unfold toR
  have m4 : ¬ (4 : Int32) ≤ nI k := nI_ge (b := 4) hk (by decide)
  rcases hg with rfl | rfl | rfl
  · rw [if_neg (show ¬ nI 1 = (0 : Int32) by decide), if_pos (show nI 1 = (1 : Int32) from rfl), if_neg m4, nI_clamp (by omega), if_pos rfl]
  · rw [if_neg (show ¬ nI 2 = (0 : Int32) by decide), if_neg (show ¬ nI 2 = (1 : Int32) by decide), if_pos (show nI 2 = (2 : Int32) from rfl), if_neg m4, nI_clamp (by omega), if_neg (show ¬ (2 : Nat) = 1 by decide), if_pos rfl]
  · rw [if_neg (show ¬ nI 3 = (0 : Int32) by decide), if_neg (show ¬ nI 3 = (1 : Int32) by decide), if_neg (show ¬ nI 3 = (2 : Int32) by decide), if_pos (show nI 3 = (3 : Int32) from rfl), if_neg m4, nI_clamp (by omega), if_neg (show ¬ (3 : Nat) = 1 by decide), if_neg (show ¬ (3 : Nat) = 2 by decide)]
theorem told_0 {W : Wv} {k : Nat} (hk : k < 10) : toldV W (nI k) = taV W (nI k) := by
  rw [told_s (by omega), show k / 10 = 0 by omega, show k % 10 = k by omega]
  unfold toR
  rw [if_pos (show nI 0 = (0 : Int32) from rfl)]
theorem k_toldM {Z : Zt} {G : Gt} {L : Lt} {W : Wv} (hZ : OK Z) (hv : vM G W) (ho : okW W) {H : Hv} (hH : hM G H) (hh : okH W.m H) (a : Int32) : AC mX12_told 8 0 0 [.ref 75, .int a] Z G L (RP (.int (toldV W a)) (MA Z G L W H)) := by
  refine AC.intro (by decide +kernel) (Nat.le_of_ble_eq_true rfl) ?_
  refine ax_lv [(0, .ref 75), (1, .int a)] ⟨rfl, rfl, trivial⟩ ?_
  refine ax_iload_n (i := 1) dX12_told_0 rfl rfl ?_
  refine ax_bipush (v := 10) dX12_told_1 (by decide) ?_
  refine ax_bipush (v := 13) dX12_told_3 (by decide) ?_
  refine ax_cSv dX12_told_5 lk_X12_117 (c_X12_within a 10 13) rfl rfl (Nat.le_of_ble_eq_true rfl) (Nat.le_of_ble_eq_true rfl) (Nat.le_of_ble_eq_true rfl) (Nat.le_of_ble_eq_true rfl) ?_
  refine ax_if_eq (tgt := 21) dX12_told_8 (by decide) (fun c_8 => ?_) (fun c_8 => ?_)
  · refine ax_iload_n (i := 1) dX12_told_21 rfl rfl ?_
    refine ax_bipush (v := 20) dX12_told_22 (by decide) ?_
    refine ax_isub dX12_told_24 ?_
    refine ax_cSv dX12_told_25 lk_X12_121 (c_X12_isPerson (a - 20)) rfl rfl (Nat.le_of_ble_eq_true rfl) (Nat.le_of_ble_eq_true rfl) (Nat.le_of_ble_eq_true rfl) (Nat.le_of_ble_eq_true rfl) ?_
    refine ax_if_eq (tgt := 41) dX12_told_28 (by decide) (fun c_28 => ?_) (fun c_28 => ?_)
    · refine ax_iload_n (i := 1) dX12_told_41 rfl rfl ?_
      refine ax_bipush (v := 30) dX12_told_42 (by decide) ?_
      refine ax_isub dX12_told_44 ?_
      refine ax_cSv dX12_told_45 lk_X12_121 (c_X12_isPerson (a - 30)) rfl rfl (Nat.le_of_ble_eq_true rfl) (Nat.le_of_ble_eq_true rfl) (Nat.le_of_ble_eq_true rfl) (Nat.le_of_ble_eq_true rfl) ?_
      refine ax_if_eq (tgt := 60) dX12_told_48 (by decide) (fun c_48 => ?_) (fun c_48 => ?_)
      · refine ax_iload_n (i := 1) dX12_told_60 rfl rfl ?_
        refine (Decidable.em (a = 0)).elim (fun e_61_0 => ?_) (fun e_61_0 => ?_)
        · refine ax_tin (off := 39) (tgt := 100) dX12_told_61 (by rw [e_61_0]; decide) (by rw [e_61_0]; decide) (by rw [e_61_0]; decide) (by decide) ?_
          subst e_61_0
          refine ax_aload_n (i := 0) dX12_told_100 rfl rfl ?_
          refine ax_getI dX12_told_101 fl_X12_224 rfl (OKs hZ rfl) ?_
          refine ax_iret dX12_told_104 rfl rfl (Nat.le_of_ble_eq_true rfl) (Nat.le_of_ble_eq_true rfl) ?_
          rw [show toldV W 0 = _ from told_0 (k := 0) (by decide)]
          exact ⟨congrArg (fun z => some (Value.int z)) ((hv.2.1).trans (Eq.symm (show taV W (nI 0) = _ from by unfold taV; rw [if_pos (by decide)]))), rfl, rfl, mA_refl, hv, hH⟩
        refine (Decidable.em (a = 1)).elim (fun e_61_1 => ?_) (fun e_61_1 => ?_)
        · refine ax_tin (off := 44) (tgt := 105) dX12_told_61 (by rw [e_61_1]; decide) (by rw [e_61_1]; decide) (by rw [e_61_1]; decide) (by decide) ?_
          subst e_61_1
          refine ax_aload_n (i := 0) dX12_told_105 rfl rfl ?_
          refine ax_cVv dX12_told_106 lk_X12_253 (k_dryBy hZ hv.2.2.2.2.2.1) rfl (OKs hZ rfl) ⟨_, rfl, rfl⟩ rfl (Nat.le_of_ble_eq_true rfl) (Nat.le_of_ble_eq_true rfl) (Nat.le_of_ble_eq_true rfl) (Nat.le_of_ble_eq_true rfl) ?_
          refine ax_iret dX12_told_109 rfl rfl (Nat.le_of_ble_eq_true rfl) (Nat.le_of_ble_eq_true rfl) ?_
          rw [show toldV W 1 = _ from told_0 (k := 1) (by decide)]
          exact ⟨congrArg (fun z => some (Value.int z)) ((hv.2.2.2.2.2.2.1).trans (Eq.symm (show taV W (nI 1) = _ from by unfold taV; rw [if_neg (by decide)]; rw [if_pos (by decide)]))), rfl, rfl, mA_refl, hv, hH⟩
        refine (Decidable.em (a = 2)).elim (fun e_61_2 => ?_) (fun e_61_2 => ?_)
        · refine ax_tin (off := 49) (tgt := 110) dX12_told_61 (by rw [e_61_2]; decide) (by rw [e_61_2]; decide) (by rw [e_61_2]; decide) (by decide) ?_
          subst e_61_2
          refine ax_aload_n (i := 0) dX12_told_110 rfl rfl ?_
          refine ax_cVv dX12_told_111 lk_X12_262 (c_X12_even hZ) rfl (OKs hZ rfl) ⟨_, rfl, rfl⟩ rfl (Nat.le_of_ble_eq_true rfl) (Nat.le_of_ble_eq_true rfl) (Nat.le_of_ble_eq_true rfl) (Nat.le_of_ble_eq_true rfl) ?_
          refine ax_iret dX12_told_114 rfl rfl (Nat.le_of_ble_eq_true rfl) (Nat.le_of_ble_eq_true rfl) ?_
          rw [show toldV W 2 = _ from told_0 (k := 2) (by decide)]
          exact ⟨congrArg (fun z => some (Value.int z)) ((evenB_congr (g := W.gr) 4 (fun q hq => hv.2.2.2.1 q hq)).trans (Eq.symm (show taV W (nI 2) = _ from by unfold taV; rw [if_neg (by decide)]; rw [if_neg (by decide)]; rw [if_pos (by decide)]))), rfl, rfl, mA_refl, hv, hH⟩
        refine (Decidable.em (a = 3)).elim (fun e_61_3 => ?_) (fun e_61_3 => ?_)
        · refine ax_tin (off := 54) (tgt := 115) dX12_told_61 (by rw [e_61_3]; decide) (by rw [e_61_3]; decide) (by rw [e_61_3]; decide) (by decide) ?_
          subst e_61_3
          refine ax_aload_n (i := 0) dX12_told_115 rfl rfl ?_
          refine ax_cVv dX12_told_116 lk_X12_265 (c_X12_allGrief hZ) rfl (OKs hZ rfl) ⟨_, rfl, rfl⟩ rfl (Nat.le_of_ble_eq_true rfl) (Nat.le_of_ble_eq_true rfl) (Nat.le_of_ble_eq_true rfl) (Nat.le_of_ble_eq_true rfl) ?_
          refine ax_iret dX12_told_119 rfl rfl (Nat.le_of_ble_eq_true rfl) (Nat.le_of_ble_eq_true rfl) ?_
          rw [show toldV W 3 = _ from told_0 (k := 3) (by decide)]
          exact ⟨congrArg (fun z => some (Value.int z)) ((sumB_congr (g := W.gr) 4 (fun q hq => hv.2.2.2.1 q hq)).trans (Eq.symm (show taV W (nI 3) = _ from by unfold taV; rw [if_neg (by decide)]; rw [if_neg (by decide)]; rw [if_neg (by decide)]; rw [if_pos (by decide)]))), rfl, rfl, mA_refl, hv, hH⟩
        refine (Decidable.em (a = 4)).elim (fun e_61_4 => ?_) (fun e_61_4 => ?_)
        · refine ax_tin (off := 59) (tgt := 120) dX12_told_61 (by rw [e_61_4]; decide) (by rw [e_61_4]; decide) (by rw [e_61_4]; decide) (by decide) ?_
          subst e_61_4
          refine ax_aload_n (i := 0) dX12_told_120 rfl rfl ?_
          refine ax_iconst (v := 0) dX12_told_121 (by decide) ?_
          refine ax_cVv dX12_told_122 lk_X12_237 (c_X12_areSo hZ ho.1 hv.1 0) rfl (OKs hZ rfl) ⟨_, rfl, rfl⟩ rfl (Nat.le_of_ble_eq_true rfl) (Nat.le_of_ble_eq_true rfl) (Nat.le_of_ble_eq_true rfl) (Nat.le_of_ble_eq_true rfl) ?_
          refine ax_iret dX12_told_125 rfl rfl (Nat.le_of_ble_eq_true rfl) (Nat.le_of_ble_eq_true rfl) ?_
          rw [show toldV W 4 = _ from told_0 (k := 4) (by decide)]
          exact ⟨congrArg (fun z => some (Value.int z)) ((inB_congr (g := fun p => W.C p 5) W.m (fun q hq => (hv.2.2.1 q hq).1 5 (by decide))).trans (Eq.symm (show taV W (nI 4) = _ from by unfold taV; rw [if_neg (by decide)]; rw [if_neg (by decide)]; rw [if_neg (by decide)]; rw [if_neg (by decide)]; rw [if_pos (by decide)]))), rfl, rfl, mA_refl, hv, hH⟩
        refine (Decidable.em (a = 5)).elim (fun e_61_5 => ?_) (fun e_61_5 => ?_)
        · refine ax_tin (off := 65) (tgt := 126) dX12_told_61 (by rw [e_61_5]; decide) (by rw [e_61_5]; decide) (by rw [e_61_5]; decide) (by decide) ?_
          subst e_61_5
          refine ax_aload_n (i := 0) dX12_told_126 rfl rfl ?_
          refine ax_iconst (v := 2) dX12_told_127 (by decide) ?_
          refine ax_cVv dX12_told_128 lk_X12_237 (c_X12_areSo hZ ho.1 hv.1 2) rfl (OKs hZ rfl) ⟨_, rfl, rfl⟩ rfl (Nat.le_of_ble_eq_true rfl) (Nat.le_of_ble_eq_true rfl) (Nat.le_of_ble_eq_true rfl) (Nat.le_of_ble_eq_true rfl) ?_
          refine ax_iret dX12_told_131 rfl rfl (Nat.le_of_ble_eq_true rfl) (Nat.le_of_ble_eq_true rfl) ?_
          rw [show toldV W 5 = _ from told_0 (k := 5) (by decide)]
          exact ⟨congrArg (fun z => some (Value.int z)) ((inB_congr (g := fun p => W.C p 5) W.m (fun q hq => (hv.2.2.1 q hq).1 5 (by decide))).trans (Eq.symm (show taV W (nI 5) = _ from by unfold taV; rw [if_neg (by decide)]; rw [if_neg (by decide)]; rw [if_neg (by decide)]; rw [if_neg (by decide)]; rw [if_neg (by decide)]; rw [if_pos (by decide)]))), rfl, rfl, mA_refl, hv, hH⟩
        refine ax_tout (tgt := 132) dX12_told_61 (sw_out 6 (by decide) (by decide) ⟨⟨⟨⟨⟨⟨trivial, e_61_0⟩, e_61_1⟩, e_61_2⟩, e_61_3⟩, e_61_4⟩, e_61_5⟩) (by decide) ?_
        refine ax_iconst (v := (-1)) dX12_told_132 (by decide) ?_
        refine ax_iret dX12_told_133 rfl rfl (Nat.le_of_ble_eq_true rfl) (Nat.le_of_ble_eq_true rfl) ?_
        exact ⟨congrArg (fun z => some (Value.int z)) (told_out c_8 c_28 c_48 ⟨⟨⟨⟨⟨⟨trivial, e_61_0⟩, e_61_1⟩, e_61_2⟩, e_61_3⟩, e_61_4⟩, e_61_5⟩).symm, rfl, rfl, mA_refl, hv, hH⟩
      · obtain ⟨k, hk, rfl⟩ := wi_offE (o := 30) c_48
        refine ax_aload_n (i := 0) dX12_told_51 rfl rfl ?_
        refine ax_iload_n (i := 1) dX12_told_52 rfl rfl ?_
        refine ax_bipush (v := 30) dX12_told_53 (by decide) ?_
        refine ax_isub dX12_told_55 ?_
        refine ax_top (congrArg Value.int (show nI (30 + k) - 30 = nI k from (pk_sub (a := 30 + k) (b := 30) (by omega)).trans (by rw [Nat.add_sub_cancel_left]))) ?_
        refine ax_cVq dX12_told_56 lk_X12_259 (k_enough hZ hv ho hH hh k hk) rfl (OKs hZ rfl) ⟨_, rfl, rfl⟩ rfl (Nat.le_of_ble_eq_true rfl) (Nat.le_of_ble_eq_true rfl) (Nat.le_of_ble_eq_true rfl) (Nat.le_of_ble_eq_true rfl) ?_
        rintro _ G1 _ ⟨rfl, rfl, a'1, v1, h1⟩
        have a1 := mA_tr mA_refl a'1
        refine ax_iret dX12_told_59 rfl rfl (Nat.le_of_ble_eq_true rfl) (Nat.le_of_ble_eq_true rfl) ?_
        exact ⟨congrArg (fun z => some (Value.int z)) ((told_g (g := 3) (Or.inr (Or.inr rfl)) hk).trans ((if_neg (by decide)).trans (if_neg (by decide)))).symm, rfl, rfl, a1, v1, h1⟩
    · obtain ⟨k, hk, rfl⟩ := wi_offE (o := 20) c_28
      refine ax_aload_n (i := 0) dX12_told_31 rfl rfl ?_
      refine ax_getR dX12_told_32 fl_X12_9 rfl (OKs hZ rfl) (OKr hZ rfl) ?_
      refine ax_iload_n (i := 1) dX12_told_35 rfl rfl ?_
      refine ax_bipush (v := 20) dX12_told_36 (by decide) ?_
      refine ax_isub dX12_told_38 ?_
      refine ax_ialdN k dX12_told_39 (OKs hZ rfl) (show nI (20 + k) - 20 = nI k from (pk_sub (a := 20 + k) (b := 20) (by omega)).trans (by rw [Nat.add_sub_cancel_left])) hk (by decide) ?_
      refine ax_iret dX12_told_40 rfl rfl (Nat.le_of_ble_eq_true rfl) (Nat.le_of_ble_eq_true rfl) ?_
      exact ⟨congrArg (fun z => some (Value.int z)) ((hv.2.2.2.1 k hk).trans ((told_g (g := 2) (Or.inr (Or.inl rfl)) hk).trans ((if_neg (by decide)).trans (if_pos rfl))).symm), rfl, rfl, mA_refl, hv, hH⟩
  · obtain ⟨k, hk, rfl⟩ := wi_offE (o := 10) (by rw [← wi_1013]; exact c_8)
    refine ax_aload_n (i := 0) dX12_told_11 rfl rfl ?_
    refine ax_getR dX12_told_12 fl_X12_15 rfl (OKs hZ rfl) (OKr hZ rfl) ?_
    refine ax_iload_n (i := 1) dX12_told_15 rfl rfl ?_
    refine ax_bipush (v := 10) dX12_told_16 (by decide) ?_
    refine ax_isub dX12_told_18 ?_
    refine ax_ialdN k dX12_told_19 (OKs hZ rfl) (show nI (10 + k) - 10 = nI k from (pk_sub (a := 10 + k) (b := 10) (by omega)).trans (by rw [Nat.add_sub_cancel_left])) hk (by decide) ?_
    refine ax_iret dX12_told_20 rfl rfl (Nat.le_of_ble_eq_true rfl) (Nat.le_of_ble_eq_true rfl) ?_
    exact ⟨congrArg (fun z => some (Value.int z)) ((hv.2.2.2.2.1 k hk).trans ((told_g (g := 1) (Or.inl rfl) hk).trans (if_pos rfl)).symm), rfl, rfl, mA_refl, hv, hH⟩
theorem y_of {Z : Zt} {G : Gt} {L : Lt} {W : Wv} {H : Hv} {I : Option (Wv × Hv)} {T : Nat × (Nat → Nat)} {R : Nat × (Nat → Int32)} {P : Pt9} {n9 : Nat} (hZ : OK Z) (ok : okA W H I T R P n9) (h : IM G L W H I T R P n9) (a b : Int32) : AC mX12_of 8 0 0 [.ref 75, .int a, .int b] Z G L (RP (.int (ofV W H a b)) (JQ Z G L W H I T R P n9)) := by
  obtain ⟨⟨ho, h9⟩, hh, -⟩ := id ok
  obtain ⟨hv, hH, -⟩ := id h
  exact w_MA h (k_ofM hZ hv ho hH hh (by omega) a b)
theorem y_on {Z : Zt} {G : Gt} {L : Lt} {W : Wv} {H : Hv} {I : Option (Wv × Hv)} {T : Nat × (Nat → Nat)} {R : Nat × (Nat → Int32)} {P : Pt9} {n9 : Nat} (hZ : OK Z) (ok : okA W H I T R P n9) (h : IM G L W H I T R P n9) (a b : Int32) : AC mX12_on 5 0 0 [.ref 75, .int a, .int b] Z G L (RP (.int (onV W a b)) (JQ Z G L W H I T R P n9)) := by
  obtain ⟨⟨ho, h9⟩, hh, -⟩ := id ok
  obtain ⟨hv, hH, -⟩ := id h
  exact w_MA h (k_onM hZ hv ho hH hh (by omega) a b)
theorem y_told {Z : Zt} {G : Gt} {L : Lt} {W : Wv} {H : Hv} {I : Option (Wv × Hv)} {T : Nat × (Nat → Nat)} {R : Nat × (Nat → Int32)} {P : Pt9} {n9 : Nat} (hZ : OK Z) (ok : okA W H I T R P n9) (h : IM G L W H I T R P n9) (a : Int32) : AC mX12_told 8 0 0 [.ref 75, .int a] Z G L (RP (.int (toldV W a)) (JQ Z G L W H I T R P n9)) := by
  obtain ⟨⟨ho, h9⟩, hh, -⟩ := id ok
  obtain ⟨hv, hH, -⟩ := id h
  exact w_MA h (k_toldM hZ hv ho hH hh a)
theorem y_wrong {Z : Zt} {G : Gt} {L : Lt} {W : Wv} {H : Hv} {I : Option (Wv × Hv)} {T : Nat × (Nat → Nat)} {R : Nat × (Nat → Int32)} {P : Pt9} {n9 : Nat} (hZ : OK Z) (ok : okA W H I T R P n9) (h : IM G L W H I T R P n9)  : AC mX12_wrong 6 0 0 [.ref 75] Z G L (RP (.int (fst0 (fun k => decide (¬ msV W H k 2 (W.C (H.k0 k) 2))) H.nk 0)) (JQ Z G L W H I T R P n9)) := by
  obtain ⟨⟨ho, h9⟩, hh, -⟩ := id ok
  obtain ⟨hv, hH, -⟩ := id h
  exact w_MA h (by rw [wrong_eq]; exact k_wrongM hZ hv ho hH hh (by omega))
theorem y_can {Z : Zt} {G : Gt} {L : Lt} {W : Wv} {H : Hv} {I : Option (Wv × Hv)} {T : Nat × (Nat → Nat)} {R : Nat × (Nat → Int32)} {P : Pt9} {n9 : Nat} (hZ : OK Z) (ok : okA W H I T R P n9) (h : IM G L W H I T R P n9) (a b : Int32) : AC mX12_can 7 0 0 [.ref 75, .int a, .int b] Z G L (RP (.int (canV W H a b)) (JQ Z G L W H I T R P n9)) := by
  obtain ⟨⟨ho, h9⟩, hh, -⟩ := id ok
  obtain ⟨hv, hH, -⟩ := id h
  exact w_MA h (k_canM hZ hv ho hH hh (by omega) a b)
theorem y_odds {Z : Zt} {G : Gt} {L : Lt} {W : Wv} {H : Hv} {I : Option (Wv × Hv)} {T : Nat × (Nat → Nat)} {R : Nat × (Nat → Int32)} {P : Pt9} {n9 : Nat} (hZ : OK Z) (ok : okA W H I T R P n9) (h : IM G L W H I T R P n9) (a b : Int32) : AC mX12_odds 5 0 0 [.ref 75, .int a, .int b] Z G L (RP (.long (oddV W a b)) (JQ Z G L W H I T R P n9)) := by
  obtain ⟨⟨ho, h9⟩, hh, -⟩ := id ok
  obtain ⟨hv, hH, -⟩ := id h
  exact w_MA h (k_oddsM hZ hv ho hH hh (by omega) a b)
theorem y_mean {Z : Zt} {G : Gt} {L : Lt} {W : Wv} {H : Hv} {I : Option (Wv × Hv)} {T : Nat × (Nat → Nat)} {R : Nat × (Nat → Int32)} {P : Pt9} {n9 : Nat} (hZ : OK Z) (ok : okA W H I T R P n9) (h : IM G L W H I T R P n9) (a : Int32) : AC mX12_mean 2 0 0 [.ref 75, .int a] Z G L (RP (.long (meaV W a)) (JQ Z G L W H I T R P n9)) := by
  obtain ⟨⟨ho, h9⟩, hh, -⟩ := id ok
  obtain ⟨hv, hH, -⟩ := id h
  exact w_MA h (k_meanM hZ hv ho hH hh a)
theorem y_ends {Z : Zt} {G : Gt} {L : Lt} {W : Wv} {H : Hv} {I : Option (Wv × Hv)} {T : Nat × (Nat → Nat)} {R : Nat × (Nat → Int32)} {P : Pt9} {n9 : Nat} (hZ : OK Z) (ok : okA W H I T R P n9) (h : IM G L W H I T R P n9) (a : Int32) : AC mX12_ends 6 0 0 [.ref 75, .int a] Z G L (RP (.int (endV W H a)) (JQ Z G L W H I T R P n9)) := by
  obtain ⟨⟨ho, h9⟩, hh, -⟩ := id ok
  obtain ⟨hv, hH, -⟩ := id h
  exact w_MA h (k_endsM hZ hv ho hH hh (by omega) a)
theorem y_pass {Z : Zt} {G : Gt} {L : Lt} {W : Wv} {H : Hv} {I : Option (Wv × Hv)} {T : Nat × (Nat → Nat)} {R : Nat × (Nat → Int32)} {P : Pt9} {n9 : Nat} (hZ : OK Z) (ok : okA W H I T R P n9) (h : IM G L W H I T R P n9) (a : Int32) : AC mX12_pass 3 0 0 [.ref 75, .int a] Z G L (RP (.int (paA W a).1) (JQ Z G L (paA W a).2 H I T R P n9)) := by
  obtain ⟨⟨ho, h9⟩, hh, -⟩ := id ok
  exact w_MS h (k_passM hZ h.1 ho (by omega) a)
