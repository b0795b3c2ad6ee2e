-- ===== what stands between calls: the class's side =====
def icW (Z : Zt) (G : Gt) (W : Wv) : Prop := vC Z G 24 W ∧ okW W ∧ W.mm ≤ 9999
def icH (G : Gt) (m : Nat) (H : Hv) : Prop := hC G 24 H ∧ okH m H
def icI (Z : Zt) (G : Gt) (I : Option (Wv × Hv)) : Prop := match I with
  | none => G 0 10 = 0
  | some q => G 0 10 = 1 ∧ vC Z G 41 q.1 ∧ okW q.1 ∧ q.1.mm ≤ 9999 ∧ hC G 41 q.2 ∧ okH q.1.m q.2
def icT (G : Gt) (T : Nat × (Nat → Nat)) : Prop := T.1 ≤ 100 ∧ G 1 1 = nI T.1 ∧ ∀ i, i < T.1 → G 2 i = nI (T.2 i) ∧ T.2 i < 128
def icR (G : Gt) (R : Nat × (Nat → Int32)) : Prop := R.1 ≤ 100 ∧ G 4 1 = nI R.1 ∧ ∀ i, i < 20 → i < R.1 → G 5 i = R.2 i
abbrev Pt9 : Type := (Nat → Int32) × (Nat → Nat) × (Nat → Nat → Int64)
def icP (G : Gt) (L : Lt) (P : Pt9) : Prop := ∀ t, t < 6 → G 7 t = P.1 t ∧ (P.1 t = -1 ∨ ∃ s, s < 5 ∧ P.1 t = nI s) ∧ G 8 t = nI (P.2.1 t) ∧ P.2.1 t ≤ 60 ∧ (P.1 t = -1 → P.2.1 t = 0) ∧ ∀ i, i < 60 → L (10 + t) i = P.2.2 t i
def icN (Z : Zt) (G : Gt) (n : Nat) : Prop := n ≤ 6 ∧ G 0 3 = nI n ∧ Z.1 = 124 + 2 * n
def IC (Z : Zt) (G : Gt) (L : Lt) (W : Wv) (H : Hv) (I : Option (Wv × Hv)) (T : Nat × (Nat → Nat)) (R : Nat × (Nat → Int32)) (P : Pt9) (n : Nat) : Prop :=
  OK Z ∧ icW Z G W ∧ icH G W.m H ∧ icI Z G I ∧ icT G T ∧ icR G R ∧ icP G L P ∧ icN Z G n
/-- the model's places are as they were -/
def fC (G : Gt) (L : Lt) (G' : Gt) (L' : Lt) : Prop := ∀ a, 75 ≤ a → a < 108 → G' a = G a ∧ L' a = L a
theorem fC_refl {G : Gt} {L : Lt} : fC G L G L := fun _ _ _ => ⟨rfl, rfl⟩
abbrev IQ (G : Gt) (L : Lt) (W : Wv) (H : Hv) (I : Option (Wv × Hv)) (T : Nat × (Nat → Nat)) (R : Nat × (Nat → Int32)) (P : Pt9) (n : Nat) : Zt → Gt → Lt → Prop := fun Z' G' L' => IC Z' G' L' W H I T R P n ∧ fC G L G' L'
theorem hC_keep {G G' : Gt} {w : Nat} {H : Hv} (h : hC G w H) (h1 : ∀ i, i = 12 ∨ i = 13 ∨ i = 14 → G' w i = G w i) (h2 : ∀ a, w + 10 ≤ a → a < w + 17 → G' a = G a) : hC G' w H := by
  unfold hC
  rw [h1 12 (by omega), h1 13 (by omega), h1 14 (by omega), h2 (w + 10) (by omega) (by omega), h2 (w + 11) (by omega) (by omega), h2 (w + 12) (by omega) (by omega), h2 (w + 13) (by omega) (by omega), h2 (w + 14) (by omega) (by omega), h2 (w + 15) (by omega) (by omega), h2 (w + 16) (by omega) (by omega)]
  exact h
theorem icI_keep {Z Z' : Zt} {G G' : Gt} {I : Option (Wv × Hv)} (h : icI Z G I) (h0 : G' 0 10 = G 0 10) (hG : ∀ a, 41 ≤ a → a < 58 → G' a = G a) (hr : Z'.2.2 41 16 = Z.2.2 41 16) (h1 : ∀ k x, Z.2.1 k = some x → Z'.2.1 k = some x) (h2 : ∀ k i j, 108 ≤ k → Z.2.2 k i = some j → Z'.2.2 k i = some j) (h3 : ∀ a x, 108 ≤ a → Z.2.1 a = some x → G' a = G a) : icI Z' G' I := by
  cases I with
  | none => exact h0.trans h
  | some q =>
    obtain ⟨a1, a2, a3, a4, a5, a6⟩ := h
    exact ⟨h0.trans a1, vC_keep a2 a3.1 (fun a x y => hG a x (by omega)) hr h1 h2 h3, a3, a4, hC_keep a5 (fun i _ => by rw [hG 41 (by omega) (by omega)]) (fun a x y => hG a (by omega) (by omega)), a6⟩
theorem icT_keep {G G' : Gt} {T : Nat × (Nat → Nat)} (h : icT G T) (h1 : G' 1 1 = G 1 1) (h2 : G' 2 = G 2) : icT G' T := by
  unfold icT
  rw [h1, h2]
  exact h
theorem icR_keep {G G' : Gt} {R : Nat × (Nat → Int32)} (h : icR G R) (h1 : G' 4 1 = G 4 1) (h2 : G' 5 = G 5) : icR G' R := by
  unfold icR
  rw [h1, h2]
  exact h
theorem icP_keep {G G' : Gt} {L L' : Lt} {P : Pt9} (h : icP G L P) (h1 : G' 7 = G 7) (h2 : G' 8 = G 8) (h3 : ∀ t, t < 6 → L' (10 + t) = L (10 + t)) : icP G' L' P := by
  intro t ht
  rw [h1, h2, h3 t ht]
  exact h t ht
theorem IC_tr {Z Z' : Zt} {G G' : Gt} {L : Lt} {W : Wv} {H : Hv} {I : Option (Wv × Hv)} {T : Nat × (Nat → Nat)} {R : Nat × (Nat → Int32)} {P : Pt9} {n : Nat} (h : IC Z G L W H I T R P n) (t : trP Z G Z' G') : IQ G L W H I T R P n Z' G' L := by
  obtain ⟨a0, a1, a2, a3, a4, a5, a6, a7⟩ := h
  have t4 := t.2.2.2
  refine ⟨⟨trP_OK t a0, ⟨trP_vC t a1.1 a1.2.1.1 (Or.inl rfl), a1.2⟩, ⟨trP_hC t a2.1 (Or.inl rfl), a2.2⟩, icI_keep a3 (by rw [t4 0 (by omega)]) (fun a x y => t4 a (by omega)) (t.2.2.1 41 16 (by omega)) (fun k x e => by rw [t.2.1]; exact e) (fun k i j hk e => by rw [t.2.2.1 k i (by omega)]; exact e) (fun a x ha _ => t4 a (by omega)), icT_keep a4 (by rw [t4 1 (by omega)]) (t4 2 (by omega)), icR_keep a5 (by rw [t4 4 (by omega)]) (t4 5 (by omega)), icP_keep a6 (t4 7 (by omega)) (t4 8 (by omega)) (fun _ _ => rfl), a7.1, (by rw [t4 0 (by omega)]; exact a7.2.1), t.1.trans a7.2.2⟩, fun a x y => ⟨t4 a (by omega), rfl⟩⟩
theorem IC_6 {Z : Zt} {G : Gt} {L : Lt} {W : Wv} {H : Hv} {I : Option (Wv × Hv)} {T : Nat × (Nat → Nat)} {R : Nat × (Nat → Int32)} {P : Pt9} {n : Nat} (h : IC Z G L W H I T R P n) (f : Nat → Int32) : IC Z (upr G 6 f) L W H I T R P n := by
  obtain ⟨a0, a1, a2, a3, a4, a5, a6, a7⟩ := h
  have t4 : ∀ a, a ≠ 6 → upr G 6 f a = G a := fun a h => upr_n h
  exact ⟨a0, ⟨vC_6 a1.1 a1.2.1.1, a1.2⟩, ⟨hC_keep a2.1 (fun i _ => by rw [t4 24 (by omega)]) (fun a x y => t4 a (by omega)), a2.2⟩, icI_keep a3 (by rw [t4 0 (by omega)]) (fun a x y => t4 a (by omega)) rfl (fun k x e => e) (fun k i j hk e => e) (fun a x ha _ => t4 a (by omega)), icT_keep a4 (by rw [t4 1 (by omega)]) (t4 2 (by omega)), icR_keep a5 (by rw [t4 4 (by omega)]) (t4 5 (by omega)), icP_keep a6 (t4 7 (by omega)) (t4 8 (by omega)) (fun _ _ => rfl), a7.1, (by rw [t4 0 (by omega)]; exact a7.2.1), a7.2.2⟩
theorem IC_T6 {Z Z' : Zt} {G G' : Gt} {L : Lt} {W : Wv} {H : Hv} {I : Option (Wv × Hv)} {T : Nat × (Nat → Nat)} {R : Nat × (Nat → Int32)} {P : Pt9} {n : Nat} (h : IC Z G L W H I T R P n) {f : Nat → Int32} (t : trP Z (upr G 6 f) Z' G') : IQ G L W H I T R P n Z' G' L := by
  obtain ⟨b1, b2⟩ := IC_tr (IC_6 h f) t
  exact ⟨b1, fun a x y => ⟨(b2 a x y).1.trans (upr_n (by omega)), (b2 a x y).2⟩⟩
theorem IC_MV {Z : Zt} {G G' : Gt} {L : Lt} {W W' : Wv} {H : Hv} {I : Option (Wv × Hv)} {T : Nat × (Nat → Nat)} {R : Nat × (Nat → Int32)} {P : Pt9} {n : Nat} (h : IC Z G L W H I T R P n) (hm : MV Z G L W' Z G' L) (ho : okW W') (h9 : W'.mm ≤ 9999) (hh : okH W'.m H) : IQ G L W' H I T R P n Z G' L := by
  obtain ⟨a0, a1, a2, a3, a4, a5, a6, a7⟩ := h
  obtain ⟨-, -, m1, t4, m3⟩ := hm
  refine ⟨⟨a0, ⟨m1, ho, h9⟩, ⟨hC_keep a2.1 (fun i hi => m3 i (by omega) (by omega)) (fun a x y => t4 a (by omega)), hh⟩, icI_keep a3 (by rw [t4 0 (by omega)]) (fun a x y => t4 a (by omega)) rfl (fun k x e => e) (fun k i j hk e => e) (fun a x ha _ => t4 a (by omega)), icT_keep a4 (by rw [t4 1 (by omega)]) (t4 2 (by omega)), icR_keep a5 (by rw [t4 4 (by omega)]) (t4 5 (by omega)), icP_keep a6 (t4 7 (by omega)) (t4 8 (by omega)) (fun _ _ => rfl), a7.1, (by rw [t4 0 (by omega)]; exact a7.2.1), a7.2.2⟩, fun a x y => ⟨t4 a (by omega), rfl⟩⟩
/-- what is told by hand changes -/
def MH (G G' : Gt) (H : Hv) : Prop := hC G' 24 H ∧ (∀ a, ¬ (34 ≤ a ∧ a < 41) → a ≠ 24 → G' a = G a) ∧ (∀ i, ¬ (12 ≤ i ∧ i < 15) → G' 24 i = G 24 i)
theorem IC_MH {Z : Zt} {G G' : Gt} {L : Lt} {W : Wv} {H H' : Hv} {I : Option (Wv × Hv)} {T : Nat × (Nat → Nat)} {R : Nat × (Nat → Int32)} {P : Pt9} {n : Nat} (h : IC Z G L W H I T R P n) (hm : MH G G' H') (hh : okH W.m H') : IQ G L W H' I T R P n Z G' L := by
  obtain ⟨a0, a1, a2, a3, a4, a5, a6, a7⟩ := h
  obtain ⟨m1, t4, m3⟩ := hm
  have hw6 := a1.2.1.1
  have hv : vC Z G' 24 W := by
    obtain ⟨b1, b2, b3, b4, b5, b6, b7, b8⟩ := a1.1
    refine vC_step a1.1 (fun a ha => t4 a (by omega) (by omega)) ?_ ?_ (fun p hp i hi => ?_) (fun q hq => ?_) (fun q hq => ?_) rfl rfl
    · rw [m3 11 (by omega)]; exact b1
    · rw [m3 15 (by omega)]; exact b2
    · rw [t4 (24 + 2 + p) (by omega) (by omega)]; exact b3 p hp i hi
    · rw [t4 (24 + 8) (by omega) (by omega)]; exact b4 q hq
    · rw [t4 (24 + 9) (by omega) (by omega)]; exact b5 q hq
  refine ⟨⟨a0, ⟨hv, a1.2⟩, ⟨m1, hh⟩, icI_keep a3 (by rw [t4 0 (by omega) (by omega)]) (fun a x y => t4 a (by omega) (by omega)) rfl (fun k x e => e) (fun k i j hk e => e) (fun a x ha _ => t4 a (by omega) (by omega)), icT_keep a4 (by rw [t4 1 (by omega) (by omega)]) (t4 2 (by omega) (by omega)), icR_keep a5 (by rw [t4 4 (by omega) (by omega)]) (t4 5 (by omega) (by omega)), icP_keep a6 (t4 7 (by omega) (by omega)) (t4 8 (by omega) (by omega)) (fun _ _ => rfl), a7.1, (by rw [t4 0 (by omega) (by omega)]; exact a7.2.1), a7.2.2⟩, fun a x y => ⟨t4 a (by omega) (by omega), rfl⟩⟩
/-- other places of the class change, none of a World and none of a show -/
theorem IC_other {Z : Zt} {G G' : Gt} {L L' : Lt} {W : Wv} {H : Hv} {I : Option (Wv × Hv)} {T T' : Nat × (Nat → Nat)} {R R' : Nat × (Nat → Int32)} {P P' : Pt9} {n : Nat} (h : IC Z G L W H I T R P n) (t4 : ∀ a, 16 ≤ a → G' a = G a) (h0 : G' 0 = G 0) (hT : icT G' T') (hR : icR G' R') (hP : icP G' L' P') (hL : ∀ a, 16 ≤ a → L' a = L a) : IQ G L W H I T' R' P' n Z G' L' := by
  obtain ⟨a0, a1, a2, a3, a4, a5, a6, a7⟩ := h
  exact ⟨⟨a0, ⟨vC_keep a1.1 a1.2.1.1 (fun a x y => t4 a (by omega)) rfl (fun _ _ h => h) (fun _ _ _ _ h => h) (fun a _ ha _ => t4 a (by omega)), a1.2⟩, ⟨hC_keep a2.1 (fun i _ => by rw [t4 24 (by omega)]) (fun a x y => t4 a (by omega)), a2.2⟩, icI_keep a3 (by rw [h0]) (fun a x y => t4 a (by omega)) rfl (fun k x e => e) (fun k i j hk e => e) (fun a x ha _ => t4 a (by omega)), hT, hR, hP, a7.1, (by rw [h0]; exact a7.2.1), a7.2.2⟩, fun a x y => ⟨t4 a (by omega), hL a (by omega)⟩⟩
