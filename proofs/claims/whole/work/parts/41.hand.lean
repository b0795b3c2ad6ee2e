-- ===== what is told by hand: mark, plan, book =====
def clrK (H : Hv) : Hv := ((0, H.k0, H.k1, H.k2), H.2)
def pushK (H : Hv) (r m : Nat) (l : Int32) : Hv := ((H.nk + 1, up1 H.k0 H.nk r, up1 H.k1 H.nk m, up1 H.k2 H.nk l), H.2)
def clrP (H : Hv) : Hv := (H.1, (0, H.p0, H.p1), H.2.2)
def pushP (H : Hv) (a p : Nat) : Hv := (H.1, (H.np + 1, up1 H.p0 H.np a, up1 H.p1 H.np p), H.2.2)
def clrB (H : Hv) : Hv := (H.1, H.2.1, (0, H.b0, H.b1))
def pushB (H : Hv) (r : Nat) (x : Int32) : Hv := (H.1, H.2.1, (H.nb + 1, up1 H.b0 H.nb r, up1 H.b1 H.nb x))
def mkA (m : Nat) (H : Hv) (a n b : Int32) : Int32 × Hv := if a = -1 then (0, clrK H) else if wi a 0 (nI m - 1) = 0 then (-1, H) else if wi n 0 12 = 0 then (-2, H) else if wi b 0 999 = 0 then (-2, H) else if nI H.nk < 5 then (nI (H.nk + 1), pushK H a.toNatClampNeg n.toNatClampNeg b) else (-4, H)
def plA (m : Nat) (H : Hv) (a b : Int32) : Int32 × Hv := if a = -1 then (0, clrP H) else if wi a 0 3 = 0 then (-1, H) else if a = 0 then (if nI H.np < 10 then (nI (H.np + 1), pushP H 0 0) else (-4, H)) else if wi b 0 (nI m - 1) = 0 then (-1, H) else if nI H.np < 10 then (nI (H.np + 1), pushP H a.toNatClampNeg b.toNatClampNeg) else (-4, H)
def boA (m : Nat) (H : Hv) (a b : Int32) : Int32 × Hv := if a = -1 then (0, clrB H) else if wi a 0 (nI m - 1) = 0 then (-1, H) else if wi b 0 99 = 0 then (-2, H) else if nI H.nb < 8 then (nI (H.nb + 1), pushB H a.toNatClampNeg b) else (-4, H)
theorem up1_lt {α : Type} {f : Nat → α} {n k : Nat} {x : α} {P : α → Prop} (hk : k < n + 1) (h1 : k < n → P (f k)) (h2 : P x) : P (up1 f n x k) := by
  by_cases e : k = n
  · subst e; rw [up1_s]; exact h2
  · rw [up1_n e]; exact h1 (by omega)
theorem mh_clrK {G : Gt} {H : Hv} (h : hC G 24 H) : MH G (up2 G 24 12 0) (clrK H) := by
  obtain ⟨⟨a1, a2⟩, ⟨a3, a4⟩, a5, a6⟩ := h
  refine ⟨⟨⟨up2_s, fun k hk => absurd hk (Nat.not_lt_zero k)⟩, ⟨?_, fun k hk => ?_⟩, ?_, fun k hk => ?_⟩, fun a _ h => up2_row h, fun i h => up2_i (by omega)⟩
  · rw [up2_i (by decide)]; exact a3
  · rw [up2_k (by decide), up2_k (by decide)]; exact a4 k hk
  · rw [up2_i (by decide)]; exact a5
  · rw [up2_k (by decide), up2_k (by decide)]; exact a6 k hk
theorem mh_clrP {G : Gt} {H : Hv} (h : hC G 24 H) : MH G (up2 G 24 13 0) (clrP H) := by
  obtain ⟨⟨a1, a2⟩, ⟨a3, a4⟩, a5, a6⟩ := h
  refine ⟨⟨⟨?_, fun k hk => ?_⟩, ⟨up2_s, fun k hk => absurd hk (Nat.not_lt_zero k)⟩, ?_, fun k hk => ?_⟩, fun a _ h => up2_row h, fun i h => up2_i (by omega)⟩
  · rw [up2_i (by decide)]; exact a1
  · rw [up2_k (by decide), up2_k (by decide), up2_k (by decide)]; exact a2 k hk
  · rw [up2_i (by decide)]; exact a5
  · rw [up2_k (by decide), up2_k (by decide)]; exact a6 k hk
theorem mh_clrB {G : Gt} {H : Hv} (h : hC G 24 H) : MH G (up2 G 24 14 0) (clrB H) := by
  obtain ⟨⟨a1, a2⟩, ⟨a3, a4⟩, a5, a6⟩ := h
  refine ⟨⟨⟨?_, fun k hk => ?_⟩, ⟨?_, fun k hk => ?_⟩, up2_s, fun k hk => absurd hk (Nat.not_lt_zero k)⟩, fun a _ h => up2_row h, fun i h => up2_i (by omega)⟩
  · rw [up2_i (by decide)]; exact a1
  · rw [up2_k (by decide), up2_k (by decide), up2_k (by decide)]; exact a2 k hk
  · rw [up2_i (by decide)]; exact a3
  · rw [up2_k (by decide), up2_k (by decide)]; exact a4 k hk
theorem mh_pushK {G : Gt} {H : Hv} (h : hC G 24 H) (r m : Nat) (l : Int32) {v : Int32} (hv : v = nI (H.nk + 1)) : MH G (up2 (up2 (up2 (up2 G 34 H.nk (nI r)) 35 H.nk (nI m)) 36 H.nk l) 24 12 v) (pushK H r m l) := by
  obtain ⟨⟨a1, a2⟩, ⟨a3, a4⟩, a5, a6⟩ := h
  refine ⟨⟨⟨by rw [up2_s]; exact hv, fun k hk => ?_⟩, ⟨?_, fun k hk => ?_⟩, ?_, fun k hk => ?_⟩, fun a h1 h2 => ?_, fun i hi => ?_⟩
  · have hk : k < H.nk + 1 := hk
    show up2 _ 24 12 v 34 k = nI (up1 H.k0 H.nk r k) ∧ up2 _ 24 12 v 35 k = nI (up1 H.k1 H.nk m k) ∧ up2 _ 24 12 v 36 k = up1 H.k2 H.nk l k
    by_cases e : k = H.nk
    · simp [up2, up1, e]
    · have := a2 k (by omega)
      simp [up2, up1, e]
      exact this
  · rw [up2_i (by decide), up2_k (by decide), up2_k (by decide), up2_k (by decide)]; exact a3
  · show up2 _ 24 12 v 37 k = _ ∧ up2 _ 24 12 v 38 k = _
    simp only [up2, if_neg (show ¬ (37 : Nat) = 24 by decide), if_neg (show ¬ (37 : Nat) = 34 by decide), if_neg (show ¬ (37 : Nat) = 35 by decide), if_neg (show ¬ (37 : Nat) = 36 by decide), if_neg (show ¬ (38 : Nat) = 24 by decide), if_neg (show ¬ (38 : Nat) = 34 by decide), if_neg (show ¬ (38 : Nat) = 35 by decide), if_neg (show ¬ (38 : Nat) = 36 by decide)]
    exact a4 k hk
  · rw [up2_i (by decide), up2_k (by decide), up2_k (by decide), up2_k (by decide)]; exact a5
  · show up2 _ 24 12 v 39 k = _ ∧ up2 _ 24 12 v 40 k = _
    simp only [up2, if_neg (show ¬ (39 : Nat) = 24 by decide), if_neg (show ¬ (39 : Nat) = 34 by decide), if_neg (show ¬ (39 : Nat) = 35 by decide), if_neg (show ¬ (39 : Nat) = 36 by decide), if_neg (show ¬ (40 : Nat) = 24 by decide), if_neg (show ¬ (40 : Nat) = 34 by decide), if_neg (show ¬ (40 : Nat) = 35 by decide), if_neg (show ¬ (40 : Nat) = 36 by decide)]
    exact a6 k hk
  · rw [up2_row h2, up2_row (by omega), up2_row (by omega), up2_row (by omega)]
  · rw [up2_i (by omega), up2_k (by decide), up2_k (by decide), up2_k (by decide)]
theorem mh_pushP {G : Gt} {H : Hv} (h : hC G 24 H) (r m : Nat) {v : Int32} (hv : v = nI (H.np + 1)) : MH G (up2 (up2 (up2 G 37 H.np (nI r)) 38 H.np (nI m)) 24 13 v) (pushP H r m) := by
  obtain ⟨⟨a1, a2⟩, ⟨a3, a4⟩, a5, a6⟩ := h
  refine ⟨⟨⟨?_, fun k hk => ?_⟩, ⟨by rw [up2_s]; exact hv, fun k hk => ?_⟩, ?_, fun k hk => ?_⟩, fun a h1 h2 => ?_, fun i hi => ?_⟩
  · rw [up2_i (by decide), up2_k (by decide), up2_k (by decide)]; exact a1
  · show up2 _ 24 13 v 34 k = _ ∧ up2 _ 24 13 v 35 k = _ ∧ up2 _ 24 13 v 36 k = _
    simp only [up2, if_neg (show ¬ (34 : Nat) = 24 by decide), if_neg (show ¬ (34 : Nat) = 37 by decide), if_neg (show ¬ (34 : Nat) = 38 by decide), if_neg (show ¬ (35 : Nat) = 24 by decide), if_neg (show ¬ (35 : Nat) = 37 by decide), if_neg (show ¬ (35 : Nat) = 38 by decide), if_neg (show ¬ (36 : Nat) = 24 by decide), if_neg (show ¬ (36 : Nat) = 37 by decide), if_neg (show ¬ (36 : Nat) = 38 by decide)]
    exact a2 k hk
  · have hk : k < H.np + 1 := hk
    show up2 _ 24 13 v 37 k = nI (up1 H.p0 H.np r k) ∧ up2 _ 24 13 v 38 k = nI (up1 H.p1 H.np m k)
    by_cases e : k = H.np
    · simp [up2, up1, e]
    · have := a4 k (by omega)
      simp [up2, up1, e]
      exact this
  · rw [up2_i (by decide), up2_k (by decide), up2_k (by decide)]; exact a5
  · show up2 _ 24 13 v 39 k = _ ∧ up2 _ 24 13 v 40 k = _
    simp only [up2, if_neg (show ¬ (39 : Nat) = 24 by decide), if_neg (show ¬ (39 : Nat) = 37 by decide), if_neg (show ¬ (39 : Nat) = 38 by decide), if_neg (show ¬ (40 : Nat) = 24 by decide), if_neg (show ¬ (40 : Nat) = 37 by decide), if_neg (show ¬ (40 : Nat) = 38 by decide)]
    exact a6 k hk
  · rw [up2_row h2, up2_row (by omega), up2_row (by omega)]
  · rw [up2_i (by omega), up2_k (by decide), up2_k (by decide)]
theorem mh_pushB {G : Gt} {H : Hv} (h : hC G 24 H) (r : Nat) (x : Int32) {v : Int32} (hv : v = nI (H.nb + 1)) : MH G (up2 (up2 (up2 G 39 H.nb (nI r)) 40 H.nb x) 24 14 v) (pushB H r x) := by
  obtain ⟨⟨a1, a2⟩, ⟨a3, a4⟩, a5, a6⟩ := h
  refine ⟨⟨⟨?_, fun k hk => ?_⟩, ⟨?_, fun k hk => ?_⟩, by rw [up2_s]; exact hv, fun k hk => ?_⟩, fun a h1 h2 => ?_, fun i hi => ?_⟩
  · rw [up2_i (by decide), up2_k (by decide), up2_k (by decide)]; exact a1
  · show up2 _ 24 14 v 34 k = _ ∧ up2 _ 24 14 v 35 k = _ ∧ up2 _ 24 14 v 36 k = _
    simp only [up2, if_neg (show ¬ (34 : Nat) = 24 by decide), if_neg (show ¬ (34 : Nat) = 39 by decide), if_neg (show ¬ (34 : Nat) = 40 by decide), if_neg (show ¬ (35 : Nat) = 24 by decide), if_neg (show ¬ (35 : Nat) = 39 by decide), if_neg (show ¬ (35 : Nat) = 40 by decide), if_neg (show ¬ (36 : Nat) = 24 by decide), if_neg (show ¬ (36 : Nat) = 39 by decide), if_neg (show ¬ (36 : Nat) = 40 by decide)]
    exact a2 k hk
  · rw [up2_i (by decide), up2_k (by decide), up2_k (by decide)]; exact a3
  · show up2 _ 24 14 v 37 k = _ ∧ up2 _ 24 14 v 38 k = _
    simp only [up2, if_neg (show ¬ (37 : Nat) = 24 by decide), if_neg (show ¬ (37 : Nat) = 39 by decide), if_neg (show ¬ (37 : Nat) = 40 by decide), if_neg (show ¬ (38 : Nat) = 24 by decide), if_neg (show ¬ (38 : Nat) = 39 by decide), if_neg (show ¬ (38 : Nat) = 40 by decide)]
    exact a4 k hk
  · have hk : k < H.nb + 1 := hk
    show up2 _ 24 14 v 39 k = nI (up1 H.b0 H.nb r k) ∧ up2 _ 24 14 v 40 k = up1 H.b1 H.nb x k
    by_cases e : k = H.nb
    · simp [up2, up1, e]
    · have := a6 k (by omega)
      simp [up2, up1, e]
      exact this
  · rw [up2_row h2, up2_row (by omega), up2_row (by omega)]
  · rw [up2_i (by omega), up2_k (by decide), up2_k (by decide)]
theorem okH_mono {m m' : Nat} {H : Hv} (h : okH m H) (hm : m ≤ m') : okH m' H := by
  obtain ⟨a1, a2, a3, a4, a5, a6⟩ := h
  exact ⟨a1, fun k hk => ⟨by have := (a2 k hk).1; omega, (a2 k hk).2⟩, a3, fun k hk => ⟨(a4 k hk).1, fun e => by have := (a4 k hk).2 e; omega⟩, a5, fun k hk => by have := a6 k hk; omega⟩
theorem mkA_ok {m : Nat} (hm : m ≤ 6) {H : Hv} (h : okH m H) (a n b : Int32) : okH m (mkA m H a n b).2 := by
  unfold mkA
  by_cases c1 : a = -1
  · rw [if_pos c1]; exact ⟨Nat.zero_le _, fun k hk => absurd hk (Nat.not_lt_zero k), h.2.2⟩
  rw [if_neg c1]
  by_cases c2 : wi a 0 (nI m - 1) = 0
  · rw [if_pos c2]; exact h
  rw [if_neg c2]
  by_cases c3 : wi n 0 12 = 0
  · rw [if_pos c3]; exact h
  rw [if_neg c3]
  by_cases c4 : wi b 0 999 = 0
  · rw [if_pos c4]; exact h
  rw [if_neg c4]
  by_cases c5 : nI H.nk < 5
  · rw [if_pos c5]
    have h5 := h.1
    have e5 : H.nk < 5 := (nI_ltI (by omega) (by decide)).mp c5
    obtain ⟨p, hp, rfl⟩ := has_p hm c2
    obtain ⟨q, hq, rfl⟩ := wi_n (k := 12) (by decide) c3
    rw [nI_clamp (by omega), nI_clamp (by omega)]
    refine ⟨by show H.nk + 1 ≤ 5; omega, fun k hk => ⟨?_, ?_⟩, h.2.2⟩
    · exact up1_lt (P := fun z => z < m) hk (fun e => (h.2.1 k e).1) hp
    · exact up1_lt (P := fun z => z ≤ 12) hk (fun e => (h.2.1 k e).2) hq
  · rw [if_neg c5]; exact h
theorem plA_ok {m : Nat} (hm : m ≤ 6) {H : Hv} (h : okH m H) (a b : Int32) : okH m (plA m H a b).2 := by
  unfold plA
  have h10 := h.2.2.1
  by_cases c1 : a = -1
  · rw [if_pos c1]; exact ⟨h.1, h.2.1, Nat.zero_le _, fun k hk => absurd hk (Nat.not_lt_zero k), h.2.2.2.2⟩
  rw [if_neg c1]
  by_cases c2 : wi a 0 3 = 0
  · rw [if_pos c2]; exact h
  rw [if_neg c2]
  by_cases c3 : a = 0
  · rw [if_pos c3]
    by_cases c5 : nI H.np < 10
    · rw [if_pos c5]
      have e5 : H.np < 10 := (nI_ltI (by omega) (by decide)).mp c5
      refine ⟨h.1, h.2.1, by show H.np + 1 ≤ 10; omega, fun k hk => ?_, h.2.2.2.2⟩
      have hk : k < H.np + 1 := hk
      show up1 H.p0 H.np 0 k < 4 ∧ (up1 H.p0 H.np 0 k ≠ 0 → up1 H.p1 H.np 0 k < m)
      by_cases e : k = H.np
      · subst e; rw [up1_s]; exact ⟨by decide, fun z => absurd rfl z⟩
      · rw [up1_n e, up1_n e]; exact h.2.2.2.1 k (by omega)
    · rw [if_neg c5]; exact h
  rw [if_neg c3]
  by_cases c4 : wi b 0 (nI m - 1) = 0
  · rw [if_pos c4]; exact h
  rw [if_neg c4]
  by_cases c5 : nI H.np < 10
  · rw [if_pos c5]
    have e5 : H.np < 10 := (nI_ltI (by omega) (by decide)).mp c5
    obtain ⟨p, hp, rfl⟩ := has_p hm c4
    obtain ⟨q, hq, rfl⟩ := wi_n (k := 3) (by decide) c2
    rw [nI_clamp (by omega), nI_clamp (by omega)]
    refine ⟨h.1, h.2.1, by show H.np + 1 ≤ 10; omega, fun k hk => ?_, h.2.2.2.2⟩
    have hk : k < H.np + 1 := hk
    show up1 H.p0 H.np q k < 4 ∧ (up1 H.p0 H.np q k ≠ 0 → up1 H.p1 H.np p k < m)
    by_cases e : k = H.np
    · subst e; rw [up1_s, up1_s]; exact ⟨by omega, fun _ => hp⟩
    · rw [up1_n e, up1_n e]; exact h.2.2.2.1 k (by omega)
  · rw [if_neg c5]; exact h
theorem boA_ok {m : Nat} (hm : m ≤ 6) {H : Hv} (h : okH m H) (a b : Int32) : okH m (boA m H a b).2 := by
  unfold boA
  have h8 := h.2.2.2.2.1
  by_cases c1 : a = -1
  · rw [if_pos c1]; exact ⟨h.1, h.2.1, h.2.2.1, h.2.2.2.1, Nat.zero_le _, fun k hk => absurd hk (Nat.not_lt_zero k)⟩
  rw [if_neg c1]
  by_cases c2 : wi a 0 (nI m - 1) = 0
  · rw [if_pos c2]; exact h
  rw [if_neg c2]
  by_cases c3 : wi b 0 99 = 0
  · rw [if_pos c3]; exact h
  rw [if_neg c3]
  by_cases c5 : nI H.nb < 8
  · rw [if_pos c5]
    have e5 : H.nb < 8 := (nI_ltI (by omega) (by decide)).mp c5
    obtain ⟨p, hp, rfl⟩ := has_p hm c2
    rw [nI_clamp (by omega)]
    refine ⟨h.1, h.2.1, h.2.2.1, h.2.2.2.1, by show H.nb + 1 ≤ 8; omega, fun k hk => ?_⟩
    exact up1_lt (P := fun z => z < m) hk (fun e => h.2.2.2.2.2 k e) hp
  · rw [if_neg c5]; exact h
section XH
variable {Z : Zt} {G : Gt} {L : Lt} {W : Wv} {H : Hv} {I : Option (Wv × Hv)} {T : Nat × (Nat → Nat)} {R : Nat × (Nat → Int32)} {P : Pt9} {n9 : Nat}
theorem x_mark (h : IC Z G L W H I T R P n9) (a n b : Int32) : AC mX11_mark 3 0 0 [.ref 0, .int a, .int n, .int b] Z G L (RP (.int (mkA W.m H a n b).1) (IQ G L W (mkA W.m H a n b).2 I T R P n9)) := by
  obtain ⟨hZ, ⟨hv, ho, -⟩, ⟨hH, hh⟩, -⟩ := id h
  have hok := mkA_ok ho.1 hh a n b
  have h5 := hh.1
  refine AC.weaken (c_X11_mark hZ ⟨H.nk, h5, hH.1.1⟩ a n b) ?_
  rintro r Z' G' L' ⟨rfl, rfl, rfl, rfl⟩
  revert hok
  unfold r_X11_mark g_X11_mark mkA
  rw [hv.1, hH.1.1, nI_clamp (by omega)]
  by_cases c1 : a = -1
  · simp only [if_pos c1]; exact fun hok => ⟨rfl, IC_MH h (mh_clrK hH) hok⟩
  simp only [if_neg c1]
  by_cases c2 : wi a 0 (nI W.m - 1) = 0
  · simp only [if_pos c2]; exact fun hok => ⟨rfl, h, fC_refl⟩
  simp only [if_neg c2]
  by_cases c3 : wi n 0 12 = 0
  · simp only [if_pos c3]; exact fun hok => ⟨rfl, h, fC_refl⟩
  simp only [if_neg c3]
  by_cases c4 : wi b 0 999 = 0
  · simp only [if_pos c4]; exact fun hok => ⟨rfl, h, fC_refl⟩
  simp only [if_neg c4]
  by_cases c5 : nI H.nk < 5
  · simp only [if_pos c5]
    obtain ⟨p, hp, rfl⟩ := has_p ho.1 c2
    obtain ⟨q, hq, rfl⟩ := wi_n (k := 12) (by decide) c3
    have hm6 := ho.1
    rw [nI_clamp (show p < 2 ^ 31 by omega), nI_clamp (show q < 2 ^ 31 by omega)]
    rw [up2_s, up2_k (by decide), up2_k (by decide), up2_k (by decide), hH.1.1, nI_1]
    exact fun hok => ⟨rfl, IC_MH h (mh_pushK hH p q b rfl) hok⟩
  · simp only [if_neg c5]; exact fun hok => ⟨rfl, h, fC_refl⟩
theorem x_plan (h : IC Z G L W H I T R P n9) (a b : Int32) : AC mX11_plan 3 0 0 [.ref 0, .int a, .int b] Z G L (RP (.int (plA W.m H a b).1) (IQ G L W (plA W.m H a b).2 I T R P n9)) := by
  obtain ⟨hZ, ⟨hv, ho, -⟩, ⟨hH, hh⟩, -⟩ := id h
  have hok := plA_ok ho.1 hh a b
  have h5 := hh.2.2.1
  refine AC.weaken (c_X11_plan hZ ⟨H.np, h5, hH.2.1.1⟩ a b) ?_
  rintro r Z' G' L' ⟨rfl, rfl, rfl, rfl⟩
  revert hok
  unfold r_X11_plan g_X11_plan plA
  rw [hv.1, hH.2.1.1, nI_clamp (by omega)]
  by_cases c1 : a = -1
  · simp only [if_pos c1]; exact fun hok => ⟨rfl, IC_MH h (mh_clrP hH) hok⟩
  simp only [if_neg c1]
  by_cases c2 : wi a 0 3 = 0
  · simp only [if_pos c2]; exact fun hok => ⟨rfl, h, fC_refl⟩
  simp only [if_neg c2]
  by_cases c3 : a = 0
  · simp only [if_pos c3]
    by_cases c5 : nI H.np < 10
    · simp only [if_pos c5]
      rw [up2_s, up2_k (by decide), up2_k (by decide), hH.2.1.1, nI_1, c3]
      exact fun hok => ⟨rfl, IC_MH h (mh_pushP hH 0 0 rfl) hok⟩
    · simp only [if_neg c5]; exact fun hok => ⟨rfl, h, fC_refl⟩
  simp only [if_neg c3]
  by_cases c4 : wi b 0 (nI W.m - 1) = 0
  · simp only [if_pos c4]; exact fun hok => ⟨rfl, h, fC_refl⟩
  simp only [if_neg c4]
  by_cases c5 : nI H.np < 10
  · simp only [if_pos c5]
    obtain ⟨p, hp, rfl⟩ := has_p ho.1 c4
    obtain ⟨q, hq, rfl⟩ := wi_n (k := 3) (by decide) c2
    have hm6 := ho.1
    rw [nI_clamp (show p < 2 ^ 31 by omega), nI_clamp (show q < 2 ^ 31 by omega)]
    rw [up2_s, up2_k (by decide), up2_k (by decide), hH.2.1.1, nI_1]
    exact fun hok => ⟨rfl, IC_MH h (mh_pushP hH q p rfl) hok⟩
  · simp only [if_neg c5]; exact fun hok => ⟨rfl, h, fC_refl⟩
theorem x_book (h : IC Z G L W H I T R P n9) (a b : Int32) : AC mX11_book 3 0 0 [.ref 0, .int a, .int b] Z G L (RP (.int (boA W.m H a b).1) (IQ G L W (boA W.m H a b).2 I T R P n9)) := by
  obtain ⟨hZ, ⟨hv, ho, -⟩, ⟨hH, hh⟩, -⟩ := id h
  have hok := boA_ok ho.1 hh a b
  have h5 := hh.2.2.2.2.1
  refine AC.weaken (c_X11_book hZ ⟨H.nb, h5, hH.2.2.1⟩ a b) ?_
  rintro r Z' G' L' ⟨rfl, rfl, rfl, rfl⟩
  revert hok
  unfold r_X11_book g_X11_book boA
  rw [hv.1, hH.2.2.1, nI_clamp (by omega)]
  by_cases c1 : a = -1
  · simp only [if_pos c1]; exact fun hok => ⟨rfl, IC_MH h (mh_clrB hH) hok⟩
  simp only [if_neg c1]
  by_cases c2 : wi a 0 (nI W.m - 1) = 0
  · simp only [if_pos c2]; exact fun hok => ⟨rfl, h, fC_refl⟩
  simp only [if_neg c2]
  by_cases c3 : wi b 0 99 = 0
  · simp only [if_pos c3]; exact fun hok => ⟨rfl, h, fC_refl⟩
  simp only [if_neg c3]
  by_cases c5 : nI H.nb < 8
  · simp only [if_pos c5]
    obtain ⟨p, hp, rfl⟩ := has_p ho.1 c2
    have hm6 := ho.1
    rw [nI_clamp (show p < 2 ^ 31 by omega)]
    rw [up2_s, up2_k (by decide), up2_k (by decide), hH.2.2.1, nI_1]
    exact fun hok => ⟨rfl, IC_MH h (mh_pushB hH p b rfl) hok⟩
  · simp only [if_neg c5]; exact fun hok => ⟨rfl, h, fC_refl⟩
end XH
