-- ===== places get other numbers (the law alone: nobody above it has named one) =====
def rnZ (σ τ : Nat → Nat) (Z : Zt) : Zt := (Z.1, fun k => Z.2.1 (σ k), fun k i => (Z.2.2 (σ k) i).map τ)
theorem rn_cell {σ τ : Nat → Nat} {tc : FieldType → ClassId} {ad : Nat → Nat} {Z : Zt} {G : Gt} {L : Lt} (hF : WF Z) (hτ : ∀ k, k < Z.1 → τ k < Z.1 ∧ σ (τ k) = k) (k : Nat) : cellOf tc (fun k => ad (σ k)) (rnZ σ τ Z) (fun k => G (σ k)) (fun k => L (σ k)) k = cellOf tc ad Z G L (σ k) := by
  have hm : ∀ i, ((rnZ σ τ Z).2.2 k i).map (fun k => ad (σ k)) = (Z.2.2 (σ k) i).map ad := fun i => by
    show ((Z.2.2 (σ k) i).map τ).map (fun k => ad (σ k)) = (Z.2.2 (σ k) i).map ad
    cases e : Z.2.2 (σ k) i with
    | none => rfl
    | some j =>
      show some (ad (σ (τ j))) = some (ad j)
      rw [(hτ j (hF.2.2.1 _ i j e)).2]
  have h1 : (rnZ σ τ Z).2.1 k = Z.2.1 (σ k) := rfl
  unfold cellOf
  rw [h1]
  cases e : Z.2.1 (σ k) with
  | none => rfl
  | some x =>
    cases x with
    | inl ci =>
      show Sum.inr (ci, _) = Sum.inr (ci, _)
      refine congrArg (fun z => Sum.inr (ci, z)) (List.map_congr_left fun i _ => ?_)
      unfold fv
      rw [hm]
    | inr q =>
      show Sum.inl (tc q.1, _) = Sum.inl (tc q.1, _)
      unfold av9
      simp only [hm]
theorem rn_at {σ τ : Nat → Nat} {tc : FieldType → ClassId} {ad : Nat → Nat} {Z : Zt} {G : Gt} {L : Lt} (hF : WF Z) (hσ : ∀ k, k < Z.1 → σ k < Z.1 ∧ τ (σ k) = k) (hτ : ∀ k, k < Z.1 → τ k < Z.1 ∧ σ (τ k) = k) {k : Nat} {q : Nat × va_E} (h : (cw tc (fun k => ad (σ k)) (rnZ σ τ Z) (fun k => G (σ k)) (fun k => L (σ k)))[k]? = some q) : k < Z.1 ∧ (cw tc ad Z G L)[σ k]? = some q := by
  unfold cw at h ⊢
  rw [List.getElem?_map] at h
  rcases Nat.lt_or_ge k Z.1 with hk | hk
  · rw [List.getElem?_range (show k < (rnZ σ τ Z).1 from hk)] at h
    rw [List.getElem?_map, List.getElem?_range (hσ k hk).1]
    refine ⟨hk, ?_⟩
    rw [← h]
    show some (ad (σ k), _) = some (ad (σ k), _)
    rw [rn_cell hF hτ k]
  · rw [List.getElem?_eq_none (by rw [List.length_range]; exact hk)] at h
    cases h
theorem rn_WF {σ τ : Nat → Nat} {Z : Zt} (hF : WF Z) (hσ : ∀ k, k < Z.1 → σ k < Z.1 ∧ τ (σ k) = k) (hτ : ∀ k, k < Z.1 → τ k < Z.1 ∧ σ (τ k) = k) (ho : ∀ k, Z.1 ≤ k → σ k = k) : WF (rnZ σ τ Z) := by
  obtain ⟨h1, h2, h3, h4, h5⟩ := hF
  refine ⟨fun k hk => h1 _ (hσ k hk).1, fun k x hx => ?_, fun k i j hj => ?_, h4, fun k ci hk => h5 _ ci hk⟩
  · show k < Z.1
    rcases Nat.lt_or_ge k Z.1 with c | c
    · exact c
    · have hx' : Z.2.1 (σ k) = some x := hx
      rw [ho k c] at hx'
      exact h2 k x hx'
  · show j < Z.1
    have hj' : (Z.2.2 (σ k) i).map τ = some j := hj
    cases e : Z.2.2 (σ k) i with
    | none => rw [e] at hj'; cases hj'
    | some j0 =>
      rw [e] at hj'
      have e9 : τ j0 = j := Option.some.inj hj'
      rw [← e9]
      exact (hτ j0 (h3 _ i j0 e)).1
theorem ax_ren {q : Nat × (Nat → Int32)} {M : Mt} {d mc ms cu su pc : Nat} {Z : Zt} {G : Gt} {L : Lt} {Q : Qt} {σ τ : Nat → Nat} {a b c a' b' c' : Nat} (hσ : ∀ k, k < Z.1 → σ k < Z.1 ∧ τ (σ k) = k) (hτ : ∀ k, k < Z.1 → τ k < Z.1 ∧ σ (τ k) = k) (ho : ∀ k, Z.1 ≤ k → σ k = k) (ha : σ a' = a ∧ (a' < Z.1 ∨ 1000 ≤ a')) (hb : σ b' = b ∧ (b' < Z.1 ∨ 1000 ≤ b')) (hc : σ c' = c ∧ (c' < Z.1 ∨ 1000 ≤ c'))
    (kk : AX (some q) M d mc ms cu su pc [(0, .ref a'), (1, .ref b'), (2, .ref c')] [] (rnZ σ τ Z) (fun k => G (σ k)) (fun k => L (σ k)) Q) : AX (some q) M d mc ms cu su pc [(0, .ref a), (1, .ref b), (2, .ref c)] [] Z G L Q := by
  intro p l e R s m args below meth c9 H locs ls dC dI tc ad A N0 ad0 Qr hC hW hl hs hv hg hn hr
  have hN : N0 = 0 := hr.1 (fun z => by cases z)
  subst hN
  obtain ⟨hK, hP, hD, hS, hA, hSF, hSX, hF⟩ := id hW
  have hag : Ag 0 ad (fun k => ad (σ k)) := fun k hk => congrArg ad (ho k (by have := hF.2.2.2.1; rcases hk with h | h <;> omega))
  refine kk p l e R s m args below meth c9 H locs ls dC dI tc (fun k => ad (σ k)) A 0 ad0 Qr hC ⟨hK, fun k x h => hP _ x (rn_at hF hσ hτ h).2, ⟨fun i j x y hx hy he => ?_, fun k x h => hD.2 _ x (rn_at hF hσ hτ h).2⟩, hS, hA, SF_ag hSF hag, SX_ag hSX hag, rn_WF hF hσ hτ ho⟩ ?_ trivial ⟨hv.1, hv.2.1, fun j v hj => ?_⟩ (Ag_tr (Nat.le_refl 0) hg hag) (Nat.zero_le _) hr
  · obtain ⟨hi, hx'⟩ := rn_at hF hσ hτ hx
    obtain ⟨hj, hy'⟩ := rn_at hF hσ hτ hy
    have e9 := hD.1 _ _ x y hx' hy' he
    rw [← (hσ i hi).2, ← (hσ j hj).2, e9]
  · intro j v hj
    match j with
    | 0 => cases hj; exact ha.2
    | 1 => cases hj; exact hb.2
    | 2 => cases hj; exact hc.2
    | j + 3 => cases hj
  · match j with
    | 0 => cases hj; show ls[0]? = some (.val (.ref (ad (σ a')))); rw [ha.1]; exact hv.2.2 0 (.ref a) rfl
    | 1 => cases hj; show ls[1]? = some (.val (.ref (ad (σ b')))); rw [hb.1]; exact hv.2.2 1 (.ref b) rfl
    | 2 => cases hj; show ls[2]? = some (.val (.ref (ad (σ c')))); rw [hc.1]; exact hv.2.2 2 (.ref c) rfl
    | j + 3 => cases hj
