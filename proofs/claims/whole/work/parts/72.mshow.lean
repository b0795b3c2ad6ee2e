-- ===== the model: show =====
/-- as W, with another show -/
def shV (W : Wv) (cls : List Cl) : Wv := mkW W.m W.mm W.C W.gr W.rn (fun p row mi => sbL cls (nI p) row (nI mi)) (nI (drL cls))
theorem stM_cd {cd cd' : Nat → Int32} {num : Int32} {row : Nat → Int32} {mi : Int32} : ∀ k, (∀ j, j < k → cd' j = cd j) → stM cd' num row mi k = stM cd num row mi k
  | 0, _ => rfl
  | k + 1, h => by
    unfold stM
    rw [stM_cd k (fun j hj => h j (by omega)), h k (by omega)]
theorem dpM_cd {cd cd' : Nat → Int32} : ∀ k, (∀ j, j < k → cd' j = cd j) → dpM cd' k = dpM cd k
  | 0, _ => rfl
  | k + 1, h => by
    unfold dpM
    rw [dpM_cd k (fun j hj => h j (by omega)), h k (by omega)]
theorem cdOK_cd {cd cd' : Nat → Int32} {n : Nat} (h : ∀ j, j < n → cd' j = cd j) (o : cdOK cd n) : cdOK cd' n := by
  refine ⟨fun k hk => ?_, (dpM_cd n h).trans o.2⟩
  rw [h k hk, dpM_cd k (fun j hj => h j (by omega))]
  exact o.1 k hk
/-- a show that stood stands when another is written behind it -/
theorem smV_old {G0 G : Gt} {n b0 N C : Nat} {h : Int32} {W : Wv} (hs : smV G0 h W) (h17 : G0 75 17 = nI n) (hn : n ≤ 6) (h25 : G0 75 25 = nI b0) (hb : b0 ≤ 800) (k86 : ∀ j, j < n → G 86 j = G0 86 j) (k87 : ∀ x, 87 ≤ x → x < 91 → ∀ j, j < 10 * n → G x j = G0 x j) (k91 : ∀ k, k < b0 → G 91 k = G0 91 k) (g17 : G 75 17 = nI N) (hN : n ≤ N) (hN6 : N ≤ 6) (g25 : G 75 25 = nI C) (hC : b0 ≤ C) (hC8 : C ≤ 800) : smV G h W := by
  obtain ⟨s1, s2, s3⟩ := hs
  rcases s1 with rfl | ⟨hh, m, a1, rfl, a3, a4, a5, N0, a6, a7, a8⟩
  · refine ⟨Or.inl rfl, ?_, fun p row mi => ?_⟩
    · unfold drO at s2 ⊢; rw [if_pos rfl] at s2 ⊢; exact s2
    · have := s3 p row mi
      unfold smO at this ⊢; rw [if_pos rfl] at this ⊢; exact this
  have hN0 : N0 = n := (nI_eq (by omega) (by omega)).mp (a6.symm.trans h17)
  subst hN0
  have n1 : ¬ nI hh = -1 := nI_m1 (by omega)
  have c1 : (nI hh).toNatClampNeg = hh := nI_clamp (by omega)
  have c2 : (nI m).toNatClampNeg = m := nI_clamp (by omega)
  have e86 : G 86 hh = nI m := (k86 hh a7).trans a4
  have e87 : ∀ x, 87 ≤ x → x < 91 → ∀ i, i < m → G x (10 * hh + i) = G0 x (10 * hh + i) := fun x x1 x2 i hi => k87 x x1 x2 _ (by omega)
  have cl : ∀ i, i < m → clOK G (10 * hh + i) ∧ ∀ num row mi, tmM G (10 * hh + i) num row mi = tmM G0 (10 * hh + i) num row mi := fun i hi => by
    have q0 := e87 87 (by decide) (by decide) i hi
    have q1 := e87 88 (by decide) (by decide) i hi
    have q2 := e87 89 (by decide) (by decide) i hi
    have q3 := e87 90 (by decide) (by decide) i hi
    rcases a5 i hi with z | ⟨b, n9, b1, b2, b3, b4, C0, b5, b6, b7⟩
    · exact ⟨Or.inl (by rw [q0]; exact z), fun num row mi => by unfold tmM; rw [q0, if_pos z, if_pos z]⟩
    · have hC0 : C0 = b0 := (nI_eq (by omega) (by omega)).mp (b5.symm.trans h25)
      have k9 : ∀ j, j < n9 → G 91 (b + j) = G0 91 (b + j) := fun j hj => k91 _ (by omega)
      refine ⟨Or.inr ⟨b, n9, q2.trans b1, q3.trans b2, b3, cdOK_cd k9 b4, C, g25, by omega, hC8⟩, fun num row mi => ?_⟩
      unfold tmM cvM
      rw [q0, q1, q2, q3, b1, b2, nI_clamp (by omega), nI_clamp (by omega), stM_cd n9 k9]
  have ed : ∀ i, i ≤ m → drM G hh i = drM G0 hh i := fun i => by
    induction i with
    | zero => intro _; rfl
    | succ i ih => intro hi; unfold drM; rw [ih (by omega), e87 87 (by decide) (by decide) i (by omega), e87 88 (by decide) (by decide) i (by omega)]
  have es : ∀ num row mi i, i ≤ m → smM G hh num row mi i = smM G0 hh num row mi i := fun num row mi i => by
    induction i with
    | zero => intro _; rfl
    | succ i ih => intro hi; unfold smM; rw [ih (by omega), (cl i (by omega)).2]
  refine ⟨Or.inr ⟨hh, m, a1, rfl, a3, e86, fun i hi => (cl i hi).1, N, g17, by omega, hN6⟩, ?_, fun p row mi => ?_⟩
  · unfold drO at s2 ⊢
    rw [if_neg n1, c1, a4, c2] at s2
    rw [if_neg n1, c1, e86, c2, ed m (Nat.le_refl _)]
    exact s2
  · have := s3 p row mi
    unfold smO at this ⊢
    rw [if_neg n1, c1, a4, c2] at this
    rw [if_neg n1, c1, e86, c2, es _ _ _ m (Nat.le_refl _)]
    exact this
theorem SH_fr {G0 G : Gt} {L : Lt} {W : Wv} {H : Hv} {I : Option (Wv × Hv)} {T : Nat × (Nat → Nat)} {R : Nat × (Nat → Int32)} {P : Pt9} {n : Nat} {b0 N C : Nat} (h : IM G0 L W H I T R P n) (hn : n ≤ 6) (h25 : G0 75 25 = nI b0) (hb : b0 ≤ 800) (fx : ∀ x, x ≠ 75 → ¬ (86 ≤ x ∧ x < 92) → G x = G0 x) (fi : ∀ i, i ≠ 11 → i ≠ 13 → i ≠ 14 → i ≠ 15 → i ≠ 16 → i ≠ 17 → i ≠ 18 → i ≠ 25 → G 75 i = G0 75 i) (k86 : ∀ j, j < n → G 86 j = G0 86 j) (k87 : ∀ x, 87 ≤ x → x < 91 → ∀ j, j < 10 * n → G x j = G0 x j) (k91 : ∀ k, k < b0 → G 91 k = G0 91 k) (g11 : G 75 11 = nI 0) (g17 : G 75 17 = nI N) (hN : n ≤ N) (hN6 : N ≤ 6) (g25 : G 75 25 = nI C) (hC : b0 ≤ C) (hC8 : C ≤ 100 * N) {W' : Wv} (hv : (W'.m, W'.mm, W'.C, W'.gr, W'.rn) = (W.m, W.mm, W.C, W.gr, W.rn)) (hw : (∀ x, smV G0 x W → smV G x W) → smV G (G 75 18) W') : IM G L W' H I (0, T.2) R P N ∧ fM G0 L G L := by
  obtain ⟨b1, b2, b3, b4, b5, b6, b7⟩ := h
  have old : ∀ x W, smV G0 x W → smV G x W := fun x W hs => smV_old hs b7.1 hn h25 hb k86 k87 k91 g17 hN hN6 g25 hC (by omega)
  obtain ⟨v1, v2, v3, v4, v5, v6⟩ := b1
  simp only [Prod.mk.injEq] at hv
  obtain ⟨w1, w2, w3, w4, w5⟩ := hv
  have D8 : ∀ i, i = 2 ∨ i = 10 ∨ i = 27 ∨ i = 31 ∨ i = 34 ∨ i = 37 ∨ i = 39 → G 75 i = G0 75 i := fun i hi => fi i (by omega) (by omega) (by omega) (by omega) (by omega) (by omega) (by omega) (by omega)
  have FX : ∀ x, x ≠ 75 → (x < 86 ∨ 92 ≤ x) → G x = G0 x := fun x h1 h2 => fx x h1 (by omega)
  refine ⟨⟨⟨?_, ?_, ?_, ?_, ?_, hw (fun x => old x W)⟩, ?_, ?_, ⟨g11, fun i hi => absurd hi (Nat.not_lt_zero i)⟩, ?_, ?_, g17, C, hC8, g25⟩, fun a ha => ⟨FX a (by omega) (by omega), rfl⟩⟩
  · rw [w1, D8 2 (by decide)]; exact v1
  · rw [w2, D8 10 (by decide)]; exact v2
  · rw [w1, w3]
    exact fun p hp => ⟨fun i hi => by rw [FX (78 + i) (by omega) (by omega)]; exact (v3 p hp).1 i hi, fun i hi => by rw [FX 84 (by decide) (by decide)]; exact (v3 p hp).2 i hi⟩
  · rw [w4, FX 76 (by decide) (by decide)]; exact v4
  · rw [w5, FX 77 (by decide) (by decide)]; exact v5
  · exact hM_keep b2 (fun i hi => D8 i (by omega)) (fun a x y => FX a (by omega) (by omega))
  · cases I with
    | none => exact (D8 39 (by decide)).trans b3
    | some q =>
      obtain ⟨i1, ⟨j1, j2, j3, j4, j5, j6⟩, j7⟩ := b3
      refine ⟨(D8 39 (by decide)).trans i1, ?_⟩
      unfold iM
      rw [FX 101 (by decide) (by decide)]
      exact ⟨⟨j1, j2, j3, j4, j5, old _ _ j6⟩, j7⟩
  · exact imR_keep b5 (D8 37 (by decide)) (FX 100 (by decide) (by decide))
  · exact imP_keep b6 (FX 105 (by decide) (by decide)) (FX 106 (by decide) (by decide)) rfl
theorem sh_fail {G0 G : Gt} {L : Lt} {W : Wv} {H : Hv} {I : Option (Wv × Hv)} {T : Nat × (Nat → Nat)} {R : Nat × (Nat → Int32)} {P : Pt9} {n : Nat} {b0 a : Nat} (h : IM G0 L W H I T R P n) (hn : n < 6) (h25 : G0 75 25 = nI b0) (hb : b0 ≤ 100 * n) (hs : SCx G0 G n b0 a) : IM (up2 (up2 G 75 11 0) 75 25 (nI b0)) L W H I (0, T.2) R P n ∧ fM G0 L (up2 (up2 G 75 11 0) 75 25 (nI b0)) L := by
  obtain ⟨s1, s2, s3, s4, s5⟩ := hs
  have e17 := h.2.2.2.2.2.2.1
  have e18 := s3 18 (by decide) (by decide) (by decide) (by decide) (by decide)
  refine SH_fr (C := b0) h (by omega) h25 (by omega) (fun x h1 h2 => by rw [up2_row h1, up2_row h1]; exact s2 x h1 (by omega)) (fun i e1 e2 e3 e4 e5 e6 e7 e8 => by rw [up2_i e8, up2_i e1]; exact s3 i e2 e3 e4 e5 e8) (fun j hj => by rw [up2_k (by decide), up2_k (by decide), s2 86 (by decide) (by decide)]) (fun x h1 h2 j hj => by rw [up2_k (by omega), up2_k (by omega)]; exact s4 x h1 h2 j hj) (fun k hk => by rw [up2_k (by decide), up2_k (by decide)]; exact s5 k hk) (by rw [up2_i (by decide), up2_s]; rfl) (by rw [up2_i (by decide), up2_i (by decide), s3 17 (by decide) (by decide) (by decide) (by decide) (by decide)]; exact e17) (Nat.le_refl _) (by omega) (by rw [up2_s]) (Nat.le_refl _) hb rfl (fun old => ?_)
  rw [up2_i (by decide), up2_i (by decide), e18]
  exact old _ h.1.2.2.2.2.2
theorem sh_ok {G0 G : Gt} {L : Lt} {W : Wv} {H : Hv} {I : Option (Wv × Hv)} {T : Nat × (Nat → Nat)} {R : Nat × (Nat → Int32)} {P : Pt9} {n : Nat} {b0 a c : Nat} {cls : List Cl} (h : IM G0 L W H I T R P n) (hn : n < 6) (h25 : G0 75 25 = nI b0) (hb : b0 ≤ 100 * n) (hs : SC G0 G n b0 a c cls) (hc : c ≤ b0 + 100) (ho : ∀ c, c ∈ cls → okC c) (hl : cls.length ≤ 10) {x y z : Int32} (hx : x = nI cls.length) (hy : y = nI n) (hz : z = nI (n + 1)) : IM (up2 (up2 (up2 (up2 G 75 11 0) 86 n x) 75 18 y) 75 17 z) L (shV W cls) H I (0, T.2) R P (n + 1) ∧ fM G0 L (up2 (up2 (up2 (up2 G 75 11 0) 86 n x) 75 18 y) 75 17 z) L := by
  obtain ⟨s1, s2, s3, s4, s5, s6, s7, s8⟩ := hs
  have g25 : (up2 (up2 (up2 (up2 G 75 11 0) 86 n x) 75 18 y) 75 17 z) 75 25 = nI c := by rw [up2_i (by decide), up2_i (by decide), up2_k (by decide), up2_i (by decide)]; exact s2
  have K : ∀ x9 j, x9 ≠ 75 → x9 ≠ 86 → (up2 (up2 (up2 (up2 G 75 11 0) 86 n x) 75 18 y) 75 17 z) x9 j = G x9 j := fun x9 j h1 h2 => by rw [up2_k h1, up2_k h1, up2_k h2, up2_k h1]
  refine SH_fr (C := c) h (by omega) h25 (by omega) (fun x h1 h2 => by rw [up2_row h1, up2_row h1, up2_row (by omega), up2_row h1]; exact s5 x h1 (by omega)) (fun i e1 e2 e3 e4 e5 e6 e7 e8 => by rw [up2_i e6, up2_i e7, up2_k (by decide), up2_i e1]; exact s6 i e2 e3 e4 e5 e8) (fun j hj => by rw [up2_k (by decide), up2_k (by decide), up2_i (by omega), up2_k (by decide), s5 86 (by decide) (by decide)]) (fun x h1 h2 j hj => by rw [K x j (by omega) (by omega)]; exact s7 x h1 h2 j hj) (fun k hk => by rw [K 91 k (by decide) (by decide)]; exact s8 k hk) (by rw [up2_i (by decide), up2_i (by decide), up2_k (by decide), up2_s]; rfl) (by rw [up2_s]; exact hz) (Nat.le_succ n) (by omega) g25 s3 (by omega) rfl (fun _ => ?_)
  have e18 : (up2 (up2 (up2 (up2 G 75 11 0) 86 n x) 75 18 y) 75 17 z) 75 18 = nI n := by rw [up2_i (by decide), up2_s]; exact hy
  rw [e18]
  refine cm_V (N := n + 1) (cls := cls) (fun i hi => ?_) ho hl (Nat.lt_succ_self n) (by omega) (by rw [up2_s]; exact hz) (by rw [up2_k (by decide), up2_k (by decide), up2_s]; exact hx) (fun _ _ _ => rfl) rfl
  obtain ⟨c1, c2, c3⟩ := s4 i hi
  refine ⟨by rw [K 87 _ (by decide) (by decide)]; exact c1, by rw [K 88 _ (by decide) (by decide)]; exact c2, fun hw => ?_⟩
  obtain ⟨b, d1, d2, d3, d4, d5⟩ := c3 hw
  exact ⟨b, by rw [K 89 _ (by decide) (by decide)]; exact d1, by rw [K 90 _ (by decide) (by decide)]; exact d2, by omega, ⟨c, g25, d4, by omega⟩, fun k hk => by rw [K 91 _ (by decide) (by decide)]; exact d5 k hk⟩
abbrev shQ (Z : Zt) (G : Gt) (L : Lt) (W : Wv) (H : Hv) (I : Option (Wv × Hv)) (T : Nat × (Nat → Nat)) (R : Nat × (Nat → Int32)) (P : Pt9) (n : Nat) (r : Bool × Nat × List Cl) : Qt := RP (.int (if r.1 = true then nI n else -10 - nI r.2.1)) (JQ Z G L (if r.1 = true then shV W r.2.2 else W) H I (0, T.2) R P (if r.1 = true then n + 1 else n))
theorem l_show {Z : Zt} {L : Lt} (hZ : OK Z) {G0 : Gt} {W : Wv} {H : Hv} {I : Option (Wv × Hv)} {T : Nat × (Nat → Nat)} {R : Nat × (Nat → Int32)} {P : Pt9} {n : Nat} (h : IM G0 L W H I T R P n) (hT1 : T.1 ≤ 100) (hT2 : ∀ i, i < T.1 → T.2 i < 128) (hn6 : n < 6) {b0 : Nat} (h25 : G0 75 25 = nI b0) (hb : b0 ≤ 100 * n) : ∀ (k a c : Nat) (cls : List Cl) (G : Gt), cls.length + k = 10 → 1 ≤ k → SC G0 G n b0 a c cls → a ≤ T.1 → c ≤ b0 + a → (∀ c, c ∈ cls → okC c) → AX none mX12_show 22 0 0 0 0 29 [(0, .ref 75), (1, .int (nI b0)), (2, .int (nI cls.length)), (3, .int 1), (4, .int 0)] [] Z G L (shQ Z G0 L W H I T R P n (pSh T k a cls)) := by
  have hT := h.2.2.2.1
  have hb5 : b0 ≤ 500 := by omega
  intro k
  induction k with
  | zero => intro a c cls G _ h0; omega
  | succ k ih =>
    intro a c cls G hk _ hs ha hca hok
    have hl10 : cls.length < 10 := by omega
    have e170 : G 75 17 = nI n := (hs.2.2.2.2.2.1 17 (by decide) (by decide) (by decide) (by decide) (by decide)).trans h.2.2.2.2.2.2.1
    refine ax_iload_n (i := 3) dX12_show_29 rfl rfl ?_
    refine ax_if_eq (tgt := 123) dX12_show_30 (by decide) (fun c_30 => ?_) (fun c_30 => ?_)
    · exact absurd c_30 (by decide)
    · refine ax_iload dX12_show_33 rfl ?_
      refine ax_if_ne (tgt := 123) dX12_show_35 (by decide) (fun c_35 => ?_) (fun c_35 => ?_)
      · exact absurd (by decide) c_35
      · refine ax_iload_n (i := 2) dX12_show_38 rfl rfl ?_
        refine ax_bipush (v := 10) dX12_show_39 (by decide) ?_
        refine ax_icmp_ge (tgt := 64) dX12_show_41 (by decide) (fun c_41 => ?_) (fun c_41 => ?_)
        · exact absurd c_41 (nI_ge (b := 10) (by omega) (by decide))
        · refine ax_aload_n (i := 0) dX12_show_44 rfl rfl ?_
          refine ax_bipush (v := 10) dX12_show_45 (by decide) ?_
          refine ax_aload_n (i := 0) dX12_show_47 rfl rfl ?_
          refine ax_getI dX12_show_48 fl_X12_218 rfl (OKs hZ rfl) ?_
          refine ax_top (congrArg Value.int e170) ?_
          refine ax_imul dX12_show_51 ?_
          refine ax_iload_n (i := 2) dX12_show_52 rfl rfl ?_
          refine ax_iadd dX12_show_53 ?_
          refine ax_top (congrArg Value.int (show 10 * nI n + nI cls.length = nI (10 * n + cls.length) from by rw [show (10 : Int32) = nI 10 from rfl, pk_mul, nI_add])) ?_
          refine ax_cVq dX12_show_54 lk_X12_221 (m_clause hZ hT hT1 hT2 hs ha hca hb5 hn6 hl10) rfl (OKs hZ rfl) ⟨_, rfl, rfl⟩ rfl (Nat.le_of_ble_eq_true rfl) (Nat.le_of_ble_eq_true rfl) (Nat.le_of_ble_eq_true rfl) (Nat.le_of_ble_eq_true rfl) ?_
          rintro _ G1 _ ⟨rfl, rfl, pt1, pf1⟩
          refine ax_if_eq (tgt := 64) dX12_show_57 (by decide) (fun c_57 => ?_) (fun c_57 => ?_)
          · refine ax_iconst (v := 0) dX12_show_64 (by decide) ?_
            refine ax_istore_n (i := 3) dX12_show_65 rfl (by decide) rfl ?_
            refine ax_iload_n (i := 3) dX12_show_66 rfl rfl ?_
            refine ax_if_ne (tgt := 73) dX12_show_67 (by decide) (fun c_67 => ?_) (fun c_67 => ?_)
            · exact absurd (by decide) c_67
            · refine ax_goto (tgt := 29) dX12_show_70 (by decide) ?_
              refine ax_iload_n (i := 3) dX12_show_29 rfl rfl ?_
              refine ax_if_eq (tgt := 123) dX12_show_30 (by decide) (fun c_30 => ?_) (fun c_30 => ?_)
              · refine ax_aload_n (i := 0) dX12_show_123 rfl rfl ?_
                refine ax_iconst (v := 0) dX12_show_124 (by decide) ?_
                refine ax_putI dX12_show_125 fl_X12_146 (Or.inl fp_X12_12_11) rfl rfl rfl (OKs hZ rfl) ?_
                refine ax_iload dX12_show_128 rfl ?_
                refine ax_if_ne (tgt := 146) dX12_show_130 (by decide) (fun c_130 => ?_) (fun c_130 => ?_)
                · exact absurd (by decide) c_130
                · refine ax_aload_n (i := 0) dX12_show_133 rfl rfl ?_
                  refine ax_iload_n (i := 1) dX12_show_134 rfl rfl ?_
                  refine ax_putI dX12_show_135 fl_X12_174 (Or.inl fp_X12_12_25) rfl rfl rfl (OKs hZ rfl) ?_
                  refine ax_bipush (v := (-10)) dX12_show_138 (by decide) ?_
                  refine ax_aload_n (i := 0) dX12_show_140 rfl rfl ?_
                  refine ax_getI dX12_show_141 fl_X12_149 rfl (OKs hZ rfl) ?_
                  refine ax_isub dX12_show_144 ?_
                  refine ax_iret dX12_show_145 rfl rfl (Nat.le_of_ble_eq_true rfl) (Nat.le_of_ble_eq_true rfl) ?_
                  have e9 : pSh T (k + 1) a cls = (false, (pCl T a).2.1, []) := by rw [pSh, if_neg (by rw [bI_f c_57]; decide)]
                  rw [e9]
                  have hsx := (pf1 (bI_f c_57))
                  obtain ⟨z1, z2⟩ := sh_fail h hn6 h25 hb hsx
                  exact ⟨congrArg (fun z => some (Value.int z)) (show ((-10) - ((up2 (up2 G1 75 11 0) 75 25 (nI b0)) 75 13)) = -10 - nI (pCl T a).2.1 from by rw [up2_i (by decide), up2_i (by decide), hsx.1]), rfl, z1, z2⟩
              · exact absurd (by decide) c_30
          · have cf := bI_t c_57
            obtain ⟨c1, hs1, hcc, hc1⟩ := pt1 cf
            obtain ⟨i1, i2⟩ := pCl_ok (T := T) (a := a) hT1 ha
            obtain ⟨i3, i4, i5⟩ := i2 cf
            have hok2 : ∀ c, c ∈ cls ++ [(pCl T a).2.2] → okC c := fun c hx => (List.mem_append.mp hx).elim (hok c) (fun y => by rw [List.mem_singleton.mp y]; exact i5)
            have hlen2 : (cls ++ [(pCl T a).2.2]).length = cls.length + 1 := by rw [List.length_append]; rfl
            have e17 : G1 75 17 = nI n := (hs1.2.2.2.2.2.1 17 (by decide) (by decide) (by decide) (by decide) (by decide)).trans h.2.2.2.2.2.2.1
            have hT5 := SC_T hs1 hT
            obtain ⟨o, ho⟩ := any_nI (G1 75 16)
            refine ax_iconst (v := 1) dX12_show_60 (by decide) ?_
            refine ax_goto (tgt := 65) dX12_show_61 (by decide) ?_
            refine ax_istore_n (i := 3) dX12_show_65 rfl (by decide) rfl ?_
            refine ax_iload_n (i := 3) dX12_show_66 rfl rfl ?_
            refine ax_if_ne (tgt := 73) dX12_show_67 (by decide) (fun c_67 => ?_) (fun c_67 => ?_)
            · refine ax_iinc (v := (nI cls.length) + 1) dX12_show_73 rfl rfl (by decide) rfl ?_
              refine ax_aload_n (i := 0) dX12_show_76 rfl rfl ?_
              refine ax_getI dX12_show_77 fl_X12_149 rfl (OKs hZ rfl) ?_
              refine ax_top (congrArg Value.int hs1.1) ?_
              refine ax_aload_n (i := 0) dX12_show_80 rfl rfl ?_
              refine ax_getI dX12_show_81 fl_X12_146 rfl (OKs hZ rfl) ?_
              refine ax_top (congrArg Value.int hT5.1) ?_
              refine ax_icmp_ne (tgt := 91) dX12_show_84 (by decide) (fun c_84 => ?_) (fun c_84 => ?_)
              · refine ax_iconst (v := 0) dX12_show_91 (by decide) ?_
                refine ax_istore dX12_show_92 (by decide) rfl ?_
                refine ax_iload dX12_show_94 rfl ?_
                refine ax_if_ne (tgt := 114) dX12_show_96 (by decide) (fun c_96 => ?_) (fun c_96 => ?_)
                · exact absurd (by decide) c_96
                · refine ax_iload_n (i := 2) dX12_show_99 rfl rfl ?_
                  refine ax_bipush (v := 10) dX12_show_100 (by decide) ?_
                  refine ax_icmp_ge (tgt := 118) dX12_show_102 (by decide) (fun c_102 => ?_) (fun c_102 => ?_)
                  · refine ax_iconst (v := 0) dX12_show_118 (by decide) ?_
                    refine ax_istore_n (i := 3) dX12_show_119 rfl (by decide) rfl ?_
                    refine ax_goto (tgt := 29) dX12_show_120 (by decide) ?_
                    refine ax_iload_n (i := 3) dX12_show_29 rfl rfl ?_
                    refine ax_if_eq (tgt := 123) dX12_show_30 (by decide) (fun c_30 => ?_) (fun c_30 => ?_)
                    · refine ax_aload_n (i := 0) dX12_show_123 rfl rfl ?_
                      refine ax_iconst (v := 0) dX12_show_124 (by decide) ?_
                      refine ax_putI dX12_show_125 fl_X12_146 (Or.inl fp_X12_12_11) rfl rfl rfl (OKs hZ rfl) ?_
                      refine ax_iload dX12_show_128 rfl ?_
                      refine ax_if_ne (tgt := 146) dX12_show_130 (by decide) (fun c_130 => ?_) (fun c_130 => ?_)
                      · exact absurd (by decide) c_130
                      · refine ax_aload_n (i := 0) dX12_show_133 rfl rfl ?_
                        refine ax_iload_n (i := 1) dX12_show_134 rfl rfl ?_
                        refine ax_putI dX12_show_135 fl_X12_174 (Or.inl fp_X12_12_25) rfl rfl rfl (OKs hZ rfl) ?_
                        refine ax_bipush (v := (-10)) dX12_show_138 (by decide) ?_
                        refine ax_aload_n (i := 0) dX12_show_140 rfl rfl ?_
                        refine ax_getI dX12_show_141 fl_X12_149 rfl (OKs hZ rfl) ?_
                        refine ax_isub dX12_show_144 ?_
                        refine ax_iret dX12_show_145 rfl rfl (Nat.le_of_ble_eq_true rfl) (Nat.le_of_ble_eq_true rfl) ?_
                        have c8 : ¬ (pCl T a).2.1 = T.1 := fun z => c_84 (by rw [z])
                        have c7 : k = 0 := by have := (nI_leI (a := 10) (b := cls.length + 1) (by decide) (by omega)).mp (show nI 10 ≤ nI (cls.length + 1) from by rw [← nI_1 cls.length]; exact c_102); omega
                        have e9 : pSh T (k + 1) a cls = (false, (pCl T a).2.1, []) := by rw [pSh, if_pos cf, if_neg c8, if_pos c7]
                        rw [e9]
                        have hsx := (show SCx G0 G1 n b0 (pCl T a).2.1 from ⟨hs1.1, hs1.2.2.2.2⟩)
                        obtain ⟨z1, z2⟩ := sh_fail h hn6 h25 hb hsx
                        exact ⟨congrArg (fun z => some (Value.int z)) (show ((-10) - ((up2 (up2 G1 75 11 0) 75 25 (nI b0)) 75 13)) = -10 - nI (pCl T a).2.1 from by rw [up2_i (by decide), up2_i (by decide), hsx.1]), rfl, z1, z2⟩
                    · exact absurd (by decide) c_30
                  · refine ax_aload_n (i := 0) dX12_show_105 rfl rfl ?_
                    refine ax_bipush (v := 59) dX12_show_106 (by decide) ?_
                    refine ax_cVq dX12_show_108 lk_X12_171 (m_is hZ hT5 hT1 hT2 (SC_self hs1 ho) i1 59 (by decide)) rfl (OKs hZ rfl) ⟨_, rfl, rfl⟩ rfl (Nat.le_of_ble_eq_true rfl) (Nat.le_of_ble_eq_true rfl) (Nat.le_of_ble_eq_true rfl) (Nat.le_of_ble_eq_true rfl) ?_
                    rintro _ G2 _ ⟨rfl, rfl, p2⟩
                    refine ax_if_eq (tgt := 118) dX12_show_111 (by decide) (fun c_111 => ?_) (fun c_111 => ?_)
                    · refine ax_iconst (v := 0) dX12_show_118 (by decide) ?_
                      refine ax_istore_n (i := 3) dX12_show_119 rfl (by decide) rfl ?_
                      refine ax_goto (tgt := 29) dX12_show_120 (by decide) ?_
                      refine ax_iload_n (i := 3) dX12_show_29 rfl rfl ?_
                      refine ax_if_eq (tgt := 123) dX12_show_30 (by decide) (fun c_30 => ?_) (fun c_30 => ?_)
                      · refine ax_aload_n (i := 0) dX12_show_123 rfl rfl ?_
                        refine ax_iconst (v := 0) dX12_show_124 (by decide) ?_
                        refine ax_putI dX12_show_125 fl_X12_146 (Or.inl fp_X12_12_11) rfl rfl rfl (OKs hZ rfl) ?_
                        refine ax_iload dX12_show_128 rfl ?_
                        refine ax_if_ne (tgt := 146) dX12_show_130 (by decide) (fun c_130 => ?_) (fun c_130 => ?_)
                        · exact absurd (by decide) c_130
                        · refine ax_aload_n (i := 0) dX12_show_133 rfl rfl ?_
                          refine ax_iload_n (i := 1) dX12_show_134 rfl rfl ?_
                          refine ax_putI dX12_show_135 fl_X12_174 (Or.inl fp_X12_12_25) rfl rfl rfl (OKs hZ rfl) ?_
                          refine ax_bipush (v := (-10)) dX12_show_138 (by decide) ?_
                          refine ax_aload_n (i := 0) dX12_show_140 rfl rfl ?_
                          refine ax_getI dX12_show_141 fl_X12_149 rfl (OKs hZ rfl) ?_
                          refine ax_isub dX12_show_144 ?_
                          refine ax_iret dX12_show_145 rfl rfl (Nat.le_of_ble_eq_true rfl) (Nat.le_of_ble_eq_true rfl) ?_
                          have c8 : ¬ (pCl T a).2.1 = T.1 := fun z => c_84 (by rw [z])
                          have c7 : ¬ k = 0 := fun z => c_102 (show (10 : Int32) ≤ nI cls.length + 1 from by rw [nI_1]; exact nI_le (a := 10) (by omega) (by omega))
                          have c6 := bI_n c_111
                          rw [if_neg c6] at p2
                          have e9 : pSh T (k + 1) a cls = (false, (pCl T a).2.1, []) := by rw [pSh, if_pos cf, if_neg c8, if_neg c7, if_neg c6]
                          rw [e9]
                          have hsx := (SC_PSx hs1 ⟨_, _, p2⟩)
                          obtain ⟨z1, z2⟩ := sh_fail h hn6 h25 hb hsx
                          exact ⟨congrArg (fun z => some (Value.int z)) (show ((-10) - ((up2 (up2 G2 75 11 0) 75 25 (nI b0)) 75 13)) = -10 - nI (pCl T a).2.1 from by rw [up2_i (by decide), up2_i (by decide), hsx.1]), rfl, z1, z2⟩
                      · exact absurd (by decide) c_30
                    · refine ax_iconst (v := 1) dX12_show_114 (by decide) ?_
                      refine ax_goto (tgt := 119) dX12_show_115 (by decide) ?_
                      refine ax_istore_n (i := 3) dX12_show_119 rfl (by decide) rfl ?_
                      refine ax_goto (tgt := 29) dX12_show_120 (by decide) ?_
                      have c8 : ¬ (pCl T a).2.1 = T.1 := fun z => c_84 (by rw [z])
                      have c7 : ¬ k = 0 := fun z => c_102 (show (10 : Int32) ≤ nI cls.length + 1 from by rw [nI_1]; exact nI_le (a := 10) (by omega) (by omega))
                      have c6 := bI_y c_111
                      rw [if_pos c6] at p2
                      have hl1 := chT_lt c6 (by decide)
                      have e9 : pSh T (k + 1) a cls = pSh T k ((pCl T a).2.1 + 1) (cls ++ [(pCl T a).2.2]) := by rw [pSh, if_pos cf, if_neg c8, if_neg c7, if_pos c6]
                      rw [e9]
                      have hs2 := SC_PS hs1 p2
                      refine ax_lv [(0, .ref 75), (1, .int (nI b0)), (2, .int (nI (cls ++ [(pCl T a).2.2]).length)), (3, .int 1), (4, .int 0)] ⟨rfl, rfl, sI (by rw [hlen2, nI_1]), rfl, rfl, trivial⟩ ?_
                      exact ih _ _ _ _ (by rw [hlen2]; omega) (by omega) hs2 hl1 (by show c1 + 0 ≤ _; omega) hok2
              · refine ax_iconst (v := 1) dX12_show_87 (by decide) ?_
                refine ax_goto (tgt := 92) dX12_show_88 (by decide) ?_
                refine ax_istore dX12_show_92 (by decide) rfl ?_
                refine ax_iload dX12_show_94 rfl ?_
                refine ax_if_ne (tgt := 114) dX12_show_96 (by decide) (fun c_96 => ?_) (fun c_96 => ?_)
                · refine ax_iconst (v := 1) dX12_show_114 (by decide) ?_
                  refine ax_goto (tgt := 119) dX12_show_115 (by decide) ?_
                  refine ax_istore_n (i := 3) dX12_show_119 rfl (by decide) rfl ?_
                  refine ax_goto (tgt := 29) dX12_show_120 (by decide) ?_
                  refine ax_iload_n (i := 3) dX12_show_29 rfl rfl ?_
                  refine ax_if_eq (tgt := 123) dX12_show_30 (by decide) (fun c_30 => ?_) (fun c_30 => ?_)
                  · exact absurd c_30 (by decide)
                  · refine ax_iload dX12_show_33 rfl ?_
                    refine ax_if_ne (tgt := 123) dX12_show_35 (by decide) (fun c_35 => ?_) (fun c_35 => ?_)
                    · refine ax_aload_n (i := 0) dX12_show_123 rfl rfl ?_
                      refine ax_iconst (v := 0) dX12_show_124 (by decide) ?_
                      refine ax_putI dX12_show_125 fl_X12_146 (Or.inl fp_X12_12_11) rfl rfl rfl (OKs hZ rfl) ?_
                      refine ax_iload dX12_show_128 rfl ?_
                      refine ax_if_ne (tgt := 146) dX12_show_130 (by decide) (fun c_130 => ?_) (fun c_130 => ?_)
                      · refine ax_aload_n (i := 0) dX12_show_146 rfl rfl ?_
                        refine ax_getR dX12_show_147 fl_X12_42 rfl (OKs hZ rfl) (OKr hZ rfl) ?_
                        refine ax_aload_n (i := 0) dX12_show_150 rfl rfl ?_
                        refine ax_getI dX12_show_151 fl_X12_218 rfl (OKs hZ rfl) ?_
                        refine ax_iload_n (i := 2) dX12_show_154 rfl rfl ?_
                        refine ax_iastN n dX12_show_155 (OKs hZ rfl) (show _ = nI n from by rw [up2_i (by decide)]; exact e17) (show n < 6 by omega) (by decide) ?_
                        refine ax_aload_n (i := 0) dX12_show_156 rfl rfl ?_
                        refine ax_aload_n (i := 0) dX12_show_157 rfl rfl ?_
                        refine ax_getI dX12_show_158 fl_X12_218 rfl (OKs hZ rfl) ?_
                        refine ax_putI dX12_show_161 fl_X12_110 (Or.inl fp_X12_12_18) rfl rfl rfl (OKs hZ rfl) ?_
                        refine ax_aload_n (i := 0) dX12_show_164 rfl rfl ?_
                        refine ax_dup dX12_show_165 rfl ?_
                        refine ax_getI dX12_show_166 fl_X12_218 rfl (OKs hZ rfl) ?_
                        refine ax_dup_x1 dX12_show_169 rfl rfl ?_
                        refine ax_iconst (v := 1) dX12_show_170 (by decide) ?_
                        refine ax_iadd dX12_show_171 ?_
                        refine ax_putI dX12_show_172 fl_X12_218 (Or.inl fp_X12_12_17) rfl rfl rfl (OKs hZ rfl) ?_
                        refine ax_iret dX12_show_175 rfl rfl (Nat.le_of_ble_eq_true rfl) (Nat.le_of_ble_eq_true rfl) ?_
                        have c8 : (pCl T a).2.1 = T.1 := (nI_eq (by omega) (by omega)).mp c_84
                        have e9 : pSh T (k + 1) a cls = (true, T.1, cls ++ [(pCl T a).2.2]) := by rw [pSh, if_pos cf, if_pos c8]
                        rw [e9]
                        obtain ⟨z1, z2⟩ := sh_ok h hn6 h25 hb hs1 (by omega) hok2 (by rw [hlen2]; omega) (x := nI cls.length + 1) (y := G1 75 17) (z := G1 75 17 + 1) (by rw [hlen2, nI_1]) e17 (by rw [e17, nI_1])
                        exact ⟨congrArg (fun z => some (Value.int z)) (show ((up2 (up2 (up2 G1 75 11 0) 86 n ((nI cls.length) + 1)) 75 18 ((up2 (up2 G1 75 11 0) 86 n ((nI cls.length) + 1)) 75 17)) 75 17) = nI n from by rw [up2_i (by decide), up2_k (by decide), up2_i (by decide)]; exact e17), rfl, z1, z2⟩
                      · exact absurd c_130 (by decide)
                    · exact absurd c_35 (by decide)
                · exact absurd c_96 (by decide)
            · exact absurd c_67 (by decide)
def shoA (n : Nat) (T : Nat × (Nat → Nat)) : Int32 := if n = 6 then -4 else if (pSh T 10 0 []).1 = true then nI n else -10 - nI (pSh T 10 0 []).2.1
def shoW (n : Nat) (T : Nat × (Nat → Nat)) (W : Wv) : Wv := if n = 6 then W else if (pSh T 10 0 []).1 = true then shV W (pSh T 10 0 []).2.2 else W
def shoT (n : Nat) (T : Nat × (Nat → Nat)) : Nat × (Nat → Nat) := if n = 6 then T else (0, T.2)
def shoN (n : Nat) (T : Nat × (Nat → Nat)) : Nat := if n = 6 then n else if (pSh T 10 0 []).1 = true then n + 1 else n
theorem y_show {Z : Zt} {G : Gt} {L : Lt} (hZ : OK Z) {W : Wv} {H : Hv} {I : Option (Wv × Hv)} {T : Nat × (Nat → Nat)} {R : Nat × (Nat → Int32)} {P : Pt9} {n : Nat} (ok : okA W H I T R P n) (h : IM G L W H I T R P n) : AC mX12_show 22 0 0 [.ref 75] Z G L (RP (.int (shoA n T)) (JQ Z G L (shoW n T W) H I (shoT n T) R P (shoN n T))) := by
  have hn6 := ok.2.2.2.2.2.2
  refine AC.intro (by decide +kernel) (Nat.le_of_ble_eq_true rfl) ?_
  refine ax_lv [(0, .ref 75)] ⟨rfl, trivial⟩ ?_
  refine ax_aload_n (i := 0) dX12_show_0 rfl rfl ?_
  refine ax_getI dX12_show_1 fl_X12_218 rfl (OKs hZ rfl) ?_
  refine ax_bipush (v := 6) dX12_show_4 (by decide) ?_
  refine ax_icmp_ne (tgt := 12) dX12_show_6 (by decide) (fun c_6 => ?_) (fun c_6 => ?_)
  · refine ax_aload_n (i := 0) dX12_show_12 rfl rfl ?_
    refine ax_getI dX12_show_13 fl_X12_174 rfl (OKs hZ rfl) ?_
    refine ax_istore_n (i := 1) dX12_show_16 rfl (by decide) rfl ?_
    refine ax_aload_n (i := 0) dX12_show_17 rfl rfl ?_
    refine ax_iconst (v := 0) dX12_show_18 (by decide) ?_
    refine ax_putI dX12_show_19 fl_X12_149 (Or.inl fp_X12_12_13) rfl rfl rfl (OKs hZ rfl) ?_
    refine ax_iconst (v := 0) dX12_show_22 (by decide) ?_
    refine ax_istore_n (i := 2) dX12_show_23 rfl (by decide) rfl ?_
    refine ax_iconst (v := 1) dX12_show_24 (by decide) ?_
    refine ax_istore_n (i := 3) dX12_show_25 rfl (by decide) rfl ?_
    refine ax_iconst (v := 0) dX12_show_26 (by decide) ?_
    refine ax_istore dX12_show_27 (by decide) rfl ?_
    have n6 : ¬ n = 6 := fun z => c_6 (by rw [h.2.2.2.2.2.2.1, z]; rfl)
    obtain ⟨b0, hb, h25⟩ := h.2.2.2.2.2.2.2
    unfold shoA shoW shoT shoN
    rw [if_neg n6, if_neg n6, if_neg n6, if_neg n6]
    refine ax_lv [(0, .ref 75), (1, .int (nI b0)), (2, .int (nI ([] : List Cl).length)), (3, .int 1), (4, .int 0)] ⟨rfl, sI h25, rfl, rfl, rfl, trivial⟩ ?_
    refine l_show (G0 := G) hZ h ok.2.2.2.1.1 ok.2.2.2.1.2 (by omega) h25 hb 10 0 b0 [] _ rfl (by decide) ⟨by rw [up2_s]; rfl, by rw [up2_i (by decide)]; exact h25, Nat.le_refl _, fun i hi => absurd hi (Nat.not_lt_zero i), fun x h1 _ => up2_row h1, fun i e1 _ _ _ _ => up2_i e1, fun x h1 _ j _ => up2_k (by omega), fun k _ => up2_k (by decide)⟩ (Nat.zero_le _) (Nat.le_refl _) (fun c hc => absurd hc (by simp))
  · refine ax_bipush (v := (-4)) dX12_show_9 (by decide) ?_
    refine ax_iret dX12_show_11 rfl rfl (Nat.le_of_ble_eq_true rfl) (Nat.le_of_ble_eq_true rfl) ?_
    have e6 : n = 6 := (nI_eq (by omega) (by decide)).mp (h.2.2.2.2.2.2.1.symm.trans c_6)
    unfold shoA shoW shoT shoN
    rw [if_pos e6, if_pos e6, if_pos e6, if_pos e6]
    exact ⟨rfl, rfl, h, fM_refl⟩
