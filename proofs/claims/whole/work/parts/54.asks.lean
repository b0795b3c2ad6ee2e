-- ===== the model: what is asked =====
theorem vM_set {G : Gt} {W : Wv} {p c : Nat} {x : Int32} (hv : vM G W) (hc : c < 6) : vM (up2 G (78 + c) p x) (setV W p c x) := by
  obtain ⟨a1, a2, a3, a4, a5, a6⟩ := id hv
  refine vM_step hv (fun a _ _ => up2_row (by omega)) ?_ ?_ ?_ (fun a ha i hi => ?_) (fun a ha i hi => ?_) (fun q hq => ?_) (fun q hq => ?_) rfl rfl
  · refine ⟨?_, ?_, ?_⟩ <;> rw [up2_k (by omega)]
  · rw [up2_k (by omega)]; exact a1
  · rw [up2_k (by omega)]; exact a2
  · have ha : a < W.m := ha
    show _ = up2 W.C p c x a i
    by_cases e : i = c
    · subst e
      by_cases f : a = p
      · subst f; rw [up2_s, up2_s]
      · rw [up2_i f, up2_k f]; exact (a3 a ha).1 i hi
    · rw [up2_k (by omega), up2_i e]; exact (a3 a ha).1 i hi
  · have ha : a < W.m := ha
    show _ = up2 W.C p c x a (6 + i)
    rw [up2_k (by omega), up2_i (by omega)]; exact (a3 a ha).2 i hi
  · rw [up2_k (by omega)]; exact a4 q hq
  · rw [up2_k (by omega)]; exact a5 q hq
theorem vM_rn {G : Gt} {W : Wv} {u : Nat} {x : Int32} (hv : vM G W) : vM (up2 G 77 u x) (rnV W u x) := by
  obtain ⟨a1, a2, a3, a4, a5, a6⟩ := id hv
  refine vM_step hv (fun a _ _ => up2_row (by omega)) ?_ ?_ ?_ (fun a ha i hi => ?_) (fun a ha i hi => ?_) (fun q hq => ?_) (fun q hq => ?_) rfl rfl
  · refine ⟨?_, ?_, ?_⟩ <;> rw [up2_k (by decide)]
  · rw [up2_k (by decide)]; exact a1
  · rw [up2_k (by decide)]; exact a2
  · have ha : a < W.m := ha
    rw [up2_k (by omega)]; exact (a3 a ha).1 i hi
  · have ha : a < W.m := ha
    rw [up2_k (by decide)]; exact (a3 a ha).2 i hi
  · rw [up2_k (by decide)]; exact a4 q hq
  · show _ = up1 W.rn u x q
    by_cases e : q = u
    · subst e; rw [up2_s, up1_s]
    · rw [up2_i e, up1_n e]; exact a5 q hq
theorem vM_gr {G : Gt} {W : Wv} {u : Nat} {x : Int32} (hv : vM G W) : vM (up2 G 76 u x) (grV W u x) := by
  obtain ⟨a1, a2, a3, a4, a5, a6⟩ := id hv
  refine vM_step hv (fun a _ _ => up2_row (by omega)) ?_ ?_ ?_ (fun a ha i hi => ?_) (fun a ha i hi => ?_) (fun q hq => ?_) (fun q hq => ?_) rfl rfl
  · refine ⟨?_, ?_, ?_⟩ <;> rw [up2_k (by decide)]
  · rw [up2_k (by decide)]; exact a1
  · rw [up2_k (by decide)]; exact a2
  · have ha : a < W.m := ha
    rw [up2_k (by omega)]; exact (a3 a ha).1 i hi
  · have ha : a < W.m := ha
    rw [up2_k (by decide)]; exact (a3 a ha).2 i hi
  · show _ = up1 W.gr u x q
    by_cases e : q = u
    · subst e; rw [up2_s, up1_s]
    · rw [up2_i e, up1_n e]; exact a4 q hq
  · rw [up2_k (by decide)]; exact a5 q hq
theorem mA_up {G : Gt} {a i : Nat} {x : Int32} (h : 76 ≤ a ∧ a < 85) : mA G (up2 G a i x) := ⟨fun b x1 _ _ => up2_row (by omega), fun j _ _ _ _ _ _ _ _ => up2_k (by omega)⟩
theorem mS_up {G : Gt} {a i : Nat} {x : Int32} (h : 76 ≤ a ∧ a < 85) : mS G (up2 G a i x) := ⟨fun b x1 _ => up2_row (by omega), fun j _ _ => up2_k (by omega)⟩
theorem mA_102 {G G' : Gt} (f : ∀ a, a ≠ 102 → G' a = G a) : mA G G' := ⟨fun a _ _ z => f a (by omega), fun i _ _ _ _ _ _ _ _ => by rw [f 75 (by decide)]⟩
theorem hM_up {G : Gt} {H : Hv} {a i : Nat} {x : Int32} (hH : hM G H) (h : 76 ≤ a ∧ a < 85) : hM (up2 G a i x) H := mS_hM (mS_up h) hH
theorem setV_2 {W : Wv} {p c : Nat} {x y : Int32} : setV (setV W p c x) p c y = setV W p c y := by
  unfold setV mkW
  show (W.m, W.mm, up2 (up2 W.C p c x) p c y, W.gr, W.rn, W.sb, W.dry) = (W.m, W.mm, up2 W.C p c y, W.gr, W.rn, W.sb, W.dry)
  congr 3
  funext a b
  unfold up2
  by_cases h : a = p <;> by_cases k : b = c <;> simp [h, k]
abbrev MA (Z : Zt) (G : Gt) (L : Lt) (W : Wv) (H : Hv) : Zt → Gt → Lt → Prop := fun Z' G' L' => Z' = Z ∧ L' = L ∧ mA G G' ∧ vM G' W ∧ hM G' H
abbrev msM (W : Wv) (H : Hv) (k : Nat) : Prop := mx0 (lightV (minVN (H.k1 k) W) (H.k0 k)) = H.k2 k
def amM (W : Wv) (H : Hv) (p : Nat) : Nat → Bool
  | 0 => true
  | k + 1 => amM W H p k && (!decide (H.k0 k = p) || decide (msM W H k))
theorem amM_f {W : Wv} {H : Hv} {p : Nat} : ∀ {n k : Nat}, k ≤ n → amM W H p k = false → amM W H p n = false
  | 0, k, h, e => by rw [show k = 0 by omega] at e; exact e
  | n + 1, k, h, e => by
    rcases Nat.lt_or_ge k (n + 1) with q | q
    · unfold amM; rw [amM_f (n := n) (by omega) e]; rfl
    · rw [show n + 1 = k by omega]; exact e
theorem amM_B {W : Wv} {H : Hv} {p c : Nat} {x : Int32} : ∀ n, amM (setV W p c x) H p n = amB W H p c x n
  | 0 => rfl
  | n + 1 => by
    unfold amM amB
    rw [amM_B n]
    congr 1
    by_cases e : H.k0 n = p
    · subst e
      rw [show decide (msM (setV W (H.k0 n) c x) H n) = decide (msV W H n c x) from decide_eq_decide.mpr Iff.rfl]
    · rw [decide_eq_false e]
      simp only [Bool.not_false, Bool.true_or]
theorem l_passM {Z : Zt} {G0 : Gt} {L : Lt} {Q : Qt} {W : Wv} (hZ : OK Z) (ho : okW W) (n : Nat) (hn : n ≤ 60) (hm : W.mm + n < 20000)  (hend : ∀ G : Gt, mS G0 G → vM G (minVN n W) → AX none mX12_pass 3 0 0 0 0 45 [(0, .ref 75), (1, .int (nI n))] [] Z G L Q) : ∀ (r q : Nat), q ≤ n → n - q < r → ∀ G : Gt, mS G0 G → vM G (minVN q W) → AX none mX12_pass 3 0 0 0 0 30 [(0, .ref 75), (1, .int (nI n)), (2, .int (nI q))] [] Z G L Q := by
  intro r
  induction r with
  | zero => intro q h1 h2; omega
  | succ r ih =>
    intro q h1 h2 G hs9 hv9
    refine ax_iload_n (i := 2) dX12_pass_30 rfl rfl ?_
    refine ax_iload_n (i := 1) dX12_pass_31 rfl rfl ?_
    refine ax_icmp_ge (tgt := 45) dX12_pass_32 (by decide) (fun c_32 => ?_) (fun c_32 => ?_)
    · obtain rfl : q = n := by have := (nI_leI (by omega) (by omega)).mp (show nI n ≤ nI q from c_32); omega
      exact ax_lv [(0, .ref 75), (1, .int (nI q))] ⟨rfl, rfl, trivial⟩ (hend G hs9 hv9)
    · have hqm : q < n := by have := mt (nI_leI (by omega) (by omega)).mpr (show ¬ nI n ≤ nI q from c_32); omega
      refine ax_aload_n (i := 0) dX12_pass_35 rfl rfl ?_
      refine ax_cVq0 dX12_pass_36 lk_X12_268 (k_goesMinute hZ hv9 (minVN_ok q ho (by omega))) rfl (OKs hZ rfl) ⟨_, rfl, rfl⟩ rfl (Nat.le_of_ble_eq_true rfl) (Nat.le_of_ble_eq_true rfl) (Nat.le_of_ble_eq_true rfl) (Nat.le_of_ble_eq_true rfl) ?_
      rintro _ G1 _ ⟨rfl, rfl, m'1, v1⟩
      have m1 := mS_tr hs9 m'1
      refine ax_iinc (v := (nI q) + 1) dX12_pass_39 rfl rfl (by decide) rfl ?_
      refine ax_goto (tgt := 30) dX12_pass_42 (by decide) ?_
      refine ax_lv [(0, .ref 75), (1, .int (nI n)), (2, .int (nI (q + 1)))] ⟨rfl, rfl, sI (nI_1 q), trivial⟩ ?_
      exact ih (q + 1) (by omega) (by omega) _ m1 (by rw [← minVN_s]; exact v1)
theorem k_passM {Z : Zt} {G : Gt} {L : Lt} {W : Wv} (hZ : OK Z) (hv : vM G W) (ho : okW W) (hm : W.mm + 60 < 20000) (a : Int32) : AC mX12_pass 3 0 0 [.ref 75, .int a] Z G L (RP (.int (paA W a).1) (fun Z' G' L' => Z' = Z ∧ L' = L ∧ mS G G' ∧ vM G' (paA W a).2)) := by
  refine AC.intro (by decide +kernel) (Nat.le_of_ble_eq_true rfl) ?_
  refine ax_lv [(0, .ref 75), (1, .int a)] ⟨rfl, rfl, trivial⟩ ?_
  refine ax_iload_n (i := 1) dX12_pass_0 rfl rfl ?_
  refine ax_iconst (v := 0) dX12_pass_1 (by decide) ?_
  refine ax_bipush (v := 60) dX12_pass_2 (by decide) ?_
  refine ax_cSv dX12_pass_4 lk_X12_117 (c_X12_within a 0 60) rfl rfl (Nat.le_of_ble_eq_true rfl) (Nat.le_of_ble_eq_true rfl) (Nat.le_of_ble_eq_true rfl) (Nat.le_of_ble_eq_true rfl) ?_
  refine ax_if_ne (tgt := 13) dX12_pass_7 (by decide) (fun c_7 => ?_) (fun c_7 => ?_)
  · obtain ⟨n, hn, rfl⟩ := wi_n (k := 60) (by decide) c_7
    refine ax_aload_n (i := 0) dX12_pass_13 rfl rfl ?_
    refine ax_getI dX12_pass_14 fl_X12_224 rfl (OKs hZ rfl) ?_
    refine ax_top (congrArg Value.int hv.2.1) ?_
    refine ax_iload_n (i := 1) dX12_pass_17 rfl rfl ?_
    refine ax_iadd dX12_pass_18 ?_
    refine ax_sipush (v := 9999) dX12_pass_19 (by decide) ?_
    refine ax_icmp_le (tgt := 28) dX12_pass_22 (by decide) (fun c_22 => ?_) (fun c_22 => ?_)
    · refine ax_iconst (v := 0) dX12_pass_28 (by decide) ?_
      refine ax_istore_n (i := 2) dX12_pass_29 rfl (by decide) rfl ?_
      have e9 : paA W (nI n) = (nI (W.mm + n), minVN n W) := by unfold paA; rw [if_neg c_7, if_pos c_22, nI_clamp (by omega)]
      rw [e9]
      refine ax_lv [(0, .ref 75), (1, .int (nI n)), (2, .int (nI 0))] ⟨rfl, rfl, rfl, trivial⟩ ?_
      refine l_passM (G0 := G) hZ ho n (by omega) (by omega) ?_ (n + 1) 0 (by omega) (by omega) G mS_refl hv
      intro G9 s9 v9
      refine ax_aload_n (i := 0) dX12_pass_45 rfl rfl ?_
      refine ax_getI dX12_pass_46 fl_X12_224 rfl (OKs hZ rfl) ?_
      refine ax_iret dX12_pass_49 rfl rfl (Nat.le_of_ble_eq_true rfl) (Nat.le_of_ble_eq_true rfl) ?_
      exact ⟨congrArg (fun z => some (Value.int z)) (v9.2.1.trans (by rw [minVN_mm])), rfl, rfl, s9, v9⟩
    · refine ax_bipush (v := (-3)) dX12_pass_25 (by decide) ?_
      refine ax_iret dX12_pass_27 rfl rfl (Nat.le_of_ble_eq_true rfl) (Nat.le_of_ble_eq_true rfl) ?_
      have e9 : paA W (nI n) = (-3, W) := by unfold paA; rw [if_neg c_7, if_neg c_22]
      rw [e9]
      exact ⟨rfl, rfl, rfl, mS_refl, hv⟩
  · refine ax_bipush (v := (-2)) dX12_pass_10 (by decide) ?_
    refine ax_iret dX12_pass_12 rfl rfl (Nat.le_of_ble_eq_true rfl) (Nat.le_of_ble_eq_true rfl) ?_
    have e9 : paA W a = (-2, W) := by unfold paA; rw [if_pos c_7]
    rw [e9]
    exact ⟨rfl, rfl, rfl, mS_refl, hv⟩
theorem on_1 {b : Int32} {m : Nat} (hm : m ≤ 6) (h : ¬ wi (b - 10) 0 (nI m - 1) = 0) : ∃ p, p < m ∧ b = nI (p + 10) := by
  obtain ⟨p, hp, e⟩ := has_p hm h
  exact ⟨p, hp, by rw [← nI_add, ← e]; exact (Int32.sub_add_cancel b 10).symm⟩
theorem on_2 {b : Int32} {m : Nat} (hm : m ≤ 6) (h : ¬ wi (b - 20) 0 (nI m - 1) = 0) : ∃ p, p < m ∧ b = nI (p + 20) := by
  obtain ⟨p, hp, e⟩ := has_p hm h
  exact ⟨p, hp, by rw [← nI_add, ← e]; exact (Int32.sub_add_cancel b 20).symm⟩
theorem wi_in {p m : Nat} (hm : m ≤ 6) (hp : p < m) : ¬ wi (nI p) 0 (nI m - 1) = 0 := by
  obtain ⟨j, rfl⟩ : ∃ j, m = j + 1 := ⟨m - 1, by omega⟩
  rw [nI_pred]
  exact bi_ne.mpr ⟨nI_pos (by omega), fun h => by have := (nI_ltI (by omega) (by omega)).mp h; omega⟩
theorem l_onM {Z : Zt} {G0 : Gt} {L : Lt} {Q : Qt} {W : Wv} (hZ : OK Z) (ho : okW W) (n : Nat) (hn : n ≤ 60) (hm : W.mm + n < 20000) (b : Int32)  (hend : ∀ G : Gt, mS G0 G → vM G (minVN n W) → AX none mX12_on 5 0 0 0 0 64 [(0, .ref 75), (1, .int (nI n)), (2, .int b)] [] Z G L Q) : ∀ (r q : Nat), q ≤ n → n - q < r → ∀ G : Gt, mS G0 G → vM G (minVN q W) → AX none mX12_on 5 0 0 0 0 49 [(0, .ref 75), (1, .int (nI n)), (2, .int b), (3, .int (nI q))] [] Z G L Q := by
  intro r
  induction r with
  | zero => intro q h1 h2; omega
  | succ r ih =>
    intro q h1 h2 G hs9 hv9
    refine ax_iload_n (i := 3) dX12_on_49 rfl rfl ?_
    refine ax_iload_n (i := 1) dX12_on_50 rfl rfl ?_
    refine ax_icmp_ge (tgt := 64) dX12_on_51 (by decide) (fun c_51 => ?_) (fun c_51 => ?_)
    · obtain rfl : q = n := by have := (nI_leI (by omega) (by omega)).mp (show nI n ≤ nI q from c_51); omega
      exact ax_lv [(0, .ref 75), (1, .int (nI q)), (2, .int b)] ⟨rfl, rfl, rfl, trivial⟩ (hend G hs9 hv9)
    · have hqm : q < n := by have := mt (nI_leI (by omega) (by omega)).mpr (show ¬ nI n ≤ nI q from c_51); omega
      refine ax_aload_n (i := 0) dX12_on_54 rfl rfl ?_
      refine ax_cVq0 dX12_on_55 lk_X12_268 (k_goesMinute hZ hv9 (minVN_ok q ho (by omega))) rfl (OKs hZ rfl) ⟨_, rfl, rfl⟩ rfl (Nat.le_of_ble_eq_true rfl) (Nat.le_of_ble_eq_true rfl) (Nat.le_of_ble_eq_true rfl) (Nat.le_of_ble_eq_true rfl) ?_
      rintro _ G1 _ ⟨rfl, rfl, m'1, v1⟩
      have m1 := mS_tr hs9 m'1
      refine ax_iinc (v := (nI q) + 1) dX12_on_58 rfl rfl (by decide) rfl ?_
      refine ax_goto (tgt := 49) dX12_on_61 (by decide) ?_
      refine ax_lv [(0, .ref 75), (1, .int (nI n)), (2, .int b), (3, .int (nI (q + 1)))] ⟨rfl, rfl, rfl, sI (nI_1 q), trivial⟩ ?_
      exact ih (q + 1) (by omega) (by omega) _ m1 (by rw [← minVN_s]; exact v1)
theorem t_on10 {Z : Zt} {G : Gt} {L : Lt} {W : Wv} (hZ : OK Z) (hv : vM G W) (ho : okW W) {H : Hv} (hH : hM G H) (hh : okH W.m H) (n p : Nat) (hn : n ≤ 60) (hm : W.mm + 60 < 20000) (hp : p < W.m) : AX none mX12_on 5 0 0 0 0 39 [(0, .ref 75), (1, .int (nI n)), (2, .int (nI (p + 10)))] [] Z G L (RP (.int ((minVN n W).C p 4)) (MA Z G L W H)) := by
  have hp6 : p < 6 := by have := ho.1; omega
  refine ax_aload_n (i := 0) dX12_on_39 rfl rfl ?_
  refine ax_aload_n (i := 0) dX12_on_40 rfl rfl ?_
  refine ax_getR dX12_on_41 fl_X12_91 rfl (OKs hZ rfl) (OKr hZ rfl) ?_
  refine ax_cVq0 dX12_on_44 lk_X12_271 (k_keep hZ (Or.inr rfl) hv ho.1 hH hh) rfl (OKs hZ rfl) ⟨_, rfl, rfl⟩ rfl (Nat.le_of_ble_eq_true rfl) (Nat.le_of_ble_eq_true rfl) (Nat.le_of_ble_eq_true rfl) (Nat.le_of_ble_eq_true rfl) ?_
  rintro _ G1 _ ⟨rfl, rfl, f1, i1⟩
  have v1 := vM_keep hv (fun a x y => f1 a (by omega)) (fun i _ => by rw [f1 75 (by decide)])
  have a1 := mA_tr mA_refl (mA_102 f1)
  refine ax_iconst (v := 0) dX12_on_47 (by decide) ?_
  refine ax_istore_n (i := 3) dX12_on_48 rfl (by decide) rfl ?_
  refine ax_lv [(0, .ref 75), (1, .int (nI n)), (2, .int (nI (p + 10))), (3, .int (nI 0))] ⟨rfl, rfl, rfl, rfl, trivial⟩ ?_
  refine l_onM (G0 := G1) hZ ho n hn (by omega) (nI (p + 10)) ?_ (n + 1) 0 (by omega) (by omega) G1 mS_refl v1
  intro G9 s9 v9
  refine ax_iload_n (i := 2) dX12_on_64 rfl rfl ?_
  refine ax_bipush (v := 20) dX12_on_65 (by decide) ?_
  refine ax_icmp_ge (tgt := 82) dX12_on_67 (by decide) (fun c_67 => ?_) (fun c_67 => ?_)
  · exact absurd (nI_leI (a := 20) (by omega) (by omega) |>.mp c_67) (by omega)
  · refine ax_aload_n (i := 0) dX12_on_70 rfl rfl ?_
    refine ax_getR dX12_on_71 fl_X12_30 rfl (OKs hZ rfl) (OKr hZ rfl) ?_
    refine ax_iload_n (i := 2) dX12_on_74 rfl rfl ?_
    refine ax_bipush (v := 10) dX12_on_75 (by decide) ?_
    refine ax_isub dX12_on_77 ?_
    refine ax_top (congrArg Value.int (show nI (p + 10) - 10 = nI p from (pk_sub (a := p + 10) (b := 10) (by omega)).trans (by rw [Nat.add_sub_cancel]))) ?_
    refine ax_ialdN p dX12_on_78 (OKs hZ rfl) rfl hp6 (by decide) ?_
    refine ax_top (congrArg Value.int (show G9 82 p = (minVN n W).C p 4 from (v9.2.2.1 p (by rw [minVN_m]; exact hp)).1 4 (by decide))) ?_
    refine ax_goto (tgt := 90) dX12_on_79 (by decide) ?_
    refine ax_istore_n (i := 3) dX12_on_90 rfl (by decide) rfl ?_
    refine ax_aload_n (i := 0) dX12_on_91 rfl rfl ?_
    refine ax_aload_n (i := 0) dX12_on_92 rfl rfl ?_
    refine ax_getR dX12_on_93 fl_X12_91 rfl (OKs hZ rfl) (OKr hZ rfl) ?_
    refine ax_cVq0 dX12_on_96 lk_X12_275 (k_again hZ (Or.inr rfl) ho.1 hh (mS_iM s9 (by decide) i1)) rfl (OKs hZ rfl) ⟨_, rfl, rfl⟩ rfl (Nat.le_of_ble_eq_true rfl) (Nat.le_of_ble_eq_true rfl) (Nat.le_of_ble_eq_true rfl) (Nat.le_of_ble_eq_true rfl) ?_
    rintro _ G1 _ ⟨rfl, rfl, a'1, v1, h1⟩
    have a1 := mA_tr a1 (mA_tr (mS_mA s9) a'1)
    refine ax_iload_n (i := 3) dX12_on_99 rfl rfl ?_
    refine ax_iret dX12_on_100 rfl rfl (Nat.le_of_ble_eq_true rfl) (Nat.le_of_ble_eq_true rfl) ?_
    exact ⟨rfl, rfl, rfl, a1, v1, h1⟩
theorem t_on20 {Z : Zt} {G : Gt} {L : Lt} {W : Wv} (hZ : OK Z) (hv : vM G W) (ho : okW W) {H : Hv} (hH : hM G H) (hh : okH W.m H) (n p : Nat) (hn : n ≤ 60) (hm : W.mm + 60 < 20000) (hp : p < W.m) : AX none mX12_on 5 0 0 0 0 39 [(0, .ref 75), (1, .int (nI n)), (2, .int (nI (p + 20)))] [] Z G L (RP (.int (lightV (minVN n W) p)) (MA Z G L W H)) := by
  have hp6 : p < 6 := by have := ho.1; omega
  refine ax_aload_n (i := 0) dX12_on_39 rfl rfl ?_
  refine ax_aload_n (i := 0) dX12_on_40 rfl rfl ?_
  refine ax_getR dX12_on_41 fl_X12_91 rfl (OKs hZ rfl) (OKr hZ rfl) ?_
  refine ax_cVq0 dX12_on_44 lk_X12_271 (k_keep hZ (Or.inr rfl) hv ho.1 hH hh) rfl (OKs hZ rfl) ⟨_, rfl, rfl⟩ rfl (Nat.le_of_ble_eq_true rfl) (Nat.le_of_ble_eq_true rfl) (Nat.le_of_ble_eq_true rfl) (Nat.le_of_ble_eq_true rfl) ?_
  rintro _ G1 _ ⟨rfl, rfl, f1, i1⟩
  have v1 := vM_keep hv (fun a x y => f1 a (by omega)) (fun i _ => by rw [f1 75 (by decide)])
  have a1 := mA_tr mA_refl (mA_102 f1)
  refine ax_iconst (v := 0) dX12_on_47 (by decide) ?_
  refine ax_istore_n (i := 3) dX12_on_48 rfl (by decide) rfl ?_
  refine ax_lv [(0, .ref 75), (1, .int (nI n)), (2, .int (nI (p + 20))), (3, .int (nI 0))] ⟨rfl, rfl, rfl, rfl, trivial⟩ ?_
  refine l_onM (G0 := G1) hZ ho n hn (by omega) (nI (p + 20)) ?_ (n + 1) 0 (by omega) (by omega) G1 mS_refl v1
  intro G9 s9 v9
  refine ax_iload_n (i := 2) dX12_on_64 rfl rfl ?_
  refine ax_bipush (v := 20) dX12_on_65 (by decide) ?_
  refine ax_icmp_ge (tgt := 82) dX12_on_67 (by decide) (fun c_67 => ?_) (fun c_67 => ?_)
  · refine ax_aload_n (i := 0) dX12_on_82 rfl rfl ?_
    refine ax_iload_n (i := 2) dX12_on_83 rfl rfl ?_
    refine ax_bipush (v := 20) dX12_on_84 (by decide) ?_
    refine ax_isub dX12_on_86 ?_
    refine ax_top (congrArg Value.int (show nI (p + 20) - 20 = nI p from (pk_sub (a := p + 20) (b := 20) (by omega)).trans (by rw [Nat.add_sub_cancel]))) ?_
    refine ax_cVq dX12_on_87 lk_X12_128 (k_lightOf hZ v9 (minVN_ok n ho (by omega)) p (by rw [minVN_m]; exact hp)) rfl (OKs hZ rfl) ⟨_, rfl, rfl⟩ rfl (Nat.le_of_ble_eq_true rfl) (Nat.le_of_ble_eq_true rfl) (Nat.le_of_ble_eq_true rfl) (Nat.le_of_ble_eq_true rfl) ?_
    rintro _ G1 _ ⟨rfl, rfl, f1⟩
    have v1 := vM_f f1 v9
    have m1 := mS_tr s9 (mS_f f1)
    refine ax_istore_n (i := 3) dX12_on_90 rfl (by decide) rfl ?_
    refine ax_aload_n (i := 0) dX12_on_91 rfl rfl ?_
    refine ax_aload_n (i := 0) dX12_on_92 rfl rfl ?_
    refine ax_getR dX12_on_93 fl_X12_91 rfl (OKs hZ rfl) (OKr hZ rfl) ?_
    refine ax_cVq0 dX12_on_96 lk_X12_275 (k_again hZ (Or.inr rfl) ho.1 hh (mS_iM m1 (by decide) i1)) rfl (OKs hZ rfl) ⟨_, rfl, rfl⟩ rfl (Nat.le_of_ble_eq_true rfl) (Nat.le_of_ble_eq_true rfl) (Nat.le_of_ble_eq_true rfl) (Nat.le_of_ble_eq_true rfl) ?_
    rintro _ G2 _ ⟨rfl, rfl, a'2, v2, h2⟩
    have a2 := mA_tr a1 (mA_tr (mS_mA m1) a'2)
    refine ax_iload_n (i := 3) dX12_on_99 rfl rfl ?_
    refine ax_iret dX12_on_100 rfl rfl (Nat.le_of_ble_eq_true rfl) (Nat.le_of_ble_eq_true rfl) ?_
    exact ⟨rfl, rfl, rfl, a2, v2, h2⟩
  · exact absurd (nI_leI (a := 20) (b := p + 20) (by omega) (by omega) |>.mpr (by omega)) c_67
theorem k_onM {Z : Zt} {G : Gt} {L : Lt} {W : Wv} (hZ : OK Z) (hv : vM G W) (ho : okW W) {H : Hv} (hH : hM G H) (hh : okH W.m H) (hm : W.mm + 60 < 20000) (a b : Int32) : AC mX12_on 5 0 0 [.ref 75, .int a, .int b] Z G L (RP (.int (onV W a b)) (MA Z G L W H)) := by
  refine AC.intro (by decide +kernel) (Nat.le_of_ble_eq_true rfl) ?_
  refine ax_lv [(0, .ref 75), (1, .int a), (2, .int b)] ⟨rfl, rfl, rfl, trivial⟩ ?_
  refine ax_aload_n (i := 0) dX12_on_0 rfl rfl ?_
  refine ax_iload_n (i := 2) dX12_on_1 rfl rfl ?_
  refine ax_bipush (v := 10) dX12_on_2 (by decide) ?_
  refine ax_isub dX12_on_4 ?_
  refine ax_cVv dX12_on_5 lk_X12_125 (c_X12_isOne hZ (b - 10)) rfl (OKs hZ rfl) ⟨_, rfl, rfl⟩ rfl (Nat.le_of_ble_eq_true rfl) (Nat.le_of_ble_eq_true rfl) (Nat.le_of_ble_eq_true rfl) (Nat.le_of_ble_eq_true rfl) ?_
  refine ax_top (congrArg Value.int (show wi _ 0 (G 75 2 - 1) = wi _ 0 (nI W.m - 1) from by rw [hv.1])) ?_
  refine ax_if_ne (tgt := 26) dX12_on_8 (by decide) (fun c_8 => ?_) (fun c_8 => ?_)
  · obtain ⟨p, hp, rfl⟩ := on_1 ho.1 c_8
    have hp6 : p < 6 := by have := ho.1; omega
    refine ax_iload_n (i := 1) dX12_on_26 rfl rfl ?_
    refine ax_iconst (v := 0) dX12_on_27 (by decide) ?_
    refine ax_bipush (v := 60) dX12_on_28 (by decide) ?_
    refine ax_cSv dX12_on_30 lk_X12_117 (c_X12_within a 0 60) rfl rfl (Nat.le_of_ble_eq_true rfl) (Nat.le_of_ble_eq_true rfl) (Nat.le_of_ble_eq_true rfl) (Nat.le_of_ble_eq_true rfl) ?_
    refine ax_if_ne (tgt := 39) dX12_on_33 (by decide) (fun c_33 => ?_) (fun c_33 => ?_)
    · obtain ⟨n, hn, rfl⟩ := wi_n (k := 60) (by decide) c_33
      have e9 : onV W (nI n) (nI (p + 10)) = (minVN n W).C p 4 := by unfold onV; rw [if_neg (by rw [show (10 : Int32) = nI 10 from rfl]; exact nI_nlt (by omega) (by omega)), if_neg (show ¬ (20 : Int32) ≤ nI (p + 10) from nI_ge (a := p + 10) (b := 20) (by omega) (by decide)), (show nI (p + 10) - 10 = nI p from (pk_sub (a := p + 10) (b := 10) (by omega)).trans (by rw [Nat.add_sub_cancel])), if_neg (wi_in ho.1 hp), if_neg c_33, nI_clamp (by omega), nI_clamp (by omega)]
      rw [e9]
      refine ax_lv [(0, .ref 75), (1, .int (nI n)), (2, .int (nI (p + 10)))] ⟨rfl, rfl, rfl, trivial⟩ ?_
      exact t_on10 hZ hv ho hH hh n p hn hm hp
    · refine ax_bipush (v := (-2)) dX12_on_36 (by decide) ?_
      refine ax_iret dX12_on_38 rfl rfl (Nat.le_of_ble_eq_true rfl) (Nat.le_of_ble_eq_true rfl) ?_
      have e9 : onV W a (nI (p + 10)) = -2 := by unfold onV; rw [if_neg (by rw [show (10 : Int32) = nI 10 from rfl]; exact nI_nlt (by omega) (by omega)), if_neg (show ¬ (20 : Int32) ≤ nI (p + 10) from nI_ge (a := p + 10) (b := 20) (by omega) (by decide)), (show nI (p + 10) - 10 = nI p from (pk_sub (a := p + 10) (b := 10) (by omega)).trans (by rw [Nat.add_sub_cancel])), if_neg (wi_in ho.1 hp), if_pos c_33]
      rw [e9]
      exact ⟨rfl, rfl, rfl, mA_refl, hv, hH⟩
  · refine ax_aload_n (i := 0) dX12_on_11 rfl rfl ?_
    refine ax_iload_n (i := 2) dX12_on_12 rfl rfl ?_
    refine ax_bipush (v := 20) dX12_on_13 (by decide) ?_
    refine ax_isub dX12_on_15 ?_
    refine ax_cVv dX12_on_16 lk_X12_125 (c_X12_isOne hZ (b - 20)) rfl (OKs hZ rfl) ⟨_, rfl, rfl⟩ rfl (Nat.le_of_ble_eq_true rfl) (Nat.le_of_ble_eq_true rfl) (Nat.le_of_ble_eq_true rfl) (Nat.le_of_ble_eq_true rfl) ?_
    refine ax_top (congrArg Value.int (show wi _ 0 (G 75 2 - 1) = wi _ 0 (nI W.m - 1) from by rw [hv.1])) ?_
    refine ax_if_ne (tgt := 26) dX12_on_19 (by decide) (fun c_19 => ?_) (fun c_19 => ?_)
    · obtain ⟨p, hp, rfl⟩ := on_2 ho.1 c_19
      have hp6 : p < 6 := by have := ho.1; omega
      refine ax_iload_n (i := 1) dX12_on_26 rfl rfl ?_
      refine ax_iconst (v := 0) dX12_on_27 (by decide) ?_
      refine ax_bipush (v := 60) dX12_on_28 (by decide) ?_
      refine ax_cSv dX12_on_30 lk_X12_117 (c_X12_within a 0 60) rfl rfl (Nat.le_of_ble_eq_true rfl) (Nat.le_of_ble_eq_true rfl) (Nat.le_of_ble_eq_true rfl) (Nat.le_of_ble_eq_true rfl) ?_
      refine ax_if_ne (tgt := 39) dX12_on_33 (by decide) (fun c_33 => ?_) (fun c_33 => ?_)
      · obtain ⟨n, hn, rfl⟩ := wi_n (k := 60) (by decide) c_33
        have e9 : onV W (nI n) (nI (p + 20)) = lightV (minVN n W) p := by unfold onV; rw [if_neg (by rw [show (10 : Int32) = nI 10 from rfl]; exact nI_nlt (by omega) (by omega)), if_pos (show (20 : Int32) ≤ nI (p + 20) from nI_le (a := 20) (b := p + 20) (by omega) (by omega)), (show nI (p + 20) - 20 = nI p from (pk_sub (a := p + 20) (b := 20) (by omega)).trans (by rw [Nat.add_sub_cancel])), if_neg (wi_in ho.1 hp), if_neg c_33, nI_clamp (by omega), nI_clamp (by omega)]
        rw [e9]
        refine ax_lv [(0, .ref 75), (1, .int (nI n)), (2, .int (nI (p + 20)))] ⟨rfl, rfl, rfl, trivial⟩ ?_
        exact t_on20 hZ hv ho hH hh n p hn hm hp
      · refine ax_bipush (v := (-2)) dX12_on_36 (by decide) ?_
        refine ax_iret dX12_on_38 rfl rfl (Nat.le_of_ble_eq_true rfl) (Nat.le_of_ble_eq_true rfl) ?_
        have e9 : onV W a (nI (p + 20)) = -2 := by unfold onV; rw [if_neg (by rw [show (10 : Int32) = nI 10 from rfl]; exact nI_nlt (by omega) (by omega)), if_pos (show (20 : Int32) ≤ nI (p + 20) from nI_le (a := 20) (b := p + 20) (by omega) (by omega)), (show nI (p + 20) - 20 = nI p from (pk_sub (a := p + 20) (b := 20) (by omega)).trans (by rw [Nat.add_sub_cancel])), if_neg (wi_in ho.1 hp), if_pos c_33]
        rw [e9]
        exact ⟨rfl, rfl, rfl, mA_refl, hv, hH⟩
    · refine ax_sipush (v := (-10001)) dX12_on_22 (by decide) ?_
      refine ax_iret dX12_on_25 rfl rfl (Nat.le_of_ble_eq_true rfl) (Nat.le_of_ble_eq_true rfl) ?_
      have e9 : onV W a b = -10001 := by
        unfold onV
        by_cases c1 : b < 10
        · rw [if_pos c1]
        · rw [if_neg c1]
          by_cases c2 : 20 ≤ b
          · rw [if_pos c2, if_pos c_19]
          · rw [if_neg c2, if_pos c_8]
      rw [e9]
      exact ⟨rfl, rfl, rfl, mA_refl, hv, hH⟩
theorem l_brightestM {Z : Zt} {G0 : Gt} {L : Lt} {Q : Qt} {W : Wv} (hZ : OK Z) (ho : okW W) (p : Nat) (hp : p < W.m) (hm : W.mm + 20 < 20000) (b : Int32) (hend : ∀ G : Gt, mS G0 G → vM G (minVN 20 W) → AX none mX12_brightest 5 0 0 0 0 61 [(0, .ref 75), (2, .int b), (3, .int (nI (bmV W p 20).2)), (4, .int (bmV W p 20).1)] [] Z G L Q) : ∀ (r q : Nat), q ≤ 20 → 20 - q < r → ∀ G : Gt, mS G0 G → vM G (minVN q W) → AX none mX12_brightest 5 0 0 0 0 20 [(0, .ref 75), (1, .int (nI p)), (2, .int b), (3, .int (nI (bmV W p q).2)), (4, .int (bmV W p q).1), (5, .int (nI (q + 1)))] [] Z G L Q := by
  intro r
  induction r with
  | zero => intro q h1 h2; omega
  | succ r ih =>
    intro q h1 h2 G hs9 hv9
    refine ax_iload dX12_brightest_20 rfl ?_
    refine ax_bipush (v := 21) dX12_brightest_22 (by decide) ?_
    refine ax_icmp_ge (tgt := 61) dX12_brightest_24 (by decide) (fun c_24 => ?_) (fun c_24 => ?_)
    · obtain rfl : q = 20 := by have := (nI_leI (by omega) (by omega)).mp (show nI 21 ≤ nI (q + 1) from c_24); omega
      exact ax_lv [(0, .ref 75), (2, .int b), (3, .int (nI (bmV W p 20).2)), (4, .int (bmV W p 20).1)] ⟨rfl, rfl, rfl, rfl, trivial⟩ (hend G hs9 hv9)
    · have hq20 : q + 1 < 21 := by have := mt (nI_leI (by omega) (by omega)).mpr (show ¬ nI 21 ≤ nI (q + 1) from c_24); omega
      refine ax_aload_n (i := 0) dX12_brightest_27 rfl rfl ?_
      refine ax_cVq0 dX12_brightest_28 lk_X12_268 (k_goesMinute hZ hv9 (minVN_ok q ho (by omega))) rfl (OKs hZ rfl) ⟨_, rfl, rfl⟩ rfl (Nat.le_of_ble_eq_true rfl) (Nat.le_of_ble_eq_true rfl) (Nat.le_of_ble_eq_true rfl) (Nat.le_of_ble_eq_true rfl) ?_
      rintro _ G1 _ ⟨rfl, rfl, m'1, v1⟩
      have m1 := mS_tr hs9 m'1
      refine ax_aload_n (i := 0) dX12_brightest_31 rfl rfl ?_
      refine ax_iload_n (i := 1) dX12_brightest_32 rfl rfl ?_
      rw [show minV (minVN q W) = minVN (q + 1) W from minVN_s q W] at v1
      refine ax_cVq dX12_brightest_33 lk_X12_128 (k_lightOf hZ v1 (minVN_ok (q + 1) ho (by omega)) p (by rw [minVN_m]; exact hp)) rfl (OKs hZ rfl) ⟨_, rfl, rfl⟩ rfl (Nat.le_of_ble_eq_true rfl) (Nat.le_of_ble_eq_true rfl) (Nat.le_of_ble_eq_true rfl) (Nat.le_of_ble_eq_true rfl) ?_
      rintro _ G2 _ ⟨rfl, rfl, f2⟩
      have v2 := vM_f f2 v1
      have m2 := mS_tr m1 (mS_f f2)
      refine ax_istore dX12_brightest_36 (by decide) rfl ?_
      refine ax_iload dX12_brightest_38 rfl ?_
      refine ax_iload dX12_brightest_40 rfl ?_
      refine ax_icmp_gt (tgt := 48) dX12_brightest_42 (by decide) (fun c_42 => ?_) (fun c_42 => ?_)
      · refine ax_iload dX12_brightest_48 rfl ?_
        refine ax_istore dX12_brightest_50 (by decide) rfl ?_
        refine ax_iload dX12_brightest_52 rfl ?_
        refine ax_istore_n (i := 3) dX12_brightest_54 rfl (by decide) rfl ?_
        refine ax_iinc (v := (nI (q + 1)) + 1) dX12_brightest_55 rfl rfl (by decide) rfl ?_
        refine ax_goto (tgt := 20) dX12_brightest_58 (by decide) ?_
        refine ax_lv [(0, .ref 75), (1, .int (nI p)), (2, .int b), (3, .int (nI (bmV W p (q + 1)).2)), (4, .int (bmV W p (q + 1)).1), (5, .int (nI ((q + 1) + 1)))] ⟨rfl, rfl, rfl, sI (by rw [bmV]; first | rw [if_neg (Int32.not_le.mpr c_42)] | rw [if_pos (Int32.not_lt.mp c_42)]), sI (by rw [bmV]; first | rw [if_neg (Int32.not_le.mpr c_42)] | rw [if_pos (Int32.not_lt.mp c_42)]), sI (nI_1 (q + 1)), trivial⟩ ?_
        exact ih (q + 1) (by omega) (by omega) _ m2 v2
      · refine ax_goto (tgt := 55) dX12_brightest_45 (by decide) ?_
        refine ax_iinc (v := (nI (q + 1)) + 1) dX12_brightest_55 rfl rfl (by decide) rfl ?_
        refine ax_goto (tgt := 20) dX12_brightest_58 (by decide) ?_
        refine ax_lv [(0, .ref 75), (1, .int (nI p)), (2, .int b), (3, .int (nI (bmV W p (q + 1)).2)), (4, .int (bmV W p (q + 1)).1), (5, .int (nI ((q + 1) + 1)))] ⟨rfl, rfl, rfl, sI (by rw [bmV]; first | rw [if_neg (Int32.not_le.mpr c_42)] | rw [if_pos (Int32.not_lt.mp c_42)]), sI (by rw [bmV]; first | rw [if_neg (Int32.not_le.mpr c_42)] | rw [if_pos (Int32.not_lt.mp c_42)]), sI (nI_1 (q + 1)), trivial⟩ ?_
        exact ih (q + 1) (by omega) (by omega) _ m2 v2
theorem k_brightest {Z : Zt} {G : Gt} {L : Lt} {W : Wv} (hZ : OK Z) (hv : vM G W) (ho : okW W) {H : Hv} (hH : hM G H) (hh : okH W.m H) (hm : W.mm + 20 < 20000) (p : Nat) (hp : p < W.m) (b : Int32) : AC mX12_brightest 5 0 0 [.ref 75, .int (nI p), .int b] Z G L (RP (.int (if b = 0 then nI (bmV W p 20).2 else (bmV W p 20).1)) (MA Z G L W H)) := by
  refine AC.intro (by decide +kernel) (Nat.le_of_ble_eq_true rfl) ?_
  refine ax_lv [(0, .ref 75), (1, .int (nI p)), (2, .int b)] ⟨rfl, rfl, rfl, trivial⟩ ?_
  refine ax_aload_n (i := 0) dX12_brightest_0 rfl rfl ?_
  refine ax_aload_n (i := 0) dX12_brightest_1 rfl rfl ?_
  refine ax_getR dX12_brightest_2 fl_X12_91 rfl (OKs hZ rfl) (OKr hZ rfl) ?_
  refine ax_cVq0 dX12_brightest_5 lk_X12_271 (k_keep hZ (Or.inr rfl) hv ho.1 hH hh) rfl (OKs hZ rfl) ⟨_, rfl, rfl⟩ rfl (Nat.le_of_ble_eq_true rfl) (Nat.le_of_ble_eq_true rfl) (Nat.le_of_ble_eq_true rfl) (Nat.le_of_ble_eq_true rfl) ?_
  rintro _ G1 _ ⟨rfl, rfl, f1, i1⟩
  have v1 := vM_keep hv (fun a x y => f1 a (by omega)) (fun i _ => by rw [f1 75 (by decide)])
  have a1 := mA_tr mA_refl (mA_102 f1)
  refine ax_iconst (v := 0) dX12_brightest_8 (by decide) ?_
  refine ax_istore_n (i := 3) dX12_brightest_9 rfl (by decide) rfl ?_
  refine ax_aload_n (i := 0) dX12_brightest_10 rfl rfl ?_
  refine ax_iload_n (i := 1) dX12_brightest_11 rfl rfl ?_
  refine ax_cVq dX12_brightest_12 lk_X12_128 (k_lightOf hZ v1 ho p hp) rfl (OKs hZ rfl) ⟨_, rfl, rfl⟩ rfl (Nat.le_of_ble_eq_true rfl) (Nat.le_of_ble_eq_true rfl) (Nat.le_of_ble_eq_true rfl) (Nat.le_of_ble_eq_true rfl) ?_
  rintro _ G2 _ ⟨rfl, rfl, f2⟩
  have v2 := vM_f f2 v1
  have m2 := mS_tr (mS_refl (G := G1)) (mS_f f2)
  refine ax_istore dX12_brightest_15 (by decide) rfl ?_
  refine ax_iconst (v := 1) dX12_brightest_17 (by decide) ?_
  refine ax_istore dX12_brightest_18 (by decide) rfl ?_
  refine ax_lv [(0, .ref 75), (1, .int (nI p)), (2, .int b), (3, .int (nI (bmV W p 0).2)), (4, .int (bmV W p 0).1), (5, .int (nI (0 + 1)))] ⟨rfl, rfl, rfl, rfl, rfl, rfl, trivial⟩ ?_
  refine l_brightestM (G0 := G2) hZ ho p hp hm b ?_ 21 0 (by omega) (by omega) G2 mS_refl v2
  intro G9 s9 v9
  refine ax_aload_n (i := 0) dX12_brightest_61 rfl rfl ?_
  refine ax_aload_n (i := 0) dX12_brightest_62 rfl rfl ?_
  refine ax_getR dX12_brightest_63 fl_X12_91 rfl (OKs hZ rfl) (OKr hZ rfl) ?_
  refine ax_cVq0 dX12_brightest_66 lk_X12_275 (k_again hZ (Or.inr rfl) ho.1 hh (mS_iM (mS_tr m2 s9) (by decide) i1)) rfl (OKs hZ rfl) ⟨_, rfl, rfl⟩ rfl (Nat.le_of_ble_eq_true rfl) (Nat.le_of_ble_eq_true rfl) (Nat.le_of_ble_eq_true rfl) (Nat.le_of_ble_eq_true rfl) ?_
  rintro _ G3 _ ⟨rfl, rfl, a'3, v3, h3⟩
  have a3 := mA_tr a1 (mA_tr (mS_mA (mS_tr m2 s9)) a'3)
  refine ax_iload_n (i := 2) dX12_brightest_69 rfl rfl ?_
  refine ax_if_ne (tgt := 77) dX12_brightest_70 (by decide) (fun c_70 => ?_) (fun c_70 => ?_)
  · refine ax_iload dX12_brightest_77 rfl ?_
    refine ax_iret dX12_brightest_79 rfl rfl (Nat.le_of_ble_eq_true rfl) (Nat.le_of_ble_eq_true rfl) ?_
    exact ⟨congrArg (fun z => some (Value.int z)) (by first | rw [if_pos c_70] | rw [if_neg c_70]), rfl, rfl, a3, v3, h3⟩
  · refine ax_iload_n (i := 3) dX12_brightest_73 rfl rfl ?_
    refine ax_goto (tgt := 79) dX12_brightest_74 (by decide) ?_
    refine ax_iret dX12_brightest_79 rfl rfl (Nat.le_of_ble_eq_true rfl) (Nat.le_of_ble_eq_true rfl) ?_
    exact ⟨congrArg (fun z => some (Value.int z)) (by first | rw [if_pos c_70] | rw [if_neg c_70]), rfl, rfl, a3, v3, h3⟩
