-- ===== the model: what a show gives =====
theorem stM_01 {cd : Nat → Int32} {num : Int32} {row : Nat → Int32} {mi : Int32} : ∀ k j, (stM cd num row mi k).2 j = 0 ∨ (stM cd num row mi k).2 j = 1
  | 0, _ => Or.inl rfl
  | k + 1, j => by
    have ih := stM_01 (cd := cd) (num := num) (row := row) (mi := mi) k
    have up : ∀ (i : Nat) (x : Int32), (x = 0 ∨ x = 1) → (up1 (stM cd num row mi k).2 i x j = 0 ∨ up1 (stM cd num row mi k).2 i x j = 1) := fun i x hx => by
      by_cases e : j = i
      · rw [e, up1_s]; exact hx
      · rw [up1_n e]; exact ih j
    by_cases c1 : cd k < 3
    · by_cases c2 : cd k = 0
      · rw [stM_not c1 c2]; refine up _ _ ?_; split <;> simp
      · rw [stM_bin c1 c2]; refine up _ _ ?_; (repeat' split) <;> first | exact Or.inl rfl | exact Or.inr rfl
    · rw [stM_tst c1]; refine up _ _ ?_; unfold tstM; (repeat' split) <;> first | exact Or.inl rfl | exact Or.inr rfl
theorem nb01 {x : Int32} (h : x = 0 ∨ x = 1) : narrow .boolean (.int x) = .int x := by
  rcases h with rfl | rfl <;> rfl
/-- the model's clauses -/
def cvM (G : Gt) (c : Nat) (num : Int32) (row : Nat → Int32) (mi : Int32) : Int32 := (stM (fun k => G 91 ((G 89 c).toNatClampNeg + k)) num row mi (G 90 c).toNatClampNeg).2 0
def tmM (G : Gt) (c : Nat) (num : Int32) (row : Nat → Int32) (mi : Int32) : Int32 := if 2 ≤ G 87 c then 0 else if cvM G c num row mi = 0 then 0 else if G 87 c = 0 then G 88 c else -G 88 c
def smM (G : Gt) (h : Nat) (num : Int32) (row : Nat → Int32) (mi : Int32) : Nat → Int32
  | 0 => 0
  | i + 1 => smM G h num row mi i + tmM G (10 * h + i) num row mi
def drM (G : Gt) (h : Nat) : Nat → Int32
  | 0 => 2
  | i + 1 => if G 87 (10 * h + i) = 2 then G 88 (10 * h + i) else drM G h i
def smO (G : Gt) (h : Int32) (num : Int32) (row : Nat → Int32) (mi : Int32) : Int32 := if h = -1 then 0 else smM G h.toNatClampNeg num row mi (G 86 h.toNatClampNeg).toNatClampNeg
def drO (G : Gt) (h : Int32) : Int32 := if h = -1 then 2 else drM G h.toNatClampNeg (G 86 h.toNatClampNeg).toNatClampNeg
def clOK (G : Gt) (c : Nat) : Prop := 2 ≤ G 87 c ∨ ∃ b n, G 89 c = nI b ∧ G 90 c = nI n ∧ b + n ≤ 800 ∧ cdOK (fun k => G 91 (b + k)) n ∧ ∃ C, G 75 25 = nI C ∧ b + n ≤ C ∧ C ≤ 800
def smOK (G : Gt) (h : Int32) : Prop := h = -1 ∨ ∃ hh m, hh < 6 ∧ h = nI hh ∧ m ≤ 10 ∧ G 86 hh = nI m ∧ (∀ i, i < m → clOK G (10 * hh + i)) ∧ ∃ N, G 75 17 = nI N ∧ hh < N ∧ N ≤ 6
abbrev F92 (Z : Zt) (G : Gt) (L : Lt) : Zt → Gt → Lt → Prop := fun Z' G' L' => Z' = Z ∧ L' = L ∧ ∀ a, a ≠ 92 → G' a = G a
theorem smM_row {G : Gt} {h : Nat} {num : Int32} {row row' : Nat → Int32} {mi : Int32} (hr : ∀ i, i < 10 → row i = row' i) : ∀ n, smM G h num row mi n = smM G h num row' mi n
  | 0 => rfl
  | n + 1 => by
    unfold smM tmM cvM
    rw [smM_row hr n, stM_row hr]
theorem smO_row {G : Gt} {h : Int32} {num : Int32} {row row' : Nat → Int32} {mi : Int32} (hr : ∀ i, i < 10 → row i = row' i) : smO G h num row mi = smO G h num row' mi := by
  unfold smO
  rw [smM_row hr]
theorem smM_keep {G G' : Gt} {h : Nat} {num : Int32} {row : Nat → Int32} {mi : Int32} (h1 : G' 87 = G 87) (h2 : G' 88 = G 88) (h3 : G' 89 = G 89) (h4 : G' 90 = G 90) (h5 : G' 91 = G 91) : ∀ n, smM G' h num row mi n = smM G h num row mi n
  | 0 => rfl
  | n + 1 => by
    unfold smM tmM cvM
    rw [smM_keep h1 h2 h3 h4 h5 n, h1, h2, h3, h4, h5]
theorem drM_keep {G G' : Gt} {h : Nat} (h1 : G' 87 = G 87) (h2 : G' 88 = G 88) : ∀ n, drM G' h n = drM G h n
  | 0 => rfl
  | n + 1 => by
    unfold drM
    rw [drM_keep h1 h2 n, h1, h2]
theorem sm_keep {G G' : Gt} (hk : ∀ a, 86 ≤ a → a < 92 → G' a = G a) (h17 : G' 75 17 = G 75 17) (h25 : G' 75 25 = G 75 25) (h : Int32) : (smOK G h → smOK G' h) ∧ drO G' h = drO G h ∧ ∀ num row mi, smO G' h num row mi = smO G h num row mi := by
  have e0 := hk 86 (by decide) (by decide)
  have e1 := hk 87 (by decide) (by decide)
  have e2 := hk 88 (by decide) (by decide)
  have e3 := hk 89 (by decide) (by decide)
  have e4 := hk 90 (by decide) (by decide)
  have e5 := hk 91 (by decide) (by decide)
  refine ⟨fun hs => ?_, ?_, fun num row mi => ?_⟩
  · unfold smOK clOK
    rw [e0, e1, e3, e4, e5, h17, h25]
    exact hs
  · unfold drO
    rw [drM_keep e1 e2, e0]
  · unfold smO
    rw [smM_keep e1 e2 e3 e4 e5, e0]
theorem k_isTrue {Z : Zt} {G : Gt} {L : Lt} (hZ : OK Z) (p c b n : Nat) (hp : p < 6) (hc : c < 61) (hb : G 89 c = nI b) (hn : G 90 c = nI n) (hbn : b + n ≤ 800) (hok : cdOK (fun k => G 91 (b + k)) n) : AC mX12_isTrue 2 0 0 [.ref 75, .int (nI p), .int (nI c)] Z G L (RP (.int (cvM G c (nI p) (fun i => G (78 + i) p) (G 75 10))) (F92 Z G L)) := by
  refine AC.intro (by decide +kernel) (Nat.le_of_ble_eq_true rfl) ?_
  refine ax_lv [(0, .ref 75), (1, .int (nI p)), (2, .int (nI c))] ⟨rfl, rfl, rfl, trivial⟩ ?_
  refine ax_iconst (v := 0) dX12_isTrue_0 (by decide) ?_
  refine ax_istore_n (i := 3) dX12_isTrue_1 rfl (by decide) rfl ?_
  refine ax_aload_n (i := 0) dX12_isTrue_2 rfl rfl ?_
  refine ax_getR dX12_isTrue_3 fl_X12_51 rfl (OKs hZ rfl) (OKr hZ rfl) ?_
  refine ax_iload_n (i := 2) dX12_isTrue_6 rfl rfl ?_
  refine ax_ialdN c dX12_isTrue_7 (OKs hZ rfl) rfl hc (by decide) ?_
  refine ax_top (congrArg Value.int hb) ?_
  refine ax_istore dX12_isTrue_8 (by decide) rfl ?_
  refine ax_lv [(0, .ref 75), (1, .int (nI p)), (2, .int (nI c)), (3, .int (nI (stM (fun k => G 91 (b + k)) (nI p) (fun i => G (78 + i) p) (G 75 10) 0).1)), (4, .int (nI (b + 0)))] ⟨rfl, rfl, rfl, rfl, rfl, trivial⟩ ?_
  refine l_isTrue hZ p c b n hp hc hb hn hbn hok ?_ (n + 1) 0 (by omega) (by omega) G (fun _ _ => rfl) (fun j hj => absurd hj (Nat.not_lt_zero j))
  intro G1 hf h0
  refine ax_aload_n (i := 0) dX12_isTrue_251 rfl rfl ?_
  refine ax_getR dX12_isTrue_252 fl_X12_60 rfl (OKs hZ rfl) (OKr hZ rfl) ?_
  refine ax_iconst (v := 0) dX12_isTrue_255 (by decide) ?_
  refine ax_zaldN 0 dX12_isTrue_256 (OKs hZ rfl) rfl (by decide) (by decide) ?_
  refine ax_top (congrArg Value.int h0) ?_
  refine ax_iret dX12_isTrue_257 rfl (nb01 (stM_01 _ _)) (Nat.le_of_ble_eq_true rfl) (Nat.le_of_ble_eq_true rfl) ?_
  exact ⟨congrArg (fun z => some (Value.int z)) (by unfold cvM; rw [hb, hn, nI_clamp (by omega), nI_clamp (by omega)]), rfl, rfl, hf⟩
theorem nI_m1 {a : Nat} (h : a < 1000000) : ¬ nI a = -1 := fun e => nI_pos (n := a) (by omega) (by rw [e]; decide)
theorem l_sumM {Z : Zt} {G0 : Gt} {L : Lt} {Q : Qt} (hZ : OK Z) (p hh m : Nat) (hp : p < 6) (hh6 : hh < 6) (hh1 : G0 75 18 = nI hh) (hm10 : m ≤ 10) (hm1 : G0 86 hh = nI m) (hcl : ∀ i, i < m → clOK G0 (10 * hh + i)) (base : Int32) (hend : ∀ G : Gt, (∀ a, a ≠ 92 → G a = G0 a) → AX none mX12_sum 3 0 0 0 0 111 [(2, .int (base + smM G0 hh (nI p) (fun i => G0 (78 + i) p) (G0 75 10) m))] [] Z G L Q) : ∀ (r q : Nat), q ≤ m → m - q < r → ∀ G : Gt, (∀ a, a ≠ 92 → G a = G0 a) → AX none mX12_sum 3 0 0 0 0 21 [(0, .ref 75), (1, .int (nI p)), (2, .int (base + smM G0 hh (nI p) (fun i => G0 (78 + i) p) (G0 75 10) q)), (3, .int (nI q))] [] Z G L Q := by
  intro r
  induction r with
  | zero => intro q h1 h2; omega
  | succ r ih =>
    intro q h1 h2 G hf
    refine ax_aload_n (i := 0) dX12_sum_21 rfl rfl ?_
    refine ax_getI dX12_sum_22 fl_X12_110 rfl (OKs hZ rfl) ?_
    refine ax_top (congrArg Value.int ((congrFun (hf 75 (by decide)) 18).trans hh1)) ?_
    refine ax_iconst (v := (-1)) dX12_sum_25 (by decide) ?_
    refine ax_icmp_eq (tgt := 111) dX12_sum_26 (by decide) (fun c_26 => ?_) (fun c_26 => ?_)
    · exact absurd c_26 (nI_m1 (by omega))
    · refine ax_iload_n (i := 3) dX12_sum_29 rfl rfl ?_
      refine ax_aload_n (i := 0) dX12_sum_30 rfl rfl ?_
      refine ax_getR dX12_sum_31 fl_X12_42 rfl (OKs hZ rfl) (OKr hZ rfl) ?_
      refine ax_aload_n (i := 0) dX12_sum_34 rfl rfl ?_
      refine ax_getI dX12_sum_35 fl_X12_110 rfl (OKs hZ rfl) ?_
      refine ax_top (congrArg Value.int ((congrFun (hf 75 (by decide)) 18).trans hh1)) ?_
      refine ax_ialdN hh dX12_sum_38 (OKs hZ rfl) rfl hh6 (by decide) ?_
      refine ax_top (congrArg Value.int ((congrFun (hf 86 (by decide)) hh).trans hm1)) ?_
      refine ax_icmp_ge (tgt := 111) dX12_sum_39 (by decide) (fun c_39 => ?_) (fun c_39 => ?_)
      · obtain rfl : q = m := by have := (nI_leI (by omega) (by omega)).mp c_39; omega
        exact ax_lv [(2, .int (base + smM G0 hh (nI p) (fun i => G0 (78 + i) p) (G0 75 10) q))] ⟨rfl, trivial⟩ (hend G hf)
      · have hqm : q < m := by have := mt (nI_leI (by omega) (by omega)).mpr c_39; omega
        refine ax_bipush (v := 10) dX12_sum_42 (by decide) ?_
        refine ax_aload_n (i := 0) dX12_sum_44 rfl rfl ?_
        refine ax_getI dX12_sum_45 fl_X12_110 rfl (OKs hZ rfl) ?_
        refine ax_top (congrArg Value.int ((congrFun (hf 75 (by decide)) 18).trans hh1)) ?_
        refine ax_imul dX12_sum_48 ?_
        refine ax_iload_n (i := 3) dX12_sum_49 rfl rfl ?_
        refine ax_iadd dX12_sum_50 ?_
        refine ax_top (congrArg Value.int (show 10 * nI hh + nI q = nI (10 * hh + q) by rw [show (10 : Int32) = nI 10 from rfl, pk_mul, nI_add])) ?_
        refine ax_istore dX12_sum_51 (by decide) rfl ?_
        refine ax_aload_n (i := 0) dX12_sum_53 rfl rfl ?_
        refine ax_getR dX12_sum_54 fl_X12_45 rfl (OKs hZ rfl) (OKr hZ rfl) ?_
        refine ax_iload dX12_sum_57 rfl ?_
        refine ax_ialdN (10 * hh + q) dX12_sum_59 (OKs hZ rfl) rfl (show 10 * hh + q < 61 by omega) (by decide) ?_
        refine ax_top (congrArg Value.int (congrFun (hf 87 (by decide)) (10 * hh + q))) ?_
        refine ax_iconst (v := 2) dX12_sum_60 (by decide) ?_
        refine ax_icmp_ge (tgt := 105) dX12_sum_61 (by decide) (fun c_61 => ?_) (fun c_61 => ?_)
        · have c61 := c_61
          refine ax_iinc (v := (nI q) + 1) dX12_sum_105 rfl rfl (by decide) rfl ?_
          refine ax_goto (tgt := 21) dX12_sum_108 (by decide) ?_
          refine ax_lv [(0, .ref 75), (1, .int (nI p)), (2, .int (base + smM G0 hh (nI p) (fun i => G0 (78 + i) p) (G0 75 10) (q + 1))), (3, .int (nI (q + 1)))] ⟨rfl, rfl, sI (by rw [smM, tmM, if_pos c61, Int32.add_zero]), sI (nI_1 q), trivial⟩ ?_
          exact ih (q + 1) (by omega) (by omega) _ hf
        · have c61 := c_61
          obtain ⟨b9, n9, hb9, hn9, hbn9, hok9, -⟩ := (hcl q hqm).resolve_left c_61
          refine ax_aload_n (i := 0) dX12_sum_64 rfl rfl ?_
          refine ax_iload_n (i := 1) dX12_sum_65 rfl rfl ?_
          refine ax_iload dX12_sum_66 rfl ?_
          refine ax_cVq dX12_sum_68 lk_X12_230 (k_isTrue hZ p (10 * hh + q) b9 n9 hp (by omega) (by rw [hf 89 (by decide)]; exact hb9) (by rw [hf 90 (by decide)]; exact hn9) hbn9 (by rw [hf 91 (by decide)]; exact hok9)) rfl (OKs hZ rfl) ⟨_, rfl, rfl⟩ rfl (Nat.le_of_ble_eq_true rfl) (Nat.le_of_ble_eq_true rfl) (Nat.le_of_ble_eq_true rfl) (Nat.le_of_ble_eq_true rfl) ?_
          rintro _ G1 _ ⟨rfl, rfl, f'1⟩
          have f1 : ∀ a, a ≠ 92 → G1 a = G0 a := fun a ha => (f'1 a ha).trans (hf a ha)
          refine ax_top (congrArg Value.int (show cvM G (10 * hh + q) (nI p) (fun i => G (78 + i) p) (G 75 10) = cvM G0 (10 * hh + q) (nI p) (fun i => G0 (78 + i) p) (G0 75 10) by unfold cvM; rw [hf 89 (by decide), hf 90 (by decide), hf 91 (by decide), hf 75 (by decide), stM_row (fun i hi => show G (78 + i) p = G0 (78 + i) p by rw [hf (78 + i) (by omega)])])) ?_
          refine ax_if_eq (tgt := 105) dX12_sum_71 (by decide) (fun c_71 => ?_) (fun c_71 => ?_)
          · 
            refine ax_iinc (v := (nI q) + 1) dX12_sum_105 rfl rfl (by decide) rfl ?_
            refine ax_goto (tgt := 21) dX12_sum_108 (by decide) ?_
            refine ax_lv [(0, .ref 75), (1, .int (nI p)), (2, .int (base + smM G0 hh (nI p) (fun i => G0 (78 + i) p) (G0 75 10) (q + 1))), (3, .int (nI (q + 1)))] ⟨rfl, rfl, sI (by rw [smM, tmM, if_neg c61, if_pos c_71, Int32.add_zero]), sI (nI_1 q), trivial⟩ ?_
            exact ih (q + 1) (by omega) (by omega) _ f1
          · refine ax_iload_n (i := 2) dX12_sum_74 rfl rfl ?_
            refine ax_aload_n (i := 0) dX12_sum_75 rfl rfl ?_
            refine ax_getR dX12_sum_76 fl_X12_45 rfl (OKs hZ rfl) (OKr hZ rfl) ?_
            refine ax_iload dX12_sum_79 rfl ?_
            refine ax_ialdN (10 * hh + q) dX12_sum_81 (OKs hZ rfl) rfl (show 10 * hh + q < 61 by omega) (by decide) ?_
            refine ax_top (congrArg Value.int (congrFun (f1 87 (by decide)) (10 * hh + q))) ?_
            refine ax_if_ne (tgt := 95) dX12_sum_82 (by decide) (fun c_82 => ?_) (fun c_82 => ?_)
            · have c82 := c_82
              refine ax_aload_n (i := 0) dX12_sum_95 rfl rfl ?_
              refine ax_getR dX12_sum_96 fl_X12_48 rfl (OKs hZ rfl) (OKr hZ rfl) ?_
              refine ax_iload dX12_sum_99 rfl ?_
              refine ax_ialdN (10 * hh + q) dX12_sum_101 (OKs hZ rfl) rfl (show 10 * hh + q < 61 by omega) (by decide) ?_
              refine ax_top (congrArg Value.int (congrFun (f1 88 (by decide)) (10 * hh + q))) ?_
              refine ax_ineg dX12_sum_102 ?_
              refine ax_iadd dX12_sum_103 ?_
              refine ax_istore_n (i := 2) dX12_sum_104 rfl (by decide) rfl ?_
              refine ax_iinc (v := (nI q) + 1) dX12_sum_105 rfl rfl (by decide) rfl ?_
              refine ax_goto (tgt := 21) dX12_sum_108 (by decide) ?_
              refine ax_lv [(0, .ref 75), (1, .int (nI p)), (2, .int (base + smM G0 hh (nI p) (fun i => G0 (78 + i) p) (G0 75 10) (q + 1))), (3, .int (nI (q + 1)))] ⟨rfl, rfl, sI (by rw [smM, tmM, if_neg c61, if_neg c_71, if_neg c82, Int32.add_assoc]), sI (nI_1 q), trivial⟩ ?_
              exact ih (q + 1) (by omega) (by omega) _ f1
            · have c82 := c_82
              refine ax_aload_n (i := 0) dX12_sum_85 rfl rfl ?_
              refine ax_getR dX12_sum_86 fl_X12_48 rfl (OKs hZ rfl) (OKr hZ rfl) ?_
              refine ax_iload dX12_sum_89 rfl ?_
              refine ax_ialdN (10 * hh + q) dX12_sum_91 (OKs hZ rfl) rfl (show 10 * hh + q < 61 by omega) (by decide) ?_
              refine ax_top (congrArg Value.int (congrFun (f1 88 (by decide)) (10 * hh + q))) ?_
              refine ax_goto (tgt := 103) dX12_sum_92 (by decide) ?_
              refine ax_iadd dX12_sum_103 ?_
              refine ax_istore_n (i := 2) dX12_sum_104 rfl (by decide) rfl ?_
              refine ax_iinc (v := (nI q) + 1) dX12_sum_105 rfl rfl (by decide) rfl ?_
              refine ax_goto (tgt := 21) dX12_sum_108 (by decide) ?_
              refine ax_lv [(0, .ref 75), (1, .int (nI p)), (2, .int (base + smM G0 hh (nI p) (fun i => G0 (78 + i) p) (G0 75 10) (q + 1))), (3, .int (nI (q + 1)))] ⟨rfl, rfl, sI (by rw [smM, tmM, if_neg c61, if_neg c_71, if_pos c82, Int32.add_assoc]), sI (nI_1 q), trivial⟩ ?_
              exact ih (q + 1) (by omega) (by omega) _ f1
theorem k_sum_m {Z : Zt} {G : Gt} {L : Lt} (hZ : OK Z) (p : Nat) (hp : p < 6) (hs : smOK G (G 75 18)) : AC mX12_sum 3 0 0 [.ref 75, .int (nI p)] Z G L (RP (.int ((2 * G 80 p - G 82 p / 10) + smO G (G 75 18) (nI p) (fun i => G (78 + i) p) (G 75 10))) (F92 Z G L)) := by
  refine AC.intro (by decide +kernel) (Nat.le_of_ble_eq_true rfl) ?_
  refine ax_lv [(0, .ref 75), (1, .int (nI p))] ⟨rfl, rfl, trivial⟩ ?_
  refine ax_iconst (v := 2) dX12_sum_0 (by decide) ?_
  refine ax_aload_n (i := 0) dX12_sum_1 rfl rfl ?_
  refine ax_getR dX12_sum_2 fl_X12_24 rfl (OKs hZ rfl) (OKr hZ rfl) ?_
  refine ax_iload_n (i := 1) dX12_sum_5 rfl rfl ?_
  refine ax_ialdN p dX12_sum_6 (OKs hZ rfl) rfl hp (by decide) ?_
  refine ax_imul dX12_sum_7 ?_
  refine ax_aload_n (i := 0) dX12_sum_8 rfl rfl ?_
  refine ax_getR dX12_sum_9 fl_X12_30 rfl (OKs hZ rfl) (OKr hZ rfl) ?_
  refine ax_iload_n (i := 1) dX12_sum_12 rfl rfl ?_
  refine ax_ialdN p dX12_sum_13 (OKs hZ rfl) rfl hp (by decide) ?_
  refine ax_bipush (v := 10) dX12_sum_14 (by decide) ?_
  refine ax_idiv dX12_sum_16 (by decide) ?_
  refine ax_isub dX12_sum_17 ?_
  refine ax_istore_n (i := 2) dX12_sum_18 rfl (by decide) rfl ?_
  refine ax_iconst (v := 0) dX12_sum_19 (by decide) ?_
  refine ax_istore_n (i := 3) dX12_sum_20 rfl (by decide) rfl ?_
  rcases hs with e18 | ⟨hh, m, hh6, e18, hm10, hm1, hcl, -⟩
  · rw [e18]
    refine ax_aload_n (i := 0) dX12_sum_21 rfl rfl ?_
    refine ax_getI dX12_sum_22 fl_X12_110 rfl (OKs hZ rfl) ?_
    refine ax_top (congrArg Value.int e18) ?_
    refine ax_iconst (v := (-1)) dX12_sum_25 (by decide) ?_
    refine ax_icmp_eq (tgt := 111) dX12_sum_26 (by decide) (fun c_26 => ?_) (fun c_26 => ?_)
    · refine ax_iload_n (i := 2) dX12_sum_111 rfl rfl ?_
      refine ax_iret dX12_sum_112 rfl rfl (Nat.le_of_ble_eq_true rfl) (Nat.le_of_ble_eq_true rfl) ?_
      exact ⟨congrArg (fun z => some (Value.int z)) (by unfold smO; rw [if_pos rfl, Int32.add_zero]), rfl, rfl, fun _ _ => rfl⟩
    · exact absurd rfl c_26
  · refine ax_lv [(0, .ref 75), (1, .int (nI p)), (2, .int ((2 * G 80 p - G 82 p / 10) + smM G hh (nI p) (fun i => G (78 + i) p) (G 75 10) 0)), (3, .int (nI 0))] ⟨rfl, rfl, sI (by rw [smM, Int32.add_zero]), rfl, trivial⟩ ?_
    refine l_sumM hZ p hh m hp hh6 e18 hm10 hm1 hcl (2 * G 80 p - G 82 p / 10) ?_ (m + 1) 0 (by omega) (by omega) G (fun _ _ => rfl)
    intro G1 hf
    refine ax_iload_n (i := 2) dX12_sum_111 rfl rfl ?_
    refine ax_iret dX12_sum_112 rfl rfl (Nat.le_of_ble_eq_true rfl) (Nat.le_of_ble_eq_true rfl) ?_
    exact ⟨congrArg (fun z => some (Value.int z)) (by unfold smO; rw [e18, if_neg (nI_m1 (by omega)), nI_clamp (by omega), hm1, nI_clamp (by omega)]), rfl, rfl, hf⟩
theorem l_dryBy {Z : Zt} {G : Gt} {L : Lt} {Q : Qt} (hZ : OK Z) (hh m : Nat) (hh6 : hh < 6) (hh1 : G 75 18 = nI hh) (hm10 : m ≤ 10) (hm1 : G 86 hh = nI m) (hend : AX none mX12_dryBy 1 0 0 0 0 64 [(1, .int (drM G hh m))] [] Z G L Q) : ∀ (r q : Nat), q ≤ m → m - q < r → AX none mX12_dryBy 1 0 0 0 0 4 [(0, .ref 75), (1, .int (drM G hh q)), (2, .int (nI q))] [] Z G L Q := by
  intro r
  induction r with
  | zero => intro q h1 h2; omega
  | succ r ih =>
    intro q h1 h2
    refine ax_aload_n (i := 0) dX12_dryBy_4 rfl rfl ?_
    refine ax_getI dX12_dryBy_5 fl_X12_110 rfl (OKs hZ rfl) ?_
    refine ax_top (congrArg Value.int hh1) ?_
    refine ax_iconst (v := (-1)) dX12_dryBy_8 (by decide) ?_
    refine ax_icmp_eq (tgt := 64) dX12_dryBy_9 (by decide) (fun c_9 => ?_) (fun c_9 => ?_)
    · exact absurd c_9 (nI_m1 (by omega))
    · refine ax_iload_n (i := 2) dX12_dryBy_12 rfl rfl ?_
      refine ax_aload_n (i := 0) dX12_dryBy_13 rfl rfl ?_
      refine ax_getR dX12_dryBy_14 fl_X12_42 rfl (OKs hZ rfl) (OKr hZ rfl) ?_
      refine ax_aload_n (i := 0) dX12_dryBy_17 rfl rfl ?_
      refine ax_getI dX12_dryBy_18 fl_X12_110 rfl (OKs hZ rfl) ?_
      refine ax_top (congrArg Value.int hh1) ?_
      refine ax_ialdN hh dX12_dryBy_21 (OKs hZ rfl) rfl hh6 (by decide) ?_
      refine ax_top (congrArg Value.int hm1) ?_
      refine ax_icmp_ge (tgt := 64) dX12_dryBy_22 (by decide) (fun c_22 => ?_) (fun c_22 => ?_)
      · obtain rfl : q = m := by have := (nI_leI (by omega) (by omega)).mp c_22; omega
        exact ax_lv [(1, .int (drM G hh q))] ⟨rfl, trivial⟩ hend
      · have hqm : q < m := by have := mt (nI_leI (by omega) (by omega)).mpr c_22; omega
        refine ax_aload_n (i := 0) dX12_dryBy_25 rfl rfl ?_
        refine ax_getR dX12_dryBy_26 fl_X12_45 rfl (OKs hZ rfl) (OKr hZ rfl) ?_
        refine ax_bipush (v := 10) dX12_dryBy_29 (by decide) ?_
        refine ax_aload_n (i := 0) dX12_dryBy_31 rfl rfl ?_
        refine ax_getI dX12_dryBy_32 fl_X12_110 rfl (OKs hZ rfl) ?_
        refine ax_top (congrArg Value.int hh1) ?_
        refine ax_imul dX12_dryBy_35 ?_
        refine ax_iload_n (i := 2) dX12_dryBy_36 rfl rfl ?_
        refine ax_iadd dX12_dryBy_37 ?_
        refine ax_ialdN (10 * hh + q) dX12_dryBy_38 (OKs hZ rfl) (show 10 * nI hh + nI q = nI (10 * hh + q) by rw [show (10 : Int32) = nI 10 from rfl, pk_mul, nI_add]) (show 10 * hh + q < 61 by omega) (by decide) ?_
        refine ax_iconst (v := 2) dX12_dryBy_39 (by decide) ?_
        refine ax_icmp_ne (tgt := 58) dX12_dryBy_40 (by decide) (fun c_40 => ?_) (fun c_40 => ?_)
        · refine ax_iinc (v := (nI q) + 1) dX12_dryBy_58 rfl rfl (by decide) rfl ?_
          refine ax_goto (tgt := 4) dX12_dryBy_61 (by decide) ?_
          refine ax_lv [(0, .ref 75), (1, .int (drM G hh (q + 1))), (2, .int (nI (q + 1)))] ⟨rfl, sI (by rw [drM, if_neg c_40]), sI (nI_1 q), trivial⟩ ?_
          exact ih (q + 1) (by omega) (by omega)
        · refine ax_aload_n (i := 0) dX12_dryBy_43 rfl rfl ?_
          refine ax_getR dX12_dryBy_44 fl_X12_48 rfl (OKs hZ rfl) (OKr hZ rfl) ?_
          refine ax_bipush (v := 10) dX12_dryBy_47 (by decide) ?_
          refine ax_aload_n (i := 0) dX12_dryBy_49 rfl rfl ?_
          refine ax_getI dX12_dryBy_50 fl_X12_110 rfl (OKs hZ rfl) ?_
          refine ax_top (congrArg Value.int hh1) ?_
          refine ax_imul dX12_dryBy_53 ?_
          refine ax_iload_n (i := 2) dX12_dryBy_54 rfl rfl ?_
          refine ax_iadd dX12_dryBy_55 ?_
          refine ax_ialdN (10 * hh + q) dX12_dryBy_56 (OKs hZ rfl) (show 10 * nI hh + nI q = nI (10 * hh + q) by rw [show (10 : Int32) = nI 10 from rfl, pk_mul, nI_add]) (show 10 * hh + q < 61 by omega) (by decide) ?_
          refine ax_istore_n (i := 1) dX12_dryBy_57 rfl (by decide) rfl ?_
          refine ax_iinc (v := (nI q) + 1) dX12_dryBy_58 rfl rfl (by decide) rfl ?_
          refine ax_goto (tgt := 4) dX12_dryBy_61 (by decide) ?_
          refine ax_lv [(0, .ref 75), (1, .int (drM G hh (q + 1))), (2, .int (nI (q + 1)))] ⟨rfl, sI (by rw [drM, if_pos c_40]), sI (nI_1 q), trivial⟩ ?_
          exact ih (q + 1) (by omega) (by omega)
theorem k_dryBy {Z : Zt} {G : Gt} {L : Lt} (hZ : OK Z) (hs : smOK G (G 75 18)) : AC mX12_dryBy 1 0 0 [.ref 75] Z G L (RQ (.int (drO G (G 75 18))) Z G L) := by
  refine AC.intro (by decide +kernel) (Nat.le_of_ble_eq_true rfl) ?_
  refine ax_lv [(0, .ref 75)] ⟨rfl, trivial⟩ ?_
  refine ax_iconst (v := 2) dX12_dryBy_0 (by decide) ?_
  refine ax_istore_n (i := 1) dX12_dryBy_1 rfl (by decide) rfl ?_
  refine ax_iconst (v := 0) dX12_dryBy_2 (by decide) ?_
  refine ax_istore_n (i := 2) dX12_dryBy_3 rfl (by decide) rfl ?_
  rcases hs with e18 | ⟨hh, m, hh6, e18, hm10, hm1, hcl, -⟩
  · rw [e18]
    refine ax_aload_n (i := 0) dX12_dryBy_4 rfl rfl ?_
    refine ax_getI dX12_dryBy_5 fl_X12_110 rfl (OKs hZ rfl) ?_
    refine ax_top (congrArg Value.int e18) ?_
    refine ax_iconst (v := (-1)) dX12_dryBy_8 (by decide) ?_
    refine ax_icmp_eq (tgt := 64) dX12_dryBy_9 (by decide) (fun c_9 => ?_) (fun c_9 => ?_)
    · refine ax_iload_n (i := 1) dX12_dryBy_64 rfl rfl ?_
      refine ax_iret dX12_dryBy_65 rfl rfl (Nat.le_of_ble_eq_true rfl) (Nat.le_of_ble_eq_true rfl) ?_
      exact rq (by unfold drO; rw [if_pos rfl])
    · exact absurd rfl c_9
  · refine ax_lv [(0, .ref 75), (1, .int (drM G hh 0)), (2, .int (nI 0))] ⟨rfl, rfl, rfl, trivial⟩ ?_
    refine l_dryBy hZ hh m hh6 e18 hm10 hm1 ?_ (m + 1) 0 (by omega) (by omega)
    refine ax_iload_n (i := 1) dX12_dryBy_64 rfl rfl ?_
    refine ax_iret dX12_dryBy_65 rfl rfl (Nat.le_of_ble_eq_true rfl) (Nat.le_of_ble_eq_true rfl) ?_
    exact rq (by unfold drO; rw [e18, if_neg (nI_m1 (by omega)), nI_clamp (by omega), hm1, nI_clamp (by omega)])
