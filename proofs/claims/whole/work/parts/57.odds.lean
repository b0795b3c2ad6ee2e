-- ===== the model: odds, mean, ends =====
theorem sL {a b : Int64} (h : a = b) : some (Value.long a) = some (Value.long b) := by rw [h]
theorem il_n : ∀ (n d r : Nat), r < n → d < 1000000 → r < 1000000 → ilV n (nI d) (nI r) = nI (Nat.gcd d r)
  | 0, _, r, h, _, _ => absurd h (Nat.not_lt_zero r)
  | n + 1, d, r, h, hd, hr => by
    unfold ilV
    by_cases c : nI r = 0
    · have : r = 0 := (nI_eq (by omega) (by decide)).mp (show nI r = nI 0 from c)
      subst this
      rw [if_pos c, Nat.gcd_zero_right]
    · have h0 : 0 < r := Nat.pos_of_ne_zero (fun e => c (by rw [e]; rfl))
      have hm := Nat.mod_lt d h0
      rw [if_neg c, pk_rem (by omega) h0 (by omega), il_n n r (d % r) (by omega) hr (by omega), Nat.gcd_comm d r, Nat.gcd_rec r d, Nat.gcd_comm (d % r) r]
theorem il_eq {a b : Nat} {c : Int32} (ha : a < 100000) (hb : 0 < b) (hb2 : b ≤ 60) : ilR (nI a) (nI b) c = if c = 0 then lN (a / Nat.gcd a b) else lN (b / Nat.gcd a b) := by
  have hg0 : 0 < Nat.gcd a b := Nat.gcd_pos_of_pos_right a hb
  have hgb : Nat.gcd a b ≤ b := Nat.gcd_le_right a hb
  have e : ilV 64 (nI b) (nI a) = nI (Nat.gcd a b) := by
    unfold ilV
    by_cases c : nI a = 0
    · have : a = 0 := (nI_eq (by omega) (by decide)).mp (show nI a = nI 0 from c)
      subst this
      rw [if_pos c, Nat.gcd_zero_left]
    · have h0 : 0 < a := Nat.pos_of_ne_zero (fun e => c (by rw [e]; rfl))
      have hm := Nat.mod_lt b h0
      have hm2 := Nat.mod_le b a
      rw [if_neg c, pk_rem (by omega) h0 (by omega), il_n 63 a (b % a) (by omega) (by omega) (by omega)]
      rw [Nat.gcd_rec a b, Nat.gcd_comm]
  unfold ilR
  rw [e, if_neg (fun z => by have := (nI_eq (by omega) (by decide)).mp (show nI (Nat.gcd a b) = nI 0 from z); omega), pk_div (by omega) hg0 (by omega), pk_div (by omega) hg0 (by omega), nI_l (by have := Nat.div_le_self a (Nat.gcd a b); omega), nI_l (by have := Nat.div_le_self b (Nat.gcd a b); omega)]
theorem l_part {Z : Zt} {G : Gt} {L : Lt} (a b : Nat) (c : Int32) (ha : a < 1000000) (hb : 0 < b) (hb2 : b < 1000000) : ∀ (r x y : Nat), y < r → x < 1000000 → y < 1000000 → Nat.gcd x y = Nat.gcd a b → AX none mX12_part 1 0 0 0 0 6 [(0, .long (lN a)), (2, .long (lN b)), (4, .int c), (5, .long (lN x)), (7, .long (lN y))] [] Z G L (RQ (.long (if c = 0 then lN (a / Nat.gcd a b) else lN (b / Nat.gcd a b))) Z G L) := by
  intro r
  induction r with
  | zero => intro x y h1; omega
  | succ r ih =>
    intro x y h1 hx hy hg
    refine ax_lload dX12_part_6 rfl ?_
    refine ax_lconst (v := 0) dX12_part_8 (by decide) ?_
    refine ax_lcmp dX12_part_9 ?_
    refine ax_if_eq (tgt := 31) dX12_part_10 (by decide) (fun c_10 => ?_) (fun c_10 => ?_)
    · obtain rfl : y = 0 := (lN_eq (by omega) (by decide)).mp (show lN y = lN 0 from lgc_0.mp c_10)
      obtain rfl : x = Nat.gcd a b := by rw [← hg, Nat.gcd_zero_right]
      have hx0 : 0 < Nat.gcd a b := Nat.gcd_pos_of_pos_right a hb
      have hxn : ¬ lN (Nat.gcd a b) = 0 := fun z => by have := (lN_eq (by omega) (by decide)).mp (show lN (Nat.gcd a b) = lN 0 from z); omega
      refine ax_iload dX12_part_31 rfl ?_
      refine ax_if_ne (tgt := 43) dX12_part_33 (by decide) (fun c_33 => ?_) (fun c_33 => ?_)
      · refine ax_lload_n (i := 2) dX12_part_43 rfl rfl ?_
        refine ax_lload dX12_part_44 rfl ?_
        refine ax_ldiv dX12_part_46 hxn ?_
        refine ax_lret dX12_part_47 rfl (Nat.le_of_ble_eq_true rfl) (Nat.le_of_ble_eq_true rfl) ?_
        exact ⟨congrArg (fun z => some (Value.long z)) (by rw [if_neg c_33, pk_lDiv (by omega) hx0 (by omega)]), rfl, rfl, rfl⟩
      · refine ax_lload_n (i := 0) dX12_part_36 rfl rfl ?_
        refine ax_lload dX12_part_37 rfl ?_
        refine ax_ldiv dX12_part_39 hxn ?_
        refine ax_goto (tgt := 47) dX12_part_40 (by decide) ?_
        refine ax_lret dX12_part_47 rfl (Nat.le_of_ble_eq_true rfl) (Nat.le_of_ble_eq_true rfl) ?_
        exact ⟨congrArg (fun z => some (Value.long z)) (by rw [if_pos c_33, pk_lDiv (by omega) hx0 (by omega)]), rfl, rfl, rfl⟩
    · have hy0 : ¬ lN y = 0 := fun z => c_10 (lgc_0.mpr z)
      have hyp : 0 < y := Nat.pos_of_ne_zero (fun e => hy0 (by rw [e]; rfl))
      have hm := Nat.mod_lt x hyp
      refine ax_lload dX12_part_13 rfl ?_
      refine ax_lload dX12_part_15 rfl ?_
      refine ax_lrem dX12_part_17 hy0 ?_
      refine ax_lstore dX12_part_18 (by decide) rfl rfl ?_
      refine ax_lload dX12_part_20 rfl ?_
      refine ax_lstore dX12_part_22 (by decide) rfl rfl ?_
      refine ax_lload dX12_part_24 rfl ?_
      refine ax_lstore dX12_part_26 (by decide) rfl rfl ?_
      refine ax_goto (tgt := 6) dX12_part_28 (by decide) ?_
      refine ax_lv [(0, .long (lN a)), (2, .long (lN b)), (4, .int c), (5, .long (lN y)), (7, .long (lN (x % y)))] ⟨rfl, rfl, rfl, rfl, sL (pk_lRem (by omega) hyp (by omega)), trivial⟩ ?_
      exact ih y (x % y) (by omega) hy (by omega) (by rw [← hg, Nat.gcd_comm x y, Nat.gcd_rec y x, Nat.gcd_comm])
theorem c_part {Z : Zt} {G : Gt} {L : Lt} (a b : Nat) (c : Int32) (ha : a < 1000000) (hb : 0 < b) (hb2 : b < 1000000) : AC mX12_part 1 0 0 [.long (lN a), .long (lN b), .int c] Z G L (RQ (.long (if c = 0 then lN (a / Nat.gcd a b) else lN (b / Nat.gcd a b))) Z G L) := by
  refine AC.intro (by decide +kernel) (Nat.le_of_ble_eq_true rfl) ?_
  refine ax_lv [(0, .long (lN a)), (2, .long (lN b)), (4, .int c)] ⟨rfl, rfl, rfl, trivial⟩ ?_
  refine ax_lload_n (i := 0) dX12_part_0 rfl rfl ?_
  refine ax_lstore dX12_part_1 (by decide) rfl rfl ?_
  refine ax_lload_n (i := 2) dX12_part_3 rfl rfl ?_
  refine ax_lstore dX12_part_4 (by decide) rfl rfl ?_
  refine ax_lv [(0, .long (lN a)), (2, .long (lN b)), (4, .int c), (5, .long (lN a)), (7, .long (lN b))] ⟨rfl, rfl, rfl, rfl, rfl, trivial⟩ ?_
  exact l_part a b c ha hb hb2 (b + 1) a b (by omega) ha hb2 rfl
theorem l_oddsM {Z : Zt} {G0 : Gt} {L : Lt} {Q : Qt} {W : Wv} (hZ : OK Z) (ho : okW W) {H : Hv} (hh : okH W.m H) (hm : W.mm + 20 < 20000) (p : Nat) (hp : p < W.m) (b : Int32) (hend : ∀ G : Gt, mA G0 G → vM G W → hM G H → AX none mX12_odds 5 0 0 0 0 83 [(2, .int b), (3, .int (nI (odV W p 10)))] [] Z G L Q) : ∀ (r q : Nat), q ≤ 10 → 10 - q < r → ∀ G : Gt, mA G0 G → vM G W → hM G H → AX none mX12_odds 5 0 0 0 0 26 [(0, .ref 75), (1, .int (nI p)), (2, .int b), (3, .int (nI (odV W p q))), (4, .int (nI q))] [] Z G L Q := by
  intro r
  induction r with
  | zero => intro q h1 h2; omega
  | succ r ih =>
    intro q h1 h2 G hs9 hv9 hH9
    refine ax_iload dX12_odds_26 rfl ?_
    refine ax_bipush (v := 10) dX12_odds_28 (by decide) ?_
    refine ax_icmp_ge (tgt := 83) dX12_odds_30 (by decide) (fun c_30 => ?_) (fun c_30 => ?_)
    · obtain rfl : q = 10 := by have := (nI_leI (by omega) (by omega)).mp (show nI 10 ≤ nI q from c_30); omega
      exact ax_lv [(2, .int b), (3, .int (nI (odV W p 10)))] ⟨rfl, rfl, trivial⟩ (hend G hs9 hv9 hH9)
    · have hqm : q < 10 := by have := mt (nI_leI (by omega) (by omega)).mpr (show ¬ nI 10 ≤ nI q from c_30); omega
      refine ax_aload_n (i := 0) dX12_odds_33 rfl rfl ?_
      refine ax_aload_n (i := 0) dX12_odds_34 rfl rfl ?_
      refine ax_getR dX12_odds_35 fl_X12_91 rfl (OKs hZ rfl) (OKr hZ rfl) ?_
      refine ax_cVq0 dX12_odds_38 lk_X12_271 (k_keep hZ (Or.inr rfl) hv9 ho.1 hH9 hh) rfl (OKs hZ rfl) ⟨_, rfl, rfl⟩ rfl (Nat.le_of_ble_eq_true rfl) (Nat.le_of_ble_eq_true rfl) (Nat.le_of_ble_eq_true rfl) (Nat.le_of_ble_eq_true rfl) ?_
      rintro _ G1 _ ⟨rfl, rfl, f1, i1⟩
      have v1 := vM_keep hv9 (fun a x y => f1 a (by omega)) (fun i _ => by rw [f1 75 (by decide)])
      have a1 := mA_tr hs9 (mA_102 f1)
      refine ax_aload_n (i := 0) dX12_odds_41 rfl rfl ?_
      refine ax_getR dX12_odds_42 fl_X12_15 rfl (OKs hZ rfl) (OKr hZ rfl) ?_
      refine ax_aload_n (i := 0) dX12_odds_45 rfl rfl ?_
      refine ax_getI dX12_odds_46 fl_X12_224 rfl (OKs hZ rfl) ?_
      refine ax_top (congrArg Value.int v1.2.1) ?_
      refine ax_iconst (v := 4) dX12_odds_49 (by decide) ?_
      refine ax_irem dX12_odds_50 (by decide) ?_
      refine ax_iload dX12_odds_51 rfl ?_
      refine ax_iastN (W.mm % 4) dX12_odds_53 (OKs hZ rfl) (rem4 (by omega)) (Nat.mod_lt _ (by decide)) (by decide) ?_
      have vr := vM_rn (u := W.mm % 4) (x := nI q) v1
      have mr := mS_up (G := G1) (a := 77) (i := W.mm % 4) (x := nI q) (by decide)
      refine ax_aload_n (i := 0) dX12_odds_54 rfl rfl ?_
      refine ax_cVq0 dX12_odds_55 lk_X12_268 (k_goesMinute hZ vr (rnV_ok ho)) rfl (OKs hZ rfl) ⟨_, rfl, rfl⟩ rfl (Nat.le_of_ble_eq_true rfl) (Nat.le_of_ble_eq_true rfl) (Nat.le_of_ble_eq_true rfl) (Nat.le_of_ble_eq_true rfl) ?_
      rintro _ G2 _ ⟨rfl, rfl, m'2, v2⟩
      have m2 := mS_tr mr m'2
      refine ax_aload_n (i := 0) dX12_odds_58 rfl rfl ?_
      refine ax_iload_n (i := 1) dX12_odds_59 rfl rfl ?_
      refine ax_cVq dX12_odds_60 lk_X12_128 (k_lightOf hZ v2 (minV_ok (rnV_ok (q := W.mm % 4) (x := nI q) ho) (show W.mm + 1 < 20000 by omega)) p hp) rfl (OKs hZ rfl) ⟨_, rfl, rfl⟩ rfl (Nat.le_of_ble_eq_true rfl) (Nat.le_of_ble_eq_true rfl) (Nat.le_of_ble_eq_true rfl) (Nat.le_of_ble_eq_true rfl) ?_
      rintro _ G3 _ ⟨rfl, rfl, f3⟩
      have v3 := vM_f f3 v2
      have m3 := mS_tr m2 (mS_f f3)
      refine ax_if_le (tgt := 69) dX12_odds_63 (by decide) (fun c_63 => ?_) (fun c_63 => ?_)
      · refine ax_aload_n (i := 0) dX12_odds_69 rfl rfl ?_
        refine ax_aload_n (i := 0) dX12_odds_70 rfl rfl ?_
        refine ax_getR dX12_odds_71 fl_X12_91 rfl (OKs hZ rfl) (OKr hZ rfl) ?_
        refine ax_cVq0 dX12_odds_74 lk_X12_275 (k_again hZ (Or.inr rfl) ho.1 hh (mS_iM m3 (by decide) i1)) rfl (OKs hZ rfl) ⟨_, rfl, rfl⟩ rfl (Nat.le_of_ble_eq_true rfl) (Nat.le_of_ble_eq_true rfl) (Nat.le_of_ble_eq_true rfl) (Nat.le_of_ble_eq_true rfl) ?_
        rintro _ G4 _ ⟨rfl, rfl, a'4, v4, h4⟩
        have a4 := mA_tr a1 (mA_tr (mS_mA m3) a'4)
        refine ax_iinc (v := (nI q) + 1) dX12_odds_77 rfl rfl (by decide) rfl ?_
        refine ax_goto (tgt := 26) dX12_odds_80 (by decide) ?_
        refine ax_lv [(0, .ref 75), (1, .int (nI p)), (2, .int b), (3, .int (nI (odV W p (q + 1)))), (4, .int (nI (q + 1)))] ⟨rfl, rfl, rfl, sI (by rw [odV, if_pos c_63]), sI (nI_1 q), trivial⟩ ?_
        exact ih (q + 1) (by omega) (by omega) _ a4 v4 h4
      · refine ax_iinc (v := (nI (odV W p q)) + 1) dX12_odds_66 rfl rfl (by decide) rfl ?_
        refine ax_aload_n (i := 0) dX12_odds_69 rfl rfl ?_
        refine ax_aload_n (i := 0) dX12_odds_70 rfl rfl ?_
        refine ax_getR dX12_odds_71 fl_X12_91 rfl (OKs hZ rfl) (OKr hZ rfl) ?_
        refine ax_cVq0 dX12_odds_74 lk_X12_275 (k_again hZ (Or.inr rfl) ho.1 hh (mS_iM m3 (by decide) i1)) rfl (OKs hZ rfl) ⟨_, rfl, rfl⟩ rfl (Nat.le_of_ble_eq_true rfl) (Nat.le_of_ble_eq_true rfl) (Nat.le_of_ble_eq_true rfl) (Nat.le_of_ble_eq_true rfl) ?_
        rintro _ G4 _ ⟨rfl, rfl, a'4, v4, h4⟩
        have a4 := mA_tr a1 (mA_tr (mS_mA m3) a'4)
        refine ax_iinc (v := (nI q) + 1) dX12_odds_77 rfl rfl (by decide) rfl ?_
        refine ax_goto (tgt := 26) dX12_odds_80 (by decide) ?_
        refine ax_lv [(0, .ref 75), (1, .int (nI p)), (2, .int b), (3, .int (nI (odV W p (q + 1)))), (4, .int (nI (q + 1)))] ⟨rfl, rfl, rfl, sI (by rw [odV, if_neg c_63]; exact nI_1 _), sI (nI_1 q), trivial⟩ ?_
        exact ih (q + 1) (by omega) (by omega) _ a4 v4 h4
theorem k_oddsM {Z : Zt} {G : Gt} {L : Lt} {W : Wv} (hZ : OK Z) (hv : vM G W) (ho : okW W) {H : Hv} (hH : hM G H) (hh : okH W.m H) (hm : W.mm + 20 < 20000) (a b : Int32) : AC mX12_odds 5 0 0 [.ref 75, .int a, .int b] Z G L (RP (.long (oddV W a b)) (MA Z G L W H)) := by
  refine AC.intro (by decide +kernel) (Nat.le_of_ble_eq_true rfl) ?_
  refine ax_lv [(0, .ref 75), (1, .int a), (2, .int b)] ⟨rfl, rfl, rfl, trivial⟩ ?_
  refine ax_aload_n (i := 0) dX12_odds_0 rfl rfl ?_
  refine ax_iload_n (i := 1) dX12_odds_1 rfl rfl ?_
  refine ax_cVv dX12_odds_2 lk_X12_125 (c_X12_isOne hZ a) rfl (OKs hZ rfl) ⟨_, rfl, rfl⟩ rfl (Nat.le_of_ble_eq_true rfl) (Nat.le_of_ble_eq_true rfl) (Nat.le_of_ble_eq_true rfl) (Nat.le_of_ble_eq_true rfl) ?_
  refine ax_top (congrArg Value.int (show wi _ 0 (G 75 2 - 1) = wi _ 0 (nI W.m - 1) from by rw [hv.1])) ?_
  refine ax_if_eq (tgt := 17) dX12_odds_5 (by decide) (fun c_5 => ?_) (fun c_5 => ?_)
  · refine ax_ldc2 dX12_odds_17 wk_X12_300 ?_
    refine ax_lret dX12_odds_20 rfl (Nat.le_of_ble_eq_true rfl) (Nat.le_of_ble_eq_true rfl) ?_
    have e9 : oddV W a b = -9223372036854775808 := by unfold oddV; rw [if_pos c_5]
    rw [e9]
    exact ⟨rfl, rfl, rfl, mA_refl, hv, hH⟩
  · obtain ⟨p, hp, rfl⟩ := has_p ho.1 c_5
    have hp6 : p < 6 := by have := ho.1; omega
    refine ax_iload_n (i := 2) dX12_odds_8 rfl rfl ?_
    refine ax_iconst (v := 0) dX12_odds_9 (by decide) ?_
    refine ax_iconst (v := 1) dX12_odds_10 (by decide) ?_
    refine ax_cSv dX12_odds_11 lk_X12_117 (c_X12_within b 0 1) rfl rfl (Nat.le_of_ble_eq_true rfl) (Nat.le_of_ble_eq_true rfl) (Nat.le_of_ble_eq_true rfl) (Nat.le_of_ble_eq_true rfl) ?_
    refine ax_if_ne (tgt := 21) dX12_odds_14 (by decide) (fun c_14 => ?_) (fun c_14 => ?_)
    · refine ax_iconst (v := 0) dX12_odds_21 (by decide) ?_
      refine ax_istore_n (i := 3) dX12_odds_22 rfl (by decide) rfl ?_
      refine ax_iconst (v := 0) dX12_odds_23 (by decide) ?_
      refine ax_istore dX12_odds_24 (by decide) rfl ?_
      refine ax_lv [(0, .ref 75), (1, .int (nI p)), (2, .int b), (3, .int (nI (odV W p 0))), (4, .int (nI 0))] ⟨rfl, rfl, rfl, rfl, rfl, trivial⟩ ?_
      have ho10 := odV_le (W := W) (p := p) 10
      refine l_oddsM (G0 := G) hZ ho hh hm p hp b ?_ 11 0 (by omega) (by omega) G mA_refl hv hH
      intro G9 s9 v9 h9
      refine ax_iload_n (i := 3) dX12_odds_83 rfl rfl ?_
      refine ax_i2l dX12_odds_84 ?_
      refine ax_top (congrArg Value.long (nI_l (by omega))) ?_
      refine ax_ldc2 dX12_odds_85 wk_X12_302 ?_
      refine ax_iload_n (i := 2) dX12_odds_88 rfl rfl ?_
      refine ax_cSv dX12_odds_89 lk_X12_304 (c_part (odV W p 10) 10 b (by omega) (by omega) (by omega)) rfl rfl (Nat.le_of_ble_eq_true rfl) (Nat.le_of_ble_eq_true rfl) (Nat.le_of_ble_eq_true rfl) (Nat.le_of_ble_eq_true rfl) ?_
      refine ax_lret dX12_odds_92 rfl (Nat.le_of_ble_eq_true rfl) (Nat.le_of_ble_eq_true rfl) ?_
      exact ⟨congrArg (fun z => some (Value.long z)) (Eq.symm (show oddV W (nI p) b = _ from by unfold oddV; rw [if_neg c_5, if_neg c_14, nI_clamp (by omega)]; unfold odR; exact il_eq (b := 10) (by omega) (by decide) (by decide))), rfl, rfl, s9, v9, h9⟩
    · refine ax_ldc2 dX12_odds_17 wk_X12_300 ?_
      refine ax_lret dX12_odds_20 rfl (Nat.le_of_ble_eq_true rfl) (Nat.le_of_ble_eq_true rfl) ?_
      have e9 : oddV W (nI p) b = -9223372036854775808 := by unfold oddV; rw [if_neg c_5, if_pos c_14]
      rw [e9]
      exact ⟨rfl, rfl, rfl, mA_refl, hv, hH⟩
theorem k_meanM {Z : Zt} {G : Gt} {L : Lt} {W : Wv} (hZ : OK Z) (hv : vM G W) (ho : okW W) {H : Hv} (hH : hM G H) (hh : okH W.m H) (a : Int32) : AC mX12_mean 2 0 0 [.ref 75, .int a] Z G L (RP (.long (meaV W a)) (MA Z G L W H)) := by
  refine AC.intro (by decide +kernel) (Nat.le_of_ble_eq_true rfl) ?_
  refine ax_lv [(0, .ref 75), (1, .int a)] ⟨rfl, rfl, trivial⟩ ?_
  obtain ⟨e, s, e4, s4, he, hs4, -⟩ := sc_n ho
  have hsub : 4 - nI e = nI (4 - e) := pk_sub (a := 4) (by omega)
  refine ax_iconst (v := 4) dX12_mean_0 (by decide) ?_
  refine ax_aload_n (i := 0) dX12_mean_1 rfl rfl ?_
  refine ax_cVv dX12_mean_2 lk_X12_262 (c_X12_even hZ) rfl (OKs hZ rfl) ⟨_, rfl, rfl⟩ rfl (Nat.le_of_ble_eq_true rfl) (Nat.le_of_ble_eq_true rfl) (Nat.le_of_ble_eq_true rfl) (Nat.le_of_ble_eq_true rfl) ?_
  refine ax_top (congrArg Value.int (evenB_congr (g := W.gr) 4 (fun q hq => hv.2.2.2.1 q hq))) ?_
  refine ax_cSv dX12_mean_5 lk_X12_240 (c_bitCount (evenB W.gr 4)) rfl rfl (Nat.le_of_ble_eq_true rfl) (Nat.le_of_ble_eq_true rfl) (Nat.le_of_ble_eq_true rfl) (Nat.le_of_ble_eq_true rfl) ?_
  refine ax_top (congrArg Value.int he) ?_
  refine ax_isub dX12_mean_8 ?_
  refine ax_top (congrArg Value.int hsub) ?_
  refine ax_istore_n (i := 2) dX12_mean_9 rfl (by decide) rfl ?_
  refine ax_iload_n (i := 1) dX12_mean_10 rfl rfl ?_
  refine ax_iconst (v := 0) dX12_mean_11 (by decide) ?_
  refine ax_iconst (v := 1) dX12_mean_12 (by decide) ?_
  refine ax_cSv dX12_mean_13 lk_X12_117 (c_X12_within a 0 1) rfl rfl (Nat.le_of_ble_eq_true rfl) (Nat.le_of_ble_eq_true rfl) (Nat.le_of_ble_eq_true rfl) (Nat.le_of_ble_eq_true rfl) ?_
  refine ax_if_eq (tgt := 23) dX12_mean_16 (by decide) (fun c_16 => ?_) (fun c_16 => ?_)
  · refine ax_ldc2 dX12_mean_23 wk_X12_300 ?_
    refine ax_goto (tgt := 40) dX12_mean_26 (by decide) ?_
    refine ax_lret dX12_mean_40 rfl (Nat.le_of_ble_eq_true rfl) (Nat.le_of_ble_eq_true rfl) ?_
    exact ⟨congrArg (fun z => some (Value.long z)) (Eq.symm (show meaV W a = _ from by unfold meaV; rw [if_pos c_16])), rfl, rfl, mA_refl, hv, hH⟩
  · refine ax_iload_n (i := 2) dX12_mean_19 rfl rfl ?_
    refine ax_if_ne (tgt := 29) dX12_mean_20 (by decide) (fun c_20 => ?_) (fun c_20 => ?_)
    · have h0 : 0 < 4 - e := Nat.pos_of_ne_zero (fun z => c_20 (by rw [z]; rfl))
      refine ax_aload_n (i := 0) dX12_mean_29 rfl rfl ?_
      refine ax_cVv dX12_mean_30 lk_X12_265 (c_X12_allGrief hZ) rfl (OKs hZ rfl) ⟨_, rfl, rfl⟩ rfl (Nat.le_of_ble_eq_true rfl) (Nat.le_of_ble_eq_true rfl) (Nat.le_of_ble_eq_true rfl) (Nat.le_of_ble_eq_true rfl) ?_
      refine ax_top (congrArg Value.int ((sumB_congr (g := W.gr) 4 (fun q hq => hv.2.2.2.1 q hq)).trans hs4)) ?_
      refine ax_i2l dX12_mean_33 ?_
      refine ax_top (congrArg Value.long (nI_l (by omega))) ?_
      refine ax_iload_n (i := 2) dX12_mean_34 rfl rfl ?_
      refine ax_i2l dX12_mean_35 ?_
      refine ax_top (congrArg Value.long (nI_l (by omega))) ?_
      refine ax_iload_n (i := 1) dX12_mean_36 rfl rfl ?_
      refine ax_cSv dX12_mean_37 lk_X12_304 (c_part s (4 - e) a (by omega) (by omega) (by omega)) rfl rfl (Nat.le_of_ble_eq_true rfl) (Nat.le_of_ble_eq_true rfl) (Nat.le_of_ble_eq_true rfl) (Nat.le_of_ble_eq_true rfl) ?_
      refine ax_lret dX12_mean_40 rfl (Nat.le_of_ble_eq_true rfl) (Nat.le_of_ble_eq_true rfl) ?_
      exact ⟨congrArg (fun z => some (Value.long z)) (Eq.symm (show meaV W a = _ from by unfold meaV; rw [if_neg c_16, he, hsub, if_neg c_20, hs4]; exact il_eq (by omega) h0 (by omega))), rfl, rfl, mA_refl, hv, hH⟩
    · refine ax_ldc2 dX12_mean_23 wk_X12_300 ?_
      refine ax_goto (tgt := 40) dX12_mean_26 (by decide) ?_
      refine ax_lret dX12_mean_40 rfl (Nat.le_of_ble_eq_true rfl) (Nat.le_of_ble_eq_true rfl) ?_
      exact ⟨congrArg (fun z => some (Value.long z)) (Eq.symm (show meaV W a = _ from by unfold meaV; rw [if_neg c_16, he, hsub, if_pos c_20])), rfl, rfl, mA_refl, hv, hH⟩
theorem l_endsM {Z : Zt} {G0 : Gt} {L : Lt} {Q : Qt} {W : Wv} (hZ : OK Z) (ho : okW W) {H : Hv} (hH : hM G0 H) (hh : okH W.m H) (hm : W.mm + 20 < 20000) (a : Int32) (hend : ∀ G : Gt, mS G0 G → vM G (acV W H H.np) → AX none mX12_ends 6 0 0 0 0 112 [(0, .ref 75), (1, .int a)] [] Z G L Q) : ∀ (r q : Nat), q ≤ H.np → H.np - q < r → ∀ G : Gt, mS G0 G → vM G (acV W H q) → AX none mX12_ends 6 0 0 0 0 21 [(0, .ref 75), (1, .int a), (2, .int (nI q))] [] Z G L Q := by
  have hm6 := ho.1
  have hn10 := hh.2.2.1
  intro r
  induction r with
  | zero => intro q h1 h2; omega
  | succ r ih =>
    intro q h1 h2 G hs9 hv9
    refine ax_iload_n (i := 2) dX12_ends_21 rfl rfl ?_
    refine ax_aload_n (i := 0) dX12_ends_22 rfl rfl ?_
    refine ax_getI dX12_ends_23 fl_X12_308 rfl (OKs hZ rfl) ?_
    refine ax_top (congrArg Value.int (mS_hM hs9 hH).2.1.1) ?_
    refine ax_icmp_ge (tgt := 112) dX12_ends_26 (by decide) (fun c_26 => ?_) (fun c_26 => ?_)
    · obtain rfl : q = H.np := by have := (nI_leI (by omega) (by omega)).mp (show nI H.np ≤ nI q from c_26); omega
      exact ax_lv [(0, .ref 75), (1, .int a)] ⟨rfl, rfl, trivial⟩ (hend G hs9 hv9)
    · have hqm : q < H.np := by have := mt (nI_leI (by omega) (by omega)).mpr (show ¬ nI H.np ≤ nI q from c_26); omega
      have hq10 : q < 10 := by omega
      have hp4 := (hh.2.2.2.1 q hqm).1
      obtain ⟨ok9, em9, emm9⟩ := acV_ok ho hm hh q (by omega)
      refine ax_aload_n (i := 0) dX12_ends_29 rfl rfl ?_
      refine ax_getR dX12_ends_30 fl_X12_76 rfl (OKs hZ rfl) (OKr hZ rfl) ?_
      refine ax_iload_n (i := 2) dX12_ends_33 rfl rfl ?_
      refine ax_ialdN q dX12_ends_34 (OKs hZ rfl) rfl hq10 (by decide) ?_
      refine ax_top (congrArg Value.int ((mS_hM hs9 hH).2.1.2 q hqm).2) ?_
      refine ax_istore_n (i := 3) dX12_ends_35 rfl (by decide) rfl ?_
      refine ax_aload_n (i := 0) dX12_ends_36 rfl rfl ?_
      refine ax_getR dX12_ends_37 fl_X12_73 rfl (OKs hZ rfl) (OKr hZ rfl) ?_
      refine ax_iload_n (i := 2) dX12_ends_40 rfl rfl ?_
      refine ax_ialdN q dX12_ends_41 (OKs hZ rfl) rfl hq10 (by decide) ?_
      refine ax_top (congrArg Value.int ((mS_hM hs9 hH).2.1.2 q hqm).1) ?_
      refine ax_if_ne (tgt := 52) dX12_ends_42 (by decide) (fun c_42 => ?_) (fun c_42 => ?_)
      · have a0 : ¬ H.p0 q = 0 := fun z => c_42 (by rw [z]; rfl)
        have hpm := (hh.2.2.2.1 q hqm).2 a0
        have hp6 : H.p1 q < 6 := by omega
        refine ax_aload_n (i := 0) dX12_ends_52 rfl rfl ?_
        refine ax_getR dX12_ends_53 fl_X12_73 rfl (OKs hZ rfl) (OKr hZ rfl) ?_
        refine ax_iload_n (i := 2) dX12_ends_56 rfl rfl ?_
        refine ax_ialdN q dX12_ends_57 (OKs hZ rfl) rfl hq10 (by decide) ?_
        refine ax_top (congrArg Value.int ((mS_hM hs9 hH).2.1.2 q hqm).1) ?_
        refine ax_iconst (v := 2) dX12_ends_58 (by decide) ?_
        refine ax_icmp_ne (tgt := 72) dX12_ends_59 (by decide) (fun c_59 => ?_) (fun c_59 => ?_)
        · have a2 : ¬ H.p0 q = 2 := fun z => c_59 (by rw [z]; rfl)
          refine ax_aload_n (i := 0) dX12_ends_72 rfl rfl ?_
          refine ax_getR dX12_ends_73 fl_X12_73 rfl (OKs hZ rfl) (OKr hZ rfl) ?_
          refine ax_iload_n (i := 2) dX12_ends_76 rfl rfl ?_
          refine ax_ialdN q dX12_ends_77 (OKs hZ rfl) rfl hq10 (by decide) ?_
          refine ax_top (congrArg Value.int ((mS_hM hs9 hH).2.1.2 q hqm).1) ?_
          refine ax_iconst (v := 3) dX12_ends_78 (by decide) ?_
          refine ax_icmp_ne (tgt := 92) dX12_ends_79 (by decide) (fun c_79 => ?_) (fun c_79 => ?_)
          · have a3 : ¬ H.p0 q = 3 := fun z => c_79 (by rw [z]; rfl)
            refine ax_aload_n (i := 0) dX12_ends_92 rfl rfl ?_
            refine ax_getR dX12_ends_93 fl_X12_33 rfl (OKs hZ rfl) (OKr hZ rfl) ?_
            refine ax_iload_n (i := 3) dX12_ends_96 rfl rfl ?_
            refine ax_ialdN (H.p1 q) dX12_ends_97 (OKs hZ rfl) rfl hp6 (by decide) ?_
            refine ax_top (congrArg Value.int (show G 83 (H.p1 q) = (acV W H q).C (H.p1 q) 5 from (hv9.2.2.1 (H.p1 q) (by rw [em9]; exact hpm)).1 5 (by decide))) ?_
            refine ax_if_ne (tgt := 106) dX12_ends_98 (by decide) (fun c_98 => ?_) (fun c_98 => ?_)
            · refine ax_iinc (v := (nI q) + 1) dX12_ends_106 rfl rfl (by decide) rfl ?_
              refine ax_goto (tgt := 21) dX12_ends_109 (by decide) ?_
              refine ax_lv [(0, .ref 75), (1, .int a), (2, .int (nI (q + 1)))] ⟨rfl, rfl, sI (nI_1 q), trivial⟩ ?_
              exact ih (q + 1) (by omega) (by omega) _ hs9 (by rw [acV, ac1, if_neg a0, if_neg a2, if_neg a3, if_neg c_98]; exact hv9)
            · refine ax_aload_n (i := 0) dX12_ends_101 rfl rfl ?_
              refine ax_iload_n (i := 3) dX12_ends_102 rfl rfl ?_
              refine ax_cVq0 dX12_ends_103 lk_X12_142 (k_lights hZ hv9 ok9 (H.p1 q) (by rw [em9]; exact hpm)) rfl (OKs hZ rfl) ⟨_, rfl, rfl⟩ rfl (Nat.le_of_ble_eq_true rfl) (Nat.le_of_ble_eq_true rfl) (Nat.le_of_ble_eq_true rfl) (Nat.le_of_ble_eq_true rfl) ?_
              rintro _ G1 _ ⟨rfl, rfl, m'1, v1⟩
              have m1 := mS_tr hs9 m'1
              refine ax_iinc (v := (nI q) + 1) dX12_ends_106 rfl rfl (by decide) rfl ?_
              refine ax_goto (tgt := 21) dX12_ends_109 (by decide) ?_
              refine ax_lv [(0, .ref 75), (1, .int a), (2, .int (nI (q + 1)))] ⟨rfl, rfl, sI (nI_1 q), trivial⟩ ?_
              exact ih (q + 1) (by omega) (by omega) _ m1 (by rw [acV, ac1, if_neg a0, if_neg a2, if_neg a3, if_pos c_98]; exact v1)
          · have a3 : H.p0 q = 3 := (nI_eq (by omega) (by decide)).mp (show nI (H.p0 q) = nI 3 from c_79)
            refine ax_aload_n (i := 0) dX12_ends_82 rfl rfl ?_
            refine ax_getR dX12_ends_83 fl_X12_33 rfl (OKs hZ rfl) (OKr hZ rfl) ?_
            refine ax_iload_n (i := 3) dX12_ends_86 rfl rfl ?_
            refine ax_iconst (v := 0) dX12_ends_87 (by decide) ?_
            refine ax_iastN (H.p1 q) dX12_ends_88 (OKs hZ rfl) rfl hp6 (by decide) ?_
            have vs := vM_set (c := 5) (p := H.p1 q) (x := 0) hv9 (by decide)
            have ms9 := mS_tr hs9 (mS_up (G := G) (a := 83) (i := H.p1 q) (x := 0) (by decide))
            refine ax_goto (tgt := 106) dX12_ends_89 (by decide) ?_
            refine ax_iinc (v := (nI q) + 1) dX12_ends_106 rfl rfl (by decide) rfl ?_
            refine ax_goto (tgt := 21) dX12_ends_109 (by decide) ?_
            refine ax_lv [(0, .ref 75), (1, .int a), (2, .int (nI (q + 1)))] ⟨rfl, rfl, sI (nI_1 q), trivial⟩ ?_
            exact ih (q + 1) (by omega) (by omega) _ ms9 (by rw [acV, ac1, if_neg a0, if_neg a2, if_pos a3]; exact vs)
        · have a2 : H.p0 q = 2 := (nI_eq (by omega) (by decide)).mp (show nI (H.p0 q) = nI 2 from c_59)
          refine ax_aload_n (i := 0) dX12_ends_62 rfl rfl ?_
          refine ax_getR dX12_ends_63 fl_X12_30 rfl (OKs hZ rfl) (OKr hZ rfl) ?_
          refine ax_iload_n (i := 3) dX12_ends_66 rfl rfl ?_
          refine ax_iconst (v := 0) dX12_ends_67 (by decide) ?_
          refine ax_iastN (H.p1 q) dX12_ends_68 (OKs hZ rfl) rfl hp6 (by decide) ?_
          have vs := vM_set (c := 4) (p := H.p1 q) (x := 0) hv9 (by decide)
          have ms9 := mS_tr hs9 (mS_up (G := G) (a := 82) (i := H.p1 q) (x := 0) (by decide))
          refine ax_goto (tgt := 106) dX12_ends_69 (by decide) ?_
          refine ax_iinc (v := (nI q) + 1) dX12_ends_106 rfl rfl (by decide) rfl ?_
          refine ax_goto (tgt := 21) dX12_ends_109 (by decide) ?_
          refine ax_lv [(0, .ref 75), (1, .int a), (2, .int (nI (q + 1)))] ⟨rfl, rfl, sI (nI_1 q), trivial⟩ ?_
          exact ih (q + 1) (by omega) (by omega) _ ms9 (by rw [acV, ac1, if_neg a0, if_pos a2]; exact vs)
      · have a0 : H.p0 q = 0 := (nI_eq (by omega) (by decide)).mp (show nI (H.p0 q) = nI 0 from c_42)
        refine ax_aload_n (i := 0) dX12_ends_45 rfl rfl ?_
        refine ax_cVq0 dX12_ends_46 lk_X12_268 (k_goesMinute hZ hv9 ok9) rfl (OKs hZ rfl) ⟨_, rfl, rfl⟩ rfl (Nat.le_of_ble_eq_true rfl) (Nat.le_of_ble_eq_true rfl) (Nat.le_of_ble_eq_true rfl) (Nat.le_of_ble_eq_true rfl) ?_
        rintro _ G1 _ ⟨rfl, rfl, m'1, v1⟩
        have m1 := mS_tr hs9 m'1
        refine ax_goto (tgt := 106) dX12_ends_49 (by decide) ?_
        refine ax_iinc (v := (nI q) + 1) dX12_ends_106 rfl rfl (by decide) rfl ?_
        refine ax_goto (tgt := 21) dX12_ends_109 (by decide) ?_
        refine ax_lv [(0, .ref 75), (1, .int a), (2, .int (nI (q + 1)))] ⟨rfl, rfl, sI (nI_1 q), trivial⟩ ?_
        exact ih (q + 1) (by omega) (by omega) _ m1 (by rw [acV, ac1, if_pos a0]; exact v1)
theorem k_endsM {Z : Zt} {G : Gt} {L : Lt} {W : Wv} (hZ : OK Z) (hv : vM G W) (ho : okW W) {H : Hv} (hH : hM G H) (hh : okH W.m H) (hm : W.mm + 20 < 20000) (a : Int32) : AC mX12_ends 6 0 0 [.ref 75, .int a] Z G L (RP (.int (endV W H a)) (MA Z G L W H)) := by
  refine AC.intro (by decide +kernel) (Nat.le_of_ble_eq_true rfl) ?_
  refine ax_lv [(0, .ref 75), (1, .int a)] ⟨rfl, rfl, trivial⟩ ?_
  refine ax_iload_n (i := 1) dX12_ends_0 rfl rfl ?_
  refine ax_iconst (v := 0) dX12_ends_1 (by decide) ?_
  refine ax_iconst (v := 1) dX12_ends_2 (by decide) ?_
  refine ax_cSv dX12_ends_3 lk_X12_117 (c_X12_within a 0 1) rfl rfl (Nat.le_of_ble_eq_true rfl) (Nat.le_of_ble_eq_true rfl) (Nat.le_of_ble_eq_true rfl) (Nat.le_of_ble_eq_true rfl) ?_
  refine ax_if_ne (tgt := 11) dX12_ends_6 (by decide) (fun c_6 => ?_) (fun c_6 => ?_)
  · refine ax_aload_n (i := 0) dX12_ends_11 rfl rfl ?_
    refine ax_aload_n (i := 0) dX12_ends_12 rfl rfl ?_
    refine ax_getR dX12_ends_13 fl_X12_91 rfl (OKs hZ rfl) (OKr hZ rfl) ?_
    refine ax_cVq0 dX12_ends_16 lk_X12_271 (k_keep hZ (Or.inr rfl) hv ho.1 hH hh) rfl (OKs hZ rfl) ⟨_, rfl, rfl⟩ rfl (Nat.le_of_ble_eq_true rfl) (Nat.le_of_ble_eq_true rfl) (Nat.le_of_ble_eq_true rfl) (Nat.le_of_ble_eq_true rfl) ?_
    rintro _ G1 _ ⟨rfl, rfl, f1, i1⟩
    have v1 := vM_keep hv (fun a x y => f1 a (by omega)) (fun i _ => by rw [f1 75 (by decide)])
    have a1 := mA_tr mA_refl (mA_102 f1)
    refine ax_iconst (v := 0) dX12_ends_19 (by decide) ?_
    refine ax_istore_n (i := 2) dX12_ends_20 rfl (by decide) rfl ?_
    refine ax_lv [(0, .ref 75), (1, .int a), (2, .int (nI 0))] ⟨rfl, rfl, rfl, trivial⟩ ?_
    have hH1 : hM G1 H := hM_keep hH (fun i _ => by rw [f1 75 (by decide)]) (fun a x y => f1 a (by omega))
    obtain ⟨ok9, em9, emm9⟩ := acV_ok ho hm hh H.np (Nat.le_refl _)
    refine l_endsM (G0 := G1) hZ ho hH1 hh hm a ?_ (H.np + 1) 0 (by omega) (by omega) G1 mS_refl v1
    intro G9 s9 v9
    refine ax_iload_n (i := 1) dX12_ends_112 rfl rfl ?_
    refine ax_if_ne (tgt := 123) dX12_ends_113 (by decide) (fun c_113 => ?_) (fun c_113 => ?_)
    · refine ax_aload_n (i := 0) dX12_ends_123 rfl rfl ?_
      refine ax_iconst (v := 2) dX12_ends_124 (by decide) ?_
      refine ax_cVv dX12_ends_125 lk_X12_237 (c_X12_areSo hZ ho.1 (v9.1.trans (by rw [em9])) 2) rfl (OKs hZ rfl) ⟨_, rfl, rfl⟩ rfl (Nat.le_of_ble_eq_true rfl) (Nat.le_of_ble_eq_true rfl) (Nat.le_of_ble_eq_true rfl) (Nat.le_of_ble_eq_true rfl) ?_
      refine ax_top (congrArg Value.int (inB_congr (g := fun p => (acV W H H.np).C p 5) W.m (fun q hq => (v9.2.2.1 q (by rw [em9]; exact hq)).1 5 (by decide)))) ?_
      refine ax_istore_n (i := 2) dX12_ends_128 rfl (by decide) rfl ?_
      refine ax_aload_n (i := 0) dX12_ends_129 rfl rfl ?_
      refine ax_aload_n (i := 0) dX12_ends_130 rfl rfl ?_
      refine ax_getR dX12_ends_131 fl_X12_91 rfl (OKs hZ rfl) (OKr hZ rfl) ?_
      refine ax_cVq0 dX12_ends_134 lk_X12_275 (k_again hZ (Or.inr rfl) ho.1 hh (mS_iM s9 (by decide) i1)) rfl (OKs hZ rfl) ⟨_, rfl, rfl⟩ rfl (Nat.le_of_ble_eq_true rfl) (Nat.le_of_ble_eq_true rfl) (Nat.le_of_ble_eq_true rfl) (Nat.le_of_ble_eq_true rfl) ?_
      rintro _ G2 _ ⟨rfl, rfl, a'2, v2, h2⟩
      have a2 := mA_tr a1 (mA_tr (mS_mA s9) a'2)
      refine ax_iload_n (i := 2) dX12_ends_137 rfl rfl ?_
      refine ax_iret dX12_ends_138 rfl rfl (Nat.le_of_ble_eq_true rfl) (Nat.le_of_ble_eq_true rfl) ?_
      exact ⟨congrArg (fun z => some (Value.int z)) (Eq.symm (show endV W H a = _ from by unfold endV; rw [if_neg c_6]; first | rw [if_pos c_113] | rw [if_neg c_113])), rfl, rfl, a2, v2, h2⟩
    · refine ax_aload_n (i := 0) dX12_ends_116 rfl rfl ?_
      refine ax_cVv dX12_ends_117 lk_X12_265 (c_X12_allGrief hZ) rfl (OKs hZ rfl) ⟨_, rfl, rfl⟩ rfl (Nat.le_of_ble_eq_true rfl) (Nat.le_of_ble_eq_true rfl) (Nat.le_of_ble_eq_true rfl) (Nat.le_of_ble_eq_true rfl) ?_
      refine ax_top (congrArg Value.int (sumB_congr (g := (acV W H H.np).gr) 4 (fun q hq => v9.2.2.2.1 q hq))) ?_
      refine ax_goto (tgt := 128) dX12_ends_120 (by decide) ?_
      refine ax_istore_n (i := 2) dX12_ends_128 rfl (by decide) rfl ?_
      refine ax_aload_n (i := 0) dX12_ends_129 rfl rfl ?_
      refine ax_aload_n (i := 0) dX12_ends_130 rfl rfl ?_
      refine ax_getR dX12_ends_131 fl_X12_91 rfl (OKs hZ rfl) (OKr hZ rfl) ?_
      refine ax_cVq0 dX12_ends_134 lk_X12_275 (k_again hZ (Or.inr rfl) ho.1 hh (mS_iM s9 (by decide) i1)) rfl (OKs hZ rfl) ⟨_, rfl, rfl⟩ rfl (Nat.le_of_ble_eq_true rfl) (Nat.le_of_ble_eq_true rfl) (Nat.le_of_ble_eq_true rfl) (Nat.le_of_ble_eq_true rfl) ?_
      rintro _ G2 _ ⟨rfl, rfl, a'2, v2, h2⟩
      have a2 := mA_tr a1 (mA_tr (mS_mA s9) a'2)
      refine ax_iload_n (i := 2) dX12_ends_137 rfl rfl ?_
      refine ax_iret dX12_ends_138 rfl rfl (Nat.le_of_ble_eq_true rfl) (Nat.le_of_ble_eq_true rfl) ?_
      exact ⟨congrArg (fun z => some (Value.int z)) (Eq.symm (show endV W H a = _ from by unfold endV; rw [if_neg c_6]; first | rw [if_pos c_113] | rw [if_neg c_113])), rfl, rfl, a2, v2, h2⟩
  · refine ax_iconst (v := (-1)) dX12_ends_9 (by decide) ?_
    refine ax_iret dX12_ends_10 rfl rfl (Nat.le_of_ble_eq_true rfl) (Nat.le_of_ble_eq_true rfl) ?_
    have e9 : endV W H a = -1 := by unfold endV; rw [if_pos c_6]
    rw [e9]
    exact ⟨rfl, rfl, rfl, mA_refl, hv, hH⟩
