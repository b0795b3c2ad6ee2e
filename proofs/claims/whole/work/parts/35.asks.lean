-- ===== contracts: what is asked of the class =====
theorem ntz_G {G G' : Gt} {L L' : Lt} {a : Int32} : r_ntz G L a = r_ntz G' L' a := rfl
def ntz (a : Int32) : Int32 := r_ntz (fun _ _ => 0) (fun _ _ => 0) a
def canR (W : Wv) (H : Hv) (p : Nat) (b : Int32) : Int32 := if b = 0 then bc (fiV W H p 1 10) else if fiV W H p 1 10 = 0 then -5 else ntz (fiV W H p 1 10)
def canV (W : Wv) (H : Hv) (a b : Int32) : Int32 := if wi a 0 (nI W.m - 1) = 0 then -1 else if wi b 0 1 = 0 then -1 else canR W H a.toNatClampNeg b
def ilV : Nat → Int32 → Int32 → Int32
  | 0, x, _ => x
  | r + 1, x, y => if y = 0 then x else ilV r y (x - x / y * y)
def ilR (a b c : Int32) : Int64 := if ilV 64 b a = 0 then -9223372036854775808 else if c = 0 then (a / ilV 64 b a).toInt64 else (b / ilV 64 b a).toInt64
def odR (W : Wv) (p : Nat) (b : Int32) : Int64 := ilR (nI (odV W p 10)) 10 b
def oddV (W : Wv) (a b : Int32) : Int64 := if wi a 0 (nI W.m - 1) = 0 then -9223372036854775808 else if wi b 0 1 = 0 then -9223372036854775808 else odR W a.toNatClampNeg b
def meaV (W : Wv) (a : Int32) : Int64 := if wi a 0 1 = 0 then -9223372036854775808 else if 4 - bc (evenB W.gr 4) = 0 then -9223372036854775808 else ilR (sumB W.gr 4) (4 - bc (evenB W.gr 4)) a
def endV (W : Wv) (H : Hv) (a : Int32) : Int32 := if wi a 0 1 = 0 then -1 else if a = 0 then sumB (acV W H H.np).gr 4 else inB (fun p => (acV W H H.np).C p 5) 2 W.m
theorem c_can {Z : Zt} {G : Gt} {L : Lt} {W : Wv} (hZ : OK Z) (hv : vC Z G 24 W) (ho : okW W) {H : Hv} (hH : hC G 24 H) (hh : okH W.m H) (hm : W.mm + 20 < 20000) (a b : Int32) : AC mX11_can 8 0 0 [.ref 0, .int a, .int b] Z G L (RP (.int (canV W H a b)) (TP Z G L)) := by
  refine AC.intro (by decide +kernel) (Nat.le_of_ble_eq_true rfl) ?_
  refine ax_lv [(0, .ref 0), (1, .int a), (2, .int b)] ⟨rfl, rfl, rfl, trivial⟩ ?_
  refine ax_aload_n (i := 0) dX11_can_0 rfl rfl ?_
  refine ax_getR dX11_can_1 fl_X11_14 rfl (OKs hZ rfl) (OKr hZ rfl) ?_
  refine ax_iload_n (i := 1) dX11_can_4 rfl rfl ?_
  refine ax_cVv dX11_can_5 lk_X11_65 (k_has (isW24 hZ) (trP_vC (trP_refl (Z := Z) (G := G)) hv ho.1 (Or.inl rfl)) a) rfl (OKs hZ rfl) ⟨_, rfl, rfl⟩ rfl (Nat.le_of_ble_eq_true rfl) (Nat.le_of_ble_eq_true rfl) (Nat.le_of_ble_eq_true rfl) (Nat.le_of_ble_eq_true rfl) ?_
  refine ax_if_eq (tgt := 19) dX11_can_8 (by decide) (fun c_8 => ?_) (fun c_8 => ?_)
  · refine ax_iconst (v := (-1)) dX11_can_19 (by decide) ?_
    refine ax_iret dX11_can_20 rfl rfl (Nat.le_of_ble_eq_true rfl) (Nat.le_of_ble_eq_true rfl) ?_
    exact ⟨congrArg (fun z => some (Value.int z)) (Eq.symm (by unfold canV; (try rw [if_pos c_8]); (try rw [nI_clamp (by omega)]); (try unfold canR); (try rw [if_pos c_8]); first | done | rfl)), rfl, (trP_refl (Z := Z) (G := G))⟩
  · obtain ⟨p, hp, rfl⟩ := has_p ho.1 c_8
    have hp6 : p < 6 := by have := ho.1; omega
    refine ax_iload_n (i := 2) dX11_can_11 rfl rfl ?_
    refine ax_iconst (v := 1) dX11_can_12 (by decide) ?_
    refine ax_cSv dX11_can_13 lk_X11_53 (c_X11_within b 1) rfl rfl (Nat.le_of_ble_eq_true rfl) (Nat.le_of_ble_eq_true rfl) (Nat.le_of_ble_eq_true rfl) (Nat.le_of_ble_eq_true rfl) ?_
    refine ax_if_ne (tgt := 21) dX11_can_16 (by decide) (fun c_16 => ?_) (fun c_16 => ?_)
    · refine ax_aload_n (i := 0) dX11_can_21 rfl rfl ?_
      refine ax_iload_n (i := 1) dX11_can_22 rfl rfl ?_
      refine ax_iconst (v := 1) dX11_can_23 (by decide) ?_
      refine ax_bipush (v := 9) dX11_can_24 (by decide) ?_
      refine ax_cVq dX11_can_26 lk_X11_83 (c_fitting hZ (trP_vC (trP_refl (Z := Z) (G := G)) hv ho.1 (Or.inl rfl)) ho (trP_hC (trP_refl (Z := Z) (G := G)) hH (Or.inl rfl)) hh hm p 1 9 (by decide) hp (Or.inl rfl)) rfl (OKs hZ rfl) ⟨_, rfl, rfl⟩ rfl (Nat.le_of_ble_eq_true rfl) (Nat.le_of_ble_eq_true rfl) (Nat.le_of_ble_eq_true rfl) (Nat.le_of_ble_eq_true rfl) ?_
      rintro Z1 G1 _ ⟨rfl, t'1⟩
      have t1 := trP_trans (trP_refl (Z := Z) (G := G)) t'1
      refine ax_istore_n (i := 3) dX11_can_29 rfl (by decide) rfl ?_
      refine ax_iload_n (i := 2) dX11_can_30 rfl rfl ?_
      refine ax_if_ne (tgt := 39) dX11_can_31 (by decide) (fun c_31 => ?_) (fun c_31 => ?_)
      · refine ax_iload_n (i := 3) dX11_can_39 rfl rfl ?_
        refine ax_if_ne (tgt := 48) dX11_can_40 (by decide) (fun c_40 => ?_) (fun c_40 => ?_)
        · refine ax_iload_n (i := 3) dX11_can_48 rfl rfl ?_
          refine ax_cSv dX11_can_49 lk_X11_207 (c_ntz (fiV W H p 1 10)) rfl rfl (Nat.le_of_ble_eq_true rfl) (Nat.le_of_ble_eq_true rfl) (Nat.le_of_ble_eq_true rfl) (Nat.le_of_ble_eq_true rfl) ?_
          refine ax_iret dX11_can_52 rfl rfl (Nat.le_of_ble_eq_true rfl) (Nat.le_of_ble_eq_true rfl) ?_
          exact ⟨congrArg (fun z => some (Value.int z)) (Eq.symm (by unfold canV; (try rw [if_neg c_8]); (try rw [if_neg c_16]); (try rw [if_neg c_31]); (try rw [if_neg c_40]); (try rw [nI_clamp (by omega)]); (try unfold canR); (try rw [if_neg c_8]); (try rw [if_neg c_16]); (try rw [if_neg c_31]); (try rw [if_neg c_40]); first | done | rfl)), rfl, t1⟩
        · refine ax_bipush (v := (-5)) dX11_can_43 (by decide) ?_
          refine ax_goto (tgt := 52) dX11_can_45 (by decide) ?_
          refine ax_iret dX11_can_52 rfl rfl (Nat.le_of_ble_eq_true rfl) (Nat.le_of_ble_eq_true rfl) ?_
          exact ⟨congrArg (fun z => some (Value.int z)) (Eq.symm (by unfold canV; (try rw [if_neg c_8]); (try rw [if_neg c_16]); (try rw [if_neg c_31]); (try rw [if_pos c_40]); (try rw [nI_clamp (by omega)]); (try unfold canR); (try rw [if_neg c_8]); (try rw [if_neg c_16]); (try rw [if_neg c_31]); (try rw [if_pos c_40]); first | done | rfl)), rfl, t1⟩
      · refine ax_iload_n (i := 3) dX11_can_34 rfl rfl ?_
        refine ax_cSv dX11_can_35 lk_X11_176 (c_bitCount (fiV W H p 1 10)) rfl rfl (Nat.le_of_ble_eq_true rfl) (Nat.le_of_ble_eq_true rfl) (Nat.le_of_ble_eq_true rfl) (Nat.le_of_ble_eq_true rfl) ?_
        refine ax_iret dX11_can_38 rfl rfl (Nat.le_of_ble_eq_true rfl) (Nat.le_of_ble_eq_true rfl) ?_
        exact ⟨congrArg (fun z => some (Value.int z)) (Eq.symm (by unfold canV; (try rw [if_neg c_8]); (try rw [if_neg c_16]); (try rw [if_pos c_31]); (try rw [nI_clamp (by omega)]); (try unfold canR); (try rw [if_neg c_8]); (try rw [if_neg c_16]); (try rw [if_pos c_31]); first | done | rfl)), rfl, t1⟩
    · refine ax_iconst (v := (-1)) dX11_can_19 (by decide) ?_
      refine ax_iret dX11_can_20 rfl rfl (Nat.le_of_ble_eq_true rfl) (Nat.le_of_ble_eq_true rfl) ?_
      exact ⟨congrArg (fun z => some (Value.int z)) (Eq.symm (by unfold canV; (try rw [if_neg c_8]); (try rw [if_pos c_16]); (try rw [nI_clamp (by omega)]); (try unfold canR); (try rw [if_neg c_8]); (try rw [if_pos c_16]); first | done | rfl)), rfl, (trP_refl (Z := Z) (G := G))⟩
theorem l_inLowestTerms {Z : Zt} {G : Gt} {L : Lt} {Q : Qt} (a b c : Int32) : ∀ (r k : Nat) (x y : Int32), k + r = 64 → (∀ z, ilV r x y = z → AX none mX11_inLowestTerms 1 0 0 0 0 39 [(0, .int a), (1, .int b), (2, .int c), (3, .int z)] [] Z G L Q) → AX none mX11_inLowestTerms 1 0 0 0 0 8 [(0, .int a), (1, .int b), (2, .int c), (3, .int x), (4, .int y), (5, .int (nI k))] [] Z G L Q := by
  intro r
  induction r with
  | zero =>
    intro k x y h1 hend
    refine ax_iload dX11_inLowestTerms_8 rfl ?_
    refine ax_bipush (v := 64) dX11_inLowestTerms_10 (by decide) ?_
    refine ax_icmp_ge (tgt := 39) dX11_inLowestTerms_12 (by decide) (fun c_12 => ?_) (fun c_12 => ?_)
    · exact ax_lv [(0, .int a), (1, .int b), (2, .int c), (3, .int x)] ⟨rfl, rfl, rfl, rfl, trivial⟩ (hend x rfl)
    · exact absurd (by rw [show k = 64 by omega]; decide) c_12
  | succ r ih =>
    intro k x y h1 hend
    refine ax_iload dX11_inLowestTerms_8 rfl ?_
    refine ax_bipush (v := 64) dX11_inLowestTerms_10 (by decide) ?_
    refine ax_icmp_ge (tgt := 39) dX11_inLowestTerms_12 (by decide) (fun c_12 => ?_) (fun c_12 => ?_)
    · exact absurd c_12 (nI_ge (show k < 64 by omega) (by decide))
    · refine ax_iload dX11_inLowestTerms_15 rfl ?_
      refine ax_if_eq (tgt := 39) dX11_inLowestTerms_17 (by decide) (fun c_17 => ?_) (fun c_17 => ?_)
      · exact ax_lv [(0, .int a), (1, .int b), (2, .int c), (3, .int x)] ⟨rfl, rfl, rfl, rfl, trivial⟩ (hend x (by rw [ilV, if_pos c_17]))
      · refine ax_iload_n (i := 3) dX11_inLowestTerms_20 rfl rfl ?_
        refine ax_iload dX11_inLowestTerms_21 rfl ?_
        refine ax_irem dX11_inLowestTerms_23 c_17 ?_
        refine ax_istore dX11_inLowestTerms_24 (by decide) rfl ?_
        refine ax_iload dX11_inLowestTerms_26 rfl ?_
        refine ax_istore_n (i := 3) dX11_inLowestTerms_28 rfl (by decide) rfl ?_
        refine ax_iload dX11_inLowestTerms_29 rfl ?_
        refine ax_istore dX11_inLowestTerms_31 (by decide) rfl ?_
        refine ax_iinc (v := (nI k) + 1) dX11_inLowestTerms_33 rfl rfl (by decide) rfl ?_
        refine ax_goto (tgt := 8) dX11_inLowestTerms_36 (by decide) ?_
        refine ax_lv [(0, .int a), (1, .int b), (2, .int c), (3, .int y), (4, .int (x - x / y * y)), (5, .int (nI (k + 1)))] ⟨rfl, rfl, rfl, rfl, rfl, sI (nI_1 k), trivial⟩ ?_
        exact ih (k + 1) y (x - x / y * y) (by omega) (fun z hz => hend z (by rw [ilV, if_neg c_17]; exact hz))
theorem c_inLowestTerms {Z : Zt} {G : Gt} {L : Lt} (a b c : Int32) : AC mX11_inLowestTerms 1 0 0 [.int a, .int b, .int c] Z G L (DQ (some (.long (ilR a b c))) Z G L) := by
  refine AC.intro (by decide +kernel) (Nat.le_of_ble_eq_true rfl) ?_
  refine ax_lv [(0, .int a), (1, .int b), (2, .int c)] ⟨rfl, rfl, rfl, trivial⟩ ?_
  refine ax_iload_n (i := 1) dX11_inLowestTerms_0 rfl rfl ?_
  refine ax_istore_n (i := 3) dX11_inLowestTerms_1 rfl (by decide) rfl ?_
  refine ax_iload_n (i := 0) dX11_inLowestTerms_2 rfl rfl ?_
  refine ax_istore dX11_inLowestTerms_3 (by decide) rfl ?_
  refine ax_iconst (v := 0) dX11_inLowestTerms_5 (by decide) ?_
  refine ax_istore dX11_inLowestTerms_6 (by decide) rfl ?_
  refine ax_lv [(0, .int a), (1, .int b), (2, .int c), (3, .int b), (4, .int a), (5, .int (nI 0))] ⟨rfl, rfl, rfl, rfl, rfl, rfl, trivial⟩ ?_
  refine l_inLowestTerms a b c 64 0 b a (by omega) (fun z hz => ?_)
  refine ax_iload_n (i := 3) dX11_inLowestTerms_39 rfl rfl ?_
  refine ax_if_ne (tgt := 47) dX11_inLowestTerms_40 (by decide) (fun c_40 => ?_) (fun c_40 => ?_)
  · refine ax_iload_n (i := 2) dX11_inLowestTerms_47 rfl rfl ?_
    refine ax_if_ne (tgt := 58) dX11_inLowestTerms_48 (by decide) (fun c_48 => ?_) (fun c_48 => ?_)
    · refine ax_iload_n (i := 1) dX11_inLowestTerms_58 rfl rfl ?_
      refine ax_iload_n (i := 3) dX11_inLowestTerms_59 rfl rfl ?_
      refine ax_idiv dX11_inLowestTerms_60 c_40 ?_
      refine ax_i2l dX11_inLowestTerms_61 ?_
      refine ax_lret dX11_inLowestTerms_62 rfl (Nat.le_of_ble_eq_true rfl) (Nat.le_of_ble_eq_true rfl) ?_
      exact ⟨congrArg (fun z => some (Value.long z)) (Eq.symm (by unfold ilR; rw [hz]; (try rw [if_neg c_40]); (try rw [if_neg c_48]); first | done | rfl)), rfl, rfl, rfl⟩
    · refine ax_iload_n (i := 0) dX11_inLowestTerms_51 rfl rfl ?_
      refine ax_iload_n (i := 3) dX11_inLowestTerms_52 rfl rfl ?_
      refine ax_idiv dX11_inLowestTerms_53 c_40 ?_
      refine ax_i2l dX11_inLowestTerms_54 ?_
      refine ax_goto (tgt := 62) dX11_inLowestTerms_55 (by decide) ?_
      refine ax_lret dX11_inLowestTerms_62 rfl (Nat.le_of_ble_eq_true rfl) (Nat.le_of_ble_eq_true rfl) ?_
      exact ⟨congrArg (fun z => some (Value.long z)) (Eq.symm (by unfold ilR; rw [hz]; (try rw [if_neg c_40]); (try rw [if_pos c_48]); first | done | rfl)), rfl, rfl, rfl⟩
  · refine ax_ldc2 dX11_inLowestTerms_43 wk_X11_210 ?_
    refine ax_lret dX11_inLowestTerms_46 rfl (Nat.le_of_ble_eq_true rfl) (Nat.le_of_ble_eq_true rfl) ?_
    exact ⟨congrArg (fun z => some (Value.long z)) (Eq.symm (by unfold ilR; rw [hz]; (try rw [if_pos c_40]); first | done | rfl)), rfl, rfl, rfl⟩
theorem l_odds {Z0 : Zt} {G0 : Gt} {L : Lt} {Q : Qt} {W : Wv} (hZ : OK Z0) (hv : vC Z0 G0 24 W) (ho : okW W) (hm : W.mm + 20 < 20000) (p : Nat) (hp : p < W.m) (b : Int32) (hend : ∀ Z G, trP Z0 G0 Z G → AX none mX11_odds 5 0 0 0 0 93 [(2, .int b), (3, .int (nI (odV W p 10)))] [] Z G L Q) : ∀ (n q : Nat), q ≤ 10 → 10 - q < n → ∀ Z G, trP Z0 G0 Z G → AX none mX11_odds 5 0 0 0 0 28 [(0, .ref 0), (1, .int (nI p)), (2, .int b), (3, .int (nI (odV W p q))), (4, .int (nI q))] [] Z G L Q := by
  intro n
  induction n with
  | zero => intro q h1 h2; omega
  | succ n ih =>
    intro q h1 h2 Z G t9 
    have hZ9 := trP_OK t9 hZ
    refine ax_iload dX11_odds_28 rfl ?_
    refine ax_bipush (v := 9) dX11_odds_30 (by decide) ?_
    refine ax_icmp_gt (tgt := 93) dX11_odds_32 (by decide) (fun c_32 => ?_) (fun c_32 => ?_)
    · obtain rfl : q = 10 := by have := (nI_ltI (by decide) (by omega)).mp (show nI 9 < nI q from c_32); omega
      exact ax_lv [(2, .int b), (3, .int (nI (odV W p 10)))] ⟨rfl, rfl, trivial⟩ (hend _ _ t9)
    · have hqm : q ≤ 9 := (nI_leI (by omega) (by decide)).mp (Int32.not_lt.mp (show ¬ nI 9 < nI q from c_32))
      refine ax_aload_n (i := 0) dX11_odds_35 rfl rfl ?_
      refine ax_getR dX11_odds_36 fl_X11_21 rfl (OKs hZ9 rfl) (OKr hZ9 rfl) ?_
      refine ax_aload_n (i := 0) dX11_odds_39 rfl rfl ?_
      refine ax_getR dX11_odds_40 fl_X11_14 rfl (OKs hZ9 rfl) (OKr hZ9 rfl) ?_
      refine ax_cVq0 dX11_odds_43 lk_X11_162 (k_go hZ9 (trP_vC t9 hv ho.1 (Or.inl rfl)) ho) rfl (OKs hZ9 rfl) ⟨_, rfl, rfl⟩ rfl (Nat.le_of_ble_eq_true rfl) (Nat.le_of_ble_eq_true rfl) (Nat.le_of_ble_eq_true rfl) (Nat.le_of_ble_eq_true rfl) ?_
      rintro Z1 G1 _ ⟨rfl, t'1, v1⟩
      have t1 := trP_trans t9 t'1
      refine ax_aload_n (i := 0) dX11_odds_46 rfl rfl ?_
      refine ax_getR dX11_odds_47 fl_X11_21 rfl (OKs (trP_OK t1 hZ) rfl) (OKr (trP_OK t1 hZ) rfl) ?_
      refine ax_getR dX11_odds_50 fl_X11_104 rfl (OKs (trP_OK t1 hZ) rfl) (OKr (trP_OK t1 hZ) rfl) ?_
      refine ax_aload_n (i := 0) dX11_odds_53 rfl rfl ?_
      refine ax_getR dX11_odds_54 fl_X11_14 rfl (OKs (trP_OK t1 hZ) rfl) (OKr (trP_OK t1 hZ) rfl) ?_
      refine ax_getI dX11_odds_57 fl_X11_143 rfl (OKs (trP_OK t1 hZ) rfl) ?_
      refine ax_top (congrArg Value.int (trP_vC t1 hv ho.1 (Or.inl rfl)).2.1) ?_
      refine ax_iconst (v := 4) dX11_odds_60 (by decide) ?_
      refine ax_irem dX11_odds_61 (by decide) ?_
      refine ax_iload dX11_odds_62 rfl ?_
      refine ax_iastN (W.mm % 4) dX11_odds_64 (OKs (trP_OK t1 hZ) rfl) (rem4 (by omega)) (by omega) (by decide) ?_
      have v1s := vC_rn (q := W.mm % 4) (x := nI q) v1 ho (by decide)
      have t1s := trP_set (c := W.mm % 4) (x := nI q) t1 (show 58 ≤ 67 ∧ 67 < 75 by decide)
      refine ax_aload_n (i := 0) dX11_odds_65 rfl rfl ?_
      refine ax_getR dX11_odds_66 fl_X11_21 rfl (OKs (trP_OK t1s hZ) rfl) (OKr (trP_OK t1s hZ) rfl) ?_
      refine ax_iconst (v := 1) dX11_odds_69 (by decide) ?_
      refine ax_cVq0 dX11_odds_70 lk_X11_158 (k_min (trP_OK t1s hZ) v1s (rnV_ok ho) 1 (by decide) (show W.mm + 1 < 20000 by omega)) rfl (OKs (trP_OK t1s hZ) rfl) ⟨_, rfl, rfl⟩ rfl (Nat.le_of_ble_eq_true rfl) (Nat.le_of_ble_eq_true rfl) (Nat.le_of_ble_eq_true rfl) (Nat.le_of_ble_eq_true rfl) ?_
      rintro Z2 G2 _ ⟨rfl, t'2, v2⟩
      have t2 := trP_trans t1s t'2
      refine ax_aload_n (i := 0) dX11_odds_73 rfl rfl ?_
      refine ax_getR dX11_odds_74 fl_X11_21 rfl (OKs (trP_OK t2 hZ) rfl) (OKr (trP_OK t2 hZ) rfl) ?_
      refine ax_iload_n (i := 1) dX11_odds_77 rfl rfl ?_
      refine ax_cVv dX11_odds_78 lk_X11_69 (k_br (trP_OK t2 hZ) (isW58 (trP_OK t2 hZ)) v2 (minVN_ok 1 (rnV_ok ho) (show W.mm + 1 < 20000 by omega)) p hp) rfl (OKs (trP_OK t2 hZ) rfl) ⟨_, rfl, rfl⟩ rfl (Nat.le_of_ble_eq_true rfl) (Nat.le_of_ble_eq_true rfl) (Nat.le_of_ble_eq_true rfl) (Nat.le_of_ble_eq_true rfl) ?_
      refine ax_if_le (tgt := 87) dX11_odds_81 (by decide) (fun c_81 => ?_) (fun c_81 => ?_)
      · refine ax_iinc (v := (nI q) + 1) dX11_odds_87 rfl rfl (by decide) rfl ?_
        refine ax_goto (tgt := 28) dX11_odds_90 (by decide) ?_
        refine ax_lv [(0, .ref 0), (1, .int (nI p)), (2, .int b), (3, .int (nI (odV W p (q + 1)))), (4, .int (nI (q + 1)))] ⟨rfl, rfl, rfl, sI (by rw [odV, if_pos (show lightV (minV (rnV W (W.mm % 4) (nI q))) p ≤ 0 from c_81)]), sI (nI_1 q), trivial⟩ ?_
        exact ih (q + 1) (by omega) (by omega) _ _ t2
      · refine ax_iinc (v := nI (odV W p q) + 1) dX11_odds_84 rfl rfl (by decide) rfl ?_
        refine ax_iinc (v := (nI q) + 1) dX11_odds_87 rfl rfl (by decide) rfl ?_
        refine ax_goto (tgt := 28) dX11_odds_90 (by decide) ?_
        refine ax_lv [(0, .ref 0), (1, .int (nI p)), (2, .int b), (3, .int (nI (odV W p (q + 1)))), (4, .int (nI (q + 1)))] ⟨rfl, rfl, rfl, sI (by rw [odV, if_neg (show ¬ lightV (minV (rnV W (W.mm % 4) (nI q))) p ≤ 0 from c_81)]; exact nI_1 _), sI (nI_1 q), trivial⟩ ?_
        exact ih (q + 1) (by omega) (by omega) _ _ t2
theorem c_odds {Z : Zt} {G : Gt} {L : Lt} {W : Wv} (hZ : OK Z) (hv : vC Z G 24 W) (ho : okW W) (hm : W.mm + 20 < 20000) (a b : Int32) : AC mX11_odds 5 0 0 [.ref 0, .int a, .int b] Z G L (RP (.long (oddV W a b)) (TP Z G L)) := by
  refine AC.intro (by decide +kernel) (Nat.le_of_ble_eq_true rfl) ?_
  refine ax_lv [(0, .ref 0), (1, .int a), (2, .int b)] ⟨rfl, rfl, rfl, trivial⟩ ?_
  refine ax_aload_n (i := 0) dX11_odds_0 rfl rfl ?_
  refine ax_getR dX11_odds_1 fl_X11_14 rfl (OKs hZ rfl) (OKr hZ rfl) ?_
  refine ax_iload_n (i := 1) dX11_odds_4 rfl rfl ?_
  refine ax_cVv dX11_odds_5 lk_X11_65 (k_has (isW24 hZ) (trP_vC (trP_refl (Z := Z) (G := G)) hv ho.1 (Or.inl rfl)) a) rfl (OKs hZ rfl) ⟨_, rfl, rfl⟩ rfl (Nat.le_of_ble_eq_true rfl) (Nat.le_of_ble_eq_true rfl) (Nat.le_of_ble_eq_true rfl) (Nat.le_of_ble_eq_true rfl) ?_
  refine ax_if_eq (tgt := 19) dX11_odds_8 (by decide) (fun c_8 => ?_) (fun c_8 => ?_)
  · refine ax_ldc2 dX11_odds_19 wk_X11_210 ?_
    refine ax_lret dX11_odds_22 rfl (Nat.le_of_ble_eq_true rfl) (Nat.le_of_ble_eq_true rfl) ?_
    exact ⟨congrArg (fun z => some (Value.long z)) (Eq.symm (by unfold oddV; (try rw [if_pos c_8]); first | done | rfl)), rfl, (trP_refl (Z := Z) (G := G))⟩
  · obtain ⟨p, hp, rfl⟩ := has_p ho.1 c_8
    have hp6 : p < 6 := by have := ho.1; omega
    refine ax_iload_n (i := 2) dX11_odds_11 rfl rfl ?_
    refine ax_iconst (v := 1) dX11_odds_12 (by decide) ?_
    refine ax_cSv dX11_odds_13 lk_X11_53 (c_X11_within b 1) rfl rfl (Nat.le_of_ble_eq_true rfl) (Nat.le_of_ble_eq_true rfl) (Nat.le_of_ble_eq_true rfl) (Nat.le_of_ble_eq_true rfl) ?_
    refine ax_if_ne (tgt := 23) dX11_odds_16 (by decide) (fun c_16 => ?_) (fun c_16 => ?_)
    · refine ax_iconst (v := 0) dX11_odds_23 (by decide) ?_
      refine ax_istore_n (i := 3) dX11_odds_24 rfl (by decide) rfl ?_
      refine ax_iconst (v := 0) dX11_odds_25 (by decide) ?_
      refine ax_istore dX11_odds_26 (by decide) rfl ?_
      refine ax_lv [(0, .ref 0), (1, .int (nI p)), (2, .int b), (3, .int (nI (odV W p 0))), (4, .int (nI 0))] ⟨rfl, rfl, rfl, rfl, rfl, trivial⟩ ?_
      refine l_odds hZ hv ho hm p hp b ?_ 11 0 (by omega) (by omega) _ _ (trP_refl (Z := Z) (G := G))
      intro Z9 G9 t9
      refine ax_iload_n (i := 3) dX11_odds_93 rfl rfl ?_
      refine ax_bipush (v := 10) dX11_odds_94 (by decide) ?_
      refine ax_iload_n (i := 2) dX11_odds_96 rfl rfl ?_
      refine ax_cSv dX11_odds_97 lk_X11_212 (c_inLowestTerms (nI (odV W p 10)) 10 b) rfl rfl (Nat.le_of_ble_eq_true rfl) (Nat.le_of_ble_eq_true rfl) (Nat.le_of_ble_eq_true rfl) (Nat.le_of_ble_eq_true rfl) ?_
      refine ax_lret dX11_odds_100 rfl (Nat.le_of_ble_eq_true rfl) (Nat.le_of_ble_eq_true rfl) ?_
      exact ⟨congrArg (fun z => some (Value.long z)) (Eq.symm (by unfold oddV; rw [if_neg c_8, if_neg c_16, nI_clamp (by omega)]; rfl)), rfl, t9⟩
    · refine ax_ldc2 dX11_odds_19 wk_X11_210 ?_
      refine ax_lret dX11_odds_22 rfl (Nat.le_of_ble_eq_true rfl) (Nat.le_of_ble_eq_true rfl) ?_
      exact ⟨congrArg (fun z => some (Value.long z)) (Eq.symm (by unfold oddV; (try rw [if_neg c_8]); (try rw [if_pos c_16]); first | done | rfl)), rfl, (trP_refl (Z := Z) (G := G))⟩
theorem c_mean {Z : Zt} {G : Gt} {L : Lt} {W : Wv} (hZ : OK Z) (hv : vC Z G 24 W) (ho : okW W) (a : Int32) : AC mX11_mean 2 0 0 [.ref 0, .int a] Z G L (RP (.long (meaV W a)) (TP Z G L)) := by
  refine AC.intro (by decide +kernel) (Nat.le_of_ble_eq_true rfl) ?_
  refine ax_lv [(0, .ref 0), (1, .int a)] ⟨rfl, rfl, trivial⟩ ?_
  refine ax_iconst (v := 4) dX11_mean_0 (by decide) ?_
  refine ax_aload_n (i := 0) dX11_mean_1 rfl rfl ?_
  refine ax_getR dX11_mean_2 fl_X11_14 rfl (OKs hZ rfl) (OKr hZ rfl) ?_
  refine ax_cVv dX11_mean_5 lk_X11_149 (k_even (isW24 hZ) (trP_vC (trP_refl (Z := Z) (G := G)) hv ho.1 (Or.inl rfl))) rfl (OKs hZ rfl) ⟨_, rfl, rfl⟩ rfl (Nat.le_of_ble_eq_true rfl) (Nat.le_of_ble_eq_true rfl) (Nat.le_of_ble_eq_true rfl) (Nat.le_of_ble_eq_true rfl) ?_
  refine ax_cSv dX11_mean_8 lk_X11_176 (c_bitCount (evenB W.gr 4)) rfl rfl (Nat.le_of_ble_eq_true rfl) (Nat.le_of_ble_eq_true rfl) (Nat.le_of_ble_eq_true rfl) (Nat.le_of_ble_eq_true rfl) ?_
  refine ax_isub dX11_mean_11 ?_
  refine ax_istore_n (i := 2) dX11_mean_12 rfl (by decide) rfl ?_
  refine ax_iload_n (i := 1) dX11_mean_13 rfl rfl ?_
  refine ax_iconst (v := 1) dX11_mean_14 (by decide) ?_
  refine ax_cSv dX11_mean_15 lk_X11_53 (c_X11_within a 1) rfl rfl (Nat.le_of_ble_eq_true rfl) (Nat.le_of_ble_eq_true rfl) (Nat.le_of_ble_eq_true rfl) (Nat.le_of_ble_eq_true rfl) ?_
  refine ax_if_eq (tgt := 25) dX11_mean_18 (by decide) (fun c_18 => ?_) (fun c_18 => ?_)
  · refine ax_ldc2 dX11_mean_25 wk_X11_210 ?_
    refine ax_lret dX11_mean_28 rfl (Nat.le_of_ble_eq_true rfl) (Nat.le_of_ble_eq_true rfl) ?_
    exact ⟨congrArg (fun z => some (Value.long z)) (Eq.symm (by unfold meaV; (try rw [if_pos c_18]); first | done | rfl)), rfl, (trP_refl (Z := Z) (G := G))⟩
  · refine ax_iload_n (i := 2) dX11_mean_21 rfl rfl ?_
    refine ax_if_ne (tgt := 29) dX11_mean_22 (by decide) (fun c_22 => ?_) (fun c_22 => ?_)
    · refine ax_aload_n (i := 0) dX11_mean_29 rfl rfl ?_
      refine ax_getR dX11_mean_30 fl_X11_14 rfl (OKs hZ rfl) (OKr hZ rfl) ?_
      refine ax_cVv dX11_mean_33 lk_X11_152 (k_sum (isW24 hZ) (trP_vC (trP_refl (Z := Z) (G := G)) hv ho.1 (Or.inl rfl))) rfl (OKs hZ rfl) ⟨_, rfl, rfl⟩ rfl (Nat.le_of_ble_eq_true rfl) (Nat.le_of_ble_eq_true rfl) (Nat.le_of_ble_eq_true rfl) (Nat.le_of_ble_eq_true rfl) ?_
      refine ax_iload_n (i := 2) dX11_mean_36 rfl rfl ?_
      refine ax_iload_n (i := 1) dX11_mean_37 rfl rfl ?_
      refine ax_cSv dX11_mean_38 lk_X11_212 (c_inLowestTerms (sumB W.gr 4) (4 - (bc (evenB W.gr 4))) a) rfl rfl (Nat.le_of_ble_eq_true rfl) (Nat.le_of_ble_eq_true rfl) (Nat.le_of_ble_eq_true rfl) (Nat.le_of_ble_eq_true rfl) ?_
      refine ax_lret dX11_mean_41 rfl (Nat.le_of_ble_eq_true rfl) (Nat.le_of_ble_eq_true rfl) ?_
      exact ⟨congrArg (fun z => some (Value.long z)) (Eq.symm (by unfold meaV; (try rw [if_neg c_18]); (try rw [if_neg c_22]); first | done | rfl)), rfl, (trP_refl (Z := Z) (G := G))⟩
    · refine ax_ldc2 dX11_mean_25 wk_X11_210 ?_
      refine ax_lret dX11_mean_28 rfl (Nat.le_of_ble_eq_true rfl) (Nat.le_of_ble_eq_true rfl) ?_
      exact ⟨congrArg (fun z => some (Value.long z)) (Eq.symm (by unfold meaV; (try rw [if_neg c_18]); (try rw [if_pos c_22]); first | done | rfl)), rfl, (trP_refl (Z := Z) (G := G))⟩
theorem ni_e {a k : Nat} {x : Int32} (ha : a < 4) (hk : k < 4) (h : nI a = x) (hx : x = nI k) : a = k := (nI_eq (by omega) (by omega)).mp (h.trans hx)
theorem ni_n {a k : Nat} {x : Int32} (h : ¬ nI a = x) (hx : x = nI k) : ¬ a = k := fun e => h (by rw [e, hx])
theorem c_tryPlanned {Z : Zt} {G : Gt} {L : Lt} {W : Wv} (hZ : OK Z) (h58 : vC Z G 58 W) (ho : okW W) (hm : W.mm + 1 < 20000) (a p : Nat) (ha : a < 4) (hp : a ≠ 0 → p < W.m) : AC mX11_tryPlanned 6 0 0 [.ref 0, .int (nI a), .int (nI p)] Z G L (NP (TV Z G L (ac1 W a p))) := by
  refine AC.intro (by decide +kernel) (Nat.le_of_ble_eq_true rfl) ?_
  refine ax_lv [(0, .ref 0), (1, .int (nI a)), (2, .int (nI p))] ⟨rfl, rfl, rfl, trivial⟩ ?_
  refine ax_iload_n (i := 1) dX11_tryPlanned_0 rfl rfl ?_
  refine ax_if_ne (tgt := 15) dX11_tryPlanned_1 (by decide) (fun c_1 => ?_) (fun c_1 => ?_)
  · refine ax_iload_n (i := 1) dX11_tryPlanned_15 rfl rfl ?_
    refine ax_iconst (v := 2) dX11_tryPlanned_16 (by decide) ?_
    refine ax_icmp_ne (tgt := 35) dX11_tryPlanned_17 (by decide) (fun c_17 => ?_) (fun c_17 => ?_)
    · refine ax_iload_n (i := 1) dX11_tryPlanned_35 rfl rfl ?_
      refine ax_iconst (v := 3) dX11_tryPlanned_36 (by decide) ?_
      refine ax_icmp_ne (tgt := 55) dX11_tryPlanned_37 (by decide) (fun c_37 => ?_) (fun c_37 => ?_)
      · refine ax_iload_n (i := 1) dX11_tryPlanned_55 rfl rfl ?_
        refine ax_iconst (v := 1) dX11_tryPlanned_56 (by decide) ?_
        refine ax_icmp_ne (tgt := 80) dX11_tryPlanned_57 (by decide) (fun c_57 => ?_) (fun c_57 => ?_)
        · refine ax_vret dX11_tryPlanned_80 rfl (Nat.le_of_ble_eq_true rfl) (Nat.le_of_ble_eq_true rfl) ?_
          exact absurd (show nI a = 1 by rw [show a = 1 by (have h0 := ni_n c_1 (show (0 : Int32) = nI 0 from rfl); have h2 := ni_n c_17 (show (2 : Int32) = nI 2 from rfl); have h3 := ni_n c_37 (show (3 : Int32) = nI 3 from rfl); omega)]; rfl) c_57
        · refine ax_aload_n (i := 0) dX11_tryPlanned_60 rfl rfl ?_
          refine ax_getR dX11_tryPlanned_61 fl_X11_21 rfl (OKs hZ rfl) (OKr hZ rfl) ?_
          refine ax_iload_n (i := 2) dX11_tryPlanned_64 rfl rfl ?_
          refine ax_cVv dX11_tryPlanned_65 lk_X11_95 (c_X10_isUnlit (isW58 hZ) p (show p < 6 by have := ho.1; have := hp (ni_n c_1 (show (0 : Int32) = nI 0 from rfl)); omega)) rfl (OKs hZ rfl) ⟨_, rfl, rfl⟩ rfl (Nat.le_of_ble_eq_true rfl) (Nat.le_of_ble_eq_true rfl) (Nat.le_of_ble_eq_true rfl) (Nat.le_of_ble_eq_true rfl) ?_
          refine ax_if_eq (tgt := 80) dX11_tryPlanned_68 (by decide) (fun c_68 => ?_) (fun c_68 => ?_)
          · refine ax_vret dX11_tryPlanned_80 rfl (Nat.le_of_ble_eq_true rfl) (Nat.le_of_ble_eq_true rfl) ?_
            exact ⟨rfl, rfl, (trP_refl (Z := Z) (G := G)), by unfold ac1; rw [if_neg (ni_n c_1 (show (0 : Int32) = nI 0 from rfl)), if_neg (ni_n c_17 (show (2 : Int32) = nI 2 from rfl)), if_neg (ni_n c_37 (show (3 : Int32) = nI 3 from rfl))]; rw [if_neg (fun z => bi_eq.mp c_68 ((h58.2.2.1 p (hp (ni_n c_1 (show (0 : Int32) = nI 0 from rfl))) 5 (by decide)).trans z))]; exact h58⟩
          · refine ax_aload_n (i := 0) dX11_tryPlanned_71 rfl rfl ?_
            refine ax_getR dX11_tryPlanned_72 fl_X11_21 rfl (OKs hZ rfl) (OKr hZ rfl) ?_
            refine ax_iload_n (i := 2) dX11_tryPlanned_75 rfl rfl ?_
            refine ax_cVq dX11_tryPlanned_76 lk_X11_98 (k_ign hZ h58 ho p (hp (ni_n c_1 (show (0 : Int32) = nI 0 from rfl)))) rfl (OKs hZ rfl) ⟨_, rfl, rfl⟩ rfl (Nat.le_of_ble_eq_true rfl) (Nat.le_of_ble_eq_true rfl) (Nat.le_of_ble_eq_true rfl) (Nat.le_of_ble_eq_true rfl) ?_
            rintro Z1 G1 _ ⟨rfl, t'1, v1⟩
            have t1 := trP_trans (trP_refl (Z := Z) (G := G)) t'1
            refine ax_pop dX11_tryPlanned_79 rfl ?_
            refine ax_vret dX11_tryPlanned_80 rfl (Nat.le_of_ble_eq_true rfl) (Nat.le_of_ble_eq_true rfl) ?_
            exact ⟨rfl, rfl, t1, by unfold ac1; rw [if_neg (ni_n c_1 (show (0 : Int32) = nI 0 from rfl)), if_neg (ni_n c_17 (show (2 : Int32) = nI 2 from rfl)), if_neg (ni_n c_37 (show (3 : Int32) = nI 3 from rfl))]; rw [if_pos ((h58.2.2.1 p (hp (ni_n c_1 (show (0 : Int32) = nI 0 from rfl))) 5 (by decide)).symm.trans (bi_ne.mp c_68))]; exact v1⟩
      · refine ax_aload_n (i := 0) dX11_tryPlanned_40 rfl rfl ?_
        refine ax_getR dX11_tryPlanned_41 fl_X11_21 rfl (OKs hZ rfl) (OKr hZ rfl) ?_
        refine ax_getR dX11_tryPlanned_44 fl_X11_87 rfl (OKs hZ rfl) (OKr hZ rfl) ?_
        refine ax_iload_n (i := 2) dX11_tryPlanned_47 rfl rfl ?_
        refine ax_aaldN p (t0 := 5) dX11_tryPlanned_48 (OKs hZ rfl) rfl (fun _ => rfl) rfl (show p < 6 by have := ho.1; have := hp (ni_n c_1 (show (0 : Int32) = nI 0 from rfl)); omega) (by decide) (Wrf (isW58 hZ) (show p < 6 by have := ho.1; have := hp (ni_n c_1 (show (0 : Int32) = nI 0 from rfl)); omega)) ?_
        refine ax_iconst (v := 5) dX11_tryPlanned_49 (by decide) ?_
        refine ax_iconst (v := 0) dX11_tryPlanned_50 (by decide) ?_
        refine ax_iastN 5 dX11_tryPlanned_51 (Wrow (isW58 hZ) (show p < 6 by have := ho.1; have := hp (ni_n c_1 (show (0 : Int32) = nI 0 from rfl)); omega)) rfl (by decide) (by decide) ?_
        have v0s := vC_set (p := p) (c := 5) (x := 0) h58 ho (by decide) (hp (ni_n c_1 (show (0 : Int32) = nI 0 from rfl)))
        have t0s := trP_set (c := 5) (x := 0) (trP_refl (Z := Z) (G := G)) (show 58 ≤ 58 + 2 + p ∧ 58 + 2 + p < 75 by have := ho.1; have := hp (ni_n c_1 (show (0 : Int32) = nI 0 from rfl)); omega)
        refine ax_goto (tgt := 80) dX11_tryPlanned_52 (by decide) ?_
        refine ax_vret dX11_tryPlanned_80 rfl (Nat.le_of_ble_eq_true rfl) (Nat.le_of_ble_eq_true rfl) ?_
        exact ⟨rfl, rfl, t0s, by unfold ac1; rw [if_neg (ni_n c_1 (show (0 : Int32) = nI 0 from rfl)), if_neg (ni_n c_17 (show (2 : Int32) = nI 2 from rfl)), if_pos (ni_e ha (by decide) c_37 (show (3 : Int32) = nI 3 from rfl))]; exact v0s⟩
    · refine ax_aload_n (i := 0) dX11_tryPlanned_20 rfl rfl ?_
      refine ax_getR dX11_tryPlanned_21 fl_X11_21 rfl (OKs hZ rfl) (OKr hZ rfl) ?_
      refine ax_getR dX11_tryPlanned_24 fl_X11_87 rfl (OKs hZ rfl) (OKr hZ rfl) ?_
      refine ax_iload_n (i := 2) dX11_tryPlanned_27 rfl rfl ?_
      refine ax_aaldN p (t0 := 5) dX11_tryPlanned_28 (OKs hZ rfl) rfl (fun _ => rfl) rfl (show p < 6 by have := ho.1; have := hp (ni_n c_1 (show (0 : Int32) = nI 0 from rfl)); omega) (by decide) (Wrf (isW58 hZ) (show p < 6 by have := ho.1; have := hp (ni_n c_1 (show (0 : Int32) = nI 0 from rfl)); omega)) ?_
      refine ax_iconst (v := 4) dX11_tryPlanned_29 (by decide) ?_
      refine ax_iconst (v := 0) dX11_tryPlanned_30 (by decide) ?_
      refine ax_iastN 4 dX11_tryPlanned_31 (Wrow (isW58 hZ) (show p < 6 by have := ho.1; have := hp (ni_n c_1 (show (0 : Int32) = nI 0 from rfl)); omega)) rfl (by decide) (by decide) ?_
      have v0s := vC_set (p := p) (c := 4) (x := 0) h58 ho (by decide) (hp (ni_n c_1 (show (0 : Int32) = nI 0 from rfl)))
      have t0s := trP_set (c := 4) (x := 0) (trP_refl (Z := Z) (G := G)) (show 58 ≤ 58 + 2 + p ∧ 58 + 2 + p < 75 by have := ho.1; have := hp (ni_n c_1 (show (0 : Int32) = nI 0 from rfl)); omega)
      refine ax_goto (tgt := 80) dX11_tryPlanned_32 (by decide) ?_
      refine ax_vret dX11_tryPlanned_80 rfl (Nat.le_of_ble_eq_true rfl) (Nat.le_of_ble_eq_true rfl) ?_
      exact ⟨rfl, rfl, t0s, by unfold ac1; rw [if_neg (ni_n c_1 (show (0 : Int32) = nI 0 from rfl)), if_pos (ni_e ha (by decide) c_17 (show (2 : Int32) = nI 2 from rfl))]; exact v0s⟩
  · refine ax_aload_n (i := 0) dX11_tryPlanned_4 rfl rfl ?_
    refine ax_getR dX11_tryPlanned_5 fl_X11_21 rfl (OKs hZ rfl) (OKr hZ rfl) ?_
    refine ax_iconst (v := 1) dX11_tryPlanned_8 (by decide) ?_
    refine ax_cVq0 dX11_tryPlanned_9 lk_X11_158 (k_min hZ h58 ho 1 (by decide) hm) rfl (OKs hZ rfl) ⟨_, rfl, rfl⟩ rfl (Nat.le_of_ble_eq_true rfl) (Nat.le_of_ble_eq_true rfl) (Nat.le_of_ble_eq_true rfl) (Nat.le_of_ble_eq_true rfl) ?_
    rintro Z1 G1 _ ⟨rfl, t'1, v1⟩
    have t1 := trP_trans (trP_refl (Z := Z) (G := G)) t'1
    refine ax_goto (tgt := 80) dX11_tryPlanned_12 (by decide) ?_
    refine ax_vret dX11_tryPlanned_80 rfl (Nat.le_of_ble_eq_true rfl) (Nat.le_of_ble_eq_true rfl) ?_
    exact ⟨rfl, rfl, t1, by unfold ac1; rw [if_pos (ni_e ha (by decide) c_1 (show (0 : Int32) = nI 0 from rfl))]; exact v1⟩
theorem l_ends {Z0 : Zt} {G0 : Gt} {L : Lt} {Q : Qt} {W : Wv} (hZ : OK Z0) (hv : vC Z0 G0 24 W) (ho : okW W) {H : Hv} (hH : hC G0 24 H) (hh : okH W.m H) (hm : W.mm + 20 < 20000) (a : Int32) (hend : ∀ Z G, trP Z0 G0 Z G → vC Z G 58 (acV W H H.np) → AX none mX11_ends 7 0 0 0 0 62 [(0, .ref 0), (1, .int a)] [] Z G L Q) : ∀ (n q : Nat), q ≤ H.np → H.np - q < n → ∀ Z G, trP Z0 G0 Z G → vC Z G 58 (acV W H q) → AX none mX11_ends 7 0 0 0 0 23 [(0, .ref 0), (1, .int a), (2, .int (nI q))] [] Z G L Q := by
  intro n
  induction n with
  | zero => intro q h1 h2; omega
  | succ n ih =>
    intro q h1 h2 Z G t9 hq9
    have hZ9 := trP_OK t9 hZ
    have hn10 := hh.2.2.1
    refine ax_iload_n (i := 2) dX11_ends_23 rfl rfl ?_
    refine ax_aload_n (i := 0) dX11_ends_24 rfl rfl ?_
    refine ax_getR dX11_ends_25 fl_X11_14 rfl (OKs hZ9 rfl) (OKr hZ9 rfl) ?_
    refine ax_getI dX11_ends_28 fl_X11_222 rfl (OKs hZ9 rfl) ?_
    refine ax_top (congrArg Value.int (trP_hC t9 hH (Or.inl rfl)).2.1.1) ?_
    refine ax_icmp_ge (tgt := 62) dX11_ends_31 (by decide) (fun c_31 => ?_) (fun c_31 => ?_)
    · obtain rfl : q = H.np := by have := (nI_leI (by omega) (by omega)).mp (show nI H.np ≤ nI q from c_31); omega
      exact ax_lv [(0, .ref 0), (1, .int a)] ⟨rfl, rfl, trivial⟩ (hend _ _ t9 hq9)
    · have hqm : q < H.np := by have := mt (nI_leI (by omega) (by omega)).mpr (show ¬ nI H.np ≤ nI q from c_31); omega
      obtain ⟨i1, i2, i3⟩ := acV_ok ho hm hh q (by omega)
      have i4 := hh.2.2.2.1 q hqm
      refine ax_aload_n (i := 0) dX11_ends_34 rfl rfl ?_
      refine ax_aload_n (i := 0) dX11_ends_35 rfl rfl ?_
      refine ax_getR dX11_ends_36 fl_X11_14 rfl (OKs hZ9 rfl) (OKr hZ9 rfl) ?_
      refine ax_getR dX11_ends_39 fl_X11_225 rfl (OKs hZ9 rfl) (OKr hZ9 rfl) ?_
      refine ax_iload_n (i := 2) dX11_ends_42 rfl rfl ?_
      refine ax_ialdN q dX11_ends_43 (OKs hZ9 rfl) rfl (show q < 10 by omega) (by decide) ?_
      refine ax_top (congrArg Value.int ((trP_hC t9 hH (Or.inl rfl)).2.1.2 q hqm).1) ?_
      refine ax_aload_n (i := 0) dX11_ends_44 rfl rfl ?_
      refine ax_getR dX11_ends_45 fl_X11_14 rfl (OKs hZ9 rfl) (OKr hZ9 rfl) ?_
      refine ax_getR dX11_ends_48 fl_X11_228 rfl (OKs hZ9 rfl) (OKr hZ9 rfl) ?_
      refine ax_iload_n (i := 2) dX11_ends_51 rfl rfl ?_
      refine ax_ialdN q dX11_ends_52 (OKs hZ9 rfl) rfl (show q < 10 by omega) (by decide) ?_
      refine ax_top (congrArg Value.int ((trP_hC t9 hH (Or.inl rfl)).2.1.2 q hqm).2) ?_
      refine ax_cVq0 dX11_ends_53 lk_X11_231 (c_tryPlanned hZ9 hq9 i1 (by omega) (H.p0 q) (H.p1 q) i4.1 (fun e => by rw [i2]; exact i4.2 e)) rfl (OKs hZ9 rfl) ⟨_, rfl, rfl⟩ rfl (Nat.le_of_ble_eq_true rfl) (Nat.le_of_ble_eq_true rfl) (Nat.le_of_ble_eq_true rfl) (Nat.le_of_ble_eq_true rfl) ?_
      rintro Z1 G1 _ ⟨rfl, t'1, v1⟩
      have t1 := trP_trans t9 t'1
      refine ax_iinc (v := (nI q) + 1) dX11_ends_56 rfl rfl (by decide) rfl ?_
      refine ax_goto (tgt := 23) dX11_ends_59 (by decide) ?_
      refine ax_lv [(0, .ref 0), (1, .int a), (2, .int (nI (q + 1)))] ⟨rfl, rfl, sI (nI_1 q), trivial⟩ ?_
      exact ih (q + 1) (by omega) (by omega) _ _ t1 v1
theorem c_ends {Z : Zt} {G : Gt} {L : Lt} {W : Wv} (hZ : OK Z) (hv : vC Z G 24 W) (ho : okW W) {H : Hv} (hH : hC G 24 H) (hh : okH W.m H) (hm : W.mm + 20 < 20000) (a : Int32) : AC mX11_ends 7 0 0 [.ref 0, .int a] Z G L (RP (.int (endV W H a)) (TP Z G L)) := by
  refine AC.intro (by decide +kernel) (Nat.le_of_ble_eq_true rfl) ?_
  refine ax_lv [(0, .ref 0), (1, .int a)] ⟨rfl, rfl, trivial⟩ ?_
  refine ax_iload_n (i := 1) dX11_ends_0 rfl rfl ?_
  refine ax_iconst (v := 1) dX11_ends_1 (by decide) ?_
  refine ax_cSv dX11_ends_2 lk_X11_53 (c_X11_within a 1) rfl rfl (Nat.le_of_ble_eq_true rfl) (Nat.le_of_ble_eq_true rfl) (Nat.le_of_ble_eq_true rfl) (Nat.le_of_ble_eq_true rfl) ?_
  refine ax_if_ne (tgt := 10) dX11_ends_5 (by decide) (fun c_5 => ?_) (fun c_5 => ?_)
  · refine ax_aload_n (i := 0) dX11_ends_10 rfl rfl ?_
    refine ax_getR dX11_ends_11 fl_X11_21 rfl (OKs hZ rfl) (OKr hZ rfl) ?_
    refine ax_aload_n (i := 0) dX11_ends_14 rfl rfl ?_
    refine ax_getR dX11_ends_15 fl_X11_14 rfl (OKs hZ rfl) (OKr hZ rfl) ?_
    refine ax_cVq0 dX11_ends_18 lk_X11_162 (k_go hZ (trP_vC (trP_refl (Z := Z) (G := G)) hv ho.1 (Or.inl rfl)) ho) rfl (OKs hZ rfl) ⟨_, rfl, rfl⟩ rfl (Nat.le_of_ble_eq_true rfl) (Nat.le_of_ble_eq_true rfl) (Nat.le_of_ble_eq_true rfl) (Nat.le_of_ble_eq_true rfl) ?_
    rintro Z1 G1 _ ⟨rfl, t'1, v1⟩
    have t1 := trP_trans (trP_refl (Z := Z) (G := G)) t'1
    refine ax_iconst (v := 0) dX11_ends_21 (by decide) ?_
    refine ax_istore_n (i := 2) dX11_ends_22 rfl (by decide) rfl ?_
    refine ax_lv [(0, .ref 0), (1, .int a), (2, .int (nI 0))] ⟨rfl, rfl, rfl, trivial⟩ ?_
    refine l_ends hZ hv ho hH hh hm a ?_ (H.np + 1) 0 (by omega) (by omega) _ _ t1 v1
    intro Z9 G9 t9 hq9
    have hZ9 := trP_OK t9 hZ
    refine ax_iload_n (i := 1) dX11_ends_62 rfl rfl ?_
    refine ax_if_ne (tgt := 76) dX11_ends_63 (by decide) (fun c_63 => ?_) (fun c_63 => ?_)
    · refine ax_aload_n (i := 0) dX11_ends_76 rfl rfl ?_
      refine ax_getR dX11_ends_77 fl_X11_21 rfl (OKs hZ9 rfl) (OKr hZ9 rfl) ?_
      refine ax_iconst (v := 2) dX11_ends_80 (by decide) ?_
      refine ax_cVv dX11_ends_81 lk_X11_155 (k_in (isW58 hZ9) hq9 (acV_ok ho hm hh H.np (Nat.le_refl _)).1 2) rfl (OKs hZ9 rfl) ⟨_, rfl, rfl⟩ rfl (Nat.le_of_ble_eq_true rfl) (Nat.le_of_ble_eq_true rfl) (Nat.le_of_ble_eq_true rfl) (Nat.le_of_ble_eq_true rfl) ?_
      refine ax_iret dX11_ends_84 rfl rfl (Nat.le_of_ble_eq_true rfl) (Nat.le_of_ble_eq_true rfl) ?_
      exact ⟨congrArg (fun z => some (Value.int z)) (Eq.symm (by unfold endV; (try rw [(acV_ok ho hm hh H.np (Nat.le_refl _)).2.1]); rw [if_neg c_5]; (try rw [if_neg c_63]))), rfl, t9⟩
    · refine ax_aload_n (i := 0) dX11_ends_66 rfl rfl ?_
      refine ax_getR dX11_ends_67 fl_X11_21 rfl (OKs hZ9 rfl) (OKr hZ9 rfl) ?_
      refine ax_cVv dX11_ends_70 lk_X11_152 (k_sum (isW58 hZ9) hq9) rfl (OKs hZ9 rfl) ⟨_, rfl, rfl⟩ rfl (Nat.le_of_ble_eq_true rfl) (Nat.le_of_ble_eq_true rfl) (Nat.le_of_ble_eq_true rfl) (Nat.le_of_ble_eq_true rfl) ?_
      refine ax_goto (tgt := 84) dX11_ends_73 (by decide) ?_
      refine ax_iret dX11_ends_84 rfl rfl (Nat.le_of_ble_eq_true rfl) (Nat.le_of_ble_eq_true rfl) ?_
      exact ⟨congrArg (fun z => some (Value.int z)) (Eq.symm (by unfold endV; (try rw [(acV_ok ho hm hh H.np (Nat.le_refl _)).2.1]); rw [if_neg c_5]; (try rw [if_pos c_63]))), rfl, t9⟩
  · refine ax_iconst (v := (-1)) dX11_ends_8 (by decide) ?_
    refine ax_iret dX11_ends_9 rfl rfl (Nat.le_of_ble_eq_true rfl) (Nat.le_of_ble_eq_true rfl) ?_
    exact ⟨congrArg (fun z => some (Value.int z)) (Eq.symm (by unfold endV; (try rw [if_pos c_5]); first | done | rfl)), rfl, (trP_refl (Z := Z) (G := G))⟩
