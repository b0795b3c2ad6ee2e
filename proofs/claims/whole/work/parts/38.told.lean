-- ===== contracts: of, on, told =====
def allneL (x : Int32) (lo : Nat) : Nat → Prop
  | 0 => True
  | n + 1 => allneL x lo n ∧ ¬ x = nI (lo + n)
theorem allneL_at {x : Int32} {lo : Nat} : ∀ {n : Nat}, allneL x lo n → ∀ k, k < n → ¬ x = nI (lo + k)
  | 0, _, k, hk => absurd hk (Nat.not_lt_zero k)
  | n + 1, h, k, hk => by
    rcases Nat.lt_or_ge k n with q | q
    · exact allneL_at h.1 k q
    · rw [show k = n by omega]; exact h.2
theorem sw_outL {x : Int32} (lo n : Nat) {l hi : Int} (hl : l = lo) (hh : hi = (lo : Int) + n - 1) (hn : lo + n < 1000) (h : allneL x lo n) : x.toInt < l ∨ hi < x.toInt := by
  by_cases q : x.toInt < l
  · exact Or.inl q
  · by_cases q2 : hi < x.toInt
    · exact Or.inr q2
    · exfalso
      refine allneL_at h (x.toInt.toNat - lo) (by omega) ?_
      apply Int32.toInt_inj.mp
      rw [nI_toInt (by omega)]
      omega
theorem wi_m1 {c : Int32} : wi (-1) 0 c = 0 := bi_f (fun h => h.1 (by decide))
theorem wi_n {a : Int32} {k : Nat} (hk : k < 1000000) (h : ¬ wi a 0 (nI k) = 0) : ∃ n, n ≤ k ∧ a = nI n := by
  have h1 := wi_e h
  have h2 := wi_l (n := k + 1) h (by rw [nI_toInt (by omega)]; omega)
  exact ⟨_, by omega, h1⟩
def ofR (W : Wv) (H : Hv) (p : Nat) (b : Int32) : Int32 := if b = 6 then lightV W p else if b = 7 then nI (bmV W p 20).2 else if b = 8 then lightV (minVN (bmV W p 20).2 W) p else if b = 9 then (giV W p 4).1 else if b = 10 then fiV W H p 2 21 else W.C p b.toNatClampNeg
def ofV (W : Wv) (H : Hv) (a b : Int32) : Int32 := if wi a 0 (nI W.m - 1) = 0 then -10001 else if wi b 0 10 = 0 then -10001 else ofR W H a.toNatClampNeg b
def onR (W : Wv) (n p : Nat) (b : Int32) : Int32 := if b < 20 then (minVN n W).C p 4 else lightV (minVN n W) p
def onV (W : Wv) (a b : Int32) : Int32 := if b < 10 then -10001 else if 20 ≤ b then (if wi (b - 20) 0 (nI W.m - 1) = 0 then -10001 else if wi a 0 60 = 0 then -2 else lightV (minVN a.toNatClampNeg W) (b - 20).toNatClampNeg) else (if wi (b - 10) 0 (nI W.m - 1) = 0 then -10001 else if wi a 0 60 = 0 then -2 else (minVN a.toNatClampNeg W).C (b - 10).toNatClampNeg 4)
def taV (W : Wv) (k : Int32) : Int32 := if k = 0 then nI W.mm else if k = 1 then W.dry else if k = 2 then evenB W.gr 4 else if k = 3 then sumB W.gr 4 else if k = 4 then inB (fun p => W.C p 5) 0 W.m else if k = 5 then inB (fun p => W.C p 5) 2 W.m else -1
theorem of6 {b : Int32} (h : ¬ wi b 0 10 = 0) (h1 : ¬ b = 6) (h2 : ¬ b = 7) (h3 : ¬ b = 8) (h4 : ¬ b = 9) (h5 : ¬ b = 10) : b.toNatClampNeg < 6 := by
  obtain ⟨n, hn, rfl⟩ := wi_n (k := 10) (by decide) h
  rw [nI_clamp (by omega)]
  have e1 : n ≠ 6 := fun e => h1 (by rw [e]; rfl)
  have e2 : n ≠ 7 := fun e => h2 (by rw [e]; rfl)
  have e3 : n ≠ 8 := fun e => h3 (by rw [e]; rfl)
  have e4 : n ≠ 9 := fun e => h4 (by rw [e]; rfl)
  have e5 : n ≠ 10 := fun e => h5 (by rw [e]; rfl)
  omega
abbrev MV (Z : Zt) (G : Gt) (L : Lt) (W : Wv) : Zt → Gt → Lt → Prop := fun Z' G' L' => L' = L ∧ Z' = Z ∧ vC Z G' 24 W ∧ (∀ a, ¬ (24 ≤ a ∧ a < 34) → G' a = G a) ∧ (∀ i, i ≠ 11 → i ≠ 15 → G' 24 i = G 24 i)
theorem MV_same {Z : Zt} {G : Gt} {L : Lt} {W : Wv} (h : vC Z G 24 W) : MV Z G L W Z G L := ⟨rfl, rfl, h, fun _ _ => rfl, fun _ _ _ => rfl⟩
theorem c_of {Z : Zt} {G : Gt} {L : Lt} {W : Wv} (hZ : OK Z) (hv : vC Z G 24 W) (ho : okW W) {H : Hv} (hH : hC G 24 H) (hh : okH W.m H) (hm : W.mm + 20 < 20000) (a b : Int32) : AC mX11_of 8 0 0 [.ref 0, .int a, .int b] Z G L (RP (.int (ofV W H a b)) (TP Z G L)) := by
  refine AC.intro (by decide +kernel) (Nat.le_of_ble_eq_true rfl) ?_
  refine ax_lv [(0, .ref 0), (1, .int a), (2, .int b)] ⟨rfl, rfl, rfl, trivial⟩ ?_
  refine ax_aload_n (i := 0) dX11_of_0 rfl rfl ?_
  refine ax_getR dX11_of_1 fl_X11_14 rfl (OKs hZ rfl) (OKr hZ rfl) ?_
  refine ax_iload_n (i := 1) dX11_of_4 rfl rfl ?_
  refine ax_cVv dX11_of_5 lk_X11_65 (k_has (isW24 hZ) (trP_vC (trP_refl (Z := Z) (G := G)) hv ho.1 (Or.inl rfl)) a) rfl (OKs hZ rfl) ⟨_, rfl, rfl⟩ rfl (Nat.le_of_ble_eq_true rfl) (Nat.le_of_ble_eq_true rfl) (Nat.le_of_ble_eq_true rfl) (Nat.le_of_ble_eq_true rfl) ?_
  refine ax_if_eq (tgt := 20) dX11_of_8 (by decide) (fun c_8 => ?_) (fun c_8 => ?_)
  · refine ax_sipush (v := (-10001)) dX11_of_20 (by decide) ?_
    refine ax_iret dX11_of_23 rfl rfl (Nat.le_of_ble_eq_true rfl) (Nat.le_of_ble_eq_true rfl) ?_
    exact ⟨congrArg (fun z => some (Value.int z)) (Eq.symm (by unfold ofV; (try rw [if_pos c_8]); (try rw [nI_clamp (by omega)]); (try unfold ofR); (try rw [if_pos c_8]); first | done | rfl)), rfl, (trP_refl (Z := Z) (G := G))⟩
  · obtain ⟨p, hp, rfl⟩ := has_p ho.1 c_8
    have hp6 : p < 6 := by have := ho.1; omega
    refine ax_iload_n (i := 2) dX11_of_11 rfl rfl ?_
    refine ax_bipush (v := 10) dX11_of_12 (by decide) ?_
    refine ax_cSv dX11_of_14 lk_X11_53 (c_X11_within b 10) rfl rfl (Nat.le_of_ble_eq_true rfl) (Nat.le_of_ble_eq_true rfl) (Nat.le_of_ble_eq_true rfl) (Nat.le_of_ble_eq_true rfl) ?_
    refine ax_if_ne (tgt := 24) dX11_of_17 (by decide) (fun c_17 => ?_) (fun c_17 => ?_)
    · refine ax_iload_n (i := 2) dX11_of_24 rfl rfl ?_
      refine (Decidable.em (b = 6)).elim (fun e_25_6 => ?_) (fun e_25_6 => ?_)
      · refine ax_tin (off := 35) (tgt := 60) dX11_of_25 (by rw [e_25_6]; decide) (by rw [e_25_6]; decide) (by rw [e_25_6]; decide) (by decide) ?_
        refine ax_aload_n (i := 0) dX11_of_60 rfl rfl ?_
        refine ax_getR dX11_of_61 fl_X11_14 rfl (OKs hZ rfl) (OKr hZ rfl) ?_
        refine ax_iload_n (i := 1) dX11_of_64 rfl rfl ?_
        refine ax_cVv dX11_of_65 lk_X11_69 (k_br hZ (isW24 hZ) (trP_vC (trP_refl (Z := Z) (G := G)) hv ho.1 (Or.inl rfl)) ho p hp) rfl (OKs hZ rfl) ⟨_, rfl, rfl⟩ rfl (Nat.le_of_ble_eq_true rfl) (Nat.le_of_ble_eq_true rfl) (Nat.le_of_ble_eq_true rfl) (Nat.le_of_ble_eq_true rfl) ?_
        refine ax_iret dX11_of_68 rfl rfl (Nat.le_of_ble_eq_true rfl) (Nat.le_of_ble_eq_true rfl) ?_
        exact ⟨congrArg (fun z => some (Value.int z)) (Eq.symm (by unfold ofV; (try rw [if_neg c_8]); (try rw [if_neg c_17]); (try rw [if_pos e_25_6]); (try rw [nI_clamp (by omega)]); (try unfold ofR); (try rw [if_neg c_8]); (try rw [if_neg c_17]); (try rw [if_pos e_25_6]); first | done | rfl)), rfl, (trP_refl (Z := Z) (G := G))⟩
      refine (Decidable.em (b = 7)).elim (fun e_25_7 => ?_) (fun e_25_7 => ?_)
      · refine ax_tin (off := 44) (tgt := 69) dX11_of_25 (by rw [e_25_7]; decide) (by rw [e_25_7]; decide) (by rw [e_25_7]; decide) (by decide) ?_
        refine ax_aload_n (i := 0) dX11_of_69 rfl rfl ?_
        refine ax_iload_n (i := 1) dX11_of_70 rfl rfl ?_
        refine ax_cVq dX11_of_71 lk_X11_73 (c_brightestMinutes hZ (trP_vC (trP_refl (Z := Z) (G := G)) hv ho.1 (Or.inl rfl)) ho hm p hp) rfl (OKs hZ rfl) ⟨_, rfl, rfl⟩ rfl (Nat.le_of_ble_eq_true rfl) (Nat.le_of_ble_eq_true rfl) (Nat.le_of_ble_eq_true rfl) (Nat.le_of_ble_eq_true rfl) ?_
        rintro Z1 G1 _ ⟨rfl, t'1⟩
        have t1 := trP_trans (trP_refl (Z := Z) (G := G)) t'1
        refine ax_iret dX11_of_74 rfl rfl (Nat.le_of_ble_eq_true rfl) (Nat.le_of_ble_eq_true rfl) ?_
        exact ⟨congrArg (fun z => some (Value.int z)) (Eq.symm (by unfold ofV; (try rw [if_neg c_8]); (try rw [if_neg c_17]); (try rw [if_neg e_25_6]); (try rw [if_pos e_25_7]); (try rw [nI_clamp (by omega)]); (try unfold ofR); (try rw [if_neg c_8]); (try rw [if_neg c_17]); (try rw [if_neg e_25_6]); (try rw [if_pos e_25_7]); first | done | rfl)), rfl, t1⟩
      refine (Decidable.em (b = 8)).elim (fun e_25_8 => ?_) (fun e_25_8 => ?_)
      · refine ax_tin (off := 50) (tgt := 75) dX11_of_25 (by rw [e_25_8]; decide) (by rw [e_25_8]; decide) (by rw [e_25_8]; decide) (by decide) ?_
        refine ax_aload_n (i := 0) dX11_of_75 rfl rfl ?_
        refine ax_aload_n (i := 0) dX11_of_76 rfl rfl ?_
        refine ax_iload_n (i := 1) dX11_of_77 rfl rfl ?_
        refine ax_cVq dX11_of_78 lk_X11_73 (c_brightestMinutes hZ (trP_vC (trP_refl (Z := Z) (G := G)) hv ho.1 (Or.inl rfl)) ho hm p hp) rfl (OKs hZ rfl) ⟨_, rfl, rfl⟩ rfl (Nat.le_of_ble_eq_true rfl) (Nat.le_of_ble_eq_true rfl) (Nat.le_of_ble_eq_true rfl) (Nat.le_of_ble_eq_true rfl) ?_
        rintro Z1 G1 _ ⟨rfl, t'1⟩
        have t1 := trP_trans (trP_refl (Z := Z) (G := G)) t'1
        refine ax_iload_n (i := 1) dX11_of_81 rfl rfl ?_
        refine ax_cVq dX11_of_82 lk_X11_76 (c_lightOn (trP_OK t1 hZ) (trP_vC t1 hv ho.1 (Or.inl rfl)) ho (bmV W p 20).2 p (by have := bmV_le (W := W) (p := p) 20; omega) (by have := bmV_le (W := W) (p := p) 20; omega) hp) rfl (OKs (trP_OK t1 hZ) rfl) ⟨_, rfl, rfl⟩ rfl (Nat.le_of_ble_eq_true rfl) (Nat.le_of_ble_eq_true rfl) (Nat.le_of_ble_eq_true rfl) (Nat.le_of_ble_eq_true rfl) ?_
        rintro Z2 G2 _ ⟨rfl, t'2⟩
        have t2 := trP_trans t1 t'2
        refine ax_iret dX11_of_85 rfl rfl (Nat.le_of_ble_eq_true rfl) (Nat.le_of_ble_eq_true rfl) ?_
        exact ⟨congrArg (fun z => some (Value.int z)) (Eq.symm (by unfold ofV; (try rw [if_neg c_8]); (try rw [if_neg c_17]); (try rw [if_neg e_25_6]); (try rw [if_neg e_25_7]); (try rw [if_pos e_25_8]); (try rw [nI_clamp (by omega)]); (try unfold ofR); (try rw [if_neg c_8]); (try rw [if_neg c_17]); (try rw [if_neg e_25_6]); (try rw [if_neg e_25_7]); (try rw [if_pos e_25_8]); first | done | rfl)), rfl, t2⟩
      refine (Decidable.em (b = 9)).elim (fun e_25_9 => ?_) (fun e_25_9 => ?_)
      · refine ax_tin (off := 61) (tgt := 86) dX11_of_25 (by rw [e_25_9]; decide) (by rw [e_25_9]; decide) (by rw [e_25_9]; decide) (by decide) ?_
        refine ax_aload_n (i := 0) dX11_of_86 rfl rfl ?_
        refine ax_iload_n (i := 1) dX11_of_87 rfl rfl ?_
        refine ax_cVq dX11_of_88 lk_X11_80 (c_giftTo hZ (trP_vC (trP_refl (Z := Z) (G := G)) hv ho.1 (Or.inl rfl)) ho p hp) rfl (OKs hZ rfl) ⟨_, rfl, rfl⟩ rfl (Nat.le_of_ble_eq_true rfl) (Nat.le_of_ble_eq_true rfl) (Nat.le_of_ble_eq_true rfl) (Nat.le_of_ble_eq_true rfl) ?_
        rintro Z1 G1 _ ⟨rfl, t'1⟩
        have t1 := trP_trans (trP_refl (Z := Z) (G := G)) t'1
        refine ax_iret dX11_of_91 rfl rfl (Nat.le_of_ble_eq_true rfl) (Nat.le_of_ble_eq_true rfl) ?_
        exact ⟨congrArg (fun z => some (Value.int z)) (Eq.symm (by unfold ofV; (try rw [if_neg c_8]); (try rw [if_neg c_17]); (try rw [if_neg e_25_6]); (try rw [if_neg e_25_7]); (try rw [if_neg e_25_8]); (try rw [if_pos e_25_9]); (try rw [nI_clamp (by omega)]); (try unfold ofR); (try rw [if_neg c_8]); (try rw [if_neg c_17]); (try rw [if_neg e_25_6]); (try rw [if_neg e_25_7]); (try rw [if_neg e_25_8]); (try rw [if_pos e_25_9]); first | done | rfl)), rfl, t1⟩
      refine (Decidable.em (b = 10)).elim (fun e_25_10 => ?_) (fun e_25_10 => ?_)
      · refine ax_tin (off := 67) (tgt := 92) dX11_of_25 (by rw [e_25_10]; decide) (by rw [e_25_10]; decide) (by rw [e_25_10]; decide) (by decide) ?_
        refine ax_aload_n (i := 0) dX11_of_92 rfl rfl ?_
        refine ax_iload_n (i := 1) dX11_of_93 rfl rfl ?_
        refine ax_iconst (v := 2) dX11_of_94 (by decide) ?_
        refine ax_bipush (v := 20) dX11_of_95 (by decide) ?_
        refine ax_cVq dX11_of_97 lk_X11_83 (c_fitting hZ (trP_vC (trP_refl (Z := Z) (G := G)) hv ho.1 (Or.inl rfl)) ho (trP_hC (trP_refl (Z := Z) (G := G)) hH (Or.inl rfl)) hh hm p 2 20 (by decide) hp (Or.inr rfl)) rfl (OKs hZ rfl) ⟨_, rfl, rfl⟩ rfl (Nat.le_of_ble_eq_true rfl) (Nat.le_of_ble_eq_true rfl) (Nat.le_of_ble_eq_true rfl) (Nat.le_of_ble_eq_true rfl) ?_
        rintro Z1 G1 _ ⟨rfl, t'1⟩
        have t1 := trP_trans (trP_refl (Z := Z) (G := G)) t'1
        refine ax_iret dX11_of_100 rfl rfl (Nat.le_of_ble_eq_true rfl) (Nat.le_of_ble_eq_true rfl) ?_
        exact ⟨congrArg (fun z => some (Value.int z)) (Eq.symm (by unfold ofV; (try rw [if_neg c_8]); (try rw [if_neg c_17]); (try rw [if_neg e_25_6]); (try rw [if_neg e_25_7]); (try rw [if_neg e_25_8]); (try rw [if_neg e_25_9]); (try rw [if_pos e_25_10]); (try rw [nI_clamp (by omega)]); (try unfold ofR); (try rw [if_neg c_8]); (try rw [if_neg c_17]); (try rw [if_neg e_25_6]); (try rw [if_neg e_25_7]); (try rw [if_neg e_25_8]); (try rw [if_neg e_25_9]); (try rw [if_pos e_25_10]); first | done | rfl)), rfl, t1⟩
      refine ax_tout (tgt := 101) dX11_of_25 (sw_outL 6 5 (by decide) (by decide) (by decide) ⟨⟨⟨⟨⟨trivial, e_25_6⟩, e_25_7⟩, e_25_8⟩, e_25_9⟩, e_25_10⟩) (by decide) ?_
      refine ax_aload_n (i := 0) dX11_of_101 rfl rfl ?_
      refine ax_getR dX11_of_102 fl_X11_14 rfl (OKs hZ rfl) (OKr hZ rfl) ?_
      refine ax_getR dX11_of_105 fl_X11_87 rfl (OKs hZ rfl) (OKr hZ rfl) ?_
      refine ax_iload_n (i := 1) dX11_of_108 rfl rfl ?_
      refine ax_aaldN p (t0 := 5) dX11_of_109 (OKs hZ rfl) rfl (fun _ => rfl) rfl hp6 (by decide) (Wrf (isW24 hZ) hp6) ?_
      refine ax_iload_n (i := 2) dX11_of_110 rfl rfl ?_
      have hb6 := of6 c_17 e_25_6 e_25_7 e_25_8 e_25_9 e_25_10
      refine ax_ialdN b.toNatClampNeg dX11_of_111 (Wrow (isW24 hZ) hp6) (wi_e c_17) (by omega) (by decide) ?_
      refine ax_iret dX11_of_112 rfl rfl (Nat.le_of_ble_eq_true rfl) (Nat.le_of_ble_eq_true rfl) ?_
      exact ⟨congrArg (fun z => some (Value.int z)) (Eq.symm (by unfold ofV; (try rw [if_neg c_8]); (try rw [if_neg c_17]); (try rw [if_neg e_25_6]); (try rw [if_neg e_25_7]); (try rw [if_neg e_25_8]); (try rw [if_neg e_25_9]); (try rw [if_neg e_25_10]); (try rw [nI_clamp (by omega)]); (try unfold ofR); (try rw [if_neg c_8]); (try rw [if_neg c_17]); (try rw [if_neg e_25_6]); (try rw [if_neg e_25_7]); (try rw [if_neg e_25_8]); (try rw [if_neg e_25_9]); (try rw [if_neg e_25_10]); rw [← (trP_vC (trP_refl (Z := Z) (G := G)) hv ho.1 (Or.inl rfl)).2.2.1 p hp _ (by omega)]; first | done | rfl)), rfl, (trP_refl (Z := Z) (G := G))⟩
    · refine ax_sipush (v := (-10001)) dX11_of_20 (by decide) ?_
      refine ax_iret dX11_of_23 rfl rfl (Nat.le_of_ble_eq_true rfl) (Nat.le_of_ble_eq_true rfl) ?_
      exact ⟨congrArg (fun z => some (Value.int z)) (Eq.symm (by unfold ofV; (try rw [if_neg c_8]); (try rw [if_pos c_17]); (try rw [nI_clamp (by omega)]); (try unfold ofR); (try rw [if_neg c_8]); (try rw [if_pos c_17]); first | done | rfl)), rfl, (trP_refl (Z := Z) (G := G))⟩
theorem c_on {Z : Zt} {G : Gt} {L : Lt} {W : Wv} (hZ : OK Z) (hv : vC Z G 24 W) (ho : okW W) (hm : W.mm + 60 < 20000) (a b : Int32) : AC mX11_on 6 0 0 [.ref 0, .int a, .int b] Z G L (RP (.int (onV W a b)) (TP Z G L)) := by
  refine AC.intro (by decide +kernel) (Nat.le_of_ble_eq_true rfl) ?_
  refine ax_lv [(0, .ref 0), (1, .int a), (2, .int b)] ⟨rfl, rfl, rfl, trivial⟩ ?_
  refine ax_iload_n (i := 2) dX11_on_0 rfl rfl ?_
  refine ax_bipush (v := 10) dX11_on_1 (by decide) ?_
  refine ax_icmp_lt (tgt := 16) dX11_on_3 (by decide) (fun c_3 => ?_) (fun c_3 => ?_)
  · refine ax_iconst (v := 0) dX11_on_16 (by decide) ?_
    refine ax_istore_n (i := 3) dX11_on_17 rfl (by decide) rfl ?_
    refine ax_iload_n (i := 3) dX11_on_18 rfl rfl ?_
    refine ax_if_eq (tgt := 29) dX11_on_19 (by decide) (fun c_19 => ?_) (fun c_19 => ?_)
    · refine ax_iload_n (i := 2) dX11_on_29 rfl rfl ?_
      refine ax_bipush (v := 20) dX11_on_30 (by decide) ?_
      refine ax_icmp_ge (tgt := 39) dX11_on_32 (by decide) (fun c_32 => ?_) (fun c_32 => ?_)
      · exact absurd c_32 (Int32.not_le.mpr (Int32.lt_trans c_3 (by decide)))
      · refine ax_iconst (v := (-1)) dX11_on_35 (by decide) ?_
        refine ax_goto (tgt := 43) dX11_on_36 (by decide) ?_
        refine ax_istore dX11_on_43 (by decide) rfl ?_
        refine ax_aload_n (i := 0) dX11_on_45 rfl rfl ?_
        refine ax_getR dX11_on_46 fl_X11_14 rfl (OKs hZ rfl) (OKr hZ rfl) ?_
        refine ax_iload dX11_on_49 rfl ?_
        refine ax_cVv dX11_on_51 lk_X11_65 (k_has (isW24 hZ) (trP_vC (trP_refl (Z := Z) (G := G)) hv ho.1 (Or.inl rfl)) (-1)) rfl (OKs hZ rfl) ⟨_, rfl, rfl⟩ rfl (Nat.le_of_ble_eq_true rfl) (Nat.le_of_ble_eq_true rfl) (Nat.le_of_ble_eq_true rfl) (Nat.le_of_ble_eq_true rfl) ?_
        refine ax_if_ne (tgt := 61) dX11_on_54 (by decide) (fun c_54 => ?_) (fun c_54 => ?_)
        · exact absurd wi_m1 c_54
        · refine ax_sipush (v := (-10001)) dX11_on_57 (by decide) ?_
          refine ax_iret dX11_on_60 rfl rfl (Nat.le_of_ble_eq_true rfl) (Nat.le_of_ble_eq_true rfl) ?_
          exact ⟨congrArg (fun z => some (Value.int z)) (Eq.symm (by unfold onV; rw [if_pos c_3])), rfl, (trP_refl (Z := Z) (G := G))⟩
    · exact absurd (by decide) c_19
  · refine ax_iload_n (i := 2) dX11_on_6 rfl rfl ?_
    refine ax_bipush (v := 20) dX11_on_7 (by decide) ?_
    refine ax_icmp_ge (tgt := 16) dX11_on_9 (by decide) (fun c_9 => ?_) (fun c_9 => ?_)
    · refine ax_iconst (v := 0) dX11_on_16 (by decide) ?_
      refine ax_istore_n (i := 3) dX11_on_17 rfl (by decide) rfl ?_
      refine ax_iload_n (i := 3) dX11_on_18 rfl rfl ?_
      refine ax_if_eq (tgt := 29) dX11_on_19 (by decide) (fun c_19 => ?_) (fun c_19 => ?_)
      · refine ax_iload_n (i := 2) dX11_on_29 rfl rfl ?_
        refine ax_bipush (v := 20) dX11_on_30 (by decide) ?_
        refine ax_icmp_ge (tgt := 39) dX11_on_32 (by decide) (fun c_32 => ?_) (fun c_32 => ?_)
        · refine ax_iload_n (i := 2) dX11_on_39 rfl rfl ?_
          refine ax_bipush (v := 20) dX11_on_40 (by decide) ?_
          refine ax_isub dX11_on_42 ?_
          refine ax_istore dX11_on_43 (by decide) rfl ?_
          refine ax_aload_n (i := 0) dX11_on_45 rfl rfl ?_
          refine ax_getR dX11_on_46 fl_X11_14 rfl (OKs hZ rfl) (OKr hZ rfl) ?_
          refine ax_iload dX11_on_49 rfl ?_
          refine ax_cVv dX11_on_51 lk_X11_65 (k_has (isW24 hZ) (trP_vC (trP_refl (Z := Z) (G := G)) hv ho.1 (Or.inl rfl)) (b - 20)) rfl (OKs hZ rfl) ⟨_, rfl, rfl⟩ rfl (Nat.le_of_ble_eq_true rfl) (Nat.le_of_ble_eq_true rfl) (Nat.le_of_ble_eq_true rfl) (Nat.le_of_ble_eq_true rfl) ?_
          refine ax_if_ne (tgt := 61) dX11_on_54 (by decide) (fun c_54 => ?_) (fun c_54 => ?_)
          · refine ax_iload_n (i := 1) dX11_on_61 rfl rfl ?_
            refine ax_bipush (v := 60) dX11_on_62 (by decide) ?_
            refine ax_cSv dX11_on_64 lk_X11_53 (c_X11_within a 60) rfl rfl (Nat.le_of_ble_eq_true rfl) (Nat.le_of_ble_eq_true rfl) (Nat.le_of_ble_eq_true rfl) (Nat.le_of_ble_eq_true rfl) ?_
            refine ax_if_ne (tgt := 73) dX11_on_67 (by decide) (fun c_67 => ?_) (fun c_67 => ?_)
            · obtain ⟨p, hp, ep⟩ := has_p ho.1 c_54
              have hp6 : p < 6 := by have := ho.1; omega
              obtain ⟨n, hn, rfl⟩ := wi_n (k := 60) (by decide) c_67
              refine ax_iload_n (i := 3) dX11_on_73 rfl rfl ?_
              refine ax_if_ne (tgt := 85) dX11_on_74 (by decide) (fun c_74 => ?_) (fun c_74 => ?_)
              · exact absurd (by decide) c_74
              · refine ax_aload_n (i := 0) dX11_on_77 rfl rfl ?_
                refine ax_iload_n (i := 1) dX11_on_78 rfl rfl ?_
                refine ax_iload dX11_on_79 rfl ?_
                refine ax_top (congrArg Value.int ep) ?_
                refine ax_cVq dX11_on_81 lk_X11_76 (c_lightOn hZ (trP_vC (trP_refl (Z := Z) (G := G)) hv ho.1 (Or.inl rfl)) ho n p hn (by omega) hp) rfl (OKs hZ rfl) ⟨_, rfl, rfl⟩ rfl (Nat.le_of_ble_eq_true rfl) (Nat.le_of_ble_eq_true rfl) (Nat.le_of_ble_eq_true rfl) (Nat.le_of_ble_eq_true rfl) ?_
                rintro Z1 G1 _ ⟨rfl, t'1⟩
                have t1 := trP_trans (trP_refl (Z := Z) (G := G)) t'1
                refine ax_iret dX11_on_84 rfl rfl (Nat.le_of_ble_eq_true rfl) (Nat.le_of_ble_eq_true rfl) ?_
                exact ⟨congrArg (fun z => some (Value.int z)) (Eq.symm (by unfold onV; rw [if_neg c_3, if_pos c_9]; rw [if_neg c_54]; rw [if_neg c_67, nI_clamp (by omega), ep, nI_clamp (by omega)])), rfl, t1⟩
            · refine ax_bipush (v := (-2)) dX11_on_70 (by decide) ?_
              refine ax_iret dX11_on_72 rfl rfl (Nat.le_of_ble_eq_true rfl) (Nat.le_of_ble_eq_true rfl) ?_
              exact ⟨congrArg (fun z => some (Value.int z)) (Eq.symm (by unfold onV; rw [if_neg c_3, if_pos c_9]; rw [if_neg c_54]; rw [if_pos c_67])), rfl, (trP_refl (Z := Z) (G := G))⟩
          · refine ax_sipush (v := (-10001)) dX11_on_57 (by decide) ?_
            refine ax_iret dX11_on_60 rfl rfl (Nat.le_of_ble_eq_true rfl) (Nat.le_of_ble_eq_true rfl) ?_
            exact ⟨congrArg (fun z => some (Value.int z)) (Eq.symm (by unfold onV; rw [if_neg c_3, if_pos c_9]; rw [if_pos c_54])), rfl, (trP_refl (Z := Z) (G := G))⟩
        · exact absurd c_9 c_32
      · exact absurd (by decide) c_19
    · refine ax_iconst (v := 1) dX11_on_12 (by decide) ?_
      refine ax_goto (tgt := 17) dX11_on_13 (by decide) ?_
      refine ax_istore_n (i := 3) dX11_on_17 rfl (by decide) rfl ?_
      refine ax_iload_n (i := 3) dX11_on_18 rfl rfl ?_
      refine ax_if_eq (tgt := 29) dX11_on_19 (by decide) (fun c_19 => ?_) (fun c_19 => ?_)
      · exact absurd c_19 (by decide)
      · refine ax_iload_n (i := 2) dX11_on_22 rfl rfl ?_
        refine ax_bipush (v := 10) dX11_on_23 (by decide) ?_
        refine ax_isub dX11_on_25 ?_
        refine ax_goto (tgt := 43) dX11_on_26 (by decide) ?_
        refine ax_istore dX11_on_43 (by decide) rfl ?_
        refine ax_aload_n (i := 0) dX11_on_45 rfl rfl ?_
        refine ax_getR dX11_on_46 fl_X11_14 rfl (OKs hZ rfl) (OKr hZ rfl) ?_
        refine ax_iload dX11_on_49 rfl ?_
        refine ax_cVv dX11_on_51 lk_X11_65 (k_has (isW24 hZ) (trP_vC (trP_refl (Z := Z) (G := G)) hv ho.1 (Or.inl rfl)) (b - 10)) rfl (OKs hZ rfl) ⟨_, rfl, rfl⟩ rfl (Nat.le_of_ble_eq_true rfl) (Nat.le_of_ble_eq_true rfl) (Nat.le_of_ble_eq_true rfl) (Nat.le_of_ble_eq_true rfl) ?_
        refine ax_if_ne (tgt := 61) dX11_on_54 (by decide) (fun c_54 => ?_) (fun c_54 => ?_)
        · refine ax_iload_n (i := 1) dX11_on_61 rfl rfl ?_
          refine ax_bipush (v := 60) dX11_on_62 (by decide) ?_
          refine ax_cSv dX11_on_64 lk_X11_53 (c_X11_within a 60) rfl rfl (Nat.le_of_ble_eq_true rfl) (Nat.le_of_ble_eq_true rfl) (Nat.le_of_ble_eq_true rfl) (Nat.le_of_ble_eq_true rfl) ?_
          refine ax_if_ne (tgt := 73) dX11_on_67 (by decide) (fun c_67 => ?_) (fun c_67 => ?_)
          · obtain ⟨p, hp, ep⟩ := has_p ho.1 c_54
            have hp6 : p < 6 := by have := ho.1; omega
            obtain ⟨n, hn, rfl⟩ := wi_n (k := 60) (by decide) c_67
            refine ax_iload_n (i := 3) dX11_on_73 rfl rfl ?_
            refine ax_if_ne (tgt := 85) dX11_on_74 (by decide) (fun c_74 => ?_) (fun c_74 => ?_)
            · refine ax_aload_n (i := 0) dX11_on_85 rfl rfl ?_
              refine ax_getR dX11_on_86 fl_X11_21 rfl (OKs hZ rfl) (OKr hZ rfl) ?_
              refine ax_aload_n (i := 0) dX11_on_89 rfl rfl ?_
              refine ax_getR dX11_on_90 fl_X11_14 rfl (OKs hZ rfl) (OKr hZ rfl) ?_
              refine ax_cVq0 dX11_on_93 lk_X11_162 (k_go hZ (trP_vC (trP_refl (Z := Z) (G := G)) hv ho.1 (Or.inl rfl)) ho) rfl (OKs hZ rfl) ⟨_, rfl, rfl⟩ rfl (Nat.le_of_ble_eq_true rfl) (Nat.le_of_ble_eq_true rfl) (Nat.le_of_ble_eq_true rfl) (Nat.le_of_ble_eq_true rfl) ?_
              rintro Z1 G1 _ ⟨rfl, t'1, v1⟩
              have t1 := trP_trans (trP_refl (Z := Z) (G := G)) t'1
              refine ax_aload_n (i := 0) dX11_on_96 rfl rfl ?_
              refine ax_getR dX11_on_97 fl_X11_21 rfl (OKs (trP_OK t1 hZ) rfl) (OKr (trP_OK t1 hZ) rfl) ?_
              refine ax_iload_n (i := 1) dX11_on_100 rfl rfl ?_
              refine ax_cVq0 dX11_on_101 lk_X11_158 (k_min (trP_OK t1 hZ) v1 ho n hn (by omega)) rfl (OKs (trP_OK t1 hZ) rfl) ⟨_, rfl, rfl⟩ rfl (Nat.le_of_ble_eq_true rfl) (Nat.le_of_ble_eq_true rfl) (Nat.le_of_ble_eq_true rfl) (Nat.le_of_ble_eq_true rfl) ?_
              rintro Z2 G2 _ ⟨rfl, t'2, v2⟩
              have t2 := trP_trans t1 t'2
              refine ax_aload_n (i := 0) dX11_on_104 rfl rfl ?_
              refine ax_getR dX11_on_105 fl_X11_21 rfl (OKs (trP_OK t2 hZ) rfl) (OKr (trP_OK t2 hZ) rfl) ?_
              refine ax_getR dX11_on_108 fl_X11_87 rfl (OKs (trP_OK t2 hZ) rfl) (OKr (trP_OK t2 hZ) rfl) ?_
              refine ax_iload dX11_on_111 rfl ?_
              refine ax_aaldN p (t0 := 5) dX11_on_113 (OKs (trP_OK t2 hZ) rfl) rfl (fun _ => rfl) ep hp6 (by decide) (Wrf (isW58 (trP_OK t2 hZ)) hp6) ?_
              refine ax_iconst (v := 4) dX11_on_114 (by decide) ?_
              refine ax_ialdN 4 dX11_on_115 (Wrow (isW58 (trP_OK t2 hZ)) hp6) rfl (by decide) (by decide) ?_
              refine ax_iret dX11_on_116 rfl rfl (Nat.le_of_ble_eq_true rfl) (Nat.le_of_ble_eq_true rfl) ?_
              exact ⟨congrArg (fun z => some (Value.int z)) (Eq.symm (by unfold onV; rw [if_neg c_3, if_neg c_9]; rw [if_neg c_54]; rw [if_neg c_67, nI_clamp (by omega), ep, nI_clamp (by omega)]; exact (v2.2.2.1 p (by rw [minVN_m]; exact hp) 4 (by decide)).symm)), rfl, t2⟩
            · exact absurd c_74 (by decide)
          · refine ax_bipush (v := (-2)) dX11_on_70 (by decide) ?_
            refine ax_iret dX11_on_72 rfl rfl (Nat.le_of_ble_eq_true rfl) (Nat.le_of_ble_eq_true rfl) ?_
            exact ⟨congrArg (fun z => some (Value.int z)) (Eq.symm (by unfold onV; rw [if_neg c_3, if_neg c_9]; rw [if_neg c_54]; rw [if_pos c_67])), rfl, (trP_refl (Z := Z) (G := G))⟩
        · refine ax_sipush (v := (-10001)) dX11_on_57 (by decide) ?_
          refine ax_iret dX11_on_60 rfl rfl (Nat.le_of_ble_eq_true rfl) (Nat.le_of_ble_eq_true rfl) ?_
          exact ⟨congrArg (fun z => some (Value.int z)) (Eq.symm (by unfold onV; rw [if_neg c_3, if_neg c_9]; rw [if_pos c_54])), rfl, (trP_refl (Z := Z) (G := G))⟩
theorem c_toldOfAll {Z : Zt} {G : Gt} {L : Lt} {W : Wv} (hZ : OK Z) (hv : vC Z G 24 W) (ho : okW W) (k : Int32) : AC mX11_toldOfAll 2 0 0 [.ref 0, .int k] Z G L (RQ (.int (taV W k)) Z G L) := by
  refine AC.intro (by decide +kernel) (Nat.le_of_ble_eq_true rfl) ?_
  refine ax_lv [(0, .ref 0), (1, .int k)] ⟨rfl, rfl, trivial⟩ ?_
  refine ax_iload_n (i := 1) dX11_toldOfAll_0 rfl rfl ?_
  refine (Decidable.em (k = 0)).elim (fun e_1_0 => ?_) (fun e_1_0 => ?_)
  · refine ax_tin (off := 39) (tgt := 40) dX11_toldOfAll_1 (by rw [e_1_0]; decide) (by rw [e_1_0]; decide) (by rw [e_1_0]; decide) (by decide) ?_
    refine ax_aload_n (i := 0) dX11_toldOfAll_40 rfl rfl ?_
    refine ax_getR dX11_toldOfAll_41 fl_X11_14 rfl (OKs hZ rfl) (OKr hZ rfl) ?_
    refine ax_getI dX11_toldOfAll_44 fl_X11_143 rfl (OKs hZ rfl) ?_
    refine ax_iret dX11_toldOfAll_47 rfl rfl (Nat.le_of_ble_eq_true rfl) (Nat.le_of_ble_eq_true rfl) ?_
    exact rq (Eq.symm (by unfold taV; (try rw [if_pos e_1_0]); first | done | exact hv.2.1.symm | exact hv.2.2.2.2.2.2.1.symm))
  refine (Decidable.em (k = 1)).elim (fun e_1_1 => ?_) (fun e_1_1 => ?_)
  · refine ax_tin (off := 47) (tgt := 48) dX11_toldOfAll_1 (by rw [e_1_1]; decide) (by rw [e_1_1]; decide) (by rw [e_1_1]; decide) (by decide) ?_
    refine ax_aload_n (i := 0) dX11_toldOfAll_48 rfl rfl ?_
    refine ax_getR dX11_toldOfAll_49 fl_X11_14 rfl (OKs hZ rfl) (OKr hZ rfl) ?_
    refine ax_cVv dX11_toldOfAll_52 lk_X11_146 (c_X10_dryness (isW24 hZ) hv.2.2.2.2.2.1) rfl (OKs hZ rfl) ⟨_, rfl, rfl⟩ rfl (Nat.le_of_ble_eq_true rfl) (Nat.le_of_ble_eq_true rfl) (Nat.le_of_ble_eq_true rfl) (Nat.le_of_ble_eq_true rfl) ?_
    refine ax_iret dX11_toldOfAll_55 rfl rfl (Nat.le_of_ble_eq_true rfl) (Nat.le_of_ble_eq_true rfl) ?_
    exact rq (Eq.symm (by unfold taV; (try rw [if_neg e_1_0]); (try rw [if_pos e_1_1]); first | done | exact hv.2.1.symm | exact hv.2.2.2.2.2.2.1.symm))
  refine (Decidable.em (k = 2)).elim (fun e_1_2 => ?_) (fun e_1_2 => ?_)
  · refine ax_tin (off := 55) (tgt := 56) dX11_toldOfAll_1 (by rw [e_1_2]; decide) (by rw [e_1_2]; decide) (by rw [e_1_2]; decide) (by decide) ?_
    refine ax_aload_n (i := 0) dX11_toldOfAll_56 rfl rfl ?_
    refine ax_getR dX11_toldOfAll_57 fl_X11_14 rfl (OKs hZ rfl) (OKr hZ rfl) ?_
    refine ax_cVv dX11_toldOfAll_60 lk_X11_149 (k_even (isW24 hZ) hv) rfl (OKs hZ rfl) ⟨_, rfl, rfl⟩ rfl (Nat.le_of_ble_eq_true rfl) (Nat.le_of_ble_eq_true rfl) (Nat.le_of_ble_eq_true rfl) (Nat.le_of_ble_eq_true rfl) ?_
    refine ax_iret dX11_toldOfAll_63 rfl rfl (Nat.le_of_ble_eq_true rfl) (Nat.le_of_ble_eq_true rfl) ?_
    exact rq (Eq.symm (by unfold taV; (try rw [if_neg e_1_0]); (try rw [if_neg e_1_1]); (try rw [if_pos e_1_2]); first | done | exact hv.2.1.symm | exact hv.2.2.2.2.2.2.1.symm))
  refine (Decidable.em (k = 3)).elim (fun e_1_3 => ?_) (fun e_1_3 => ?_)
  · refine ax_tin (off := 63) (tgt := 64) dX11_toldOfAll_1 (by rw [e_1_3]; decide) (by rw [e_1_3]; decide) (by rw [e_1_3]; decide) (by decide) ?_
    refine ax_aload_n (i := 0) dX11_toldOfAll_64 rfl rfl ?_
    refine ax_getR dX11_toldOfAll_65 fl_X11_14 rfl (OKs hZ rfl) (OKr hZ rfl) ?_
    refine ax_cVv dX11_toldOfAll_68 lk_X11_152 (k_sum (isW24 hZ) hv) rfl (OKs hZ rfl) ⟨_, rfl, rfl⟩ rfl (Nat.le_of_ble_eq_true rfl) (Nat.le_of_ble_eq_true rfl) (Nat.le_of_ble_eq_true rfl) (Nat.le_of_ble_eq_true rfl) ?_
    refine ax_iret dX11_toldOfAll_71 rfl rfl (Nat.le_of_ble_eq_true rfl) (Nat.le_of_ble_eq_true rfl) ?_
    exact rq (Eq.symm (by unfold taV; (try rw [if_neg e_1_0]); (try rw [if_neg e_1_1]); (try rw [if_neg e_1_2]); (try rw [if_pos e_1_3]); first | done | exact hv.2.1.symm | exact hv.2.2.2.2.2.2.1.symm))
  refine (Decidable.em (k = 4)).elim (fun e_1_4 => ?_) (fun e_1_4 => ?_)
  · refine ax_tin (off := 71) (tgt := 72) dX11_toldOfAll_1 (by rw [e_1_4]; decide) (by rw [e_1_4]; decide) (by rw [e_1_4]; decide) (by decide) ?_
    refine ax_aload_n (i := 0) dX11_toldOfAll_72 rfl rfl ?_
    refine ax_getR dX11_toldOfAll_73 fl_X11_14 rfl (OKs hZ rfl) (OKr hZ rfl) ?_
    refine ax_iconst (v := 0) dX11_toldOfAll_76 (by decide) ?_
    refine ax_cVv dX11_toldOfAll_77 lk_X11_155 (k_in (isW24 hZ) hv ho 0) rfl (OKs hZ rfl) ⟨_, rfl, rfl⟩ rfl (Nat.le_of_ble_eq_true rfl) (Nat.le_of_ble_eq_true rfl) (Nat.le_of_ble_eq_true rfl) (Nat.le_of_ble_eq_true rfl) ?_
    refine ax_iret dX11_toldOfAll_80 rfl rfl (Nat.le_of_ble_eq_true rfl) (Nat.le_of_ble_eq_true rfl) ?_
    exact rq (Eq.symm (by unfold taV; (try rw [if_neg e_1_0]); (try rw [if_neg e_1_1]); (try rw [if_neg e_1_2]); (try rw [if_neg e_1_3]); (try rw [if_pos e_1_4]); first | done | exact hv.2.1.symm | exact hv.2.2.2.2.2.2.1.symm))
  refine (Decidable.em (k = 5)).elim (fun e_1_5 => ?_) (fun e_1_5 => ?_)
  · refine ax_tin (off := 80) (tgt := 81) dX11_toldOfAll_1 (by rw [e_1_5]; decide) (by rw [e_1_5]; decide) (by rw [e_1_5]; decide) (by decide) ?_
    refine ax_aload_n (i := 0) dX11_toldOfAll_81 rfl rfl ?_
    refine ax_getR dX11_toldOfAll_82 fl_X11_14 rfl (OKs hZ rfl) (OKr hZ rfl) ?_
    refine ax_iconst (v := 2) dX11_toldOfAll_85 (by decide) ?_
    refine ax_cVv dX11_toldOfAll_86 lk_X11_155 (k_in (isW24 hZ) hv ho 2) rfl (OKs hZ rfl) ⟨_, rfl, rfl⟩ rfl (Nat.le_of_ble_eq_true rfl) (Nat.le_of_ble_eq_true rfl) (Nat.le_of_ble_eq_true rfl) (Nat.le_of_ble_eq_true rfl) ?_
    refine ax_iret dX11_toldOfAll_89 rfl rfl (Nat.le_of_ble_eq_true rfl) (Nat.le_of_ble_eq_true rfl) ?_
    exact rq (Eq.symm (by unfold taV; (try rw [if_neg e_1_0]); (try rw [if_neg e_1_1]); (try rw [if_neg e_1_2]); (try rw [if_neg e_1_3]); (try rw [if_neg e_1_4]); (try rw [if_pos e_1_5]); first | done | exact hv.2.1.symm | exact hv.2.2.2.2.2.2.1.symm))
  refine ax_tout (tgt := 90) dX11_toldOfAll_1 (sw_out 6 (by decide) (by decide) ⟨⟨⟨⟨⟨⟨trivial, e_1_0⟩, e_1_1⟩, e_1_2⟩, e_1_3⟩, e_1_4⟩, e_1_5⟩) (by decide) ?_
  refine ax_iconst (v := (-1)) dX11_toldOfAll_90 (by decide) ?_
  refine ax_iret dX11_toldOfAll_91 rfl rfl (Nat.le_of_ble_eq_true rfl) (Nat.le_of_ble_eq_true rfl) ?_
  exact rq (Eq.symm (by unfold taV; (try rw [if_neg e_1_0]); (try rw [if_neg e_1_1]); (try rw [if_neg e_1_2]); (try rw [if_neg e_1_3]); (try rw [if_neg e_1_4]); (try rw [if_neg e_1_5]); first | done | exact hv.2.1.symm | exact hv.2.2.2.2.2.2.1.symm))
theorem met_ofWF {l : Launch} {y : MethodName} {ws ws' : List Cond} {rm : Room} {Pc : Array Value → State → Prop} {Qc : Array Value → State → Outcome → State → Prop} {mc ms : Nat} {free : Addr → Prop} {cc : ByteArray} {maxL : Nat} {ret : Option FieldType} (hy : plainFor y = true) (hw : ws = Cond.code y cc maxL ret :: ws')
    (body : ∀ p e s m args below meth c s₁, BodyLoose p l y (headSpec ws rm) cc maxL ret e s m args below meth c s₁ → c.maxLocals = maxL → Pc args s → W p l e (headSpec ws rm).room s m args below meth c s.heap [] 0 0 (MQ below Qc args s mc ms free) (entryFrame m args maxL)) : Met l y ws rm Pc Qc mc ms free := by
  refine MetFree.of_bodySF (code := cc) (maxLocals := maxL) (ret := ret) hy ?_ ?_
  · intro args s m h hn
    obtain ⟨meth, c, h1, h2, h3, h4, h5, h6, -, -⟩ := Cond.code_spec hn (atoms_spec (ws := ws) h _ (by rw [hw]; exact List.mem_cons_self))
    exact ⟨meth, c, h1, h2, h3, h4, h5, h6⟩
  · intro p e s m args below meth c s₁ B hml hP _
    obtain ⟨t, a1, o, b1, b2, b3⟩ := body p e s m args below meth c s₁ B hml hP s₁ (by rw [B.state]; rfl) (Stand.of_body B)
    exact ⟨t, o, a1, b1, b2, ⟨b3.1, b3.2⟩⟩
theorem AC.introF {M : Mt} {d mc ms : Nat} {av : List Value} {Z : Zt} {G : Gt} {L : Lt} {Q : Qt} (hy : plainFor M.1 = true) (hfit : (lg_sl av).length ≤ M.2.2.1) (k : AX none M d mc ms 0 0 0 (lv_args 0 av) [] Z G L Q) : AC M d mc ms av Z G L Q := by
  intro l dC dI tc ad sz
  refine met_ofWF (cc := M.2.1) (maxL := M.2.2.1) (ret := M.2.2.2) hy rfl ?_
  intro p e s m args below meth c s₁ B hml hv
  obtain ⟨rfl, hsz, hK, hP, hD0, hSF, hWF, hok⟩ := hv
  subst hsz
  have hts := atoms_spec (ws := wsx M) B.pre
  have hl := lv_entry (cs ad av) (n := M.2.2.1) (by rw [lg_sl_cs]; exact hfit)
  rw [lg_entry_eq]
  generalize (lg_sl (cs ad av) ++ List.replicate (M.2.2.1 - (lg_sl (cs ad av)).length) Slot.unset).toArray = ls at hl ⊢
  refine k p l e _ s m _ below meth c s.heap [] ls dC dI tc ad (va_A (cw tc ad Z G L) s.heap.size) Z.1 ad _ ⟨B.exec, B.bytes, hml, B.returns, findClass_of_methodNamed B.named, fun w h => hts w (List.mem_cons_of_mem _ h), B.notSynchronized, (name_of_methodNamed B.named B.method).1, Nat.le_refl _, Nat.le_refl _, Nat.le_refl _, Nat.le_refl _⟩ ⟨hK, hP, hD0.self, va_S.rf, fun q h => Or.inr h, hSF, trivial, hWF⟩ (okL_args av 0 hok) trivial ⟨hl.1, hl.2.1, fun j v h => hl.2.2 _ (lv_args_cs ad av 0 j v h)⟩ Ag_rf (Nat.le_refl _) ?_
  refine ⟨fun h => absurd rfl h, ?_⟩
  intro r Z' G' L' ad' H locs pc ls2 hq hW hokr hAg hN hRI
  obtain ⟨hK', hP', hD', hS', hA', hSF', -, hWF'⟩ := hW
  have hpost : ∀ t : State, t.heap = H → s.WarmedH t.vm → Qcx dC dI tc ad s.heap.size Z G L Q (cs ad av).toArray s (.returned (r.map (cv ad'))) t := fun t ht hWt => ⟨⟨r, Z', G', L', ad', rfl, hq, hAg, hN, hokr, hWF', by rw [ht]; exact hP', hD'⟩, hS'.F ht⟩
  have hlocks := B.notSynchronized
  cases r with
  | none => exact W.vret B.exec B.bytes (B.returns.trans hRI.2) hpost hS'.2.2 hRI.1
  | some v =>
    cases v with
    | int x =>
      obtain ⟨h1, ty, h2, h3⟩ := hRI
      exact W.zret B.exec B.bytes (B.returns.trans h2) h3 hpost hS'.2.2 h1
    | long x =>
      obtain ⟨h1, h2⟩ := hRI
      exact W.lret B.exec B.bytes (B.returns.trans h2) hpost hS'.2.2 h1
    | ref x =>
      obtain ⟨h1, rt, h2, h3⟩ := hRI
      exact W.aret B.exec B.bytes (B.returns.trans h2) h3 (Or.inr ⟨_, rfl⟩) hpost hS'.2.2 h1
    | _ => exact hRI.elim
def r_fdiv (G : Gt) (L : Lt) (a : Int32) (b : Int32) : Int32 := if 0 ≤ (a ^^^ b) then (a / b) else (if ((a / b) * b) = a then (a / b) else ((a / b) - 1))
theorem c_fdiv {Z : Zt} {G : Gt} {L : Lt}   (a : Int32) (b : Int32) (hb : ¬ b = 0) : AC mJ9_floorDiv_7cf53 1 0 0 [.int a, .int b] Z G L (DQ (some (.int (r_fdiv G L a b))) Z G L) := by
  refine AC.introF (by decide +kernel) (Nat.le_of_ble_eq_true rfl) ?_
  refine ax_lv [(0, .int a), (1, .int b)] ⟨rfl, rfl, trivial⟩ ?_
  refine ax_iload_n (i := 0) dJ9_floorDiv_7cf53_0 rfl rfl ?_
  refine ax_iload_n (i := 1) dJ9_floorDiv_7cf53_1 rfl rfl ?_
  refine ax_idiv dJ9_floorDiv_7cf53_2 hb ?_
  refine ax_istore_n (i := 2) dJ9_floorDiv_7cf53_3 rfl (by decide) rfl ?_
  refine ax_iload_n (i := 0) dJ9_floorDiv_7cf53_4 rfl rfl ?_
  refine ax_iload_n (i := 1) dJ9_floorDiv_7cf53_5 rfl rfl ?_
  refine ax_ixor dJ9_floorDiv_7cf53_6 ?_
  refine ax_if_ge (tgt := 21) dJ9_floorDiv_7cf53_7 (by decide) (fun c_7 => ?_) (fun c_7 => ?_)
  · refine ax_iload_n (i := 2) dJ9_floorDiv_7cf53_21 rfl rfl ?_
    refine ax_iret dJ9_floorDiv_7cf53_22 rfl rfl (Nat.le_of_ble_eq_true rfl) (Nat.le_of_ble_eq_true rfl) ?_
    exact ⟨congrArg (fun z => some (Value.int z)) (Eq.symm (by unfold r_fdiv; (try rw [if_pos c_7]); first | done | rfl)), rfl, rfl, rfl⟩
  · refine ax_iload_n (i := 2) dJ9_floorDiv_7cf53_10 rfl rfl ?_
    refine ax_iload_n (i := 1) dJ9_floorDiv_7cf53_11 rfl rfl ?_
    refine ax_imul dJ9_floorDiv_7cf53_12 ?_
    refine ax_iload_n (i := 0) dJ9_floorDiv_7cf53_13 rfl rfl ?_
    refine ax_icmp_eq (tgt := 21) dJ9_floorDiv_7cf53_14 (by decide) (fun c_14 => ?_) (fun c_14 => ?_)
    · refine ax_iload_n (i := 2) dJ9_floorDiv_7cf53_21 rfl rfl ?_
      refine ax_iret dJ9_floorDiv_7cf53_22 rfl rfl (Nat.le_of_ble_eq_true rfl) (Nat.le_of_ble_eq_true rfl) ?_
      exact ⟨congrArg (fun z => some (Value.int z)) (Eq.symm (by unfold r_fdiv; (try rw [if_neg c_7]); (try rw [if_pos c_14]); first | done | rfl)), rfl, rfl, rfl⟩
    · refine ax_iload_n (i := 2) dJ9_floorDiv_7cf53_17 rfl rfl ?_
      refine ax_iconst (v := 1) dJ9_floorDiv_7cf53_18 (by decide) ?_
      refine ax_isub dJ9_floorDiv_7cf53_19 ?_
      refine ax_iret dJ9_floorDiv_7cf53_20 rfl rfl (Nat.le_of_ble_eq_true rfl) (Nat.le_of_ble_eq_true rfl) ?_
      exact ⟨congrArg (fun z => some (Value.int z)) (Eq.symm (by unfold r_fdiv; (try rw [if_neg c_7]); (try rw [if_neg c_14]); first | done | rfl)), rfl, rfl, rfl⟩
def r_fmod (G : Gt) (L : Lt) (a : Int32) (b : Int32) : Int32 := if 0 ≤ (a ^^^ b) then (a - a / b * b) else (if (a - a / b * b) = 0 then (a - a / b * b) else ((a - a / b * b) + b))
theorem c_fmod {Z : Zt} {G : Gt} {L : Lt}   (a : Int32) (b : Int32) (hb : ¬ b = 0) : AC mJ9_floorMod_7cf53 1 0 0 [.int a, .int b] Z G L (DQ (some (.int (r_fmod G L a b))) Z G L) := by
  refine AC.introF (by decide +kernel) (Nat.le_of_ble_eq_true rfl) ?_
  refine ax_lv [(0, .int a), (1, .int b)] ⟨rfl, rfl, trivial⟩ ?_
  refine ax_iload_n (i := 0) dJ9_floorMod_7cf53_0 rfl rfl ?_
  refine ax_iload_n (i := 1) dJ9_floorMod_7cf53_1 rfl rfl ?_
  refine ax_irem dJ9_floorMod_7cf53_2 hb ?_
  refine ax_istore_n (i := 2) dJ9_floorMod_7cf53_3 rfl (by decide) rfl ?_
  refine ax_iload_n (i := 0) dJ9_floorMod_7cf53_4 rfl rfl ?_
  refine ax_iload_n (i := 1) dJ9_floorMod_7cf53_5 rfl rfl ?_
  refine ax_ixor dJ9_floorMod_7cf53_6 ?_
  refine ax_if_ge (tgt := 18) dJ9_floorMod_7cf53_7 (by decide) (fun c_7 => ?_) (fun c_7 => ?_)
  · refine ax_iload_n (i := 2) dJ9_floorMod_7cf53_18 rfl rfl ?_
    refine ax_iret dJ9_floorMod_7cf53_19 rfl rfl (Nat.le_of_ble_eq_true rfl) (Nat.le_of_ble_eq_true rfl) ?_
    exact ⟨congrArg (fun z => some (Value.int z)) (Eq.symm (by unfold r_fmod; (try rw [if_pos c_7]); first | done | rfl)), rfl, rfl, rfl⟩
  · refine ax_iload_n (i := 2) dJ9_floorMod_7cf53_10 rfl rfl ?_
    refine ax_if_eq (tgt := 18) dJ9_floorMod_7cf53_11 (by decide) (fun c_11 => ?_) (fun c_11 => ?_)
    · refine ax_iload_n (i := 2) dJ9_floorMod_7cf53_18 rfl rfl ?_
      refine ax_iret dJ9_floorMod_7cf53_19 rfl rfl (Nat.le_of_ble_eq_true rfl) (Nat.le_of_ble_eq_true rfl) ?_
      exact ⟨congrArg (fun z => some (Value.int z)) (Eq.symm (by unfold r_fmod; (try rw [if_neg c_7]); (try rw [if_pos c_11]); first | done | rfl)), rfl, rfl, rfl⟩
    · refine ax_iload_n (i := 2) dJ9_floorMod_7cf53_14 rfl rfl ?_
      refine ax_iload_n (i := 1) dJ9_floorMod_7cf53_15 rfl rfl ?_
      refine ax_iadd dJ9_floorMod_7cf53_16 ?_
      refine ax_iret dJ9_floorMod_7cf53_17 rfl rfl (Nat.le_of_ble_eq_true rfl) (Nat.le_of_ble_eq_true rfl) ?_
      exact ⟨congrArg (fun z => some (Value.int z)) (Eq.symm (by unfold r_fmod; (try rw [if_neg c_7]); (try rw [if_neg c_11]); first | done | rfl)), rfl, rfl, rfl⟩
def toR (W : Wv) (g k : Int32) : Int32 := if g = 0 then taV W k else if g = 1 then (if 4 ≤ k then -1 else W.rn k.toNatClampNeg) else if g = 2 then (if 4 ≤ k then -1 else W.gr k.toNatClampNeg) else if g = 3 then (if 4 ≤ k then -1 else (enV W k.toNatClampNeg 64).1) else -1
def toldV (W : Wv) (a : Int32) : Int32 := toR W (r_fdiv (fun _ _ => 0) (fun _ _ => 0) a 10) (r_fmod (fun _ _ => 0) (fun _ _ => 0) a 10)
theorem tm_facts (a : Int) : 10 * a.tdiv 10 + a.tmod 10 = a ∧ -10 < a.tmod 10 ∧ a.tmod 10 < 10 ∧ (0 ≤ a → 0 ≤ a.tmod 10) ∧ (a ≤ 0 → a.tmod 10 ≤ 0) := by
  refine ⟨Int.mul_tdiv_add_tmod a 10, Int.lt_tmod_of_pos a (by decide), Int.tmod_lt_of_pos a (by decide), Int.tmod_nonneg 10, fun h => ?_⟩
  have h1 := Int.tmod_nonneg (a := -a) 10 (by omega)
  rw [Int.neg_tmod] at h1
  omega
theorem bmod_in {x : Int} (h : -2147483648 ≤ x) (h2 : x < 2147483648) : x.bmod (2 ^ 32) = x := by
  rw [Int.bmod_def]
  omega
theorem rem_i (a : Int32) : (a - a / 10 * 10).toInt = a.toInt.tmod 10 ∧ (a / 10).toInt = a.toInt.tdiv 10 := by
  have h1 := Int32.toInt_lt a
  have h2 := Int32.le_toInt a
  obtain ⟨f1, f2, f3, f4, f5⟩ := tm_facts a.toInt
  have e1 : (a / 10).toInt = a.toInt.tdiv 10 := by
    rw [Int32.toInt_div]
    exact bmod_in (by show _ ≤ a.toInt.tdiv 10; omega) (by show a.toInt.tdiv 10 < _; omega)
  refine ⟨?_, e1⟩
  rw [Int32.toInt_sub, Int32.toInt_mul, e1]
  show (a.toInt - (a.toInt.tdiv 10 * 10).bmod (2 ^ 32)).bmod (2 ^ 32) = a.toInt.tmod 10
  rw [bmod_in (x := a.toInt.tdiv 10 * 10) (by omega) (by omega), bmod_in (by omega) (by omega)]
  omega
theorem x10 (a : Int32) : (0 : Int32) ≤ a ^^^ 10 ↔ 0 ≤ a := by
  rw [Int32.le_iff_toBitVec_sle, Int32.le_iff_toBitVec_sle, Int32.toBitVec_xor]
  generalize a.toBitVec = v
  show (0#32).sle (v ^^^ 10#32) = true ↔ (0#32).sle v = true
  rw [BitVec.zero_sle_iff_msb_eq_false, BitVec.zero_sle_iff_msb_eq_false, BitVec.msb_xor]
  show (v.msb ^^ false) = false ↔ v.msb = false
  rw [Bool.xor_false]
theorem le0 {a : Int32} : 0 ≤ a ↔ 0 ≤ a.toInt := Int32.le_iff_toInt_le
theorem fmod_r {G : Gt} {L : Lt} {a : Int32} : ∃ k, k < 10 ∧ r_fmod G L a 10 = nI k := by
  obtain ⟨f1, f2, f3, f4, f5⟩ := tm_facts a.toInt
  have key : 0 ≤ (r_fmod G L a 10).toInt ∧ (r_fmod G L a 10).toInt < 10 := by
    unfold r_fmod
    by_cases c : (0 : Int32) ≤ a ^^^ 10
    · rw [if_pos c, (rem_i a).1]
      have := f4 (le0.mp ((x10 a).mp c))
      omega
    · rw [if_neg c]
      have hn : ¬ 0 ≤ a.toInt := fun h => c ((x10 a).mpr (le0.mpr h))
      by_cases e : a - a / 10 * 10 = 0
      · rw [if_pos e, e]; decide
      · rw [if_neg e]
        have e0 : (a - a / 10 * 10).toInt ≠ 0 := fun h => e (Int32.toInt_inj.mp h)
        rw [(rem_i a).1] at e0
        rw [Int32.toInt_add, (rem_i a).1]
        show 0 ≤ (a.toInt.tmod 10 + 10).bmod (2 ^ 32) ∧ (a.toInt.tmod 10 + 10).bmod (2 ^ 32) < 10
        have := f5 (by omega)
        rw [bmod_in (by omega) (by omega)]
        omega
  refine ⟨(r_fmod G L a 10).toInt.toNat, by omega, ?_⟩
  apply Int32.toInt_inj.mp
  rw [nI_toInt (by omega)]
  omega
theorem c_told {Z : Zt} {G : Gt} {L : Lt} {W : Wv} (hZ : OK Z) (hv : vC Z G 24 W) (ho : okW W) (a : Int32) : AC mX11_told 8 0 0 [.ref 0, .int a] Z G L (RP (.int (toldV W a)) (TP Z G L)) := by
  refine AC.intro (by decide +kernel) (Nat.le_of_ble_eq_true rfl) ?_
  refine ax_lv [(0, .ref 0), (1, .int a)] ⟨rfl, rfl, trivial⟩ ?_
  refine ax_iload_n (i := 1) dX11_told_0 rfl rfl ?_
  refine ax_bipush (v := 10) dX11_told_1 (by decide) ?_
  refine ax_cSv dX11_told_3 lk_X11_129 (c_fdiv a 10 (by decide)) rfl rfl (Nat.le_of_ble_eq_true rfl) (Nat.le_of_ble_eq_true rfl) (Nat.le_of_ble_eq_true rfl) (Nat.le_of_ble_eq_true rfl) ?_
  refine ax_istore_n (i := 2) dX11_told_6 rfl (by decide) rfl ?_
  refine ax_iload_n (i := 1) dX11_told_7 rfl rfl ?_
  refine ax_bipush (v := 10) dX11_told_8 (by decide) ?_
  refine ax_cSv dX11_told_10 lk_X11_134 (c_fmod a 10 (by decide)) rfl rfl (Nat.le_of_ble_eq_true rfl) (Nat.le_of_ble_eq_true rfl) (Nat.le_of_ble_eq_true rfl) (Nat.le_of_ble_eq_true rfl) ?_
  obtain ⟨k9, hk9, ek9⟩ := fmod_r (G := G) (L := L) (a := a)
  have ed9 : r_fdiv (fun _ _ => 0) (fun _ _ => 0) a 10 = r_fdiv G L a 10 := rfl
  refine ax_top (congrArg Value.int ek9) ?_
  refine ax_istore_n (i := 3) dX11_told_13 rfl (by decide) rfl ?_
  refine ax_iload_n (i := 2) dX11_told_14 rfl rfl ?_
  refine (Decidable.em ((r_fdiv G L a 10) = 0)).elim (fun e_15_0 => ?_) (fun e_15_0 => ?_)
  · refine ax_tin (off := 29) (tgt := 44) dX11_told_15 (by rw [e_15_0]; decide) (by rw [e_15_0]; decide) (by rw [e_15_0]; decide) (by decide) ?_
    refine ax_aload_n (i := 0) dX11_told_44 rfl rfl ?_
    refine ax_iload_n (i := 3) dX11_told_45 rfl rfl ?_
    refine ax_cVv dX11_told_46 lk_X11_137 (c_toldOfAll hZ hv ho (nI k9)) rfl (OKs hZ rfl) ⟨_, rfl, rfl⟩ rfl (Nat.le_of_ble_eq_true rfl) (Nat.le_of_ble_eq_true rfl) (Nat.le_of_ble_eq_true rfl) (Nat.le_of_ble_eq_true rfl) ?_
    refine ax_iret dX11_told_49 rfl rfl (Nat.le_of_ble_eq_true rfl) (Nat.le_of_ble_eq_true rfl) ?_
    exact ⟨congrArg (fun z => some (Value.int z)) (Eq.symm (by unfold toldV; rw [show r_fmod (fun _ _ => 0) (fun _ _ => 0) a 10 = nI k9 from ek9, ed9]; unfold toR; (try rw [if_pos e_15_0]))), rfl, (trP_refl (Z := Z) (G := G))⟩
  refine (Decidable.em ((r_fdiv G L a 10) = 1)).elim (fun e_15_1 => ?_) (fun e_15_1 => ?_)
  · refine ax_tin (off := 35) (tgt := 50) dX11_told_15 (by rw [e_15_1]; decide) (by rw [e_15_1]; decide) (by rw [e_15_1]; decide) (by decide) ?_
    refine ax_iload_n (i := 3) dX11_told_50 rfl rfl ?_
    refine ax_iconst (v := 4) dX11_told_51 (by decide) ?_
    refine ax_icmp_ge (tgt := 67) dX11_told_52 (by decide) (fun c_52 => ?_) (fun c_52 => ?_)
    · refine ax_iconst (v := (-1)) dX11_told_67 (by decide) ?_
      refine ax_iret dX11_told_68 rfl rfl (Nat.le_of_ble_eq_true rfl) (Nat.le_of_ble_eq_true rfl) ?_
      exact ⟨congrArg (fun z => some (Value.int z)) (Eq.symm (by unfold toldV; rw [show r_fmod (fun _ _ => 0) (fun _ _ => 0) a 10 = nI k9 from ek9, ed9]; unfold toR; (try rw [if_neg e_15_0]); (try rw [if_pos e_15_1]); (try rw [if_pos c_52]))), rfl, (trP_refl (Z := Z) (G := G))⟩
    · refine ax_aload_n (i := 0) dX11_told_55 rfl rfl ?_
      refine ax_getR dX11_told_56 fl_X11_14 rfl (OKs hZ rfl) (OKr hZ rfl) ?_
      refine ax_getR dX11_told_59 fl_X11_104 rfl (OKs hZ rfl) (OKr hZ rfl) ?_
      refine ax_iload_n (i := 3) dX11_told_62 rfl rfl ?_
      refine ax_ialdN k9 dX11_told_63 (OKs hZ rfl) rfl (show k9 < 4 by have := mt (nI_leI (by decide) (by omega)).mpr (show ¬ nI 4 ≤ nI k9 from c_52); omega) (by decide) ?_
      refine ax_goto (tgt := 68) dX11_told_64 (by decide) ?_
      refine ax_iret dX11_told_68 rfl rfl (Nat.le_of_ble_eq_true rfl) (Nat.le_of_ble_eq_true rfl) ?_
      exact ⟨congrArg (fun z => some (Value.int z)) (Eq.symm (by unfold toldV; rw [show r_fmod (fun _ _ => 0) (fun _ _ => 0) a 10 = nI k9 from ek9, ed9]; unfold toR; (try rw [if_neg e_15_0]); (try rw [if_pos e_15_1]); (try rw [if_neg c_52]); rw [nI_clamp (by omega)]; exact (hv.2.2.2.2.1 k9 (show k9 < 4 by have := mt (nI_leI (by decide) (by omega)).mpr (show ¬ nI 4 ≤ nI k9 from c_52); omega)).symm)), rfl, (trP_refl (Z := Z) (G := G))⟩
  refine (Decidable.em ((r_fdiv G L a 10) = 2)).elim (fun e_15_2 => ?_) (fun e_15_2 => ?_)
  · refine ax_tin (off := 54) (tgt := 69) dX11_told_15 (by rw [e_15_2]; decide) (by rw [e_15_2]; decide) (by rw [e_15_2]; decide) (by decide) ?_
    refine ax_iload_n (i := 3) dX11_told_69 rfl rfl ?_
    refine ax_iconst (v := 4) dX11_told_70 (by decide) ?_
    refine ax_icmp_ge (tgt := 86) dX11_told_71 (by decide) (fun c_71 => ?_) (fun c_71 => ?_)
    · refine ax_iconst (v := (-1)) dX11_told_86 (by decide) ?_
      refine ax_iret dX11_told_87 rfl rfl (Nat.le_of_ble_eq_true rfl) (Nat.le_of_ble_eq_true rfl) ?_
      exact ⟨congrArg (fun z => some (Value.int z)) (Eq.symm (by unfold toldV; rw [show r_fmod (fun _ _ => 0) (fun _ _ => 0) a 10 = nI k9 from ek9, ed9]; unfold toR; (try rw [if_neg e_15_0]); (try rw [if_neg e_15_1]); (try rw [if_pos e_15_2]); (try rw [if_pos c_71]))), rfl, (trP_refl (Z := Z) (G := G))⟩
    · refine ax_aload_n (i := 0) dX11_told_74 rfl rfl ?_
      refine ax_getR dX11_told_75 fl_X11_14 rfl (OKs hZ rfl) (OKr hZ rfl) ?_
      refine ax_getR dX11_told_78 fl_X11_101 rfl (OKs hZ rfl) (OKr hZ rfl) ?_
      refine ax_iload_n (i := 3) dX11_told_81 rfl rfl ?_
      refine ax_ialdN k9 dX11_told_82 (OKs hZ rfl) rfl (show k9 < 4 by have := mt (nI_leI (by decide) (by omega)).mpr (show ¬ nI 4 ≤ nI k9 from c_71); omega) (by decide) ?_
      refine ax_goto (tgt := 87) dX11_told_83 (by decide) ?_
      refine ax_iret dX11_told_87 rfl rfl (Nat.le_of_ble_eq_true rfl) (Nat.le_of_ble_eq_true rfl) ?_
      exact ⟨congrArg (fun z => some (Value.int z)) (Eq.symm (by unfold toldV; rw [show r_fmod (fun _ _ => 0) (fun _ _ => 0) a 10 = nI k9 from ek9, ed9]; unfold toR; (try rw [if_neg e_15_0]); (try rw [if_neg e_15_1]); (try rw [if_pos e_15_2]); (try rw [if_neg c_71]); rw [nI_clamp (by omega)]; exact (hv.2.2.2.1 k9 (show k9 < 4 by have := mt (nI_leI (by decide) (by omega)).mpr (show ¬ nI 4 ≤ nI k9 from c_71); omega)).symm)), rfl, (trP_refl (Z := Z) (G := G))⟩
  refine (Decidable.em ((r_fdiv G L a 10) = 3)).elim (fun e_15_3 => ?_) (fun e_15_3 => ?_)
  · refine ax_tin (off := 73) (tgt := 88) dX11_told_15 (by rw [e_15_3]; decide) (by rw [e_15_3]; decide) (by rw [e_15_3]; decide) (by decide) ?_
    refine ax_iload_n (i := 3) dX11_told_88 rfl rfl ?_
    refine ax_iconst (v := 4) dX11_told_89 (by decide) ?_
    refine ax_icmp_ge (tgt := 101) dX11_told_90 (by decide) (fun c_90 => ?_) (fun c_90 => ?_)
    · refine ax_iconst (v := (-1)) dX11_told_101 (by decide) ?_
      refine ax_iret dX11_told_102 rfl rfl (Nat.le_of_ble_eq_true rfl) (Nat.le_of_ble_eq_true rfl) ?_
      exact ⟨congrArg (fun z => some (Value.int z)) (Eq.symm (by unfold toldV; rw [show r_fmod (fun _ _ => 0) (fun _ _ => 0) a 10 = nI k9 from ek9, ed9]; unfold toR; (try rw [if_neg e_15_0]); (try rw [if_neg e_15_1]); (try rw [if_neg e_15_2]); (try rw [if_pos e_15_3]); (try rw [if_pos c_90]))), rfl, (trP_refl (Z := Z) (G := G))⟩
    · refine ax_aload_n (i := 0) dX11_told_93 rfl rfl ?_
      refine ax_iload_n (i := 3) dX11_told_94 rfl rfl ?_
      refine ax_cVq dX11_told_95 lk_X11_140 (c_enoughFor hZ (trP_vC (trP_refl (Z := Z) (G := G)) hv ho.1 (Or.inl rfl)) ho k9 (show k9 < 4 by have := mt (nI_leI (by decide) (by omega)).mpr (show ¬ nI 4 ≤ nI k9 from c_90); omega)) rfl (OKs hZ rfl) ⟨_, rfl, rfl⟩ rfl (Nat.le_of_ble_eq_true rfl) (Nat.le_of_ble_eq_true rfl) (Nat.le_of_ble_eq_true rfl) (Nat.le_of_ble_eq_true rfl) ?_
      rintro Z1 G1 _ ⟨rfl, t'1⟩
      have t1 := trP_trans (trP_refl (Z := Z) (G := G)) t'1
      refine ax_goto (tgt := 102) dX11_told_98 (by decide) ?_
      refine ax_iret dX11_told_102 rfl rfl (Nat.le_of_ble_eq_true rfl) (Nat.le_of_ble_eq_true rfl) ?_
      exact ⟨congrArg (fun z => some (Value.int z)) (Eq.symm (by unfold toldV; rw [show r_fmod (fun _ _ => 0) (fun _ _ => 0) a 10 = nI k9 from ek9, ed9]; unfold toR; (try rw [if_neg e_15_0]); (try rw [if_neg e_15_1]); (try rw [if_neg e_15_2]); (try rw [if_pos e_15_3]); (try rw [if_neg c_90]); rw [nI_clamp (by omega)])), rfl, t1⟩
  refine ax_tout (tgt := 103) dX11_told_15 (sw_out 4 (by decide) (by decide) ⟨⟨⟨⟨trivial, e_15_0⟩, e_15_1⟩, e_15_2⟩, e_15_3⟩) (by decide) ?_
  refine ax_iconst (v := (-1)) dX11_told_103 (by decide) ?_
  refine ax_iret dX11_told_104 rfl rfl (Nat.le_of_ble_eq_true rfl) (Nat.le_of_ble_eq_true rfl) ?_
  exact ⟨congrArg (fun z => some (Value.int z)) (Eq.symm (by unfold toldV; rw [show r_fmod (fun _ _ => 0) (fun _ _ => 0) a 10 = nI k9 from ek9, ed9]; unfold toR; (try rw [if_neg e_15_0]); (try rw [if_neg e_15_1]); (try rw [if_neg e_15_2]); (try rw [if_neg e_15_3]))), rfl, (trP_refl (Z := Z) (G := G))⟩
