-- ===== the model: marks =====
theorem l_isMarked {Z : Zt} {G0 : Gt} {L : Lt} {Q : Qt} {W : Wv} (hZ : OK Z) (ho : okW W) (n : Nat) (hn : n ≤ 60) (hm : W.mm + n < 20000) {H : Hv} (hH : hM G0 H) (k : Nat) (hk : k < H.nk) (hk5 : k < 5) (e1 : H.k1 k = n)  (hend : ∀ G : Gt, mS G0 G → vM G (minVN n W) → AX none mX12_isMarked 5 0 0 0 0 30 [(0, .ref 75), (1, .int (nI k))] [] Z G L Q) : ∀ (r q : Nat), q ≤ n → n - q < r → ∀ G : Gt, mS G0 G → vM G (minVN q W) → AX none mX12_isMarked 5 0 0 0 0 10 [(0, .ref 75), (1, .int (nI k)), (2, .int (nI q))] [] Z G L Q := by
  intro r
  induction r with
  | zero => intro q h1 h2; omega
  | succ r ih =>
    intro q h1 h2 G hs9 hv9
    refine ax_iload_n (i := 2) dX12_isMarked_10 rfl rfl ?_
    refine ax_aload_n (i := 0) dX12_isMarked_11 rfl rfl ?_
    refine ax_getR dX12_isMarked_12 fl_X12_67 rfl (OKs hZ rfl) (OKr hZ rfl) ?_
    refine ax_iload_n (i := 1) dX12_isMarked_15 rfl rfl ?_
    refine ax_ialdN k dX12_isMarked_16 (OKs hZ rfl) rfl hk5 (by decide) ?_
    refine ax_top (congrArg Value.int (((mS_hM hs9 hH).1.2 k hk).2.1.trans (by rw [e1]))) ?_
    refine ax_icmp_ge (tgt := 30) dX12_isMarked_17 (by decide) (fun c_17 => ?_) (fun c_17 => ?_)
    · obtain rfl : q = n := by have := (nI_leI (by omega) (by omega)).mp (show nI n ≤ nI q from c_17); omega
      exact ax_lv [(0, .ref 75), (1, .int (nI k))] ⟨rfl, rfl, trivial⟩ (hend G hs9 hv9)
    · have hqm : q < n := by have := mt (nI_leI (by omega) (by omega)).mpr (show ¬ nI n ≤ nI q from c_17); omega
      refine ax_aload_n (i := 0) dX12_isMarked_20 rfl rfl ?_
      refine ax_cVq0 dX12_isMarked_21 lk_X12_268 (k_goesMinute hZ hv9 (minVN_ok q ho (by omega))) rfl (OKs hZ rfl) ⟨_, rfl, rfl⟩ rfl (Nat.le_of_ble_eq_true rfl) (Nat.le_of_ble_eq_true rfl) (Nat.le_of_ble_eq_true rfl) (Nat.le_of_ble_eq_true rfl) ?_
      rintro _ G1 _ ⟨rfl, rfl, m'1, v1⟩
      have m1 := mS_tr hs9 m'1
      refine ax_iinc (v := (nI q) + 1) dX12_isMarked_24 rfl rfl (by decide) rfl ?_
      refine ax_goto (tgt := 10) dX12_isMarked_27 (by decide) ?_
      refine ax_lv [(0, .ref 75), (1, .int (nI k)), (2, .int (nI (q + 1)))] ⟨rfl, rfl, sI (nI_1 q), trivial⟩ ?_
      exact ih (q + 1) (by omega) (by omega) _ m1 (by rw [← minVN_s]; exact v1)
theorem k_isMarked {Z : Zt} {G : Gt} {L : Lt} {W : Wv} (hZ : OK Z) (hv : vM G W) (ho : okW W) {H : Hv} (hH : hM G H) (hh : okH W.m H) (hm : W.mm + 20 < 20000) (k : Nat) (hk : k < H.nk) : AC mX12_isMarked 5 0 0 [.ref 75, .int (nI k)] Z G L (RP (.int (bi (msM W H k))) (MA Z G L W H)) := by
  refine AC.intro (by decide +kernel) (Nat.le_of_ble_eq_true rfl) ?_
  refine ax_lv [(0, .ref 75), (1, .int (nI k))] ⟨rfl, rfl, trivial⟩ ?_
  have hk5 : k < 5 := by have := hh.1; omega
  have hp := (hh.2.1 k hk).1
  have hn12 := (hh.2.1 k hk).2
  refine ax_aload_n (i := 0) dX12_isMarked_0 rfl rfl ?_
  refine ax_aload_n (i := 0) dX12_isMarked_1 rfl rfl ?_
  refine ax_getR dX12_isMarked_2 fl_X12_91 rfl (OKs hZ rfl) (OKr hZ rfl) ?_
  refine ax_cVq0 dX12_isMarked_5 lk_X12_271 (k_keep hZ (Or.inr rfl) hv ho.1 hH hh) rfl (OKs hZ rfl) ⟨_, rfl, rfl⟩ rfl (Nat.le_of_ble_eq_true rfl) (Nat.le_of_ble_eq_true rfl) (Nat.le_of_ble_eq_true rfl) (Nat.le_of_ble_eq_true rfl) ?_
  rintro _ G1 _ ⟨rfl, rfl, f1, i1⟩
  have v1 := vM_keep hv (fun a x y => f1 a (by omega)) (fun i _ => by rw [f1 75 (by decide)])
  have a1 := mA_tr mA_refl (mA_102 f1)
  refine ax_iconst (v := 0) dX12_isMarked_8 (by decide) ?_
  refine ax_istore_n (i := 2) dX12_isMarked_9 rfl (by decide) rfl ?_
  refine ax_lv [(0, .ref 75), (1, .int (nI k)), (2, .int (nI 0))] ⟨rfl, rfl, rfl, trivial⟩ ?_
  have hH1 : hM G1 H := hM_keep hH (fun i _ => by rw [f1 75 (by decide)]) (fun a x y => f1 a (by omega))
  refine l_isMarked (G0 := G1) hZ ho (H.k1 k) (by omega) (by omega) hH1 k hk hk5 rfl ?_ (H.k1 k + 1) 0 (by omega) (by omega) G1 mS_refl v1
  intro G9 s9 v9
  have hH9 := mS_hM s9 hH1
  refine ax_iconst (v := 0) dX12_isMarked_30 (by decide) ?_
  refine ax_aload_n (i := 0) dX12_isMarked_31 rfl rfl ?_
  refine ax_aload_n (i := 0) dX12_isMarked_32 rfl rfl ?_
  refine ax_getR dX12_isMarked_33 fl_X12_64 rfl (OKs hZ rfl) (OKr hZ rfl) ?_
  refine ax_iload_n (i := 1) dX12_isMarked_36 rfl rfl ?_
  refine ax_ialdN k dX12_isMarked_37 (OKs hZ rfl) rfl hk5 (by decide) ?_
  refine ax_top (congrArg Value.int ((hH9.1.2 k hk).1)) ?_
  refine ax_cVq dX12_isMarked_38 lk_X12_128 (k_lightOf hZ v9 (minVN_ok (H.k1 k) ho (by omega)) (H.k0 k) (by rw [minVN_m]; exact hp)) rfl (OKs hZ rfl) ⟨_, rfl, rfl⟩ rfl (Nat.le_of_ble_eq_true rfl) (Nat.le_of_ble_eq_true rfl) (Nat.le_of_ble_eq_true rfl) (Nat.le_of_ble_eq_true rfl) ?_
  rintro _ G2 _ ⟨rfl, rfl, f2⟩
  have v2 := vM_f f2 v9
  have m2 := mS_tr s9 (mS_f f2)
  refine ax_max dX12_isMarked_41 lm_X12_245 (by decide) (Nat.le_of_ble_eq_true rfl) (Nat.le_of_ble_eq_true rfl) (Nat.le_of_ble_eq_true rfl) ?_
  refine ax_aload_n (i := 0) dX12_isMarked_44 rfl rfl ?_
  refine ax_getR dX12_isMarked_45 fl_X12_70 rfl (OKs hZ rfl) (OKr hZ rfl) ?_
  refine ax_iload_n (i := 1) dX12_isMarked_48 rfl rfl ?_
  refine ax_ialdN k dX12_isMarked_49 (OKs hZ rfl) rfl hk5 (by decide) ?_
  refine ax_top (congrArg Value.int ((mS_hM (mS_f f2) hH9).1.2 k hk).2.2) ?_
  refine ax_icmp_ne (tgt := 57) dX12_isMarked_50 (by decide) (fun c_50 => ?_) (fun c_50 => ?_)
  · refine ax_iconst (v := 0) dX12_isMarked_57 (by decide) ?_
    refine ax_istore_n (i := 2) dX12_isMarked_58 rfl (by decide) rfl ?_
    refine ax_aload_n (i := 0) dX12_isMarked_59 rfl rfl ?_
    refine ax_aload_n (i := 0) dX12_isMarked_60 rfl rfl ?_
    refine ax_getR dX12_isMarked_61 fl_X12_91 rfl (OKs hZ rfl) (OKr hZ rfl) ?_
    refine ax_cVq0 dX12_isMarked_64 lk_X12_275 (k_again hZ (Or.inr rfl) ho.1 hh (mS_iM m2 (by decide) i1)) rfl (OKs hZ rfl) ⟨_, rfl, rfl⟩ rfl (Nat.le_of_ble_eq_true rfl) (Nat.le_of_ble_eq_true rfl) (Nat.le_of_ble_eq_true rfl) (Nat.le_of_ble_eq_true rfl) ?_
    rintro _ G3 _ ⟨rfl, rfl, a'3, v3, h3⟩
    have a3 := mA_tr a1 (mA_tr (mS_mA m2) a'3)
    refine ax_iload_n (i := 2) dX12_isMarked_67 rfl rfl ?_
    refine ax_iret dX12_isMarked_68 rfl rfl (Nat.le_of_ble_eq_true rfl) (Nat.le_of_ble_eq_true rfl) ?_
    exact ⟨congrArg (fun z => some (Value.int z)) (by first | exact (bi_t c_50).symm | exact (bi_f c_50).symm), rfl, rfl, a3, v3, h3⟩
  · refine ax_iconst (v := 1) dX12_isMarked_53 (by decide) ?_
    refine ax_goto (tgt := 58) dX12_isMarked_54 (by decide) ?_
    refine ax_istore_n (i := 2) dX12_isMarked_58 rfl (by decide) rfl ?_
    refine ax_aload_n (i := 0) dX12_isMarked_59 rfl rfl ?_
    refine ax_aload_n (i := 0) dX12_isMarked_60 rfl rfl ?_
    refine ax_getR dX12_isMarked_61 fl_X12_91 rfl (OKs hZ rfl) (OKr hZ rfl) ?_
    refine ax_cVq0 dX12_isMarked_64 lk_X12_275 (k_again hZ (Or.inr rfl) ho.1 hh (mS_iM m2 (by decide) i1)) rfl (OKs hZ rfl) ⟨_, rfl, rfl⟩ rfl (Nat.le_of_ble_eq_true rfl) (Nat.le_of_ble_eq_true rfl) (Nat.le_of_ble_eq_true rfl) (Nat.le_of_ble_eq_true rfl) ?_
    rintro _ G3 _ ⟨rfl, rfl, a'3, v3, h3⟩
    have a3 := mA_tr a1 (mA_tr (mS_mA m2) a'3)
    refine ax_iload_n (i := 2) dX12_isMarked_67 rfl rfl ?_
    refine ax_iret dX12_isMarked_68 rfl rfl (Nat.le_of_ble_eq_true rfl) (Nat.le_of_ble_eq_true rfl) ?_
    exact ⟨congrArg (fun z => some (Value.int z)) (by first | exact (bi_t c_50).symm | exact (bi_f c_50).symm), rfl, rfl, a3, v3, h3⟩
theorem l_areMarked {Z : Zt} {G0 : Gt} {L : Lt} {W : Wv} (hZ : OK Z) (ho : okW W) {H : Hv} (hh : okH W.m H) (hm : W.mm + 20 < 20000) (p : Nat) (hp : p < W.m) : ∀ (r q : Nat), q ≤ H.nk → H.nk - q < r → ∀ G : Gt, mA G0 G → vM G W → hM G H → amM W H p q = true → AX none mX12_areMarked 6 0 0 0 0 2 [(0, .ref 75), (1, .int (nI p)), (2, .int (nI q))] [] Z G L (RP (.int (bi (amM W H p H.nk = true))) (MA Z G0 L W H)) := by
  have hm6 := ho.1
  have hk5 := hh.1
  intro r
  induction r with
  | zero => intro q h1 h2; omega
  | succ r ih =>
    intro q h1 h2 G hs9 hv9 hH9 hq9
    refine ax_iload_n (i := 2) dX12_areMarked_2 rfl rfl ?_
    refine ax_aload_n (i := 0) dX12_areMarked_3 rfl rfl ?_
    refine ax_getI dX12_areMarked_4 fl_X12_291 rfl (OKs hZ rfl) ?_
    refine ax_top (congrArg Value.int hH9.1.1) ?_
    refine ax_icmp_ge (tgt := 36) dX12_areMarked_7 (by decide) (fun c_7 => ?_) (fun c_7 => ?_)
    · refine ax_iconst (v := 1) dX12_areMarked_36 (by decide) ?_
      refine ax_iret dX12_areMarked_37 rfl rfl (Nat.le_of_ble_eq_true rfl) (Nat.le_of_ble_eq_true rfl) ?_
      obtain rfl : q = H.nk := by have := (nI_leI (by omega) (by omega)).mp (show nI H.nk ≤ nI q from c_7); omega
      exact ⟨congrArg (fun z => some (Value.int z)) (bi_t hq9).symm, rfl, rfl, hs9, hv9, hH9⟩
    · have hqm : q < H.nk := by have := mt (nI_leI (by omega) (by omega)).mpr (show ¬ nI H.nk ≤ nI q from c_7); omega
      have hq5 : q < 5 := by omega
      have hq6 := hh.2.1 q hqm
      refine ax_aload_n (i := 0) dX12_areMarked_10 rfl rfl ?_
      refine ax_getR dX12_areMarked_11 fl_X12_64 rfl (OKs hZ rfl) (OKr hZ rfl) ?_
      refine ax_iload_n (i := 2) dX12_areMarked_14 rfl rfl ?_
      refine ax_ialdN q dX12_areMarked_15 (OKs hZ rfl) rfl hq5 (by decide) ?_
      refine ax_top (congrArg Value.int (hH9.1.2 q hqm).1) ?_
      refine ax_iload_n (i := 1) dX12_areMarked_16 rfl rfl ?_
      refine ax_icmp_ne (tgt := 30) dX12_areMarked_17 (by decide) (fun c_17 => ?_) (fun c_17 => ?_)
      · refine ax_iinc (v := (nI q) + 1) dX12_areMarked_30 rfl rfl (by decide) rfl ?_
        refine ax_goto (tgt := 2) dX12_areMarked_33 (by decide) ?_
        refine ax_lv [(0, .ref 75), (1, .int (nI p)), (2, .int (nI (q + 1)))] ⟨rfl, rfl, sI (nI_1 q), trivial⟩ ?_
        exact ih (q + 1) (by omega) (by omega) _ hs9 hv9 hH9 (by rw [amM, hq9, decide_eq_false (fun z => c_17 (congrArg nI z))]; rfl)
      · refine ax_aload_n (i := 0) dX12_areMarked_20 rfl rfl ?_
        refine ax_iload_n (i := 2) dX12_areMarked_21 rfl rfl ?_
        refine ax_cVq dX12_areMarked_22 lk_X12_294 (k_isMarked hZ hv9 ho hH9 hh hm q hqm) rfl (OKs hZ rfl) ⟨_, rfl, rfl⟩ rfl (Nat.le_of_ble_eq_true rfl) (Nat.le_of_ble_eq_true rfl) (Nat.le_of_ble_eq_true rfl) (Nat.le_of_ble_eq_true rfl) ?_
        rintro _ G1 _ ⟨rfl, rfl, a'1, v1, h1⟩
        have a1 := mA_tr hs9 a'1
        refine ax_if_ne (tgt := 30) dX12_areMarked_25 (by decide) (fun c_25 => ?_) (fun c_25 => ?_)
        · refine ax_iinc (v := (nI q) + 1) dX12_areMarked_30 rfl rfl (by decide) rfl ?_
          refine ax_goto (tgt := 2) dX12_areMarked_33 (by decide) ?_
          refine ax_lv [(0, .ref 75), (1, .int (nI p)), (2, .int (nI (q + 1)))] ⟨rfl, rfl, sI (nI_1 q), trivial⟩ ?_
          exact ih (q + 1) (by omega) (by omega) _ a1 v1 h1 (by rw [amM, hq9, decide_eq_true (show msM W H q from bi_ne.mp c_25)]; cases decide (H.k0 q = p) <;> rfl)
        · refine ax_iconst (v := 0) dX12_areMarked_28 (by decide) ?_
          refine ax_iret dX12_areMarked_29 rfl rfl (Nat.le_of_ble_eq_true rfl) (Nat.le_of_ble_eq_true rfl) ?_
          exact ⟨congrArg (fun z => some (Value.int z)) (bi_f (by rw [amM_f (k := q + 1) (by omega) (by rw [amM, hq9, decide_eq_true ((nI_eq (by omega) (by omega)).mp c_17), decide_eq_false (show ¬ msM W H q from bi_eq.mp c_25)]; rfl)]; decide)).symm, rfl, rfl, a1, v1, h1⟩
theorem k_areMarked {Z : Zt} {G : Gt} {L : Lt} {W : Wv} (hZ : OK Z) (hv : vM G W) (ho : okW W) {H : Hv} (hH : hM G H) (hh : okH W.m H) (hm : W.mm + 20 < 20000) (p : Nat) (hp : p < W.m) : AC mX12_areMarked 6 0 0 [.ref 75, .int (nI p)] Z G L (RP (.int (bi (amM W H p H.nk = true))) (MA Z G L W H)) := by
  refine AC.intro (by decide +kernel) (Nat.le_of_ble_eq_true rfl) ?_
  refine ax_lv [(0, .ref 75), (1, .int (nI p))] ⟨rfl, rfl, trivial⟩ ?_
  refine ax_iconst (v := 0) dX12_areMarked_0 (by decide) ?_
  refine ax_istore_n (i := 2) dX12_areMarked_1 rfl (by decide) rfl ?_
  refine ax_lv [(0, .ref 75), (1, .int (nI p)), (2, .int (nI 0))] ⟨rfl, rfl, rfl, trivial⟩ ?_
  exact l_areMarked hZ ho hh hm p hp (H.nk + 1) 0 (by omega) (by omega) G mA_refl hv hH rfl
theorem l_wrongM {Z : Zt} {G0 : Gt} {L : Lt} {W : Wv} (hZ : OK Z) (ho : okW W) {H : Hv} (hh : okH W.m H) (hm : W.mm + 20 < 20000) (x : Int32) : ∀ (r k : Nat), k + r = H.nk → x = fst0 (fun k => decide (¬ msM W H k)) r k → ∀ G : Gt, mA G0 G → vM G W → hM G H → AX none mX12_wrong 6 0 0 0 0 2 [(0, .ref 75), (1, .int (nI k))] [] Z G L (RP (.int x) (MA Z G0 L W H)) := by
  have hm6 := ho.1
  have hk5 := hh.1
  intro r
  induction r with
  | zero =>
    intro k h1 hend G hs9 hv9 hH9
    refine ax_iload_n (i := 1) dX12_wrong_2 rfl rfl ?_
    refine ax_aload_n (i := 0) dX12_wrong_3 rfl rfl ?_
    refine ax_getI dX12_wrong_4 fl_X12_291 rfl (OKs hZ rfl) ?_
    refine ax_top (congrArg Value.int hH9.1.1) ?_
    refine ax_icmp_ge (tgt := 26) dX12_wrong_7 (by decide) (fun c_7 => ?_) (fun c_7 => ?_)
    · refine ax_bipush (v := (-5)) dX12_wrong_26 (by decide) ?_
      refine ax_iret dX12_wrong_28 rfl rfl (Nat.le_of_ble_eq_true rfl) (Nat.le_of_ble_eq_true rfl) ?_
      exact ⟨congrArg (fun z => some (Value.int z)) hend.symm, rfl, rfl, hs9, hv9, hH9⟩
    · exact absurd (nI_le (by omega) (by omega)) c_7
  | succ r ih =>
    intro k h1 hend G hs9 hv9 hH9
    refine ax_iload_n (i := 1) dX12_wrong_2 rfl rfl ?_
    refine ax_aload_n (i := 0) dX12_wrong_3 rfl rfl ?_
    refine ax_getI dX12_wrong_4 fl_X12_291 rfl (OKs hZ rfl) ?_
    refine ax_top (congrArg Value.int hH9.1.1) ?_
    refine ax_icmp_ge (tgt := 26) dX12_wrong_7 (by decide) (fun c_7 => ?_) (fun c_7 => ?_)
    · exact absurd ((nI_leI (by omega) (by omega)).mp c_7) (by omega)
    · refine ax_aload_n (i := 0) dX12_wrong_10 rfl rfl ?_
      refine ax_iload_n (i := 1) dX12_wrong_11 rfl rfl ?_
      refine ax_cVq dX12_wrong_12 lk_X12_294 (k_isMarked hZ hv9 ho hH9 hh hm k (by omega)) rfl (OKs hZ rfl) ⟨_, rfl, rfl⟩ rfl (Nat.le_of_ble_eq_true rfl) (Nat.le_of_ble_eq_true rfl) (Nat.le_of_ble_eq_true rfl) (Nat.le_of_ble_eq_true rfl) ?_
      rintro _ G1 _ ⟨rfl, rfl, a'1, v1, h1⟩
      have a1 := mA_tr hs9 a'1
      refine ax_if_ne (tgt := 20) dX12_wrong_15 (by decide) (fun c_15 => ?_) (fun c_15 => ?_)
      · refine ax_iinc (v := (nI k) + 1) dX12_wrong_20 rfl rfl (by decide) rfl ?_
        refine ax_goto (tgt := 2) dX12_wrong_23 (by decide) ?_
        refine ax_lv [(0, .ref 75), (1, .int (nI (k + 1)))] ⟨rfl, sI (nI_1 k), trivial⟩ ?_
        exact ih (k + 1) (by omega) (hend.trans (by rw [fst0, if_neg (by rw [decide_eq_true_iff, Decidable.not_not]; exact bi_ne.mp c_15)])) _ a1 v1 h1
      · refine ax_iload_n (i := 1) dX12_wrong_18 rfl rfl ?_
        refine ax_iret dX12_wrong_19 rfl rfl (Nat.le_of_ble_eq_true rfl) (Nat.le_of_ble_eq_true rfl) ?_
        exact ⟨congrArg (fun z => some (Value.int z)) (hend.trans (by rw [fst0, if_pos (decide_eq_true (bi_eq.mp c_15))])).symm, rfl, rfl, a1, v1, h1⟩
theorem k_wrongM {Z : Zt} {G : Gt} {L : Lt} {W : Wv} (hZ : OK Z) (hv : vM G W) (ho : okW W) {H : Hv} (hH : hM G H) (hh : okH W.m H) (hm : W.mm + 20 < 20000) : AC mX12_wrong 6 0 0 [.ref 75] Z G L (RP (.int (fst0 (fun k => decide (¬ msM W H k)) H.nk 0)) (MA Z G L W H)) := by
  refine AC.intro (by decide +kernel) (Nat.le_of_ble_eq_true rfl) ?_
  refine ax_lv [(0, .ref 75)] ⟨rfl, trivial⟩ ?_
  refine ax_iconst (v := 0) dX12_wrong_0 (by decide) ?_
  refine ax_istore_n (i := 1) dX12_wrong_1 rfl (by decide) rfl ?_
  refine ax_lv [(0, .ref 75), (1, .int (nI 0))] ⟨rfl, rfl, trivial⟩ ?_
  exact l_wrongM hZ ho hh hm _ H.nk 0 (by omega) rfl G mA_refl hv hH
theorem fst0_congr {f g : Nat → Bool} : ∀ (r k : Nat), (∀ j, k ≤ j → j < k + r → f j = g j) → fst0 f r k = fst0 g r k
  | 0, _, _ => rfl
  | r + 1, k, h => by
    unfold fst0
    rw [h k (Nat.le_refl k) (by omega), fst0_congr r (k + 1) (fun j a b => h j (by omega) (by omega))]
theorem wrong_eq {W : Wv} {H : Hv} : fst0 (fun k => decide (¬ msV W H k 2 (W.C (H.k0 k) 2))) H.nk 0 = fst0 (fun k => decide (¬ msM W H k)) H.nk 0 :=
  fst0_congr _ _ (fun j _ _ => by unfold msV; rw [setV_id])
theorem l_sizes {Z : Zt} {G0 : Gt} {L : Lt} {Q : Qt} {W : Wv} (hZ : OK Z) (ho : okW W) {H : Hv} (hh : okH W.m H) (hm : W.mm + 20 < 20000) (p : Nat) (hp : p < W.m) (x : Int32) (hend : ∀ (G : Gt) (y : Int32), mA G0 G → vM G (setV W p 2 y) → hM G H → AX none mX12_sizes 7 0 0 0 0 48 [(0, .ref 75), (1, .int (nI p)), (2, .int x), (3, .int (fiV W H p 2 21))] [] Z G L Q) : ∀ (r q : Nat), q ≤ 21 → 21 - q < r → ∀ G : Gt, mA G0 G → (∃ y, vM G (setV W p 2 y)) → hM G H → AX none mX12_sizes 7 0 0 0 0 12 [(0, .ref 75), (1, .int (nI p)), (2, .int x), (3, .int (fiV W H p 2 q)), (4, .int (nI q))] [] Z G L Q := by
  have hp6 : p < 6 := by have := ho.1; omega
  intro r
  induction r with
  | zero => intro q h1 h2; omega
  | succ r ih =>
    intro q h1 h2 G hs9 hv9 hH9
    refine ax_iload dX12_sizes_12 rfl ?_
    refine ax_bipush (v := 21) dX12_sizes_14 (by decide) ?_
    refine ax_icmp_ge (tgt := 48) dX12_sizes_16 (by decide) (fun c_16 => ?_) (fun c_16 => ?_)
    · obtain rfl : q = 21 := by have := (nI_leI (by omega) (by omega)).mp (show nI 21 ≤ nI q from c_16); omega
      obtain ⟨y, hy⟩ := hv9
      exact ax_lv [(0, .ref 75), (1, .int (nI p)), (2, .int x), (3, .int (fiV W H p 2 21))] ⟨rfl, rfl, rfl, rfl, trivial⟩ (hend G y hs9 hy hH9)
    · have hqm : q < 21 := by have := mt (nI_leI (by omega) (by omega)).mpr (show ¬ nI 21 ≤ nI q from c_16); omega
      refine ax_aload_n (i := 0) dX12_sizes_19 rfl rfl ?_
      refine ax_getR dX12_sizes_20 fl_X12_24 rfl (OKs hZ rfl) (OKr hZ rfl) ?_
      refine ax_iload_n (i := 1) dX12_sizes_23 rfl rfl ?_
      refine ax_iload dX12_sizes_24 rfl ?_
      refine ax_iastN p dX12_sizes_26 (OKs hZ rfl) rfl hp6 (by decide) ?_
      obtain ⟨y, hy⟩ := hv9
      have vs : vM (up2 G 80 p (nI q)) (setV W p 2 (nI q)) := by have z := vM_set (c := 2) (p := p) (x := nI q) hy (by decide); rw [setV_2] at z; exact z
      have os : okW (setV W p 2 (nI q)) := setV_ok ho (fun h => absurd h (by decide)) (fun h => absurd h (by decide))
      have as := mA_tr hs9 (mA_up (G := G) (a := 80) (i := p) (x := nI q) (by decide))
      have hs := hM_up (a := 80) (i := p) (x := nI q) hH9 (by decide)
      refine ax_aload_n (i := 0) dX12_sizes_27 rfl rfl ?_
      refine ax_iload_n (i := 1) dX12_sizes_28 rfl rfl ?_
      refine ax_cVq dX12_sizes_29 lk_X12_297 (k_areMarked hZ vs os hs hh hm p hp) rfl (OKs hZ rfl) ⟨_, rfl, rfl⟩ rfl (Nat.le_of_ble_eq_true rfl) (Nat.le_of_ble_eq_true rfl) (Nat.le_of_ble_eq_true rfl) (Nat.le_of_ble_eq_true rfl) ?_
      rintro _ G1 _ ⟨rfl, rfl, a'1, v1, h1⟩
      have a1 := mA_tr as a'1
      refine ax_if_eq (tgt := 42) dX12_sizes_32 (by decide) (fun c_32 => ?_) (fun c_32 => ?_)
      · refine ax_iinc (v := (nI q) + 1) dX12_sizes_42 rfl rfl (by decide) rfl ?_
        refine ax_goto (tgt := 12) dX12_sizes_45 (by decide) ?_
        refine ax_lv [(0, .ref 75), (1, .int (nI p)), (2, .int x), (3, .int (fiV W H p 2 (q + 1))), (4, .int (nI (q + 1)))] ⟨rfl, rfl, rfl, sI (by rw [fiV]; rw [if_neg (fun z => bi_eq.mp c_32 ((amM_B _).trans z))]), sI (nI_1 q), trivial⟩ ?_
        exact ih (q + 1) (by omega) (by omega) _ a1 ⟨_, v1⟩ h1
      · refine ax_iload_n (i := 3) dX12_sizes_35 rfl rfl ?_
        refine ax_iconst (v := 1) dX12_sizes_36 (by decide) ?_
        refine ax_iload dX12_sizes_37 rfl ?_
        refine ax_ishl dX12_sizes_39 ?_
        refine ax_ior dX12_sizes_40 ?_
        refine ax_istore_n (i := 3) dX12_sizes_41 rfl (by decide) rfl ?_
        refine ax_iinc (v := (nI q) + 1) dX12_sizes_42 rfl rfl (by decide) rfl ?_
        refine ax_goto (tgt := 12) dX12_sizes_45 (by decide) ?_
        refine ax_lv [(0, .ref 75), (1, .int (nI p)), (2, .int x), (3, .int (fiV W H p 2 (q + 1))), (4, .int (nI (q + 1)))] ⟨rfl, rfl, rfl, sI (by rw [fiV]; rw [if_pos ((amM_B _).symm.trans (bi_ne.mp c_32))]), sI (nI_1 q), trivial⟩ ?_
        exact ih (q + 1) (by omega) (by omega) _ a1 ⟨_, v1⟩ h1
theorem k_sizes {Z : Zt} {G : Gt} {L : Lt} {W : Wv} (hZ : OK Z) (hv : vM G W) (ho : okW W) {H : Hv} (hH : hM G H) (hh : okH W.m H) (hm : W.mm + 20 < 20000) (p : Nat) (hp : p < W.m) : AC mX12_sizes 7 0 0 [.ref 75, .int (nI p)] Z G L (RP (.int (fiV W H p 2 21)) (MA Z G L W H)) := by
  refine AC.intro (by decide +kernel) (Nat.le_of_ble_eq_true rfl) ?_
  refine ax_lv [(0, .ref 75), (1, .int (nI p))] ⟨rfl, rfl, trivial⟩ ?_
  have hp6 : p < 6 := by have := ho.1; omega
  refine ax_aload_n (i := 0) dX12_sizes_0 rfl rfl ?_
  refine ax_getR dX12_sizes_1 fl_X12_24 rfl (OKs hZ rfl) (OKr hZ rfl) ?_
  refine ax_iload_n (i := 1) dX12_sizes_4 rfl rfl ?_
  refine ax_ialdN p dX12_sizes_5 (OKs hZ rfl) rfl hp6 (by decide) ?_
  refine ax_top (congrArg Value.int (show G 80 p = W.C p 2 from (hv.2.2.1 p hp).1 2 (by decide))) ?_
  refine ax_istore_n (i := 2) dX12_sizes_6 rfl (by decide) rfl ?_
  refine ax_iconst (v := 0) dX12_sizes_7 (by decide) ?_
  refine ax_istore_n (i := 3) dX12_sizes_8 rfl (by decide) rfl ?_
  refine ax_iconst (v := 0) dX12_sizes_9 (by decide) ?_
  refine ax_istore dX12_sizes_10 (by decide) rfl ?_
  refine ax_lv [(0, .ref 75), (1, .int (nI p)), (2, .int (W.C p 2)), (3, .int (fiV W H p 2 0)), (4, .int (nI 0))] ⟨rfl, rfl, rfl, rfl, rfl, trivial⟩ ?_
  refine l_sizes (G0 := G) hZ ho hh hm p hp (W.C p 2) ?_ 22 0 (by omega) (by omega) G mA_refl ⟨W.C p 2, by rw [setV_id]; exact hv⟩ hH
  intro G9 y s9 v9 h9
  refine ax_aload_n (i := 0) dX12_sizes_48 rfl rfl ?_
  refine ax_getR dX12_sizes_49 fl_X12_24 rfl (OKs hZ rfl) (OKr hZ rfl) ?_
  refine ax_iload_n (i := 1) dX12_sizes_52 rfl rfl ?_
  refine ax_iload_n (i := 2) dX12_sizes_53 rfl rfl ?_
  refine ax_iastN p dX12_sizes_54 (OKs hZ rfl) rfl hp6 (by decide) ?_
  refine ax_iload_n (i := 3) dX12_sizes_55 rfl rfl ?_
  refine ax_iret dX12_sizes_56 rfl rfl (Nat.le_of_ble_eq_true rfl) (Nat.le_of_ble_eq_true rfl) ?_
  have vs : vM (up2 G9 80 p (W.C p 2)) W := by have z := vM_set (c := 2) (p := p) (x := W.C p 2) v9 (by decide); rw [setV_2, setV_id] at z; exact z
  exact ⟨rfl, rfl, rfl, mA_tr s9 (mA_up (by decide)), vs, hM_up h9 (by decide)⟩
/-- from 9 down: how many, the least -/
def caK (f : Nat → Bool) : Nat → Nat × Int32
  | 0 => (0, -5)
  | k + 1 => if f (9 - k) = true then ((caK f k).1 + 1, nI (9 - k)) else caK f k
theorem caK_le {f : Nat → Bool} : ∀ k, (caK f k).1 ≤ k
  | 0 => Nat.le_refl 0
  | k + 1 => by
    have := caK_le (f := f) k
    unfold caK
    split
    · exact Nat.succ_le_succ this
    · omega
theorem caK_congr {f g : Nat → Bool} : ∀ k, k ≤ 10 → (∀ i, i < 10 → f i = g i) → caK f k = caK g k
  | 0, _, _ => rfl
  | k + 1, hk, h => by
    unfold caK
    rw [caK_congr k (by omega) h, h (9 - k) (by omega)]
def fiB (g : Nat → Bool) : Nat → Int32
  | 0 => 0
  | n + 1 => if g n = true then fiB g n ||| ((1 : Int32) <<< (nI n &&& 31)) else fiB g n
theorem fiB_congr {f g : Nat → Bool} : ∀ k, (∀ i, i < k → f i = g i) → fiB f k = fiB g k
  | 0, _ => rfl
  | k + 1, h => by
    unfold fiB
    rw [fiB_congr k (fun i hi => h i (by omega)), h k (by omega)]
theorem fiV_B {W : Wv} {H : Hv} {p c : Nat} : ∀ n, fiV W H p c n = fiB (fun v => amB W H p c (nI v) H.nk) n
  | 0 => rfl
  | n + 1 => by
    unfold fiV fiB
    rw [fiV_B n]
theorem can_fin : ∀ b0 b1 b2 b3 b4 b5 b6 b7 b8 b9 : Bool, bc (fiB (fun i => [b0, b1, b2, b3, b4, b5, b6, b7, b8, b9].getD i false) 10) = nI (caK (fun i => [b0, b1, b2, b3, b4, b5, b6, b7, b8, b9].getD i false) 10).1 ∧ (if fiB (fun i => [b0, b1, b2, b3, b4, b5, b6, b7, b8, b9].getD i false) 10 = 0 then -5 else ntz (fiB (fun i => [b0, b1, b2, b3, b4, b5, b6, b7, b8, b9].getD i false) 10)) = (caK (fun i => [b0, b1, b2, b3, b4, b5, b6, b7, b8, b9].getD i false) 10).2 := by decide +kernel
theorem can_eq (g : Nat → Bool) : bc (fiB g 10) = nI (caK g 10).1 ∧ (if fiB g 10 = 0 then -5 else ntz (fiB g 10)) = (caK g 10).2 := by
  have h := can_fin (g 0) (g 1) (g 2) (g 3) (g 4) (g 5) (g 6) (g 7) (g 8) (g 9)
  have e : ∀ i, i < 10 → g i = [g 0, g 1, g 2, g 3, g 4, g 5, g 6, g 7, g 8, g 9].getD i false := by
    intro i hi
    rcases (show i = 0 ∨ i = 1 ∨ i = 2 ∨ i = 3 ∨ i = 4 ∨ i = 5 ∨ i = 6 ∨ i = 7 ∨ i = 8 ∨ i = 9 by omega) with rfl | rfl | rfl | rfl | rfl | rfl | rfl | rfl | rfl | rfl <;> rfl
  rw [fiB_congr 10 e, caK_congr 10 (Nat.le_refl _) e]
  exact h
def canM (W : Wv) (H : Hv) (p : Nat) (b : Int32) : Int32 := if b = 0 then nI (caK (fun v => amB W H p 1 (nI v) H.nk) 10).1 else (caK (fun v => amB W H p 1 (nI v) H.nk) 10).2
theorem canM_eq {W : Wv} {H : Hv} {p : Nat} {b : Int32} : canR W H p b = canM W H p b := by
  unfold canR canM
  rw [fiV_B, (can_eq _).1, (can_eq _).2]
theorem l_canM {Z : Zt} {G0 : Gt} {L : Lt} {Q : Qt} {W : Wv} (hZ : OK Z) (ho : okW W) {H : Hv} (hh : okH W.m H) (hm : W.mm + 20 < 20000) (p : Nat) (hp : p < W.m) (b x : Int32) (hend : ∀ (G : Gt) (y : Int32), mA G0 G → vM G (setV W p 1 y) → hM G H → AX none mX12_can 7 0 0 0 0 74 [(0, .ref 75), (1, .int (nI p)), (2, .int b), (3, .int x), (4, .int (nI (caK (fun v => amB W H p 1 (nI v) H.nk) 10).1)), (5, .int (caK (fun v => amB W H p 1 (nI v) H.nk) 10).2)] [] Z G L Q) : ∀ (r q : Nat), q ≤ 10 → 10 - q < r → ∀ G : Gt, mA G0 G → (∃ y, vM G (setV W p 1 y)) → hM G H → AX none mX12_can 7 0 0 0 0 37 [(0, .ref 75), (1, .int (nI p)), (2, .int b), (3, .int x), (4, .int (nI (caK (fun v => amB W H p 1 (nI v) H.nk) q).1)), (5, .int (caK (fun v => amB W H p 1 (nI v) H.nk) q).2), (6, .int (nI (10 - q) - 1))] [] Z G L Q := by
  have hp6 : p < 6 := by have := ho.1; omega
  intro r
  induction r with
  | zero => intro q h1 h2; omega
  | succ r ih =>
    intro q h1 h2 G hs9 hv9 hH9
    by_cases e10 : q = 10
    · subst e10
      refine ax_iload dX12_can_37 rfl ?_
      refine ax_if_lt (tgt := 74) dX12_can_39 (by decide) (fun c_39 => ?_) (fun c_39 => ?_)
      · obtain ⟨y, hy⟩ := hv9
        exact ax_lv [(0, .ref 75), (1, .int (nI p)), (2, .int b), (3, .int x), (4, .int (nI (caK (fun v => amB W H p 1 (nI v) H.nk) 10).1)), (5, .int (caK (fun v => amB W H p 1 (nI v) H.nk) 10).2)] ⟨rfl, rfl, rfl, rfl, rfl, rfl, trivial⟩ (hend G y hs9 hy hH9)
      · exact absurd (by decide) c_39
    have e9q : nI (10 - q) - 1 = nI (9 - q) := by rw [show 10 - q = (9 - q) + 1 by omega]; exact nI_pred _
    refine ax_lv [(0, .ref 75), (1, .int (nI p)), (2, .int b), (3, .int x), (4, .int (nI (caK (fun v => amB W H p 1 (nI v) H.nk) q).1)), (5, .int (caK (fun v => amB W H p 1 (nI v) H.nk) q).2), (6, .int (nI (9 - q)))] ⟨rfl, rfl, rfl, rfl, rfl, rfl, sI e9q, trivial⟩ ?_
    refine ax_iload dX12_can_37 rfl ?_
    refine ax_if_lt (tgt := 74) dX12_can_39 (by decide) (fun c_39 => ?_) (fun c_39 => ?_)
    · exact absurd c_39 (nI_pos (by omega))
    · refine ax_aload_n (i := 0) dX12_can_42 rfl rfl ?_
      refine ax_getR dX12_can_43 fl_X12_21 rfl (OKs hZ rfl) (OKr hZ rfl) ?_
      refine ax_iload_n (i := 1) dX12_can_46 rfl rfl ?_
      refine ax_iload dX12_can_47 rfl ?_
      refine ax_iastN p dX12_can_49 (OKs hZ rfl) rfl hp6 (by decide) ?_
      obtain ⟨y, hy⟩ := hv9
      have vs : vM (up2 G 79 p (nI (9 - q))) (setV W p 1 (nI (9 - q))) := by have z := vM_set (c := 1) (p := p) (x := nI (9 - q)) hy (by decide); rw [setV_2] at z; exact z
      have os : okW (setV W p 1 (nI (9 - q))) := setV_ok ho (fun h => absurd h (by decide)) (fun h => absurd h (by decide))
      have as := mA_tr hs9 (mA_up (G := G) (a := 79) (i := p) (x := nI (9 - q)) (by decide))
      have hs := hM_up (a := 79) (i := p) (x := nI (9 - q)) hH9 (by decide)
      refine ax_aload_n (i := 0) dX12_can_50 rfl rfl ?_
      refine ax_iload_n (i := 1) dX12_can_51 rfl rfl ?_
      refine ax_cVq dX12_can_52 lk_X12_297 (k_areMarked hZ vs os hs hh hm p hp) rfl (OKs hZ rfl) ⟨_, rfl, rfl⟩ rfl (Nat.le_of_ble_eq_true rfl) (Nat.le_of_ble_eq_true rfl) (Nat.le_of_ble_eq_true rfl) (Nat.le_of_ble_eq_true rfl) ?_
      rintro _ G1 _ ⟨rfl, rfl, a'1, v1, h1⟩
      have a1 := mA_tr as a'1
      refine ax_if_ne (tgt := 61) dX12_can_55 (by decide) (fun c_55 => ?_) (fun c_55 => ?_)
      · refine ax_iinc (v := (nI (caK (fun v => amB W H p 1 (nI v) H.nk) q).1) + 1) dX12_can_61 rfl rfl (by decide) rfl ?_
        refine ax_iload dX12_can_64 rfl ?_
        refine ax_istore dX12_can_66 (by decide) rfl ?_
        refine ax_iinc (v := (nI (9 - q)) + (-1)) dX12_can_68 rfl rfl (by decide) rfl ?_
        refine ax_goto (tgt := 37) dX12_can_71 (by decide) ?_
        refine ax_lv [(0, .ref 75), (1, .int (nI p)), (2, .int b), (3, .int x), (4, .int (nI (caK (fun v => amB W H p 1 (nI v) H.nk) (q + 1)).1)), (5, .int (caK (fun v => amB W H p 1 (nI v) H.nk) (q + 1)).2), (6, .int (nI (10 - (q + 1)) - 1))] ⟨rfl, rfl, rfl, rfl, sI (by rw [caK, if_pos ((amM_B _).symm.trans (bi_ne.mp c_55))]; exact nI_1 _), sI (by rw [caK, if_pos ((amM_B _).symm.trans (bi_ne.mp c_55))]), sI (by rw [i32_m1, show 10 - (q + 1) = 9 - q by omega]), trivial⟩ ?_
        exact ih (q + 1) (by omega) (by omega) _ a1 ⟨_, v1⟩ h1
      · refine ax_goto (tgt := 68) dX12_can_58 (by decide) ?_
        refine ax_iinc (v := (nI (9 - q)) + (-1)) dX12_can_68 rfl rfl (by decide) rfl ?_
        refine ax_goto (tgt := 37) dX12_can_71 (by decide) ?_
        refine ax_lv [(0, .ref 75), (1, .int (nI p)), (2, .int b), (3, .int x), (4, .int (nI (caK (fun v => amB W H p 1 (nI v) H.nk) (q + 1)).1)), (5, .int (caK (fun v => amB W H p 1 (nI v) H.nk) (q + 1)).2), (6, .int (nI (10 - (q + 1)) - 1))] ⟨rfl, rfl, rfl, rfl, sI (by rw [caK, if_neg (fun z => bi_eq.mp c_55 ((amM_B _).trans z))]), sI (by rw [caK, if_neg (fun z => bi_eq.mp c_55 ((amM_B _).trans z))]), sI (by rw [i32_m1, show 10 - (q + 1) = 9 - q by omega]), trivial⟩ ?_
        exact ih (q + 1) (by omega) (by omega) _ a1 ⟨_, v1⟩ h1
theorem k_canM {Z : Zt} {G : Gt} {L : Lt} {W : Wv} (hZ : OK Z) (hv : vM G W) (ho : okW W) {H : Hv} (hH : hM G H) (hh : okH W.m H) (hm : W.mm + 20 < 20000) (a b : Int32) : AC mX12_can 7 0 0 [.ref 75, .int a, .int b] Z G L (RP (.int (canV W H a b)) (MA Z G L W H)) := by
  refine AC.intro (by decide +kernel) (Nat.le_of_ble_eq_true rfl) ?_
  refine ax_lv [(0, .ref 75), (1, .int a), (2, .int b)] ⟨rfl, rfl, rfl, trivial⟩ ?_
  refine ax_aload_n (i := 0) dX12_can_0 rfl rfl ?_
  refine ax_iload_n (i := 1) dX12_can_1 rfl rfl ?_
  refine ax_cVv dX12_can_2 lk_X12_125 (c_X12_isOne hZ a) rfl (OKs hZ rfl) ⟨_, rfl, rfl⟩ rfl (Nat.le_of_ble_eq_true rfl) (Nat.le_of_ble_eq_true rfl) (Nat.le_of_ble_eq_true rfl) (Nat.le_of_ble_eq_true rfl) ?_
  refine ax_top (congrArg Value.int (show wi _ 0 (G 75 2 - 1) = wi _ 0 (nI W.m - 1) from by rw [hv.1])) ?_
  refine ax_if_eq (tgt := 17) dX12_can_5 (by decide) (fun c_5 => ?_) (fun c_5 => ?_)
  · refine ax_iconst (v := (-1)) dX12_can_17 (by decide) ?_
    refine ax_iret dX12_can_18 rfl rfl (Nat.le_of_ble_eq_true rfl) (Nat.le_of_ble_eq_true rfl) ?_
    have e9 : canV W H a b = -1 := by unfold canV; rw [if_pos c_5]
    rw [e9]
    exact ⟨rfl, rfl, rfl, mA_refl, hv, hH⟩
  · obtain ⟨p, hp, rfl⟩ := has_p ho.1 c_5
    have hp6 : p < 6 := by have := ho.1; omega
    refine ax_iload_n (i := 2) dX12_can_8 rfl rfl ?_
    refine ax_iconst (v := 0) dX12_can_9 (by decide) ?_
    refine ax_iconst (v := 1) dX12_can_10 (by decide) ?_
    refine ax_cSv dX12_can_11 lk_X12_117 (c_X12_within b 0 1) rfl rfl (Nat.le_of_ble_eq_true rfl) (Nat.le_of_ble_eq_true rfl) (Nat.le_of_ble_eq_true rfl) (Nat.le_of_ble_eq_true rfl) ?_
    refine ax_if_ne (tgt := 19) dX12_can_14 (by decide) (fun c_14 => ?_) (fun c_14 => ?_)
    · refine ax_aload_n (i := 0) dX12_can_19 rfl rfl ?_
      refine ax_getR dX12_can_20 fl_X12_21 rfl (OKs hZ rfl) (OKr hZ rfl) ?_
      refine ax_iload_n (i := 1) dX12_can_23 rfl rfl ?_
      refine ax_ialdN p dX12_can_24 (OKs hZ rfl) rfl hp6 (by decide) ?_
      refine ax_top (congrArg Value.int (show G 79 p = W.C p 1 from (hv.2.2.1 p hp).1 1 (by decide))) ?_
      refine ax_istore_n (i := 3) dX12_can_25 rfl (by decide) rfl ?_
      refine ax_iconst (v := 0) dX12_can_26 (by decide) ?_
      refine ax_istore dX12_can_27 (by decide) rfl ?_
      refine ax_bipush (v := (-5)) dX12_can_29 (by decide) ?_
      refine ax_istore dX12_can_31 (by decide) rfl ?_
      refine ax_bipush (v := 9) dX12_can_33 (by decide) ?_
      refine ax_istore dX12_can_35 (by decide) rfl ?_
      have e9 : canV W H (nI p) b = canM W H p b := by unfold canV; rw [if_neg c_5, if_neg c_14, nI_clamp (by omega), canM_eq]
      rw [e9]
      refine ax_lv [(0, .ref 75), (1, .int (nI p)), (2, .int b), (3, .int (W.C p 1)), (4, .int (nI (caK (fun v => amB W H p 1 (nI v) H.nk) 0).1)), (5, .int (caK (fun v => amB W H p 1 (nI v) H.nk) 0).2), (6, .int (nI (10 - 0) - 1))] ⟨rfl, rfl, rfl, rfl, rfl, rfl, rfl, trivial⟩ ?_
      refine l_canM (G0 := G) hZ ho hh hm p hp b (W.C p 1) ?_ 11 0 (by omega) (by omega) G mA_refl ⟨W.C p 1, by rw [setV_id]; exact hv⟩ hH
      intro G9 y s9 v9 h9
      refine ax_aload_n (i := 0) dX12_can_74 rfl rfl ?_
      refine ax_getR dX12_can_75 fl_X12_21 rfl (OKs hZ rfl) (OKr hZ rfl) ?_
      refine ax_iload_n (i := 1) dX12_can_78 rfl rfl ?_
      refine ax_iload_n (i := 3) dX12_can_79 rfl rfl ?_
      refine ax_iastN p dX12_can_80 (OKs hZ rfl) rfl hp6 (by decide) ?_
      refine ax_iload_n (i := 2) dX12_can_81 rfl rfl ?_
      refine ax_if_ne (tgt := 90) dX12_can_82 (by decide) (fun c_82 => ?_) (fun c_82 => ?_)
      · refine ax_iload dX12_can_90 rfl ?_
        refine ax_iret dX12_can_92 rfl rfl (Nat.le_of_ble_eq_true rfl) (Nat.le_of_ble_eq_true rfl) ?_
        have vs : vM (up2 G9 79 p (W.C p 1)) W := by have z := vM_set (c := 1) (p := p) (x := W.C p 1) v9 (by decide); rw [setV_2, setV_id] at z; exact z
        exact ⟨congrArg (fun z => some (Value.int z)) (Eq.symm (by unfold canM; first | rw [if_pos c_82] | rw [if_neg c_82])), rfl, rfl, mA_tr s9 (mA_up (by decide)), vs, hM_up h9 (by decide)⟩
      · refine ax_iload dX12_can_85 rfl ?_
        refine ax_goto (tgt := 92) dX12_can_87 (by decide) ?_
        refine ax_iret dX12_can_92 rfl rfl (Nat.le_of_ble_eq_true rfl) (Nat.le_of_ble_eq_true rfl) ?_
        have vs : vM (up2 G9 79 p (W.C p 1)) W := by have z := vM_set (c := 1) (p := p) (x := W.C p 1) v9 (by decide); rw [setV_2, setV_id] at z; exact z
        exact ⟨congrArg (fun z => some (Value.int z)) (Eq.symm (by unfold canM; first | rw [if_pos c_82] | rw [if_neg c_82])), rfl, rfl, mA_tr s9 (mA_up (by decide)), vs, hM_up h9 (by decide)⟩
    · refine ax_iconst (v := (-1)) dX12_can_17 (by decide) ?_
      refine ax_iret dX12_can_18 rfl rfl (Nat.le_of_ble_eq_true rfl) (Nat.le_of_ble_eq_true rfl) ?_
      have e9 : canV W H (nI p) b = -1 := by unfold canV; rw [if_neg c_5, if_pos c_14]
      rw [e9]
      exact ⟨rfl, rfl, rfl, mA_refl, hv, hH⟩
