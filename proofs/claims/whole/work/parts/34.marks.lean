-- ===== contracts: what is marked =====
theorem l_areMarksSo {Z0 : Zt} {G0 : Gt} {L : Lt} {Q : Qt} {W : Wv} (hZ : OK Z0) (hv : vC Z0 G0 24 W) (ho : okW W) {H : Hv} (hH : hC G0 24 H) (hh : okH W.m H) (hm : W.mm + 20 < 20000) (p c : Nat) (x : Int32) (hp : p < W.m) (hc : c = 1 ∨ c = 2) (hend : ∀ Z G, trP Z0 G0 Z G → amB W H p c x H.nk = true → AX none mX11_areMarksSo 6 0 0 0 0 48 [] [] Z G L Q) (hbad : ∀ Z G, trP Z0 G0 Z G → amB W H p c x H.nk = false → Q (some (.int 0)) Z G L) : ∀ (n q : Nat), q ≤ H.nk → H.nk - q < n → ∀ Z G, trP Z0 G0 Z G → amB W H p c x q = true → AX none mX11_areMarksSo 6 0 0 0 0 3 [(0, .ref 0), (1, .int (nI p)), (2, .int (nI c)), (3, .int x), (4, .int (nI q))] [] Z G L Q := by
  have hm6 := ho.1
  have hk5 := hh.1
  intro n
  induction n with
  | zero => intro q h1 h2; omega
  | succ n ih =>
    intro q h1 h2 Z G t9 hq9
    have hZ9 := trP_OK t9 hZ
    refine ax_iload dX11_areMarksSo_3 rfl ?_
    refine ax_aload_n (i := 0) dX11_areMarksSo_5 rfl rfl ?_
    refine ax_getR dX11_areMarksSo_6 fl_X11_14 rfl (OKs hZ9 rfl) (OKr hZ9 rfl) ?_
    refine ax_getI dX11_areMarksSo_9 fl_X11_191 rfl (OKs hZ9 rfl) ?_
    refine ax_top (congrArg Value.int (trP_hC t9 hH (Or.inl rfl)).1.1) ?_
    refine ax_icmp_ge (tgt := 48) dX11_areMarksSo_12 (by decide) (fun c_12 => ?_) (fun c_12 => ?_)
    · obtain rfl : q = H.nk := by have := (nI_leI (by omega) (by omega)).mp (show nI H.nk ≤ nI q from c_12); omega
      exact ax_lv [] trivial (hend _ _ t9 hq9)
    · have hqm : q < H.nk := by have := mt (nI_leI (by omega) (by omega)).mpr (show ¬ nI H.nk ≤ nI q from c_12); omega
      have hq5 : q < 5 := by omega
      have hq6 := hh.2.1 q hqm
      refine ax_aload_n (i := 0) dX11_areMarksSo_15 rfl rfl ?_
      refine ax_getR dX11_areMarksSo_16 fl_X11_14 rfl (OKs hZ9 rfl) (OKr hZ9 rfl) ?_
      refine ax_getR dX11_areMarksSo_19 fl_X11_194 rfl (OKs hZ9 rfl) (OKr hZ9 rfl) ?_
      refine ax_iload dX11_areMarksSo_22 rfl ?_
      refine ax_ialdN q dX11_areMarksSo_24 (OKs hZ9 rfl) rfl hq5 (by decide) ?_
      refine ax_top (congrArg Value.int ((trP_hC t9 hH (Or.inl rfl)).1.2 q hqm).1) ?_
      refine ax_iload_n (i := 1) dX11_areMarksSo_25 rfl rfl ?_
      refine ax_icmp_ne (tgt := 42) dX11_areMarksSo_26 (by decide) (fun c_26 => ?_) (fun c_26 => ?_)
      · refine ax_iinc (v := (nI q) + 1) dX11_areMarksSo_42 rfl rfl (by decide) rfl ?_
        refine ax_goto (tgt := 3) dX11_areMarksSo_45 (by decide) ?_
        refine ax_lv [(0, .ref 0), (1, .int (nI p)), (2, .int (nI c)), (3, .int x), (4, .int (nI (q + 1)))] ⟨rfl, rfl, rfl, rfl, sI (nI_1 q), trivial⟩ ?_
        exact ih (q + 1) (by omega) (by omega) _ _ t9 (by rw [amB, hq9, decide_eq_false (fun z => c_26 (congrArg nI z))]; rfl)
      · refine ax_aload_n (i := 0) dX11_areMarksSo_29 rfl rfl ?_
        refine ax_iload dX11_areMarksSo_30 rfl ?_
        refine ax_iload_n (i := 2) dX11_areMarksSo_32 rfl rfl ?_
        refine ax_iload_n (i := 3) dX11_areMarksSo_33 rfl rfl ?_
        refine ax_cVq dX11_areMarksSo_34 lk_X11_203 (c_isMarkSo hZ9 (trP_vC t9 hv ho.1 (Or.inl rfl)) ho (trP_hC t9 hH (Or.inl rfl)) hh hm q c x hqm hc) rfl (OKs hZ9 rfl) ⟨_, rfl, rfl⟩ rfl (Nat.le_of_ble_eq_true rfl) (Nat.le_of_ble_eq_true rfl) (Nat.le_of_ble_eq_true rfl) (Nat.le_of_ble_eq_true rfl) ?_
        rintro Z1 G1 _ ⟨rfl, t'1⟩
        have t1 := trP_trans t9 t'1
        refine ax_if_ne (tgt := 42) dX11_areMarksSo_37 (by decide) (fun c_37 => ?_) (fun c_37 => ?_)
        · refine ax_iinc (v := (nI q) + 1) dX11_areMarksSo_42 rfl rfl (by decide) rfl ?_
          refine ax_goto (tgt := 3) dX11_areMarksSo_45 (by decide) ?_
          refine ax_lv [(0, .ref 0), (1, .int (nI p)), (2, .int (nI c)), (3, .int x), (4, .int (nI (q + 1)))] ⟨rfl, rfl, rfl, rfl, sI (nI_1 q), trivial⟩ ?_
          exact ih (q + 1) (by omega) (by omega) _ _ t1 (by rw [amB, hq9, decide_eq_true (show msV W H q c x from bi_ne.mp c_37)]; cases decide (H.k0 q = p) <;> rfl)
        · refine ax_iconst (v := 0) dX11_areMarksSo_40 (by decide) ?_
          refine ax_iret dX11_areMarksSo_41 rfl rfl (Nat.le_of_ble_eq_true rfl) (Nat.le_of_ble_eq_true rfl) ?_
          exact hbad _ _ t1 (amB_f (k := q + 1) (by omega) (by rw [amB, hq9, decide_eq_true ((nI_eq (by omega) (by omega)).mp c_26), decide_eq_false (show ¬ msV W H q c x from bi_eq.mp c_37)]; rfl))
theorem c_areMarksSo {Z : Zt} {G : Gt} {L : Lt} {W : Wv} (hZ : OK Z) (hv : vC Z G 24 W) (ho : okW W) {H : Hv} (hH : hC G 24 H) (hh : okH W.m H) (hm : W.mm + 20 < 20000) (p c : Nat) (x : Int32) (hp : p < W.m) (hc : c = 1 ∨ c = 2) : AC mX11_areMarksSo 6 0 0 [.ref 0, .int (nI p), .int (nI c), .int x] Z G L (RP (.int (bi (amB W H p c x H.nk = true))) (TP Z G L)) := by
  refine AC.intro (by decide +kernel) (Nat.le_of_ble_eq_true rfl) ?_
  refine ax_lv [(0, .ref 0), (1, .int (nI p)), (2, .int (nI c)), (3, .int x)] ⟨rfl, rfl, rfl, rfl, trivial⟩ ?_
  refine ax_iconst (v := 0) dX11_areMarksSo_0 (by decide) ?_
  refine ax_istore dX11_areMarksSo_1 (by decide) rfl ?_
  refine ax_lv [(0, .ref 0), (1, .int (nI p)), (2, .int (nI c)), (3, .int x), (4, .int (nI 0))] ⟨rfl, rfl, rfl, rfl, rfl, trivial⟩ ?_
  refine l_areMarksSo hZ hv ho hH hh hm p c x hp hc ?_ ?_ (H.nk + 1) 0 (by omega) (by omega) _ _ (trP_refl (Z := Z) (G := G)) rfl
  · intro Z9 G9 t9 hq9
    refine ax_iconst (v := 1) dX11_areMarksSo_48 (by decide) ?_
    refine ax_iret dX11_areMarksSo_49 rfl rfl (Nat.le_of_ble_eq_true rfl) (Nat.le_of_ble_eq_true rfl) ?_
    exact ⟨congrArg (fun z => some (Value.int z)) (bi_t hq9).symm, rfl, t9⟩
  · intro Z9 G9 t9 hq9
    exact ⟨congrArg (fun z => some (Value.int z)) (bi_f (by rw [hq9]; decide)).symm, rfl, t9⟩
theorem l_fitting {Z0 : Zt} {G0 : Gt} {L : Lt} {Q : Qt} {W : Wv} (hZ : OK Z0) (hv : vC Z0 G0 24 W) (ho : okW W) {H : Hv} (hH : hC G0 24 H) (hh : okH W.m H) (hm : W.mm + 20 < 20000) (p c most : Nat) (hmo : most ≤ 20) (hp : p < W.m) (hc : c = 1 ∨ c = 2) (hend : ∀ Z G, trP Z0 G0 Z G → AX none mX11_fitting 7 0 0 0 0 38 [(4, .int (fiV W H p c (most + 1)))] [] Z G L Q) : ∀ (n q : Nat), q ≤ (most + 1) → (most + 1) - q < n → ∀ Z G, trP Z0 G0 Z G → AX none mX11_fitting 7 0 0 0 0 6 [(0, .ref 0), (1, .int (nI p)), (2, .int (nI c)), (3, .int (nI most)), (4, .int (fiV W H p c q)), (5, .int (nI q))] [] Z G L Q := by
  intro n
  induction n with
  | zero => intro q h1 h2; omega
  | succ n ih =>
    intro q h1 h2 Z G t9 
    have hZ9 := trP_OK t9 hZ
    refine ax_iload dX11_fitting_6 rfl ?_
    refine ax_iload_n (i := 3) dX11_fitting_8 rfl rfl ?_
    refine ax_icmp_gt (tgt := 38) dX11_fitting_9 (by decide) (fun c_9 => ?_) (fun c_9 => ?_)
    · obtain rfl : q = most + 1 := by have := (nI_ltI (by omega) (by omega)).mp c_9; omega
      exact ax_lv [(4, .int (fiV W H p c (most + 1)))] ⟨rfl, trivial⟩ (hend _ _ t9)
    · have hqm : q ≤ most := (nI_leI (by omega) (by omega)).mp (Int32.not_lt.mp c_9)
      refine ax_aload_n (i := 0) dX11_fitting_12 rfl rfl ?_
      refine ax_iload_n (i := 1) dX11_fitting_13 rfl rfl ?_
      refine ax_iload_n (i := 2) dX11_fitting_14 rfl rfl ?_
      refine ax_iload dX11_fitting_15 rfl ?_
      refine ax_cVq dX11_fitting_17 lk_X11_216 (c_areMarksSo hZ9 (trP_vC t9 hv ho.1 (Or.inl rfl)) ho (trP_hC t9 hH (Or.inl rfl)) hh hm p c (nI q) hp hc) rfl (OKs hZ9 rfl) ⟨_, rfl, rfl⟩ rfl (Nat.le_of_ble_eq_true rfl) (Nat.le_of_ble_eq_true rfl) (Nat.le_of_ble_eq_true rfl) (Nat.le_of_ble_eq_true rfl) ?_
      rintro Z1 G1 _ ⟨rfl, t'1⟩
      have t1 := trP_trans t9 t'1
      refine ax_if_eq (tgt := 32) dX11_fitting_20 (by decide) (fun c_20 => ?_) (fun c_20 => ?_)
      · refine ax_iinc (v := (nI q) + 1) dX11_fitting_32 rfl rfl (by decide) rfl ?_
        refine ax_goto (tgt := 6) dX11_fitting_35 (by decide) ?_
        refine ax_lv [(0, .ref 0), (1, .int (nI p)), (2, .int (nI c)), (3, .int (nI most)), (4, .int (fiV W H p c (q + 1))), (5, .int (nI (q + 1)))] ⟨rfl, rfl, rfl, rfl, sI (by rw [fiV]; rw [if_neg (bi_eq.mp c_20)]), sI (nI_1 q), trivial⟩ ?_
        exact ih (q + 1) (by omega) (by omega) _ _ t1
      · refine ax_iload dX11_fitting_23 rfl ?_
        refine ax_iconst (v := 1) dX11_fitting_25 (by decide) ?_
        refine ax_iload dX11_fitting_26 rfl ?_
        refine ax_ishl dX11_fitting_28 ?_
        refine ax_ior dX11_fitting_29 ?_
        refine ax_istore dX11_fitting_30 (by decide) rfl ?_
        refine ax_iinc (v := (nI q) + 1) dX11_fitting_32 rfl rfl (by decide) rfl ?_
        refine ax_goto (tgt := 6) dX11_fitting_35 (by decide) ?_
        refine ax_lv [(0, .ref 0), (1, .int (nI p)), (2, .int (nI c)), (3, .int (nI most)), (4, .int (fiV W H p c (q + 1))), (5, .int (nI (q + 1)))] ⟨rfl, rfl, rfl, rfl, sI (by rw [fiV]; rw [if_pos (bi_ne.mp c_20)]), sI (nI_1 q), trivial⟩ ?_
        exact ih (q + 1) (by omega) (by omega) _ _ t1
theorem c_fitting {Z : Zt} {G : Gt} {L : Lt} {W : Wv} (hZ : OK Z) (hv : vC Z G 24 W) (ho : okW W) {H : Hv} (hH : hC G 24 H) (hh : okH W.m H) (hm : W.mm + 20 < 20000) (p c most : Nat) (hmo : most ≤ 20) (hp : p < W.m) (hc : c = 1 ∨ c = 2) : AC mX11_fitting 7 0 0 [.ref 0, .int (nI p), .int (nI c), .int (nI most)] Z G L (RP (.int (fiV W H p c (most + 1))) (TP Z G L)) := by
  refine AC.intro (by decide +kernel) (Nat.le_of_ble_eq_true rfl) ?_
  refine ax_lv [(0, .ref 0), (1, .int (nI p)), (2, .int (nI c)), (3, .int (nI most))] ⟨rfl, rfl, rfl, rfl, trivial⟩ ?_
  refine ax_iconst (v := 0) dX11_fitting_0 (by decide) ?_
  refine ax_istore dX11_fitting_1 (by decide) rfl ?_
  refine ax_iconst (v := 0) dX11_fitting_3 (by decide) ?_
  refine ax_istore dX11_fitting_4 (by decide) rfl ?_
  refine ax_lv [(0, .ref 0), (1, .int (nI p)), (2, .int (nI c)), (3, .int (nI most)), (4, .int (fiV W H p c 0)), (5, .int (nI 0))] ⟨rfl, rfl, rfl, rfl, rfl, rfl, trivial⟩ ?_
  refine l_fitting hZ hv ho hH hh hm p c most hmo hp hc ?_ (most + 2) 0 (by omega) (by omega) _ _ (trP_refl (Z := Z) (G := G))
  intro Z9 G9 t9
  refine ax_iload dX11_fitting_38 rfl ?_
  refine ax_iret dX11_fitting_40 rfl rfl (Nat.le_of_ble_eq_true rfl) (Nat.le_of_ble_eq_true rfl) ?_
  exact ⟨rfl, rfl, t9⟩
theorem l_wrong {Z0 : Zt} {G0 : Gt} {L : Lt} {Q : Qt} {W : Wv} (hZ : OK Z0) (hv : vC Z0 G0 24 W) (ho : okW W) {H : Hv} (hH : hC G0 24 H) (hh : okH W.m H) (hm : W.mm + 20 < 20000) : ∀ (r k : Nat), k + r = H.nk → (∀ Z G, trP Z0 G0 Z G → Q (some (.int (fst0 (fun k => decide (¬ msV W H k 2 (W.C (H.k0 k) 2))) r k))) Z G L) → ∀ Z G, trP Z0 G0 Z G → AX none mX11_wrong 6 0 0 0 0 2 [(0, .ref 0), (1, .int (nI k))] [] Z G L Q := by
  have hm6 := ho.1
  have hk5 := hh.1
  intro r
  induction r with
  | zero =>
    intro k h1 hend Z G t9
    have hZ9 := trP_OK t9 hZ
    refine ax_iload_n (i := 1) dX11_wrong_2 rfl rfl ?_
    refine ax_aload_n (i := 0) dX11_wrong_3 rfl rfl ?_
    refine ax_getR dX11_wrong_4 fl_X11_14 rfl (OKs hZ9 rfl) (OKr hZ9 rfl) ?_
    refine ax_getI dX11_wrong_7 fl_X11_191 rfl (OKs hZ9 rfl) ?_
    refine ax_top (congrArg Value.int (trP_hC t9 hH (Or.inl rfl)).1.1) ?_
    refine ax_icmp_ge (tgt := 49) dX11_wrong_10 (by decide) (fun c_10 => ?_) (fun c_10 => ?_)
    · refine ax_bipush (v := (-5)) dX11_wrong_49 (by decide) ?_
      refine ax_iret dX11_wrong_51 rfl rfl (Nat.le_of_ble_eq_true rfl) (Nat.le_of_ble_eq_true rfl) ?_
      exact hend _ _ t9
    · exact absurd (nI_le (by omega) (by omega)) c_10
  | succ r ih =>
    intro k h1 hend Z G t9
    have hZ9 := trP_OK t9 hZ
    refine ax_iload_n (i := 1) dX11_wrong_2 rfl rfl ?_
    refine ax_aload_n (i := 0) dX11_wrong_3 rfl rfl ?_
    refine ax_getR dX11_wrong_4 fl_X11_14 rfl (OKs hZ9 rfl) (OKr hZ9 rfl) ?_
    refine ax_getI dX11_wrong_7 fl_X11_191 rfl (OKs hZ9 rfl) ?_
    refine ax_top (congrArg Value.int (trP_hC t9 hH (Or.inl rfl)).1.1) ?_
    refine ax_icmp_ge (tgt := 49) dX11_wrong_10 (by decide) (fun c_10 => ?_) (fun c_10 => ?_)
    · exact absurd ((nI_leI (by omega) (by omega)).mp c_10) (by omega)
    · refine ax_aload_n (i := 0) dX11_wrong_13 rfl rfl ?_
      refine ax_iload_n (i := 1) dX11_wrong_14 rfl rfl ?_
      refine ax_iconst (v := 2) dX11_wrong_15 (by decide) ?_
      refine ax_aload_n (i := 0) dX11_wrong_16 rfl rfl ?_
      refine ax_getR dX11_wrong_17 fl_X11_14 rfl (OKs hZ9 rfl) (OKr hZ9 rfl) ?_
      refine ax_getR dX11_wrong_20 fl_X11_87 rfl (OKs hZ9 rfl) (OKr hZ9 rfl) ?_
      refine ax_aload_n (i := 0) dX11_wrong_23 rfl rfl ?_
      refine ax_getR dX11_wrong_24 fl_X11_14 rfl (OKs hZ9 rfl) (OKr hZ9 rfl) ?_
      refine ax_getR dX11_wrong_27 fl_X11_194 rfl (OKs hZ9 rfl) (OKr hZ9 rfl) ?_
      refine ax_iload_n (i := 1) dX11_wrong_30 rfl rfl ?_
      refine ax_ialdN k dX11_wrong_31 (OKs hZ9 rfl) rfl (show k < 5 by omega) (by decide) ?_
      refine ax_top (congrArg Value.int ((trP_hC t9 hH (Or.inl rfl)).1.2 k (by omega)).1) ?_
      refine ax_aaldN (H.k0 k) (t0 := 5) dX11_wrong_32 (OKs hZ9 rfl) rfl (fun _ => rfl) rfl (show H.k0 k < 6 by have := hh.2.1 k (by omega); omega) (by decide) (Wrf (isW24 hZ9) (show H.k0 k < 6 by have := hh.2.1 k (by omega); omega)) ?_
      refine ax_iconst (v := 2) dX11_wrong_33 (by decide) ?_
      refine ax_ialdN 2 dX11_wrong_34 (Wrow (isW24 hZ9) (show H.k0 k < 6 by have := hh.2.1 k (by omega); omega)) rfl (by decide) (by decide) ?_
      refine ax_top (congrArg Value.int ((trP_vC t9 hv ho.1 (Or.inl rfl)).2.2.1 (H.k0 k) (hh.2.1 k (by omega)).1 2 (by decide))) ?_
      refine ax_cVq dX11_wrong_35 lk_X11_203 (c_isMarkSo hZ9 (trP_vC t9 hv ho.1 (Or.inl rfl)) ho (trP_hC t9 hH (Or.inl rfl)) hh hm k 2 (W.C (H.k0 k) 2) (by omega) (Or.inr rfl)) rfl (OKs hZ9 rfl) ⟨_, rfl, rfl⟩ rfl (Nat.le_of_ble_eq_true rfl) (Nat.le_of_ble_eq_true rfl) (Nat.le_of_ble_eq_true rfl) (Nat.le_of_ble_eq_true rfl) ?_
      rintro Z1 G1 _ ⟨rfl, t'1⟩
      have t1 := trP_trans t9 t'1
      refine ax_if_ne (tgt := 43) dX11_wrong_38 (by decide) (fun c_38 => ?_) (fun c_38 => ?_)
      · refine ax_iinc (v := (nI k) + 1) dX11_wrong_43 rfl rfl (by decide) rfl ?_
        refine ax_goto (tgt := 2) dX11_wrong_46 (by decide) ?_
        refine ax_lv [(0, .ref 0), (1, .int (nI (k + 1)))] ⟨rfl, sI (nI_1 k), trivial⟩ ?_
        refine ih (k + 1) (by omega) (fun Z G t => ?_) _ _ t1
        exact cast (congrArg (fun z => Q (some (Value.int z)) Z G _) (by conv => lhs; rw [fst0, if_neg (by rw [decide_eq_true_iff, Decidable.not_not]; exact bi_ne.mp c_38)])) (hend Z G t)
      · refine ax_iload_n (i := 1) dX11_wrong_41 rfl rfl ?_
        refine ax_iret dX11_wrong_42 rfl rfl (Nat.le_of_ble_eq_true rfl) (Nat.le_of_ble_eq_true rfl) ?_
        exact cast (congrArg (fun z => Q (some (Value.int z)) _ _ _) (by rw [fst0, if_pos (decide_eq_true (bi_eq.mp c_38))])) (hend _ _ t1)
theorem c_wrong {Z : Zt} {G : Gt} {L : Lt} {W : Wv} (hZ : OK Z) (hv : vC Z G 24 W) (ho : okW W) {H : Hv} (hH : hC G 24 H) (hh : okH W.m H) (hm : W.mm + 20 < 20000) : AC mX11_wrong 6 0 0 [.ref 0] Z G L (RP (.int (fst0 (fun k => decide (¬ msV W H k 2 (W.C (H.k0 k) 2))) H.nk 0)) (TP Z G L)) := by
  refine AC.intro (by decide +kernel) (Nat.le_of_ble_eq_true rfl) ?_
  refine ax_lv [(0, .ref 0)] ⟨rfl, trivial⟩ ?_
  refine ax_iconst (v := 0) dX11_wrong_0 (by decide) ?_
  refine ax_istore_n (i := 1) dX11_wrong_1 rfl (by decide) rfl ?_
  refine ax_lv [(0, .ref 0), (1, .int (nI 0))] ⟨rfl, rfl, trivial⟩ ?_
  exact l_wrong hZ hv ho hH hh hm H.nk 0 (by omega) (fun Z G t => ⟨rfl, rfl, t⟩) _ _ (trP_refl (Z := Z) (G := G))
