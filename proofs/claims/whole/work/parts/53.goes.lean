-- ===== the model: light, minutes =====
theorem sumM_e {G : Gt} {W : Wv} {p : Nat} (hv : vM G W) (hp : p < W.m) : (2 * G 80 p - G 82 p / 10) + smO G (G 75 18) (nI p) (fun i => G (78 + i) p) (G 75 10) = 2 * W.C p 2 - W.C p 4 / 10 + W.sb p (W.C p) W.mm := by
  have h := (hv.2.2.1 p hp).1
  rw [smO_row6 (row' := W.C p) (fun i hi => h i hi), hv.2.1, hv.2.2.2.2.2.2.2 p _ W.mm, show G 80 p = W.C p 2 from h 2 (by decide), show G 82 p = W.C p 4 from h 4 (by decide)]
theorem vM_f {G G1 : Gt} {W : Wv} (f : ∀ a, a ≠ 92 → G1 a = G a) (hv : vM G W) : vM G1 W := vM_keep hv (fun a x y => f a (by omega)) (fun i _ => by rw [f 75 (by decide)])
theorem mS_f {G G1 : Gt} (f : ∀ a, a ≠ 92 → G1 a = G a) : mS G G1 := ⟨fun a _ y => f a y, fun i _ _ => by rw [f 75 (by decide)]⟩
theorem and1 (x : Int32) : x &&& 1 = 0 ∨ x &&& 1 = 1 := by
  obtain ⟨j, hj, e⟩ := pk_andE x (m := 1) 1 (by decide)
  have : j = 0 ∨ j = 1 := by omega
  rcases this with rfl | rfl
  · exact Or.inl e
  · exact Or.inr e
theorem k_lightOf {Z : Zt} {G : Gt} {L : Lt} {W : Wv} (hZ : OK Z) (hv : vM G W) (ho : okW W) (p : Nat) (hp : p < W.m) : AC mX12_lightOf 4 0 0 [.ref 75, .int (nI p)] Z G L (RP (.int (lightV W p)) (F92 Z G L)) := by
  refine AC.intro (by decide +kernel) (Nat.le_of_ble_eq_true rfl) ?_
  refine ax_lv [(0, .ref 75), (1, .int (nI p))] ⟨rfl, rfl, trivial⟩ ?_
  have hp6 : p < 6 := by have := ho.1; omega
  have hm2 := ho.2.1
  refine ax_aload_n (i := 0) dX12_lightOf_0 rfl rfl ?_
  refine ax_iload_n (i := 1) dX12_lightOf_1 rfl rfl ?_
  refine ax_cVq dX12_lightOf_2 lk_X12_234 (k_sum_m hZ p hp6 hv.2.2.2.2.2.1) rfl (OKs hZ rfl) ⟨_, rfl, rfl⟩ rfl (Nat.le_of_ble_eq_true rfl) (Nat.le_of_ble_eq_true rfl) (Nat.le_of_ble_eq_true rfl) (Nat.le_of_ble_eq_true rfl) ?_
  rintro _ G1 _ ⟨rfl, rfl, f1⟩
  have hv1 := vM_f f1 hv
  refine ax_top (congrArg Value.int (sumM_e hv hp)) ?_
  refine ax_istore_n (i := 2) dX12_lightOf_5 rfl (by decide) rfl ?_
  refine ax_aload_n (i := 0) dX12_lightOf_6 rfl rfl ?_
  refine ax_getR dX12_lightOf_7 fl_X12_15 rfl (OKs hZ rfl) (OKr hZ rfl) ?_
  refine ax_aload_n (i := 0) dX12_lightOf_10 rfl rfl ?_
  refine ax_getI dX12_lightOf_11 fl_X12_224 rfl (OKs hZ rfl) ?_
  refine ax_top (congrArg Value.int hv1.2.1) ?_
  refine ax_iconst (v := 4) dX12_lightOf_14 (by decide) ?_
  refine ax_irem dX12_lightOf_15 (by decide) ?_
  refine ax_ialdN (W.mm % 4) dX12_lightOf_16 (OKs hZ rfl) (rem4 (by omega)) (Nat.mod_lt _ (by decide)) (by decide) ?_
  refine ax_top (congrArg Value.int (hv1.2.2.2.2.1 (W.mm % 4) (Nat.mod_lt _ (by decide)))) ?_
  refine ax_aload_n (i := 0) dX12_lightOf_17 rfl rfl ?_
  refine ax_getR dX12_lightOf_18 fl_X12_21 rfl (OKs hZ rfl) (OKr hZ rfl) ?_
  refine ax_iload_n (i := 1) dX12_lightOf_21 rfl rfl ?_
  refine ax_ialdN p dX12_lightOf_22 (OKs hZ rfl) rfl hp6 (by decide) ?_
  refine ax_top (congrArg Value.int (show G1 79 p = W.C p 1 from (hv1.2.2.1 p hp).1 1 (by decide))) ?_
  refine ax_icmp_le (tgt := 30) dX12_lightOf_23 (by decide) (fun c_23 => ?_) (fun c_23 => ?_)
  · refine ax_iload_n (i := 2) dX12_lightOf_30 rfl rfl ?_
    refine ax_istore_n (i := 3) dX12_lightOf_31 rfl (by decide) rfl ?_
    refine ax_aload_n (i := 0) dX12_lightOf_32 rfl rfl ?_
    refine ax_getR dX12_lightOf_33 fl_X12_18 rfl (OKs hZ rfl) (OKr hZ rfl) ?_
    refine ax_iload_n (i := 1) dX12_lightOf_36 rfl rfl ?_
    refine ax_ialdN p dX12_lightOf_37 (OKs hZ rfl) rfl hp6 (by decide) ?_
    refine ax_top (congrArg Value.int (show G1 78 p = W.C p 0 from (hv1.2.2.1 p hp).1 0 (by decide))) ?_
    refine (Decidable.em ((W.C p 0) = 1)).elim (fun e_38_1 => ?_) (fun e_38_1 => ?_)
    · refine ax_tin (off := 38) (tgt := 76) dX12_lightOf_38 (by rw [e_38_1]; decide) (by rw [e_38_1]; decide) (by rw [e_38_1]; decide) (by decide) ?_
      refine ax_iload_n (i := 2) dX12_lightOf_76 rfl rfl ?_
      refine ax_aload_n (i := 0) dX12_lightOf_77 rfl rfl ?_
      refine ax_getR dX12_lightOf_78 fl_X12_21 rfl (OKs hZ rfl) (OKr hZ rfl) ?_
      refine ax_iload_n (i := 1) dX12_lightOf_81 rfl rfl ?_
      refine ax_ialdN p dX12_lightOf_82 (OKs hZ rfl) rfl hp6 (by decide) ?_
      refine ax_top (congrArg Value.int (show G1 79 p = W.C p 1 from (hv1.2.2.1 p hp).1 1 (by decide))) ?_
      refine ax_iadd dX12_lightOf_83 ?_
      refine ax_iret dX12_lightOf_84 rfl rfl (Nat.le_of_ble_eq_true rfl) (Nat.le_of_ble_eq_true rfl) ?_
      exact ⟨congrArg (fun z => some (Value.int z)) (Eq.symm (show lightV W p = _ from by unfold lightV; rw [e_38_1]; exact lk_1.trans (by rfl))), rfl, rfl, f1⟩
    refine (Decidable.em ((W.C p 0) = 2)).elim (fun e_38_2 => ?_) (fun e_38_2 => ?_)
    · refine ax_tin (off := 47) (tgt := 85) dX12_lightOf_38 (by rw [e_38_2]; decide) (by rw [e_38_2]; decide) (by rw [e_38_2]; decide) (by decide) ?_
      refine ax_iload_n (i := 2) dX12_lightOf_85 rfl rfl ?_
      refine ax_iconst (v := 2) dX12_lightOf_86 (by decide) ?_
      refine ax_idiv dX12_lightOf_87 (by decide) ?_
      refine ax_iret dX12_lightOf_88 rfl rfl (Nat.le_of_ble_eq_true rfl) (Nat.le_of_ble_eq_true rfl) ?_
      exact ⟨congrArg (fun z => some (Value.int z)) (Eq.symm (show lightV W p = _ from by unfold lightV; rw [e_38_2]; exact lk_2.trans (by rfl))), rfl, rfl, f1⟩
    refine (Decidable.em ((W.C p 0) = 3)).elim (fun e_38_3 => ?_) (fun e_38_3 => ?_)
    · refine ax_tin (off := 51) (tgt := 89) dX12_lightOf_38 (by rw [e_38_3]; decide) (by rw [e_38_3]; decide) (by rw [e_38_3]; decide) (by decide) ?_
      refine ax_iload_n (i := 3) dX12_lightOf_89 rfl rfl ?_
      refine ax_iret dX12_lightOf_90 rfl rfl (Nat.le_of_ble_eq_true rfl) (Nat.le_of_ble_eq_true rfl) ?_
      exact ⟨congrArg (fun z => some (Value.int z)) (Eq.symm (show lightV W p = _ from by unfold lightV; rw [e_38_3]; exact lk_3.trans (by first | exact if_pos c_23 | exact if_neg c_23))), rfl, rfl, f1⟩
    refine (Decidable.em ((W.C p 0) = 4)).elim (fun e_38_4 => ?_) (fun e_38_4 => ?_)
    · refine ax_tin (off := 53) (tgt := 91) dX12_lightOf_38 (by rw [e_38_4]; decide) (by rw [e_38_4]; decide) (by rw [e_38_4]; decide) (by decide) ?_
      refine ax_iload_n (i := 2) dX12_lightOf_91 rfl rfl ?_
      refine ax_aload_n (i := 0) dX12_lightOf_92 rfl rfl ?_
      refine ax_getR dX12_lightOf_93 fl_X12_21 rfl (OKs hZ rfl) (OKr hZ rfl) ?_
      refine ax_iload_n (i := 1) dX12_lightOf_96 rfl rfl ?_
      refine ax_ialdN p dX12_lightOf_97 (OKs hZ rfl) rfl hp6 (by decide) ?_
      refine ax_top (congrArg Value.int (show G1 79 p = W.C p 1 from (hv1.2.2.1 p hp).1 1 (by decide))) ?_
      refine ax_iadd dX12_lightOf_98 ?_
      refine ax_iconst (v := 2) dX12_lightOf_99 (by decide) ?_
      refine ax_aload_n (i := 0) dX12_lightOf_100 rfl rfl ?_
      refine ax_iconst (v := 2) dX12_lightOf_101 (by decide) ?_
      refine ax_cVv dX12_lightOf_102 lk_X12_237 (c_X12_areSo hZ ho.1 hv1.1 2) rfl (OKs hZ rfl) ⟨_, rfl, rfl⟩ rfl (Nat.le_of_ble_eq_true rfl) (Nat.le_of_ble_eq_true rfl) (Nat.le_of_ble_eq_true rfl) (Nat.le_of_ble_eq_true rfl) ?_
      refine ax_top (congrArg Value.int (inB_congr (g := fun p => W.C p 5) W.m (fun a ha => (hv1.2.2.1 a ha).1 5 (by decide)))) ?_
      refine ax_cSv dX12_lightOf_105 lk_X12_240 (c_bitCount (inB (fun p => W.C p 5) 2 W.m)) rfl rfl (Nat.le_of_ble_eq_true rfl) (Nat.le_of_ble_eq_true rfl) (Nat.le_of_ble_eq_true rfl) (Nat.le_of_ble_eq_true rfl) ?_
      refine ax_imul dX12_lightOf_108 ?_
      refine ax_iadd dX12_lightOf_109 ?_
      refine ax_iret dX12_lightOf_110 rfl rfl (Nat.le_of_ble_eq_true rfl) (Nat.le_of_ble_eq_true rfl) ?_
      exact ⟨congrArg (fun z => some (Value.int z)) (Eq.symm (show lightV W p = _ from by unfold lightV; rw [e_38_4]; exact lk_4.trans (by rfl))), rfl, rfl, f1⟩
    refine (Decidable.em ((W.C p 0) = 5)).elim (fun e_38_5 => ?_) (fun e_38_5 => ?_)
    · refine ax_tin (off := 73) (tgt := 111) dX12_lightOf_38 (by rw [e_38_5]; decide) (by rw [e_38_5]; decide) (by rw [e_38_5]; decide) (by decide) ?_
      refine ax_aload_n (i := 0) dX12_lightOf_111 rfl rfl ?_
      refine ax_getI dX12_lightOf_112 fl_X12_224 rfl (OKs hZ rfl) ?_
      refine ax_top (congrArg Value.int hv1.2.1) ?_
      refine ax_iconst (v := 3) dX12_lightOf_115 (by decide) ?_
      refine ax_irem dX12_lightOf_116 (by decide) ?_
      refine ax_if_ne (tgt := 128) dX12_lightOf_117 (by decide) (fun c_117 => ?_) (fun c_117 => ?_)
      · refine ax_iload_n (i := 2) dX12_lightOf_128 rfl rfl ?_
        refine ax_iconst (v := 2) dX12_lightOf_129 (by decide) ?_
        refine ax_idiv dX12_lightOf_130 (by decide) ?_
        refine ax_iret dX12_lightOf_131 rfl rfl (Nat.le_of_ble_eq_true rfl) (Nat.le_of_ble_eq_true rfl) ?_
        exact ⟨congrArg (fun z => some (Value.int z)) (Eq.symm (show lightV W p = _ from by unfold lightV; rw [e_38_5]; exact lk_5.trans (by first | (rw [if_pos c_117, Int32.mul_comm]) | (rw [if_neg c_117])))), rfl, rfl, f1⟩
      · refine ax_iload_n (i := 2) dX12_lightOf_120 rfl rfl ?_
        refine ax_iconst (v := 2) dX12_lightOf_121 (by decide) ?_
        refine ax_idiv dX12_lightOf_122 (by decide) ?_
        refine ax_iconst (v := 2) dX12_lightOf_123 (by decide) ?_
        refine ax_imul dX12_lightOf_124 ?_
        refine ax_goto (tgt := 131) dX12_lightOf_125 (by decide) ?_
        refine ax_iret dX12_lightOf_131 rfl rfl (Nat.le_of_ble_eq_true rfl) (Nat.le_of_ble_eq_true rfl) ?_
        exact ⟨congrArg (fun z => some (Value.int z)) (Eq.symm (show lightV W p = _ from by unfold lightV; rw [e_38_5]; exact lk_5.trans (by first | (rw [if_pos c_117, Int32.mul_comm]) | (rw [if_neg c_117])))), rfl, rfl, f1⟩
    refine (Decidable.em ((W.C p 0) = 6)).elim (fun e_38_6 => ?_) (fun e_38_6 => ?_)
    · refine ax_tin (off := 94) (tgt := 132) dX12_lightOf_38 (by rw [e_38_6]; decide) (by rw [e_38_6]; decide) (by rw [e_38_6]; decide) (by decide) ?_
      refine ax_iload_n (i := 3) dX12_lightOf_132 rfl rfl ?_
      refine ax_aload_n (i := 0) dX12_lightOf_133 rfl rfl ?_
      refine ax_getR dX12_lightOf_134 fl_X12_36 rfl (OKs hZ rfl) (OKr hZ rfl) ?_
      refine ax_iconst (v := 4) dX12_lightOf_137 (by decide) ?_
      refine ax_iload_n (i := 1) dX12_lightOf_138 rfl rfl ?_
      refine ax_imul dX12_lightOf_139 ?_
      refine ax_aload_n (i := 0) dX12_lightOf_140 rfl rfl ?_
      refine ax_getI dX12_lightOf_141 fl_X12_224 rfl (OKs hZ rfl) ?_
      refine ax_top (congrArg Value.int hv1.2.1) ?_
      refine ax_iconst (v := 4) dX12_lightOf_144 (by decide) ?_
      refine ax_irem dX12_lightOf_145 (by decide) ?_
      refine ax_iadd dX12_lightOf_146 ?_
      refine ax_ialdN (4 * p + W.mm % 4) dX12_lightOf_147 (OKs hZ rfl) (show 4 * nI p + (nI W.mm - nI W.mm / 4 * 4) = nI (4 * p + W.mm % 4) by rw [rem4 (by omega), show (4 : Int32) = nI 4 from rfl, pk_mul, nI_add]) (by have := Nat.mod_lt W.mm (show 0 < 4 by decide); omega) (by decide) ?_
      refine ax_top (congrArg Value.int ((hv1.2.2.1 p hp).2 (W.mm % 4) (Nat.mod_lt _ (by decide)))) ?_
      refine ax_iadd dX12_lightOf_148 ?_
      refine ax_iret dX12_lightOf_149 rfl rfl (Nat.le_of_ble_eq_true rfl) (Nat.le_of_ble_eq_true rfl) ?_
      exact ⟨congrArg (fun z => some (Value.int z)) (Eq.symm (show lightV W p = _ from by unfold lightV; rw [e_38_6]; exact lk_6.trans (by first | rw [if_pos c_23] | rw [if_neg c_23]))), rfl, rfl, f1⟩
    refine ax_tout (tgt := 150) dX12_lightOf_38 (sw_outL 1 6 (by decide) (by decide) (by decide) ⟨⟨⟨⟨⟨⟨trivial, e_38_1⟩, e_38_2⟩, e_38_3⟩, e_38_4⟩, e_38_5⟩, e_38_6⟩) (by decide) ?_
    refine ax_iload_n (i := 2) dX12_lightOf_150 rfl rfl ?_
    refine ax_iret dX12_lightOf_151 rfl rfl (Nat.le_of_ble_eq_true rfl) (Nat.le_of_ble_eq_true rfl) ?_
    have e0 : W.C p 0 = nI 0 := by
      obtain ⟨kk, hkk, ek⟩ := ho.2.2.1 p hp
      have : kk = 0 ∨ kk = 1 ∨ kk = 2 ∨ kk = 3 ∨ kk = 4 ∨ kk = 5 ∨ kk = 6 := by omega
      rcases this with rfl | rfl | rfl | rfl | rfl | rfl | rfl
      · exact ek
      · exact absurd ek e_38_1
      · exact absurd ek e_38_2
      · exact absurd ek e_38_3
      · exact absurd ek e_38_4
      · exact absurd ek e_38_5
      · exact absurd ek e_38_6
    exact ⟨congrArg (fun z => some (Value.int z)) (Eq.symm (show lightV W p = _ from by unfold lightV; rw [e0]; exact lk_0)), rfl, rfl, f1⟩
  · refine ax_iconst (v := 0) dX12_lightOf_26 (by decide) ?_
    refine ax_goto (tgt := 31) dX12_lightOf_27 (by decide) ?_
    refine ax_istore_n (i := 3) dX12_lightOf_31 rfl (by decide) rfl ?_
    refine ax_aload_n (i := 0) dX12_lightOf_32 rfl rfl ?_
    refine ax_getR dX12_lightOf_33 fl_X12_18 rfl (OKs hZ rfl) (OKr hZ rfl) ?_
    refine ax_iload_n (i := 1) dX12_lightOf_36 rfl rfl ?_
    refine ax_ialdN p dX12_lightOf_37 (OKs hZ rfl) rfl hp6 (by decide) ?_
    refine ax_top (congrArg Value.int (show G1 78 p = W.C p 0 from (hv1.2.2.1 p hp).1 0 (by decide))) ?_
    refine (Decidable.em ((W.C p 0) = 1)).elim (fun e_38_1 => ?_) (fun e_38_1 => ?_)
    · refine ax_tin (off := 38) (tgt := 76) dX12_lightOf_38 (by rw [e_38_1]; decide) (by rw [e_38_1]; decide) (by rw [e_38_1]; decide) (by decide) ?_
      refine ax_iload_n (i := 2) dX12_lightOf_76 rfl rfl ?_
      refine ax_aload_n (i := 0) dX12_lightOf_77 rfl rfl ?_
      refine ax_getR dX12_lightOf_78 fl_X12_21 rfl (OKs hZ rfl) (OKr hZ rfl) ?_
      refine ax_iload_n (i := 1) dX12_lightOf_81 rfl rfl ?_
      refine ax_ialdN p dX12_lightOf_82 (OKs hZ rfl) rfl hp6 (by decide) ?_
      refine ax_top (congrArg Value.int (show G1 79 p = W.C p 1 from (hv1.2.2.1 p hp).1 1 (by decide))) ?_
      refine ax_iadd dX12_lightOf_83 ?_
      refine ax_iret dX12_lightOf_84 rfl rfl (Nat.le_of_ble_eq_true rfl) (Nat.le_of_ble_eq_true rfl) ?_
      exact ⟨congrArg (fun z => some (Value.int z)) (Eq.symm (show lightV W p = _ from by unfold lightV; rw [e_38_1]; exact lk_1.trans (by rfl))), rfl, rfl, f1⟩
    refine (Decidable.em ((W.C p 0) = 2)).elim (fun e_38_2 => ?_) (fun e_38_2 => ?_)
    · refine ax_tin (off := 47) (tgt := 85) dX12_lightOf_38 (by rw [e_38_2]; decide) (by rw [e_38_2]; decide) (by rw [e_38_2]; decide) (by decide) ?_
      refine ax_iload_n (i := 2) dX12_lightOf_85 rfl rfl ?_
      refine ax_iconst (v := 2) dX12_lightOf_86 (by decide) ?_
      refine ax_idiv dX12_lightOf_87 (by decide) ?_
      refine ax_iret dX12_lightOf_88 rfl rfl (Nat.le_of_ble_eq_true rfl) (Nat.le_of_ble_eq_true rfl) ?_
      exact ⟨congrArg (fun z => some (Value.int z)) (Eq.symm (show lightV W p = _ from by unfold lightV; rw [e_38_2]; exact lk_2.trans (by rfl))), rfl, rfl, f1⟩
    refine (Decidable.em ((W.C p 0) = 3)).elim (fun e_38_3 => ?_) (fun e_38_3 => ?_)
    · refine ax_tin (off := 51) (tgt := 89) dX12_lightOf_38 (by rw [e_38_3]; decide) (by rw [e_38_3]; decide) (by rw [e_38_3]; decide) (by decide) ?_
      refine ax_iload_n (i := 3) dX12_lightOf_89 rfl rfl ?_
      refine ax_iret dX12_lightOf_90 rfl rfl (Nat.le_of_ble_eq_true rfl) (Nat.le_of_ble_eq_true rfl) ?_
      exact ⟨congrArg (fun z => some (Value.int z)) (Eq.symm (show lightV W p = _ from by unfold lightV; rw [e_38_3]; exact lk_3.trans (by first | exact if_pos c_23 | exact if_neg c_23))), rfl, rfl, f1⟩
    refine (Decidable.em ((W.C p 0) = 4)).elim (fun e_38_4 => ?_) (fun e_38_4 => ?_)
    · refine ax_tin (off := 53) (tgt := 91) dX12_lightOf_38 (by rw [e_38_4]; decide) (by rw [e_38_4]; decide) (by rw [e_38_4]; decide) (by decide) ?_
      refine ax_iload_n (i := 2) dX12_lightOf_91 rfl rfl ?_
      refine ax_aload_n (i := 0) dX12_lightOf_92 rfl rfl ?_
      refine ax_getR dX12_lightOf_93 fl_X12_21 rfl (OKs hZ rfl) (OKr hZ rfl) ?_
      refine ax_iload_n (i := 1) dX12_lightOf_96 rfl rfl ?_
      refine ax_ialdN p dX12_lightOf_97 (OKs hZ rfl) rfl hp6 (by decide) ?_
      refine ax_top (congrArg Value.int (show G1 79 p = W.C p 1 from (hv1.2.2.1 p hp).1 1 (by decide))) ?_
      refine ax_iadd dX12_lightOf_98 ?_
      refine ax_iconst (v := 2) dX12_lightOf_99 (by decide) ?_
      refine ax_aload_n (i := 0) dX12_lightOf_100 rfl rfl ?_
      refine ax_iconst (v := 2) dX12_lightOf_101 (by decide) ?_
      refine ax_cVv dX12_lightOf_102 lk_X12_237 (c_X12_areSo hZ ho.1 hv1.1 2) rfl (OKs hZ rfl) ⟨_, rfl, rfl⟩ rfl (Nat.le_of_ble_eq_true rfl) (Nat.le_of_ble_eq_true rfl) (Nat.le_of_ble_eq_true rfl) (Nat.le_of_ble_eq_true rfl) ?_
      refine ax_top (congrArg Value.int (inB_congr (g := fun p => W.C p 5) W.m (fun a ha => (hv1.2.2.1 a ha).1 5 (by decide)))) ?_
      refine ax_cSv dX12_lightOf_105 lk_X12_240 (c_bitCount (inB (fun p => W.C p 5) 2 W.m)) rfl rfl (Nat.le_of_ble_eq_true rfl) (Nat.le_of_ble_eq_true rfl) (Nat.le_of_ble_eq_true rfl) (Nat.le_of_ble_eq_true rfl) ?_
      refine ax_imul dX12_lightOf_108 ?_
      refine ax_iadd dX12_lightOf_109 ?_
      refine ax_iret dX12_lightOf_110 rfl rfl (Nat.le_of_ble_eq_true rfl) (Nat.le_of_ble_eq_true rfl) ?_
      exact ⟨congrArg (fun z => some (Value.int z)) (Eq.symm (show lightV W p = _ from by unfold lightV; rw [e_38_4]; exact lk_4.trans (by rfl))), rfl, rfl, f1⟩
    refine (Decidable.em ((W.C p 0) = 5)).elim (fun e_38_5 => ?_) (fun e_38_5 => ?_)
    · refine ax_tin (off := 73) (tgt := 111) dX12_lightOf_38 (by rw [e_38_5]; decide) (by rw [e_38_5]; decide) (by rw [e_38_5]; decide) (by decide) ?_
      refine ax_aload_n (i := 0) dX12_lightOf_111 rfl rfl ?_
      refine ax_getI dX12_lightOf_112 fl_X12_224 rfl (OKs hZ rfl) ?_
      refine ax_top (congrArg Value.int hv1.2.1) ?_
      refine ax_iconst (v := 3) dX12_lightOf_115 (by decide) ?_
      refine ax_irem dX12_lightOf_116 (by decide) ?_
      refine ax_if_ne (tgt := 128) dX12_lightOf_117 (by decide) (fun c_117 => ?_) (fun c_117 => ?_)
      · refine ax_iload_n (i := 2) dX12_lightOf_128 rfl rfl ?_
        refine ax_iconst (v := 2) dX12_lightOf_129 (by decide) ?_
        refine ax_idiv dX12_lightOf_130 (by decide) ?_
        refine ax_iret dX12_lightOf_131 rfl rfl (Nat.le_of_ble_eq_true rfl) (Nat.le_of_ble_eq_true rfl) ?_
        exact ⟨congrArg (fun z => some (Value.int z)) (Eq.symm (show lightV W p = _ from by unfold lightV; rw [e_38_5]; exact lk_5.trans (by first | (rw [if_pos c_117, Int32.mul_comm]) | (rw [if_neg c_117])))), rfl, rfl, f1⟩
      · refine ax_iload_n (i := 2) dX12_lightOf_120 rfl rfl ?_
        refine ax_iconst (v := 2) dX12_lightOf_121 (by decide) ?_
        refine ax_idiv dX12_lightOf_122 (by decide) ?_
        refine ax_iconst (v := 2) dX12_lightOf_123 (by decide) ?_
        refine ax_imul dX12_lightOf_124 ?_
        refine ax_goto (tgt := 131) dX12_lightOf_125 (by decide) ?_
        refine ax_iret dX12_lightOf_131 rfl rfl (Nat.le_of_ble_eq_true rfl) (Nat.le_of_ble_eq_true rfl) ?_
        exact ⟨congrArg (fun z => some (Value.int z)) (Eq.symm (show lightV W p = _ from by unfold lightV; rw [e_38_5]; exact lk_5.trans (by first | (rw [if_pos c_117, Int32.mul_comm]) | (rw [if_neg c_117])))), rfl, rfl, f1⟩
    refine (Decidable.em ((W.C p 0) = 6)).elim (fun e_38_6 => ?_) (fun e_38_6 => ?_)
    · refine ax_tin (off := 94) (tgt := 132) dX12_lightOf_38 (by rw [e_38_6]; decide) (by rw [e_38_6]; decide) (by rw [e_38_6]; decide) (by decide) ?_
      refine ax_iload_n (i := 3) dX12_lightOf_132 rfl rfl ?_
      refine ax_aload_n (i := 0) dX12_lightOf_133 rfl rfl ?_
      refine ax_getR dX12_lightOf_134 fl_X12_36 rfl (OKs hZ rfl) (OKr hZ rfl) ?_
      refine ax_iconst (v := 4) dX12_lightOf_137 (by decide) ?_
      refine ax_iload_n (i := 1) dX12_lightOf_138 rfl rfl ?_
      refine ax_imul dX12_lightOf_139 ?_
      refine ax_aload_n (i := 0) dX12_lightOf_140 rfl rfl ?_
      refine ax_getI dX12_lightOf_141 fl_X12_224 rfl (OKs hZ rfl) ?_
      refine ax_top (congrArg Value.int hv1.2.1) ?_
      refine ax_iconst (v := 4) dX12_lightOf_144 (by decide) ?_
      refine ax_irem dX12_lightOf_145 (by decide) ?_
      refine ax_iadd dX12_lightOf_146 ?_
      refine ax_ialdN (4 * p + W.mm % 4) dX12_lightOf_147 (OKs hZ rfl) (show 4 * nI p + (nI W.mm - nI W.mm / 4 * 4) = nI (4 * p + W.mm % 4) by rw [rem4 (by omega), show (4 : Int32) = nI 4 from rfl, pk_mul, nI_add]) (by have := Nat.mod_lt W.mm (show 0 < 4 by decide); omega) (by decide) ?_
      refine ax_top (congrArg Value.int ((hv1.2.2.1 p hp).2 (W.mm % 4) (Nat.mod_lt _ (by decide)))) ?_
      refine ax_iadd dX12_lightOf_148 ?_
      refine ax_iret dX12_lightOf_149 rfl rfl (Nat.le_of_ble_eq_true rfl) (Nat.le_of_ble_eq_true rfl) ?_
      exact ⟨congrArg (fun z => some (Value.int z)) (Eq.symm (show lightV W p = _ from by unfold lightV; rw [e_38_6]; exact lk_6.trans (by first | rw [if_pos c_23] | rw [if_neg c_23]))), rfl, rfl, f1⟩
    refine ax_tout (tgt := 150) dX12_lightOf_38 (sw_outL 1 6 (by decide) (by decide) (by decide) ⟨⟨⟨⟨⟨⟨trivial, e_38_1⟩, e_38_2⟩, e_38_3⟩, e_38_4⟩, e_38_5⟩, e_38_6⟩) (by decide) ?_
    refine ax_iload_n (i := 2) dX12_lightOf_150 rfl rfl ?_
    refine ax_iret dX12_lightOf_151 rfl rfl (Nat.le_of_ble_eq_true rfl) (Nat.le_of_ble_eq_true rfl) ?_
    have e0 : W.C p 0 = nI 0 := by
      obtain ⟨kk, hkk, ek⟩ := ho.2.2.1 p hp
      have : kk = 0 ∨ kk = 1 ∨ kk = 2 ∨ kk = 3 ∨ kk = 4 ∨ kk = 5 ∨ kk = 6 := by omega
      rcases this with rfl | rfl | rfl | rfl | rfl | rfl | rfl
      · exact ek
      · exact absurd ek e_38_1
      · exact absurd ek e_38_2
      · exact absurd ek e_38_3
      · exact absurd ek e_38_4
      · exact absurd ek e_38_5
      · exact absurd ek e_38_6
    exact ⟨congrArg (fun z => some (Value.int z)) (Eq.symm (show lightV W p = _ from by unfold lightV; rw [e0]; exact lk_0)), rfl, rfl, f1⟩
theorem vM_lit0 {G : Gt} {W : Wv} {p : Nat} (hv : vM G W) (hl : lightV W p ≤ 0) : vM (up2 G 83 p 1) (litV W p) := by
  obtain ⟨a1, a2, a3, a4, a5, a6⟩ := id hv
  refine vM_step hv (fun a _ _ => up2_row (by omega)) ?_ ?_ ?_ (fun a ha i hi => ?_) (fun a ha i hi => ?_) (fun q hq => ?_) (fun q hq => ?_) rfl rfl
  · refine ⟨?_, ?_, ?_⟩ <;> rw [up2_k (by decide)]
  · rw [up2_k (by decide)]; exact a1
  · rw [up2_k (by decide)]; exact a2
  · have ha : a < W.m := ha
    show _ = up2 W.C p 5 (if lightV W p ≤ 0 then 1 else 2) a i
    rw [if_pos hl]
    by_cases e : i = 5
    · subst e
      by_cases f : a = p
      · subst f; rw [up2_s]; exact up2_s.symm
      · rw [up2_k f, up2_i f]; exact (a3 a ha).1 5 hi
    · rw [up2_k (by omega), up2_i e]; exact (a3 a ha).1 i hi
  · have ha : a < W.m := ha
    show _ = up2 W.C p 5 (if lightV W p ≤ 0 then 1 else 2) a (6 + i)
    rw [up2_k (by decide), up2_i (by omega)]; exact (a3 a ha).2 i hi
  · show _ = (if lightV W p ≤ 0 then W.gr else _) q
    rw [if_pos hl, up2_k (by decide)]; exact a4 q hq
  · rw [up2_k (by decide)]; exact a5 q hq
theorem vM_lit1 {G : Gt} {W : Wv} {p qq : Nat} {x : Int32} (hv : vM G W) (hl : ¬ lightV W p ≤ 0) (hq4 : qq < 4) (e3 : W.C p 3 = nI qq) (hx : x = mx0 (W.gr qq - lightV W p)) : vM (up2 (up2 G 83 p 2) 76 qq x) (litV W p) := by
  obtain ⟨a1, a2, a3, a4, a5, a6⟩ := id hv
  refine vM_step hv (fun a _ _ => (up2_row (by omega)).trans (up2_row (by omega))) ?_ ?_ ?_ (fun a ha i hi => ?_) (fun a ha i hi => ?_) (fun q hq => ?_) (fun q hq => ?_) rfl rfl
  · refine ⟨?_, ?_, ?_⟩ <;> rw [up2_k (by decide), up2_k (by decide)]
  · rw [up2_k (by decide), up2_k (by decide)]; exact a1
  · rw [up2_k (by decide), up2_k (by decide)]; exact a2
  · have ha : a < W.m := ha
    show _ = up2 W.C p 5 (if lightV W p ≤ 0 then 1 else 2) a i
    rw [if_neg hl, up2_k (by omega)]
    by_cases e : i = 5
    · subst e
      by_cases f : a = p
      · subst f; rw [up2_s]; exact up2_s.symm
      · rw [up2_k f, up2_i f]; exact (a3 a ha).1 5 hi
    · rw [up2_k (by omega), up2_i e]; exact (a3 a ha).1 i hi
  · have ha : a < W.m := ha
    show _ = up2 W.C p 5 (if lightV W p ≤ 0 then 1 else 2) a (6 + i)
    rw [up2_k (by decide), up2_k (by decide), up2_i (by omega)]; exact (a3 a ha).2 i hi
  · show _ = (if lightV W p ≤ 0 then W.gr else up1 W.gr (W.C p 3).toNatClampNeg (mx0 (W.gr (W.C p 3).toNatClampNeg - lightV W p))) q
    rw [if_neg hl, e3, nI_clamp (by omega)]
    by_cases e : q = qq
    · subst e; rw [up2_s, up1_s]; exact hx
    · rw [up2_i e, up1_n e, up2_k (by decide)]; exact a4 q hq
  · rw [up2_k (by decide), up2_k (by decide)]; exact a5 q hq
theorem k_lights {Z : Zt} {G : Gt} {L : Lt} {W : Wv} (hZ : OK Z) (hv : vM G W) (ho : okW W) (p : Nat) (hp : p < W.m) : AC mX12_lights 5 0 0 [.ref 75, .int (nI p)] Z G L (NP (fun Z' G' L' => Z' = Z ∧ L' = L ∧ mS G G' ∧ vM G' (litV W p))) := by
  refine AC.intro (by decide +kernel) (Nat.le_of_ble_eq_true rfl) ?_
  refine ax_lv [(0, .ref 75), (1, .int (nI p))] ⟨rfl, rfl, trivial⟩ ?_
  have hp6 : p < 6 := by have := ho.1; omega
  obtain ⟨qq, hqq, e3⟩ := ho.2.2.2.1 p hp
  refine ax_aload_n (i := 0) dX12_lights_0 rfl rfl ?_
  refine ax_iload_n (i := 1) dX12_lights_1 rfl rfl ?_
  refine ax_cVq dX12_lights_2 lk_X12_128 (k_lightOf hZ hv ho p hp) rfl (OKs hZ rfl) ⟨_, rfl, rfl⟩ rfl (Nat.le_of_ble_eq_true rfl) (Nat.le_of_ble_eq_true rfl) (Nat.le_of_ble_eq_true rfl) (Nat.le_of_ble_eq_true rfl) ?_
  rintro _ G1 _ ⟨rfl, rfl, f1⟩
  have hv1 := vM_f f1 hv
  have s1 := mS_f f1
  refine ax_istore_n (i := 2) dX12_lights_5 rfl (by decide) rfl ?_
  refine ax_aload_n (i := 0) dX12_lights_6 rfl rfl ?_
  refine ax_getR dX12_lights_7 fl_X12_33 rfl (OKs hZ rfl) (OKr hZ rfl) ?_
  refine ax_iload_n (i := 1) dX12_lights_10 rfl rfl ?_
  refine ax_iload_n (i := 2) dX12_lights_11 rfl rfl ?_
  refine ax_if_le (tgt := 19) dX12_lights_12 (by decide) (fun c_12 => ?_) (fun c_12 => ?_)
  · refine ax_iconst (v := 1) dX12_lights_19 (by decide) ?_
    refine ax_iastN p dX12_lights_20 (OKs hZ rfl) rfl hp6 (by decide) ?_
    refine ax_iload_n (i := 2) dX12_lights_21 rfl rfl ?_
    refine ax_if_le (tgt := 53) dX12_lights_22 (by decide) (fun c_22 => ?_) (fun c_22 => ?_)
    · refine ax_vret dX12_lights_53 rfl (Nat.le_of_ble_eq_true rfl) (Nat.le_of_ble_eq_true rfl) ?_
      exact ⟨rfl, rfl, rfl, mS_tr s1 ⟨fun a x _ => up2_row (by omega), fun i _ _ => up2_k (by decide)⟩, vM_lit0 hv1 c_12⟩
    · exact absurd c_12 c_22
  · refine ax_iconst (v := 2) dX12_lights_15 (by decide) ?_
    refine ax_goto (tgt := 20) dX12_lights_16 (by decide) ?_
    refine ax_iastN p dX12_lights_20 (OKs hZ rfl) rfl hp6 (by decide) ?_
    refine ax_iload_n (i := 2) dX12_lights_21 rfl rfl ?_
    refine ax_if_le (tgt := 53) dX12_lights_22 (by decide) (fun c_22 => ?_) (fun c_22 => ?_)
    · exact absurd c_22 c_12
    · refine ax_aload_n (i := 0) dX12_lights_25 rfl rfl ?_
      refine ax_getR dX12_lights_26 fl_X12_9 rfl (OKs hZ rfl) (OKr hZ rfl) ?_
      refine ax_aload_n (i := 0) dX12_lights_29 rfl rfl ?_
      refine ax_getR dX12_lights_30 fl_X12_27 rfl (OKs hZ rfl) (OKr hZ rfl) ?_
      refine ax_iload_n (i := 1) dX12_lights_33 rfl rfl ?_
      refine ax_ialdN p dX12_lights_34 (OKs hZ rfl) rfl hp6 (by decide) ?_
      refine ax_top (congrArg Value.int (show up2 G1 83 p 2 81 p = nI qq by rw [up2_k (by decide)]; exact ((hv1.2.2.1 p hp).1 3 (by decide)).trans e3)) ?_
      refine ax_iconst (v := 0) dX12_lights_35 (by decide) ?_
      refine ax_aload_n (i := 0) dX12_lights_36 rfl rfl ?_
      refine ax_getR dX12_lights_37 fl_X12_9 rfl (OKs hZ rfl) (OKr hZ rfl) ?_
      refine ax_aload_n (i := 0) dX12_lights_40 rfl rfl ?_
      refine ax_getR dX12_lights_41 fl_X12_27 rfl (OKs hZ rfl) (OKr hZ rfl) ?_
      refine ax_iload_n (i := 1) dX12_lights_44 rfl rfl ?_
      refine ax_ialdN p dX12_lights_45 (OKs hZ rfl) rfl hp6 (by decide) ?_
      refine ax_top (congrArg Value.int (show up2 G1 83 p 2 81 p = nI qq by rw [up2_k (by decide)]; exact ((hv1.2.2.1 p hp).1 3 (by decide)).trans e3)) ?_
      refine ax_ialdN qq dX12_lights_46 (OKs hZ rfl) rfl hqq (by decide) ?_
      refine ax_iload_n (i := 2) dX12_lights_47 rfl rfl ?_
      refine ax_isub dX12_lights_48 ?_
      refine ax_max dX12_lights_49 lm_X12_245 (by decide) (Nat.le_of_ble_eq_true rfl) (Nat.le_of_ble_eq_true rfl) (Nat.le_of_ble_eq_true rfl) ?_
      refine ax_iastN qq dX12_lights_52 (OKs hZ rfl) rfl hqq (by decide) ?_
      refine ax_vret dX12_lights_53 rfl (Nat.le_of_ble_eq_true rfl) (Nat.le_of_ble_eq_true rfl) ?_
      exact ⟨rfl, rfl, rfl, mS_tr s1 ⟨fun a x _ => (up2_row (by omega)).trans (up2_row (by omega)), fun i _ _ => (up2_k (by decide)).trans (up2_k (by decide))⟩, vM_lit1 hv1 c_12 hqq e3 (by rw [up2_k (by decide), hv1.2.2.2.1 qq hqq]; rfl)⟩
theorem hb0 {x : Int32} (h : (if x &&& 1 = 1 then (1 : Int32) else 0) = 0) : x &&& 1 = 0 := (and1 x).resolve_right (fun z => by rw [if_pos z] at h; exact absurd h (by decide))
theorem hb1 {x : Int32} (h : ¬ (if x &&& 1 = 1 then (1 : Int32) else 0) = 0) : ¬ x &&& 1 = 0 := fun z => h (by rw [if_neg (by rw [z]; decide)])
theorem l_lightsAll {Z : Zt} {G0 : Gt} {L : Lt} {Q : Qt} {W : Wv} (hZ : OK Z) (ho : okW W) (s : Int32) (hend : ∀ G : Gt, mS G0 G → vM G (litA W s W.m) → AX none mX12_lightsAll 6 0 0 0 0 29 [] [] Z G L Q) : ∀ (r q : Nat), q ≤ W.m → W.m - q < r → ∀ G : Gt, mS G0 G → vM G (litA W s q) → AX none mX12_lightsAll 6 0 0 0 0 2 [(0, .ref 75), (1, .int s), (2, .int (nI q))] [] Z G L Q := by
  intro r
  induction r with
  | zero => intro q h1 h2; omega
  | succ r ih =>
    intro q h1 h2 G hs9 hv9
    have hm6 := ho.1
    refine ax_iload_n (i := 2) dX12_lightsAll_2 rfl rfl ?_
    refine ax_aload_n (i := 0) dX12_lightsAll_3 rfl rfl ?_
    refine ax_getI dX12_lightsAll_4 fl_X12_114 rfl (OKs hZ rfl) ?_
    refine ax_top (congrArg Value.int ((hv9.1).trans (by rw [(litA_m q).1]))) ?_
    refine ax_icmp_ge (tgt := 29) dX12_lightsAll_7 (by decide) (fun c_7 => ?_) (fun c_7 => ?_)
    · obtain rfl : q = W.m := by have := (nI_leI (by omega) (by omega)).mp c_7; omega
      exact ax_lv [] trivial (hend G hs9 hv9)
    · have hqm : q < W.m := by have := mt (nI_leI (by omega) (by omega)).mpr c_7; omega
      have oo := litA_ok (s := s) ho q (by omega)
      refine ax_iload_n (i := 1) dX12_lightsAll_10 rfl rfl ?_
      refine ax_iload_n (i := 2) dX12_lightsAll_11 rfl rfl ?_
      refine ax_cSv dX12_lightsAll_12 lk_X12_250 (c_X12_has s (nI q)) rfl rfl (Nat.le_of_ble_eq_true rfl) (Nat.le_of_ble_eq_true rfl) (Nat.le_of_ble_eq_true rfl) (Nat.le_of_ble_eq_true rfl) ?_
      refine ax_if_eq (tgt := 23) dX12_lightsAll_15 (by decide) (fun c_15 => ?_) (fun c_15 => ?_)
      · refine ax_iinc (v := (nI q) + 1) dX12_lightsAll_23 rfl rfl (by decide) rfl ?_
        refine ax_goto (tgt := 2) dX12_lightsAll_26 (by decide) ?_
        refine ax_lv [(0, .ref 75), (1, .int s), (2, .int (nI (q + 1)))] ⟨rfl, rfl, sI (nI_1 q), trivial⟩ ?_
        exact ih (q + 1) (by omega) (by omega) _ hs9 (by unfold litA; rw [if_pos (hb0 c_15)]; exact hv9)
      · refine ax_aload_n (i := 0) dX12_lightsAll_18 rfl rfl ?_
        refine ax_iload_n (i := 2) dX12_lightsAll_19 rfl rfl ?_
        refine ax_cVq0 dX12_lightsAll_20 lk_X12_142 (k_lights hZ hv9 oo q (by rw [(litA_m q).1]; exact hqm)) rfl (OKs hZ rfl) ⟨_, rfl, rfl⟩ rfl (Nat.le_of_ble_eq_true rfl) (Nat.le_of_ble_eq_true rfl) (Nat.le_of_ble_eq_true rfl) (Nat.le_of_ble_eq_true rfl) ?_
        rintro _ G1 _ ⟨rfl, rfl, m'1, v1⟩
        have m1 := mS_tr hs9 m'1
        refine ax_iinc (v := (nI q) + 1) dX12_lightsAll_23 rfl rfl (by decide) rfl ?_
        refine ax_goto (tgt := 2) dX12_lightsAll_26 (by decide) ?_
        refine ax_lv [(0, .ref 75), (1, .int s), (2, .int (nI (q + 1)))] ⟨rfl, rfl, sI (nI_1 q), trivial⟩ ?_
        exact ih (q + 1) (by omega) (by omega) _ m1 (by unfold litA; rw [if_neg (hb1 c_15)]; exact v1)
theorem k_lightsAll {Z : Zt} {G : Gt} {L : Lt} {W : Wv} (hZ : OK Z) (hv : vM G W) (ho : okW W) (s : Int32) : AC mX12_lightsAll 6 0 0 [.ref 75, .int s] Z G L (NP (fun Z' G' L' => Z' = Z ∧ L' = L ∧ mS G G' ∧ vM G' (litA W s W.m))) := by
  refine AC.intro (by decide +kernel) (Nat.le_of_ble_eq_true rfl) ?_
  refine ax_lv [(0, .ref 75), (1, .int s)] ⟨rfl, rfl, trivial⟩ ?_
  refine ax_iconst (v := 0) dX12_lightsAll_0 (by decide) ?_
  refine ax_istore_n (i := 2) dX12_lightsAll_1 rfl (by decide) rfl ?_
  refine ax_lv [(0, .ref 75), (1, .int s), (2, .int (nI 0))] ⟨rfl, rfl, rfl, trivial⟩ ?_
  refine l_lightsAll (G0 := G) hZ ho s ?_ (W.m + 1) 0 (by omega) (by omega) G mS_refl hv
  intro G9 s9 v9
  refine ax_vret dX12_lightsAll_29 rfl (Nat.le_of_ble_eq_true rfl) (Nat.le_of_ble_eq_true rfl) ?_
  exact ⟨rfl, rfl, rfl, s9, v9⟩
def GP (G0 : Gt) (more : Int32) (q : Nat) (G : Gt) : Prop := (∀ a, a ≠ 82 → G a = G0 a) ∧ ∀ p, G 82 p = if p < q ∧ G0 83 p = 0 then cl (G0 82 p + more) else G0 82 p
theorem GP_y {G0 G : Gt} {more x : Int32} {q : Nat} (h : GP G0 more q G) (h0 : G0 83 q = 0) (hx : x = cl (G 82 q + more)) : GP G0 more (q + 1) (up2 G 82 q x) := by
  refine ⟨fun a ha => (up2_row ha).trans (h.1 a ha), fun p => ?_⟩
  by_cases e : p = q
  · subst e
    rw [up2_s, if_pos ⟨Nat.lt_succ_self _, h0⟩, hx, h.2 p, if_neg (fun z => Nat.lt_irrefl _ z.1)]
  · rw [up2_i e, h.2 p]
    by_cases c : p < q ∧ G0 83 p = 0
    · rw [if_pos c, if_pos ⟨by omega, c.2⟩]
    · rw [if_neg c, if_neg (fun z => c ⟨by omega, z.2⟩)]
theorem GP_n {G0 G : Gt} {more : Int32} {q : Nat} (h : GP G0 more q G) (h0 : ¬ G0 83 q = 0) : GP G0 more (q + 1) G := by
  refine ⟨h.1, fun p => ?_⟩
  rw [h.2 p]
  by_cases c : p < q ∧ G0 83 p = 0
  · rw [if_pos c, if_pos ⟨by omega, c.2⟩]
  · rw [if_neg c, if_neg (fun z => ?_)]
    by_cases e : p = q
    · subst e; exact h0 z.2
    · exact c ⟨by omega, z.2⟩
theorem vM_min {G0 G : Gt} {W : Wv} {more x : Int32} (hv : vM G0 W) (hm : more = 3 * W.rn (W.mm % 4) - W.dry) (h : GP G0 more W.m G) (hx : x = nI W.mm + 1) : vM (up2 G 75 10 x) (minV W) := by
  obtain ⟨a1, a2, a3, a4, a5, a6⟩ := id hv
  refine vM_step hv (fun a _ _ => (up2_row (by omega)).trans (h.1 a (by omega))) ?_ ?_ ?_ (fun a ha i hi => ?_) (fun a ha i hi => ?_) (fun q hq => ?_) (fun q hq => ?_) rfl rfl
  · refine ⟨?_, ?_, ?_⟩ <;> rw [up2_i (by decide), h.1 75 (by decide)]
  · rw [up2_i (by decide), h.1 75 (by decide)]; exact a1
  · rw [up2_s, hx]; exact nI_1 _
  · have ha : a < W.m := ha
    rw [up2_k (by omega)]
    show _ = (if i = 4 ∧ W.C a 5 = 0 then cl (W.C a 4 + (3 * W.rn (W.mm % 4) - W.dry)) else W.C a i)
    have c5 : G0 83 a = W.C a 5 := (a3 a ha).1 5 (by decide)
    have c4 : G0 82 a = W.C a 4 := (a3 a ha).1 4 (by decide)
    by_cases e : i = 4
    · subst e
      rw [show G (78 + 4) a = _ from h.2 a, c5, c4, ← hm]
      by_cases c : W.C a 5 = 0
      · rw [if_pos ⟨ha, c⟩, if_pos ⟨rfl, c⟩]
      · rw [if_neg (fun z => c z.2), if_neg (fun z => c z.2)]
    · rw [if_neg (fun z => e z.1), h.1 (78 + i) (by omega)]; exact (a3 a ha).1 i hi
  · have ha : a < W.m := ha
    rw [up2_k (by decide), h.1 84 (by decide)]
    show _ = (if 6 + i = 4 ∧ _ then _ else W.C a (6 + i))
    rw [if_neg (by omega)]; exact (a3 a ha).2 i hi
  · rw [up2_k (by decide), h.1 76 (by decide)]; exact a4 q hq
  · rw [up2_k (by decide), h.1 77 (by decide)]; exact a5 q hq
theorem l_goesMinute {Z : Zt} {G0 : Gt} {L : Lt} {Q : Qt} (hZ : OK Z) {m : Nat} (hm : m ≤ 6) (hc : G0 75 2 = nI m) (more : Int32) (hend : ∀ G : Gt, GP G0 more m G → AX none mX12_goesMinute 2 0 0 0 0 67 [(0, .ref 75)] [] Z G L Q) : ∀ (r q : Nat), q ≤ m → m - q < r → ∀ G : Gt, GP G0 more q G → AX none mX12_goesMinute 2 0 0 0 0 21 [(0, .ref 75), (1, .int more), (2, .int (nI q))] [] Z G L Q := by
  intro r
  induction r with
  | zero => intro q h1 h2; omega
  | succ r ih =>
    intro q h1 h2 G h
    refine ax_iload_n (i := 2) dX12_goesMinute_21 rfl rfl ?_
    refine ax_aload_n (i := 0) dX12_goesMinute_22 rfl rfl ?_
    refine ax_getI dX12_goesMinute_23 fl_X12_114 rfl (OKs hZ rfl) ?_
    refine ax_top (congrArg Value.int ((congrFun (h.1 75 (by decide)) 2).trans hc)) ?_
    refine ax_icmp_ge (tgt := 67) dX12_goesMinute_26 (by decide) (fun c_26 => ?_) (fun c_26 => ?_)
    · obtain rfl : q = m := by have := (nI_leI (by omega) (by omega)).mp c_26; omega
      exact ax_lv [(0, .ref 75)] ⟨rfl, trivial⟩ (hend G h)
    · have hqm : q < m := by have := mt (nI_leI (by omega) (by omega)).mpr c_26; omega
      refine ax_aload_n (i := 0) dX12_goesMinute_29 rfl rfl ?_
      refine ax_getR dX12_goesMinute_30 fl_X12_33 rfl (OKs hZ rfl) (OKr hZ rfl) ?_
      refine ax_iload_n (i := 2) dX12_goesMinute_33 rfl rfl ?_
      refine ax_ialdN q dX12_goesMinute_34 (OKs hZ rfl) rfl (by omega) (by decide) ?_
      refine ax_top (congrArg Value.int (congrFun (h.1 83 (by decide)) q)) ?_
      refine ax_if_ne (tgt := 61) dX12_goesMinute_35 (by decide) (fun c_35 => ?_) (fun c_35 => ?_)
      · refine ax_iinc (v := (nI q) + 1) dX12_goesMinute_61 rfl rfl (by decide) rfl ?_
        refine ax_goto (tgt := 21) dX12_goesMinute_64 (by decide) ?_
        refine ax_lv [(0, .ref 75), (1, .int more), (2, .int (nI (q + 1)))] ⟨rfl, rfl, sI (nI_1 q), trivial⟩ ?_
        exact ih (q + 1) (by omega) (by omega) _ (GP_n h c_35)
      · refine ax_aload_n (i := 0) dX12_goesMinute_38 rfl rfl ?_
        refine ax_getR dX12_goesMinute_39 fl_X12_30 rfl (OKs hZ rfl) (OKr hZ rfl) ?_
        refine ax_iload_n (i := 2) dX12_goesMinute_42 rfl rfl ?_
        refine ax_iconst (v := 0) dX12_goesMinute_43 (by decide) ?_
        refine ax_bipush (v := 99) dX12_goesMinute_44 (by decide) ?_
        refine ax_aload_n (i := 0) dX12_goesMinute_46 rfl rfl ?_
        refine ax_getR dX12_goesMinute_47 fl_X12_30 rfl (OKs hZ rfl) (OKr hZ rfl) ?_
        refine ax_iload_n (i := 2) dX12_goesMinute_50 rfl rfl ?_
        refine ax_ialdN q dX12_goesMinute_51 (OKs hZ rfl) rfl (by omega) (by decide) ?_
        refine ax_iload_n (i := 1) dX12_goesMinute_52 rfl rfl ?_
        refine ax_iadd dX12_goesMinute_53 ?_
        refine ax_min dX12_goesMinute_54 lm_X12_256 (by decide) (Nat.le_of_ble_eq_true rfl) (Nat.le_of_ble_eq_true rfl) (Nat.le_of_ble_eq_true rfl) ?_
        refine ax_max dX12_goesMinute_57 lm_X12_245 (by decide) (Nat.le_of_ble_eq_true rfl) (Nat.le_of_ble_eq_true rfl) (Nat.le_of_ble_eq_true rfl) ?_
        refine ax_iastN q dX12_goesMinute_60 (OKs hZ rfl) rfl (by omega) (by decide) ?_
        refine ax_iinc (v := (nI q) + 1) dX12_goesMinute_61 rfl rfl (by decide) rfl ?_
        refine ax_goto (tgt := 21) dX12_goesMinute_64 (by decide) ?_
        refine ax_lv [(0, .ref 75), (1, .int more), (2, .int (nI (q + 1)))] ⟨rfl, rfl, sI (nI_1 q), trivial⟩ ?_
        exact ih (q + 1) (by omega) (by omega) _ (GP_y h c_35 rfl)
theorem k_goesMinute {Z : Zt} {G : Gt} {L : Lt} {W : Wv} (hZ : OK Z) (hv : vM G W) (ho : okW W) : AC mX12_goesMinute 2 0 0 [.ref 75] Z G L (NP (fun Z' G' L' => Z' = Z ∧ L' = L ∧ mS G G' ∧ vM G' (minV W))) := by
  refine AC.intro (by decide +kernel) (Nat.le_of_ble_eq_true rfl) ?_
  refine ax_lv [(0, .ref 75)] ⟨rfl, trivial⟩ ?_
  have hm2 := ho.2.1
  refine ax_iconst (v := 3) dX12_goesMinute_0 (by decide) ?_
  refine ax_aload_n (i := 0) dX12_goesMinute_1 rfl rfl ?_
  refine ax_getR dX12_goesMinute_2 fl_X12_15 rfl (OKs hZ rfl) (OKr hZ rfl) ?_
  refine ax_aload_n (i := 0) dX12_goesMinute_5 rfl rfl ?_
  refine ax_getI dX12_goesMinute_6 fl_X12_224 rfl (OKs hZ rfl) ?_
  refine ax_top (congrArg Value.int hv.2.1) ?_
  refine ax_iconst (v := 4) dX12_goesMinute_9 (by decide) ?_
  refine ax_irem dX12_goesMinute_10 (by decide) ?_
  refine ax_ialdN (W.mm % 4) dX12_goesMinute_11 (OKs hZ rfl) (rem4 (by omega)) (Nat.mod_lt _ (by decide)) (by decide) ?_
  refine ax_top (congrArg Value.int (hv.2.2.2.2.1 (W.mm % 4) (Nat.mod_lt _ (by decide)))) ?_
  refine ax_imul dX12_goesMinute_12 ?_
  refine ax_aload_n (i := 0) dX12_goesMinute_13 rfl rfl ?_
  refine ax_cVv dX12_goesMinute_14 lk_X12_253 (k_dryBy hZ hv.2.2.2.2.2.1) rfl (OKs hZ rfl) ⟨_, rfl, rfl⟩ rfl (Nat.le_of_ble_eq_true rfl) (Nat.le_of_ble_eq_true rfl) (Nat.le_of_ble_eq_true rfl) (Nat.le_of_ble_eq_true rfl) ?_
  refine ax_top (congrArg Value.int hv.2.2.2.2.2.2.1) ?_
  refine ax_isub dX12_goesMinute_17 ?_
  refine ax_istore_n (i := 1) dX12_goesMinute_18 rfl (by decide) rfl ?_
  refine ax_iconst (v := 0) dX12_goesMinute_19 (by decide) ?_
  refine ax_istore_n (i := 2) dX12_goesMinute_20 rfl (by decide) rfl ?_
  refine ax_lv [(0, .ref 75), (1, .int (3 * W.rn (W.mm % 4) - W.dry)), (2, .int (nI 0))] ⟨rfl, rfl, rfl, trivial⟩ ?_
  refine l_goesMinute hZ ho.1 hv.1 (3 * W.rn (W.mm % 4) - W.dry) ?_ (W.m + 1) 0 (by omega) (by omega) G ⟨fun _ _ => rfl, fun p => by rw [if_neg (fun z => Nat.not_lt_zero _ z.1)]⟩
  intro G9 h9
  refine ax_aload_n (i := 0) dX12_goesMinute_67 rfl rfl ?_
  refine ax_dup dX12_goesMinute_68 rfl ?_
  refine ax_getI dX12_goesMinute_69 fl_X12_224 rfl (OKs hZ rfl) ?_
  refine ax_iconst (v := 1) dX12_goesMinute_72 (by decide) ?_
  refine ax_iadd dX12_goesMinute_73 ?_
  refine ax_putI dX12_goesMinute_74 fl_X12_224 (Or.inl fp_X12_12_10) rfl rfl rfl (OKs hZ rfl) ?_
  refine ax_vret dX12_goesMinute_77 rfl (Nat.le_of_ble_eq_true rfl) (Nat.le_of_ble_eq_true rfl) ?_
  exact ⟨rfl, rfl, rfl, ⟨fun a x _ => (up2_row (by omega)).trans (h9.1 a (by omega)), fun i _ e => (up2_i e).trans (by rw [h9.1 75 (by decide)])⟩, vM_min hv rfl h9 (by rw [h9.1 75 (by decide), hv.2.1])⟩
