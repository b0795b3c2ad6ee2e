-- ===== the law: its cases, on =====
theorem law_17 {nm : String} {len : Nat} {xs : Nat → Int32} {i cu su : Nat} {Z : Zt} {G : Gt} {L : Lt} {W : Wv} {H : Hv} {I : Option (Wv × Hv)} {T : Nat × (Nat → Nat)} {R : Nat × (Nat → Int32)} {P : Pt9} {n : Nat} (hI : IC Z G L W H I T R P n) (hM : IM G L W H I T R P n) (hin1 : vp_in (nI i + 1) len) (hin2 : vp_in (nI i + 2) len) (hin3 : vp_in (nI i + 3) len) (hin4 : vp_in (nI i + 4) len) (hin5 : vp_in (nI i + 5) len) (hcu : cu + 2 ≤ 600000) (hsu : su + 302 ≤ 7302250) (key : ∀ (Z : Zt) (G : Gt) (L : Lt) (W : Wv) (H : Hv) (I : Option (Wv × Hv)) (T : Nat × (Nat → Nat)) (R : Nat × (Nat → Int32)) (P : Pt9) (n : Nat), IC Z G L W H I T R P n → IM G L W H I T R P n → AX (some (len, xs)) (mL nm) 30 600000 7302250 (cu + 2) (su + 302) 1232 [(0, .ref 3000), (1, .ref 0), (2, .ref 75), (3, .int (nI i))] [] Z G L LQ) : AX (some (len, xs)) (mL nm) 30 600000 7302250 cu su 712 [(0, .ref 3000), (1, .ref 0), (2, .ref 75), (3, .int (nI i))] [] Z G L LQ := by
  refine ax_aload_n (i := 1) dL_law_712 rfl rfl ?_
  refine ax_aload_n (i := 0) dL_law_713 rfl rfl ?_
  refine ax_iload_n (i := 3) dL_law_714 rfl rfl ?_
  refine ax_iconst (v := 1) dL_law_715 (by decide) ?_
  refine ax_iadd dL_law_716 ?_
  refine ax_sld rfl dL_law_717 hin1 ?_
  refine ax_cVq dL_law_718 lk_L_87 (x_mean hI _) rfl (OKs hI.1 rfl) ⟨_, rfl, rfl⟩ rfl (Nat.le_of_ble_eq_true rfl) (Nat.le_of_ble_eq_true rfl) (by omega) (by omega) ?_
  rintro Z1 G1 L1 ⟨hI1, f1⟩
  have hM1 := IM_fC hM f1
  refine ax_aload_n (i := 2) dL_law_721 rfl rfl ?_
  refine ax_aload_n (i := 0) dL_law_722 rfl rfl ?_
  refine ax_iload_n (i := 3) dL_law_723 rfl rfl ?_
  refine ax_iconst (v := 1) dL_law_724 (by decide) ?_
  refine ax_iadd dL_law_725 ?_
  refine ax_sld rfl dL_law_726 hin1 ?_
  refine ax_cVq dL_law_727 lk_L_91 (y_mean hI1.1 (IC_ok hI) hM1 _) rfl (OKs hI1.1 rfl) ⟨_, rfl, rfl⟩ rfl (Nat.le_of_ble_eq_true rfl) (Nat.le_of_ble_eq_true rfl) (by omega) (by omega) ?_
  rintro Z2 G2 L2 ⟨hz2, hM2, f2⟩
  subst Z2
  have hI2 := IC_fM hI1 f2
  refine ax_lcmp dL_law_730 ?_
  refine ax_if_eq (tgt := 1232) dL_law_731 (by decide) (fun _ => ?_) (fun c => absurd (lgc_0.mpr rfl) c)
  exact ax_up (Nat.le_add_right _ _) (Nat.le_add_right _ _) (key _ _ _ _ _ _ _ _ _ _ hI2 hM2)
theorem law_18 {nm : String} {len : Nat} {xs : Nat → Int32} {i cu su : Nat} {Z : Zt} {G : Gt} {L : Lt} {W : Wv} {H : Hv} {I : Option (Wv × Hv)} {T : Nat × (Nat → Nat)} {R : Nat × (Nat → Int32)} {P : Pt9} {n : Nat} (hI : IC Z G L W H I T R P n) (hM : IM G L W H I T R P n) (hin1 : vp_in (nI i + 1) len) (hin2 : vp_in (nI i + 2) len) (hin3 : vp_in (nI i + 3) len) (hin4 : vp_in (nI i + 4) len) (hin5 : vp_in (nI i + 5) len) (hcu : cu + 2 ≤ 600000) (hsu : su + 302 ≤ 7302250) (key : ∀ (Z : Zt) (G : Gt) (L : Lt) (W : Wv) (H : Hv) (I : Option (Wv × Hv)) (T : Nat × (Nat → Nat)) (R : Nat × (Nat → Int32)) (P : Pt9) (n : Nat), IC Z G L W H I T R P n → IM G L W H I T R P n → AX (some (len, xs)) (mL nm) 30 600000 7302250 (cu + 2) (su + 302) 1232 [(0, .ref 3000), (1, .ref 0), (2, .ref 75), (3, .int (nI i))] [] Z G L LQ) : AX (some (len, xs)) (mL nm) 30 600000 7302250 cu su 736 [(0, .ref 3000), (1, .ref 0), (2, .ref 75), (3, .int (nI i))] [] Z G L LQ := by
  refine ax_aload_n (i := 1) dL_law_736 rfl rfl ?_
  refine ax_aload_n (i := 0) dL_law_737 rfl rfl ?_
  refine ax_iload_n (i := 3) dL_law_738 rfl rfl ?_
  refine ax_iconst (v := 1) dL_law_739 (by decide) ?_
  refine ax_iadd dL_law_740 ?_
  refine ax_sld rfl dL_law_741 hin1 ?_
  refine ax_aload_n (i := 0) dL_law_742 rfl rfl ?_
  refine ax_iload_n (i := 3) dL_law_743 rfl rfl ?_
  refine ax_iconst (v := 2) dL_law_744 (by decide) ?_
  refine ax_iadd dL_law_745 ?_
  refine ax_sld rfl dL_law_746 hin2 ?_
  refine ax_cVq dL_law_747 lk_L_92 (x_plan hI _ _) rfl (OKs hI.1 rfl) ⟨_, rfl, rfl⟩ rfl (Nat.le_of_ble_eq_true rfl) (Nat.le_of_ble_eq_true rfl) (by omega) (by omega) ?_
  rintro Z1 G1 L1 ⟨hI1, f1⟩
  have hM1 := IM_fC hM f1
  refine ax_aload_n (i := 2) dL_law_750 rfl rfl ?_
  refine ax_aload_n (i := 0) dL_law_751 rfl rfl ?_
  refine ax_iload_n (i := 3) dL_law_752 rfl rfl ?_
  refine ax_iconst (v := 1) dL_law_753 (by decide) ?_
  refine ax_iadd dL_law_754 ?_
  refine ax_sld rfl dL_law_755 hin1 ?_
  refine ax_aload_n (i := 0) dL_law_756 rfl rfl ?_
  refine ax_iload_n (i := 3) dL_law_757 rfl rfl ?_
  refine ax_iconst (v := 2) dL_law_758 (by decide) ?_
  refine ax_iadd dL_law_759 ?_
  refine ax_sld rfl dL_law_760 hin2 ?_
  refine ax_cVq dL_law_761 lk_L_95 (y_plan hI1.1 (IC_ok hI) hM1 _ _) rfl (OKs hI1.1 rfl) ⟨_, rfl, rfl⟩ rfl (Nat.le_of_ble_eq_true rfl) (Nat.le_of_ble_eq_true rfl) (by omega) (by omega) ?_
  rintro Z2 G2 L2 ⟨hz2, hM2, f2⟩
  subst Z2
  have hI2 := IC_fM hI1 f2
  refine ax_icmp_eq (tgt := 1232) dL_law_764 (by decide) (fun _ => ?_) (fun c => absurd rfl c)
  exact ax_up (Nat.le_add_right _ _) (Nat.le_add_right _ _) (key _ _ _ _ _ _ _ _ _ _ hI2 hM2)
theorem law_19 {nm : String} {len : Nat} {xs : Nat → Int32} {i cu su : Nat} {Z : Zt} {G : Gt} {L : Lt} {W : Wv} {H : Hv} {I : Option (Wv × Hv)} {T : Nat × (Nat → Nat)} {R : Nat × (Nat → Int32)} {P : Pt9} {n : Nat} (hI : IC Z G L W H I T R P n) (hM : IM G L W H I T R P n) (hin1 : vp_in (nI i + 1) len) (hin2 : vp_in (nI i + 2) len) (hin3 : vp_in (nI i + 3) len) (hin4 : vp_in (nI i + 4) len) (hin5 : vp_in (nI i + 5) len) (hcu : cu + 2 ≤ 600000) (hsu : su + 302 ≤ 7302250) (key : ∀ (Z : Zt) (G : Gt) (L : Lt) (W : Wv) (H : Hv) (I : Option (Wv × Hv)) (T : Nat × (Nat → Nat)) (R : Nat × (Nat → Int32)) (P : Pt9) (n : Nat), IC Z G L W H I T R P n → IM G L W H I T R P n → AX (some (len, xs)) (mL nm) 30 600000 7302250 (cu + 2) (su + 302) 1232 [(0, .ref 3000), (1, .ref 0), (2, .ref 75), (3, .int (nI i))] [] Z G L LQ) : AX (some (len, xs)) (mL nm) 30 600000 7302250 cu su 769 [(0, .ref 3000), (1, .ref 0), (2, .ref 75), (3, .int (nI i))] [] Z G L LQ := by
  refine ax_aload_n (i := 1) dL_law_769 rfl rfl ?_
  refine ax_aload_n (i := 0) dL_law_770 rfl rfl ?_
  refine ax_iload_n (i := 3) dL_law_771 rfl rfl ?_
  refine ax_iconst (v := 1) dL_law_772 (by decide) ?_
  refine ax_iadd dL_law_773 ?_
  refine ax_sld rfl dL_law_774 hin1 ?_
  refine ax_cVq dL_law_775 lk_L_96 (x_ends hI _) rfl (OKs hI.1 rfl) ⟨_, rfl, rfl⟩ rfl (Nat.le_of_ble_eq_true rfl) (Nat.le_of_ble_eq_true rfl) (by omega) (by omega) ?_
  rintro Z1 G1 L1 ⟨hI1, f1⟩
  have hM1 := IM_fC hM f1
  refine ax_aload_n (i := 2) dL_law_778 rfl rfl ?_
  refine ax_aload_n (i := 0) dL_law_779 rfl rfl ?_
  refine ax_iload_n (i := 3) dL_law_780 rfl rfl ?_
  refine ax_iconst (v := 1) dL_law_781 (by decide) ?_
  refine ax_iadd dL_law_782 ?_
  refine ax_sld rfl dL_law_783 hin1 ?_
  refine ax_cVq dL_law_784 lk_L_99 (y_ends hI1.1 (IC_ok hI) hM1 _) rfl (OKs hI1.1 rfl) ⟨_, rfl, rfl⟩ rfl (Nat.le_of_ble_eq_true rfl) (Nat.le_of_ble_eq_true rfl) (by omega) (by omega) ?_
  rintro Z2 G2 L2 ⟨hz2, hM2, f2⟩
  subst Z2
  have hI2 := IC_fM hI1 f2
  refine ax_icmp_eq (tgt := 1232) dL_law_787 (by decide) (fun _ => ?_) (fun c => absurd rfl c)
  exact ax_up (Nat.le_add_right _ _) (Nat.le_add_right _ _) (key _ _ _ _ _ _ _ _ _ _ hI2 hM2)
theorem law_20 {nm : String} {len : Nat} {xs : Nat → Int32} {i cu su : Nat} {Z : Zt} {G : Gt} {L : Lt} {W : Wv} {H : Hv} {I : Option (Wv × Hv)} {T : Nat × (Nat → Nat)} {R : Nat × (Nat → Int32)} {P : Pt9} {n : Nat} (hI : IC Z G L W H I T R P n) (hM : IM G L W H I T R P n) (hin1 : vp_in (nI i + 1) len) (hin2 : vp_in (nI i + 2) len) (hin3 : vp_in (nI i + 3) len) (hin4 : vp_in (nI i + 4) len) (hin5 : vp_in (nI i + 5) len) (hcu : cu + 2 ≤ 600000) (hsu : su + 302 ≤ 7302250) (key : ∀ (Z : Zt) (G : Gt) (L : Lt) (W : Wv) (H : Hv) (I : Option (Wv × Hv)) (T : Nat × (Nat → Nat)) (R : Nat × (Nat → Int32)) (P : Pt9) (n : Nat), IC Z G L W H I T R P n → IM G L W H I T R P n → AX (some (len, xs)) (mL nm) 30 600000 7302250 (cu + 2) (su + 302) 1232 [(0, .ref 3000), (1, .ref 0), (2, .ref 75), (3, .int (nI i))] [] Z G L LQ) : AX (some (len, xs)) (mL nm) 30 600000 7302250 cu su 792 [(0, .ref 3000), (1, .ref 0), (2, .ref 75), (3, .int (nI i))] [] Z G L LQ := by
  refine ax_aload_n (i := 1) dL_law_792 rfl rfl ?_
  refine ax_aload_n (i := 0) dL_law_793 rfl rfl ?_
  refine ax_iload_n (i := 3) dL_law_794 rfl rfl ?_
  refine ax_iconst (v := 1) dL_law_795 (by decide) ?_
  refine ax_iadd dL_law_796 ?_
  refine ax_sld rfl dL_law_797 hin1 ?_
  refine ax_aload_n (i := 0) dL_law_798 rfl rfl ?_
  refine ax_iload_n (i := 3) dL_law_799 rfl rfl ?_
  refine ax_iconst (v := 2) dL_law_800 (by decide) ?_
  refine ax_iadd dL_law_801 ?_
  refine ax_sld rfl dL_law_802 hin2 ?_
  refine ax_cVq dL_law_803 lk_L_100 (x_book hI _ _) rfl (OKs hI.1 rfl) ⟨_, rfl, rfl⟩ rfl (Nat.le_of_ble_eq_true rfl) (Nat.le_of_ble_eq_true rfl) (by omega) (by omega) ?_
  rintro Z1 G1 L1 ⟨hI1, f1⟩
  have hM1 := IM_fC hM f1
  refine ax_aload_n (i := 2) dL_law_806 rfl rfl ?_
  refine ax_aload_n (i := 0) dL_law_807 rfl rfl ?_
  refine ax_iload_n (i := 3) dL_law_808 rfl rfl ?_
  refine ax_iconst (v := 1) dL_law_809 (by decide) ?_
  refine ax_iadd dL_law_810 ?_
  refine ax_sld rfl dL_law_811 hin1 ?_
  refine ax_aload_n (i := 0) dL_law_812 rfl rfl ?_
  refine ax_iload_n (i := 3) dL_law_813 rfl rfl ?_
  refine ax_iconst (v := 2) dL_law_814 (by decide) ?_
  refine ax_iadd dL_law_815 ?_
  refine ax_sld rfl dL_law_816 hin2 ?_
  refine ax_cVq dL_law_817 lk_L_103 (y_book hI1.1 (IC_ok hI) hM1 _ _) rfl (OKs hI1.1 rfl) ⟨_, rfl, rfl⟩ rfl (Nat.le_of_ble_eq_true rfl) (Nat.le_of_ble_eq_true rfl) (by omega) (by omega) ?_
  rintro Z2 G2 L2 ⟨hz2, hM2, f2⟩
  subst Z2
  have hI2 := IC_fM hI1 f2
  refine ax_icmp_eq (tgt := 1232) dL_law_820 (by decide) (fun _ => ?_) (fun c => absurd rfl c)
  exact ax_up (Nat.le_add_right _ _) (Nat.le_add_right _ _) (key _ _ _ _ _ _ _ _ _ _ hI2 hM2)
theorem law_21 {nm : String} {len : Nat} {xs : Nat → Int32} {i cu su : Nat} {Z : Zt} {G : Gt} {L : Lt} {W : Wv} {H : Hv} {I : Option (Wv × Hv)} {T : Nat × (Nat → Nat)} {R : Nat × (Nat → Int32)} {P : Pt9} {n : Nat} (hI : IC Z G L W H I T R P n) (hM : IM G L W H I T R P n) (hin1 : vp_in (nI i + 1) len) (hin2 : vp_in (nI i + 2) len) (hin3 : vp_in (nI i + 3) len) (hin4 : vp_in (nI i + 4) len) (hin5 : vp_in (nI i + 5) len) (hcu : cu + 2 ≤ 600000) (hsu : su + 302 ≤ 7302250) (key : ∀ (Z : Zt) (G : Gt) (L : Lt) (W : Wv) (H : Hv) (I : Option (Wv × Hv)) (T : Nat × (Nat → Nat)) (R : Nat × (Nat → Int32)) (P : Pt9) (n : Nat), IC Z G L W H I T R P n → IM G L W H I T R P n → AX (some (len, xs)) (mL nm) 30 600000 7302250 (cu + 2) (su + 302) 1232 [(0, .ref 3000), (1, .ref 0), (2, .ref 75), (3, .int (nI i))] [] Z G L LQ) : AX (some (len, xs)) (mL nm) 30 600000 7302250 cu su 825 [(0, .ref 3000), (1, .ref 0), (2, .ref 75), (3, .int (nI i))] [] Z G L LQ := by
  refine ax_aload_n (i := 1) dL_law_825 rfl rfl ?_
  refine ax_cVq dL_law_826 lk_L_104 (x_looked hI ) rfl (OKs hI.1 rfl) ⟨_, rfl, rfl⟩ rfl (Nat.le_of_ble_eq_true rfl) (Nat.le_of_ble_eq_true rfl) (by omega) (by omega) ?_
  rintro Z1 G1 L1 ⟨hI1, f1⟩
  have hM1 := IM_fC hM f1
  refine ax_aload_n (i := 2) dL_law_829 rfl rfl ?_
  refine ax_cVq dL_law_830 lk_L_107 (y_looked hI1.1 (IC_ok hI) hM1 ) rfl (OKs hI1.1 rfl) ⟨_, rfl, rfl⟩ rfl (Nat.le_of_ble_eq_true rfl) (Nat.le_of_ble_eq_true rfl) (by omega) (by omega) ?_
  rintro Z2 G2 L2 ⟨hz2, hM2, f2⟩
  subst Z2
  have hI2 := IC_fM hI1 f2
  refine ax_icmp_eq (tgt := 1232) dL_law_833 (by decide) (fun _ => ?_) (fun c => absurd rfl c)
  exact ax_up (Nat.le_add_right _ _) (Nat.le_add_right _ _) (key _ _ _ _ _ _ _ _ _ _ hI2 hM2)
theorem law_22 {nm : String} {len : Nat} {xs : Nat → Int32} {i cu su : Nat} {Z : Zt} {G : Gt} {L : Lt} {W : Wv} {H : Hv} {I : Option (Wv × Hv)} {T : Nat × (Nat → Nat)} {R : Nat × (Nat → Int32)} {P : Pt9} {n : Nat} (hI : IC Z G L W H I T R P n) (hM : IM G L W H I T R P n) (hin1 : vp_in (nI i + 1) len) (hin2 : vp_in (nI i + 2) len) (hin3 : vp_in (nI i + 3) len) (hin4 : vp_in (nI i + 4) len) (hin5 : vp_in (nI i + 5) len) (hcu : cu + 2 ≤ 600000) (hsu : su + 302 ≤ 7302250) (key : ∀ (Z : Zt) (G : Gt) (L : Lt) (W : Wv) (H : Hv) (I : Option (Wv × Hv)) (T : Nat × (Nat → Nat)) (R : Nat × (Nat → Int32)) (P : Pt9) (n : Nat), IC Z G L W H I T R P n → IM G L W H I T R P n → AX (some (len, xs)) (mL nm) 30 600000 7302250 (cu + 2) (su + 302) 1232 [(0, .ref 3000), (1, .ref 0), (2, .ref 75), (3, .int (nI i))] [] Z G L LQ) : AX (some (len, xs)) (mL nm) 30 600000 7302250 cu su 838 [(0, .ref 3000), (1, .ref 0), (2, .ref 75), (3, .int (nI i))] [] Z G L LQ := by
  refine ax_aload_n (i := 1) dL_law_838 rfl rfl ?_
  refine ax_aload_n (i := 0) dL_law_839 rfl rfl ?_
  refine ax_iload_n (i := 3) dL_law_840 rfl rfl ?_
  refine ax_iconst (v := 1) dL_law_841 (by decide) ?_
  refine ax_iadd dL_law_842 ?_
  refine ax_sld rfl dL_law_843 hin1 ?_
  refine ax_aload_n (i := 0) dL_law_844 rfl rfl ?_
  refine ax_iload_n (i := 3) dL_law_845 rfl rfl ?_
  refine ax_iconst (v := 2) dL_law_846 (by decide) ?_
  refine ax_iadd dL_law_847 ?_
  refine ax_sld rfl dL_law_848 hin2 ?_
  refine ax_cVq dL_law_849 lk_L_108 (x_judge hI _ _) rfl (OKs hI.1 rfl) ⟨_, rfl, rfl⟩ rfl (Nat.le_of_ble_eq_true rfl) (Nat.le_of_ble_eq_true rfl) (by omega) (by omega) ?_
  rintro Z1 G1 L1 ⟨hI1, f1⟩
  have hM1 := IM_fC hM f1
  refine ax_aload_n (i := 2) dL_law_852 rfl rfl ?_
  refine ax_aload_n (i := 0) dL_law_853 rfl rfl ?_
  refine ax_iload_n (i := 3) dL_law_854 rfl rfl ?_
  refine ax_iconst (v := 1) dL_law_855 (by decide) ?_
  refine ax_iadd dL_law_856 ?_
  refine ax_sld rfl dL_law_857 hin1 ?_
  refine ax_aload_n (i := 0) dL_law_858 rfl rfl ?_
  refine ax_iload_n (i := 3) dL_law_859 rfl rfl ?_
  refine ax_iconst (v := 2) dL_law_860 (by decide) ?_
  refine ax_iadd dL_law_861 ?_
  refine ax_sld rfl dL_law_862 hin2 ?_
  refine ax_cVq dL_law_863 lk_L_111 (y_judge hI1.1 (IC_ok hI) hM1 _ _) rfl (OKs hI1.1 rfl) ⟨_, rfl, rfl⟩ rfl (Nat.le_of_ble_eq_true rfl) (Nat.le_of_ble_eq_true rfl) (by omega) (by omega) ?_
  rintro Z2 G2 L2 ⟨hz2, hM2, f2⟩
  subst Z2
  have hI2 := IC_fM hI1 f2
  refine ax_icmp_eq (tgt := 1232) dL_law_866 (by decide) (fun _ => ?_) (fun c => absurd rfl c)
  exact ax_up (Nat.le_add_right _ _) (Nat.le_add_right _ _) (key _ _ _ _ _ _ _ _ _ _ hI2 hM2)
theorem law_23 {nm : String} {len : Nat} {xs : Nat → Int32} {i cu su : Nat} {Z : Zt} {G : Gt} {L : Lt} {W : Wv} {H : Hv} {I : Option (Wv × Hv)} {T : Nat × (Nat → Nat)} {R : Nat × (Nat → Int32)} {P : Pt9} {n : Nat} (hI : IC Z G L W H I T R P n) (hM : IM G L W H I T R P n) (hin1 : vp_in (nI i + 1) len) (hin2 : vp_in (nI i + 2) len) (hin3 : vp_in (nI i + 3) len) (hin4 : vp_in (nI i + 4) len) (hin5 : vp_in (nI i + 5) len) (hcu : cu + 2 ≤ 600000) (hsu : su + 302 ≤ 7302250) (key : ∀ (Z : Zt) (G : Gt) (L : Lt) (W : Wv) (H : Hv) (I : Option (Wv × Hv)) (T : Nat × (Nat → Nat)) (R : Nat × (Nat → Int32)) (P : Pt9) (n : Nat), IC Z G L W H I T R P n → IM G L W H I T R P n → AX (some (len, xs)) (mL nm) 30 600000 7302250 (cu + 2) (su + 302) 1232 [(0, .ref 3000), (1, .ref 0), (2, .ref 75), (3, .int (nI i))] [] Z G L LQ) : AX (some (len, xs)) (mL nm) 30 600000 7302250 cu su 871 [(0, .ref 3000), (1, .ref 0), (2, .ref 75), (3, .int (nI i))] [] Z G L LQ := by
  refine ax_aload_n (i := 1) dL_law_871 rfl rfl ?_
  refine ax_cVq dL_law_872 lk_L_112 (x_image hI ) rfl (OKs hI.1 rfl) ⟨_, rfl, rfl⟩ rfl (Nat.le_of_ble_eq_true rfl) (Nat.le_of_ble_eq_true rfl) (by omega) (by omega) ?_
  rintro Z1 G1 L1 ⟨hI1, f1⟩
  have hM1 := IM_fC hM f1
  refine ax_aload_n (i := 2) dL_law_875 rfl rfl ?_
  refine ax_cVq dL_law_876 lk_L_115 (y_image hI1.1 (IC_ok hI) hM1 ) rfl (OKs hI1.1 rfl) ⟨_, rfl, rfl⟩ rfl (Nat.le_of_ble_eq_true rfl) (Nat.le_of_ble_eq_true rfl) (by omega) (by omega) ?_
  rintro Z2 G2 L2 ⟨hz2, hM2, f2⟩
  subst Z2
  have hI2 := IC_fM hI1 f2
  refine ax_icmp_eq (tgt := 1232) dL_law_879 (by decide) (fun _ => ?_) (fun c => absurd rfl c)
  exact ax_up (Nat.le_add_right _ _) (Nat.le_add_right _ _) (key _ _ _ _ _ _ _ _ _ _ hI2 hM2)
theorem law_24 {nm : String} {len : Nat} {xs : Nat → Int32} {i cu su : Nat} {Z : Zt} {G : Gt} {L : Lt} {W : Wv} {H : Hv} {I : Option (Wv × Hv)} {T : Nat × (Nat → Nat)} {R : Nat × (Nat → Int32)} {P : Pt9} {n : Nat} (hI : IC Z G L W H I T R P n) (hM : IM G L W H I T R P n) (hin1 : vp_in (nI i + 1) len) (hin2 : vp_in (nI i + 2) len) (hin3 : vp_in (nI i + 3) len) (hin4 : vp_in (nI i + 4) len) (hin5 : vp_in (nI i + 5) len) (hcu : cu + 2 ≤ 600000) (hsu : su + 302 ≤ 7302250) (key : ∀ (Z : Zt) (G : Gt) (L : Lt) (W : Wv) (H : Hv) (I : Option (Wv × Hv)) (T : Nat × (Nat → Nat)) (R : Nat × (Nat → Int32)) (P : Pt9) (n : Nat), IC Z G L W H I T R P n → IM G L W H I T R P n → AX (some (len, xs)) (mL nm) 30 600000 7302250 (cu + 2) (su + 302) 1232 [(0, .ref 3000), (1, .ref 0), (2, .ref 75), (3, .int (nI i))] [] Z G L LQ) : AX (some (len, xs)) (mL nm) 30 600000 7302250 cu su 884 [(0, .ref 3000), (1, .ref 0), (2, .ref 75), (3, .int (nI i))] [] Z G L LQ := by
  refine ax_aload_n (i := 1) dL_law_884 rfl rfl ?_
  refine ax_cVq dL_law_885 lk_L_116 (x_undo hI ) rfl (OKs hI.1 rfl) ⟨_, rfl, rfl⟩ rfl (Nat.le_of_ble_eq_true rfl) (Nat.le_of_ble_eq_true rfl) (by omega) (by omega) ?_
  rintro Z1 G1 L1 ⟨hI1, f1⟩
  have hM1 := IM_fC hM f1
  refine ax_aload_n (i := 2) dL_law_888 rfl rfl ?_
  refine ax_cVq dL_law_889 lk_L_119 (y_undo hI1.1 (IC_ok hI) hM1 ) rfl (OKs hI1.1 rfl) ⟨_, rfl, rfl⟩ rfl (Nat.le_of_ble_eq_true rfl) (Nat.le_of_ble_eq_true rfl) (by omega) (by omega) ?_
  rintro Z2 G2 L2 ⟨hz2, hM2, f2⟩
  subst Z2
  have hI2 := IC_fM hI1 f2
  refine ax_icmp_eq (tgt := 1232) dL_law_892 (by decide) (fun _ => ?_) (fun c => absurd rfl c)
  exact ax_up (Nat.le_add_right _ _) (Nat.le_add_right _ _) (key _ _ _ _ _ _ _ _ _ _ hI2 hM2)
theorem law_25 {nm : String} {len : Nat} {xs : Nat → Int32} {i cu su : Nat} {Z : Zt} {G : Gt} {L : Lt} {W : Wv} {H : Hv} {I : Option (Wv × Hv)} {T : Nat × (Nat → Nat)} {R : Nat × (Nat → Int32)} {P : Pt9} {n : Nat} (hI : IC Z G L W H I T R P n) (hM : IM G L W H I T R P n) (hin1 : vp_in (nI i + 1) len) (hin2 : vp_in (nI i + 2) len) (hin3 : vp_in (nI i + 3) len) (hin4 : vp_in (nI i + 4) len) (hin5 : vp_in (nI i + 5) len) (hcu : cu + 2 ≤ 600000) (hsu : su + 302 ≤ 7302250) (key : ∀ (Z : Zt) (G : Gt) (L : Lt) (W : Wv) (H : Hv) (I : Option (Wv × Hv)) (T : Nat × (Nat → Nat)) (R : Nat × (Nat → Int32)) (P : Pt9) (n : Nat), IC Z G L W H I T R P n → IM G L W H I T R P n → AX (some (len, xs)) (mL nm) 30 600000 7302250 (cu + 2) (su + 302) 1232 [(0, .ref 3000), (1, .ref 0), (2, .ref 75), (3, .int (nI i))] [] Z G L LQ) : AX (some (len, xs)) (mL nm) 30 600000 7302250 cu su 897 [(0, .ref 3000), (1, .ref 0), (2, .ref 75), (3, .int (nI i))] [] Z G L LQ := by
  refine ax_aload_n (i := 1) dL_law_897 rfl rfl ?_
  refine ax_aload_n (i := 0) dL_law_898 rfl rfl ?_
  refine ax_iload_n (i := 3) dL_law_899 rfl rfl ?_
  refine ax_iconst (v := 1) dL_law_900 (by decide) ?_
  refine ax_iadd dL_law_901 ?_
  refine ax_sld rfl dL_law_902 hin1 ?_
  refine ax_aload_n (i := 0) dL_law_903 rfl rfl ?_
  refine ax_iload_n (i := 3) dL_law_904 rfl rfl ?_
  refine ax_iconst (v := 2) dL_law_905 (by decide) ?_
  refine ax_iadd dL_law_906 ?_
  refine ax_sld rfl dL_law_907 hin2 ?_
  refine ax_aload_n (i := 0) dL_law_908 rfl rfl ?_
  refine ax_iload_n (i := 3) dL_law_909 rfl rfl ?_
  refine ax_iconst (v := 3) dL_law_910 (by decide) ?_
  refine ax_iadd dL_law_911 ?_
  refine ax_sld rfl dL_law_912 hin3 ?_
  refine ax_cVq dL_law_913 lk_L_120 (x_act hI _ _ _) rfl (OKs hI.1 rfl) ⟨_, rfl, rfl⟩ rfl (Nat.le_of_ble_eq_true rfl) (Nat.le_of_ble_eq_true rfl) (by omega) (by omega) ?_
  rintro Z1 G1 L1 ⟨hI1, f1⟩
  have hM1 := IM_fC hM f1
  refine ax_aload_n (i := 2) dL_law_916 rfl rfl ?_
  refine ax_aload_n (i := 0) dL_law_917 rfl rfl ?_
  refine ax_iload_n (i := 3) dL_law_918 rfl rfl ?_
  refine ax_iconst (v := 1) dL_law_919 (by decide) ?_
  refine ax_iadd dL_law_920 ?_
  refine ax_sld rfl dL_law_921 hin1 ?_
  refine ax_aload_n (i := 0) dL_law_922 rfl rfl ?_
  refine ax_iload_n (i := 3) dL_law_923 rfl rfl ?_
  refine ax_iconst (v := 2) dL_law_924 (by decide) ?_
  refine ax_iadd dL_law_925 ?_
  refine ax_sld rfl dL_law_926 hin2 ?_
  refine ax_aload_n (i := 0) dL_law_927 rfl rfl ?_
  refine ax_iload_n (i := 3) dL_law_928 rfl rfl ?_
  refine ax_iconst (v := 3) dL_law_929 (by decide) ?_
  refine ax_iadd dL_law_930 ?_
  refine ax_sld rfl dL_law_931 hin3 ?_
  refine ax_cVq dL_law_932 lk_L_123 (y_act hI1.1 (IC_ok hI) hM1 _ _ _) rfl (OKs hI1.1 rfl) ⟨_, rfl, rfl⟩ rfl (Nat.le_of_ble_eq_true rfl) (Nat.le_of_ble_eq_true rfl) (by omega) (by omega) ?_
  rintro Z2 G2 L2 ⟨hz2, hM2, f2⟩
  subst Z2
  have hI2 := IC_fM hI1 f2
  refine ax_icmp_eq (tgt := 1232) dL_law_935 (by decide) (fun _ => ?_) (fun c => absurd rfl c)
  exact ax_up (Nat.le_add_right _ _) (Nat.le_add_right _ _) (key _ _ _ _ _ _ _ _ _ _ hI2 hM2)
theorem law_26 {nm : String} {len : Nat} {xs : Nat → Int32} {i cu su : Nat} {Z : Zt} {G : Gt} {L : Lt} {W : Wv} {H : Hv} {I : Option (Wv × Hv)} {T : Nat × (Nat → Nat)} {R : Nat × (Nat → Int32)} {P : Pt9} {n : Nat} (hI : IC Z G L W H I T R P n) (hM : IM G L W H I T R P n) (hin1 : vp_in (nI i + 1) len) (hin2 : vp_in (nI i + 2) len) (hin3 : vp_in (nI i + 3) len) (hin4 : vp_in (nI i + 4) len) (hin5 : vp_in (nI i + 5) len) (hcu : cu + 2 ≤ 600000) (hsu : su + 302 ≤ 7302250) (key : ∀ (Z : Zt) (G : Gt) (L : Lt) (W : Wv) (H : Hv) (I : Option (Wv × Hv)) (T : Nat × (Nat → Nat)) (R : Nat × (Nat → Int32)) (P : Pt9) (n : Nat), IC Z G L W H I T R P n → IM G L W H I T R P n → AX (some (len, xs)) (mL nm) 30 600000 7302250 (cu + 2) (su + 302) 1232 [(0, .ref 3000), (1, .ref 0), (2, .ref 75), (3, .int (nI i))] [] Z G L LQ) : AX (some (len, xs)) (mL nm) 30 600000 7302250 cu su 940 [(0, .ref 3000), (1, .ref 0), (2, .ref 75), (3, .int (nI i))] [] Z G L LQ := by
  refine ax_aload_n (i := 1) dL_law_940 rfl rfl ?_
  refine ax_aload_n (i := 0) dL_law_941 rfl rfl ?_
  refine ax_iload_n (i := 3) dL_law_942 rfl rfl ?_
  refine ax_iconst (v := 1) dL_law_943 (by decide) ?_
  refine ax_iadd dL_law_944 ?_
  refine ax_sld rfl dL_law_945 hin1 ?_
  refine ax_cVq dL_law_946 lk_L_124 (x_trace hI _) rfl (OKs hI.1 rfl) ⟨_, rfl, rfl⟩ rfl (Nat.le_of_ble_eq_true rfl) (Nat.le_of_ble_eq_true rfl) (by omega) (by omega) ?_
  rintro Z1 G1 L1 ⟨hI1, f1⟩
  have hM1 := IM_fC hM f1
  refine ax_aload_n (i := 2) dL_law_949 rfl rfl ?_
  refine ax_aload_n (i := 0) dL_law_950 rfl rfl ?_
  refine ax_iload_n (i := 3) dL_law_951 rfl rfl ?_
  refine ax_iconst (v := 1) dL_law_952 (by decide) ?_
  refine ax_iadd dL_law_953 ?_
  refine ax_sld rfl dL_law_954 hin1 ?_
  refine ax_cVq dL_law_955 lk_L_127 (y_trace hI1.1 (IC_ok hI) hM1 _) rfl (OKs hI1.1 rfl) ⟨_, rfl, rfl⟩ rfl (Nat.le_of_ble_eq_true rfl) (Nat.le_of_ble_eq_true rfl) (by omega) (by omega) ?_
  rintro Z2 G2 L2 ⟨hz2, hM2, f2⟩
  subst Z2
  have hI2 := IC_fM hI1 f2
  refine ax_icmp_eq (tgt := 1232) dL_law_958 (by decide) (fun _ => ?_) (fun c => absurd rfl c)
  exact ax_up (Nat.le_add_right _ _) (Nat.le_add_right _ _) (key _ _ _ _ _ _ _ _ _ _ hI2 hM2)
theorem law_27 {nm : String} {len : Nat} {xs : Nat → Int32} {i cu su : Nat} {Z : Zt} {G : Gt} {L : Lt} {W : Wv} {H : Hv} {I : Option (Wv × Hv)} {T : Nat × (Nat → Nat)} {R : Nat × (Nat → Int32)} {P : Pt9} {n : Nat} (hI : IC Z G L W H I T R P n) (hM : IM G L W H I T R P n) (hin1 : vp_in (nI i + 1) len) (hin2 : vp_in (nI i + 2) len) (hin3 : vp_in (nI i + 3) len) (hin4 : vp_in (nI i + 4) len) (hin5 : vp_in (nI i + 5) len) (hcu : cu + 2 ≤ 600000) (hsu : su + 302 ≤ 7302250) (key : ∀ (Z : Zt) (G : Gt) (L : Lt) (W : Wv) (H : Hv) (I : Option (Wv × Hv)) (T : Nat × (Nat → Nat)) (R : Nat × (Nat → Int32)) (P : Pt9) (n : Nat), IC Z G L W H I T R P n → IM G L W H I T R P n → AX (some (len, xs)) (mL nm) 30 600000 7302250 (cu + 2) (su + 302) 1232 [(0, .ref 3000), (1, .ref 0), (2, .ref 75), (3, .int (nI i))] [] Z G L LQ) : AX (some (len, xs)) (mL nm) 30 600000 7302250 cu su 963 [(0, .ref 3000), (1, .ref 0), (2, .ref 75), (3, .int (nI i))] [] Z G L LQ := by
  refine ax_aload_n (i := 1) dL_law_963 rfl rfl ?_
  refine ax_aload_n (i := 0) dL_law_964 rfl rfl ?_
  refine ax_iload_n (i := 3) dL_law_965 rfl rfl ?_
  refine ax_iconst (v := 1) dL_law_966 (by decide) ?_
  refine ax_iadd dL_law_967 ?_
  refine ax_sld rfl dL_law_968 hin1 ?_
  refine ax_aload_n (i := 0) dL_law_969 rfl rfl ?_
  refine ax_iload_n (i := 3) dL_law_970 rfl rfl ?_
  refine ax_iconst (v := 2) dL_law_971 (by decide) ?_
  refine ax_iadd dL_law_972 ?_
  refine ax_sld rfl dL_law_973 hin2 ?_
  refine ax_cVq dL_law_974 lk_L_128 (x_taken hI _ _) rfl (OKs hI.1 rfl) ⟨_, rfl, rfl⟩ rfl (Nat.le_of_ble_eq_true rfl) (Nat.le_of_ble_eq_true rfl) (by omega) (by omega) ?_
  rintro Z1 G1 L1 ⟨hI1, f1⟩
  have hM1 := IM_fC hM f1
  refine ax_aload_n (i := 2) dL_law_977 rfl rfl ?_
  refine ax_aload_n (i := 0) dL_law_978 rfl rfl ?_
  refine ax_iload_n (i := 3) dL_law_979 rfl rfl ?_
  refine ax_iconst (v := 1) dL_law_980 (by decide) ?_
  refine ax_iadd dL_law_981 ?_
  refine ax_sld rfl dL_law_982 hin1 ?_
  refine ax_aload_n (i := 0) dL_law_983 rfl rfl ?_
  refine ax_iload_n (i := 3) dL_law_984 rfl rfl ?_
  refine ax_iconst (v := 2) dL_law_985 (by decide) ?_
  refine ax_iadd dL_law_986 ?_
  refine ax_sld rfl dL_law_987 hin2 ?_
  refine ax_cVq dL_law_988 lk_L_131 (y_taken hI1.1 (IC_ok hI) hM1 _ _) rfl (OKs hI1.1 rfl) ⟨_, rfl, rfl⟩ rfl (Nat.le_of_ble_eq_true rfl) (Nat.le_of_ble_eq_true rfl) (by omega) (by omega) ?_
  rintro Z2 G2 L2 ⟨hz2, hM2, f2⟩
  subst Z2
  have hI2 := IC_fM hI1 f2
  refine ax_icmp_eq (tgt := 1232) dL_law_991 (by decide) (fun _ => ?_) (fun c => absurd rfl c)
  exact ax_up (Nat.le_add_right _ _) (Nat.le_add_right _ _) (key _ _ _ _ _ _ _ _ _ _ hI2 hM2)
theorem law_28 {nm : String} {len : Nat} {xs : Nat → Int32} {i cu su : Nat} {Z : Zt} {G : Gt} {L : Lt} {W : Wv} {H : Hv} {I : Option (Wv × Hv)} {T : Nat × (Nat → Nat)} {R : Nat × (Nat → Int32)} {P : Pt9} {n : Nat} (hI : IC Z G L W H I T R P n) (hM : IM G L W H I T R P n) (hin1 : vp_in (nI i + 1) len) (hin2 : vp_in (nI i + 2) len) (hin3 : vp_in (nI i + 3) len) (hin4 : vp_in (nI i + 4) len) (hin5 : vp_in (nI i + 5) len) (hcu : cu + 2 ≤ 600000) (hsu : su + 302 ≤ 7302250) (key : ∀ (Z : Zt) (G : Gt) (L : Lt) (W : Wv) (H : Hv) (I : Option (Wv × Hv)) (T : Nat × (Nat → Nat)) (R : Nat × (Nat → Int32)) (P : Pt9) (n : Nat), IC Z G L W H I T R P n → IM G L W H I T R P n → AX (some (len, xs)) (mL nm) 30 600000 7302250 (cu + 2) (su + 302) 1232 [(0, .ref 3000), (1, .ref 0), (2, .ref 75), (3, .int (nI i))] [] Z G L LQ) : AX (some (len, xs)) (mL nm) 30 600000 7302250 cu su 996 [(0, .ref 3000), (1, .ref 0), (2, .ref 75), (3, .int (nI i))] [] Z G L LQ := by
  refine ax_aload_n (i := 1) dL_law_996 rfl rfl ?_
  refine ax_aload_n (i := 0) dL_law_997 rfl rfl ?_
  refine ax_iload_n (i := 3) dL_law_998 rfl rfl ?_
  refine ax_iconst (v := 1) dL_law_999 (by decide) ?_
  refine ax_iadd dL_law_1000 ?_
  refine ax_sld rfl dL_law_1001 hin1 ?_
  refine ax_cVq dL_law_1002 lk_L_132 (x_count hI _) rfl (OKs hI.1 rfl) ⟨_, rfl, rfl⟩ rfl (Nat.le_of_ble_eq_true rfl) (Nat.le_of_ble_eq_true rfl) (by omega) (by omega) ?_
  rintro Z1 G1 L1 ⟨hI1, f1⟩
  have hM1 := IM_fC hM f1
  refine ax_aload_n (i := 2) dL_law_1005 rfl rfl ?_
  refine ax_aload_n (i := 0) dL_law_1006 rfl rfl ?_
  refine ax_iload_n (i := 3) dL_law_1007 rfl rfl ?_
  refine ax_iconst (v := 1) dL_law_1008 (by decide) ?_
  refine ax_iadd dL_law_1009 ?_
  refine ax_sld rfl dL_law_1010 hin1 ?_
  refine ax_cVq dL_law_1011 lk_L_135 (y_count hI1.1 (IC_ok hI) hM1 _) rfl (OKs hI1.1 rfl) ⟨_, rfl, rfl⟩ rfl (Nat.le_of_ble_eq_true rfl) (Nat.le_of_ble_eq_true rfl) (by omega) (by omega) ?_
  rintro Z2 G2 L2 ⟨hz2, hM2, f2⟩
  subst Z2
  have hI2 := IC_fM hI1 f2
  refine ax_icmp_eq (tgt := 1232) dL_law_1014 (by decide) (fun _ => ?_) (fun c => absurd rfl c)
  exact ax_up (Nat.le_add_right _ _) (Nat.le_add_right _ _) (key _ _ _ _ _ _ _ _ _ _ hI2 hM2)
theorem law_29 {nm : String} {len : Nat} {xs : Nat → Int32} {i cu su : Nat} {Z : Zt} {G : Gt} {L : Lt} {W : Wv} {H : Hv} {I : Option (Wv × Hv)} {T : Nat × (Nat → Nat)} {R : Nat × (Nat → Int32)} {P : Pt9} {n : Nat} (hI : IC Z G L W H I T R P n) (hM : IM G L W H I T R P n) (hin1 : vp_in (nI i + 1) len) (hin2 : vp_in (nI i + 2) len) (hin3 : vp_in (nI i + 3) len) (hin4 : vp_in (nI i + 4) len) (hin5 : vp_in (nI i + 5) len) (hcu : cu + 2 ≤ 600000) (hsu : su + 302 ≤ 7302250) (key : ∀ (Z : Zt) (G : Gt) (L : Lt) (W : Wv) (H : Hv) (I : Option (Wv × Hv)) (T : Nat × (Nat → Nat)) (R : Nat × (Nat → Int32)) (P : Pt9) (n : Nat), IC Z G L W H I T R P n → IM G L W H I T R P n → AX (some (len, xs)) (mL nm) 30 600000 7302250 (cu + 2) (su + 302) 1232 [(0, .ref 3000), (1, .ref 0), (2, .ref 75), (3, .int (nI i))] [] Z G L LQ) : AX (some (len, xs)) (mL nm) 30 600000 7302250 cu su 1019 [(0, .ref 3000), (1, .ref 0), (2, .ref 75), (3, .int (nI i))] [] Z G L LQ := by
  refine ax_aload_n (i := 1) dL_law_1019 rfl rfl ?_
  refine ax_aload_n (i := 0) dL_law_1020 rfl rfl ?_
  refine ax_iload_n (i := 3) dL_law_1021 rfl rfl ?_
  refine ax_iconst (v := 1) dL_law_1022 (by decide) ?_
  refine ax_iadd dL_law_1023 ?_
  refine ax_sld rfl dL_law_1024 hin1 ?_
  refine ax_aload_n (i := 0) dL_law_1025 rfl rfl ?_
  refine ax_iload_n (i := 3) dL_law_1026 rfl rfl ?_
  refine ax_iconst (v := 2) dL_law_1027 (by decide) ?_
  refine ax_iadd dL_law_1028 ?_
  refine ax_sld rfl dL_law_1029 hin2 ?_
  refine ax_aload_n (i := 0) dL_law_1030 rfl rfl ?_
  refine ax_iload_n (i := 3) dL_law_1031 rfl rfl ?_
  refine ax_iconst (v := 3) dL_law_1032 (by decide) ?_
  refine ax_iadd dL_law_1033 ?_
  refine ax_sld rfl dL_law_1034 hin3 ?_
  refine ax_cVq dL_law_1035 lk_L_136 (x_tape hI _ _ _) rfl (OKs hI.1 rfl) ⟨_, rfl, rfl⟩ rfl (Nat.le_of_ble_eq_true rfl) (Nat.le_of_ble_eq_true rfl) (by omega) (by omega) ?_
  rintro Z1 G1 L1 ⟨hI1, f1⟩
  have hM1 := IM_fC hM f1
  refine ax_aload_n (i := 2) dL_law_1038 rfl rfl ?_
  refine ax_aload_n (i := 0) dL_law_1039 rfl rfl ?_
  refine ax_iload_n (i := 3) dL_law_1040 rfl rfl ?_
  refine ax_iconst (v := 1) dL_law_1041 (by decide) ?_
  refine ax_iadd dL_law_1042 ?_
  refine ax_sld rfl dL_law_1043 hin1 ?_
  refine ax_aload_n (i := 0) dL_law_1044 rfl rfl ?_
  refine ax_iload_n (i := 3) dL_law_1045 rfl rfl ?_
  refine ax_iconst (v := 2) dL_law_1046 (by decide) ?_
  refine ax_iadd dL_law_1047 ?_
  refine ax_sld rfl dL_law_1048 hin2 ?_
  refine ax_aload_n (i := 0) dL_law_1049 rfl rfl ?_
  refine ax_iload_n (i := 3) dL_law_1050 rfl rfl ?_
  refine ax_iconst (v := 3) dL_law_1051 (by decide) ?_
  refine ax_iadd dL_law_1052 ?_
  refine ax_sld rfl dL_law_1053 hin3 ?_
  refine ax_cVq dL_law_1054 lk_L_139 (y_tape hI1.1 (IC_ok hI) hM1 _ _ _) rfl (OKs hI1.1 rfl) ⟨_, rfl, rfl⟩ rfl (Nat.le_of_ble_eq_true rfl) (Nat.le_of_ble_eq_true rfl) (by omega) (by omega) ?_
  rintro Z2 G2 L2 ⟨hz2, hM2, f2⟩
  subst Z2
  have hI2 := IC_fM hI1 f2
  refine ax_icmp_eq (tgt := 1232) dL_law_1057 (by decide) (fun _ => ?_) (fun c => absurd rfl c)
  exact ax_up (Nat.le_add_right _ _) (Nat.le_add_right _ _) (key _ _ _ _ _ _ _ _ _ _ hI2 hM2)
theorem law_30 {nm : String} {len : Nat} {xs : Nat → Int32} {i cu su : Nat} {Z : Zt} {G : Gt} {L : Lt} {W : Wv} {H : Hv} {I : Option (Wv × Hv)} {T : Nat × (Nat → Nat)} {R : Nat × (Nat → Int32)} {P : Pt9} {n : Nat} (hI : IC Z G L W H I T R P n) (hM : IM G L W H I T R P n) (hin1 : vp_in (nI i + 1) len) (hin2 : vp_in (nI i + 2) len) (hin3 : vp_in (nI i + 3) len) (hin4 : vp_in (nI i + 4) len) (hin5 : vp_in (nI i + 5) len) (hcu : cu + 2 ≤ 600000) (hsu : su + 302 ≤ 7302250) (key : ∀ (Z : Zt) (G : Gt) (L : Lt) (W : Wv) (H : Hv) (I : Option (Wv × Hv)) (T : Nat × (Nat → Nat)) (R : Nat × (Nat → Int32)) (P : Pt9) (n : Nat), IC Z G L W H I T R P n → IM G L W H I T R P n → AX (some (len, xs)) (mL nm) 30 600000 7302250 (cu + 2) (su + 302) 1232 [(0, .ref 3000), (1, .ref 0), (2, .ref 75), (3, .int (nI i))] [] Z G L LQ) : AX (some (len, xs)) (mL nm) 30 600000 7302250 cu su 1062 [(0, .ref 3000), (1, .ref 0), (2, .ref 75), (3, .int (nI i))] [] Z G L LQ := by
  refine ax_aload_n (i := 1) dL_law_1062 rfl rfl ?_
  refine ax_aload_n (i := 0) dL_law_1063 rfl rfl ?_
  refine ax_iload_n (i := 3) dL_law_1064 rfl rfl ?_
  refine ax_iconst (v := 1) dL_law_1065 (by decide) ?_
  refine ax_iadd dL_law_1066 ?_
  refine ax_sld rfl dL_law_1067 hin1 ?_
  refine ax_aload_n (i := 0) dL_law_1068 rfl rfl ?_
  refine ax_iload_n (i := 3) dL_law_1069 rfl rfl ?_
  refine ax_iconst (v := 2) dL_law_1070 (by decide) ?_
  refine ax_iadd dL_law_1071 ?_
  refine ax_sld rfl dL_law_1072 hin2 ?_
  refine ax_aload_n (i := 0) dL_law_1073 rfl rfl ?_
  refine ax_iload_n (i := 3) dL_law_1074 rfl rfl ?_
  refine ax_iconst (v := 3) dL_law_1075 (by decide) ?_
  refine ax_iadd dL_law_1076 ?_
  refine ax_sld rfl dL_law_1077 hin3 ?_
  refine ax_i2l dL_law_1078 ?_
  refine ax_bipush (v := 32) dL_law_1079 (by decide) ?_
  refine ax_lshl dL_law_1081 rfl ?_
  refine ax_aload_n (i := 0) dL_law_1082 rfl rfl ?_
  refine ax_iload_n (i := 3) dL_law_1083 rfl rfl ?_
  refine ax_iconst (v := 4) dL_law_1084 (by decide) ?_
  refine ax_iadd dL_law_1085 ?_
  refine ax_sld rfl dL_law_1086 hin4 ?_
  refine ax_i2l dL_law_1087 ?_
  refine ax_ldc2 dL_law_1088 wk_L_140 ?_
  refine ax_land dL_law_1091 ?_
  refine ax_lor dL_law_1092 ?_
  refine ax_cVq dL_law_1093 lk_L_142 (x_item hI _ _ _) rfl (OKs hI.1 rfl) ⟨_, rfl, rfl⟩ rfl (Nat.le_of_ble_eq_true rfl) (Nat.le_of_ble_eq_true rfl) (by omega) (by omega) ?_
  rintro Z1 G1 L1 ⟨hI1, f1⟩
  have hM1 := IM_fC hM f1
  refine ax_aload_n (i := 2) dL_law_1096 rfl rfl ?_
  refine ax_aload_n (i := 0) dL_law_1097 rfl rfl ?_
  refine ax_iload_n (i := 3) dL_law_1098 rfl rfl ?_
  refine ax_iconst (v := 1) dL_law_1099 (by decide) ?_
  refine ax_iadd dL_law_1100 ?_
  refine ax_sld rfl dL_law_1101 hin1 ?_
  refine ax_aload_n (i := 0) dL_law_1102 rfl rfl ?_
  refine ax_iload_n (i := 3) dL_law_1103 rfl rfl ?_
  refine ax_iconst (v := 2) dL_law_1104 (by decide) ?_
  refine ax_iadd dL_law_1105 ?_
  refine ax_sld rfl dL_law_1106 hin2 ?_
  refine ax_aload_n (i := 0) dL_law_1107 rfl rfl ?_
  refine ax_iload_n (i := 3) dL_law_1108 rfl rfl ?_
  refine ax_iconst (v := 3) dL_law_1109 (by decide) ?_
  refine ax_iadd dL_law_1110 ?_
  refine ax_sld rfl dL_law_1111 hin3 ?_
  refine ax_i2l dL_law_1112 ?_
  refine ax_bipush (v := 32) dL_law_1113 (by decide) ?_
  refine ax_lshl dL_law_1115 rfl ?_
  refine ax_aload_n (i := 0) dL_law_1116 rfl rfl ?_
  refine ax_iload_n (i := 3) dL_law_1117 rfl rfl ?_
  refine ax_iconst (v := 4) dL_law_1118 (by decide) ?_
  refine ax_iadd dL_law_1119 ?_
  refine ax_sld rfl dL_law_1120 hin4 ?_
  refine ax_i2l dL_law_1121 ?_
  refine ax_ldc2 dL_law_1122 wk_L_140 ?_
  refine ax_land dL_law_1125 ?_
  refine ax_lor dL_law_1126 ?_
  refine ax_cVq dL_law_1127 lk_L_146 (y_item hI1.1 (IC_ok hI) hM1 _ _ _) rfl (OKs hI1.1 rfl) ⟨_, rfl, rfl⟩ rfl (Nat.le_of_ble_eq_true rfl) (Nat.le_of_ble_eq_true rfl) (by omega) (by omega) ?_
  rintro Z2 G2 L2 ⟨hz2, hM2, f2⟩
  subst Z2
  have hI2 := IC_fM hI1 f2
  refine ax_icmp_eq (tgt := 1232) dL_law_1130 (by decide) (fun _ => ?_) (fun c => absurd rfl c)
  exact ax_up (Nat.le_add_right _ _) (Nat.le_add_right _ _) (key _ _ _ _ _ _ _ _ _ _ hI2 hM2)
theorem law_31 {nm : String} {len : Nat} {xs : Nat → Int32} {i cu su : Nat} {Z : Zt} {G : Gt} {L : Lt} {W : Wv} {H : Hv} {I : Option (Wv × Hv)} {T : Nat × (Nat → Nat)} {R : Nat × (Nat → Int32)} {P : Pt9} {n : Nat} (hI : IC Z G L W H I T R P n) (hM : IM G L W H I T R P n) (hin1 : vp_in (nI i + 1) len) (hin2 : vp_in (nI i + 2) len) (hin3 : vp_in (nI i + 3) len) (hin4 : vp_in (nI i + 4) len) (hin5 : vp_in (nI i + 5) len) (hcu : cu + 2 ≤ 600000) (hsu : su + 302 ≤ 7302250) (key : ∀ (Z : Zt) (G : Gt) (L : Lt) (W : Wv) (H : Hv) (I : Option (Wv × Hv)) (T : Nat × (Nat → Nat)) (R : Nat × (Nat → Int32)) (P : Pt9) (n : Nat), IC Z G L W H I T R P n → IM G L W H I T R P n → AX (some (len, xs)) (mL nm) 30 600000 7302250 (cu + 2) (su + 302) 1232 [(0, .ref 3000), (1, .ref 0), (2, .ref 75), (3, .int (nI i))] [] Z G L LQ) : AX (some (len, xs)) (mL nm) 30 600000 7302250 cu su 1135 [(0, .ref 3000), (1, .ref 0), (2, .ref 75), (3, .int (nI i))] [] Z G L LQ := by
  refine ax_aload_n (i := 1) dL_law_1135 rfl rfl ?_
  refine ax_aload_n (i := 0) dL_law_1136 rfl rfl ?_
  refine ax_iload_n (i := 3) dL_law_1137 rfl rfl ?_
  refine ax_iconst (v := 1) dL_law_1138 (by decide) ?_
  refine ax_iadd dL_law_1139 ?_
  refine ax_sld rfl dL_law_1140 hin1 ?_
  refine ax_aload_n (i := 0) dL_law_1141 rfl rfl ?_
  refine ax_iload_n (i := 3) dL_law_1142 rfl rfl ?_
  refine ax_iconst (v := 2) dL_law_1143 (by decide) ?_
  refine ax_iadd dL_law_1144 ?_
  refine ax_sld rfl dL_law_1145 hin2 ?_
  refine ax_cVq dL_law_1146 lk_L_147 (x_read hI _ _) rfl (OKs hI.1 rfl) ⟨_, rfl, rfl⟩ rfl (Nat.le_of_ble_eq_true rfl) (Nat.le_of_ble_eq_true rfl) (by omega) (by omega) ?_
  rintro Z1 G1 L1 ⟨hI1, f1⟩
  have hM1 := IM_fC hM f1
  refine ax_aload_n (i := 2) dL_law_1149 rfl rfl ?_
  refine ax_aload_n (i := 0) dL_law_1150 rfl rfl ?_
  refine ax_iload_n (i := 3) dL_law_1151 rfl rfl ?_
  refine ax_iconst (v := 1) dL_law_1152 (by decide) ?_
  refine ax_iadd dL_law_1153 ?_
  refine ax_sld rfl dL_law_1154 hin1 ?_
  refine ax_aload_n (i := 0) dL_law_1155 rfl rfl ?_
  refine ax_iload_n (i := 3) dL_law_1156 rfl rfl ?_
  refine ax_iconst (v := 2) dL_law_1157 (by decide) ?_
  refine ax_iadd dL_law_1158 ?_
  refine ax_sld rfl dL_law_1159 hin2 ?_
  refine ax_cVq dL_law_1160 lk_L_150 (y_read hI1.1 (IC_ok hI) hM1 _ _) rfl (OKs hI1.1 rfl) ⟨_, rfl, rfl⟩ rfl (Nat.le_of_ble_eq_true rfl) (Nat.le_of_ble_eq_true rfl) (by omega) (by omega) ?_
  rintro Z2 G2 L2 ⟨hz2, hM2, f2⟩
  subst Z2
  have hI2 := IC_fM hI1 f2
  refine ax_lcmp dL_law_1163 ?_
  refine ax_if_eq (tgt := 1232) dL_law_1164 (by decide) (fun _ => ?_) (fun c => absurd (lgc_0.mpr rfl) c)
  exact ax_up (Nat.le_add_right _ _) (Nat.le_add_right _ _) (key _ _ _ _ _ _ _ _ _ _ hI2 hM2)
theorem law_32 {nm : String} {len : Nat} {xs : Nat → Int32} {i cu su : Nat} {Z : Zt} {G : Gt} {L : Lt} {W : Wv} {H : Hv} {I : Option (Wv × Hv)} {T : Nat × (Nat → Nat)} {R : Nat × (Nat → Int32)} {P : Pt9} {n : Nat} (hI : IC Z G L W H I T R P n) (hM : IM G L W H I T R P n) (hin1 : vp_in (nI i + 1) len) (hin2 : vp_in (nI i + 2) len) (hin3 : vp_in (nI i + 3) len) (hin4 : vp_in (nI i + 4) len) (hin5 : vp_in (nI i + 5) len) (hcu : cu + 2 ≤ 600000) (hsu : su + 302 ≤ 7302250) (key : ∀ (Z : Zt) (G : Gt) (L : Lt) (W : Wv) (H : Hv) (I : Option (Wv × Hv)) (T : Nat × (Nat → Nat)) (R : Nat × (Nat → Int32)) (P : Pt9) (n : Nat), IC Z G L W H I T R P n → IM G L W H I T R P n → AX (some (len, xs)) (mL nm) 30 600000 7302250 (cu + 2) (su + 302) 1232 [(0, .ref 3000), (1, .ref 0), (2, .ref 75), (3, .int (nI i))] [] Z G L LQ) : AX (some (len, xs)) (mL nm) 30 600000 7302250 cu su 1169 [(0, .ref 3000), (1, .ref 0), (2, .ref 75), (3, .int (nI i))] [] Z G L LQ := by
  refine ax_aload_n (i := 1) dL_law_1169 rfl rfl ?_
  refine ax_aload_n (i := 0) dL_law_1170 rfl rfl ?_
  refine ax_iload_n (i := 3) dL_law_1171 rfl rfl ?_
  refine ax_iconst (v := 1) dL_law_1172 (by decide) ?_
  refine ax_iadd dL_law_1173 ?_
  refine ax_sld rfl dL_law_1174 hin1 ?_
  refine ax_aload_n (i := 0) dL_law_1175 rfl rfl ?_
  refine ax_iload_n (i := 3) dL_law_1176 rfl rfl ?_
  refine ax_iconst (v := 2) dL_law_1177 (by decide) ?_
  refine ax_iadd dL_law_1178 ?_
  refine ax_sld rfl dL_law_1179 hin2 ?_
  refine ax_aload_n (i := 0) dL_law_1180 rfl rfl ?_
  refine ax_iload_n (i := 3) dL_law_1181 rfl rfl ?_
  refine ax_iconst (v := 3) dL_law_1182 (by decide) ?_
  refine ax_iadd dL_law_1183 ?_
  refine ax_sld rfl dL_law_1184 hin3 ?_
  refine ax_aload_n (i := 0) dL_law_1185 rfl rfl ?_
  refine ax_iload_n (i := 3) dL_law_1186 rfl rfl ?_
  refine ax_iconst (v := 4) dL_law_1187 (by decide) ?_
  refine ax_iadd dL_law_1188 ?_
  refine ax_sld rfl dL_law_1189 hin4 ?_
  refine ax_aload_n (i := 0) dL_law_1190 rfl rfl ?_
  refine ax_iload_n (i := 3) dL_law_1191 rfl rfl ?_
  refine ax_iconst (v := 5) dL_law_1192 (by decide) ?_
  refine ax_iadd dL_law_1193 ?_
  refine ax_sld rfl dL_law_1194 hin5 ?_
  refine ax_cVq dL_law_1195 lk_L_151 (x_shift hI _ _ _ _ _) rfl (OKs hI.1 rfl) ⟨_, rfl, rfl⟩ rfl (Nat.le_of_ble_eq_true rfl) (Nat.le_of_ble_eq_true rfl) (by omega) (by omega) ?_
  rintro Z1 G1 L1 ⟨hI1, f1⟩
  have hM1 := IM_fC hM f1
  refine ax_aload_n (i := 2) dL_law_1198 rfl rfl ?_
  refine ax_aload_n (i := 0) dL_law_1199 rfl rfl ?_
  refine ax_iload_n (i := 3) dL_law_1200 rfl rfl ?_
  refine ax_iconst (v := 1) dL_law_1201 (by decide) ?_
  refine ax_iadd dL_law_1202 ?_
  refine ax_sld rfl dL_law_1203 hin1 ?_
  refine ax_aload_n (i := 0) dL_law_1204 rfl rfl ?_
  refine ax_iload_n (i := 3) dL_law_1205 rfl rfl ?_
  refine ax_iconst (v := 2) dL_law_1206 (by decide) ?_
  refine ax_iadd dL_law_1207 ?_
  refine ax_sld rfl dL_law_1208 hin2 ?_
  refine ax_aload_n (i := 0) dL_law_1209 rfl rfl ?_
  refine ax_iload_n (i := 3) dL_law_1210 rfl rfl ?_
  refine ax_iconst (v := 3) dL_law_1211 (by decide) ?_
  refine ax_iadd dL_law_1212 ?_
  refine ax_sld rfl dL_law_1213 hin3 ?_
  refine ax_aload_n (i := 0) dL_law_1214 rfl rfl ?_
  refine ax_iload_n (i := 3) dL_law_1215 rfl rfl ?_
  refine ax_iconst (v := 4) dL_law_1216 (by decide) ?_
  refine ax_iadd dL_law_1217 ?_
  refine ax_sld rfl dL_law_1218 hin4 ?_
  refine ax_aload_n (i := 0) dL_law_1219 rfl rfl ?_
  refine ax_iload_n (i := 3) dL_law_1220 rfl rfl ?_
  refine ax_iconst (v := 5) dL_law_1221 (by decide) ?_
  refine ax_iadd dL_law_1222 ?_
  refine ax_sld rfl dL_law_1223 hin5 ?_
  refine ax_cVq dL_law_1224 lk_L_155 (y_shift hI1.1 (IC_ok hI) hM1 _ _ _ _ _) rfl (OKs hI1.1 rfl) ⟨_, rfl, rfl⟩ rfl (Nat.le_of_ble_eq_true rfl) (Nat.le_of_ble_eq_true rfl) (by omega) (by omega) ?_
  rintro Z2 G2 L2 ⟨hz2, hM2, f2⟩
  subst Z2
  have hI2 := IC_fM hI1 f2
  refine ax_icmp_eq (tgt := 1232) dL_law_1227 (by decide) (fun _ => ?_) (fun c => absurd rfl c)
  exact ax_up (Nat.le_add_right _ _) (Nat.le_add_right _ _) (key _ _ _ _ _ _ _ _ _ _ hI2 hM2)
