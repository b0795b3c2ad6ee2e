-- ===== the class: act =====
def acR (W : Wv) (f : Nat → Int32) (p : Nat) (b x : Int32) : Int32 × (Nat × (Nat → Int32)) := if b = 0 then (hisV (W.C p 0).toNatClampNeg (nI p) (W.C p 1) x, hisR (W.C p 0).toNatClampNeg (0, f)) else if b = 1 then (cliV (W.C p 0).toNatClampNeg (nI p) (W.C p 1) x, cliR (W.C p 0).toNatClampNeg (0, f)) else (telV (W.C p 0).toNatClampNeg (nI p) (W.C p 1) x, telR (W.C p 0).toNatClampNeg (0, f))
def acA (W : Wv) (f : Nat → Int32) (a b x : Int32) : Int32 × (Nat × (Nat → Int32)) := if wi a 0 (nI W.m - 1) = 0 then (0, (0, f)) else if wi b 0 2 = 0 then (0, (0, f)) else acR W f a.toNatClampNeg b x
abbrev QR (Z : Zt) (G : Gt) (L : Lt) (R : Nat × (Nat → Int32)) : Zt → Gt → Lt → Prop := fun Z' G' L' => Z' = Z ∧ L' = L ∧ G' 4 1 = nI R.1 ∧ (∀ i, i < 20 → i < R.1 → G' 5 i = R.2 i) ∧ ∀ a, a ≠ 4 → a ≠ 5 → G' a = G a
theorem hisR_b (k : Nat) (R : Nat × (Nat → Int32)) : (hisR k R).1 ≤ R.1 + 2 := by
  unfold hisR
  split <;> simp only [rAdd] <;> omega
theorem cl0R_b (k : Nat) (R : Nat × (Nat → Int32)) : (cl0R k R).1 ≤ R.1 + 3 := by
  have := hisR_b k (rAdd R 11)
  unfold cl0R
  simp only [rAdd] at this ⊢
  omega
theorem cliR_b (k : Nat) (R : Nat × (Nat → Int32)) : (cliR k R).1 ≤ R.1 + 5 := by
  unfold cliR
  split
  · have := cl0R_b 1 (rAdd R 20); simp only [rAdd] at this; simp only [rAdd]; omega
  · have := cl0R_b 4 (rAdd (rAdd R 51) 20); simp only [rAdd] at this; simp only [rAdd]; omega
  · have := cl0R_b 6 (rAdd R 70); simp only [rAdd] at this; simp only [rAdd]; omega
  · have := cl0R_b k R; omega
theorem te0R_b (k : Nat) (R : Nat × (Nat → Int32)) : (te0R k R).1 ≤ R.1 + 6 := by
  have := cliR_b k (rAdd R 12)
  unfold te0R
  simp only [rAdd] at this
  simp only [rAdd]
  omega
theorem telR_b (k : Nat) (R : Nat × (Nat → Int32)) : (telR k R).1 ≤ R.1 + 12 := by
  unfold telR
  split
  · have h1 := te0R_b 3 (rAdd R 40); have h2 := cliR_b 3 (te0R 3 (rAdd R 40)); simp only [rAdd] at h1 h2; simp only [rAdd]; omega
  · have h1 := te0R_b 6 (rAdd R 40); have h2 := cliR_b 6 (te0R 6 (rAdd R 40)); simp only [rAdd] at h1 h2; simp only [rAdd]; omega
  · have h1 := te0R_b 5 (rAdd R 60); simp only [rAdd] at h1; simp only [rAdd]; omega
  · have h1 := te0R_b k R; omega
theorem acA_b (W : Wv) (f : Nat → Int32) (a b x : Int32) : (acA W f a b x).2.1 ≤ 20 := by
  unfold acA
  split
  · exact Nat.zero_le _
  split
  · exact Nat.zero_le _
  unfold acR
  split
  · have := hisR_b (W.C a.toNatClampNeg 0).toNatClampNeg (0, f); simp only at this ⊢; omega
  split
  · have := cliR_b (W.C a.toNatClampNeg 0).toNatClampNeg (0, f); simp only at this ⊢; omega
  · have := telR_b (W.C a.toNatClampNeg 0).toNatClampNeg (0, f); simp only at this ⊢; omega
theorem t_act {Z : Zt} {G : Gt} {L : Lt} {W : Wv} (hZ : OK Z) (hv : vC Z G 24 W) (ho : okW W) (f : Nat → Int32) (p : Nat) (hp : p < W.m) (b x : Int32) : AX none mX11_act 9 0 0 0 0 55 [(0, .ref 0), (1, .int (nI p)), (2, .int b), (3, .int x)] [] Z (up2 (up2 (up2 G 4 1 0) 4 2 (nI p)) 4 3 (W.C p 1)) L (RP (.int (acR W f p b x).1) (QR Z G L (acR W f p b x).2)) := by
  have hp6 : p < 6 := by have := ho.1; omega
  obtain ⟨kk, hk7, hkk⟩ := ho.2.2.1 p hp
  have ha9 : aS (up2 (up2 (up2 G 4 1 0) 4 2 (nI p)) 4 3 (W.C p 1)) (0, f) (nI p) (W.C p 1) := ⟨by rw [up2_i (by decide), up2_i (by decide), up2_s]; rfl, fun i _ h => absurd h (Nat.not_lt_zero i), by rw [up2_i (by decide), up2_s], by rw [up2_s]⟩
  rcases (show kk = 0 ∨ kk = 1 ∨ kk = 2 ∨ kk = 3 ∨ kk = 4 ∨ kk = 5 ∨ kk = 6 by omega) with rfl | rfl | rfl | rfl | rfl | rfl | rfl
  · refine ax_aload_n (i := 0) dX11_act_55 rfl rfl ?_
    refine ax_getR dX11_act_56 fl_X11_14 rfl (OKs hZ rfl) (OKr hZ rfl) ?_
    refine ax_getR dX11_act_59 fl_X11_262 rfl (OKs hZ rfl) (OKr hZ rfl) ?_
    refine ax_aload_n (i := 0) dX11_act_62 rfl rfl ?_
    refine ax_getR dX11_act_63 fl_X11_14 rfl (OKs hZ rfl) (OKr hZ rfl) ?_
    refine ax_getR dX11_act_66 fl_X11_87 rfl (OKs hZ rfl) (OKr hZ rfl) ?_
    refine ax_iload_n (i := 1) dX11_act_69 rfl rfl ?_
    refine ax_aaldN p (t0 := 5) dX11_act_70 (OKs hZ rfl) rfl (fun _ => rfl) rfl hp6 (by decide) (Wrf (isW24 hZ) hp6) ?_
    refine ax_iconst (v := 0) dX11_act_71 (by decide) ?_
    refine ax_ialdN 0 dX11_act_72 (Wrow (isW24 hZ) hp6) rfl (by decide) (by decide) ?_
    refine ax_top (congrArg Value.int (show up2 (up2 (up2 G 4 1 0) 4 2 (nI p)) 4 3 (W.C p 1) (24 + 2 + p) 0 = nI 0 by rw [up2_k (by omega), up2_k (by omega), up2_k (by omega), hv.2.2.1 p hp 0 (by decide), hkk])) ?_
    refine ax_aaldN 0 (t0 := 4) dX11_act_73 (OKs hZ rfl) rfl (fun _ => rfl) rfl (by decide) (by decide) (OKr hZ rfl) ?_
    refine ax_astore dX11_act_74 (by decide) rfl ?_
    refine ax_iload_n (i := 2) dX11_act_76 rfl rfl ?_
    refine ax_if_ne (tgt := 91) dX11_act_77 (by decide) (fun c_77 => ?_) (fun c_77 => ?_)
    · refine ax_iload_n (i := 2) dX11_act_91 rfl rfl ?_
      refine ax_iconst (v := 1) dX11_act_92 (by decide) ?_
      refine ax_icmp_ne (tgt := 109) dX11_act_93 (by decide) (fun c_93 => ?_) (fun c_93 => ?_)
      · refine ax_aload dX11_act_109 rfl ?_
        refine ax_aload_n (i := 0) dX11_act_111 rfl rfl ?_
        refine ax_getR dX11_act_112 fl_X11_34 rfl (OKs hZ rfl) (OKr hZ rfl) ?_
        refine ax_iload_n (i := 3) dX11_act_115 rfl rfl ?_
        refine ax_cUq dX11_act_116 lu_X11_275_X5 (t0_0 hZ ha9 (Nat.zero_le _) x) rfl (OKs hZ rfl) ⟨_, rfl, rfl⟩ rfl (Nat.le_of_ble_eq_true rfl) (Nat.le_of_ble_eq_true rfl) (Nat.le_of_ble_eq_true rfl) (Nat.le_of_ble_eq_true rfl) ?_
        rintro _ G1 _ ⟨rfl, rfl, ar1, fr1⟩
        refine ax_iret dX11_act_119 rfl rfl (Nat.le_of_ble_eq_true rfl) (Nat.le_of_ble_eq_true rfl) ?_
        have e9 := ar1
        have q9 : acR W f p b x = (telV 0 (nI p) (W.C p 1) x, telR 0 (0, f)) := by unfold acR; rw [hkk, nI_clamp (show 0 < 2 ^ 31 by decide)]; rw [if_neg c_77, if_neg c_93]
        rw [q9]
        exact ⟨rfl, rfl, rfl, e9.1, e9.2.1, fun a h4 h5 => ((fr1 a h4 h5).trans (by rw [up2_row h4, up2_row h4, up2_row h4]))⟩
      · refine ax_aload dX11_act_96 rfl ?_
        refine ax_aload_n (i := 0) dX11_act_98 rfl rfl ?_
        refine ax_getR dX11_act_99 fl_X11_34 rfl (OKs hZ rfl) (OKr hZ rfl) ?_
        refine ax_iload_n (i := 3) dX11_act_102 rfl rfl ?_
        refine ax_cUq dX11_act_103 lu_X11_272_X5 (c0_0 hZ ha9 (Nat.zero_le _) x) rfl (OKs hZ rfl) ⟨_, rfl, rfl⟩ rfl (Nat.le_of_ble_eq_true rfl) (Nat.le_of_ble_eq_true rfl) (Nat.le_of_ble_eq_true rfl) (Nat.le_of_ble_eq_true rfl) ?_
        rintro _ G1 _ ⟨rfl, rfl, ar1, fr1⟩
        refine ax_goto (tgt := 119) dX11_act_106 (by decide) ?_
        refine ax_iret dX11_act_119 rfl rfl (Nat.le_of_ble_eq_true rfl) (Nat.le_of_ble_eq_true rfl) ?_
        have e9 := ar1
        have q9 : acR W f p b x = (cliV 0 (nI p) (W.C p 1) x, cliR 0 (0, f)) := by unfold acR; rw [hkk, nI_clamp (show 0 < 2 ^ 31 by decide)]; rw [if_neg c_77, if_pos c_93]
        rw [q9]
        exact ⟨rfl, rfl, rfl, e9.1, e9.2.1, fun a h4 h5 => ((fr1 a h4 h5).trans (by rw [up2_row h4, up2_row h4, up2_row h4]))⟩
    · refine ax_aload dX11_act_80 rfl ?_
      refine ax_aload_n (i := 0) dX11_act_82 rfl rfl ?_
      refine ax_getR dX11_act_83 fl_X11_34 rfl (OKs hZ rfl) (OKr hZ rfl) ?_
      refine ax_iload_n (i := 3) dX11_act_86 rfl rfl ?_
      refine ax_cUq dX11_act_87 lu_X11_266_X5 (h0_0 hZ ha9 (Nat.zero_le _) x) rfl (OKs hZ rfl) ⟨_, rfl, rfl⟩ rfl (Nat.le_of_ble_eq_true rfl) (Nat.le_of_ble_eq_true rfl) (Nat.le_of_ble_eq_true rfl) (Nat.le_of_ble_eq_true rfl) ?_
      rintro _ G1 _ ⟨rfl, rfl, ar1, fr1⟩
      refine ax_iret dX11_act_90 rfl rfl (Nat.le_of_ble_eq_true rfl) (Nat.le_of_ble_eq_true rfl) ?_
      have e9 := ar1
      have q9 : acR W f p b x = (hisV 0 (nI p) (W.C p 1) x, hisR 0 (0, f)) := by unfold acR; rw [hkk, nI_clamp (show 0 < 2 ^ 31 by decide)]; rw [if_pos c_77]
      rw [q9]
      exact ⟨rfl, rfl, rfl, e9.1, e9.2.1, fun a h4 h5 => ((fr1 a h4 h5).trans (by rw [up2_row h4, up2_row h4, up2_row h4]))⟩
  · refine ax_aload_n (i := 0) dX11_act_55 rfl rfl ?_
    refine ax_getR dX11_act_56 fl_X11_14 rfl (OKs hZ rfl) (OKr hZ rfl) ?_
    refine ax_getR dX11_act_59 fl_X11_262 rfl (OKs hZ rfl) (OKr hZ rfl) ?_
    refine ax_aload_n (i := 0) dX11_act_62 rfl rfl ?_
    refine ax_getR dX11_act_63 fl_X11_14 rfl (OKs hZ rfl) (OKr hZ rfl) ?_
    refine ax_getR dX11_act_66 fl_X11_87 rfl (OKs hZ rfl) (OKr hZ rfl) ?_
    refine ax_iload_n (i := 1) dX11_act_69 rfl rfl ?_
    refine ax_aaldN p (t0 := 5) dX11_act_70 (OKs hZ rfl) rfl (fun _ => rfl) rfl hp6 (by decide) (Wrf (isW24 hZ) hp6) ?_
    refine ax_iconst (v := 0) dX11_act_71 (by decide) ?_
    refine ax_ialdN 0 dX11_act_72 (Wrow (isW24 hZ) hp6) rfl (by decide) (by decide) ?_
    refine ax_top (congrArg Value.int (show up2 (up2 (up2 G 4 1 0) 4 2 (nI p)) 4 3 (W.C p 1) (24 + 2 + p) 0 = nI 1 by rw [up2_k (by omega), up2_k (by omega), up2_k (by omega), hv.2.2.1 p hp 0 (by decide), hkk])) ?_
    refine ax_aaldN 1 (t0 := 4) dX11_act_73 (OKs hZ rfl) rfl (fun _ => rfl) rfl (by decide) (by decide) (OKr hZ rfl) ?_
    refine ax_astore dX11_act_74 (by decide) rfl ?_
    refine ax_iload_n (i := 2) dX11_act_76 rfl rfl ?_
    refine ax_if_ne (tgt := 91) dX11_act_77 (by decide) (fun c_77 => ?_) (fun c_77 => ?_)
    · refine ax_iload_n (i := 2) dX11_act_91 rfl rfl ?_
      refine ax_iconst (v := 1) dX11_act_92 (by decide) ?_
      refine ax_icmp_ne (tgt := 109) dX11_act_93 (by decide) (fun c_93 => ?_) (fun c_93 => ?_)
      · refine ax_aload dX11_act_109 rfl ?_
        refine ax_aload_n (i := 0) dX11_act_111 rfl rfl ?_
        refine ax_getR dX11_act_112 fl_X11_34 rfl (OKs hZ rfl) (OKr hZ rfl) ?_
        refine ax_iload_n (i := 3) dX11_act_115 rfl rfl ?_
        refine ax_cUq dX11_act_116 lu_X11_275_X2 (t0_1 hZ ha9 (Nat.zero_le _) x) rfl (OKs hZ rfl) ⟨_, rfl, rfl⟩ rfl (Nat.le_of_ble_eq_true rfl) (Nat.le_of_ble_eq_true rfl) (Nat.le_of_ble_eq_true rfl) (Nat.le_of_ble_eq_true rfl) ?_
        rintro _ G1 _ ⟨rfl, rfl, ar1, fr1⟩
        refine ax_iret dX11_act_119 rfl rfl (Nat.le_of_ble_eq_true rfl) (Nat.le_of_ble_eq_true rfl) ?_
        have e9 := ar1
        have q9 : acR W f p b x = (telV 1 (nI p) (W.C p 1) x, telR 1 (0, f)) := by unfold acR; rw [hkk, nI_clamp (show 1 < 2 ^ 31 by decide)]; rw [if_neg c_77, if_neg c_93]
        rw [q9]
        exact ⟨rfl, rfl, rfl, e9.1, e9.2.1, fun a h4 h5 => ((fr1 a h4 h5).trans (by rw [up2_row h4, up2_row h4, up2_row h4]))⟩
      · refine ax_aload dX11_act_96 rfl ?_
        refine ax_aload_n (i := 0) dX11_act_98 rfl rfl ?_
        refine ax_getR dX11_act_99 fl_X11_34 rfl (OKs hZ rfl) (OKr hZ rfl) ?_
        refine ax_iload_n (i := 3) dX11_act_102 rfl rfl ?_
        refine ax_cUq dX11_act_103 lu_X11_272_X2 (c_1 hZ ha9 (Nat.zero_le _) x) rfl (OKs hZ rfl) ⟨_, rfl, rfl⟩ rfl (Nat.le_of_ble_eq_true rfl) (Nat.le_of_ble_eq_true rfl) (Nat.le_of_ble_eq_true rfl) (Nat.le_of_ble_eq_true rfl) ?_
        rintro _ G1 _ ⟨rfl, rfl, ar1, fr1⟩
        refine ax_goto (tgt := 119) dX11_act_106 (by decide) ?_
        refine ax_iret dX11_act_119 rfl rfl (Nat.le_of_ble_eq_true rfl) (Nat.le_of_ble_eq_true rfl) ?_
        have e9 := ar1
        have q9 : acR W f p b x = (cliV 1 (nI p) (W.C p 1) x, cliR 1 (0, f)) := by unfold acR; rw [hkk, nI_clamp (show 1 < 2 ^ 31 by decide)]; rw [if_neg c_77, if_pos c_93]
        rw [q9]
        exact ⟨rfl, rfl, rfl, e9.1, e9.2.1, fun a h4 h5 => ((fr1 a h4 h5).trans (by rw [up2_row h4, up2_row h4, up2_row h4]))⟩
    · refine ax_aload dX11_act_80 rfl ?_
      refine ax_aload_n (i := 0) dX11_act_82 rfl rfl ?_
      refine ax_getR dX11_act_83 fl_X11_34 rfl (OKs hZ rfl) (OKr hZ rfl) ?_
      refine ax_iload_n (i := 3) dX11_act_86 rfl rfl ?_
      refine ax_cUq dX11_act_87 lu_X11_266_X2 (h0_1 hZ ha9 (Nat.zero_le _) x) rfl (OKs hZ rfl) ⟨_, rfl, rfl⟩ rfl (Nat.le_of_ble_eq_true rfl) (Nat.le_of_ble_eq_true rfl) (Nat.le_of_ble_eq_true rfl) (Nat.le_of_ble_eq_true rfl) ?_
      rintro _ G1 _ ⟨rfl, rfl, ar1, fr1⟩
      refine ax_iret dX11_act_90 rfl rfl (Nat.le_of_ble_eq_true rfl) (Nat.le_of_ble_eq_true rfl) ?_
      have e9 := ar1
      have q9 : acR W f p b x = (hisV 1 (nI p) (W.C p 1) x, hisR 1 (0, f)) := by unfold acR; rw [hkk, nI_clamp (show 1 < 2 ^ 31 by decide)]; rw [if_pos c_77]
      rw [q9]
      exact ⟨rfl, rfl, rfl, e9.1, e9.2.1, fun a h4 h5 => ((fr1 a h4 h5).trans (by rw [up2_row h4, up2_row h4, up2_row h4]))⟩
  · refine ax_aload_n (i := 0) dX11_act_55 rfl rfl ?_
    refine ax_getR dX11_act_56 fl_X11_14 rfl (OKs hZ rfl) (OKr hZ rfl) ?_
    refine ax_getR dX11_act_59 fl_X11_262 rfl (OKs hZ rfl) (OKr hZ rfl) ?_
    refine ax_aload_n (i := 0) dX11_act_62 rfl rfl ?_
    refine ax_getR dX11_act_63 fl_X11_14 rfl (OKs hZ rfl) (OKr hZ rfl) ?_
    refine ax_getR dX11_act_66 fl_X11_87 rfl (OKs hZ rfl) (OKr hZ rfl) ?_
    refine ax_iload_n (i := 1) dX11_act_69 rfl rfl ?_
    refine ax_aaldN p (t0 := 5) dX11_act_70 (OKs hZ rfl) rfl (fun _ => rfl) rfl hp6 (by decide) (Wrf (isW24 hZ) hp6) ?_
    refine ax_iconst (v := 0) dX11_act_71 (by decide) ?_
    refine ax_ialdN 0 dX11_act_72 (Wrow (isW24 hZ) hp6) rfl (by decide) (by decide) ?_
    refine ax_top (congrArg Value.int (show up2 (up2 (up2 G 4 1 0) 4 2 (nI p)) 4 3 (W.C p 1) (24 + 2 + p) 0 = nI 2 by rw [up2_k (by omega), up2_k (by omega), up2_k (by omega), hv.2.2.1 p hp 0 (by decide), hkk])) ?_
    refine ax_aaldN 2 (t0 := 4) dX11_act_73 (OKs hZ rfl) rfl (fun _ => rfl) rfl (by decide) (by decide) (OKr hZ rfl) ?_
    refine ax_astore dX11_act_74 (by decide) rfl ?_
    refine ax_iload_n (i := 2) dX11_act_76 rfl rfl ?_
    refine ax_if_ne (tgt := 91) dX11_act_77 (by decide) (fun c_77 => ?_) (fun c_77 => ?_)
    · refine ax_iload_n (i := 2) dX11_act_91 rfl rfl ?_
      refine ax_iconst (v := 1) dX11_act_92 (by decide) ?_
      refine ax_icmp_ne (tgt := 109) dX11_act_93 (by decide) (fun c_93 => ?_) (fun c_93 => ?_)
      · refine ax_aload dX11_act_109 rfl ?_
        refine ax_aload_n (i := 0) dX11_act_111 rfl rfl ?_
        refine ax_getR dX11_act_112 fl_X11_34 rfl (OKs hZ rfl) (OKr hZ rfl) ?_
        refine ax_iload_n (i := 3) dX11_act_115 rfl rfl ?_
        refine ax_cUq dX11_act_116 lu_X11_275_X9 (t0_2 hZ ha9 (Nat.zero_le _) x) rfl (OKs hZ rfl) ⟨_, rfl, rfl⟩ rfl (Nat.le_of_ble_eq_true rfl) (Nat.le_of_ble_eq_true rfl) (Nat.le_of_ble_eq_true rfl) (Nat.le_of_ble_eq_true rfl) ?_
        rintro _ G1 _ ⟨rfl, rfl, ar1, fr1⟩
        refine ax_iret dX11_act_119 rfl rfl (Nat.le_of_ble_eq_true rfl) (Nat.le_of_ble_eq_true rfl) ?_
        have e9 := ar1
        have q9 : acR W f p b x = (telV 2 (nI p) (W.C p 1) x, telR 2 (0, f)) := by unfold acR; rw [hkk, nI_clamp (show 2 < 2 ^ 31 by decide)]; rw [if_neg c_77, if_neg c_93]
        rw [q9]
        exact ⟨rfl, rfl, rfl, e9.1, e9.2.1, fun a h4 h5 => ((fr1 a h4 h5).trans (by rw [up2_row h4, up2_row h4, up2_row h4]))⟩
      · refine ax_aload dX11_act_96 rfl ?_
        refine ax_aload_n (i := 0) dX11_act_98 rfl rfl ?_
        refine ax_getR dX11_act_99 fl_X11_34 rfl (OKs hZ rfl) (OKr hZ rfl) ?_
        refine ax_iload_n (i := 3) dX11_act_102 rfl rfl ?_
        refine ax_cUq dX11_act_103 lu_X11_272_X9 (c0_2 hZ ha9 (Nat.zero_le _) x) rfl (OKs hZ rfl) ⟨_, rfl, rfl⟩ rfl (Nat.le_of_ble_eq_true rfl) (Nat.le_of_ble_eq_true rfl) (Nat.le_of_ble_eq_true rfl) (Nat.le_of_ble_eq_true rfl) ?_
        rintro _ G1 _ ⟨rfl, rfl, ar1, fr1⟩
        refine ax_goto (tgt := 119) dX11_act_106 (by decide) ?_
        refine ax_iret dX11_act_119 rfl rfl (Nat.le_of_ble_eq_true rfl) (Nat.le_of_ble_eq_true rfl) ?_
        have e9 := ar1
        have q9 : acR W f p b x = (cliV 2 (nI p) (W.C p 1) x, cliR 2 (0, f)) := by unfold acR; rw [hkk, nI_clamp (show 2 < 2 ^ 31 by decide)]; rw [if_neg c_77, if_pos c_93]
        rw [q9]
        exact ⟨rfl, rfl, rfl, e9.1, e9.2.1, fun a h4 h5 => ((fr1 a h4 h5).trans (by rw [up2_row h4, up2_row h4, up2_row h4]))⟩
    · refine ax_aload dX11_act_80 rfl ?_
      refine ax_aload_n (i := 0) dX11_act_82 rfl rfl ?_
      refine ax_getR dX11_act_83 fl_X11_34 rfl (OKs hZ rfl) (OKr hZ rfl) ?_
      refine ax_iload_n (i := 3) dX11_act_86 rfl rfl ?_
      refine ax_cUq dX11_act_87 lu_X11_266_X9 (h_2 hZ ha9 (Nat.zero_le _) x) rfl (OKs hZ rfl) ⟨_, rfl, rfl⟩ rfl (Nat.le_of_ble_eq_true rfl) (Nat.le_of_ble_eq_true rfl) (Nat.le_of_ble_eq_true rfl) (Nat.le_of_ble_eq_true rfl) ?_
      rintro _ G1 _ ⟨rfl, rfl, ar1, fr1⟩
      refine ax_iret dX11_act_90 rfl rfl (Nat.le_of_ble_eq_true rfl) (Nat.le_of_ble_eq_true rfl) ?_
      have e9 := ar1
      have q9 : acR W f p b x = (hisV 2 (nI p) (W.C p 1) x, hisR 2 (0, f)) := by unfold acR; rw [hkk, nI_clamp (show 2 < 2 ^ 31 by decide)]; rw [if_pos c_77]
      rw [q9]
      exact ⟨rfl, rfl, rfl, e9.1, e9.2.1, fun a h4 h5 => ((fr1 a h4 h5).trans (by rw [up2_row h4, up2_row h4, up2_row h4]))⟩
  · refine ax_aload_n (i := 0) dX11_act_55 rfl rfl ?_
    refine ax_getR dX11_act_56 fl_X11_14 rfl (OKs hZ rfl) (OKr hZ rfl) ?_
    refine ax_getR dX11_act_59 fl_X11_262 rfl (OKs hZ rfl) (OKr hZ rfl) ?_
    refine ax_aload_n (i := 0) dX11_act_62 rfl rfl ?_
    refine ax_getR dX11_act_63 fl_X11_14 rfl (OKs hZ rfl) (OKr hZ rfl) ?_
    refine ax_getR dX11_act_66 fl_X11_87 rfl (OKs hZ rfl) (OKr hZ rfl) ?_
    refine ax_iload_n (i := 1) dX11_act_69 rfl rfl ?_
    refine ax_aaldN p (t0 := 5) dX11_act_70 (OKs hZ rfl) rfl (fun _ => rfl) rfl hp6 (by decide) (Wrf (isW24 hZ) hp6) ?_
    refine ax_iconst (v := 0) dX11_act_71 (by decide) ?_
    refine ax_ialdN 0 dX11_act_72 (Wrow (isW24 hZ) hp6) rfl (by decide) (by decide) ?_
    refine ax_top (congrArg Value.int (show up2 (up2 (up2 G 4 1 0) 4 2 (nI p)) 4 3 (W.C p 1) (24 + 2 + p) 0 = nI 3 by rw [up2_k (by omega), up2_k (by omega), up2_k (by omega), hv.2.2.1 p hp 0 (by decide), hkk])) ?_
    refine ax_aaldN 3 (t0 := 4) dX11_act_73 (OKs hZ rfl) rfl (fun _ => rfl) rfl (by decide) (by decide) (OKr hZ rfl) ?_
    refine ax_astore dX11_act_74 (by decide) rfl ?_
    refine ax_iload_n (i := 2) dX11_act_76 rfl rfl ?_
    refine ax_if_ne (tgt := 91) dX11_act_77 (by decide) (fun c_77 => ?_) (fun c_77 => ?_)
    · refine ax_iload_n (i := 2) dX11_act_91 rfl rfl ?_
      refine ax_iconst (v := 1) dX11_act_92 (by decide) ?_
      refine ax_icmp_ne (tgt := 109) dX11_act_93 (by decide) (fun c_93 => ?_) (fun c_93 => ?_)
      · refine ax_aload dX11_act_109 rfl ?_
        refine ax_aload_n (i := 0) dX11_act_111 rfl rfl ?_
        refine ax_getR dX11_act_112 fl_X11_34 rfl (OKs hZ rfl) (OKr hZ rfl) ?_
        refine ax_iload_n (i := 3) dX11_act_115 rfl rfl ?_
        refine ax_cUq dX11_act_116 lu_X11_275_X3 (t_3 hZ ha9 (Nat.zero_le _) x) rfl (OKs hZ rfl) ⟨_, rfl, rfl⟩ rfl (Nat.le_of_ble_eq_true rfl) (Nat.le_of_ble_eq_true rfl) (Nat.le_of_ble_eq_true rfl) (Nat.le_of_ble_eq_true rfl) ?_
        rintro _ G1 _ ⟨rfl, rfl, ar1, fr1⟩
        refine ax_iret dX11_act_119 rfl rfl (Nat.le_of_ble_eq_true rfl) (Nat.le_of_ble_eq_true rfl) ?_
        have e9 := ar1
        have q9 : acR W f p b x = (telV 3 (nI p) (W.C p 1) x, telR 3 (0, f)) := by unfold acR; rw [hkk, nI_clamp (show 3 < 2 ^ 31 by decide)]; rw [if_neg c_77, if_neg c_93]
        rw [q9]
        exact ⟨rfl, rfl, rfl, e9.1, e9.2.1, fun a h4 h5 => ((fr1 a h4 h5).trans (by rw [up2_row h4, up2_row h4, up2_row h4]))⟩
      · refine ax_aload dX11_act_96 rfl ?_
        refine ax_aload_n (i := 0) dX11_act_98 rfl rfl ?_
        refine ax_getR dX11_act_99 fl_X11_34 rfl (OKs hZ rfl) (OKr hZ rfl) ?_
        refine ax_iload_n (i := 3) dX11_act_102 rfl rfl ?_
        refine ax_cUq dX11_act_103 lu_X11_272_X3 (c0_3 hZ ha9 (Nat.zero_le _) x) rfl (OKs hZ rfl) ⟨_, rfl, rfl⟩ rfl (Nat.le_of_ble_eq_true rfl) (Nat.le_of_ble_eq_true rfl) (Nat.le_of_ble_eq_true rfl) (Nat.le_of_ble_eq_true rfl) ?_
        rintro _ G1 _ ⟨rfl, rfl, ar1, fr1⟩
        refine ax_goto (tgt := 119) dX11_act_106 (by decide) ?_
        refine ax_iret dX11_act_119 rfl rfl (Nat.le_of_ble_eq_true rfl) (Nat.le_of_ble_eq_true rfl) ?_
        have e9 := ar1
        have q9 : acR W f p b x = (cliV 3 (nI p) (W.C p 1) x, cliR 3 (0, f)) := by unfold acR; rw [hkk, nI_clamp (show 3 < 2 ^ 31 by decide)]; rw [if_neg c_77, if_pos c_93]
        rw [q9]
        exact ⟨rfl, rfl, rfl, e9.1, e9.2.1, fun a h4 h5 => ((fr1 a h4 h5).trans (by rw [up2_row h4, up2_row h4, up2_row h4]))⟩
    · refine ax_aload dX11_act_80 rfl ?_
      refine ax_aload_n (i := 0) dX11_act_82 rfl rfl ?_
      refine ax_getR dX11_act_83 fl_X11_34 rfl (OKs hZ rfl) (OKr hZ rfl) ?_
      refine ax_iload_n (i := 3) dX11_act_86 rfl rfl ?_
      refine ax_cUq dX11_act_87 lu_X11_266_X3 (h0_3 hZ ha9 (Nat.zero_le _) x) rfl (OKs hZ rfl) ⟨_, rfl, rfl⟩ rfl (Nat.le_of_ble_eq_true rfl) (Nat.le_of_ble_eq_true rfl) (Nat.le_of_ble_eq_true rfl) (Nat.le_of_ble_eq_true rfl) ?_
      rintro _ G1 _ ⟨rfl, rfl, ar1, fr1⟩
      refine ax_iret dX11_act_90 rfl rfl (Nat.le_of_ble_eq_true rfl) (Nat.le_of_ble_eq_true rfl) ?_
      have e9 := ar1
      have q9 : acR W f p b x = (hisV 3 (nI p) (W.C p 1) x, hisR 3 (0, f)) := by unfold acR; rw [hkk, nI_clamp (show 3 < 2 ^ 31 by decide)]; rw [if_pos c_77]
      rw [q9]
      exact ⟨rfl, rfl, rfl, e9.1, e9.2.1, fun a h4 h5 => ((fr1 a h4 h5).trans (by rw [up2_row h4, up2_row h4, up2_row h4]))⟩
  · refine ax_aload_n (i := 0) dX11_act_55 rfl rfl ?_
    refine ax_getR dX11_act_56 fl_X11_14 rfl (OKs hZ rfl) (OKr hZ rfl) ?_
    refine ax_getR dX11_act_59 fl_X11_262 rfl (OKs hZ rfl) (OKr hZ rfl) ?_
    refine ax_aload_n (i := 0) dX11_act_62 rfl rfl ?_
    refine ax_getR dX11_act_63 fl_X11_14 rfl (OKs hZ rfl) (OKr hZ rfl) ?_
    refine ax_getR dX11_act_66 fl_X11_87 rfl (OKs hZ rfl) (OKr hZ rfl) ?_
    refine ax_iload_n (i := 1) dX11_act_69 rfl rfl ?_
    refine ax_aaldN p (t0 := 5) dX11_act_70 (OKs hZ rfl) rfl (fun _ => rfl) rfl hp6 (by decide) (Wrf (isW24 hZ) hp6) ?_
    refine ax_iconst (v := 0) dX11_act_71 (by decide) ?_
    refine ax_ialdN 0 dX11_act_72 (Wrow (isW24 hZ) hp6) rfl (by decide) (by decide) ?_
    refine ax_top (congrArg Value.int (show up2 (up2 (up2 G 4 1 0) 4 2 (nI p)) 4 3 (W.C p 1) (24 + 2 + p) 0 = nI 4 by rw [up2_k (by omega), up2_k (by omega), up2_k (by omega), hv.2.2.1 p hp 0 (by decide), hkk])) ?_
    refine ax_aaldN 4 (t0 := 4) dX11_act_73 (OKs hZ rfl) rfl (fun _ => rfl) rfl (by decide) (by decide) (OKr hZ rfl) ?_
    refine ax_astore dX11_act_74 (by decide) rfl ?_
    refine ax_iload_n (i := 2) dX11_act_76 rfl rfl ?_
    refine ax_if_ne (tgt := 91) dX11_act_77 (by decide) (fun c_77 => ?_) (fun c_77 => ?_)
    · refine ax_iload_n (i := 2) dX11_act_91 rfl rfl ?_
      refine ax_iconst (v := 1) dX11_act_92 (by decide) ?_
      refine ax_icmp_ne (tgt := 109) dX11_act_93 (by decide) (fun c_93 => ?_) (fun c_93 => ?_)
      · refine ax_aload dX11_act_109 rfl ?_
        refine ax_aload_n (i := 0) dX11_act_111 rfl rfl ?_
        refine ax_getR dX11_act_112 fl_X11_34 rfl (OKs hZ rfl) (OKr hZ rfl) ?_
        refine ax_iload_n (i := 3) dX11_act_115 rfl rfl ?_
        refine ax_cUq dX11_act_116 lu_X11_275_X1 (t0_4 hZ ha9 (Nat.zero_le _) x) rfl (OKs hZ rfl) ⟨_, rfl, rfl⟩ rfl (Nat.le_of_ble_eq_true rfl) (Nat.le_of_ble_eq_true rfl) (Nat.le_of_ble_eq_true rfl) (Nat.le_of_ble_eq_true rfl) ?_
        rintro _ G1 _ ⟨rfl, rfl, ar1, fr1⟩
        refine ax_iret dX11_act_119 rfl rfl (Nat.le_of_ble_eq_true rfl) (Nat.le_of_ble_eq_true rfl) ?_
        have e9 := ar1
        have q9 : acR W f p b x = (telV 4 (nI p) (W.C p 1) x, telR 4 (0, f)) := by unfold acR; rw [hkk, nI_clamp (show 4 < 2 ^ 31 by decide)]; rw [if_neg c_77, if_neg c_93]
        rw [q9]
        exact ⟨rfl, rfl, rfl, e9.1, e9.2.1, fun a h4 h5 => ((fr1 a h4 h5).trans (by rw [up2_row h4, up2_row h4, up2_row h4]))⟩
      · refine ax_aload dX11_act_96 rfl ?_
        refine ax_aload_n (i := 0) dX11_act_98 rfl rfl ?_
        refine ax_getR dX11_act_99 fl_X11_34 rfl (OKs hZ rfl) (OKr hZ rfl) ?_
        refine ax_iload_n (i := 3) dX11_act_102 rfl rfl ?_
        refine ax_cUq dX11_act_103 lu_X11_272_X1 (c_4 hZ ha9 (Nat.zero_le _) x) rfl (OKs hZ rfl) ⟨_, rfl, rfl⟩ rfl (Nat.le_of_ble_eq_true rfl) (Nat.le_of_ble_eq_true rfl) (Nat.le_of_ble_eq_true rfl) (Nat.le_of_ble_eq_true rfl) ?_
        rintro _ G1 _ ⟨rfl, rfl, ar1, fr1⟩
        refine ax_goto (tgt := 119) dX11_act_106 (by decide) ?_
        refine ax_iret dX11_act_119 rfl rfl (Nat.le_of_ble_eq_true rfl) (Nat.le_of_ble_eq_true rfl) ?_
        have e9 := ar1
        have q9 : acR W f p b x = (cliV 4 (nI p) (W.C p 1) x, cliR 4 (0, f)) := by unfold acR; rw [hkk, nI_clamp (show 4 < 2 ^ 31 by decide)]; rw [if_neg c_77, if_pos c_93]
        rw [q9]
        exact ⟨rfl, rfl, rfl, e9.1, e9.2.1, fun a h4 h5 => ((fr1 a h4 h5).trans (by rw [up2_row h4, up2_row h4, up2_row h4]))⟩
    · refine ax_aload dX11_act_80 rfl ?_
      refine ax_aload_n (i := 0) dX11_act_82 rfl rfl ?_
      refine ax_getR dX11_act_83 fl_X11_34 rfl (OKs hZ rfl) (OKr hZ rfl) ?_
      refine ax_iload_n (i := 3) dX11_act_86 rfl rfl ?_
      refine ax_cUq dX11_act_87 lu_X11_266_X1 (h_4 hZ ha9 (Nat.zero_le _) x) rfl (OKs hZ rfl) ⟨_, rfl, rfl⟩ rfl (Nat.le_of_ble_eq_true rfl) (Nat.le_of_ble_eq_true rfl) (Nat.le_of_ble_eq_true rfl) (Nat.le_of_ble_eq_true rfl) ?_
      rintro _ G1 _ ⟨rfl, rfl, ar1, fr1⟩
      refine ax_iret dX11_act_90 rfl rfl (Nat.le_of_ble_eq_true rfl) (Nat.le_of_ble_eq_true rfl) ?_
      have e9 := ar1
      have q9 : acR W f p b x = (hisV 4 (nI p) (W.C p 1) x, hisR 4 (0, f)) := by unfold acR; rw [hkk, nI_clamp (show 4 < 2 ^ 31 by decide)]; rw [if_pos c_77]
      rw [q9]
      exact ⟨rfl, rfl, rfl, e9.1, e9.2.1, fun a h4 h5 => ((fr1 a h4 h5).trans (by rw [up2_row h4, up2_row h4, up2_row h4]))⟩
  · refine ax_aload_n (i := 0) dX11_act_55 rfl rfl ?_
    refine ax_getR dX11_act_56 fl_X11_14 rfl (OKs hZ rfl) (OKr hZ rfl) ?_
    refine ax_getR dX11_act_59 fl_X11_262 rfl (OKs hZ rfl) (OKr hZ rfl) ?_
    refine ax_aload_n (i := 0) dX11_act_62 rfl rfl ?_
    refine ax_getR dX11_act_63 fl_X11_14 rfl (OKs hZ rfl) (OKr hZ rfl) ?_
    refine ax_getR dX11_act_66 fl_X11_87 rfl (OKs hZ rfl) (OKr hZ rfl) ?_
    refine ax_iload_n (i := 1) dX11_act_69 rfl rfl ?_
    refine ax_aaldN p (t0 := 5) dX11_act_70 (OKs hZ rfl) rfl (fun _ => rfl) rfl hp6 (by decide) (Wrf (isW24 hZ) hp6) ?_
    refine ax_iconst (v := 0) dX11_act_71 (by decide) ?_
    refine ax_ialdN 0 dX11_act_72 (Wrow (isW24 hZ) hp6) rfl (by decide) (by decide) ?_
    refine ax_top (congrArg Value.int (show up2 (up2 (up2 G 4 1 0) 4 2 (nI p)) 4 3 (W.C p 1) (24 + 2 + p) 0 = nI 5 by rw [up2_k (by omega), up2_k (by omega), up2_k (by omega), hv.2.2.1 p hp 0 (by decide), hkk])) ?_
    refine ax_aaldN 5 (t0 := 4) dX11_act_73 (OKs hZ rfl) rfl (fun _ => rfl) rfl (by decide) (by decide) (OKr hZ rfl) ?_
    refine ax_astore dX11_act_74 (by decide) rfl ?_
    refine ax_iload_n (i := 2) dX11_act_76 rfl rfl ?_
    refine ax_if_ne (tgt := 91) dX11_act_77 (by decide) (fun c_77 => ?_) (fun c_77 => ?_)
    · refine ax_iload_n (i := 2) dX11_act_91 rfl rfl ?_
      refine ax_iconst (v := 1) dX11_act_92 (by decide) ?_
      refine ax_icmp_ne (tgt := 109) dX11_act_93 (by decide) (fun c_93 => ?_) (fun c_93 => ?_)
      · refine ax_aload dX11_act_109 rfl ?_
        refine ax_aload_n (i := 0) dX11_act_111 rfl rfl ?_
        refine ax_getR dX11_act_112 fl_X11_34 rfl (OKs hZ rfl) (OKr hZ rfl) ?_
        refine ax_iload_n (i := 3) dX11_act_115 rfl rfl ?_
        refine ax_cUq dX11_act_116 lu_X11_275_X8 (t_5 hZ ha9 (Nat.zero_le _) x) rfl (OKs hZ rfl) ⟨_, rfl, rfl⟩ rfl (Nat.le_of_ble_eq_true rfl) (Nat.le_of_ble_eq_true rfl) (Nat.le_of_ble_eq_true rfl) (Nat.le_of_ble_eq_true rfl) ?_
        rintro _ G1 _ ⟨rfl, rfl, ar1, fr1⟩
        refine ax_iret dX11_act_119 rfl rfl (Nat.le_of_ble_eq_true rfl) (Nat.le_of_ble_eq_true rfl) ?_
        have e9 := ar1
        have q9 : acR W f p b x = (telV 5 (nI p) (W.C p 1) x, telR 5 (0, f)) := by unfold acR; rw [hkk, nI_clamp (show 5 < 2 ^ 31 by decide)]; rw [if_neg c_77, if_neg c_93]
        rw [q9]
        exact ⟨rfl, rfl, rfl, e9.1, e9.2.1, fun a h4 h5 => ((fr1 a h4 h5).trans (by rw [up2_row h4, up2_row h4, up2_row h4]))⟩
      · refine ax_aload dX11_act_96 rfl ?_
        refine ax_aload_n (i := 0) dX11_act_98 rfl rfl ?_
        refine ax_getR dX11_act_99 fl_X11_34 rfl (OKs hZ rfl) (OKr hZ rfl) ?_
        refine ax_iload_n (i := 3) dX11_act_102 rfl rfl ?_
        refine ax_cUq dX11_act_103 lu_X11_272_X8 (c0_5 hZ ha9 (Nat.zero_le _) x) rfl (OKs hZ rfl) ⟨_, rfl, rfl⟩ rfl (Nat.le_of_ble_eq_true rfl) (Nat.le_of_ble_eq_true rfl) (Nat.le_of_ble_eq_true rfl) (Nat.le_of_ble_eq_true rfl) ?_
        rintro _ G1 _ ⟨rfl, rfl, ar1, fr1⟩
        refine ax_goto (tgt := 119) dX11_act_106 (by decide) ?_
        refine ax_iret dX11_act_119 rfl rfl (Nat.le_of_ble_eq_true rfl) (Nat.le_of_ble_eq_true rfl) ?_
        have e9 := ar1
        have q9 : acR W f p b x = (cliV 5 (nI p) (W.C p 1) x, cliR 5 (0, f)) := by unfold acR; rw [hkk, nI_clamp (show 5 < 2 ^ 31 by decide)]; rw [if_neg c_77, if_pos c_93]
        rw [q9]
        exact ⟨rfl, rfl, rfl, e9.1, e9.2.1, fun a h4 h5 => ((fr1 a h4 h5).trans (by rw [up2_row h4, up2_row h4, up2_row h4]))⟩
    · refine ax_aload dX11_act_80 rfl ?_
      refine ax_aload_n (i := 0) dX11_act_82 rfl rfl ?_
      refine ax_getR dX11_act_83 fl_X11_34 rfl (OKs hZ rfl) (OKr hZ rfl) ?_
      refine ax_iload_n (i := 3) dX11_act_86 rfl rfl ?_
      refine ax_cUq dX11_act_87 lu_X11_266_X8 (h_5 hZ ha9 (Nat.zero_le _) x) rfl (OKs hZ rfl) ⟨_, rfl, rfl⟩ rfl (Nat.le_of_ble_eq_true rfl) (Nat.le_of_ble_eq_true rfl) (Nat.le_of_ble_eq_true rfl) (Nat.le_of_ble_eq_true rfl) ?_
      rintro _ G1 _ ⟨rfl, rfl, ar1, fr1⟩
      refine ax_iret dX11_act_90 rfl rfl (Nat.le_of_ble_eq_true rfl) (Nat.le_of_ble_eq_true rfl) ?_
      have e9 := ar1
      have q9 : acR W f p b x = (hisV 5 (nI p) (W.C p 1) x, hisR 5 (0, f)) := by unfold acR; rw [hkk, nI_clamp (show 5 < 2 ^ 31 by decide)]; rw [if_pos c_77]
      rw [q9]
      exact ⟨rfl, rfl, rfl, e9.1, e9.2.1, fun a h4 h5 => ((fr1 a h4 h5).trans (by rw [up2_row h4, up2_row h4, up2_row h4]))⟩
  · refine ax_aload_n (i := 0) dX11_act_55 rfl rfl ?_
    refine ax_getR dX11_act_56 fl_X11_14 rfl (OKs hZ rfl) (OKr hZ rfl) ?_
    refine ax_getR dX11_act_59 fl_X11_262 rfl (OKs hZ rfl) (OKr hZ rfl) ?_
    refine ax_aload_n (i := 0) dX11_act_62 rfl rfl ?_
    refine ax_getR dX11_act_63 fl_X11_14 rfl (OKs hZ rfl) (OKr hZ rfl) ?_
    refine ax_getR dX11_act_66 fl_X11_87 rfl (OKs hZ rfl) (OKr hZ rfl) ?_
    refine ax_iload_n (i := 1) dX11_act_69 rfl rfl ?_
    refine ax_aaldN p (t0 := 5) dX11_act_70 (OKs hZ rfl) rfl (fun _ => rfl) rfl hp6 (by decide) (Wrf (isW24 hZ) hp6) ?_
    refine ax_iconst (v := 0) dX11_act_71 (by decide) ?_
    refine ax_ialdN 0 dX11_act_72 (Wrow (isW24 hZ) hp6) rfl (by decide) (by decide) ?_
    refine ax_top (congrArg Value.int (show up2 (up2 (up2 G 4 1 0) 4 2 (nI p)) 4 3 (W.C p 1) (24 + 2 + p) 0 = nI 6 by rw [up2_k (by omega), up2_k (by omega), up2_k (by omega), hv.2.2.1 p hp 0 (by decide), hkk])) ?_
    refine ax_aaldN 6 (t0 := 4) dX11_act_73 (OKs hZ rfl) rfl (fun _ => rfl) rfl (by decide) (by decide) (OKr hZ rfl) ?_
    refine ax_astore dX11_act_74 (by decide) rfl ?_
    refine ax_iload_n (i := 2) dX11_act_76 rfl rfl ?_
    refine ax_if_ne (tgt := 91) dX11_act_77 (by decide) (fun c_77 => ?_) (fun c_77 => ?_)
    · refine ax_iload_n (i := 2) dX11_act_91 rfl rfl ?_
      refine ax_iconst (v := 1) dX11_act_92 (by decide) ?_
      refine ax_icmp_ne (tgt := 109) dX11_act_93 (by decide) (fun c_93 => ?_) (fun c_93 => ?_)
      · refine ax_aload dX11_act_109 rfl ?_
        refine ax_aload_n (i := 0) dX11_act_111 rfl rfl ?_
        refine ax_getR dX11_act_112 fl_X11_34 rfl (OKs hZ rfl) (OKr hZ rfl) ?_
        refine ax_iload_n (i := 3) dX11_act_115 rfl rfl ?_
        refine ax_cUq dX11_act_116 lu_X11_275_X7 (t_6 hZ ha9 (Nat.zero_le _) x) rfl (OKs hZ rfl) ⟨_, rfl, rfl⟩ rfl (Nat.le_of_ble_eq_true rfl) (Nat.le_of_ble_eq_true rfl) (Nat.le_of_ble_eq_true rfl) (Nat.le_of_ble_eq_true rfl) ?_
        rintro _ G1 _ ⟨rfl, rfl, ar1, fr1⟩
        refine ax_iret dX11_act_119 rfl rfl (Nat.le_of_ble_eq_true rfl) (Nat.le_of_ble_eq_true rfl) ?_
        have e9 := ar1
        have q9 : acR W f p b x = (telV 6 (nI p) (W.C p 1) x, telR 6 (0, f)) := by unfold acR; rw [hkk, nI_clamp (show 6 < 2 ^ 31 by decide)]; rw [if_neg c_77, if_neg c_93]
        rw [q9]
        exact ⟨rfl, rfl, rfl, e9.1, e9.2.1, fun a h4 h5 => ((fr1 a h4 h5).trans (by rw [up2_row h4, up2_row h4, up2_row h4]))⟩
      · refine ax_aload dX11_act_96 rfl ?_
        refine ax_aload_n (i := 0) dX11_act_98 rfl rfl ?_
        refine ax_getR dX11_act_99 fl_X11_34 rfl (OKs hZ rfl) (OKr hZ rfl) ?_
        refine ax_iload_n (i := 3) dX11_act_102 rfl rfl ?_
        refine ax_cUq dX11_act_103 lu_X11_272_X7 (c_6 hZ ha9 (Nat.zero_le _) x) rfl (OKs hZ rfl) ⟨_, rfl, rfl⟩ rfl (Nat.le_of_ble_eq_true rfl) (Nat.le_of_ble_eq_true rfl) (Nat.le_of_ble_eq_true rfl) (Nat.le_of_ble_eq_true rfl) ?_
        rintro _ G1 _ ⟨rfl, rfl, ar1, fr1⟩
        refine ax_goto (tgt := 119) dX11_act_106 (by decide) ?_
        refine ax_iret dX11_act_119 rfl rfl (Nat.le_of_ble_eq_true rfl) (Nat.le_of_ble_eq_true rfl) ?_
        have e9 := ar1
        have q9 : acR W f p b x = (cliV 6 (nI p) (W.C p 1) x, cliR 6 (0, f)) := by unfold acR; rw [hkk, nI_clamp (show 6 < 2 ^ 31 by decide)]; rw [if_neg c_77, if_pos c_93]
        rw [q9]
        exact ⟨rfl, rfl, rfl, e9.1, e9.2.1, fun a h4 h5 => ((fr1 a h4 h5).trans (by rw [up2_row h4, up2_row h4, up2_row h4]))⟩
    · refine ax_aload dX11_act_80 rfl ?_
      refine ax_aload_n (i := 0) dX11_act_82 rfl rfl ?_
      refine ax_getR dX11_act_83 fl_X11_34 rfl (OKs hZ rfl) (OKr hZ rfl) ?_
      refine ax_iload_n (i := 3) dX11_act_86 rfl rfl ?_
      refine ax_cUq dX11_act_87 lu_X11_266_X7 (h_6 hZ ha9 (Nat.zero_le _) x) rfl (OKs hZ rfl) ⟨_, rfl, rfl⟩ rfl (Nat.le_of_ble_eq_true rfl) (Nat.le_of_ble_eq_true rfl) (Nat.le_of_ble_eq_true rfl) (Nat.le_of_ble_eq_true rfl) ?_
      rintro _ G1 _ ⟨rfl, rfl, ar1, fr1⟩
      refine ax_iret dX11_act_90 rfl rfl (Nat.le_of_ble_eq_true rfl) (Nat.le_of_ble_eq_true rfl) ?_
      have e9 := ar1
      have q9 : acR W f p b x = (hisV 6 (nI p) (W.C p 1) x, hisR 6 (0, f)) := by unfold acR; rw [hkk, nI_clamp (show 6 < 2 ^ 31 by decide)]; rw [if_pos c_77]
      rw [q9]
      exact ⟨rfl, rfl, rfl, e9.1, e9.2.1, fun a h4 h5 => ((fr1 a h4 h5).trans (by rw [up2_row h4, up2_row h4, up2_row h4]))⟩
theorem c_act {Z : Zt} {G : Gt} {L : Lt} {W : Wv} (hZ : OK Z) (hv : vC Z G 24 W) (ho : okW W) (f : Nat → Int32) (a b x : Int32) : AC mX11_act 9 0 0 [.ref 0, .int a, .int b, .int x] Z G L (RP (.int (acA W f a b x).1) (QR Z G L (acA W f a b x).2)) := by
  refine AC.intro (by decide +kernel) (Nat.le_of_ble_eq_true rfl) ?_
  refine ax_lv [(0, .ref 0), (1, .int a), (2, .int b), (3, .int x)] ⟨rfl, rfl, rfl, rfl, trivial⟩ ?_
  have hv1 : vC Z (up2 G 4 1 0) 24 W := vC_keep hv ho.1 (fun a x y => up2_row (by omega)) rfl (fun _ _ h => h) (fun _ _ _ _ h => h) (fun a _ ha _ => up2_row (by omega))
  refine ax_aload_n (i := 0) dX11_act_0 rfl rfl ?_
  refine ax_getR dX11_act_1 fl_X11_34 rfl (OKs hZ rfl) (OKr hZ rfl) ?_
  refine ax_iconst (v := 0) dX11_act_4 (by decide) ?_
  refine ax_putI dX11_act_5 fl_X11_253 (Or.inl fp_X11_0_1) rfl rfl rfl (OKs hZ rfl) ?_
  refine ax_aload_n (i := 0) dX11_act_8 rfl rfl ?_
  refine ax_getR dX11_act_9 fl_X11_14 rfl (OKs hZ rfl) (OKr hZ rfl) ?_
  refine ax_iload_n (i := 1) dX11_act_12 rfl rfl ?_
  refine ax_cVv dX11_act_13 lk_X11_65 (k_has (isW24 hZ) hv1 a) rfl (OKs hZ rfl) ⟨_, rfl, rfl⟩ rfl (Nat.le_of_ble_eq_true rfl) (Nat.le_of_ble_eq_true rfl) (Nat.le_of_ble_eq_true rfl) (Nat.le_of_ble_eq_true rfl) ?_
  refine ax_if_eq (tgt := 27) dX11_act_16 (by decide) (fun c_16 => ?_) (fun c_16 => ?_)
  · refine ax_iconst (v := 0) dX11_act_27 (by decide) ?_
    refine ax_iret dX11_act_28 rfl rfl (Nat.le_of_ble_eq_true rfl) (Nat.le_of_ble_eq_true rfl) ?_
    have e9 : acA W f a b x = (0, (0, f)) := by unfold acA; rw [if_pos c_16]
    rw [e9]
    exact ⟨rfl, rfl, rfl, up2_s, fun i _ h => absurd h (Nat.not_lt_zero i), fun a h4 _ => up2_row h4⟩
  · obtain ⟨p, hp, rfl⟩ := has_p ho.1 c_16
    have hp6 : p < 6 := by have := ho.1; omega
    refine ax_iload_n (i := 2) dX11_act_19 rfl rfl ?_
    refine ax_iconst (v := 2) dX11_act_20 (by decide) ?_
    refine ax_cSv dX11_act_21 lk_X11_53 (c_X11_within b 2) rfl rfl (Nat.le_of_ble_eq_true rfl) (Nat.le_of_ble_eq_true rfl) (Nat.le_of_ble_eq_true rfl) (Nat.le_of_ble_eq_true rfl) ?_
    refine ax_if_ne (tgt := 29) dX11_act_24 (by decide) (fun c_24 => ?_) (fun c_24 => ?_)
    · refine ax_aload_n (i := 0) dX11_act_29 rfl rfl ?_
      refine ax_getR dX11_act_30 fl_X11_34 rfl (OKs hZ rfl) (OKr hZ rfl) ?_
      refine ax_iload_n (i := 1) dX11_act_33 rfl rfl ?_
      refine ax_putI dX11_act_34 fl_X11_256 (Or.inl fp_X11_0_2) rfl rfl rfl (OKs hZ rfl) ?_
      refine ax_aload_n (i := 0) dX11_act_37 rfl rfl ?_
      refine ax_getR dX11_act_38 fl_X11_34 rfl (OKs hZ rfl) (OKr hZ rfl) ?_
      refine ax_aload_n (i := 0) dX11_act_41 rfl rfl ?_
      refine ax_getR dX11_act_42 fl_X11_14 rfl (OKs hZ rfl) (OKr hZ rfl) ?_
      refine ax_getR dX11_act_45 fl_X11_87 rfl (OKs hZ rfl) (OKr hZ rfl) ?_
      refine ax_iload_n (i := 1) dX11_act_48 rfl rfl ?_
      refine ax_aaldN p (t0 := 5) dX11_act_49 (OKs hZ rfl) rfl (fun _ => rfl) rfl hp6 (by decide) (Wrf (isW24 hZ) hp6) ?_
      refine ax_iconst (v := 1) dX11_act_50 (by decide) ?_
      refine ax_ialdN 1 dX11_act_51 (Wrow (isW24 hZ) hp6) rfl (by decide) (by decide) ?_
      refine ax_top (congrArg Value.int (show up2 (up2 G 4 1 0) 4 2 (nI p) (24 + 2 + p) 1 = W.C p 1 by rw [up2_k (by omega), up2_k (by omega), hv.2.2.1 p hp 1 (by decide)])) ?_
      refine ax_putI dX11_act_52 fl_X11_259 (Or.inl fp_X11_0_3) rfl rfl rfl (OKs hZ rfl) ?_
      have e9 : acA W f (nI p) b x = acR W f p b x := by unfold acA; rw [if_neg c_16, if_neg c_24, nI_clamp (by omega)]
      rw [e9]
      refine ax_lv [(0, .ref 0), (1, .int (nI p)), (2, .int b), (3, .int x)] ⟨rfl, rfl, rfl, rfl, trivial⟩ ?_
      exact t_act hZ hv ho f p hp b x
    · refine ax_iconst (v := 0) dX11_act_27 (by decide) ?_
      refine ax_iret dX11_act_28 rfl rfl (Nat.le_of_ble_eq_true rfl) (Nat.le_of_ble_eq_true rfl) ?_
      have e9 : acA W f (nI p) b x = (0, (0, f)) := by unfold acA; rw [if_neg c_16, if_pos c_24]
      rw [e9]
      exact ⟨rfl, rfl, rfl, up2_s, fun i _ h => absurd h (Nat.not_lt_zero i), fun a h4 _ => up2_row h4⟩
theorem x_act {Z : Zt} {G : Gt} {L : Lt} {W : Wv} {H : Hv} {I : Option (Wv × Hv)} {T : Nat × (Nat → Nat)} {R : Nat × (Nat → Int32)} {P : Pt9} {n9 : Nat} (h : IC Z G L W H I T R P n9) (a b x : Int32) : AC mX11_act 9 0 0 [.ref 0, .int a, .int b, .int x] Z G L (RP (.int (acA W R.2 a b x).1) (IQ G L W H I T (acA W R.2 a b x).2 P n9)) := by
  obtain ⟨hZ, ⟨hv, ho, h9⟩, -, -, hT, hR, hP, -⟩ := id h
  refine AC.weaken (c_act hZ hv ho R.2 a b x) ?_
  rintro r Z' G' L' ⟨rfl, rfl, rfl, q1, q2, q3⟩
  exact ⟨rfl, IC_other h (fun a ha => q3 a (by omega) (by omega)) (q3 0 (by decide) (by decide)) (icT_keep hT (by rw [q3 1 (by decide) (by decide)]) (q3 2 (by decide) (by decide))) ⟨by have := acA_b W R.2 a b x; omega, q1, q2⟩ (icP_keep hP (q3 7 (by decide) (by decide)) (q3 8 (by decide) (by decide)) (fun _ _ => rfl)) (fun _ _ => rfl)⟩
