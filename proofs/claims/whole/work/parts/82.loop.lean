-- ===== the law: its loop, its whole =====
theorem lt6 {len i : Nat} (hl : len ≤ 3072) (hi : i ≤ 4000) : nI len - 6 < nI i ↔ len < i + 6 := by
  rcases Nat.lt_or_ge len 6 with q | q
  · refine ⟨fun _ => by omega, fun _ => ?_⟩
    have h0 : nI len - 6 < 0 := by
      rcases (show len = 0 ∨ len = 1 ∨ len = 2 ∨ len = 3 ∨ len = 4 ∨ len = 5 by omega) with rfl | rfl | rfl | rfl | rfl | rfl <;> decide
    exact Int32.lt_of_lt_of_le h0 (nI_le (a := 0) (Nat.zero_le i) (by omega))
  · have e : nI len - 6 = nI (len - 6) := pk_sub (b := 6) q
    rw [e, nI_ltI (by omega) (by omega)]
    omega
theorem l_law {nm : String} {len : Nat} {xs : Nat → Int32} (hlen : len ≤ 3072) : ∀ (r i k : Nat) (Z : Zt) (G : Gt) (L : Lt) (W : Wv) (H : Hv) (I : Option (Wv × Hv)) (T : Nat × (Nat → Nat)) (R : Nat × (Nat → Int32)) (P : Pt9) (n : Nat), len < i + 6 * r → i ≤ 4000 → k + r ≤ 600 → IC Z G L W H I T R P n → IM G L W H I T R P n → AX (some (len, xs)) (mL nm) 30 600000 7302250 (124 + 2 * k) (3346 + 302 * k) 18 [(0, .ref 3000), (1, .ref 0), (2, .ref 75), (3, .int (nI i))] [] Z G L LQ := by
  intro r
  induction r with
  | zero =>
    intro i k Z G L W H I T R P n h1 h2 h3 hI hM
    refine ax_iload_n (i := 3) dL_law_18 rfl rfl ?_
    refine ax_aload_n (i := 0) dL_law_19 rfl rfl ?_
    refine ax_slen rfl dL_law_20 ?_
    refine ax_bipush (v := 6) dL_law_21 (by decide) ?_
    refine ax_isub dL_law_23 ?_
    refine ax_icmp_gt (tgt := 1238) dL_law_24 (by decide) (fun _ => ?_) (fun c => absurd ((lt6 hlen h2).mpr (by omega)) c)
    refine ax_iconst (v := 1) dL_law_1238 (by decide) ?_
    exact ax_iret dL_law_1239 rfl rfl (by omega) (by omega) rfl
  | succ r ih =>
    intro i k Z G L W H I T R P n h1 h2 h3 hI hM
    refine ax_iload_n (i := 3) dL_law_18 rfl rfl ?_
    refine ax_aload_n (i := 0) dL_law_19 rfl rfl ?_
    refine ax_slen rfl dL_law_20 ?_
    refine ax_bipush (v := 6) dL_law_21 (by decide) ?_
    refine ax_isub dL_law_23 ?_
    refine ax_icmp_gt (tgt := 1238) dL_law_24 (by decide) (fun _ => ?_) (fun c => ?_)
    · refine ax_iconst (v := 1) dL_law_1238 (by decide) ?_
      exact ax_iret dL_law_1239 rfl rfl (by omega) (by omega) rfl
    have hi6 : ¬ len < i + 6 := fun z => c ((lt6 hlen h2).mpr z)
    have hin0 : vp_in (nI i) len := vp_in_nI (by omega) (by omega)
    have hin1 : vp_in (nI i + 1) len := by rw [show nI i + 1 = nI (i + 1) from nI_add i 1]; exact vp_in_nI (by omega) (by omega)
    have hin2 : vp_in (nI i + 2) len := by rw [show nI i + 2 = nI (i + 2) from nI_add i 2]; exact vp_in_nI (by omega) (by omega)
    have hin3 : vp_in (nI i + 3) len := by rw [show nI i + 3 = nI (i + 3) from nI_add i 3]; exact vp_in_nI (by omega) (by omega)
    have hin4 : vp_in (nI i + 4) len := by rw [show nI i + 4 = nI (i + 4) from nI_add i 4]; exact vp_in_nI (by omega) (by omega)
    have hin5 : vp_in (nI i + 5) len := by rw [show nI i + 5 = nI (i + 5) from nI_add i 5]; exact vp_in_nI (by omega) (by omega)
    have key : ∀ (Z : Zt) (G : Gt) (L : Lt) (W : Wv) (H : Hv) (I : Option (Wv × Hv)) (T : Nat × (Nat → Nat)) (R : Nat × (Nat → Int32)) (P : Pt9) (n : Nat), IC Z G L W H I T R P n → IM G L W H I T R P n → AX (some (len, xs)) (mL nm) 30 600000 7302250 (124 + 2 * k + 2) (3346 + 302 * k + 302) 1232 [(0, .ref 3000), (1, .ref 0), (2, .ref 75), (3, .int (nI i))] [] Z G L LQ := fun Z G L W H I T R P n hI hM => by
      refine ax_iinc (v := nI i + 6) dL_law_1232 rfl rfl (show 3 < 4 by decide) rfl ?_
      refine ax_goto (tgt := 18) dL_law_1235 (by decide) ?_
      refine ax_lv [(0, .ref 3000), (1, .ref 0), (2, .ref 75), (3, .int (nI (i + 6)))] ⟨rfl, rfl, rfl, sI (nI_add i 6), trivial⟩ ?_
      have h9 := ih (i + 6) (k + 1) Z G L W H I T R P n (by omega) (by omega) (by omega) hI hM
      rw [show 124 + 2 * (k + 1) = 124 + 2 * k + 2 from by omega, show 3346 + 302 * (k + 1) = 3346 + 302 * k + 302 from by omega] at h9
      exact h9
    refine ax_aload_n (i := 0) dL_law_27 rfl rfl ?_
    refine ax_iload_n (i := 3) dL_law_28 rfl rfl ?_
    refine ax_sld rfl dL_law_29 hin0 ?_
    refine ax_bipush (v := 63) dL_law_30 (by decide) ?_
    refine ax_iand dL_law_32 ?_
    refine (Decidable.em (xs (nI i).toNatClampNeg &&& 63 = 0)).elim (fun e => ?_) (fun e0 => ?_)
    · refine ax_tin (off := 147) (tgt := 180) dL_law_33 (by rw [e]; decide) (by rw [e]; decide) (by rw [e]; decide) (by decide) ?_
      exact law_0 hI hM hin1 hin2 hin3 hin4 hin5 (by omega) (by omega) key
    refine (Decidable.em (xs (nI i).toNatClampNeg &&& 63 = 1)).elim (fun e => ?_) (fun e1 => ?_)
    · refine ax_tin (off := 200) (tgt := 233) dL_law_33 (by rw [e]; decide) (by rw [e]; decide) (by rw [e]; decide) (by decide) ?_
      exact law_1 hI hM hin1 hin2 hin3 hin4 hin5 (by omega) (by omega) key
    refine (Decidable.em (xs (nI i).toNatClampNeg &&& 63 = 2)).elim (fun e => ?_) (fun e2 => ?_)
    · refine ax_tin (off := 233) (tgt := 266) dL_law_33 (by rw [e]; decide) (by rw [e]; decide) (by rw [e]; decide) (by decide) ?_
      exact law_2 hI hM hin1 hin2 hin3 hin4 hin5 (by omega) (by omega) key
    refine (Decidable.em (xs (nI i).toNatClampNeg &&& 63 = 3)).elim (fun e => ?_) (fun e3 => ?_)
    · refine ax_tin (off := 276) (tgt := 309) dL_law_33 (by rw [e]; decide) (by rw [e]; decide) (by rw [e]; decide) (by decide) ?_
      exact law_3 hI hM hin1 hin2 hin3 hin4 hin5 (by omega) (by omega) key
    refine (Decidable.em (xs (nI i).toNatClampNeg &&& 63 = 4)).elim (fun e => ?_) (fun e4 => ?_)
    · refine ax_tin (off := 299) (tgt := 332) dL_law_33 (by rw [e]; decide) (by rw [e]; decide) (by rw [e]; decide) (by decide) ?_
      exact law_4 hI hM hin1 hin2 hin3 hin4 hin5 (by omega) (by omega) key
    refine (Decidable.em (xs (nI i).toNatClampNeg &&& 63 = 5)).elim (fun e => ?_) (fun e5 => ?_)
    · refine ax_tin (off := 332) (tgt := 365) dL_law_33 (by rw [e]; decide) (by rw [e]; decide) (by rw [e]; decide) (by decide) ?_
      exact law_5 hI hM hin1 hin2 hin3 hin4 hin5 (by omega) (by omega) key
    refine (Decidable.em (xs (nI i).toNatClampNeg &&& 63 = 6)).elim (fun e => ?_) (fun e6 => ?_)
    · refine ax_tin (off := 365) (tgt := 398) dL_law_33 (by rw [e]; decide) (by rw [e]; decide) (by rw [e]; decide) (by decide) ?_
      exact law_6 hI hM hin1 hin2 hin3 hin4 hin5 (by omega) (by omega) key
    refine (Decidable.em (xs (nI i).toNatClampNeg &&& 63 = 7)).elim (fun e => ?_) (fun e7 => ?_)
    · refine ax_tin (off := 408) (tgt := 441) dL_law_33 (by rw [e]; decide) (by rw [e]; decide) (by rw [e]; decide) (by decide) ?_
      exact law_7 hI hM hin1 hin2 hin3 hin4 hin5 (by omega) (by omega) key
    refine (Decidable.em (xs (nI i).toNatClampNeg &&& 63 = 8)).elim (fun e => ?_) (fun e8 => ?_)
    · refine ax_tin (off := 431) (tgt := 464) dL_law_33 (by rw [e]; decide) (by rw [e]; decide) (by rw [e]; decide) (by decide) ?_
      exact law_8 hI hM hin1 hin2 hin3 hin4 hin5 (by omega) (by omega) key
    refine (Decidable.em (xs (nI i).toNatClampNeg &&& 63 = 9)).elim (fun e => ?_) (fun e9 => ?_)
    · refine ax_tin (off := 444) (tgt := 477) dL_law_33 (by rw [e]; decide) (by rw [e]; decide) (by rw [e]; decide) (by decide) ?_
      exact law_9 hI hM hin1 hin2 hin3 hin4 hin5 (by omega) (by omega) key
    refine (Decidable.em (xs (nI i).toNatClampNeg &&& 63 = 10)).elim (fun e => ?_) (fun e10 => ?_)
    · refine ax_tin (off := 467) (tgt := 500) dL_law_33 (by rw [e]; decide) (by rw [e]; decide) (by rw [e]; decide) (by decide) ?_
      exact law_10 hI hM hin1 hin2 hin3 hin4 hin5 (by omega) (by omega) key
    refine (Decidable.em (xs (nI i).toNatClampNeg &&& 63 = 11)).elim (fun e => ?_) (fun e11 => ?_)
    · refine ax_tin (off := 490) (tgt := 523) dL_law_33 (by rw [e]; decide) (by rw [e]; decide) (by rw [e]; decide) (by decide) ?_
      exact law_11 hI hM hin1 hin2 hin3 hin4 hin5 (by omega) (by omega) key
    refine (Decidable.em (xs (nI i).toNatClampNeg &&& 63 = 12)).elim (fun e => ?_) (fun e12 => ?_)
    · refine ax_tin (off := 523) (tgt := 556) dL_law_33 (by rw [e]; decide) (by rw [e]; decide) (by rw [e]; decide) (by decide) ?_
      exact law_12 hI hM hin1 hin2 hin3 hin4 hin5 (by omega) (by omega) key
    refine (Decidable.em (xs (nI i).toNatClampNeg &&& 63 = 13)).elim (fun e => ?_) (fun e13 => ?_)
    · refine ax_tin (off := 556) (tgt := 589) dL_law_33 (by rw [e]; decide) (by rw [e]; decide) (by rw [e]; decide) (by decide) ?_
      exact law_13 hI hM hin1 hin2 hin3 hin4 hin5 (by omega) (by omega) key
    refine (Decidable.em (xs (nI i).toNatClampNeg &&& 63 = 14)).elim (fun e => ?_) (fun e14 => ?_)
    · refine ax_tin (off := 599) (tgt := 632) dL_law_33 (by rw [e]; decide) (by rw [e]; decide) (by rw [e]; decide) (by decide) ?_
      exact law_14 hI hM hin1 hin2 hin3 hin4 hin5 (by omega) (by omega) key
    refine (Decidable.em (xs (nI i).toNatClampNeg &&& 63 = 15)).elim (fun e => ?_) (fun e15 => ?_)
    · refine ax_tin (off := 612) (tgt := 645) dL_law_33 (by rw [e]; decide) (by rw [e]; decide) (by rw [e]; decide) (by decide) ?_
      exact law_15 hI hM hin1 hin2 hin3 hin4 hin5 (by omega) (by omega) key
    refine (Decidable.em (xs (nI i).toNatClampNeg &&& 63 = 16)).elim (fun e => ?_) (fun e16 => ?_)
    · refine ax_tin (off := 645) (tgt := 678) dL_law_33 (by rw [e]; decide) (by rw [e]; decide) (by rw [e]; decide) (by decide) ?_
      exact law_16 hI hM hin1 hin2 hin3 hin4 hin5 (by omega) (by omega) key
    refine (Decidable.em (xs (nI i).toNatClampNeg &&& 63 = 17)).elim (fun e => ?_) (fun e17 => ?_)
    · refine ax_tin (off := 679) (tgt := 712) dL_law_33 (by rw [e]; decide) (by rw [e]; decide) (by rw [e]; decide) (by decide) ?_
      exact law_17 hI hM hin1 hin2 hin3 hin4 hin5 (by omega) (by omega) key
    refine (Decidable.em (xs (nI i).toNatClampNeg &&& 63 = 18)).elim (fun e => ?_) (fun e18 => ?_)
    · refine ax_tin (off := 703) (tgt := 736) dL_law_33 (by rw [e]; decide) (by rw [e]; decide) (by rw [e]; decide) (by decide) ?_
      exact law_18 hI hM hin1 hin2 hin3 hin4 hin5 (by omega) (by omega) key
    refine (Decidable.em (xs (nI i).toNatClampNeg &&& 63 = 19)).elim (fun e => ?_) (fun e19 => ?_)
    · refine ax_tin (off := 736) (tgt := 769) dL_law_33 (by rw [e]; decide) (by rw [e]; decide) (by rw [e]; decide) (by decide) ?_
      exact law_19 hI hM hin1 hin2 hin3 hin4 hin5 (by omega) (by omega) key
    refine (Decidable.em (xs (nI i).toNatClampNeg &&& 63 = 20)).elim (fun e => ?_) (fun e20 => ?_)
    · refine ax_tin (off := 759) (tgt := 792) dL_law_33 (by rw [e]; decide) (by rw [e]; decide) (by rw [e]; decide) (by decide) ?_
      exact law_20 hI hM hin1 hin2 hin3 hin4 hin5 (by omega) (by omega) key
    refine (Decidable.em (xs (nI i).toNatClampNeg &&& 63 = 21)).elim (fun e => ?_) (fun e21 => ?_)
    · refine ax_tin (off := 792) (tgt := 825) dL_law_33 (by rw [e]; decide) (by rw [e]; decide) (by rw [e]; decide) (by decide) ?_
      exact law_21 hI hM hin1 hin2 hin3 hin4 hin5 (by omega) (by omega) key
    refine (Decidable.em (xs (nI i).toNatClampNeg &&& 63 = 22)).elim (fun e => ?_) (fun e22 => ?_)
    · refine ax_tin (off := 805) (tgt := 838) dL_law_33 (by rw [e]; decide) (by rw [e]; decide) (by rw [e]; decide) (by decide) ?_
      exact law_22 hI hM hin1 hin2 hin3 hin4 hin5 (by omega) (by omega) key
    refine (Decidable.em (xs (nI i).toNatClampNeg &&& 63 = 23)).elim (fun e => ?_) (fun e23 => ?_)
    · refine ax_tin (off := 838) (tgt := 871) dL_law_33 (by rw [e]; decide) (by rw [e]; decide) (by rw [e]; decide) (by decide) ?_
      exact law_23 hI hM hin1 hin2 hin3 hin4 hin5 (by omega) (by omega) key
    refine (Decidable.em (xs (nI i).toNatClampNeg &&& 63 = 24)).elim (fun e => ?_) (fun e24 => ?_)
    · refine ax_tin (off := 851) (tgt := 884) dL_law_33 (by rw [e]; decide) (by rw [e]; decide) (by rw [e]; decide) (by decide) ?_
      exact law_24 hI hM hin1 hin2 hin3 hin4 hin5 (by omega) (by omega) key
    refine (Decidable.em (xs (nI i).toNatClampNeg &&& 63 = 25)).elim (fun e => ?_) (fun e25 => ?_)
    · refine ax_tin (off := 864) (tgt := 897) dL_law_33 (by rw [e]; decide) (by rw [e]; decide) (by rw [e]; decide) (by decide) ?_
      exact law_25 hI hM hin1 hin2 hin3 hin4 hin5 (by omega) (by omega) key
    refine (Decidable.em (xs (nI i).toNatClampNeg &&& 63 = 26)).elim (fun e => ?_) (fun e26 => ?_)
    · refine ax_tin (off := 907) (tgt := 940) dL_law_33 (by rw [e]; decide) (by rw [e]; decide) (by rw [e]; decide) (by decide) ?_
      exact law_26 hI hM hin1 hin2 hin3 hin4 hin5 (by omega) (by omega) key
    refine (Decidable.em (xs (nI i).toNatClampNeg &&& 63 = 27)).elim (fun e => ?_) (fun e27 => ?_)
    · refine ax_tin (off := 930) (tgt := 963) dL_law_33 (by rw [e]; decide) (by rw [e]; decide) (by rw [e]; decide) (by decide) ?_
      exact law_27 hI hM hin1 hin2 hin3 hin4 hin5 (by omega) (by omega) key
    refine (Decidable.em (xs (nI i).toNatClampNeg &&& 63 = 28)).elim (fun e => ?_) (fun e28 => ?_)
    · refine ax_tin (off := 963) (tgt := 996) dL_law_33 (by rw [e]; decide) (by rw [e]; decide) (by rw [e]; decide) (by decide) ?_
      exact law_28 hI hM hin1 hin2 hin3 hin4 hin5 (by omega) (by omega) key
    refine (Decidable.em (xs (nI i).toNatClampNeg &&& 63 = 29)).elim (fun e => ?_) (fun e29 => ?_)
    · refine ax_tin (off := 986) (tgt := 1019) dL_law_33 (by rw [e]; decide) (by rw [e]; decide) (by rw [e]; decide) (by decide) ?_
      exact law_29 hI hM hin1 hin2 hin3 hin4 hin5 (by omega) (by omega) key
    refine (Decidable.em (xs (nI i).toNatClampNeg &&& 63 = 30)).elim (fun e => ?_) (fun e30 => ?_)
    · refine ax_tin (off := 1029) (tgt := 1062) dL_law_33 (by rw [e]; decide) (by rw [e]; decide) (by rw [e]; decide) (by decide) ?_
      exact law_30 hI hM hin1 hin2 hin3 hin4 hin5 (by omega) (by omega) key
    refine (Decidable.em (xs (nI i).toNatClampNeg &&& 63 = 31)).elim (fun e => ?_) (fun e31 => ?_)
    · refine ax_tin (off := 1102) (tgt := 1135) dL_law_33 (by rw [e]; decide) (by rw [e]; decide) (by rw [e]; decide) (by decide) ?_
      exact law_31 hI hM hin1 hin2 hin3 hin4 hin5 (by omega) (by omega) key
    refine (Decidable.em (xs (nI i).toNatClampNeg &&& 63 = 32)).elim (fun e => ?_) (fun e32 => ?_)
    · refine ax_tin (off := 1136) (tgt := 1169) dL_law_33 (by rw [e]; decide) (by rw [e]; decide) (by rw [e]; decide) (by decide) ?_
      exact law_32 hI hM hin1 hin2 hin3 hin4 hin5 (by omega) (by omega) key
    refine ax_tout (tgt := 1232) dL_law_33 (sw_out 33 (by decide) (by decide) ⟨⟨⟨⟨⟨⟨⟨⟨⟨⟨⟨⟨⟨⟨⟨⟨⟨⟨⟨⟨⟨⟨⟨⟨⟨⟨⟨⟨⟨⟨⟨⟨⟨trivial, e0⟩, e1⟩, e2⟩, e3⟩, e4⟩, e5⟩, e6⟩, e7⟩, e8⟩, e9⟩, e10⟩, e11⟩, e12⟩, e13⟩, e14⟩, e15⟩, e16⟩, e17⟩, e18⟩, e19⟩, e20⟩, e21⟩, e22⟩, e23⟩, e24⟩, e25⟩, e26⟩, e27⟩, e28⟩, e29⟩, e30⟩, e31⟩, e32⟩) (by decide) ?_
    exact ax_up (Nat.le_add_right _ _) (Nat.le_add_right _ _) (key _ _ _ _ _ _ _ _ _ _ hI hM)
theorem ax_law {nm : String} {len : Nat} {xs : Nat → Int32} (hlen : len ≤ 3072) : AX (some (len, xs)) (mL nm) 30 600000 7302250 0 0 0 [(0, .ref 3000)] [] (Zc 0 []) G00 L00 LQ := by
  refine ax_no (n := 0) (n2 := 1) dL_law_0 cn_L_7 (by decide) rfl (by decide) (by decide) (by decide) rfl (by decide +kernel) (fun _ => rfl) (fun _ => rfl) ?_
  refine ax_dup dL_law_3 rfl ?_
  refine ax_callI dL_law_4 li_L_9 i_X11 rfl rfl (Nat.le_of_ble_eq_true rfl) (Nat.le_of_ble_eq_true rfl) (by decide) (by decide) ?_
  refine ax_astore_n (i := 1) dL_law_7 rfl (show 1 < 4 by decide) rfl ?_
  refine ax_no (n := 91) (n2 := 92) dL_law_8 cn_L_10 (by decide) rfl (by decide) (by decide) (by decide) rfl (by decide +kernel) (fun _ => rfl) (fun _ => rfl) ?_
  refine ax_dup dL_law_11 rfl ?_
  refine ax_callI dL_law_12 li_L_12 i_X12 rfl rfl (Nat.le_of_ble_eq_true rfl) (Nat.le_of_ble_eq_true rfl) (by decide) (by decide) ?_
  refine ax_astore_n (i := 2) dL_law_15 rfl (show 2 < 4 by decide) rfl ?_
  refine ax_lv [(0, .ref 3000), (1, .ref 0), (2, .ref 91)] ⟨rfl, rfl, rfl, trivial⟩ ?_
  refine ax_ren (σ := sg) (τ := tu) (a' := 3000) (b' := 0) (c' := 75) sg_ok tu_ok sg_o ⟨sg_o 3000 (by decide), Or.inr (by decide)⟩ ⟨by decide +kernel, Or.inl (by decide)⟩ ⟨by decide +kernel, Or.inl (by decide)⟩ ?_
  refine ax_iconst (v := 0) dL_law_16 (by decide) ?_
  refine ax_istore_n (i := 3) dL_law_17 rfl (show 3 < 4 by decide) rfl ?_
  refine ax_lv [(0, .ref 3000), (1, .ref 0), (2, .ref 75), (3, .int (nI 0))] ⟨rfl, rfl, rfl, rfl, trivial⟩ ?_
  exact ax_up (by decide) (by decide) (l_law hlen 513 0 0 ZB GR L00 W00 H00 none T00 R00 P00 0 (by omega) (by decide) (by decide) IC_0 IM_0)
