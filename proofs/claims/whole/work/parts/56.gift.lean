-- ===== the model: enough, gift =====
/-- the model's way: the least of the fewest -/
def enM (W : Wv) (u : Nat) : Nat → Int32
  | 0 => -5
  | s + 1 => if nI s &&& (inB (fun p => W.C p 5) 0 W.m ^^^ (-1)) = 0 ∧ (enM W u s = -5 ∨ bc (nI s) < bc (enM W u s)) ∧ (litA W (nI s) W.m).gr u = 0 then nI s else enM W u s
theorem bit_or : ∀ p, p < 6 → ∀ u, u < 2 ^ p → nI u ||| ((1 : Int32) <<< (nI p &&& 31)) = nI (u + 2 ^ p) := by decide +kernel
theorem inB_n {f : Nat → Int32} {so : Int32} : ∀ m, m ≤ 6 → ∃ u, u < 2 ^ m ∧ inB f so m = nI u
  | 0, _ => ⟨0, by decide, rfl⟩
  | m + 1, hm => by
    obtain ⟨u, hu, e⟩ := inB_n (f := f) (so := so) m (by omega)
    unfold inB
    have h2 : 2 ^ (m + 1) = 2 ^ m + 2 ^ m := by rw [Nat.pow_succ]; omega
    by_cases c : f m = so
    · rw [if_pos c, e, bit_or m (by omega) u hu]; exact ⟨u + 2 ^ m, by omega, rfl⟩
    · rw [if_neg c]; exact ⟨u, by omega, e⟩
theorem sub_le : ∀ u, u < 64 → ∀ s, s < 64 → nI s &&& (nI u ^^^ (-1)) = 0 → s ≤ u := by decide +kernel
theorem bc_le6 : ∀ s, s < 64 → bc (nI s) < 7 ∧ ¬ nI s = -5 := by decide +kernel
theorem shl_m : ∀ m, m ≤ 6 → (1 : Int32) <<< (nI m &&& 31) = nI (2 ^ m) := by decide +kernel
theorem pow_le6 {m : Nat} (h : m ≤ 6) : 2 ^ m ≤ 64 := by
  have := Nat.pow_le_pow_right (show 0 < 2 by decide) h
  omega
theorem en_rel {W : Wv} {u : Nat} (ho : W.m ≤ 6) : ∀ s, s ≤ 64 → (enV W u s).1 = enM W u s ∧ (enV W u s).2 = (if enM W u s = -5 then 7 else bc (enM W u s)) ∧ (enM W u s = -5 ∨ ∃ t, t < s ∧ enM W u s = nI t)
  | 0, _ => ⟨rfl, rfl, Or.inl rfl⟩
  | s + 1, hs => by
    obtain ⟨i1, i2, i3⟩ := en_rel (W := W) (u := u) ho s (by omega)
    obtain ⟨h7, h5⟩ := bc_le6 s (by omega)
    have hc : ¬ (enV W u s).2 ≤ bc (nI s) ↔ (enM W u s = -5 ∨ bc (nI s) < bc (enM W u s)) := by
      rw [i2]
      by_cases e : enM W u s = -5
      · rw [if_pos e]; exact ⟨fun _ => Or.inl e, fun _ => Int32.not_le.mpr h7⟩
      · rw [if_neg e, Int32.not_le]; exact ⟨fun h => Or.inr h, fun h => h.resolve_left e⟩
    unfold enV enM
    by_cases c : nI s &&& (inB (fun p => W.C p 5) 0 W.m ^^^ (-1)) = 0 ∧ (enM W u s = -5 ∨ bc (nI s) < bc (enM W u s)) ∧ (litA W (nI s) W.m).gr u = 0
    · rw [if_pos c, if_pos ⟨c.1, hc.mpr c.2.1, c.2.2⟩, if_neg h5]
      exact ⟨rfl, rfl, Or.inr ⟨s, by omega, rfl⟩⟩
    · rw [if_neg c, if_neg (fun z => c ⟨z.1, hc.mp z.2.1, z.2.2⟩)]
      exact ⟨i1, i2, i3.imp id (fun ⟨t, ht, e⟩ => ⟨t, by omega, e⟩)⟩
theorem enM_hi {W : Wv} {u : Nat} (ho : W.m ≤ 6) : ∀ d, 2 ^ W.m + d ≤ 64 → enM W u (2 ^ W.m + d) = enM W u (2 ^ W.m)
  | 0, _ => rfl
  | d + 1, h => by
    show enM W u (2 ^ W.m + d + 1) = _
    rw [enM, if_neg (fun z => ?_)]
    · exact enM_hi ho d (by omega)
    · obtain ⟨v, hv, e⟩ := inB_n (f := fun p => W.C p 5) (so := 0) W.m ho
      have hp := pow_le6 ho
      have := sub_le v (by omega) (2 ^ W.m + d) (by omega) (by rw [← e]; exact z.1)
      omega
theorem en_eq {W : Wv} {u : Nat} (ho : W.m ≤ 6) : (enV W u 64).1 = enM W u (2 ^ W.m) := by
  have hp := pow_le6 ho
  rw [(en_rel ho 64 (Nat.le_refl _)).1, ← enM_hi (u := u) ho (64 - 2 ^ W.m) (by omega), show 2 ^ W.m + (64 - 2 ^ W.m) = 64 by omega]
theorem l_enough {Z : Zt} {G0 : Gt} {L : Lt} {Q : Qt} {W : Wv} (hZ : OK Z) (ho : okW W) {H : Hv} (hh : okH W.m H) (u : Nat) (hu : u < 4) (hend : ∀ G : Gt, mA G0 G → vM G W → hM G H → AX none mX12_enough 7 0 0 0 0 93 [(3, .int (enM W u (2 ^ W.m)))] [] Z G L Q) : ∀ (r q : Nat), q ≤ 2 ^ W.m → 2 ^ W.m - q < r → ∀ G : Gt, mA G0 G → vM G W → hM G H → AX none mX12_enough 7 0 0 0 0 12 [(0, .ref 75), (1, .int (nI u)), (2, .int (inB (fun p => W.C p 5) 0 W.m)), (3, .int (enM W u q)), (4, .int (nI q))] [] Z G L Q := by
  have hp9 := pow_le6 ho.1
  intro r
  induction r with
  | zero => intro q h1 h2; omega
  | succ r ih =>
    intro q h1 h2 G hs9 hv9 hH9
    refine ax_iload dX12_enough_12 rfl ?_
    refine ax_iconst (v := 1) dX12_enough_14 (by decide) ?_
    refine ax_aload_n (i := 0) dX12_enough_15 rfl rfl ?_
    refine ax_getI dX12_enough_16 fl_X12_114 rfl (OKs hZ rfl) ?_
    refine ax_top (congrArg Value.int hv9.1) ?_
    refine ax_ishl dX12_enough_19 ?_
    refine ax_top (congrArg Value.int (shl_m W.m ho.1)) ?_
    refine ax_icmp_ge (tgt := 93) dX12_enough_20 (by decide) (fun c_20 => ?_) (fun c_20 => ?_)
    · obtain rfl : q = 2 ^ W.m := by have := (nI_leI (by omega) (by omega)).mp (show nI (2 ^ W.m) ≤ nI q from c_20); omega
      exact ax_lv [(3, .int (enM W u (2 ^ W.m)))] ⟨rfl, trivial⟩ (hend G hs9 hv9 hH9)
    · have hqm : q < (2 ^ W.m) := by have := mt (nI_leI (by omega) (by omega)).mpr (show ¬ nI (2 ^ W.m) ≤ nI q from c_20); omega
      refine ax_iload dX12_enough_23 rfl ?_
      refine ax_iload_n (i := 2) dX12_enough_25 rfl rfl ?_
      refine ax_iconst (v := (-1)) dX12_enough_26 (by decide) ?_
      refine ax_ixor dX12_enough_27 ?_
      refine ax_iand dX12_enough_28 ?_
      refine ax_if_ne (tgt := 87) dX12_enough_29 (by decide) (fun c_29 => ?_) (fun c_29 => ?_)
      · refine ax_iinc (v := (nI q) + 1) dX12_enough_87 rfl rfl (by decide) rfl ?_
        refine ax_goto (tgt := 12) dX12_enough_90 (by decide) ?_
        refine ax_lv [(0, .ref 75), (1, .int (nI u)), (2, .int (inB (fun p => W.C p 5) 0 W.m)), (3, .int (enM W u (q + 1))), (4, .int (nI (q + 1)))] ⟨rfl, rfl, rfl, sI (by rw [enM]; rw [if_neg (fun z => c_29 z.1)]), sI (nI_1 q), trivial⟩ ?_
        exact ih (q + 1) (by omega) (by omega) _ hs9 hv9 hH9
      · refine ax_iload_n (i := 3) dX12_enough_32 rfl rfl ?_
        refine ax_bipush (v := (-5)) dX12_enough_33 (by decide) ?_
        refine ax_icmp_eq (tgt := 53) dX12_enough_35 (by decide) (fun c_35 => ?_) (fun c_35 => ?_)
        · refine ax_aload_n (i := 0) dX12_enough_53 rfl rfl ?_
          refine ax_aload_n (i := 0) dX12_enough_54 rfl rfl ?_
          refine ax_getR dX12_enough_55 fl_X12_91 rfl (OKs hZ rfl) (OKr hZ rfl) ?_
          refine ax_cVq0 dX12_enough_58 lk_X12_271 (k_keep hZ (Or.inr rfl) hv9 ho.1 hH9 hh) rfl (OKs hZ rfl) ⟨_, rfl, rfl⟩ rfl (Nat.le_of_ble_eq_true rfl) (Nat.le_of_ble_eq_true rfl) (Nat.le_of_ble_eq_true rfl) (Nat.le_of_ble_eq_true rfl) ?_
          rintro _ G1 _ ⟨rfl, rfl, f1, i1⟩
          have v1 := vM_keep hv9 (fun a x y => f1 a (by omega)) (fun i _ => by rw [f1 75 (by decide)])
          have a1 := mA_tr hs9 (mA_102 f1)
          refine ax_aload_n (i := 0) dX12_enough_61 rfl rfl ?_
          refine ax_iload dX12_enough_62 rfl ?_
          refine ax_cVq0 dX12_enough_64 lk_X12_288 (k_lightsAll hZ v1 ho (nI q)) rfl (OKs hZ rfl) ⟨_, rfl, rfl⟩ rfl (Nat.le_of_ble_eq_true rfl) (Nat.le_of_ble_eq_true rfl) (Nat.le_of_ble_eq_true rfl) (Nat.le_of_ble_eq_true rfl) ?_
          rintro _ G2 _ ⟨rfl, rfl, m'2, v2⟩
          have m2 := mS_tr (mS_refl (G := G1)) m'2
          refine ax_aload_n (i := 0) dX12_enough_67 rfl rfl ?_
          refine ax_getR dX12_enough_68 fl_X12_9 rfl (OKs hZ rfl) (OKr hZ rfl) ?_
          refine ax_iload_n (i := 1) dX12_enough_71 rfl rfl ?_
          refine ax_ialdN u dX12_enough_72 (OKs hZ rfl) rfl hu (by decide) ?_
          refine ax_top (congrArg Value.int (v2.2.2.2.1 u hu)) ?_
          refine ax_if_ne (tgt := 79) dX12_enough_73 (by decide) (fun c_73 => ?_) (fun c_73 => ?_)
          · refine ax_aload_n (i := 0) dX12_enough_79 rfl rfl ?_
            refine ax_aload_n (i := 0) dX12_enough_80 rfl rfl ?_
            refine ax_getR dX12_enough_81 fl_X12_91 rfl (OKs hZ rfl) (OKr hZ rfl) ?_
            refine ax_cVq0 dX12_enough_84 lk_X12_275 (k_again hZ (Or.inr rfl) ho.1 hh (mS_iM m2 (by decide) i1)) rfl (OKs hZ rfl) ⟨_, rfl, rfl⟩ rfl (Nat.le_of_ble_eq_true rfl) (Nat.le_of_ble_eq_true rfl) (Nat.le_of_ble_eq_true rfl) (Nat.le_of_ble_eq_true rfl) ?_
            rintro _ G3 _ ⟨rfl, rfl, a'3, v3, h3⟩
            have a3 := mA_tr a1 (mA_tr (mS_mA m2) a'3)
            refine ax_iinc (v := (nI q) + 1) dX12_enough_87 rfl rfl (by decide) rfl ?_
            refine ax_goto (tgt := 12) dX12_enough_90 (by decide) ?_
            refine ax_lv [(0, .ref 75), (1, .int (nI u)), (2, .int (inB (fun p => W.C p 5) 0 W.m)), (3, .int (enM W u (q + 1))), (4, .int (nI (q + 1)))] ⟨rfl, rfl, rfl, sI (by rw [enM]; rw [if_neg (fun z => c_73 z.2.2)]), sI (nI_1 q), trivial⟩ ?_
            exact ih (q + 1) (by omega) (by omega) _ a3 v3 h3
          · refine ax_iload dX12_enough_76 rfl ?_
            refine ax_istore_n (i := 3) dX12_enough_78 rfl (by decide) rfl ?_
            refine ax_aload_n (i := 0) dX12_enough_79 rfl rfl ?_
            refine ax_aload_n (i := 0) dX12_enough_80 rfl rfl ?_
            refine ax_getR dX12_enough_81 fl_X12_91 rfl (OKs hZ rfl) (OKr hZ rfl) ?_
            refine ax_cVq0 dX12_enough_84 lk_X12_275 (k_again hZ (Or.inr rfl) ho.1 hh (mS_iM m2 (by decide) i1)) rfl (OKs hZ rfl) ⟨_, rfl, rfl⟩ rfl (Nat.le_of_ble_eq_true rfl) (Nat.le_of_ble_eq_true rfl) (Nat.le_of_ble_eq_true rfl) (Nat.le_of_ble_eq_true rfl) ?_
            rintro _ G3 _ ⟨rfl, rfl, a'3, v3, h3⟩
            have a3 := mA_tr a1 (mA_tr (mS_mA m2) a'3)
            refine ax_iinc (v := (nI q) + 1) dX12_enough_87 rfl rfl (by decide) rfl ?_
            refine ax_goto (tgt := 12) dX12_enough_90 (by decide) ?_
            refine ax_lv [(0, .ref 75), (1, .int (nI u)), (2, .int (inB (fun p => W.C p 5) 0 W.m)), (3, .int (enM W u (q + 1))), (4, .int (nI (q + 1)))] ⟨rfl, rfl, rfl, sI (by rw [enM]; rw [if_pos ⟨c_29, (Or.inl c_35), c_73⟩]), sI (nI_1 q), trivial⟩ ?_
            exact ih (q + 1) (by omega) (by omega) _ a3 v3 h3
        · refine ax_iload dX12_enough_38 rfl ?_
          refine ax_cSv dX12_enough_40 lk_X12_240 (c_bitCount (nI q)) rfl rfl (Nat.le_of_ble_eq_true rfl) (Nat.le_of_ble_eq_true rfl) (Nat.le_of_ble_eq_true rfl) (Nat.le_of_ble_eq_true rfl) ?_
          refine ax_iload_n (i := 3) dX12_enough_43 rfl rfl ?_
          refine ax_cSv dX12_enough_44 lk_X12_240 (c_bitCount (enM W u q)) rfl rfl (Nat.le_of_ble_eq_true rfl) (Nat.le_of_ble_eq_true rfl) (Nat.le_of_ble_eq_true rfl) (Nat.le_of_ble_eq_true rfl) ?_
          refine ax_icmp_lt (tgt := 53) dX12_enough_47 (by decide) (fun c_47 => ?_) (fun c_47 => ?_)
          · refine ax_aload_n (i := 0) dX12_enough_53 rfl rfl ?_
            refine ax_aload_n (i := 0) dX12_enough_54 rfl rfl ?_
            refine ax_getR dX12_enough_55 fl_X12_91 rfl (OKs hZ rfl) (OKr hZ rfl) ?_
            refine ax_cVq0 dX12_enough_58 lk_X12_271 (k_keep hZ (Or.inr rfl) hv9 ho.1 hH9 hh) rfl (OKs hZ rfl) ⟨_, rfl, rfl⟩ rfl (Nat.le_of_ble_eq_true rfl) (Nat.le_of_ble_eq_true rfl) (Nat.le_of_ble_eq_true rfl) (Nat.le_of_ble_eq_true rfl) ?_
            rintro _ G1 _ ⟨rfl, rfl, f1, i1⟩
            have v1 := vM_keep hv9 (fun a x y => f1 a (by omega)) (fun i _ => by rw [f1 75 (by decide)])
            have a1 := mA_tr hs9 (mA_102 f1)
            refine ax_aload_n (i := 0) dX12_enough_61 rfl rfl ?_
            refine ax_iload dX12_enough_62 rfl ?_
            refine ax_cVq0 dX12_enough_64 lk_X12_288 (k_lightsAll hZ v1 ho (nI q)) rfl (OKs hZ rfl) ⟨_, rfl, rfl⟩ rfl (Nat.le_of_ble_eq_true rfl) (Nat.le_of_ble_eq_true rfl) (Nat.le_of_ble_eq_true rfl) (Nat.le_of_ble_eq_true rfl) ?_
            rintro _ G2 _ ⟨rfl, rfl, m'2, v2⟩
            have m2 := mS_tr (mS_refl (G := G1)) m'2
            refine ax_aload_n (i := 0) dX12_enough_67 rfl rfl ?_
            refine ax_getR dX12_enough_68 fl_X12_9 rfl (OKs hZ rfl) (OKr hZ rfl) ?_
            refine ax_iload_n (i := 1) dX12_enough_71 rfl rfl ?_
            refine ax_ialdN u dX12_enough_72 (OKs hZ rfl) rfl hu (by decide) ?_
            refine ax_top (congrArg Value.int (v2.2.2.2.1 u hu)) ?_
            refine ax_if_ne (tgt := 79) dX12_enough_73 (by decide) (fun c_73 => ?_) (fun c_73 => ?_)
            · refine ax_aload_n (i := 0) dX12_enough_79 rfl rfl ?_
              refine ax_aload_n (i := 0) dX12_enough_80 rfl rfl ?_
              refine ax_getR dX12_enough_81 fl_X12_91 rfl (OKs hZ rfl) (OKr hZ rfl) ?_
              refine ax_cVq0 dX12_enough_84 lk_X12_275 (k_again hZ (Or.inr rfl) ho.1 hh (mS_iM m2 (by decide) i1)) rfl (OKs hZ rfl) ⟨_, rfl, rfl⟩ rfl (Nat.le_of_ble_eq_true rfl) (Nat.le_of_ble_eq_true rfl) (Nat.le_of_ble_eq_true rfl) (Nat.le_of_ble_eq_true rfl) ?_
              rintro _ G3 _ ⟨rfl, rfl, a'3, v3, h3⟩
              have a3 := mA_tr a1 (mA_tr (mS_mA m2) a'3)
              refine ax_iinc (v := (nI q) + 1) dX12_enough_87 rfl rfl (by decide) rfl ?_
              refine ax_goto (tgt := 12) dX12_enough_90 (by decide) ?_
              refine ax_lv [(0, .ref 75), (1, .int (nI u)), (2, .int (inB (fun p => W.C p 5) 0 W.m)), (3, .int (enM W u (q + 1))), (4, .int (nI (q + 1)))] ⟨rfl, rfl, rfl, sI (by rw [enM]; rw [if_neg (fun z => c_73 z.2.2)]), sI (nI_1 q), trivial⟩ ?_
              exact ih (q + 1) (by omega) (by omega) _ a3 v3 h3
            · refine ax_iload dX12_enough_76 rfl ?_
              refine ax_istore_n (i := 3) dX12_enough_78 rfl (by decide) rfl ?_
              refine ax_aload_n (i := 0) dX12_enough_79 rfl rfl ?_
              refine ax_aload_n (i := 0) dX12_enough_80 rfl rfl ?_
              refine ax_getR dX12_enough_81 fl_X12_91 rfl (OKs hZ rfl) (OKr hZ rfl) ?_
              refine ax_cVq0 dX12_enough_84 lk_X12_275 (k_again hZ (Or.inr rfl) ho.1 hh (mS_iM m2 (by decide) i1)) rfl (OKs hZ rfl) ⟨_, rfl, rfl⟩ rfl (Nat.le_of_ble_eq_true rfl) (Nat.le_of_ble_eq_true rfl) (Nat.le_of_ble_eq_true rfl) (Nat.le_of_ble_eq_true rfl) ?_
              rintro _ G3 _ ⟨rfl, rfl, a'3, v3, h3⟩
              have a3 := mA_tr a1 (mA_tr (mS_mA m2) a'3)
              refine ax_iinc (v := (nI q) + 1) dX12_enough_87 rfl rfl (by decide) rfl ?_
              refine ax_goto (tgt := 12) dX12_enough_90 (by decide) ?_
              refine ax_lv [(0, .ref 75), (1, .int (nI u)), (2, .int (inB (fun p => W.C p 5) 0 W.m)), (3, .int (enM W u (q + 1))), (4, .int (nI (q + 1)))] ⟨rfl, rfl, rfl, sI (by rw [enM]; rw [if_pos ⟨c_29, (Or.inr c_47), c_73⟩]), sI (nI_1 q), trivial⟩ ?_
              exact ih (q + 1) (by omega) (by omega) _ a3 v3 h3
          · refine ax_goto (tgt := 87) dX12_enough_50 (by decide) ?_
            refine ax_iinc (v := (nI q) + 1) dX12_enough_87 rfl rfl (by decide) rfl ?_
            refine ax_goto (tgt := 12) dX12_enough_90 (by decide) ?_
            refine ax_lv [(0, .ref 75), (1, .int (nI u)), (2, .int (inB (fun p => W.C p 5) 0 W.m)), (3, .int (enM W u (q + 1))), (4, .int (nI (q + 1)))] ⟨rfl, rfl, rfl, sI (by rw [enM]; rw [if_neg (fun z => z.2.1.elim c_35 c_47)]), sI (nI_1 q), trivial⟩ ?_
            exact ih (q + 1) (by omega) (by omega) _ hs9 hv9 hH9
theorem k_enough {Z : Zt} {G : Gt} {L : Lt} {W : Wv} (hZ : OK Z) (hv : vM G W) (ho : okW W) {H : Hv} (hH : hM G H) (hh : okH W.m H) (u : Nat) (hu : u < 4) : AC mX12_enough 7 0 0 [.ref 75, .int (nI u)] Z G L (RP (.int (enV W u 64).1) (MA Z G L W H)) := by
  refine AC.intro (by decide +kernel) (Nat.le_of_ble_eq_true rfl) ?_
  refine ax_lv [(0, .ref 75), (1, .int (nI u))] ⟨rfl, rfl, trivial⟩ ?_
  refine ax_aload_n (i := 0) dX12_enough_0 rfl rfl ?_
  refine ax_iconst (v := 0) dX12_enough_1 (by decide) ?_
  refine ax_cVv dX12_enough_2 lk_X12_237 (c_X12_areSo hZ ho.1 hv.1 0) rfl (OKs hZ rfl) ⟨_, rfl, rfl⟩ rfl (Nat.le_of_ble_eq_true rfl) (Nat.le_of_ble_eq_true rfl) (Nat.le_of_ble_eq_true rfl) (Nat.le_of_ble_eq_true rfl) ?_
  refine ax_top (congrArg Value.int (inB_congr (g := fun p => W.C p 5) W.m (fun a ha => (hv.2.2.1 a ha).1 5 (by decide)))) ?_
  refine ax_istore_n (i := 2) dX12_enough_5 rfl (by decide) rfl ?_
  refine ax_bipush (v := (-5)) dX12_enough_6 (by decide) ?_
  refine ax_istore_n (i := 3) dX12_enough_8 rfl (by decide) rfl ?_
  refine ax_iconst (v := 0) dX12_enough_9 (by decide) ?_
  refine ax_istore dX12_enough_10 (by decide) rfl ?_
  refine ax_lv [(0, .ref 75), (1, .int (nI u)), (2, .int (inB (fun p => W.C p 5) 0 W.m)), (3, .int (enM W u 0)), (4, .int (nI 0))] ⟨rfl, rfl, rfl, rfl, rfl, trivial⟩ ?_
  refine l_enough (G0 := G) hZ ho hh u hu ?_ (2 ^ W.m + 1) 0 (Nat.zero_le _) (by rw [Nat.sub_zero]; exact Nat.lt_succ_self _) G mA_refl hv hH
  intro G9 s9 v9 h9
  refine ax_iload_n (i := 3) dX12_enough_93 rfl rfl ?_
  refine ax_iret dX12_enough_94 rfl rfl (Nat.le_of_ble_eq_true rfl) (Nat.le_of_ble_eq_true rfl) ?_
  exact ⟨congrArg (fun z => some (Value.int z)) (en_eq ho.1).symm, rfl, rfl, s9, v9, h9⟩
/-- how many are even, and the grief of all: small numbers -/
theorem ev_fin : ∀ b0 b1 b2 b3 : Bool, ∃ e, e ≤ 4 ∧ bc (evenB (fun i => if [b0, b1, b2, b3].getD i false = true then 0 else 1) 4) = nI e := by
  intro b0 b1 b2 b3
  cases b0 <;> cases b1 <;> cases b2 <;> cases b3 <;> first | exact ⟨0, by decide, by decide +kernel⟩ | exact ⟨1, by decide, by decide +kernel⟩ | exact ⟨2, by decide, by decide +kernel⟩ | exact ⟨3, by decide, by decide +kernel⟩ | exact ⟨4, by decide, by decide +kernel⟩
theorem evenB_z {f g : Nat → Int32} : ∀ n, (∀ i, i < n → (f i = 0 ↔ g i = 0)) → evenB f n = evenB g n
  | 0, _ => rfl
  | n + 1, h => by
    unfold evenB
    rw [evenB_z n (fun i hi => h i (by omega))]
    by_cases c : f n = 0
    · rw [if_pos c, if_pos ((h n (by omega)).mp c)]
    · rw [if_neg c, if_neg (fun z => c ((h n (by omega)).mpr z))]
theorem ev_n (f : Nat → Int32) : ∃ e, e ≤ 4 ∧ bc (evenB f 4) = nI e := by
  obtain ⟨e, h1, h2⟩ := ev_fin (decide (f 0 = 0)) (decide (f 1 = 0)) (decide (f 2 = 0)) (decide (f 3 = 0))
  refine ⟨e, h1, ?_⟩
  rw [← h2]
  congr 1
  refine evenB_z 4 (fun i hi => ?_)
  rcases (show i = 0 ∨ i = 1 ∨ i = 2 ∨ i = 3 by omega) with rfl | rfl | rfl | rfl <;> simp
theorem sm_n {f : Nat → Int32} (h : ∀ q, q < 4 → ∃ g, g ≤ 999 ∧ f q = nI g) : ∀ n, n ≤ 4 → ∃ s, s ≤ 999 * n ∧ sumB f n = nI s
  | 0, _ => ⟨0, by decide, rfl⟩
  | n + 1, hn => by
    obtain ⟨s, h1, h2⟩ := sm_n h n (by omega)
    obtain ⟨g, h3, h4⟩ := h n (by omega)
    exact ⟨s + g, by omega, by unfold sumB; rw [h2, h4, nI_add]⟩
theorem sc_n {W : Wv} (h : okW W) : ∃ e s, e ≤ 4 ∧ s ≤ 3996 ∧ bc (evenB W.gr 4) = nI e ∧ sumB W.gr 4 = nI s ∧ (scoreV W).toInt = 10000 * (e : Int) - s := by
  obtain ⟨e, h1, h2⟩ := ev_n W.gr
  obtain ⟨s, h3, h4⟩ := sm_n h.2.2.2.2 4 (by decide)
  refine ⟨e, s, h1, by omega, h2, h4, ?_⟩
  unfold scoreV
  rw [h2, h4, show (10000 : Int32) = nI 10000 from rfl, pk_mul, pk_sub_toInt (by omega) (by omega)]
  omega
def giM (W : Wv) (p : Nat) : Nat → Int32 × Int32 × Int32
  | 0 => (0, -1, 0)
  | q + 1 => if bc (evenB (giW W p q).gr 4) < (giM W p q).2.1 ∨ (bc (evenB (giW W p q).gr 4) = (giM W p q).2.1 ∧ (giM W p q).2.2 ≤ sumB (giW W p q).gr 4) then giM W p q else (nI q, bc (evenB (giW W p q).gr 4), sumB (giW W p q).gr 4)
theorem giW_ok {W : Wv} {p q : Nat} (h : okW W) (hq : q < 4) : okW (giW W p q) := litA_ok (setV_ok h (fun e => absurd e (by decide)) (fun _ => ⟨q, hq, rfl⟩)) W.m (Nat.le_refl _)
theorem gi_rel {W : Wv} {p : Nat} (h : okW W) : ∀ q, q ≤ 4 → (giV W p q).1 = (giM W p q).1 ∧ ((q = 0 ∧ (giM W p q).2.1 = -1 ∧ (giV W p q).2 = -2147483648) ∨ ∃ e s : Nat, e ≤ 4 ∧ s ≤ 3996 ∧ (giM W p q).2.1 = nI e ∧ (giM W p q).2.2 = nI s ∧ (giV W p q).2.toInt = 10000 * (e : Int) - s)
  | 0, _ => ⟨rfl, Or.inl ⟨rfl, rfl, rfl⟩⟩
  | q + 1, hq => by
    obtain ⟨i1, i2⟩ := gi_rel (p := p) h q (by omega)
    obtain ⟨e, s, e4, s4, he, hs, hsc⟩ := sc_n (giW_ok (p := p) h (show q < 4 by omega))
    have key : (scoreV (giW W p q) ≤ (giV W p q).2) ↔ (bc (evenB (giW W p q).gr 4) < (giM W p q).2.1 ∨ (bc (evenB (giW W p q).gr 4) = (giM W p q).2.1 ∧ (giM W p q).2.2 ≤ sumB (giW W p q).gr 4)) := by
      rw [he, hs, Int32.le_iff_toInt_le, hsc]
      rcases i2 with ⟨-, f1, f2⟩ | ⟨e', s', e4', s4', f1, f2, f3⟩
      · rw [f1, f2]
        constructor
        · intro z
          exfalso
          have : (-2147483648 : Int32).toInt = -2147483648 := by decide
          omega
        · rintro (z | ⟨z, -⟩)
          · exact absurd (Int32.lt_trans z (by decide)) (nI_pos (by omega))
          · exact absurd z (nI_m1 (by omega))
      · rw [f1, f2, f3, nI_ltI (by omega) (by omega), nI_eq (by omega) (by omega), nI_leI (by omega) (by omega)]
        omega
    unfold giV giM
    by_cases c : scoreV (giW W p q) ≤ (giV W p q).2
    · rw [if_pos c, if_pos (key.mp c)]
      refine ⟨i1, ?_⟩
      rcases i2 with ⟨-, f1, f2⟩ | i2
      · exfalso
        rw [f2, Int32.le_iff_toInt_le, hsc] at c
        have : (-2147483648 : Int32).toInt = -2147483648 := by decide
        omega
      · exact Or.inr i2
    · rw [if_neg c, if_neg (fun z => c (key.mpr z))]
      exact ⟨rfl, Or.inr ⟨e, s, e4, s4, he, hs, hsc⟩⟩
theorem giC5 {W : Wv} {p : Nat} {x : Int32} : inB (fun a => (setV W p 3 x).C a 5) 0 W.m = inB (fun p => W.C p 5) 0 W.m := inB_congr W.m (fun a _ => by show up2 W.C p 3 x a 5 = _; rw [up2_i (by decide)])
theorem l_gift {Z : Zt} {G0 : Gt} {L : Lt} {Q : Qt} {W : Wv} (hZ : OK Z) (ho : okW W) {H : Hv} (hh : okH W.m H) (p : Nat) (hp : p < W.m) (x : Int32) (hend : ∀ (G : Gt) (y : Int32), mA G0 G → vM G (setV W p 3 y) → hM G H → AX none mX12_gift 7 0 0 0 0 113 [(0, .ref 75), (1, .int (nI p)), (2, .int x), (3, .int (giM W p 4).1)] [] Z G L Q) : ∀ (r q : Nat), q ≤ 4 → 4 - q < r → ∀ G : Gt, mA G0 G → (∃ y, vM G (setV W p 3 y)) → hM G H → AX none mX12_gift 7 0 0 0 0 18 [(0, .ref 75), (1, .int (nI p)), (2, .int x), (3, .int (giM W p q).1), (4, .int (giM W p q).2.1), (5, .int (giM W p q).2.2), (6, .int (nI q))] [] Z G L Q := by
  have hp6 : p < 6 := by have := ho.1; omega
  intro r
  induction r with
  | zero => intro q h1 h2; omega
  | succ r ih =>
    intro q h1 h2 G hs9 hv9 hH9
    refine ax_iload dX12_gift_18 rfl ?_
    refine ax_iconst (v := 4) dX12_gift_20 (by decide) ?_
    refine ax_icmp_ge (tgt := 113) dX12_gift_21 (by decide) (fun c_21 => ?_) (fun c_21 => ?_)
    · obtain rfl : q = 4 := by have := (nI_leI (by omega) (by omega)).mp (show nI 4 ≤ nI q from c_21); omega
      obtain ⟨y, hy⟩ := hv9
      exact ax_lv [(0, .ref 75), (1, .int (nI p)), (2, .int x), (3, .int (giM W p 4).1)] ⟨rfl, rfl, rfl, rfl, trivial⟩ (hend G y hs9 hy hH9)
    · have hqm : q < 4 := by have := mt (nI_leI (by omega) (by omega)).mpr (show ¬ nI 4 ≤ nI q from c_21); omega
      refine ax_aload_n (i := 0) dX12_gift_24 rfl rfl ?_
      refine ax_getR dX12_gift_25 fl_X12_27 rfl (OKs hZ rfl) (OKr hZ rfl) ?_
      refine ax_iload_n (i := 1) dX12_gift_28 rfl rfl ?_
      refine ax_iload dX12_gift_29 rfl ?_
      refine ax_iastN p dX12_gift_31 (OKs hZ rfl) rfl hp6 (by decide) ?_
      obtain ⟨y, hy⟩ := hv9
      have vs : vM (up2 G 81 p (nI q)) (setV W p 3 (nI q)) := by have z := vM_set (c := 3) (p := p) (x := nI q) hy (by decide); rw [setV_2] at z; exact z
      have os : okW (setV W p 3 (nI q)) := setV_ok ho (fun h => absurd h (by decide)) (fun _ => ⟨q, hqm, rfl⟩)
      have as := mA_tr hs9 (mA_up (G := G) (a := 81) (i := p) (x := nI q) (by decide))
      have hs := hM_up (a := 81) (i := p) (x := nI q) hH9 (by decide)
      refine ax_aload_n (i := 0) dX12_gift_32 rfl rfl ?_
      refine ax_aload_n (i := 0) dX12_gift_33 rfl rfl ?_
      refine ax_getR dX12_gift_34 fl_X12_91 rfl (OKs hZ rfl) (OKr hZ rfl) ?_
      refine ax_cVq0 dX12_gift_37 lk_X12_271 (k_keep hZ (Or.inr rfl) vs os.1 hs hh) rfl (OKs hZ rfl) ⟨_, rfl, rfl⟩ rfl (Nat.le_of_ble_eq_true rfl) (Nat.le_of_ble_eq_true rfl) (Nat.le_of_ble_eq_true rfl) (Nat.le_of_ble_eq_true rfl) ?_
      rintro _ G1 _ ⟨rfl, rfl, f1, i1⟩
      have v1 := vM_keep vs (fun a x y => f1 a (by omega)) (fun i _ => by rw [f1 75 (by decide)])
      have a1 := mA_tr as (mA_102 f1)
      refine ax_aload_n (i := 0) dX12_gift_40 rfl rfl ?_
      refine ax_aload_n (i := 0) dX12_gift_41 rfl rfl ?_
      refine ax_iconst (v := 0) dX12_gift_42 (by decide) ?_
      refine ax_cVv dX12_gift_43 lk_X12_237 (c_X12_areSo hZ ho.1 v1.1 0) rfl (OKs hZ rfl) ⟨_, rfl, rfl⟩ rfl (Nat.le_of_ble_eq_true rfl) (Nat.le_of_ble_eq_true rfl) (Nat.le_of_ble_eq_true rfl) (Nat.le_of_ble_eq_true rfl) ?_
      refine ax_top (congrArg Value.int ((inB_congr (g := fun a => (setV W p 3 (nI q)).C a 5) W.m (fun a ha => (v1.2.2.1 a ha).1 5 (by decide))).trans giC5)) ?_
      refine ax_cVq0 dX12_gift_46 lk_X12_288 (k_lightsAll hZ v1 os (inB (fun p => W.C p 5) 0 W.m)) rfl (OKs hZ rfl) ⟨_, rfl, rfl⟩ rfl (Nat.le_of_ble_eq_true rfl) (Nat.le_of_ble_eq_true rfl) (Nat.le_of_ble_eq_true rfl) (Nat.le_of_ble_eq_true rfl) ?_
      rintro _ G2 _ ⟨rfl, rfl, m'2, v2⟩
      have m2 := mS_tr (mS_refl (G := G1)) m'2
      refine ax_aload_n (i := 0) dX12_gift_49 rfl rfl ?_
      refine ax_cVv dX12_gift_50 lk_X12_262 (c_X12_even hZ) rfl (OKs hZ rfl) ⟨_, rfl, rfl⟩ rfl (Nat.le_of_ble_eq_true rfl) (Nat.le_of_ble_eq_true rfl) (Nat.le_of_ble_eq_true rfl) (Nat.le_of_ble_eq_true rfl) ?_
      refine ax_top (congrArg Value.int (evenB_congr (g := (giW W p q).gr) 4 (fun a ha => v2.2.2.2.1 a ha))) ?_
      refine ax_cSv dX12_gift_53 lk_X12_240 (c_bitCount (evenB (giW W p q).gr 4)) rfl rfl (Nat.le_of_ble_eq_true rfl) (Nat.le_of_ble_eq_true rfl) (Nat.le_of_ble_eq_true rfl) (Nat.le_of_ble_eq_true rfl) ?_
      refine ax_istore dX12_gift_56 (by decide) rfl ?_
      refine ax_aload_n (i := 0) dX12_gift_58 rfl rfl ?_
      refine ax_cVv dX12_gift_59 lk_X12_265 (c_X12_allGrief hZ) rfl (OKs hZ rfl) ⟨_, rfl, rfl⟩ rfl (Nat.le_of_ble_eq_true rfl) (Nat.le_of_ble_eq_true rfl) (Nat.le_of_ble_eq_true rfl) (Nat.le_of_ble_eq_true rfl) ?_
      refine ax_top (congrArg Value.int (sumB_congr (g := (giW W p q).gr) 4 (fun a ha => v2.2.2.2.1 a ha))) ?_
      refine ax_istore dX12_gift_62 (by decide) rfl ?_
      refine ax_aload_n (i := 0) dX12_gift_64 rfl rfl ?_
      refine ax_aload_n (i := 0) dX12_gift_65 rfl rfl ?_
      refine ax_getR dX12_gift_66 fl_X12_91 rfl (OKs hZ rfl) (OKr hZ rfl) ?_
      refine ax_cVq0 dX12_gift_69 lk_X12_275 (k_again hZ (Or.inr rfl) os.1 hh (mS_iM m2 (by decide) i1)) rfl (OKs hZ rfl) ⟨_, rfl, rfl⟩ rfl (Nat.le_of_ble_eq_true rfl) (Nat.le_of_ble_eq_true rfl) (Nat.le_of_ble_eq_true rfl) (Nat.le_of_ble_eq_true rfl) ?_
      rintro _ G3 _ ⟨rfl, rfl, a'3, v3, h3⟩
      have a3 := mA_tr a1 (mA_tr (mS_mA m2) a'3)
      refine ax_iload dX12_gift_72 rfl ?_
      refine ax_iload dX12_gift_74 rfl ?_
      refine ax_icmp_lt (tgt := 107) dX12_gift_76 (by decide) (fun c_76 => ?_) (fun c_76 => ?_)
      · refine ax_iinc (v := (nI q) + 1) dX12_gift_107 rfl rfl (by decide) rfl ?_
        refine ax_goto (tgt := 18) dX12_gift_110 (by decide) ?_
        refine ax_lv [(0, .ref 75), (1, .int (nI p)), (2, .int x), (3, .int (giM W p (q + 1)).1), (4, .int (giM W p (q + 1)).2.1), (5, .int (giM W p (q + 1)).2.2), (6, .int (nI (q + 1)))] ⟨rfl, rfl, rfl, sI (by rw [giM]; rw [if_pos (Or.inl c_76)]), sI (by rw [giM]; rw [if_pos (Or.inl c_76)]), sI (by rw [giM]; rw [if_pos (Or.inl c_76)]), sI (nI_1 q), trivial⟩ ?_
        exact ih (q + 1) (by omega) (by omega) _ a3 ⟨_, v3⟩ h3
      · refine ax_iload dX12_gift_79 rfl ?_
        refine ax_iload dX12_gift_81 rfl ?_
        refine ax_icmp_ne (tgt := 96) dX12_gift_83 (by decide) (fun c_83 => ?_) (fun c_83 => ?_)
        · refine ax_iload dX12_gift_96 rfl ?_
          refine ax_istore dX12_gift_98 (by decide) rfl ?_
          refine ax_iload dX12_gift_100 rfl ?_
          refine ax_istore dX12_gift_102 (by decide) rfl ?_
          refine ax_iload dX12_gift_104 rfl ?_
          refine ax_istore_n (i := 3) dX12_gift_106 rfl (by decide) rfl ?_
          refine ax_iinc (v := (nI q) + 1) dX12_gift_107 rfl rfl (by decide) rfl ?_
          refine ax_goto (tgt := 18) dX12_gift_110 (by decide) ?_
          refine ax_lv [(0, .ref 75), (1, .int (nI p)), (2, .int x), (3, .int (giM W p (q + 1)).1), (4, .int (giM W p (q + 1)).2.1), (5, .int (giM W p (q + 1)).2.2), (6, .int (nI (q + 1)))] ⟨rfl, rfl, rfl, sI (by rw [giM]; rw [if_neg (fun z => z.elim c_76 (fun y => c_83 y.1))]), sI (by rw [giM]; rw [if_neg (fun z => z.elim c_76 (fun y => c_83 y.1))]), sI (by rw [giM]; rw [if_neg (fun z => z.elim c_76 (fun y => c_83 y.1))]), sI (nI_1 q), trivial⟩ ?_
          exact ih (q + 1) (by omega) (by omega) _ a3 ⟨_, v3⟩ h3
        · refine ax_iload dX12_gift_86 rfl ?_
          refine ax_iload dX12_gift_88 rfl ?_
          refine ax_icmp_lt (tgt := 96) dX12_gift_90 (by decide) (fun c_90 => ?_) (fun c_90 => ?_)
          · refine ax_iload dX12_gift_96 rfl ?_
            refine ax_istore dX12_gift_98 (by decide) rfl ?_
            refine ax_iload dX12_gift_100 rfl ?_
            refine ax_istore dX12_gift_102 (by decide) rfl ?_
            refine ax_iload dX12_gift_104 rfl ?_
            refine ax_istore_n (i := 3) dX12_gift_106 rfl (by decide) rfl ?_
            refine ax_iinc (v := (nI q) + 1) dX12_gift_107 rfl rfl (by decide) rfl ?_
            refine ax_goto (tgt := 18) dX12_gift_110 (by decide) ?_
            refine ax_lv [(0, .ref 75), (1, .int (nI p)), (2, .int x), (3, .int (giM W p (q + 1)).1), (4, .int (giM W p (q + 1)).2.1), (5, .int (giM W p (q + 1)).2.2), (6, .int (nI (q + 1)))] ⟨rfl, rfl, rfl, sI (by rw [giM]; rw [if_neg (fun z => z.elim c_76 (fun y => Int32.not_lt.mpr y.2 c_90))]), sI (by rw [giM]; rw [if_neg (fun z => z.elim c_76 (fun y => Int32.not_lt.mpr y.2 c_90))]), sI (by rw [giM]; rw [if_neg (fun z => z.elim c_76 (fun y => Int32.not_lt.mpr y.2 c_90))]), sI (nI_1 q), trivial⟩ ?_
            exact ih (q + 1) (by omega) (by omega) _ a3 ⟨_, v3⟩ h3
          · refine ax_goto (tgt := 107) dX12_gift_93 (by decide) ?_
            refine ax_iinc (v := (nI q) + 1) dX12_gift_107 rfl rfl (by decide) rfl ?_
            refine ax_goto (tgt := 18) dX12_gift_110 (by decide) ?_
            refine ax_lv [(0, .ref 75), (1, .int (nI p)), (2, .int x), (3, .int (giM W p (q + 1)).1), (4, .int (giM W p (q + 1)).2.1), (5, .int (giM W p (q + 1)).2.2), (6, .int (nI (q + 1)))] ⟨rfl, rfl, rfl, sI (by rw [giM]; rw [if_pos (Or.inr ⟨c_83, Int32.not_lt.mp c_90⟩)]), sI (by rw [giM]; rw [if_pos (Or.inr ⟨c_83, Int32.not_lt.mp c_90⟩)]), sI (by rw [giM]; rw [if_pos (Or.inr ⟨c_83, Int32.not_lt.mp c_90⟩)]), sI (nI_1 q), trivial⟩ ?_
            exact ih (q + 1) (by omega) (by omega) _ a3 ⟨_, v3⟩ h3
theorem k_gift {Z : Zt} {G : Gt} {L : Lt} {W : Wv} (hZ : OK Z) (hv : vM G W) (ho : okW W) {H : Hv} (hH : hM G H) (hh : okH W.m H) (p : Nat) (hp : p < W.m) : AC mX12_gift 7 0 0 [.ref 75, .int (nI p)] Z G L (RP (.int (giV W p 4).1) (MA Z G L W H)) := by
  refine AC.intro (by decide +kernel) (Nat.le_of_ble_eq_true rfl) ?_
  refine ax_lv [(0, .ref 75), (1, .int (nI p))] ⟨rfl, rfl, trivial⟩ ?_
  have hp6 : p < 6 := by have := ho.1; omega
  refine ax_aload_n (i := 0) dX12_gift_0 rfl rfl ?_
  refine ax_getR dX12_gift_1 fl_X12_27 rfl (OKs hZ rfl) (OKr hZ rfl) ?_
  refine ax_iload_n (i := 1) dX12_gift_4 rfl rfl ?_
  refine ax_ialdN p dX12_gift_5 (OKs hZ rfl) rfl hp6 (by decide) ?_
  refine ax_top (congrArg Value.int (show G 81 p = W.C p 3 from (hv.2.2.1 p hp).1 3 (by decide))) ?_
  refine ax_istore_n (i := 2) dX12_gift_6 rfl (by decide) rfl ?_
  refine ax_iconst (v := 0) dX12_gift_7 (by decide) ?_
  refine ax_istore_n (i := 3) dX12_gift_8 rfl (by decide) rfl ?_
  refine ax_iconst (v := (-1)) dX12_gift_9 (by decide) ?_
  refine ax_istore dX12_gift_10 (by decide) rfl ?_
  refine ax_iconst (v := 0) dX12_gift_12 (by decide) ?_
  refine ax_istore dX12_gift_13 (by decide) rfl ?_
  refine ax_iconst (v := 0) dX12_gift_15 (by decide) ?_
  refine ax_istore dX12_gift_16 (by decide) rfl ?_
  refine ax_lv [(0, .ref 75), (1, .int (nI p)), (2, .int (W.C p 3)), (3, .int (giM W p 0).1), (4, .int (giM W p 0).2.1), (5, .int (giM W p 0).2.2), (6, .int (nI 0))] ⟨rfl, rfl, rfl, rfl, rfl, rfl, rfl, trivial⟩ ?_
  refine l_gift (G0 := G) hZ ho hh p hp (W.C p 3) ?_ 5 0 (by omega) (by omega) G mA_refl ⟨W.C p 3, by rw [setV_id]; exact hv⟩ hH
  intro G9 y s9 v9 h9
  refine ax_aload_n (i := 0) dX12_gift_113 rfl rfl ?_
  refine ax_getR dX12_gift_114 fl_X12_27 rfl (OKs hZ rfl) (OKr hZ rfl) ?_
  refine ax_iload_n (i := 1) dX12_gift_117 rfl rfl ?_
  refine ax_iload_n (i := 2) dX12_gift_118 rfl rfl ?_
  refine ax_iastN p dX12_gift_119 (OKs hZ rfl) rfl hp6 (by decide) ?_
  refine ax_iload_n (i := 3) dX12_gift_120 rfl rfl ?_
  refine ax_iret dX12_gift_121 rfl rfl (Nat.le_of_ble_eq_true rfl) (Nat.le_of_ble_eq_true rfl) ?_
  have vs : vM (up2 G9 81 p (W.C p 3)) W := by have z := vM_set (c := 3) (p := p) (x := W.C p 3) v9 (by decide); rw [setV_2, setV_id] at z; exact z
  exact ⟨congrArg (fun z => some (Value.int z)) (gi_rel ho 4 (Nat.le_refl _)).1.symm, rfl, rfl, mA_tr s9 (mA_up (by decide)), vs, hM_up h9 (by decide)⟩
