-- ===== the model: acts =====
/-- what an act of the model needs and leaves -/
def aM (G : Gt) (R : Nat × (Nat → Int32)) (p kk : Nat) (v : Int32) : Prop := G 75 37 = nI R.1 ∧ (∀ i, i < 20 → i < R.1 → G 100 i = R.2 i) ∧ G 78 p = nI kk ∧ G 79 p = v
abbrev AQm (Z : Zt) (G : Gt) (L : Lt) (R : Nat × (Nat → Int32)) (p kk : Nat) (v : Int32) : Zt → Gt → Lt → Prop := fun Z' G' L' => Z' = Z ∧ L' = L ∧ aM G' R p kk v ∧ (∀ a, a ≠ 100 → a ≠ 75 → G' a = G a) ∧ ∀ i, i ≠ 37 → G' 75 i = G 75 i
theorem km_ran {Z : Zt} {G : Gt} {L : Lt} {R : Nat × (Nat → Int32)} {p kk : Nat} {v : Int32} (hZ : OK Z) (ha : aM G R p kk v) (hb : R.1 ≤ 99) (b : Int32) : AC mX12_ran 1 0 0 [.ref 75, .int b] Z G L (NP (AQm Z G L (rAdd R b) p kk v)) := by
  obtain ⟨a1, a2, a3, a4⟩ := ha
  refine AC.weaken (c_X12_ran hZ ⟨R.1, by omega, a1⟩ b) ?_
  rintro r Z' G' L' ⟨rfl, rfl, rfl, rfl⟩
  unfold g_X12_ran
  by_cases c : 20 ≤ G 75 37
  · rw [if_pos c, a1, nI_1]
    rw [a1] at c
    have h20 := (nI_leI (by decide) (by omega)).mp (show nI 20 ≤ nI R.1 from c)
    refine ⟨rfl, rfl, rfl, ⟨up2_s, fun i hi hr => ?_, ?_, ?_⟩, fun a h4 h5 => up2_row h5, fun i hi => up2_i hi⟩
    · show up2 G 75 37 _ 100 i = up1 R.2 R.1 b i
      rw [up2_k (by decide), up1_n (by omega)]; exact a2 i hi (by omega)
    · rw [up2_k (by decide)]; exact a3
    · rw [up2_k (by decide)]; exact a4
  · rw [if_neg c, a1, nI_clamp (by omega), up2_k (by decide), a1, nI_1]
    refine ⟨rfl, rfl, rfl, ⟨up2_s, fun i hi hr => ?_, ?_, ?_⟩, fun a h4 h5 => by rw [up2_row h5, up2_row h4], fun i hi => by rw [up2_i hi, up2_k (by decide)]⟩
    · have hr : i < R.1 + 1 := hr
      show up2 (up2 G 100 R.1 b) 75 37 _ 100 i = up1 R.2 R.1 b i
      rw [up2_k (by decide)]
      by_cases e : i = R.1
      · rw [e, up2_s, up1_s]
      · rw [up2_i e, up1_n e]; exact a2 i hi (by omega)
    · rw [up2_k (by decide), up2_k (by decide)]; exact a3
    · rw [up2_k (by decide), up2_k (by decide)]; exact a4
def clK (k kk : Nat) (num v x : Int32) : Int32 := match k with
  | 1 => cl0V kk num v x ^^^ 6
  | 4 => cl0V kk num v (x + 1) ^^^ 6
  | 6 => cl0V kk num v x + (2 + num)
  | _ => cl0V kk num v x
def clR (k kk : Nat) (R : Nat × (Nat → Int32)) : Nat × (Nat → Int32) := match k with
  | 1 => cl0R kk (rAdd R 20)
  | 4 => cl0R kk (rAdd (rAdd R 51) 20)
  | 6 => rAdd (cl0R kk (rAdd R 70)) 10
  | _ => cl0R kk R
def teK (k kk : Nat) (num v x : Int32) : Int32 := match k with
  | 3 => te0V kk num v x + cliV kk num v 1
  | 6 => te0V kk num v x + cliV kk num v 1
  | 5 => te0V kk num v (x - num)
  | _ => te0V kk num v x
def teR (k kk : Nat) (R : Nat × (Nat → Int32)) : Nat × (Nat → Int32) := match k with
  | 3 => cliR kk (te0R kk (rAdd R 40))
  | 6 => cliR kk (te0R kk (rAdd R 40))
  | 5 => te0R kk (rAdd R 60)
  | _ => te0R kk R
theorem kind7 {P : Nat → Prop} {k : Nat} (hk : k < 7) (h0 : P 0) (h1 : P 1) (h2 : P 2) (h3 : P 3) (h4 : P 4) (h5 : P 5) (h6 : P 6) : P k := by
  rcases (show k = 0 ∨ k = 1 ∨ k = 2 ∨ k = 3 ∨ k = 4 ∨ k = 5 ∨ k = 6 by omega) with rfl | rfl | rfl | rfl | rfl | rfl | rfl
  · exact h0
  · exact h1
  · exact h2
  · exact h3
  · exact h4
  · exact h5
  · exact h6
theorem clK_e {kk : Nat} (hk : kk < 7) (num v x : Int32) : clK kk kk num v x = cliV kk num v x := kind7 (P := fun kk => clK kk kk num v x = cliV kk num v x) hk rfl rfl rfl rfl rfl rfl rfl
theorem clR_e {kk : Nat} (hk : kk < 7) (R : Nat × (Nat → Int32)) : clR kk kk R = cliR kk R := kind7 (P := fun kk => clR kk kk R = cliR kk R) hk rfl rfl rfl rfl rfl rfl rfl
theorem teK_e {kk : Nat} (hk : kk < 7) (num v x : Int32) : teK kk kk num v x = telV kk num v x := kind7 (P := fun kk => teK kk kk num v x = telV kk num v x) hk rfl rfl rfl rfl rfl rfl rfl
theorem teR_e {kk : Nat} (hk : kk < 7) (R : Nat × (Nat → Int32)) : teR kk kk R = telR kk R := kind7 (P := fun kk => teR kk kk R = telR kk R) hk rfl rfl rfl rfl rfl rfl rfl
theorem hm0_2 {Z : Zt} {G : Gt} {L : Lt} {R : Nat × (Nat → Int32)} {kk : Nat} {v : Int32} (hZ : OK Z) (p : Nat) (hp6 : p < 6) (ha : aM G R p kk v) (hk : kk < 7) (hb : R.1 ≤ 98) (x : Int32) : AC mX12_hisses 2 0 0 [.ref 75, .int (nI p), .int 0, .int x] Z G L (RP (.int (x + nI p)) (AQm Z G L (hisR 0 R) p kk v)) := by
  refine AC.intro (by decide +kernel) (Nat.le_of_ble_eq_true rfl) ?_
  refine ax_lv [(0, .ref 75), (1, .int (nI p)), (2, .int 0), (3, .int x)] ⟨rfl, rfl, rfl, rfl, trivial⟩ ?_
  refine ax_iload_n (i := 2) dX12_hisses_0 rfl rfl ?_
  refine ax_tin (off := 95) (tgt := 96) dX12_hisses_1 (by decide) (by decide) (by decide) (by decide) ?_
  refine ax_aload_n (i := 0) dX12_hisses_96 rfl rfl ?_
  refine ax_bipush (v := 10) dX12_hisses_97 (by decide) ?_
  refine ax_cVq0 dX12_hisses_99 lk_X12_321 (km_ran hZ ha (show R.1 ≤ 99 by omega) 10) rfl (OKs hZ rfl) ⟨_, rfl, rfl⟩ rfl (Nat.le_of_ble_eq_true rfl) (Nat.le_of_ble_eq_true rfl) (Nat.le_of_ble_eq_true rfl) (Nat.le_of_ble_eq_true rfl) ?_
  rintro _ G1 _ ⟨rfl, rfl, ar1, fr'1, ft'1⟩
  have fr1 := fun a (h1 : a ≠ 100) (h2 : a ≠ 75) => (fr'1 a h1 h2).trans ((fun a _ _ => rfl) a h1 h2)
  have ft1 := fun i (h1 : i ≠ 37) => (ft'1 i h1).trans ((fun i _ => rfl) i h1)
  refine ax_iload_n (i := 3) dX12_hisses_102 rfl rfl ?_
  refine ax_iload_n (i := 1) dX12_hisses_103 rfl rfl ?_
  refine ax_iadd dX12_hisses_104 ?_
  refine ax_iret dX12_hisses_105 rfl rfl (Nat.le_of_ble_eq_true rfl) (Nat.le_of_ble_eq_true rfl) ?_
  exact ⟨rfl, rfl, rfl, ar1, fr1, ft1⟩
theorem hm1_3 {Z : Zt} {G : Gt} {L : Lt} {R : Nat × (Nat → Int32)} {kk : Nat} {v : Int32} (hZ : OK Z) (p : Nat) (hp6 : p < 6) (ha : aM G R p kk v) (hk : kk < 7) (hb : R.1 ≤ 97) (x : Int32) : AC mX12_hisses 3 0 0 [.ref 75, .int (nI p), .int 1, .int x] Z G L (RP (.int (x + nI p)) (AQm Z G L (hisR 1 R) p kk v)) := by
  refine AC.intro (by decide +kernel) (Nat.le_of_ble_eq_true rfl) ?_
  refine ax_lv [(0, .ref 75), (1, .int (nI p)), (2, .int 1), (3, .int x)] ⟨rfl, rfl, rfl, rfl, trivial⟩ ?_
  refine ax_iload_n (i := 2) dX12_hisses_0 rfl rfl ?_
  refine ax_tin (off := 105) (tgt := 106) dX12_hisses_1 (by decide) (by decide) (by decide) (by decide) ?_
  refine ax_aload_n (i := 0) dX12_hisses_106 rfl rfl ?_
  refine ax_iload_n (i := 1) dX12_hisses_107 rfl rfl ?_
  refine ax_iload_n (i := 2) dX12_hisses_108 rfl rfl ?_
  refine ax_cSv dX12_hisses_109 lk_X12_328 (c_X12_above 1) rfl rfl (Nat.le_of_ble_eq_true rfl) (Nat.le_of_ble_eq_true rfl) (Nat.le_of_ble_eq_true rfl) (Nat.le_of_ble_eq_true rfl) ?_
  refine ax_top (congrArg Value.int (show r_X12_above G L 1 = 0 from (show (if (1 : Int32) = 4 then (1 : Int32) else (if (1 : Int32) = 5 then 2 else (if (1 : Int32) = 6 then 3 else 0))) = 0 by decide))) ?_
  refine ax_iload_n (i := 3) dX12_hisses_112 rfl rfl ?_
  refine ax_cVq dX12_hisses_113 lk_X12_324 (hm0_2 hZ p hp6 ha hk (by omega) x) rfl (OKs hZ rfl) ⟨_, rfl, rfl⟩ rfl (Nat.le_of_ble_eq_true rfl) (Nat.le_of_ble_eq_true rfl) (Nat.le_of_ble_eq_true rfl) (Nat.le_of_ble_eq_true rfl) ?_
  rintro _ G1 _ ⟨rfl, rfl, ar1, fr'1, ft'1⟩
  have fr1 := fun a (h1 : a ≠ 100) (h2 : a ≠ 75) => (fr'1 a h1 h2).trans ((fun a _ _ => rfl) a h1 h2)
  have ft1 := fun i (h1 : i ≠ 37) => (ft'1 i h1).trans ((fun i _ => rfl) i h1)
  refine ax_iret dX12_hisses_116 rfl rfl (Nat.le_of_ble_eq_true rfl) (Nat.le_of_ble_eq_true rfl) ?_
  exact ⟨rfl, rfl, rfl, ar1, fr1, ft1⟩
theorem hm3_3 {Z : Zt} {G : Gt} {L : Lt} {R : Nat × (Nat → Int32)} {kk : Nat} {v : Int32} (hZ : OK Z) (p : Nat) (hp6 : p < 6) (ha : aM G R p kk v) (hk : kk < 7) (hb : R.1 ≤ 97) (x : Int32) : AC mX12_hisses 3 0 0 [.ref 75, .int (nI p), .int 3, .int x] Z G L (RP (.int (x + nI p)) (AQm Z G L (hisR 3 R) p kk v)) := by
  refine AC.intro (by decide +kernel) (Nat.le_of_ble_eq_true rfl) ?_
  refine ax_lv [(0, .ref 75), (1, .int (nI p)), (2, .int 3), (3, .int x)] ⟨rfl, rfl, rfl, rfl, trivial⟩ ?_
  refine ax_iload_n (i := 2) dX12_hisses_0 rfl rfl ?_
  refine ax_tin (off := 105) (tgt := 106) dX12_hisses_1 (by decide) (by decide) (by decide) (by decide) ?_
  refine ax_aload_n (i := 0) dX12_hisses_106 rfl rfl ?_
  refine ax_iload_n (i := 1) dX12_hisses_107 rfl rfl ?_
  refine ax_iload_n (i := 2) dX12_hisses_108 rfl rfl ?_
  refine ax_cSv dX12_hisses_109 lk_X12_328 (c_X12_above 3) rfl rfl (Nat.le_of_ble_eq_true rfl) (Nat.le_of_ble_eq_true rfl) (Nat.le_of_ble_eq_true rfl) (Nat.le_of_ble_eq_true rfl) ?_
  refine ax_top (congrArg Value.int (show r_X12_above G L 3 = 0 from (show (if (3 : Int32) = 4 then (1 : Int32) else (if (3 : Int32) = 5 then 2 else (if (3 : Int32) = 6 then 3 else 0))) = 0 by decide))) ?_
  refine ax_iload_n (i := 3) dX12_hisses_112 rfl rfl ?_
  refine ax_cVq dX12_hisses_113 lk_X12_324 (hm0_2 hZ p hp6 ha hk (by omega) x) rfl (OKs hZ rfl) ⟨_, rfl, rfl⟩ rfl (Nat.le_of_ble_eq_true rfl) (Nat.le_of_ble_eq_true rfl) (Nat.le_of_ble_eq_true rfl) (Nat.le_of_ble_eq_true rfl) ?_
  rintro _ G1 _ ⟨rfl, rfl, ar1, fr'1, ft'1⟩
  have fr1 := fun a (h1 : a ≠ 100) (h2 : a ≠ 75) => (fr'1 a h1 h2).trans ((fun a _ _ => rfl) a h1 h2)
  have ft1 := fun i (h1 : i ≠ 37) => (ft'1 i h1).trans ((fun i _ => rfl) i h1)
  refine ax_iret dX12_hisses_116 rfl rfl (Nat.le_of_ble_eq_true rfl) (Nat.le_of_ble_eq_true rfl) ?_
  exact ⟨rfl, rfl, rfl, ar1, fr1, ft1⟩
theorem hm2_3 {Z : Zt} {G : Gt} {L : Lt} {R : Nat × (Nat → Int32)} {kk : Nat} {v : Int32} (hZ : OK Z) (p : Nat) (hp6 : p < 6) (ha : aM G R p kk v) (hk : kk < 7) (hb : R.1 ≤ 97) (x : Int32) : AC mX12_hisses 3 0 0 [.ref 75, .int (nI p), .int 2, .int x] Z G L (RP (.int (x * 3 + nI p)) (AQm Z G L (hisR 2 R) p kk v)) := by
  refine AC.intro (by decide +kernel) (Nat.le_of_ble_eq_true rfl) ?_
  refine ax_lv [(0, .ref 75), (1, .int (nI p)), (2, .int 2), (3, .int x)] ⟨rfl, rfl, rfl, rfl, trivial⟩ ?_
  refine ax_iload_n (i := 2) dX12_hisses_0 rfl rfl ?_
  refine ax_tin (off := 43) (tgt := 44) dX12_hisses_1 (by decide) (by decide) (by decide) (by decide) ?_
  refine ax_aload_n (i := 0) dX12_hisses_44 rfl rfl ?_
  refine ax_bipush (v := 30) dX12_hisses_45 (by decide) ?_
  refine ax_cVq0 dX12_hisses_47 lk_X12_321 (km_ran hZ ha (show R.1 ≤ 99 by omega) 30) rfl (OKs hZ rfl) ⟨_, rfl, rfl⟩ rfl (Nat.le_of_ble_eq_true rfl) (Nat.le_of_ble_eq_true rfl) (Nat.le_of_ble_eq_true rfl) (Nat.le_of_ble_eq_true rfl) ?_
  rintro _ G1 _ ⟨rfl, rfl, ar1, fr'1, ft'1⟩
  have fr1 := fun a (h1 : a ≠ 100) (h2 : a ≠ 75) => (fr'1 a h1 h2).trans ((fun a _ _ => rfl) a h1 h2)
  have ft1 := fun i (h1 : i ≠ 37) => (ft'1 i h1).trans ((fun i _ => rfl) i h1)
  refine ax_aload_n (i := 0) dX12_hisses_50 rfl rfl ?_
  refine ax_iload_n (i := 1) dX12_hisses_51 rfl rfl ?_
  refine ax_iconst (v := 0) dX12_hisses_52 (by decide) ?_
  refine ax_iload_n (i := 3) dX12_hisses_53 rfl rfl ?_
  refine ax_iconst (v := 3) dX12_hisses_54 (by decide) ?_
  refine ax_imul dX12_hisses_55 ?_
  refine ax_cVq dX12_hisses_56 lk_X12_324 (hm0_2 hZ p hp6 ar1 hk (show R.1 + 1 ≤ 98 by omega) (x * 3)) rfl (OKs hZ rfl) ⟨_, rfl, rfl⟩ rfl (Nat.le_of_ble_eq_true rfl) (Nat.le_of_ble_eq_true rfl) (Nat.le_of_ble_eq_true rfl) (Nat.le_of_ble_eq_true rfl) ?_
  rintro _ G2 _ ⟨rfl, rfl, ar2, fr'2, ft'2⟩
  have fr2 := fun a (h1 : a ≠ 100) (h2 : a ≠ 75) => (fr'2 a h1 h2).trans (fr1 a h1 h2)
  have ft2 := fun i (h1 : i ≠ 37) => (ft'2 i h1).trans (ft1 i h1)
  refine ax_iret dX12_hisses_59 rfl rfl (Nat.le_of_ble_eq_true rfl) (Nat.le_of_ble_eq_true rfl) ?_
  exact ⟨rfl, rfl, rfl, ar2, fr2, ft2⟩
theorem hm0_4 {Z : Zt} {G : Gt} {L : Lt} {R : Nat × (Nat → Int32)} {kk : Nat} {v : Int32} (hZ : OK Z) (p : Nat) (hp6 : p < 6) (ha : aM G R p kk v) (hk : kk < 7) (hb : R.1 ≤ 96) (x : Int32) : AC mX12_hisses 4 0 0 [.ref 75, .int (nI p), .int 0, .int x] Z G L (RP (.int (x + nI p)) (AQm Z G L (hisR 0 R) p kk v)) := by
  refine AC.intro (by decide +kernel) (Nat.le_of_ble_eq_true rfl) ?_
  refine ax_lv [(0, .ref 75), (1, .int (nI p)), (2, .int 0), (3, .int x)] ⟨rfl, rfl, rfl, rfl, trivial⟩ ?_
  refine ax_iload_n (i := 2) dX12_hisses_0 rfl rfl ?_
  refine ax_tin (off := 95) (tgt := 96) dX12_hisses_1 (by decide) (by decide) (by decide) (by decide) ?_
  refine ax_aload_n (i := 0) dX12_hisses_96 rfl rfl ?_
  refine ax_bipush (v := 10) dX12_hisses_97 (by decide) ?_
  refine ax_cVq0 dX12_hisses_99 lk_X12_321 (km_ran hZ ha (show R.1 ≤ 99 by omega) 10) rfl (OKs hZ rfl) ⟨_, rfl, rfl⟩ rfl (Nat.le_of_ble_eq_true rfl) (Nat.le_of_ble_eq_true rfl) (Nat.le_of_ble_eq_true rfl) (Nat.le_of_ble_eq_true rfl) ?_
  rintro _ G1 _ ⟨rfl, rfl, ar1, fr'1, ft'1⟩
  have fr1 := fun a (h1 : a ≠ 100) (h2 : a ≠ 75) => (fr'1 a h1 h2).trans ((fun a _ _ => rfl) a h1 h2)
  have ft1 := fun i (h1 : i ≠ 37) => (ft'1 i h1).trans ((fun i _ => rfl) i h1)
  refine ax_iload_n (i := 3) dX12_hisses_102 rfl rfl ?_
  refine ax_iload_n (i := 1) dX12_hisses_103 rfl rfl ?_
  refine ax_iadd dX12_hisses_104 ?_
  refine ax_iret dX12_hisses_105 rfl rfl (Nat.le_of_ble_eq_true rfl) (Nat.le_of_ble_eq_true rfl) ?_
  exact ⟨rfl, rfl, rfl, ar1, fr1, ft1⟩
theorem hm1_4 {Z : Zt} {G : Gt} {L : Lt} {R : Nat × (Nat → Int32)} {kk : Nat} {v : Int32} (hZ : OK Z) (p : Nat) (hp6 : p < 6) (ha : aM G R p kk v) (hk : kk < 7) (hb : R.1 ≤ 96) (x : Int32) : AC mX12_hisses 4 0 0 [.ref 75, .int (nI p), .int 1, .int x] Z G L (RP (.int (x + nI p)) (AQm Z G L (hisR 1 R) p kk v)) := by
  refine AC.intro (by decide +kernel) (Nat.le_of_ble_eq_true rfl) ?_
  refine ax_lv [(0, .ref 75), (1, .int (nI p)), (2, .int 1), (3, .int x)] ⟨rfl, rfl, rfl, rfl, trivial⟩ ?_
  refine ax_iload_n (i := 2) dX12_hisses_0 rfl rfl ?_
  refine ax_tin (off := 105) (tgt := 106) dX12_hisses_1 (by decide) (by decide) (by decide) (by decide) ?_
  refine ax_aload_n (i := 0) dX12_hisses_106 rfl rfl ?_
  refine ax_iload_n (i := 1) dX12_hisses_107 rfl rfl ?_
  refine ax_iload_n (i := 2) dX12_hisses_108 rfl rfl ?_
  refine ax_cSv dX12_hisses_109 lk_X12_328 (c_X12_above 1) rfl rfl (Nat.le_of_ble_eq_true rfl) (Nat.le_of_ble_eq_true rfl) (Nat.le_of_ble_eq_true rfl) (Nat.le_of_ble_eq_true rfl) ?_
  refine ax_top (congrArg Value.int (show r_X12_above G L 1 = 0 from (show (if (1 : Int32) = 4 then (1 : Int32) else (if (1 : Int32) = 5 then 2 else (if (1 : Int32) = 6 then 3 else 0))) = 0 by decide))) ?_
  refine ax_iload_n (i := 3) dX12_hisses_112 rfl rfl ?_
  refine ax_cVq dX12_hisses_113 lk_X12_324 (hm0_2 hZ p hp6 ha hk (by omega) x) rfl (OKs hZ rfl) ⟨_, rfl, rfl⟩ rfl (Nat.le_of_ble_eq_true rfl) (Nat.le_of_ble_eq_true rfl) (Nat.le_of_ble_eq_true rfl) (Nat.le_of_ble_eq_true rfl) ?_
  rintro _ G1 _ ⟨rfl, rfl, ar1, fr'1, ft'1⟩
  have fr1 := fun a (h1 : a ≠ 100) (h2 : a ≠ 75) => (fr'1 a h1 h2).trans ((fun a _ _ => rfl) a h1 h2)
  have ft1 := fun i (h1 : i ≠ 37) => (ft'1 i h1).trans ((fun i _ => rfl) i h1)
  refine ax_iret dX12_hisses_116 rfl rfl (Nat.le_of_ble_eq_true rfl) (Nat.le_of_ble_eq_true rfl) ?_
  exact ⟨rfl, rfl, rfl, ar1, fr1, ft1⟩
theorem hm2_4 {Z : Zt} {G : Gt} {L : Lt} {R : Nat × (Nat → Int32)} {kk : Nat} {v : Int32} (hZ : OK Z) (p : Nat) (hp6 : p < 6) (ha : aM G R p kk v) (hk : kk < 7) (hb : R.1 ≤ 96) (x : Int32) : AC mX12_hisses 4 0 0 [.ref 75, .int (nI p), .int 2, .int x] Z G L (RP (.int (x * 3 + nI p)) (AQm Z G L (hisR 2 R) p kk v)) := by
  refine AC.intro (by decide +kernel) (Nat.le_of_ble_eq_true rfl) ?_
  refine ax_lv [(0, .ref 75), (1, .int (nI p)), (2, .int 2), (3, .int x)] ⟨rfl, rfl, rfl, rfl, trivial⟩ ?_
  refine ax_iload_n (i := 2) dX12_hisses_0 rfl rfl ?_
  refine ax_tin (off := 43) (tgt := 44) dX12_hisses_1 (by decide) (by decide) (by decide) (by decide) ?_
  refine ax_aload_n (i := 0) dX12_hisses_44 rfl rfl ?_
  refine ax_bipush (v := 30) dX12_hisses_45 (by decide) ?_
  refine ax_cVq0 dX12_hisses_47 lk_X12_321 (km_ran hZ ha (show R.1 ≤ 99 by omega) 30) rfl (OKs hZ rfl) ⟨_, rfl, rfl⟩ rfl (Nat.le_of_ble_eq_true rfl) (Nat.le_of_ble_eq_true rfl) (Nat.le_of_ble_eq_true rfl) (Nat.le_of_ble_eq_true rfl) ?_
  rintro _ G1 _ ⟨rfl, rfl, ar1, fr'1, ft'1⟩
  have fr1 := fun a (h1 : a ≠ 100) (h2 : a ≠ 75) => (fr'1 a h1 h2).trans ((fun a _ _ => rfl) a h1 h2)
  have ft1 := fun i (h1 : i ≠ 37) => (ft'1 i h1).trans ((fun i _ => rfl) i h1)
  refine ax_aload_n (i := 0) dX12_hisses_50 rfl rfl ?_
  refine ax_iload_n (i := 1) dX12_hisses_51 rfl rfl ?_
  refine ax_iconst (v := 0) dX12_hisses_52 (by decide) ?_
  refine ax_iload_n (i := 3) dX12_hisses_53 rfl rfl ?_
  refine ax_iconst (v := 3) dX12_hisses_54 (by decide) ?_
  refine ax_imul dX12_hisses_55 ?_
  refine ax_cVq dX12_hisses_56 lk_X12_324 (hm0_2 hZ p hp6 ar1 hk (show R.1 + 1 ≤ 98 by omega) (x * 3)) rfl (OKs hZ rfl) ⟨_, rfl, rfl⟩ rfl (Nat.le_of_ble_eq_true rfl) (Nat.le_of_ble_eq_true rfl) (Nat.le_of_ble_eq_true rfl) (Nat.le_of_ble_eq_true rfl) ?_
  rintro _ G2 _ ⟨rfl, rfl, ar2, fr'2, ft'2⟩
  have fr2 := fun a (h1 : a ≠ 100) (h2 : a ≠ 75) => (fr'2 a h1 h2).trans (fr1 a h1 h2)
  have ft2 := fun i (h1 : i ≠ 37) => (ft'2 i h1).trans (ft1 i h1)
  refine ax_iret dX12_hisses_59 rfl rfl (Nat.le_of_ble_eq_true rfl) (Nat.le_of_ble_eq_true rfl) ?_
  exact ⟨rfl, rfl, rfl, ar2, fr2, ft2⟩
theorem hm3_4 {Z : Zt} {G : Gt} {L : Lt} {R : Nat × (Nat → Int32)} {kk : Nat} {v : Int32} (hZ : OK Z) (p : Nat) (hp6 : p < 6) (ha : aM G R p kk v) (hk : kk < 7) (hb : R.1 ≤ 96) (x : Int32) : AC mX12_hisses 4 0 0 [.ref 75, .int (nI p), .int 3, .int x] Z G L (RP (.int (x + nI p)) (AQm Z G L (hisR 3 R) p kk v)) := by
  refine AC.intro (by decide +kernel) (Nat.le_of_ble_eq_true rfl) ?_
  refine ax_lv [(0, .ref 75), (1, .int (nI p)), (2, .int 3), (3, .int x)] ⟨rfl, rfl, rfl, rfl, trivial⟩ ?_
  refine ax_iload_n (i := 2) dX12_hisses_0 rfl rfl ?_
  refine ax_tin (off := 105) (tgt := 106) dX12_hisses_1 (by decide) (by decide) (by decide) (by decide) ?_
  refine ax_aload_n (i := 0) dX12_hisses_106 rfl rfl ?_
  refine ax_iload_n (i := 1) dX12_hisses_107 rfl rfl ?_
  refine ax_iload_n (i := 2) dX12_hisses_108 rfl rfl ?_
  refine ax_cSv dX12_hisses_109 lk_X12_328 (c_X12_above 3) rfl rfl (Nat.le_of_ble_eq_true rfl) (Nat.le_of_ble_eq_true rfl) (Nat.le_of_ble_eq_true rfl) (Nat.le_of_ble_eq_true rfl) ?_
  refine ax_top (congrArg Value.int (show r_X12_above G L 3 = 0 from (show (if (3 : Int32) = 4 then (1 : Int32) else (if (3 : Int32) = 5 then 2 else (if (3 : Int32) = 6 then 3 else 0))) = 0 by decide))) ?_
  refine ax_iload_n (i := 3) dX12_hisses_112 rfl rfl ?_
  refine ax_cVq dX12_hisses_113 lk_X12_324 (hm0_2 hZ p hp6 ha hk (by omega) x) rfl (OKs hZ rfl) ⟨_, rfl, rfl⟩ rfl (Nat.le_of_ble_eq_true rfl) (Nat.le_of_ble_eq_true rfl) (Nat.le_of_ble_eq_true rfl) (Nat.le_of_ble_eq_true rfl) ?_
  rintro _ G1 _ ⟨rfl, rfl, ar1, fr'1, ft'1⟩
  have fr1 := fun a (h1 : a ≠ 100) (h2 : a ≠ 75) => (fr'1 a h1 h2).trans ((fun a _ _ => rfl) a h1 h2)
  have ft1 := fun i (h1 : i ≠ 37) => (ft'1 i h1).trans ((fun i _ => rfl) i h1)
  refine ax_iret dX12_hisses_116 rfl rfl (Nat.le_of_ble_eq_true rfl) (Nat.le_of_ble_eq_true rfl) ?_
  exact ⟨rfl, rfl, rfl, ar1, fr1, ft1⟩
theorem hm4_4 {Z : Zt} {G : Gt} {L : Lt} {R : Nat × (Nat → Int32)} {kk : Nat} {v : Int32} (hZ : OK Z) (p : Nat) (hp6 : p < 6) (ha : aM G R p kk v) (hk : kk < 7) (hb : R.1 ≤ 96) (x : Int32) : AC mX12_hisses 4 0 0 [.ref 75, .int (nI p), .int 4, .int x] Z G L (RP (.int (-(x + nI p))) (AQm Z G L (hisR 4 R) p kk v)) := by
  refine AC.intro (by decide +kernel) (Nat.le_of_ble_eq_true rfl) ?_
  refine ax_lv [(0, .ref 75), (1, .int (nI p)), (2, .int 4), (3, .int x)] ⟨rfl, rfl, rfl, rfl, trivial⟩ ?_
  refine ax_iload_n (i := 2) dX12_hisses_0 rfl rfl ?_
  refine ax_tin (off := 59) (tgt := 60) dX12_hisses_1 (by decide) (by decide) (by decide) (by decide) ?_
  refine ax_aload_n (i := 0) dX12_hisses_60 rfl rfl ?_
  refine ax_bipush (v := 50) dX12_hisses_61 (by decide) ?_
  refine ax_cVq0 dX12_hisses_63 lk_X12_321 (km_ran hZ ha (show R.1 ≤ 99 by omega) 50) rfl (OKs hZ rfl) ⟨_, rfl, rfl⟩ rfl (Nat.le_of_ble_eq_true rfl) (Nat.le_of_ble_eq_true rfl) (Nat.le_of_ble_eq_true rfl) (Nat.le_of_ble_eq_true rfl) ?_
  rintro _ G1 _ ⟨rfl, rfl, ar1, fr'1, ft'1⟩
  have fr1 := fun a (h1 : a ≠ 100) (h2 : a ≠ 75) => (fr'1 a h1 h2).trans ((fun a _ _ => rfl) a h1 h2)
  have ft1 := fun i (h1 : i ≠ 37) => (ft'1 i h1).trans ((fun i _ => rfl) i h1)
  refine ax_aload_n (i := 0) dX12_hisses_66 rfl rfl ?_
  refine ax_iload_n (i := 1) dX12_hisses_67 rfl rfl ?_
  refine ax_iconst (v := 1) dX12_hisses_68 (by decide) ?_
  refine ax_iload_n (i := 3) dX12_hisses_69 rfl rfl ?_
  refine ax_cVq dX12_hisses_70 lk_X12_324 (hm1_3 hZ p hp6 ar1 hk (show R.1 + 1 ≤ 97 by omega) x) rfl (OKs hZ rfl) ⟨_, rfl, rfl⟩ rfl (Nat.le_of_ble_eq_true rfl) (Nat.le_of_ble_eq_true rfl) (Nat.le_of_ble_eq_true rfl) (Nat.le_of_ble_eq_true rfl) ?_
  rintro _ G2 _ ⟨rfl, rfl, ar2, fr'2, ft'2⟩
  have fr2 := fun a (h1 : a ≠ 100) (h2 : a ≠ 75) => (fr'2 a h1 h2).trans (fr1 a h1 h2)
  have ft2 := fun i (h1 : i ≠ 37) => (ft'2 i h1).trans (ft1 i h1)
  refine ax_ineg dX12_hisses_73 ?_
  refine ax_iret dX12_hisses_74 rfl rfl (Nat.le_of_ble_eq_true rfl) (Nat.le_of_ble_eq_true rfl) ?_
  exact ⟨rfl, rfl, rfl, ar2, fr2, ft2⟩
theorem hm5_4 {Z : Zt} {G : Gt} {L : Lt} {R : Nat × (Nat → Int32)} {kk : Nat} {v : Int32} (hZ : OK Z) (p : Nat) (hp6 : p < 6) (ha : aM G R p kk v) (hk : kk < 7) (hb : R.1 ≤ 96) (x : Int32) : AC mX12_hisses 4 0 0 [.ref 75, .int (nI p), .int 5, .int x] Z G L (RP (.int (x * 3 + nI p)) (AQm Z G L (hisR 5 R) p kk v)) := by
  refine AC.intro (by decide +kernel) (Nat.le_of_ble_eq_true rfl) ?_
  refine ax_lv [(0, .ref 75), (1, .int (nI p)), (2, .int 5), (3, .int x)] ⟨rfl, rfl, rfl, rfl, trivial⟩ ?_
  refine ax_iload_n (i := 2) dX12_hisses_0 rfl rfl ?_
  refine ax_tin (off := 105) (tgt := 106) dX12_hisses_1 (by decide) (by decide) (by decide) (by decide) ?_
  refine ax_aload_n (i := 0) dX12_hisses_106 rfl rfl ?_
  refine ax_iload_n (i := 1) dX12_hisses_107 rfl rfl ?_
  refine ax_iload_n (i := 2) dX12_hisses_108 rfl rfl ?_
  refine ax_cSv dX12_hisses_109 lk_X12_328 (c_X12_above 5) rfl rfl (Nat.le_of_ble_eq_true rfl) (Nat.le_of_ble_eq_true rfl) (Nat.le_of_ble_eq_true rfl) (Nat.le_of_ble_eq_true rfl) ?_
  refine ax_top (congrArg Value.int (show r_X12_above G L 5 = 2 from (show (if (5 : Int32) = 4 then (1 : Int32) else (if (5 : Int32) = 5 then 2 else (if (5 : Int32) = 6 then 3 else 0))) = 2 by decide))) ?_
  refine ax_iload_n (i := 3) dX12_hisses_112 rfl rfl ?_
  refine ax_cVq dX12_hisses_113 lk_X12_324 (hm2_3 hZ p hp6 ha hk (by omega) x) rfl (OKs hZ rfl) ⟨_, rfl, rfl⟩ rfl (Nat.le_of_ble_eq_true rfl) (Nat.le_of_ble_eq_true rfl) (Nat.le_of_ble_eq_true rfl) (Nat.le_of_ble_eq_true rfl) ?_
  rintro _ G1 _ ⟨rfl, rfl, ar1, fr'1, ft'1⟩
  have fr1 := fun a (h1 : a ≠ 100) (h2 : a ≠ 75) => (fr'1 a h1 h2).trans ((fun a _ _ => rfl) a h1 h2)
  have ft1 := fun i (h1 : i ≠ 37) => (ft'1 i h1).trans ((fun i _ => rfl) i h1)
  refine ax_iret dX12_hisses_116 rfl rfl (Nat.le_of_ble_eq_true rfl) (Nat.le_of_ble_eq_true rfl) ?_
  exact ⟨rfl, rfl, rfl, ar1, fr1, ft1⟩
theorem hm6_4 {Z : Zt} {G : Gt} {L : Lt} {R : Nat × (Nat → Int32)} {kk : Nat} {v : Int32} (hZ : OK Z) (p : Nat) (hp6 : p < 6) (ha : aM G R p kk v) (hk : kk < 7) (hb : R.1 ≤ 96) (x : Int32) : AC mX12_hisses 4 0 0 [.ref 75, .int (nI p), .int 6, .int x] Z G L (RP (.int ((x + nI p) ^^^ v)) (AQm Z G L (hisR 6 R) p kk v)) := by
  refine AC.intro (by decide +kernel) (Nat.le_of_ble_eq_true rfl) ?_
  refine ax_lv [(0, .ref 75), (1, .int (nI p)), (2, .int 6), (3, .int x)] ⟨rfl, rfl, rfl, rfl, trivial⟩ ?_
  refine ax_iload_n (i := 2) dX12_hisses_0 rfl rfl ?_
  refine ax_tin (off := 74) (tgt := 75) dX12_hisses_1 (by decide) (by decide) (by decide) (by decide) ?_
  refine ax_aload_n (i := 0) dX12_hisses_75 rfl rfl ?_
  refine ax_bipush (v := 71) dX12_hisses_76 (by decide) ?_
  refine ax_cVq0 dX12_hisses_78 lk_X12_321 (km_ran hZ ha (show R.1 ≤ 99 by omega) 71) rfl (OKs hZ rfl) ⟨_, rfl, rfl⟩ rfl (Nat.le_of_ble_eq_true rfl) (Nat.le_of_ble_eq_true rfl) (Nat.le_of_ble_eq_true rfl) (Nat.le_of_ble_eq_true rfl) ?_
  rintro _ G1 _ ⟨rfl, rfl, ar1, fr'1, ft'1⟩
  have fr1 := fun a (h1 : a ≠ 100) (h2 : a ≠ 75) => (fr'1 a h1 h2).trans ((fun a _ _ => rfl) a h1 h2)
  have ft1 := fun i (h1 : i ≠ 37) => (ft'1 i h1).trans ((fun i _ => rfl) i h1)
  refine ax_aload_n (i := 0) dX12_hisses_81 rfl rfl ?_
  refine ax_iload_n (i := 1) dX12_hisses_82 rfl rfl ?_
  refine ax_iconst (v := 3) dX12_hisses_83 (by decide) ?_
  refine ax_iload_n (i := 3) dX12_hisses_84 rfl rfl ?_
  refine ax_cVq dX12_hisses_85 lk_X12_324 (hm3_3 hZ p hp6 ar1 hk (show R.1 + 1 ≤ 97 by omega) x) rfl (OKs hZ rfl) ⟨_, rfl, rfl⟩ rfl (Nat.le_of_ble_eq_true rfl) (Nat.le_of_ble_eq_true rfl) (Nat.le_of_ble_eq_true rfl) (Nat.le_of_ble_eq_true rfl) ?_
  rintro _ G2 _ ⟨rfl, rfl, ar2, fr'2, ft'2⟩
  have fr2 := fun a (h1 : a ≠ 100) (h2 : a ≠ 75) => (fr'2 a h1 h2).trans (fr1 a h1 h2)
  have ft2 := fun i (h1 : i ≠ 37) => (ft'2 i h1).trans (ft1 i h1)
  refine ax_aload_n (i := 0) dX12_hisses_88 rfl rfl ?_
  refine ax_getR dX12_hisses_89 fl_X12_21 rfl (OKs hZ rfl) (OKr hZ rfl) ?_
  refine ax_iload_n (i := 1) dX12_hisses_92 rfl rfl ?_
  refine ax_ialdN p dX12_hisses_93 (OKs hZ rfl) rfl hp6 (by decide) ?_
  refine ax_top (congrArg Value.int ar2.2.2.2) ?_
  refine ax_ixor dX12_hisses_94 ?_
  refine ax_iret dX12_hisses_95 rfl rfl (Nat.le_of_ble_eq_true rfl) (Nat.le_of_ble_eq_true rfl) ?_
  exact ⟨rfl, rfl, rfl, ar2, fr2, ft2⟩
theorem hm_all {Z : Zt} {G : Gt} {L : Lt} {R : Nat × (Nat → Int32)} {kk : Nat} {v : Int32} (hZ : OK Z) (p : Nat) (hp6 : p < 6) (ha : aM G R p kk v) (hk : kk < 7) (hb : R.1 ≤ 96) (x : Int32) {k : Nat} (hk9 : k < 7) : AC mX12_hisses 4 0 0 [.ref 75, .int (nI p), .int (nI k), .int x] Z G L (RP (.int (hisV k (nI p) v x)) (AQm Z G L (hisR k R) p kk v)) :=
  kind7 (P := fun k => AC mX12_hisses 4 0 0 [.ref 75, .int (nI p), .int (nI k), .int x] Z G L (RP (.int (hisV k (nI p) v x)) (AQm Z G L (hisR k R) p kk v))) hk9 (hm0_4 hZ p hp6 ha hk hb x) (hm1_4 hZ p hp6 ha hk hb x) (hm2_4 hZ p hp6 ha hk hb x) (hm3_4 hZ p hp6 ha hk hb x) (hm4_4 hZ p hp6 ha hk hb x) (hm5_4 hZ p hp6 ha hk hb x) (hm6_4 hZ p hp6 ha hk hb x)
theorem cm0_5 {Z : Zt} {G : Gt} {L : Lt} {R : Nat × (Nat → Int32)} {kk : Nat} {v : Int32} (hZ : OK Z) (p : Nat) (hp6 : p < 6) (ha : aM G R p kk v) (hk : kk < 7) (hb : R.1 ≤ 95) (x : Int32) : AC mX12_climbs 5 0 0 [.ref 75, .int (nI p), .int 0, .int x] Z G L (RP (.int (cl0V kk (nI p) v x)) (AQm Z G L (clR 0 kk R) p kk v)) := by
  refine AC.intro (by decide +kernel) (Nat.le_of_ble_eq_true rfl) ?_
  refine ax_lv [(0, .ref 75), (1, .int (nI p)), (2, .int 0), (3, .int x)] ⟨rfl, rfl, rfl, rfl, trivial⟩ ?_
  refine ax_iload_n (i := 2) dX12_climbs_0 rfl rfl ?_
  refine ax_tin (off := 102) (tgt := 103) dX12_climbs_1 (by decide) (by decide) (by decide) (by decide) ?_
  refine ax_aload_n (i := 0) dX12_climbs_103 rfl rfl ?_
  refine ax_bipush (v := 11) dX12_climbs_104 (by decide) ?_
  refine ax_cVq0 dX12_climbs_106 lk_X12_321 (km_ran hZ ha (show R.1 ≤ 99 by omega) 11) rfl (OKs hZ rfl) ⟨_, rfl, rfl⟩ rfl (Nat.le_of_ble_eq_true rfl) (Nat.le_of_ble_eq_true rfl) (Nat.le_of_ble_eq_true rfl) (Nat.le_of_ble_eq_true rfl) ?_
  rintro _ G1 _ ⟨rfl, rfl, ar1, fr'1, ft'1⟩
  have fr1 := fun a (h1 : a ≠ 100) (h2 : a ≠ 75) => (fr'1 a h1 h2).trans ((fun a _ _ => rfl) a h1 h2)
  have ft1 := fun i (h1 : i ≠ 37) => (ft'1 i h1).trans ((fun i _ => rfl) i h1)
  refine ax_aload_n (i := 0) dX12_climbs_109 rfl rfl ?_
  refine ax_iload_n (i := 1) dX12_climbs_110 rfl rfl ?_
  refine ax_aload_n (i := 0) dX12_climbs_111 rfl rfl ?_
  refine ax_getR dX12_climbs_112 fl_X12_18 rfl (OKs hZ rfl) (OKr hZ rfl) ?_
  refine ax_iload_n (i := 1) dX12_climbs_115 rfl rfl ?_
  refine ax_ialdN p dX12_climbs_116 (OKs hZ rfl) rfl hp6 (by decide) ?_
  refine ax_top (congrArg Value.int ar1.2.2.1) ?_
  refine ax_iload_n (i := 3) dX12_climbs_117 rfl rfl ?_
  refine ax_cVq dX12_climbs_118 lk_X12_324 (hm_all hZ p hp6 ar1 hk (show R.1 + 1 ≤ 96 by omega) x hk) rfl (OKs hZ rfl) ⟨_, rfl, rfl⟩ rfl (Nat.le_of_ble_eq_true rfl) (Nat.le_of_ble_eq_true rfl) (Nat.le_of_ble_eq_true rfl) (Nat.le_of_ble_eq_true rfl) ?_
  rintro _ G2 _ ⟨rfl, rfl, ar2, fr'2, ft'2⟩
  have fr2 := fun a (h1 : a ≠ 100) (h2 : a ≠ 75) => (fr'2 a h1 h2).trans (fr1 a h1 h2)
  have ft2 := fun i (h1 : i ≠ 37) => (ft'2 i h1).trans (ft1 i h1)
  refine ax_aload_n (i := 0) dX12_climbs_121 rfl rfl ?_
  refine ax_getR dX12_climbs_122 fl_X12_21 rfl (OKs hZ rfl) (OKr hZ rfl) ?_
  refine ax_iload_n (i := 1) dX12_climbs_125 rfl rfl ?_
  refine ax_ialdN p dX12_climbs_126 (OKs hZ rfl) rfl hp6 (by decide) ?_
  refine ax_top (congrArg Value.int ar2.2.2.2) ?_
  refine ax_isub dX12_climbs_127 ?_
  refine ax_iret dX12_climbs_128 rfl rfl (Nat.le_of_ble_eq_true rfl) (Nat.le_of_ble_eq_true rfl) ?_
  exact ⟨rfl, rfl, rfl, ar2, fr2, ft2⟩
theorem cm1_6 {Z : Zt} {G : Gt} {L : Lt} {R : Nat × (Nat → Int32)} {kk : Nat} {v : Int32} (hZ : OK Z) (p : Nat) (hp6 : p < 6) (ha : aM G R p kk v) (hk : kk < 7) (hb : R.1 ≤ 94) (x : Int32) : AC mX12_climbs 6 0 0 [.ref 75, .int (nI p), .int 1, .int x] Z G L (RP (.int (cl0V kk (nI p) v x ^^^ 6)) (AQm Z G L (clR 1 kk R) p kk v)) := by
  refine AC.intro (by decide +kernel) (Nat.le_of_ble_eq_true rfl) ?_
  refine ax_lv [(0, .ref 75), (1, .int (nI p)), (2, .int 1), (3, .int x)] ⟨rfl, rfl, rfl, rfl, trivial⟩ ?_
  refine ax_iload_n (i := 2) dX12_climbs_0 rfl rfl ?_
  refine ax_tin (off := 43) (tgt := 44) dX12_climbs_1 (by decide) (by decide) (by decide) (by decide) ?_
  refine ax_aload_n (i := 0) dX12_climbs_44 rfl rfl ?_
  refine ax_bipush (v := 20) dX12_climbs_45 (by decide) ?_
  refine ax_cVq0 dX12_climbs_47 lk_X12_321 (km_ran hZ ha (show R.1 ≤ 99 by omega) 20) rfl (OKs hZ rfl) ⟨_, rfl, rfl⟩ rfl (Nat.le_of_ble_eq_true rfl) (Nat.le_of_ble_eq_true rfl) (Nat.le_of_ble_eq_true rfl) (Nat.le_of_ble_eq_true rfl) ?_
  rintro _ G1 _ ⟨rfl, rfl, ar1, fr'1, ft'1⟩
  have fr1 := fun a (h1 : a ≠ 100) (h2 : a ≠ 75) => (fr'1 a h1 h2).trans ((fun a _ _ => rfl) a h1 h2)
  have ft1 := fun i (h1 : i ≠ 37) => (ft'1 i h1).trans ((fun i _ => rfl) i h1)
  refine ax_aload_n (i := 0) dX12_climbs_50 rfl rfl ?_
  refine ax_iload_n (i := 1) dX12_climbs_51 rfl rfl ?_
  refine ax_iconst (v := 0) dX12_climbs_52 (by decide) ?_
  refine ax_iload_n (i := 3) dX12_climbs_53 rfl rfl ?_
  refine ax_cVq dX12_climbs_54 lk_X12_331 (cm0_5 hZ p hp6 ar1 hk (show R.1 + 1 ≤ 95 by omega) x) rfl (OKs hZ rfl) ⟨_, rfl, rfl⟩ rfl (Nat.le_of_ble_eq_true rfl) (Nat.le_of_ble_eq_true rfl) (Nat.le_of_ble_eq_true rfl) (Nat.le_of_ble_eq_true rfl) ?_
  rintro _ G2 _ ⟨rfl, rfl, ar2, fr'2, ft'2⟩
  have fr2 := fun a (h1 : a ≠ 100) (h2 : a ≠ 75) => (fr'2 a h1 h2).trans (fr1 a h1 h2)
  have ft2 := fun i (h1 : i ≠ 37) => (ft'2 i h1).trans (ft1 i h1)
  refine ax_bipush (v := 6) dX12_climbs_57 (by decide) ?_
  refine ax_ixor dX12_climbs_59 ?_
  refine ax_iret dX12_climbs_60 rfl rfl (Nat.le_of_ble_eq_true rfl) (Nat.le_of_ble_eq_true rfl) ?_
  exact ⟨rfl, rfl, rfl, ar2, fr2, ft2⟩
theorem cm2_6 {Z : Zt} {G : Gt} {L : Lt} {R : Nat × (Nat → Int32)} {kk : Nat} {v : Int32} (hZ : OK Z) (p : Nat) (hp6 : p < 6) (ha : aM G R p kk v) (hk : kk < 7) (hb : R.1 ≤ 94) (x : Int32) : AC mX12_climbs 6 0 0 [.ref 75, .int (nI p), .int 2, .int x] Z G L (RP (.int (cl0V kk (nI p) v x)) (AQm Z G L (clR 2 kk R) p kk v)) := by
  refine AC.intro (by decide +kernel) (Nat.le_of_ble_eq_true rfl) ?_
  refine ax_lv [(0, .ref 75), (1, .int (nI p)), (2, .int 2), (3, .int x)] ⟨rfl, rfl, rfl, rfl, trivial⟩ ?_
  refine ax_iload_n (i := 2) dX12_climbs_0 rfl rfl ?_
  refine ax_tin (off := 128) (tgt := 129) dX12_climbs_1 (by decide) (by decide) (by decide) (by decide) ?_
  refine ax_aload_n (i := 0) dX12_climbs_129 rfl rfl ?_
  refine ax_iload_n (i := 1) dX12_climbs_130 rfl rfl ?_
  refine ax_iload_n (i := 2) dX12_climbs_131 rfl rfl ?_
  refine ax_cSv dX12_climbs_132 lk_X12_328 (c_X12_above 2) rfl rfl (Nat.le_of_ble_eq_true rfl) (Nat.le_of_ble_eq_true rfl) (Nat.le_of_ble_eq_true rfl) (Nat.le_of_ble_eq_true rfl) ?_
  refine ax_top (congrArg Value.int (show r_X12_above G L 2 = 0 from (show (if (2 : Int32) = 4 then (1 : Int32) else (if (2 : Int32) = 5 then 2 else (if (2 : Int32) = 6 then 3 else 0))) = 0 by decide))) ?_
  refine ax_iload_n (i := 3) dX12_climbs_135 rfl rfl ?_
  refine ax_cVq dX12_climbs_136 lk_X12_331 (cm0_5 hZ p hp6 ha hk (by omega) x) rfl (OKs hZ rfl) ⟨_, rfl, rfl⟩ rfl (Nat.le_of_ble_eq_true rfl) (Nat.le_of_ble_eq_true rfl) (Nat.le_of_ble_eq_true rfl) (Nat.le_of_ble_eq_true rfl) ?_
  rintro _ G1 _ ⟨rfl, rfl, ar1, fr'1, ft'1⟩
  have fr1 := fun a (h1 : a ≠ 100) (h2 : a ≠ 75) => (fr'1 a h1 h2).trans ((fun a _ _ => rfl) a h1 h2)
  have ft1 := fun i (h1 : i ≠ 37) => (ft'1 i h1).trans ((fun i _ => rfl) i h1)
  refine ax_iret dX12_climbs_139 rfl rfl (Nat.le_of_ble_eq_true rfl) (Nat.le_of_ble_eq_true rfl) ?_
  exact ⟨rfl, rfl, rfl, ar1, fr1, ft1⟩
theorem cm3_6 {Z : Zt} {G : Gt} {L : Lt} {R : Nat × (Nat → Int32)} {kk : Nat} {v : Int32} (hZ : OK Z) (p : Nat) (hp6 : p < 6) (ha : aM G R p kk v) (hk : kk < 7) (hb : R.1 ≤ 94) (x : Int32) : AC mX12_climbs 6 0 0 [.ref 75, .int (nI p), .int 3, .int x] Z G L (RP (.int (cl0V kk (nI p) v x)) (AQm Z G L (clR 3 kk R) p kk v)) := by
  refine AC.intro (by decide +kernel) (Nat.le_of_ble_eq_true rfl) ?_
  refine ax_lv [(0, .ref 75), (1, .int (nI p)), (2, .int 3), (3, .int x)] ⟨rfl, rfl, rfl, rfl, trivial⟩ ?_
  refine ax_iload_n (i := 2) dX12_climbs_0 rfl rfl ?_
  refine ax_tin (off := 128) (tgt := 129) dX12_climbs_1 (by decide) (by decide) (by decide) (by decide) ?_
  refine ax_aload_n (i := 0) dX12_climbs_129 rfl rfl ?_
  refine ax_iload_n (i := 1) dX12_climbs_130 rfl rfl ?_
  refine ax_iload_n (i := 2) dX12_climbs_131 rfl rfl ?_
  refine ax_cSv dX12_climbs_132 lk_X12_328 (c_X12_above 3) rfl rfl (Nat.le_of_ble_eq_true rfl) (Nat.le_of_ble_eq_true rfl) (Nat.le_of_ble_eq_true rfl) (Nat.le_of_ble_eq_true rfl) ?_
  refine ax_top (congrArg Value.int (show r_X12_above G L 3 = 0 from (show (if (3 : Int32) = 4 then (1 : Int32) else (if (3 : Int32) = 5 then 2 else (if (3 : Int32) = 6 then 3 else 0))) = 0 by decide))) ?_
  refine ax_iload_n (i := 3) dX12_climbs_135 rfl rfl ?_
  refine ax_cVq dX12_climbs_136 lk_X12_331 (cm0_5 hZ p hp6 ha hk (by omega) x) rfl (OKs hZ rfl) ⟨_, rfl, rfl⟩ rfl (Nat.le_of_ble_eq_true rfl) (Nat.le_of_ble_eq_true rfl) (Nat.le_of_ble_eq_true rfl) (Nat.le_of_ble_eq_true rfl) ?_
  rintro _ G1 _ ⟨rfl, rfl, ar1, fr'1, ft'1⟩
  have fr1 := fun a (h1 : a ≠ 100) (h2 : a ≠ 75) => (fr'1 a h1 h2).trans ((fun a _ _ => rfl) a h1 h2)
  have ft1 := fun i (h1 : i ≠ 37) => (ft'1 i h1).trans ((fun i _ => rfl) i h1)
  refine ax_iret dX12_climbs_139 rfl rfl (Nat.le_of_ble_eq_true rfl) (Nat.le_of_ble_eq_true rfl) ?_
  exact ⟨rfl, rfl, rfl, ar1, fr1, ft1⟩
theorem cm0_7 {Z : Zt} {G : Gt} {L : Lt} {R : Nat × (Nat → Int32)} {kk : Nat} {v : Int32} (hZ : OK Z) (p : Nat) (hp6 : p < 6) (ha : aM G R p kk v) (hk : kk < 7) (hb : R.1 ≤ 93) (x : Int32) : AC mX12_climbs 7 0 0 [.ref 75, .int (nI p), .int 0, .int x] Z G L (RP (.int (cl0V kk (nI p) v x)) (AQm Z G L (clR 0 kk R) p kk v)) := by
  refine AC.intro (by decide +kernel) (Nat.le_of_ble_eq_true rfl) ?_
  refine ax_lv [(0, .ref 75), (1, .int (nI p)), (2, .int 0), (3, .int x)] ⟨rfl, rfl, rfl, rfl, trivial⟩ ?_
  refine ax_iload_n (i := 2) dX12_climbs_0 rfl rfl ?_
  refine ax_tin (off := 102) (tgt := 103) dX12_climbs_1 (by decide) (by decide) (by decide) (by decide) ?_
  refine ax_aload_n (i := 0) dX12_climbs_103 rfl rfl ?_
  refine ax_bipush (v := 11) dX12_climbs_104 (by decide) ?_
  refine ax_cVq0 dX12_climbs_106 lk_X12_321 (km_ran hZ ha (show R.1 ≤ 99 by omega) 11) rfl (OKs hZ rfl) ⟨_, rfl, rfl⟩ rfl (Nat.le_of_ble_eq_true rfl) (Nat.le_of_ble_eq_true rfl) (Nat.le_of_ble_eq_true rfl) (Nat.le_of_ble_eq_true rfl) ?_
  rintro _ G1 _ ⟨rfl, rfl, ar1, fr'1, ft'1⟩
  have fr1 := fun a (h1 : a ≠ 100) (h2 : a ≠ 75) => (fr'1 a h1 h2).trans ((fun a _ _ => rfl) a h1 h2)
  have ft1 := fun i (h1 : i ≠ 37) => (ft'1 i h1).trans ((fun i _ => rfl) i h1)
  refine ax_aload_n (i := 0) dX12_climbs_109 rfl rfl ?_
  refine ax_iload_n (i := 1) dX12_climbs_110 rfl rfl ?_
  refine ax_aload_n (i := 0) dX12_climbs_111 rfl rfl ?_
  refine ax_getR dX12_climbs_112 fl_X12_18 rfl (OKs hZ rfl) (OKr hZ rfl) ?_
  refine ax_iload_n (i := 1) dX12_climbs_115 rfl rfl ?_
  refine ax_ialdN p dX12_climbs_116 (OKs hZ rfl) rfl hp6 (by decide) ?_
  refine ax_top (congrArg Value.int ar1.2.2.1) ?_
  refine ax_iload_n (i := 3) dX12_climbs_117 rfl rfl ?_
  refine ax_cVq dX12_climbs_118 lk_X12_324 (hm_all hZ p hp6 ar1 hk (show R.1 + 1 ≤ 96 by omega) x hk) rfl (OKs hZ rfl) ⟨_, rfl, rfl⟩ rfl (Nat.le_of_ble_eq_true rfl) (Nat.le_of_ble_eq_true rfl) (Nat.le_of_ble_eq_true rfl) (Nat.le_of_ble_eq_true rfl) ?_
  rintro _ G2 _ ⟨rfl, rfl, ar2, fr'2, ft'2⟩
  have fr2 := fun a (h1 : a ≠ 100) (h2 : a ≠ 75) => (fr'2 a h1 h2).trans (fr1 a h1 h2)
  have ft2 := fun i (h1 : i ≠ 37) => (ft'2 i h1).trans (ft1 i h1)
  refine ax_aload_n (i := 0) dX12_climbs_121 rfl rfl ?_
  refine ax_getR dX12_climbs_122 fl_X12_21 rfl (OKs hZ rfl) (OKr hZ rfl) ?_
  refine ax_iload_n (i := 1) dX12_climbs_125 rfl rfl ?_
  refine ax_ialdN p dX12_climbs_126 (OKs hZ rfl) rfl hp6 (by decide) ?_
  refine ax_top (congrArg Value.int ar2.2.2.2) ?_
  refine ax_isub dX12_climbs_127 ?_
  refine ax_iret dX12_climbs_128 rfl rfl (Nat.le_of_ble_eq_true rfl) (Nat.le_of_ble_eq_true rfl) ?_
  exact ⟨rfl, rfl, rfl, ar2, fr2, ft2⟩
theorem cm1_7 {Z : Zt} {G : Gt} {L : Lt} {R : Nat × (Nat → Int32)} {kk : Nat} {v : Int32} (hZ : OK Z) (p : Nat) (hp6 : p < 6) (ha : aM G R p kk v) (hk : kk < 7) (hb : R.1 ≤ 93) (x : Int32) : AC mX12_climbs 7 0 0 [.ref 75, .int (nI p), .int 1, .int x] Z G L (RP (.int (cl0V kk (nI p) v x ^^^ 6)) (AQm Z G L (clR 1 kk R) p kk v)) := by
  refine AC.intro (by decide +kernel) (Nat.le_of_ble_eq_true rfl) ?_
  refine ax_lv [(0, .ref 75), (1, .int (nI p)), (2, .int 1), (3, .int x)] ⟨rfl, rfl, rfl, rfl, trivial⟩ ?_
  refine ax_iload_n (i := 2) dX12_climbs_0 rfl rfl ?_
  refine ax_tin (off := 43) (tgt := 44) dX12_climbs_1 (by decide) (by decide) (by decide) (by decide) ?_
  refine ax_aload_n (i := 0) dX12_climbs_44 rfl rfl ?_
  refine ax_bipush (v := 20) dX12_climbs_45 (by decide) ?_
  refine ax_cVq0 dX12_climbs_47 lk_X12_321 (km_ran hZ ha (show R.1 ≤ 99 by omega) 20) rfl (OKs hZ rfl) ⟨_, rfl, rfl⟩ rfl (Nat.le_of_ble_eq_true rfl) (Nat.le_of_ble_eq_true rfl) (Nat.le_of_ble_eq_true rfl) (Nat.le_of_ble_eq_true rfl) ?_
  rintro _ G1 _ ⟨rfl, rfl, ar1, fr'1, ft'1⟩
  have fr1 := fun a (h1 : a ≠ 100) (h2 : a ≠ 75) => (fr'1 a h1 h2).trans ((fun a _ _ => rfl) a h1 h2)
  have ft1 := fun i (h1 : i ≠ 37) => (ft'1 i h1).trans ((fun i _ => rfl) i h1)
  refine ax_aload_n (i := 0) dX12_climbs_50 rfl rfl ?_
  refine ax_iload_n (i := 1) dX12_climbs_51 rfl rfl ?_
  refine ax_iconst (v := 0) dX12_climbs_52 (by decide) ?_
  refine ax_iload_n (i := 3) dX12_climbs_53 rfl rfl ?_
  refine ax_cVq dX12_climbs_54 lk_X12_331 (cm0_5 hZ p hp6 ar1 hk (show R.1 + 1 ≤ 95 by omega) x) rfl (OKs hZ rfl) ⟨_, rfl, rfl⟩ rfl (Nat.le_of_ble_eq_true rfl) (Nat.le_of_ble_eq_true rfl) (Nat.le_of_ble_eq_true rfl) (Nat.le_of_ble_eq_true rfl) ?_
  rintro _ G2 _ ⟨rfl, rfl, ar2, fr'2, ft'2⟩
  have fr2 := fun a (h1 : a ≠ 100) (h2 : a ≠ 75) => (fr'2 a h1 h2).trans (fr1 a h1 h2)
  have ft2 := fun i (h1 : i ≠ 37) => (ft'2 i h1).trans (ft1 i h1)
  refine ax_bipush (v := 6) dX12_climbs_57 (by decide) ?_
  refine ax_ixor dX12_climbs_59 ?_
  refine ax_iret dX12_climbs_60 rfl rfl (Nat.le_of_ble_eq_true rfl) (Nat.le_of_ble_eq_true rfl) ?_
  exact ⟨rfl, rfl, rfl, ar2, fr2, ft2⟩
theorem cm2_7 {Z : Zt} {G : Gt} {L : Lt} {R : Nat × (Nat → Int32)} {kk : Nat} {v : Int32} (hZ : OK Z) (p : Nat) (hp6 : p < 6) (ha : aM G R p kk v) (hk : kk < 7) (hb : R.1 ≤ 93) (x : Int32) : AC mX12_climbs 7 0 0 [.ref 75, .int (nI p), .int 2, .int x] Z G L (RP (.int (cl0V kk (nI p) v x)) (AQm Z G L (clR 2 kk R) p kk v)) := by
  refine AC.intro (by decide +kernel) (Nat.le_of_ble_eq_true rfl) ?_
  refine ax_lv [(0, .ref 75), (1, .int (nI p)), (2, .int 2), (3, .int x)] ⟨rfl, rfl, rfl, rfl, trivial⟩ ?_
  refine ax_iload_n (i := 2) dX12_climbs_0 rfl rfl ?_
  refine ax_tin (off := 128) (tgt := 129) dX12_climbs_1 (by decide) (by decide) (by decide) (by decide) ?_
  refine ax_aload_n (i := 0) dX12_climbs_129 rfl rfl ?_
  refine ax_iload_n (i := 1) dX12_climbs_130 rfl rfl ?_
  refine ax_iload_n (i := 2) dX12_climbs_131 rfl rfl ?_
  refine ax_cSv dX12_climbs_132 lk_X12_328 (c_X12_above 2) rfl rfl (Nat.le_of_ble_eq_true rfl) (Nat.le_of_ble_eq_true rfl) (Nat.le_of_ble_eq_true rfl) (Nat.le_of_ble_eq_true rfl) ?_
  refine ax_top (congrArg Value.int (show r_X12_above G L 2 = 0 from (show (if (2 : Int32) = 4 then (1 : Int32) else (if (2 : Int32) = 5 then 2 else (if (2 : Int32) = 6 then 3 else 0))) = 0 by decide))) ?_
  refine ax_iload_n (i := 3) dX12_climbs_135 rfl rfl ?_
  refine ax_cVq dX12_climbs_136 lk_X12_331 (cm0_5 hZ p hp6 ha hk (by omega) x) rfl (OKs hZ rfl) ⟨_, rfl, rfl⟩ rfl (Nat.le_of_ble_eq_true rfl) (Nat.le_of_ble_eq_true rfl) (Nat.le_of_ble_eq_true rfl) (Nat.le_of_ble_eq_true rfl) ?_
  rintro _ G1 _ ⟨rfl, rfl, ar1, fr'1, ft'1⟩
  have fr1 := fun a (h1 : a ≠ 100) (h2 : a ≠ 75) => (fr'1 a h1 h2).trans ((fun a _ _ => rfl) a h1 h2)
  have ft1 := fun i (h1 : i ≠ 37) => (ft'1 i h1).trans ((fun i _ => rfl) i h1)
  refine ax_iret dX12_climbs_139 rfl rfl (Nat.le_of_ble_eq_true rfl) (Nat.le_of_ble_eq_true rfl) ?_
  exact ⟨rfl, rfl, rfl, ar1, fr1, ft1⟩
theorem cm3_7 {Z : Zt} {G : Gt} {L : Lt} {R : Nat × (Nat → Int32)} {kk : Nat} {v : Int32} (hZ : OK Z) (p : Nat) (hp6 : p < 6) (ha : aM G R p kk v) (hk : kk < 7) (hb : R.1 ≤ 93) (x : Int32) : AC mX12_climbs 7 0 0 [.ref 75, .int (nI p), .int 3, .int x] Z G L (RP (.int (cl0V kk (nI p) v x)) (AQm Z G L (clR 3 kk R) p kk v)) := by
  refine AC.intro (by decide +kernel) (Nat.le_of_ble_eq_true rfl) ?_
  refine ax_lv [(0, .ref 75), (1, .int (nI p)), (2, .int 3), (3, .int x)] ⟨rfl, rfl, rfl, rfl, trivial⟩ ?_
  refine ax_iload_n (i := 2) dX12_climbs_0 rfl rfl ?_
  refine ax_tin (off := 128) (tgt := 129) dX12_climbs_1 (by decide) (by decide) (by decide) (by decide) ?_
  refine ax_aload_n (i := 0) dX12_climbs_129 rfl rfl ?_
  refine ax_iload_n (i := 1) dX12_climbs_130 rfl rfl ?_
  refine ax_iload_n (i := 2) dX12_climbs_131 rfl rfl ?_
  refine ax_cSv dX12_climbs_132 lk_X12_328 (c_X12_above 3) rfl rfl (Nat.le_of_ble_eq_true rfl) (Nat.le_of_ble_eq_true rfl) (Nat.le_of_ble_eq_true rfl) (Nat.le_of_ble_eq_true rfl) ?_
  refine ax_top (congrArg Value.int (show r_X12_above G L 3 = 0 from (show (if (3 : Int32) = 4 then (1 : Int32) else (if (3 : Int32) = 5 then 2 else (if (3 : Int32) = 6 then 3 else 0))) = 0 by decide))) ?_
  refine ax_iload_n (i := 3) dX12_climbs_135 rfl rfl ?_
  refine ax_cVq dX12_climbs_136 lk_X12_331 (cm0_5 hZ p hp6 ha hk (by omega) x) rfl (OKs hZ rfl) ⟨_, rfl, rfl⟩ rfl (Nat.le_of_ble_eq_true rfl) (Nat.le_of_ble_eq_true rfl) (Nat.le_of_ble_eq_true rfl) (Nat.le_of_ble_eq_true rfl) ?_
  rintro _ G1 _ ⟨rfl, rfl, ar1, fr'1, ft'1⟩
  have fr1 := fun a (h1 : a ≠ 100) (h2 : a ≠ 75) => (fr'1 a h1 h2).trans ((fun a _ _ => rfl) a h1 h2)
  have ft1 := fun i (h1 : i ≠ 37) => (ft'1 i h1).trans ((fun i _ => rfl) i h1)
  refine ax_iret dX12_climbs_139 rfl rfl (Nat.le_of_ble_eq_true rfl) (Nat.le_of_ble_eq_true rfl) ?_
  exact ⟨rfl, rfl, rfl, ar1, fr1, ft1⟩
theorem cm4_7 {Z : Zt} {G : Gt} {L : Lt} {R : Nat × (Nat → Int32)} {kk : Nat} {v : Int32} (hZ : OK Z) (p : Nat) (hp6 : p < 6) (ha : aM G R p kk v) (hk : kk < 7) (hb : R.1 ≤ 93) (x : Int32) : AC mX12_climbs 7 0 0 [.ref 75, .int (nI p), .int 4, .int x] Z G L (RP (.int (cl0V kk (nI p) v (x + 1) ^^^ 6)) (AQm Z G L (clR 4 kk R) p kk v)) := by
  refine AC.intro (by decide +kernel) (Nat.le_of_ble_eq_true rfl) ?_
  refine ax_lv [(0, .ref 75), (1, .int (nI p)), (2, .int 4), (3, .int x)] ⟨rfl, rfl, rfl, rfl, trivial⟩ ?_
  refine ax_iload_n (i := 2) dX12_climbs_0 rfl rfl ?_
  refine ax_tin (off := 60) (tgt := 61) dX12_climbs_1 (by decide) (by decide) (by decide) (by decide) ?_
  refine ax_aload_n (i := 0) dX12_climbs_61 rfl rfl ?_
  refine ax_bipush (v := 51) dX12_climbs_62 (by decide) ?_
  refine ax_cVq0 dX12_climbs_64 lk_X12_321 (km_ran hZ ha (show R.1 ≤ 99 by omega) 51) rfl (OKs hZ rfl) ⟨_, rfl, rfl⟩ rfl (Nat.le_of_ble_eq_true rfl) (Nat.le_of_ble_eq_true rfl) (Nat.le_of_ble_eq_true rfl) (Nat.le_of_ble_eq_true rfl) ?_
  rintro _ G1 _ ⟨rfl, rfl, ar1, fr'1, ft'1⟩
  have fr1 := fun a (h1 : a ≠ 100) (h2 : a ≠ 75) => (fr'1 a h1 h2).trans ((fun a _ _ => rfl) a h1 h2)
  have ft1 := fun i (h1 : i ≠ 37) => (ft'1 i h1).trans ((fun i _ => rfl) i h1)
  refine ax_aload_n (i := 0) dX12_climbs_67 rfl rfl ?_
  refine ax_iload_n (i := 1) dX12_climbs_68 rfl rfl ?_
  refine ax_iconst (v := 1) dX12_climbs_69 (by decide) ?_
  refine ax_iload_n (i := 3) dX12_climbs_70 rfl rfl ?_
  refine ax_iconst (v := 1) dX12_climbs_71 (by decide) ?_
  refine ax_iadd dX12_climbs_72 ?_
  refine ax_cVq dX12_climbs_73 lk_X12_331 (cm1_6 hZ p hp6 ar1 hk (show R.1 + 1 ≤ 94 by omega) (x + 1)) rfl (OKs hZ rfl) ⟨_, rfl, rfl⟩ rfl (Nat.le_of_ble_eq_true rfl) (Nat.le_of_ble_eq_true rfl) (Nat.le_of_ble_eq_true rfl) (Nat.le_of_ble_eq_true rfl) ?_
  rintro _ G2 _ ⟨rfl, rfl, ar2, fr'2, ft'2⟩
  have fr2 := fun a (h1 : a ≠ 100) (h2 : a ≠ 75) => (fr'2 a h1 h2).trans (fr1 a h1 h2)
  have ft2 := fun i (h1 : i ≠ 37) => (ft'2 i h1).trans (ft1 i h1)
  refine ax_iret dX12_climbs_76 rfl rfl (Nat.le_of_ble_eq_true rfl) (Nat.le_of_ble_eq_true rfl) ?_
  exact ⟨rfl, rfl, rfl, ar2, fr2, ft2⟩
theorem cm5_7 {Z : Zt} {G : Gt} {L : Lt} {R : Nat × (Nat → Int32)} {kk : Nat} {v : Int32} (hZ : OK Z) (p : Nat) (hp6 : p < 6) (ha : aM G R p kk v) (hk : kk < 7) (hb : R.1 ≤ 93) (x : Int32) : AC mX12_climbs 7 0 0 [.ref 75, .int (nI p), .int 5, .int x] Z G L (RP (.int (cl0V kk (nI p) v x)) (AQm Z G L (clR 5 kk R) p kk v)) := by
  refine AC.intro (by decide +kernel) (Nat.le_of_ble_eq_true rfl) ?_
  refine ax_lv [(0, .ref 75), (1, .int (nI p)), (2, .int 5), (3, .int x)] ⟨rfl, rfl, rfl, rfl, trivial⟩ ?_
  refine ax_iload_n (i := 2) dX12_climbs_0 rfl rfl ?_
  refine ax_tin (off := 128) (tgt := 129) dX12_climbs_1 (by decide) (by decide) (by decide) (by decide) ?_
  refine ax_aload_n (i := 0) dX12_climbs_129 rfl rfl ?_
  refine ax_iload_n (i := 1) dX12_climbs_130 rfl rfl ?_
  refine ax_iload_n (i := 2) dX12_climbs_131 rfl rfl ?_
  refine ax_cSv dX12_climbs_132 lk_X12_328 (c_X12_above 5) rfl rfl (Nat.le_of_ble_eq_true rfl) (Nat.le_of_ble_eq_true rfl) (Nat.le_of_ble_eq_true rfl) (Nat.le_of_ble_eq_true rfl) ?_
  refine ax_top (congrArg Value.int (show r_X12_above G L 5 = 2 from (show (if (5 : Int32) = 4 then (1 : Int32) else (if (5 : Int32) = 5 then 2 else (if (5 : Int32) = 6 then 3 else 0))) = 2 by decide))) ?_
  refine ax_iload_n (i := 3) dX12_climbs_135 rfl rfl ?_
  refine ax_cVq dX12_climbs_136 lk_X12_331 (cm2_6 hZ p hp6 ha hk (by omega) x) rfl (OKs hZ rfl) ⟨_, rfl, rfl⟩ rfl (Nat.le_of_ble_eq_true rfl) (Nat.le_of_ble_eq_true rfl) (Nat.le_of_ble_eq_true rfl) (Nat.le_of_ble_eq_true rfl) ?_
  rintro _ G1 _ ⟨rfl, rfl, ar1, fr'1, ft'1⟩
  have fr1 := fun a (h1 : a ≠ 100) (h2 : a ≠ 75) => (fr'1 a h1 h2).trans ((fun a _ _ => rfl) a h1 h2)
  have ft1 := fun i (h1 : i ≠ 37) => (ft'1 i h1).trans ((fun i _ => rfl) i h1)
  refine ax_iret dX12_climbs_139 rfl rfl (Nat.le_of_ble_eq_true rfl) (Nat.le_of_ble_eq_true rfl) ?_
  exact ⟨rfl, rfl, rfl, ar1, fr1, ft1⟩
theorem cm6_7 {Z : Zt} {G : Gt} {L : Lt} {R : Nat × (Nat → Int32)} {kk : Nat} {v : Int32} (hZ : OK Z) (p : Nat) (hp6 : p < 6) (ha : aM G R p kk v) (hk : kk < 7) (hb : R.1 ≤ 93) (x : Int32) : AC mX12_climbs 7 0 0 [.ref 75, .int (nI p), .int 6, .int x] Z G L (RP (.int (cl0V kk (nI p) v x + (2 + nI p))) (AQm Z G L (clR 6 kk R) p kk v)) := by
  refine AC.intro (by decide +kernel) (Nat.le_of_ble_eq_true rfl) ?_
  refine ax_lv [(0, .ref 75), (1, .int (nI p)), (2, .int 6), (3, .int x)] ⟨rfl, rfl, rfl, rfl, trivial⟩ ?_
  refine ax_iload_n (i := 2) dX12_climbs_0 rfl rfl ?_
  refine ax_tin (off := 76) (tgt := 77) dX12_climbs_1 (by decide) (by decide) (by decide) (by decide) ?_
  refine ax_aload_n (i := 0) dX12_climbs_77 rfl rfl ?_
  refine ax_bipush (v := 70) dX12_climbs_78 (by decide) ?_
  refine ax_cVq0 dX12_climbs_80 lk_X12_321 (km_ran hZ ha (show R.1 ≤ 99 by omega) 70) rfl (OKs hZ rfl) ⟨_, rfl, rfl⟩ rfl (Nat.le_of_ble_eq_true rfl) (Nat.le_of_ble_eq_true rfl) (Nat.le_of_ble_eq_true rfl) (Nat.le_of_ble_eq_true rfl) ?_
  rintro _ G1 _ ⟨rfl, rfl, ar1, fr'1, ft'1⟩
  have fr1 := fun a (h1 : a ≠ 100) (h2 : a ≠ 75) => (fr'1 a h1 h2).trans ((fun a _ _ => rfl) a h1 h2)
  have ft1 := fun i (h1 : i ≠ 37) => (ft'1 i h1).trans ((fun i _ => rfl) i h1)
  refine ax_aload_n (i := 0) dX12_climbs_83 rfl rfl ?_
  refine ax_iload_n (i := 1) dX12_climbs_84 rfl rfl ?_
  refine ax_iconst (v := 3) dX12_climbs_85 (by decide) ?_
  refine ax_iload_n (i := 3) dX12_climbs_86 rfl rfl ?_
  refine ax_cVq dX12_climbs_87 lk_X12_331 (cm3_6 hZ p hp6 ar1 hk (show R.1 + 1 ≤ 94 by omega) x) rfl (OKs hZ rfl) ⟨_, rfl, rfl⟩ rfl (Nat.le_of_ble_eq_true rfl) (Nat.le_of_ble_eq_true rfl) (Nat.le_of_ble_eq_true rfl) (Nat.le_of_ble_eq_true rfl) ?_
  rintro _ G2 _ ⟨rfl, rfl, ar2, fr'2, ft'2⟩
  have fr2 := fun a (h1 : a ≠ 100) (h2 : a ≠ 75) => (fr'2 a h1 h2).trans (fr1 a h1 h2)
  have ft2 := fun i (h1 : i ≠ 37) => (ft'2 i h1).trans (ft1 i h1)
  refine ax_istore dX12_climbs_90 (by decide) rfl ?_
  refine ax_iload dX12_climbs_92 rfl ?_
  refine ax_aload_n (i := 0) dX12_climbs_94 rfl rfl ?_
  refine ax_iload_n (i := 1) dX12_climbs_95 rfl rfl ?_
  refine ax_iconst (v := 3) dX12_climbs_96 (by decide) ?_
  refine ax_iconst (v := 2) dX12_climbs_97 (by decide) ?_
  refine ax_cVq dX12_climbs_98 lk_X12_324 (hm3_3 hZ p hp6 ar2 hk (show (cl0R kk (rAdd R 70)).1 ≤ 97 from by have z := cl0R_b kk (rAdd R 70); have z2 : (rAdd R 70).1 = R.1 + 1 := rfl; omega) 2) rfl (OKs hZ rfl) ⟨_, rfl, rfl⟩ rfl (Nat.le_of_ble_eq_true rfl) (Nat.le_of_ble_eq_true rfl) (Nat.le_of_ble_eq_true rfl) (Nat.le_of_ble_eq_true rfl) ?_
  rintro _ G3 _ ⟨rfl, rfl, ar3, fr'3, ft'3⟩
  have fr3 := fun a (h1 : a ≠ 100) (h2 : a ≠ 75) => (fr'3 a h1 h2).trans (fr2 a h1 h2)
  have ft3 := fun i (h1 : i ≠ 37) => (ft'3 i h1).trans (ft2 i h1)
  refine ax_iadd dX12_climbs_101 ?_
  refine ax_iret dX12_climbs_102 rfl rfl (Nat.le_of_ble_eq_true rfl) (Nat.le_of_ble_eq_true rfl) ?_
  exact ⟨rfl, rfl, rfl, ar3, fr3, ft3⟩
theorem cm_all {Z : Zt} {G : Gt} {L : Lt} {R : Nat × (Nat → Int32)} {kk : Nat} {v : Int32} (hZ : OK Z) (p : Nat) (hp6 : p < 6) (ha : aM G R p kk v) (hk : kk < 7) (hb : R.1 ≤ 93) (x : Int32) {k : Nat} (hk9 : k < 7) : AC mX12_climbs 7 0 0 [.ref 75, .int (nI p), .int (nI k), .int x] Z G L (RP (.int (clK k kk (nI p) v x)) (AQm Z G L (clR k kk R) p kk v)) :=
  kind7 (P := fun k => AC mX12_climbs 7 0 0 [.ref 75, .int (nI p), .int (nI k), .int x] Z G L (RP (.int (clK k kk (nI p) v x)) (AQm Z G L (clR k kk R) p kk v))) hk9 (cm0_7 hZ p hp6 ha hk hb x) (cm1_7 hZ p hp6 ha hk hb x) (cm2_7 hZ p hp6 ha hk hb x) (cm3_7 hZ p hp6 ha hk hb x) (cm4_7 hZ p hp6 ha hk hb x) (cm5_7 hZ p hp6 ha hk hb x) (cm6_7 hZ p hp6 ha hk hb x)
theorem cm_own {Z : Zt} {G : Gt} {L : Lt} {R : Nat × (Nat → Int32)} {kk : Nat} {v : Int32} (hZ : OK Z) (p : Nat) (hp6 : p < 6) (ha : aM G R p kk v) (hk : kk < 7) (hb : R.1 ≤ 93) (x : Int32) : AC mX12_climbs 7 0 0 [.ref 75, .int (nI p), .int (nI kk), .int x] Z G L (RP (.int (cliV kk (nI p) v x)) (AQm Z G L (cliR kk R) p kk v)) := by
  rw [← clK_e hk, ← clR_e hk]
  exact cm_all hZ p hp6 ha hk hb x hk
theorem tm0_8 {Z : Zt} {G : Gt} {L : Lt} {R : Nat × (Nat → Int32)} {kk : Nat} {v : Int32} (hZ : OK Z) (p : Nat) (hp6 : p < 6) (ha : aM G R p kk v) (hk : kk < 7) (hb : R.1 ≤ 92) (x : Int32) : AC mX12_tells 8 0 0 [.ref 75, .int (nI p), .int 0, .int x] Z G L (RP (.int (te0V kk (nI p) v x)) (AQm Z G L (teR 0 kk R) p kk v)) := by
  refine AC.intro (by decide +kernel) (Nat.le_of_ble_eq_true rfl) ?_
  refine ax_lv [(0, .ref 75), (1, .int (nI p)), (2, .int 0), (3, .int x)] ⟨rfl, rfl, rfl, rfl, trivial⟩ ?_
  refine ax_iload_n (i := 2) dX12_tells_0 rfl rfl ?_
  refine ax_lookup (off := 82) (tgt := 83) dX12_tells_1 (by decide) (by decide) (by decide) ?_
  refine ax_aload_n (i := 0) dX12_tells_83 rfl rfl ?_
  refine ax_bipush (v := 12) dX12_tells_84 (by decide) ?_
  refine ax_cVq0 dX12_tells_86 lk_X12_321 (km_ran hZ ha (show R.1 ≤ 99 by omega) 12) rfl (OKs hZ rfl) ⟨_, rfl, rfl⟩ rfl (Nat.le_of_ble_eq_true rfl) (Nat.le_of_ble_eq_true rfl) (Nat.le_of_ble_eq_true rfl) (Nat.le_of_ble_eq_true rfl) ?_
  rintro _ G1 _ ⟨rfl, rfl, ar1, fr'1, ft'1⟩
  have fr1 := fun a (h1 : a ≠ 100) (h2 : a ≠ 75) => (fr'1 a h1 h2).trans ((fun a _ _ => rfl) a h1 h2)
  have ft1 := fun i (h1 : i ≠ 37) => (ft'1 i h1).trans ((fun i _ => rfl) i h1)
  refine ax_aload_n (i := 0) dX12_tells_89 rfl rfl ?_
  refine ax_iload_n (i := 1) dX12_tells_90 rfl rfl ?_
  refine ax_aload_n (i := 0) dX12_tells_91 rfl rfl ?_
  refine ax_getR dX12_tells_92 fl_X12_18 rfl (OKs hZ rfl) (OKr hZ rfl) ?_
  refine ax_iload_n (i := 1) dX12_tells_95 rfl rfl ?_
  refine ax_ialdN p dX12_tells_96 (OKs hZ rfl) rfl hp6 (by decide) ?_
  refine ax_top (congrArg Value.int ar1.2.2.1) ?_
  refine ax_iload_n (i := 3) dX12_tells_97 rfl rfl ?_
  refine ax_cVq dX12_tells_98 lk_X12_331 (cm_own hZ p hp6 ar1 hk (show R.1 + 1 ≤ 93 by omega) x) rfl (OKs hZ rfl) ⟨_, rfl, rfl⟩ rfl (Nat.le_of_ble_eq_true rfl) (Nat.le_of_ble_eq_true rfl) (Nat.le_of_ble_eq_true rfl) (Nat.le_of_ble_eq_true rfl) ?_
  rintro _ G2 _ ⟨rfl, rfl, ar2, fr'2, ft'2⟩
  have fr2 := fun a (h1 : a ≠ 100) (h2 : a ≠ 75) => (fr'2 a h1 h2).trans (fr1 a h1 h2)
  have ft2 := fun i (h1 : i ≠ 37) => (ft'2 i h1).trans (ft1 i h1)
  refine ax_iconst (v := 2) dX12_tells_101 (by decide) ?_
  refine ax_imul dX12_tells_102 ?_
  refine ax_iret dX12_tells_103 rfl rfl (Nat.le_of_ble_eq_true rfl) (Nat.le_of_ble_eq_true rfl) ?_
  exact ⟨rfl, rfl, rfl, ar2, fr2, ft2⟩
theorem tm1_9 {Z : Zt} {G : Gt} {L : Lt} {R : Nat × (Nat → Int32)} {kk : Nat} {v : Int32} (hZ : OK Z) (p : Nat) (hp6 : p < 6) (ha : aM G R p kk v) (hk : kk < 7) (hb : R.1 ≤ 91) (x : Int32) : AC mX12_tells 9 0 0 [.ref 75, .int (nI p), .int 1, .int x] Z G L (RP (.int (te0V kk (nI p) v x)) (AQm Z G L (teR 1 kk R) p kk v)) := by
  refine AC.intro (by decide +kernel) (Nat.le_of_ble_eq_true rfl) ?_
  refine ax_lv [(0, .ref 75), (1, .int (nI p)), (2, .int 1), (3, .int x)] ⟨rfl, rfl, rfl, rfl, trivial⟩ ?_
  refine ax_iload_n (i := 2) dX12_tells_0 rfl rfl ?_
  refine ax_lookup (off := 103) (tgt := 104) dX12_tells_1 (by decide) (by decide) (by decide) ?_
  refine ax_aload_n (i := 0) dX12_tells_104 rfl rfl ?_
  refine ax_iload_n (i := 1) dX12_tells_105 rfl rfl ?_
  refine ax_iload_n (i := 2) dX12_tells_106 rfl rfl ?_
  refine ax_cSv dX12_tells_107 lk_X12_328 (c_X12_above 1) rfl rfl (Nat.le_of_ble_eq_true rfl) (Nat.le_of_ble_eq_true rfl) (Nat.le_of_ble_eq_true rfl) (Nat.le_of_ble_eq_true rfl) ?_
  refine ax_top (congrArg Value.int (show r_X12_above G L 1 = 0 from (show (if (1 : Int32) = 4 then (1 : Int32) else (if (1 : Int32) = 5 then 2 else (if (1 : Int32) = 6 then 3 else 0))) = 0 by decide))) ?_
  refine ax_iload_n (i := 3) dX12_tells_110 rfl rfl ?_
  refine ax_cVq dX12_tells_111 lk_X12_334 (tm0_8 hZ p hp6 ha hk (by omega) x) rfl (OKs hZ rfl) ⟨_, rfl, rfl⟩ rfl (Nat.le_of_ble_eq_true rfl) (Nat.le_of_ble_eq_true rfl) (Nat.le_of_ble_eq_true rfl) (Nat.le_of_ble_eq_true rfl) ?_
  rintro _ G1 _ ⟨rfl, rfl, ar1, fr'1, ft'1⟩
  have fr1 := fun a (h1 : a ≠ 100) (h2 : a ≠ 75) => (fr'1 a h1 h2).trans ((fun a _ _ => rfl) a h1 h2)
  have ft1 := fun i (h1 : i ≠ 37) => (ft'1 i h1).trans ((fun i _ => rfl) i h1)
  refine ax_iret dX12_tells_114 rfl rfl (Nat.le_of_ble_eq_true rfl) (Nat.le_of_ble_eq_true rfl) ?_
  exact ⟨rfl, rfl, rfl, ar1, fr1, ft1⟩
theorem tm2_9 {Z : Zt} {G : Gt} {L : Lt} {R : Nat × (Nat → Int32)} {kk : Nat} {v : Int32} (hZ : OK Z) (p : Nat) (hp6 : p < 6) (ha : aM G R p kk v) (hk : kk < 7) (hb : R.1 ≤ 91) (x : Int32) : AC mX12_tells 9 0 0 [.ref 75, .int (nI p), .int 2, .int x] Z G L (RP (.int (te0V kk (nI p) v x)) (AQm Z G L (teR 2 kk R) p kk v)) := by
  refine AC.intro (by decide +kernel) (Nat.le_of_ble_eq_true rfl) ?_
  refine ax_lv [(0, .ref 75), (1, .int (nI p)), (2, .int 2), (3, .int x)] ⟨rfl, rfl, rfl, rfl, trivial⟩ ?_
  refine ax_iload_n (i := 2) dX12_tells_0 rfl rfl ?_
  refine ax_lookup (off := 103) (tgt := 104) dX12_tells_1 (by decide) (by decide) (by decide) ?_
  refine ax_aload_n (i := 0) dX12_tells_104 rfl rfl ?_
  refine ax_iload_n (i := 1) dX12_tells_105 rfl rfl ?_
  refine ax_iload_n (i := 2) dX12_tells_106 rfl rfl ?_
  refine ax_cSv dX12_tells_107 lk_X12_328 (c_X12_above 2) rfl rfl (Nat.le_of_ble_eq_true rfl) (Nat.le_of_ble_eq_true rfl) (Nat.le_of_ble_eq_true rfl) (Nat.le_of_ble_eq_true rfl) ?_
  refine ax_top (congrArg Value.int (show r_X12_above G L 2 = 0 from (show (if (2 : Int32) = 4 then (1 : Int32) else (if (2 : Int32) = 5 then 2 else (if (2 : Int32) = 6 then 3 else 0))) = 0 by decide))) ?_
  refine ax_iload_n (i := 3) dX12_tells_110 rfl rfl ?_
  refine ax_cVq dX12_tells_111 lk_X12_334 (tm0_8 hZ p hp6 ha hk (by omega) x) rfl (OKs hZ rfl) ⟨_, rfl, rfl⟩ rfl (Nat.le_of_ble_eq_true rfl) (Nat.le_of_ble_eq_true rfl) (Nat.le_of_ble_eq_true rfl) (Nat.le_of_ble_eq_true rfl) ?_
  rintro _ G1 _ ⟨rfl, rfl, ar1, fr'1, ft'1⟩
  have fr1 := fun a (h1 : a ≠ 100) (h2 : a ≠ 75) => (fr'1 a h1 h2).trans ((fun a _ _ => rfl) a h1 h2)
  have ft1 := fun i (h1 : i ≠ 37) => (ft'1 i h1).trans ((fun i _ => rfl) i h1)
  refine ax_iret dX12_tells_114 rfl rfl (Nat.le_of_ble_eq_true rfl) (Nat.le_of_ble_eq_true rfl) ?_
  exact ⟨rfl, rfl, rfl, ar1, fr1, ft1⟩
theorem tm3_9 {Z : Zt} {G : Gt} {L : Lt} {R : Nat × (Nat → Int32)} {kk : Nat} {v : Int32} (hZ : OK Z) (p : Nat) (hp6 : p < 6) (ha : aM G R p kk v) (hk : kk < 7) (hb : R.1 ≤ 85) (x : Int32) : AC mX12_tells 9 0 0 [.ref 75, .int (nI p), .int 3, .int x] Z G L (RP (.int (te0V kk (nI p) v x + cliV kk (nI p) v 1)) (AQm Z G L (teR 3 kk R) p kk v)) := by
  refine AC.intro (by decide +kernel) (Nat.le_of_ble_eq_true rfl) ?_
  refine ax_lv [(0, .ref 75), (1, .int (nI p)), (2, .int 3), (3, .int x)] ⟨rfl, rfl, rfl, rfl, trivial⟩ ?_
  refine ax_iload_n (i := 2) dX12_tells_0 rfl rfl ?_
  refine ax_lookup (off := 35) (tgt := 36) dX12_tells_1 (by decide) (by decide) (by decide) ?_
  refine ax_aload_n (i := 0) dX12_tells_36 rfl rfl ?_
  refine ax_bipush (v := 40) dX12_tells_37 (by decide) ?_
  refine ax_cVq0 dX12_tells_39 lk_X12_321 (km_ran hZ ha (show R.1 ≤ 99 by omega) 40) rfl (OKs hZ rfl) ⟨_, rfl, rfl⟩ rfl (Nat.le_of_ble_eq_true rfl) (Nat.le_of_ble_eq_true rfl) (Nat.le_of_ble_eq_true rfl) (Nat.le_of_ble_eq_true rfl) ?_
  rintro _ G1 _ ⟨rfl, rfl, ar1, fr'1, ft'1⟩
  have fr1 := fun a (h1 : a ≠ 100) (h2 : a ≠ 75) => (fr'1 a h1 h2).trans ((fun a _ _ => rfl) a h1 h2)
  have ft1 := fun i (h1 : i ≠ 37) => (ft'1 i h1).trans ((fun i _ => rfl) i h1)
  refine ax_aload_n (i := 0) dX12_tells_42 rfl rfl ?_
  refine ax_iload_n (i := 1) dX12_tells_43 rfl rfl ?_
  refine ax_iconst (v := 0) dX12_tells_44 (by decide) ?_
  refine ax_iload_n (i := 3) dX12_tells_45 rfl rfl ?_
  refine ax_cVq dX12_tells_46 lk_X12_334 (tm0_8 hZ p hp6 ar1 hk (show R.1 + 1 ≤ 92 by omega) x) rfl (OKs hZ rfl) ⟨_, rfl, rfl⟩ rfl (Nat.le_of_ble_eq_true rfl) (Nat.le_of_ble_eq_true rfl) (Nat.le_of_ble_eq_true rfl) (Nat.le_of_ble_eq_true rfl) ?_
  rintro _ G2 _ ⟨rfl, rfl, ar2, fr'2, ft'2⟩
  have fr2 := fun a (h1 : a ≠ 100) (h2 : a ≠ 75) => (fr'2 a h1 h2).trans (fr1 a h1 h2)
  have ft2 := fun i (h1 : i ≠ 37) => (ft'2 i h1).trans (ft1 i h1)
  refine ax_istore dX12_tells_49 (by decide) rfl ?_
  refine ax_iload dX12_tells_51 rfl ?_
  refine ax_aload_n (i := 0) dX12_tells_53 rfl rfl ?_
  refine ax_iload_n (i := 1) dX12_tells_54 rfl rfl ?_
  refine ax_aload_n (i := 0) dX12_tells_55 rfl rfl ?_
  refine ax_getR dX12_tells_56 fl_X12_18 rfl (OKs hZ rfl) (OKr hZ rfl) ?_
  refine ax_iload_n (i := 1) dX12_tells_59 rfl rfl ?_
  refine ax_ialdN p dX12_tells_60 (OKs hZ rfl) rfl hp6 (by decide) ?_
  refine ax_top (congrArg Value.int ar2.2.2.1) ?_
  refine ax_iconst (v := 1) dX12_tells_61 (by decide) ?_
  refine ax_cVq dX12_tells_62 lk_X12_331 (cm_own hZ p hp6 ar2 hk (show (te0R kk (rAdd R 40)).1 ≤ 93 from by have z := te0R_b kk (rAdd R 40); have z2 : (rAdd R 40).1 = R.1 + 1 := rfl; omega) 1) rfl (OKs hZ rfl) ⟨_, rfl, rfl⟩ rfl (Nat.le_of_ble_eq_true rfl) (Nat.le_of_ble_eq_true rfl) (Nat.le_of_ble_eq_true rfl) (Nat.le_of_ble_eq_true rfl) ?_
  rintro _ G3 _ ⟨rfl, rfl, ar3, fr'3, ft'3⟩
  have fr3 := fun a (h1 : a ≠ 100) (h2 : a ≠ 75) => (fr'3 a h1 h2).trans (fr2 a h1 h2)
  have ft3 := fun i (h1 : i ≠ 37) => (ft'3 i h1).trans (ft2 i h1)
  refine ax_iadd dX12_tells_65 ?_
  refine ax_iret dX12_tells_66 rfl rfl (Nat.le_of_ble_eq_true rfl) (Nat.le_of_ble_eq_true rfl) ?_
  exact ⟨rfl, rfl, rfl, ar3, fr3, ft3⟩
theorem tm0_10 {Z : Zt} {G : Gt} {L : Lt} {R : Nat × (Nat → Int32)} {kk : Nat} {v : Int32} (hZ : OK Z) (p : Nat) (hp6 : p < 6) (ha : aM G R p kk v) (hk : kk < 7) (hb : R.1 ≤ 80) (x : Int32) : AC mX12_tells 10 0 0 [.ref 75, .int (nI p), .int 0, .int x] Z G L (RP (.int (te0V kk (nI p) v x)) (AQm Z G L (teR 0 kk R) p kk v)) := by
  refine AC.intro (by decide +kernel) (Nat.le_of_ble_eq_true rfl) ?_
  refine ax_lv [(0, .ref 75), (1, .int (nI p)), (2, .int 0), (3, .int x)] ⟨rfl, rfl, rfl, rfl, trivial⟩ ?_
  refine ax_iload_n (i := 2) dX12_tells_0 rfl rfl ?_
  refine ax_lookup (off := 82) (tgt := 83) dX12_tells_1 (by decide) (by decide) (by decide) ?_
  refine ax_aload_n (i := 0) dX12_tells_83 rfl rfl ?_
  refine ax_bipush (v := 12) dX12_tells_84 (by decide) ?_
  refine ax_cVq0 dX12_tells_86 lk_X12_321 (km_ran hZ ha (show R.1 ≤ 99 by omega) 12) rfl (OKs hZ rfl) ⟨_, rfl, rfl⟩ rfl (Nat.le_of_ble_eq_true rfl) (Nat.le_of_ble_eq_true rfl) (Nat.le_of_ble_eq_true rfl) (Nat.le_of_ble_eq_true rfl) ?_
  rintro _ G1 _ ⟨rfl, rfl, ar1, fr'1, ft'1⟩
  have fr1 := fun a (h1 : a ≠ 100) (h2 : a ≠ 75) => (fr'1 a h1 h2).trans ((fun a _ _ => rfl) a h1 h2)
  have ft1 := fun i (h1 : i ≠ 37) => (ft'1 i h1).trans ((fun i _ => rfl) i h1)
  refine ax_aload_n (i := 0) dX12_tells_89 rfl rfl ?_
  refine ax_iload_n (i := 1) dX12_tells_90 rfl rfl ?_
  refine ax_aload_n (i := 0) dX12_tells_91 rfl rfl ?_
  refine ax_getR dX12_tells_92 fl_X12_18 rfl (OKs hZ rfl) (OKr hZ rfl) ?_
  refine ax_iload_n (i := 1) dX12_tells_95 rfl rfl ?_
  refine ax_ialdN p dX12_tells_96 (OKs hZ rfl) rfl hp6 (by decide) ?_
  refine ax_top (congrArg Value.int ar1.2.2.1) ?_
  refine ax_iload_n (i := 3) dX12_tells_97 rfl rfl ?_
  refine ax_cVq dX12_tells_98 lk_X12_331 (cm_own hZ p hp6 ar1 hk (show R.1 + 1 ≤ 93 by omega) x) rfl (OKs hZ rfl) ⟨_, rfl, rfl⟩ rfl (Nat.le_of_ble_eq_true rfl) (Nat.le_of_ble_eq_true rfl) (Nat.le_of_ble_eq_true rfl) (Nat.le_of_ble_eq_true rfl) ?_
  rintro _ G2 _ ⟨rfl, rfl, ar2, fr'2, ft'2⟩
  have fr2 := fun a (h1 : a ≠ 100) (h2 : a ≠ 75) => (fr'2 a h1 h2).trans (fr1 a h1 h2)
  have ft2 := fun i (h1 : i ≠ 37) => (ft'2 i h1).trans (ft1 i h1)
  refine ax_iconst (v := 2) dX12_tells_101 (by decide) ?_
  refine ax_imul dX12_tells_102 ?_
  refine ax_iret dX12_tells_103 rfl rfl (Nat.le_of_ble_eq_true rfl) (Nat.le_of_ble_eq_true rfl) ?_
  exact ⟨rfl, rfl, rfl, ar2, fr2, ft2⟩
theorem tm1_10 {Z : Zt} {G : Gt} {L : Lt} {R : Nat × (Nat → Int32)} {kk : Nat} {v : Int32} (hZ : OK Z) (p : Nat) (hp6 : p < 6) (ha : aM G R p kk v) (hk : kk < 7) (hb : R.1 ≤ 80) (x : Int32) : AC mX12_tells 10 0 0 [.ref 75, .int (nI p), .int 1, .int x] Z G L (RP (.int (te0V kk (nI p) v x)) (AQm Z G L (teR 1 kk R) p kk v)) := by
  refine AC.intro (by decide +kernel) (Nat.le_of_ble_eq_true rfl) ?_
  refine ax_lv [(0, .ref 75), (1, .int (nI p)), (2, .int 1), (3, .int x)] ⟨rfl, rfl, rfl, rfl, trivial⟩ ?_
  refine ax_iload_n (i := 2) dX12_tells_0 rfl rfl ?_
  refine ax_lookup (off := 103) (tgt := 104) dX12_tells_1 (by decide) (by decide) (by decide) ?_
  refine ax_aload_n (i := 0) dX12_tells_104 rfl rfl ?_
  refine ax_iload_n (i := 1) dX12_tells_105 rfl rfl ?_
  refine ax_iload_n (i := 2) dX12_tells_106 rfl rfl ?_
  refine ax_cSv dX12_tells_107 lk_X12_328 (c_X12_above 1) rfl rfl (Nat.le_of_ble_eq_true rfl) (Nat.le_of_ble_eq_true rfl) (Nat.le_of_ble_eq_true rfl) (Nat.le_of_ble_eq_true rfl) ?_
  refine ax_top (congrArg Value.int (show r_X12_above G L 1 = 0 from (show (if (1 : Int32) = 4 then (1 : Int32) else (if (1 : Int32) = 5 then 2 else (if (1 : Int32) = 6 then 3 else 0))) = 0 by decide))) ?_
  refine ax_iload_n (i := 3) dX12_tells_110 rfl rfl ?_
  refine ax_cVq dX12_tells_111 lk_X12_334 (tm0_8 hZ p hp6 ha hk (by omega) x) rfl (OKs hZ rfl) ⟨_, rfl, rfl⟩ rfl (Nat.le_of_ble_eq_true rfl) (Nat.le_of_ble_eq_true rfl) (Nat.le_of_ble_eq_true rfl) (Nat.le_of_ble_eq_true rfl) ?_
  rintro _ G1 _ ⟨rfl, rfl, ar1, fr'1, ft'1⟩
  have fr1 := fun a (h1 : a ≠ 100) (h2 : a ≠ 75) => (fr'1 a h1 h2).trans ((fun a _ _ => rfl) a h1 h2)
  have ft1 := fun i (h1 : i ≠ 37) => (ft'1 i h1).trans ((fun i _ => rfl) i h1)
  refine ax_iret dX12_tells_114 rfl rfl (Nat.le_of_ble_eq_true rfl) (Nat.le_of_ble_eq_true rfl) ?_
  exact ⟨rfl, rfl, rfl, ar1, fr1, ft1⟩
theorem tm2_10 {Z : Zt} {G : Gt} {L : Lt} {R : Nat × (Nat → Int32)} {kk : Nat} {v : Int32} (hZ : OK Z) (p : Nat) (hp6 : p < 6) (ha : aM G R p kk v) (hk : kk < 7) (hb : R.1 ≤ 80) (x : Int32) : AC mX12_tells 10 0 0 [.ref 75, .int (nI p), .int 2, .int x] Z G L (RP (.int (te0V kk (nI p) v x)) (AQm Z G L (teR 2 kk R) p kk v)) := by
  refine AC.intro (by decide +kernel) (Nat.le_of_ble_eq_true rfl) ?_
  refine ax_lv [(0, .ref 75), (1, .int (nI p)), (2, .int 2), (3, .int x)] ⟨rfl, rfl, rfl, rfl, trivial⟩ ?_
  refine ax_iload_n (i := 2) dX12_tells_0 rfl rfl ?_
  refine ax_lookup (off := 103) (tgt := 104) dX12_tells_1 (by decide) (by decide) (by decide) ?_
  refine ax_aload_n (i := 0) dX12_tells_104 rfl rfl ?_
  refine ax_iload_n (i := 1) dX12_tells_105 rfl rfl ?_
  refine ax_iload_n (i := 2) dX12_tells_106 rfl rfl ?_
  refine ax_cSv dX12_tells_107 lk_X12_328 (c_X12_above 2) rfl rfl (Nat.le_of_ble_eq_true rfl) (Nat.le_of_ble_eq_true rfl) (Nat.le_of_ble_eq_true rfl) (Nat.le_of_ble_eq_true rfl) ?_
  refine ax_top (congrArg Value.int (show r_X12_above G L 2 = 0 from (show (if (2 : Int32) = 4 then (1 : Int32) else (if (2 : Int32) = 5 then 2 else (if (2 : Int32) = 6 then 3 else 0))) = 0 by decide))) ?_
  refine ax_iload_n (i := 3) dX12_tells_110 rfl rfl ?_
  refine ax_cVq dX12_tells_111 lk_X12_334 (tm0_8 hZ p hp6 ha hk (by omega) x) rfl (OKs hZ rfl) ⟨_, rfl, rfl⟩ rfl (Nat.le_of_ble_eq_true rfl) (Nat.le_of_ble_eq_true rfl) (Nat.le_of_ble_eq_true rfl) (Nat.le_of_ble_eq_true rfl) ?_
  rintro _ G1 _ ⟨rfl, rfl, ar1, fr'1, ft'1⟩
  have fr1 := fun a (h1 : a ≠ 100) (h2 : a ≠ 75) => (fr'1 a h1 h2).trans ((fun a _ _ => rfl) a h1 h2)
  have ft1 := fun i (h1 : i ≠ 37) => (ft'1 i h1).trans ((fun i _ => rfl) i h1)
  refine ax_iret dX12_tells_114 rfl rfl (Nat.le_of_ble_eq_true rfl) (Nat.le_of_ble_eq_true rfl) ?_
  exact ⟨rfl, rfl, rfl, ar1, fr1, ft1⟩
theorem tm3_10 {Z : Zt} {G : Gt} {L : Lt} {R : Nat × (Nat → Int32)} {kk : Nat} {v : Int32} (hZ : OK Z) (p : Nat) (hp6 : p < 6) (ha : aM G R p kk v) (hk : kk < 7) (hb : R.1 ≤ 80) (x : Int32) : AC mX12_tells 10 0 0 [.ref 75, .int (nI p), .int 3, .int x] Z G L (RP (.int (te0V kk (nI p) v x + cliV kk (nI p) v 1)) (AQm Z G L (teR 3 kk R) p kk v)) := by
  refine AC.intro (by decide +kernel) (Nat.le_of_ble_eq_true rfl) ?_
  refine ax_lv [(0, .ref 75), (1, .int (nI p)), (2, .int 3), (3, .int x)] ⟨rfl, rfl, rfl, rfl, trivial⟩ ?_
  refine ax_iload_n (i := 2) dX12_tells_0 rfl rfl ?_
  refine ax_lookup (off := 35) (tgt := 36) dX12_tells_1 (by decide) (by decide) (by decide) ?_
  refine ax_aload_n (i := 0) dX12_tells_36 rfl rfl ?_
  refine ax_bipush (v := 40) dX12_tells_37 (by decide) ?_
  refine ax_cVq0 dX12_tells_39 lk_X12_321 (km_ran hZ ha (show R.1 ≤ 99 by omega) 40) rfl (OKs hZ rfl) ⟨_, rfl, rfl⟩ rfl (Nat.le_of_ble_eq_true rfl) (Nat.le_of_ble_eq_true rfl) (Nat.le_of_ble_eq_true rfl) (Nat.le_of_ble_eq_true rfl) ?_
  rintro _ G1 _ ⟨rfl, rfl, ar1, fr'1, ft'1⟩
  have fr1 := fun a (h1 : a ≠ 100) (h2 : a ≠ 75) => (fr'1 a h1 h2).trans ((fun a _ _ => rfl) a h1 h2)
  have ft1 := fun i (h1 : i ≠ 37) => (ft'1 i h1).trans ((fun i _ => rfl) i h1)
  refine ax_aload_n (i := 0) dX12_tells_42 rfl rfl ?_
  refine ax_iload_n (i := 1) dX12_tells_43 rfl rfl ?_
  refine ax_iconst (v := 0) dX12_tells_44 (by decide) ?_
  refine ax_iload_n (i := 3) dX12_tells_45 rfl rfl ?_
  refine ax_cVq dX12_tells_46 lk_X12_334 (tm0_8 hZ p hp6 ar1 hk (show R.1 + 1 ≤ 92 by omega) x) rfl (OKs hZ rfl) ⟨_, rfl, rfl⟩ rfl (Nat.le_of_ble_eq_true rfl) (Nat.le_of_ble_eq_true rfl) (Nat.le_of_ble_eq_true rfl) (Nat.le_of_ble_eq_true rfl) ?_
  rintro _ G2 _ ⟨rfl, rfl, ar2, fr'2, ft'2⟩
  have fr2 := fun a (h1 : a ≠ 100) (h2 : a ≠ 75) => (fr'2 a h1 h2).trans (fr1 a h1 h2)
  have ft2 := fun i (h1 : i ≠ 37) => (ft'2 i h1).trans (ft1 i h1)
  refine ax_istore dX12_tells_49 (by decide) rfl ?_
  refine ax_iload dX12_tells_51 rfl ?_
  refine ax_aload_n (i := 0) dX12_tells_53 rfl rfl ?_
  refine ax_iload_n (i := 1) dX12_tells_54 rfl rfl ?_
  refine ax_aload_n (i := 0) dX12_tells_55 rfl rfl ?_
  refine ax_getR dX12_tells_56 fl_X12_18 rfl (OKs hZ rfl) (OKr hZ rfl) ?_
  refine ax_iload_n (i := 1) dX12_tells_59 rfl rfl ?_
  refine ax_ialdN p dX12_tells_60 (OKs hZ rfl) rfl hp6 (by decide) ?_
  refine ax_top (congrArg Value.int ar2.2.2.1) ?_
  refine ax_iconst (v := 1) dX12_tells_61 (by decide) ?_
  refine ax_cVq dX12_tells_62 lk_X12_331 (cm_own hZ p hp6 ar2 hk (show (te0R kk (rAdd R 40)).1 ≤ 93 from by have z := te0R_b kk (rAdd R 40); have z2 : (rAdd R 40).1 = R.1 + 1 := rfl; omega) 1) rfl (OKs hZ rfl) ⟨_, rfl, rfl⟩ rfl (Nat.le_of_ble_eq_true rfl) (Nat.le_of_ble_eq_true rfl) (Nat.le_of_ble_eq_true rfl) (Nat.le_of_ble_eq_true rfl) ?_
  rintro _ G3 _ ⟨rfl, rfl, ar3, fr'3, ft'3⟩
  have fr3 := fun a (h1 : a ≠ 100) (h2 : a ≠ 75) => (fr'3 a h1 h2).trans (fr2 a h1 h2)
  have ft3 := fun i (h1 : i ≠ 37) => (ft'3 i h1).trans (ft2 i h1)
  refine ax_iadd dX12_tells_65 ?_
  refine ax_iret dX12_tells_66 rfl rfl (Nat.le_of_ble_eq_true rfl) (Nat.le_of_ble_eq_true rfl) ?_
  exact ⟨rfl, rfl, rfl, ar3, fr3, ft3⟩
theorem tm4_10 {Z : Zt} {G : Gt} {L : Lt} {R : Nat × (Nat → Int32)} {kk : Nat} {v : Int32} (hZ : OK Z) (p : Nat) (hp6 : p < 6) (ha : aM G R p kk v) (hk : kk < 7) (hb : R.1 ≤ 80) (x : Int32) : AC mX12_tells 10 0 0 [.ref 75, .int (nI p), .int 4, .int x] Z G L (RP (.int (te0V kk (nI p) v x)) (AQm Z G L (teR 4 kk R) p kk v)) := by
  refine AC.intro (by decide +kernel) (Nat.le_of_ble_eq_true rfl) ?_
  refine ax_lv [(0, .ref 75), (1, .int (nI p)), (2, .int 4), (3, .int x)] ⟨rfl, rfl, rfl, rfl, trivial⟩ ?_
  refine ax_iload_n (i := 2) dX12_tells_0 rfl rfl ?_
  refine ax_lookup (off := 103) (tgt := 104) dX12_tells_1 (by decide) (by decide) (by decide) ?_
  refine ax_aload_n (i := 0) dX12_tells_104 rfl rfl ?_
  refine ax_iload_n (i := 1) dX12_tells_105 rfl rfl ?_
  refine ax_iload_n (i := 2) dX12_tells_106 rfl rfl ?_
  refine ax_cSv dX12_tells_107 lk_X12_328 (c_X12_above 4) rfl rfl (Nat.le_of_ble_eq_true rfl) (Nat.le_of_ble_eq_true rfl) (Nat.le_of_ble_eq_true rfl) (Nat.le_of_ble_eq_true rfl) ?_
  refine ax_top (congrArg Value.int (show r_X12_above G L 4 = 1 from (show (if (4 : Int32) = 4 then (1 : Int32) else (if (4 : Int32) = 5 then 2 else (if (4 : Int32) = 6 then 3 else 0))) = 1 by decide))) ?_
  refine ax_iload_n (i := 3) dX12_tells_110 rfl rfl ?_
  refine ax_cVq dX12_tells_111 lk_X12_334 (tm1_9 hZ p hp6 ha hk (by omega) x) rfl (OKs hZ rfl) ⟨_, rfl, rfl⟩ rfl (Nat.le_of_ble_eq_true rfl) (Nat.le_of_ble_eq_true rfl) (Nat.le_of_ble_eq_true rfl) (Nat.le_of_ble_eq_true rfl) ?_
  rintro _ G1 _ ⟨rfl, rfl, ar1, fr'1, ft'1⟩
  have fr1 := fun a (h1 : a ≠ 100) (h2 : a ≠ 75) => (fr'1 a h1 h2).trans ((fun a _ _ => rfl) a h1 h2)
  have ft1 := fun i (h1 : i ≠ 37) => (ft'1 i h1).trans ((fun i _ => rfl) i h1)
  refine ax_iret dX12_tells_114 rfl rfl (Nat.le_of_ble_eq_true rfl) (Nat.le_of_ble_eq_true rfl) ?_
  exact ⟨rfl, rfl, rfl, ar1, fr1, ft1⟩
theorem tm5_10 {Z : Zt} {G : Gt} {L : Lt} {R : Nat × (Nat → Int32)} {kk : Nat} {v : Int32} (hZ : OK Z) (p : Nat) (hp6 : p < 6) (ha : aM G R p kk v) (hk : kk < 7) (hb : R.1 ≤ 80) (x : Int32) : AC mX12_tells 10 0 0 [.ref 75, .int (nI p), .int 5, .int x] Z G L (RP (.int (te0V kk (nI p) v (x - nI p))) (AQm Z G L (teR 5 kk R) p kk v)) := by
  refine AC.intro (by decide +kernel) (Nat.le_of_ble_eq_true rfl) ?_
  refine ax_lv [(0, .ref 75), (1, .int (nI p)), (2, .int 5), (3, .int x)] ⟨rfl, rfl, rfl, rfl, trivial⟩ ?_
  refine ax_iload_n (i := 2) dX12_tells_0 rfl rfl ?_
  refine ax_lookup (off := 66) (tgt := 67) dX12_tells_1 (by decide) (by decide) (by decide) ?_
  refine ax_aload_n (i := 0) dX12_tells_67 rfl rfl ?_
  refine ax_bipush (v := 60) dX12_tells_68 (by decide) ?_
  refine ax_cVq0 dX12_tells_70 lk_X12_321 (km_ran hZ ha (show R.1 ≤ 99 by omega) 60) rfl (OKs hZ rfl) ⟨_, rfl, rfl⟩ rfl (Nat.le_of_ble_eq_true rfl) (Nat.le_of_ble_eq_true rfl) (Nat.le_of_ble_eq_true rfl) (Nat.le_of_ble_eq_true rfl) ?_
  rintro _ G1 _ ⟨rfl, rfl, ar1, fr'1, ft'1⟩
  have fr1 := fun a (h1 : a ≠ 100) (h2 : a ≠ 75) => (fr'1 a h1 h2).trans ((fun a _ _ => rfl) a h1 h2)
  have ft1 := fun i (h1 : i ≠ 37) => (ft'1 i h1).trans ((fun i _ => rfl) i h1)
  refine ax_aload_n (i := 0) dX12_tells_73 rfl rfl ?_
  refine ax_iload_n (i := 1) dX12_tells_74 rfl rfl ?_
  refine ax_iconst (v := 2) dX12_tells_75 (by decide) ?_
  refine ax_iload_n (i := 3) dX12_tells_76 rfl rfl ?_
  refine ax_iload_n (i := 1) dX12_tells_77 rfl rfl ?_
  refine ax_isub dX12_tells_78 ?_
  refine ax_cVq dX12_tells_79 lk_X12_334 (tm2_9 hZ p hp6 ar1 hk (show R.1 + 1 ≤ 91 by omega) (x - (nI p))) rfl (OKs hZ rfl) ⟨_, rfl, rfl⟩ rfl (Nat.le_of_ble_eq_true rfl) (Nat.le_of_ble_eq_true rfl) (Nat.le_of_ble_eq_true rfl) (Nat.le_of_ble_eq_true rfl) ?_
  rintro _ G2 _ ⟨rfl, rfl, ar2, fr'2, ft'2⟩
  have fr2 := fun a (h1 : a ≠ 100) (h2 : a ≠ 75) => (fr'2 a h1 h2).trans (fr1 a h1 h2)
  have ft2 := fun i (h1 : i ≠ 37) => (ft'2 i h1).trans (ft1 i h1)
  refine ax_iret dX12_tells_82 rfl rfl (Nat.le_of_ble_eq_true rfl) (Nat.le_of_ble_eq_true rfl) ?_
  exact ⟨rfl, rfl, rfl, ar2, fr2, ft2⟩
theorem tm6_10 {Z : Zt} {G : Gt} {L : Lt} {R : Nat × (Nat → Int32)} {kk : Nat} {v : Int32} (hZ : OK Z) (p : Nat) (hp6 : p < 6) (ha : aM G R p kk v) (hk : kk < 7) (hb : R.1 ≤ 80) (x : Int32) : AC mX12_tells 10 0 0 [.ref 75, .int (nI p), .int 6, .int x] Z G L (RP (.int (te0V kk (nI p) v x + cliV kk (nI p) v 1)) (AQm Z G L (teR 6 kk R) p kk v)) := by
  refine AC.intro (by decide +kernel) (Nat.le_of_ble_eq_true rfl) ?_
  refine ax_lv [(0, .ref 75), (1, .int (nI p)), (2, .int 6), (3, .int x)] ⟨rfl, rfl, rfl, rfl, trivial⟩ ?_
  refine ax_iload_n (i := 2) dX12_tells_0 rfl rfl ?_
  refine ax_lookup (off := 103) (tgt := 104) dX12_tells_1 (by decide) (by decide) (by decide) ?_
  refine ax_aload_n (i := 0) dX12_tells_104 rfl rfl ?_
  refine ax_iload_n (i := 1) dX12_tells_105 rfl rfl ?_
  refine ax_iload_n (i := 2) dX12_tells_106 rfl rfl ?_
  refine ax_cSv dX12_tells_107 lk_X12_328 (c_X12_above 6) rfl rfl (Nat.le_of_ble_eq_true rfl) (Nat.le_of_ble_eq_true rfl) (Nat.le_of_ble_eq_true rfl) (Nat.le_of_ble_eq_true rfl) ?_
  refine ax_top (congrArg Value.int (show r_X12_above G L 6 = 3 from (show (if (6 : Int32) = 4 then (1 : Int32) else (if (6 : Int32) = 5 then 2 else (if (6 : Int32) = 6 then 3 else 0))) = 3 by decide))) ?_
  refine ax_iload_n (i := 3) dX12_tells_110 rfl rfl ?_
  refine ax_cVq dX12_tells_111 lk_X12_334 (tm3_9 hZ p hp6 ha hk (by omega) x) rfl (OKs hZ rfl) ⟨_, rfl, rfl⟩ rfl (Nat.le_of_ble_eq_true rfl) (Nat.le_of_ble_eq_true rfl) (Nat.le_of_ble_eq_true rfl) (Nat.le_of_ble_eq_true rfl) ?_
  rintro _ G1 _ ⟨rfl, rfl, ar1, fr'1, ft'1⟩
  have fr1 := fun a (h1 : a ≠ 100) (h2 : a ≠ 75) => (fr'1 a h1 h2).trans ((fun a _ _ => rfl) a h1 h2)
  have ft1 := fun i (h1 : i ≠ 37) => (ft'1 i h1).trans ((fun i _ => rfl) i h1)
  refine ax_iret dX12_tells_114 rfl rfl (Nat.le_of_ble_eq_true rfl) (Nat.le_of_ble_eq_true rfl) ?_
  exact ⟨rfl, rfl, rfl, ar1, fr1, ft1⟩
theorem tm_all {Z : Zt} {G : Gt} {L : Lt} {R : Nat × (Nat → Int32)} {kk : Nat} {v : Int32} (hZ : OK Z) (p : Nat) (hp6 : p < 6) (ha : aM G R p kk v) (hk : kk < 7) (hb : R.1 ≤ 80) (x : Int32) {k : Nat} (hk9 : k < 7) : AC mX12_tells 10 0 0 [.ref 75, .int (nI p), .int (nI k), .int x] Z G L (RP (.int (teK k kk (nI p) v x)) (AQm Z G L (teR k kk R) p kk v)) :=
  kind7 (P := fun k => AC mX12_tells 10 0 0 [.ref 75, .int (nI p), .int (nI k), .int x] Z G L (RP (.int (teK k kk (nI p) v x)) (AQm Z G L (teR k kk R) p kk v))) hk9 (tm0_10 hZ p hp6 ha hk hb x) (tm1_10 hZ p hp6 ha hk hb x) (tm2_10 hZ p hp6 ha hk hb x) (tm3_10 hZ p hp6 ha hk hb x) (tm4_10 hZ p hp6 ha hk hb x) (tm5_10 hZ p hp6 ha hk hb x) (tm6_10 hZ p hp6 ha hk hb x)
theorem jact {Z : Zt} {G : Gt} {L : Lt} {W : Wv} {H : Hv} {I : Option (Wv × Hv)} {T : Nat × (Nat → Nat)} {R : Nat × (Nat → Int32)} {P : Pt9} {n9 : Nat} {G' : Gt} {R' : Nat × (Nat → Int32)} (h : IM G L W H I T R P n9) (h1 : G' 75 37 = nI R'.1) (h2 : ∀ i, i < 20 → i < R'.1 → G' 100 i = R'.2 i) (f : ∀ a, a ≠ 100 → a ≠ 75 → G' a = G a) (g : ∀ i, i ≠ 37 → G' 75 i = G 75 i) : JQ Z G L W H I T R' P n9 Z G' L := by
  obtain ⟨b1, b2, b3, b4, b5, b6, b7⟩ := h
  exact ⟨rfl, ⟨vM_keep b1 (fun a x y => f a (by omega) (by omega)) (fun i hi => g i (by omega)), hM_keep b2 (fun i hi => g i (by omega)) (fun a x y => f a (by omega) (by omega)), imI_keep b3 (g 39 (by decide)) (f 101 (by decide) (by decide)) (fun a x y => f a (by omega) (by omega)) (g 17 (by decide)) (g 25 (by decide)), imT_keep b4 (g 11 (by decide)) (f 85 (by decide) (by decide)), ⟨h1, h2⟩, imP_keep b6 (f 105 (by decide) (by decide)) (f 106 (by decide) (by decide)) rfl, imN_keep b7 (g 17 (by decide)) (g 25 (by decide))⟩, fun a ha => ⟨f a (by omega) (by omega), rfl⟩⟩
theorem y_act {Z : Zt} {G : Gt} {L : Lt} {W : Wv} {H : Hv} {I : Option (Wv × Hv)} {T : Nat × (Nat → Nat)} {R : Nat × (Nat → Int32)} {P : Pt9} {n9 : Nat} (hZ : OK Z) (ok : okA W H I T R P n9) (h : IM G L W H I T R P n9) (a b x : Int32) : AC mX12_act 11 0 0 [.ref 75, .int a, .int b, .int x] Z G L (RP (.int (acA W R.2 a b x).1) (JQ Z G L W H I T (acA W R.2 a b x).2 P n9)) := by
  obtain ⟨⟨ho, h9⟩, hh, -⟩ := id ok
  obtain ⟨hv, hH, -⟩ := id h
  refine AC.intro (by decide +kernel) (Nat.le_of_ble_eq_true rfl) ?_
  refine ax_lv [(0, .ref 75), (1, .int a), (2, .int b), (3, .int x)] ⟨rfl, rfl, rfl, rfl, trivial⟩ ?_
  refine ax_aload_n (i := 0) dX12_act_0 rfl rfl ?_
  refine ax_iconst (v := 0) dX12_act_1 (by decide) ?_
  refine ax_putI dX12_act_2 fl_X12_318 (Or.inl fp_X12_12_37) rfl rfl rfl (OKs hZ rfl) ?_
  refine ax_aload_n (i := 0) dX12_act_5 rfl rfl ?_
  refine ax_iload_n (i := 1) dX12_act_6 rfl rfl ?_
  refine ax_cVv dX12_act_7 lk_X12_125 (c_X12_isOne hZ a) rfl (OKs hZ rfl) ⟨_, rfl, rfl⟩ rfl (Nat.le_of_ble_eq_true rfl) (Nat.le_of_ble_eq_true rfl) (Nat.le_of_ble_eq_true rfl) (Nat.le_of_ble_eq_true rfl) ?_
  refine ax_top (congrArg Value.int (show wi _ 0 ((up2 G 75 37 0) 75 2 - 1) = wi _ 0 (nI W.m - 1) from by rw [up2_i (by decide), hv.1])) ?_
  refine ax_if_eq (tgt := 22) dX12_act_10 (by decide) (fun c_10 => ?_) (fun c_10 => ?_)
  · refine ax_iconst (v := 0) dX12_act_22 (by decide) ?_
    refine ax_iret dX12_act_23 rfl rfl (Nat.le_of_ble_eq_true rfl) (Nat.le_of_ble_eq_true rfl) ?_
    have e9 : acA W R.2 a b x = (0, (0, R.2)) := by unfold acA; rw [if_pos c_10]
    rw [e9]
    exact ⟨rfl, jact (G := G) h up2_s (fun i _ h => absurd h (Nat.not_lt_zero i)) (fun a _ h2 => up2_row h2) (fun i hi => up2_i hi)⟩
  · refine ax_iload_n (i := 2) dX12_act_13 rfl rfl ?_
    refine ax_iconst (v := 0) dX12_act_14 (by decide) ?_
    refine ax_iconst (v := 2) dX12_act_15 (by decide) ?_
    refine ax_cSv dX12_act_16 lk_X12_117 (c_X12_within b 0 2) rfl rfl (Nat.le_of_ble_eq_true rfl) (Nat.le_of_ble_eq_true rfl) (Nat.le_of_ble_eq_true rfl) (Nat.le_of_ble_eq_true rfl) ?_
    refine ax_if_ne (tgt := 24) dX12_act_19 (by decide) (fun c_19 => ?_) (fun c_19 => ?_)
    · obtain ⟨p, hp, rfl⟩ := has_p ho.1 c_10
      have hp6 : p < 6 := by have := ho.1; omega
      obtain ⟨kk, hk7, hkk⟩ := ho.2.2.1 p hp
      have ha9 : aM (up2 G 75 37 0) (0, R.2) p kk (W.C p 1) := ⟨up2_s, fun i _ h => absurd h (Nat.not_lt_zero i), by rw [up2_k (by decide)]; exact ((hv.2.2.1 p hp).1 0 (by decide)).trans hkk, by rw [up2_k (by decide)]; exact (hv.2.2.1 p hp).1 1 (by decide)⟩
      refine ax_aload_n (i := 0) dX12_act_24 rfl rfl ?_
      refine ax_getR dX12_act_25 fl_X12_18 rfl (OKs hZ rfl) (OKr hZ rfl) ?_
      refine ax_iload_n (i := 1) dX12_act_28 rfl rfl ?_
      refine ax_ialdN p dX12_act_29 (OKs hZ rfl) rfl hp6 (by decide) ?_
      refine ax_top (congrArg Value.int ha9.2.2.1) ?_
      refine ax_istore dX12_act_30 (by decide) rfl ?_
      refine ax_iload_n (i := 2) dX12_act_32 rfl rfl ?_
      refine ax_if_ne (tgt := 47) dX12_act_33 (by decide) (fun c_33 => ?_) (fun c_33 => ?_)
      · refine ax_iload_n (i := 2) dX12_act_47 rfl rfl ?_
        refine ax_iconst (v := 1) dX12_act_48 (by decide) ?_
        refine ax_icmp_ne (tgt := 63) dX12_act_49 (by decide) (fun c_49 => ?_) (fun c_49 => ?_)
        · refine ax_aload_n (i := 0) dX12_act_63 rfl rfl ?_
          refine ax_iload_n (i := 1) dX12_act_64 rfl rfl ?_
          refine ax_iload dX12_act_65 rfl ?_
          refine ax_iload_n (i := 3) dX12_act_67 rfl rfl ?_
          refine ax_cVq dX12_act_68 lk_X12_334 (tm_all hZ p hp6 ha9 hk7 (Nat.zero_le _) x hk7) rfl (OKs hZ rfl) ⟨_, rfl, rfl⟩ rfl (Nat.le_of_ble_eq_true rfl) (Nat.le_of_ble_eq_true rfl) (Nat.le_of_ble_eq_true rfl) (Nat.le_of_ble_eq_true rfl) ?_
          rintro _ G1 _ ⟨rfl, rfl, ar1, fr'1, ft'1⟩
          have fr1 := fun a (h1 : a ≠ 100) (h2 : a ≠ 75) => (fr'1 a h1 h2).trans ((fun a _ _ => rfl) a h1 h2)
          have ft1 := fun i (h1 : i ≠ 37) => (ft'1 i h1).trans ((fun i _ => rfl) i h1)
          refine ax_iret dX12_act_71 rfl rfl (Nat.le_of_ble_eq_true rfl) (Nat.le_of_ble_eq_true rfl) ?_
          have e9 : acA W R.2 (nI p) b x = (telV kk (nI p) (W.C p 1) x, telR kk (0, R.2)) := by unfold acA; rw [if_neg c_10, if_neg c_19, nI_clamp (by omega)]; unfold acR; rw [hkk, nI_clamp (show kk < 2 ^ 31 by omega)]; rw [if_neg c_33, if_neg c_49]
          rw [e9]
          rw [teR_e hk7] at ar1
          exact ⟨congrArg (fun z => some (Value.int z)) (teK_e hk7 _ _ _), jact (G := G) h ar1.1 ar1.2.1 (fun a h1 h2 => (fr1 a h1 h2).trans (up2_row h2)) (fun i hi => (ft1 i hi).trans (up2_i hi))⟩
        · refine ax_aload_n (i := 0) dX12_act_52 rfl rfl ?_
          refine ax_iload_n (i := 1) dX12_act_53 rfl rfl ?_
          refine ax_iload dX12_act_54 rfl ?_
          refine ax_iload_n (i := 3) dX12_act_56 rfl rfl ?_
          refine ax_cVq dX12_act_57 lk_X12_331 (cm_own hZ p hp6 ha9 hk7 (Nat.zero_le _) x) rfl (OKs hZ rfl) ⟨_, rfl, rfl⟩ rfl (Nat.le_of_ble_eq_true rfl) (Nat.le_of_ble_eq_true rfl) (Nat.le_of_ble_eq_true rfl) (Nat.le_of_ble_eq_true rfl) ?_
          rintro _ G1 _ ⟨rfl, rfl, ar1, fr'1, ft'1⟩
          have fr1 := fun a (h1 : a ≠ 100) (h2 : a ≠ 75) => (fr'1 a h1 h2).trans ((fun a _ _ => rfl) a h1 h2)
          have ft1 := fun i (h1 : i ≠ 37) => (ft'1 i h1).trans ((fun i _ => rfl) i h1)
          refine ax_goto (tgt := 71) dX12_act_60 (by decide) ?_
          refine ax_iret dX12_act_71 rfl rfl (Nat.le_of_ble_eq_true rfl) (Nat.le_of_ble_eq_true rfl) ?_
          have e9 : acA W R.2 (nI p) b x = (cliV kk (nI p) (W.C p 1) x, cliR kk (0, R.2)) := by unfold acA; rw [if_neg c_10, if_neg c_19, nI_clamp (by omega)]; unfold acR; rw [hkk, nI_clamp (show kk < 2 ^ 31 by omega)]; rw [if_neg c_33, if_pos c_49]
          rw [e9]
          exact ⟨rfl, jact (G := G) h ar1.1 ar1.2.1 (fun a h1 h2 => (fr1 a h1 h2).trans (up2_row h2)) (fun i hi => (ft1 i hi).trans (up2_i hi))⟩
      · refine ax_aload_n (i := 0) dX12_act_36 rfl rfl ?_
        refine ax_iload_n (i := 1) dX12_act_37 rfl rfl ?_
        refine ax_iload dX12_act_38 rfl ?_
        refine ax_iload_n (i := 3) dX12_act_40 rfl rfl ?_
        refine ax_cVq dX12_act_41 lk_X12_324 (hm_all hZ p hp6 ha9 hk7 (Nat.zero_le _) x hk7) rfl (OKs hZ rfl) ⟨_, rfl, rfl⟩ rfl (Nat.le_of_ble_eq_true rfl) (Nat.le_of_ble_eq_true rfl) (Nat.le_of_ble_eq_true rfl) (Nat.le_of_ble_eq_true rfl) ?_
        rintro _ G1 _ ⟨rfl, rfl, ar1, fr'1, ft'1⟩
        have fr1 := fun a (h1 : a ≠ 100) (h2 : a ≠ 75) => (fr'1 a h1 h2).trans ((fun a _ _ => rfl) a h1 h2)
        have ft1 := fun i (h1 : i ≠ 37) => (ft'1 i h1).trans ((fun i _ => rfl) i h1)
        refine ax_goto (tgt := 71) dX12_act_44 (by decide) ?_
        refine ax_iret dX12_act_71 rfl rfl (Nat.le_of_ble_eq_true rfl) (Nat.le_of_ble_eq_true rfl) ?_
        have e9 : acA W R.2 (nI p) b x = (hisV kk (nI p) (W.C p 1) x, hisR kk (0, R.2)) := by unfold acA; rw [if_neg c_10, if_neg c_19, nI_clamp (by omega)]; unfold acR; rw [hkk, nI_clamp (show kk < 2 ^ 31 by omega)]; rw [if_pos c_33]
        rw [e9]
        exact ⟨rfl, jact (G := G) h ar1.1 ar1.2.1 (fun a h1 h2 => (fr1 a h1 h2).trans (up2_row h2)) (fun i hi => (ft1 i hi).trans (up2_i hi))⟩
    · refine ax_iconst (v := 0) dX12_act_22 (by decide) ?_
      refine ax_iret dX12_act_23 rfl rfl (Nat.le_of_ble_eq_true rfl) (Nat.le_of_ble_eq_true rfl) ?_
      have e9 : acA W R.2 a b x = (0, (0, R.2)) := by unfold acA; rw [if_neg c_10, if_pos c_19]
      rw [e9]
      exact ⟨rfl, jact (G := G) h up2_s (fun i _ h => absurd h (Nat.not_lt_zero i)) (fun a _ h2 => up2_row h2) (fun i hi => up2_i hi)⟩
