-- ===== the model: the best row =====
/-- a row of n that can be lit, by bits -/
def vd (u n x : Nat) : Bool := (List.range n).all (fun k => u.testBit (dg n x k) && (List.range k).all (fun j => dg n x j != dg n x k))
def pc6 (u : Nat) : Nat := u % 2 + u / 2 % 2 + u / 4 % 2 + u / 8 % 2 + u / 16 % 2 + u / 32 % 2
theorem bc_pc : ∀ u, u < 64 → bc (nI u) = nI (pc6 u) := by decide +kernel
theorem row_1 : ∀ u, u < 64 → decide (1 ≤ pc6 u) = (List.range 6).any (vd u 1) := by decide +kernel
theorem row_2 : ∀ u, u < 64 → decide (2 ≤ pc6 u) = (List.range 36).any (vd u 2) := by decide +kernel
theorem row_3 : ∀ u, u < 64 → decide (3 ≤ pc6 u) = (List.range 216).any (vd u 3) := by decide +kernel
theorem row_n {u n : Nat} (hu : u < 64) (h1 : 1 ≤ n) (h3 : n ≤ 3) : n ≤ pc6 u ↔ ∃ x, x < 6 ^ n ∧ vd u n x = true := by
  have key : decide (n ≤ pc6 u) = (List.range (6 ^ n)).any (vd u n) := by
    rcases (show n = 1 ∨ n = 2 ∨ n = 3 by omega) with rfl | rfl | rfl
    · exact row_1 u hu
    · exact row_2 u hu
    · exact row_3 u hu
  constructor
  · intro h
    rw [decide_eq_true h] at key
    obtain ⟨x, hx, hv⟩ := List.any_eq_true.mp key.symm
    exact ⟨x, List.mem_range.mp hx, hv⟩
  · rintro ⟨x, hx, hv⟩
    have : (List.range (6 ^ n)).any (vd u n) = true := List.any_eq_true.mpr ⟨x, List.mem_range.mpr hx, hv⟩
    rw [this] at key
    exact of_decide_eq_true key
theorem tb_n (u i : Nat) (hi : i < 32) : tb (nI u) i = u.testBit i := by
  unfold tb
  rw [show (nI u).toBitVec = BitVec.ofNat 32 u from rfl, BitVec.getLsbD_ofNat, decide_eq_true hi, Bool.true_and]
theorem vd_cn {W : Wv} {u n x : Nat} (hm : W.m ≤ 6) (hu : (inB (fun p => W.C p 5) 0 W.m) = nI u) : vd u n x = true ↔ cnB (inB (fun p => W.C p 5) 0 W.m) (dg n x) n = true := by
  rw [cnB_iff (f := fun p => W.C p 5) hm (dg_6 n x) n]
  have tbu : ∀ i, i < 32 → (u.testBit i = true ↔ (i < W.m ∧ W.C i 5 = 0)) := fun i hi => by
    rw [← tb_n u i hi, ← hu, tb_in hi W.m (by omega), decide_eq_true_iff]
  unfold vd
  rw [List.all_eq_true]
  constructor
  · intro h k hk
    have := h k (List.mem_range.mpr hk)
    rw [Bool.and_eq_true, List.all_eq_true] at this
    have h6 := dg_6 n x k
    have t := (tbu (dg n x k) (by omega)).mp this.1
    refine ⟨t.1, t.2, fun j hj e => ?_⟩
    have := this.2 j (List.mem_range.mpr hj)
    rw [e] at this
    simp at this
  · intro h k hk
    have := h k (List.mem_range.mp hk)
    have h6 := dg_6 n x k
    rw [Bool.and_eq_true, List.all_eq_true]
    refine ⟨(tbu (dg n x k) (by omega)).mpr ⟨this.1, this.2.1⟩, fun j hj => ?_⟩
    have := this.2.2 j (List.mem_range.mp hj)
    simp [this]
theorem brS_ne {W : Wv} {n x : Nat} (ho : okW W) (hm : W.mm + 20 < 20000) (hn : n ≤ 3) (hc : cnB (inB (fun p => W.C p 5) 0 W.m) (dg n x) n = true) : ∀ c, x < c → ¬ (brS W n c) = (-5, -2147483648)
  | 0, h => absurd h (Nat.not_lt_zero x)
  | c + 1, h => by
    rw [brS]
    by_cases q : cnB (inB (fun p => W.C p 5) 0 W.m) (dg n c) n = true ∧ ¬ scoreV (toV W (dg n c) n) ≤ (brS W n c).2
    · rw [if_pos q]
      intro z
      have hd := (cnB_iff (f := fun p => W.C p 5) ho.1 (dg_6 n c) n).mp q.1
      obtain ⟨e, s, e4, s4, -, -, hsc⟩ := sc_n (toV_ok ho hm n hn (fun k hk => (hd k hk).1)).1
      have z2 := congrArg (fun y : Int32 × Int32 => y.2.toInt) z
      have := min_i
      simp only [hsc] at z2
      omega
    · rw [if_neg q]
      rcases Nat.lt_or_ge x c with y | y
      · exact brS_ne ho hm hn hc c y
      · obtain rfl : c = x := by omega
        intro z
        refine q ⟨hc, fun w => ?_⟩
        have hd := (cnB_iff (f := fun p => W.C p 5) ho.1 (dg_6 n c) n).mp hc
        obtain ⟨e, s, e4, s4, -, -, hsc⟩ := sc_n (toV_ok ho hm n hn (fun k hk => (hd k hk).1)).1
        rw [z, Int32.le_iff_toInt_le, hsc] at w
        have := min_i
        have w : 10000 * (e : Int) - s ≤ (-2147483648 : Int32).toInt := w
        omega
theorem bes_lo {W : Wv} {a b : Int32} (h : wi b (-2) 2 = 0) : besV W a b = -1 := by
  unfold besV
  by_cases c1 : b < -2
  · rw [if_pos c1]
  · rw [if_neg c1]
    by_cases c2 : b < 3
    · exfalso
      refine bi_eq.mp h ⟨c1, fun z => ?_⟩
      have z1 : (2 : Int) < b.toInt := Int32.lt_iff_toInt_lt.mp z
      have z2 : b.toInt < 3 := Int32.lt_iff_toInt_lt.mp c2
      omega
    · rw [if_neg c2]
theorem bes_in {W : Wv} {a b : Int32} (h : ¬ wi b (-2) 2 = 0) : besV W a b = if a < 1 then -2 else if a ≤ 3 then besR W a.toNatClampNeg b (brS W a.toNatClampNeg (6 ^ a.toNatClampNeg)).1 else -2 := by
  unfold besV
  have h' := bi_ne.mp h
  rw [if_neg h'.1, if_pos]
  rw [Int32.lt_iff_toInt_lt]
  have z1 : b.toInt ≤ 2 := Int32.le_iff_toInt_le.mp (Int32.not_lt.mp h'.2)
  show b.toInt < 3
  omega
theorem bes_bad {W : Wv} {a b : Int32} (h : ¬ wi b (-2) 2 = 0) (h2 : wi a 1 3 = 0) : besV W a b = -2 := by
  rw [bes_in h]
  by_cases c1 : a < 1
  · rw [if_pos c1]
  · rw [if_neg c1, if_neg (fun z => bi_eq.mp h2 ⟨c1, Int32.not_lt.mpr z⟩)]
theorem bes_ok {W : Wv} {a b : Int32} (h : ¬ wi b (-2) 2 = 0) (h2 : ¬ wi a 1 3 = 0) : ∃ n, 1 ≤ n ∧ n ≤ 3 ∧ a = nI n ∧ besV W a b = besR W n b (brS W n (6 ^ n)).1 := by
  have h' := bi_ne.mp h2
  have z1 : (1 : Int) ≤ a.toInt := Int32.le_iff_toInt_le.mp (Int32.not_lt.mp h'.1)
  have z2 : a.toInt ≤ 3 := Int32.le_iff_toInt_le.mp (Int32.not_lt.mp h'.2)
  have e : a = nI a.toInt.toNat := by
    apply Int32.toInt_inj.mp
    rw [nI_toInt (by omega)]
    omega
  refine ⟨a.toInt.toNat, by omega, by omega, e, ?_⟩
  rw [bes_in h, if_neg h'.1, if_pos (Int32.not_lt.mp h'.2)]
  rw [show a.toNatClampNeg = a.toInt.toNat from rfl]
theorem bes_none {W : Wv} {n u : Nat} {b : Int32} (ho : okW W) (hu : (inB (fun p => W.C p 5) 0 W.m) = nI u) (hu6 : u < 64) (h1 : 1 ≤ n) (h3 : n ≤ 3) (h : ¬ n ≤ pc6 u) : besR W n b (brS W n (6 ^ n)).1 = -5 := by
  have e : brS W n (6 ^ n) = (-5, -2147483648) := by
    rw [brS_to (a := 0) (Nat.zero_le _) (fun x _ hx => ?_)]
    · rfl
    · cases c : cnB (inB (fun p => W.C p 5) 0 W.m) (dg n x) n with
      | false => rfl
      | true => exact absurd ((row_n hu6 h1 h3).mpr ⟨x, hx, (vd_cn ho.1 hu).mpr c⟩) h
  unfold besR
  rw [e, if_pos (by decide)]
theorem bes_m2 {W : Wv} {n x : Nat} {b : Int32} (h1 : 1 ≤ n) (h3 : n ≤ 3) (hx : x < 6 ^ n) : besR W n b (nI x) = if b < nI n then (if b < 0 then (if b = -2 then bc (evenB (toV W (dg n x) n).gr 4) else sumB (toV W (dg n x) n).gr 4) else nI (dg n x b.toNatClampNeg)) else -5 := by
  have h216 : x < 216 := by
    have : 6 ^ n ≤ 6 ^ 3 := Nat.pow_le_pow_right (by decide) h3
    have e : (6 : Nat) ^ 3 = 216 := by decide
    omega
  unfold besR
  rw [if_neg (nI_pos (by omega)), nI_clamp (by omega)]
theorem bes_k {b : Int32} {n : Nat} (hb : ¬ wi b (-2) 2 = 0) (h1 : ¬ b = -2) (h2 : ¬ b = -1) (h3 : ¬ nI n ≤ b) (hn : n ≤ 3 := by decide) : ∃ k, k < n ∧ b = nI k := by
  have h' := bi_ne.mp hb
  have z1 : (-2 : Int) ≤ b.toInt := Int32.le_iff_toInt_le.mp (Int32.not_lt.mp h'.1)
  have z2 : b.toInt ≤ 2 := Int32.le_iff_toInt_le.mp (Int32.not_lt.mp h'.2)
  have z3 : b.toInt ≠ -2 := fun e => h1 (Int32.toInt_inj.mp e)
  have z4 : b.toInt ≠ -1 := fun e => h2 (Int32.toInt_inj.mp e)
  have z5 := Int32.lt_iff_toInt_lt.mp (Int32.not_le.mp h3)
  rw [nI_toInt (by omega)] at z5
  exact ⟨b.toInt.toNat, by omega, by apply Int32.toInt_inj.mp; rw [nI_toInt (by omega)]; omega⟩
theorem t_best1 {Z : Zt} {G : Gt} {L : Lt} {W : Wv} (hZ : OK Z) (hv : vM G W) (ho : okW W) {H : Hv} (hH : hM G H) (hh : okH W.m H) (hm : W.mm + 20 < 20000) (b : Int32) (hb : ¬ wi b (-2) 2 = 0) (u : Nat) (hu : (inB (fun p => W.C p 5) 0 W.m) = nI u) (hu6 : u < 64) (hge : 1 ≤ pc6 u) : AX none mX12_best 10 0 0 0 0 39 [(0, .ref 75), (1, .int (nI 1)), (2, .int b)] [] Z G L (RP (.int (besR W 1 b (brS W 1 (6 ^ 1)).1)) (MA Z G L W H)) := by
  refine ax_aload_n (i := 0) dX12_best_39 rfl rfl ?_
  refine ax_iconst (v := (-1)) dX12_best_40 (by decide) ?_
  refine ax_putI dX12_best_41 fl_X12_278 (Or.inl fp_X12_12_44) rfl rfl rfl (OKs hZ rfl) ?_
  refine ax_aload_n (i := 0) dX12_best_44 rfl rfl ?_
  refine ax_iconst (v := 0) dX12_best_45 (by decide) ?_
  refine ax_putI dX12_best_46 fl_X12_281 (Or.inl fp_X12_12_45) rfl rfl rfl (OKs hZ rfl) ?_
  refine ax_aload_n (i := 0) dX12_best_49 rfl rfl ?_
  refine ax_iconst (v := 0) dX12_best_50 (by decide) ?_
  refine ax_iload_n (i := 1) dX12_best_51 rfl rfl ?_
  have vb : vM (up2 (up2 G 75 44 (-1)) 75 45 0) W := vM_keep hv (fun a x y => (up2_row (by omega)).trans (up2_row (by omega))) (fun i hi => (up2_i (by omega)).trans (up2_i (by omega)))
  have hb9 : hM (up2 (up2 G 75 44 (-1)) 75 45 0) H := hM_keep hH (fun i hi => (up2_i (by omega)).trans (up2_i (by omega))) (fun a x y => (up2_row (by omega)).trans (up2_row (by omega)))
  refine ax_cVq0 dX12_best_52 lk_X12_284 (k_tries1 hZ vb ho hb9 hh 1 0 (by decide) (by decide) (fun _ => 0) (fun k hk => absurd hk (Nat.not_lt_zero k)) (fun k hk => absurd hk (Nat.not_lt_zero k)) hm (Or.inl ⟨rfl, by rw [up2_i (by decide), up2_s]⟩)) rfl (OKs hZ rfl) ⟨_, rfl, rfl⟩ rfl (Nat.le_of_ble_eq_true rfl) (Nat.le_of_ble_eq_true rfl) (Nat.le_of_ble_eq_true rfl) (Nat.le_of_ble_eq_true rfl) ?_
  rintro _ G1 _ ⟨rfl, rfl, a1, v1, h1, -, b1⟩
  rw [show (pv (fun _ => 0) 0 + 1) * 6 ^ 1 = 6 ^ 1 from by decide] at b1
  rcases b1 with ⟨z, -⟩ | ⟨x, hx, hc, hdx, g44, g45, g104⟩
  · exfalso
    obtain ⟨x, hx, hv9⟩ := (row_n (n := 1) hu6 (by decide) (by decide)).mp hge
    exact brS_ne ho hm (by decide) ((vd_cn ho.1 hu).mp hv9) _ hx z
  have am := mA_tr (show mA G (up2 (up2 G 75 44 (-1)) 75 45 0) from ⟨fun a _ _ _ => (up2_row (by omega)).trans (up2_row (by omega)), fun i _ _ _ _ _ _ h1 h2 => (up2_i h2).trans (up2_i h1)⟩) a1
  rw [hc]
  refine ax_iload_n (i := 2) dX12_best_55 rfl rfl ?_
  refine ax_bipush (v := (-2)) dX12_best_56 (by decide) ?_
  refine ax_icmp_ne (tgt := 68) dX12_best_58 (by decide) (fun c_58 => ?_) (fun c_58 => ?_)
  · refine ax_iload_n (i := 2) dX12_best_68 rfl rfl ?_
    refine ax_iconst (v := (-1)) dX12_best_69 (by decide) ?_
    refine ax_icmp_ne (tgt := 80) dX12_best_70 (by decide) (fun c_70 => ?_) (fun c_70 => ?_)
    · refine ax_iload_n (i := 2) dX12_best_80 rfl rfl ?_
      refine ax_iload_n (i := 1) dX12_best_81 rfl rfl ?_
      refine ax_icmp_ge (tgt := 94) dX12_best_82 (by decide) (fun c_82 => ?_) (fun c_82 => ?_)
      · refine ax_bipush (v := (-5)) dX12_best_94 (by decide) ?_
        refine ax_iret dX12_best_96 rfl rfl (Nat.le_of_ble_eq_true rfl) (Nat.le_of_ble_eq_true rfl) ?_
        have e9 : besR W 1 b (nI x) = -5 := by rw [bes_m2 (by decide) (by decide) hx]; rw [if_neg (Int32.not_lt.mpr c_82)]
        exact ⟨congrArg (fun z => some (Value.int z)) e9.symm, rfl, rfl, am, v1, h1⟩
      · obtain ⟨k9, hk9, rfl⟩ : ∃ k, k < 1 ∧ b = nI k := bes_k hb c_58 c_70 c_82
        refine ax_aload_n (i := 0) dX12_best_85 rfl rfl ?_
        refine ax_getR dX12_best_86 fl_X12_97 rfl (OKs hZ rfl) (OKr hZ rfl) ?_
        refine ax_iload_n (i := 2) dX12_best_89 rfl rfl ?_
        refine ax_ialdN k9 dX12_best_90 (OKs hZ rfl) rfl (show k9 < 3 by omega) (by decide) ?_
        refine ax_goto (tgt := 96) dX12_best_91 (by decide) ?_
        refine ax_iret dX12_best_96 rfl rfl (Nat.le_of_ble_eq_true rfl) (Nat.le_of_ble_eq_true rfl) ?_
        have e9 : besR W 1 (nI k9) (nI x) = nI (dg 1 x k9) := by rw [bes_m2 (by decide) (by decide) hx]; rw [if_pos (Int32.not_le.mp c_82), if_neg (nI_pos (by omega)), nI_clamp (by omega)]
        exact ⟨congrArg (fun z => some (Value.int z)) ((g104 k9 hk9).trans e9.symm), rfl, rfl, am, v1, h1⟩
    · refine ax_aload_n (i := 0) dX12_best_73 rfl rfl ?_
      refine ax_getI dX12_best_74 fl_X12_281 rfl (OKs hZ rfl) ?_
      refine ax_goto (tgt := 96) dX12_best_77 (by decide) ?_
      refine ax_iret dX12_best_96 rfl rfl (Nat.le_of_ble_eq_true rfl) (Nat.le_of_ble_eq_true rfl) ?_
      have e9 : besR W 1 b (nI x) = sumB (toV W (dg 1 x) 1).gr 4 := by rw [bes_m2 (by decide) (by decide) hx]; rw [c_70, if_pos (show (-1 : Int32) < nI 1 by decide), if_pos (show (-1 : Int32) < 0 by decide), if_neg (show ¬ (-1 : Int32) = -2 by decide)]
      exact ⟨congrArg (fun z => some (Value.int z)) (g45.trans e9.symm), rfl, rfl, am, v1, h1⟩
  · refine ax_aload_n (i := 0) dX12_best_61 rfl rfl ?_
    refine ax_getI dX12_best_62 fl_X12_278 rfl (OKs hZ rfl) ?_
    refine ax_goto (tgt := 96) dX12_best_65 (by decide) ?_
    refine ax_iret dX12_best_96 rfl rfl (Nat.le_of_ble_eq_true rfl) (Nat.le_of_ble_eq_true rfl) ?_
    have e9 : besR W 1 b (nI x) = bc (evenB (toV W (dg 1 x) 1).gr 4) := by rw [bes_m2 (by decide) (by decide) hx]; rw [c_58, if_pos (show (-2 : Int32) < nI 1 by decide), if_pos (show (-2 : Int32) < 0 by decide), if_pos rfl]
    exact ⟨congrArg (fun z => some (Value.int z)) (g44.trans e9.symm), rfl, rfl, am, v1, h1⟩
theorem t_best2 {Z : Zt} {G : Gt} {L : Lt} {W : Wv} (hZ : OK Z) (hv : vM G W) (ho : okW W) {H : Hv} (hH : hM G H) (hh : okH W.m H) (hm : W.mm + 20 < 20000) (b : Int32) (hb : ¬ wi b (-2) 2 = 0) (u : Nat) (hu : (inB (fun p => W.C p 5) 0 W.m) = nI u) (hu6 : u < 64) (hge : 2 ≤ pc6 u) : AX none mX12_best 10 0 0 0 0 39 [(0, .ref 75), (1, .int (nI 2)), (2, .int b)] [] Z G L (RP (.int (besR W 2 b (brS W 2 (6 ^ 2)).1)) (MA Z G L W H)) := by
  refine ax_aload_n (i := 0) dX12_best_39 rfl rfl ?_
  refine ax_iconst (v := (-1)) dX12_best_40 (by decide) ?_
  refine ax_putI dX12_best_41 fl_X12_278 (Or.inl fp_X12_12_44) rfl rfl rfl (OKs hZ rfl) ?_
  refine ax_aload_n (i := 0) dX12_best_44 rfl rfl ?_
  refine ax_iconst (v := 0) dX12_best_45 (by decide) ?_
  refine ax_putI dX12_best_46 fl_X12_281 (Or.inl fp_X12_12_45) rfl rfl rfl (OKs hZ rfl) ?_
  refine ax_aload_n (i := 0) dX12_best_49 rfl rfl ?_
  refine ax_iconst (v := 0) dX12_best_50 (by decide) ?_
  refine ax_iload_n (i := 1) dX12_best_51 rfl rfl ?_
  have vb : vM (up2 (up2 G 75 44 (-1)) 75 45 0) W := vM_keep hv (fun a x y => (up2_row (by omega)).trans (up2_row (by omega))) (fun i hi => (up2_i (by omega)).trans (up2_i (by omega)))
  have hb9 : hM (up2 (up2 G 75 44 (-1)) 75 45 0) H := hM_keep hH (fun i hi => (up2_i (by omega)).trans (up2_i (by omega))) (fun a x y => (up2_row (by omega)).trans (up2_row (by omega)))
  refine ax_cVq0 dX12_best_52 lk_X12_284 (k_tries2 hZ vb ho hb9 hh 2 0 (by decide) (by decide) (fun _ => 0) (fun k hk => absurd hk (Nat.not_lt_zero k)) (fun k hk => absurd hk (Nat.not_lt_zero k)) hm (Or.inl ⟨rfl, by rw [up2_i (by decide), up2_s]⟩)) rfl (OKs hZ rfl) ⟨_, rfl, rfl⟩ rfl (Nat.le_of_ble_eq_true rfl) (Nat.le_of_ble_eq_true rfl) (Nat.le_of_ble_eq_true rfl) (Nat.le_of_ble_eq_true rfl) ?_
  rintro _ G1 _ ⟨rfl, rfl, a1, v1, h1, -, b1⟩
  rw [show (pv (fun _ => 0) 0 + 1) * 6 ^ 2 = 6 ^ 2 from by decide] at b1
  rcases b1 with ⟨z, -⟩ | ⟨x, hx, hc, hdx, g44, g45, g104⟩
  · exfalso
    obtain ⟨x, hx, hv9⟩ := (row_n (n := 2) hu6 (by decide) (by decide)).mp hge
    exact brS_ne ho hm (by decide) ((vd_cn ho.1 hu).mp hv9) _ hx z
  have am := mA_tr (show mA G (up2 (up2 G 75 44 (-1)) 75 45 0) from ⟨fun a _ _ _ => (up2_row (by omega)).trans (up2_row (by omega)), fun i _ _ _ _ _ _ h1 h2 => (up2_i h2).trans (up2_i h1)⟩) a1
  rw [hc]
  refine ax_iload_n (i := 2) dX12_best_55 rfl rfl ?_
  refine ax_bipush (v := (-2)) dX12_best_56 (by decide) ?_
  refine ax_icmp_ne (tgt := 68) dX12_best_58 (by decide) (fun c_58 => ?_) (fun c_58 => ?_)
  · refine ax_iload_n (i := 2) dX12_best_68 rfl rfl ?_
    refine ax_iconst (v := (-1)) dX12_best_69 (by decide) ?_
    refine ax_icmp_ne (tgt := 80) dX12_best_70 (by decide) (fun c_70 => ?_) (fun c_70 => ?_)
    · refine ax_iload_n (i := 2) dX12_best_80 rfl rfl ?_
      refine ax_iload_n (i := 1) dX12_best_81 rfl rfl ?_
      refine ax_icmp_ge (tgt := 94) dX12_best_82 (by decide) (fun c_82 => ?_) (fun c_82 => ?_)
      · refine ax_bipush (v := (-5)) dX12_best_94 (by decide) ?_
        refine ax_iret dX12_best_96 rfl rfl (Nat.le_of_ble_eq_true rfl) (Nat.le_of_ble_eq_true rfl) ?_
        have e9 : besR W 2 b (nI x) = -5 := by rw [bes_m2 (by decide) (by decide) hx]; rw [if_neg (Int32.not_lt.mpr c_82)]
        exact ⟨congrArg (fun z => some (Value.int z)) e9.symm, rfl, rfl, am, v1, h1⟩
      · obtain ⟨k9, hk9, rfl⟩ : ∃ k, k < 2 ∧ b = nI k := bes_k hb c_58 c_70 c_82
        refine ax_aload_n (i := 0) dX12_best_85 rfl rfl ?_
        refine ax_getR dX12_best_86 fl_X12_97 rfl (OKs hZ rfl) (OKr hZ rfl) ?_
        refine ax_iload_n (i := 2) dX12_best_89 rfl rfl ?_
        refine ax_ialdN k9 dX12_best_90 (OKs hZ rfl) rfl (show k9 < 3 by omega) (by decide) ?_
        refine ax_goto (tgt := 96) dX12_best_91 (by decide) ?_
        refine ax_iret dX12_best_96 rfl rfl (Nat.le_of_ble_eq_true rfl) (Nat.le_of_ble_eq_true rfl) ?_
        have e9 : besR W 2 (nI k9) (nI x) = nI (dg 2 x k9) := by rw [bes_m2 (by decide) (by decide) hx]; rw [if_pos (Int32.not_le.mp c_82), if_neg (nI_pos (by omega)), nI_clamp (by omega)]
        exact ⟨congrArg (fun z => some (Value.int z)) ((g104 k9 hk9).trans e9.symm), rfl, rfl, am, v1, h1⟩
    · refine ax_aload_n (i := 0) dX12_best_73 rfl rfl ?_
      refine ax_getI dX12_best_74 fl_X12_281 rfl (OKs hZ rfl) ?_
      refine ax_goto (tgt := 96) dX12_best_77 (by decide) ?_
      refine ax_iret dX12_best_96 rfl rfl (Nat.le_of_ble_eq_true rfl) (Nat.le_of_ble_eq_true rfl) ?_
      have e9 : besR W 2 b (nI x) = sumB (toV W (dg 2 x) 2).gr 4 := by rw [bes_m2 (by decide) (by decide) hx]; rw [c_70, if_pos (show (-1 : Int32) < nI 2 by decide), if_pos (show (-1 : Int32) < 0 by decide), if_neg (show ¬ (-1 : Int32) = -2 by decide)]
      exact ⟨congrArg (fun z => some (Value.int z)) (g45.trans e9.symm), rfl, rfl, am, v1, h1⟩
  · refine ax_aload_n (i := 0) dX12_best_61 rfl rfl ?_
    refine ax_getI dX12_best_62 fl_X12_278 rfl (OKs hZ rfl) ?_
    refine ax_goto (tgt := 96) dX12_best_65 (by decide) ?_
    refine ax_iret dX12_best_96 rfl rfl (Nat.le_of_ble_eq_true rfl) (Nat.le_of_ble_eq_true rfl) ?_
    have e9 : besR W 2 b (nI x) = bc (evenB (toV W (dg 2 x) 2).gr 4) := by rw [bes_m2 (by decide) (by decide) hx]; rw [c_58, if_pos (show (-2 : Int32) < nI 2 by decide), if_pos (show (-2 : Int32) < 0 by decide), if_pos rfl]
    exact ⟨congrArg (fun z => some (Value.int z)) (g44.trans e9.symm), rfl, rfl, am, v1, h1⟩
theorem t_best3 {Z : Zt} {G : Gt} {L : Lt} {W : Wv} (hZ : OK Z) (hv : vM G W) (ho : okW W) {H : Hv} (hH : hM G H) (hh : okH W.m H) (hm : W.mm + 20 < 20000) (b : Int32) (hb : ¬ wi b (-2) 2 = 0) (u : Nat) (hu : (inB (fun p => W.C p 5) 0 W.m) = nI u) (hu6 : u < 64) (hge : 3 ≤ pc6 u) : AX none mX12_best 10 0 0 0 0 39 [(0, .ref 75), (1, .int (nI 3)), (2, .int b)] [] Z G L (RP (.int (besR W 3 b (brS W 3 (6 ^ 3)).1)) (MA Z G L W H)) := by
  refine ax_aload_n (i := 0) dX12_best_39 rfl rfl ?_
  refine ax_iconst (v := (-1)) dX12_best_40 (by decide) ?_
  refine ax_putI dX12_best_41 fl_X12_278 (Or.inl fp_X12_12_44) rfl rfl rfl (OKs hZ rfl) ?_
  refine ax_aload_n (i := 0) dX12_best_44 rfl rfl ?_
  refine ax_iconst (v := 0) dX12_best_45 (by decide) ?_
  refine ax_putI dX12_best_46 fl_X12_281 (Or.inl fp_X12_12_45) rfl rfl rfl (OKs hZ rfl) ?_
  refine ax_aload_n (i := 0) dX12_best_49 rfl rfl ?_
  refine ax_iconst (v := 0) dX12_best_50 (by decide) ?_
  refine ax_iload_n (i := 1) dX12_best_51 rfl rfl ?_
  have vb : vM (up2 (up2 G 75 44 (-1)) 75 45 0) W := vM_keep hv (fun a x y => (up2_row (by omega)).trans (up2_row (by omega))) (fun i hi => (up2_i (by omega)).trans (up2_i (by omega)))
  have hb9 : hM (up2 (up2 G 75 44 (-1)) 75 45 0) H := hM_keep hH (fun i hi => (up2_i (by omega)).trans (up2_i (by omega))) (fun a x y => (up2_row (by omega)).trans (up2_row (by omega)))
  refine ax_cVq0 dX12_best_52 lk_X12_284 (k_tries3 hZ vb ho hb9 hh 3 0 (by decide) (by decide) (fun _ => 0) (fun k hk => absurd hk (Nat.not_lt_zero k)) (fun k hk => absurd hk (Nat.not_lt_zero k)) hm (Or.inl ⟨rfl, by rw [up2_i (by decide), up2_s]⟩)) rfl (OKs hZ rfl) ⟨_, rfl, rfl⟩ rfl (Nat.le_of_ble_eq_true rfl) (Nat.le_of_ble_eq_true rfl) (Nat.le_of_ble_eq_true rfl) (Nat.le_of_ble_eq_true rfl) ?_
  rintro _ G1 _ ⟨rfl, rfl, a1, v1, h1, -, b1⟩
  rw [show (pv (fun _ => 0) 0 + 1) * 6 ^ 3 = 6 ^ 3 from by decide] at b1
  rcases b1 with ⟨z, -⟩ | ⟨x, hx, hc, hdx, g44, g45, g104⟩
  · exfalso
    obtain ⟨x, hx, hv9⟩ := (row_n (n := 3) hu6 (by decide) (by decide)).mp hge
    exact brS_ne ho hm (by decide) ((vd_cn ho.1 hu).mp hv9) _ hx z
  have am := mA_tr (show mA G (up2 (up2 G 75 44 (-1)) 75 45 0) from ⟨fun a _ _ _ => (up2_row (by omega)).trans (up2_row (by omega)), fun i _ _ _ _ _ _ h1 h2 => (up2_i h2).trans (up2_i h1)⟩) a1
  rw [hc]
  refine ax_iload_n (i := 2) dX12_best_55 rfl rfl ?_
  refine ax_bipush (v := (-2)) dX12_best_56 (by decide) ?_
  refine ax_icmp_ne (tgt := 68) dX12_best_58 (by decide) (fun c_58 => ?_) (fun c_58 => ?_)
  · refine ax_iload_n (i := 2) dX12_best_68 rfl rfl ?_
    refine ax_iconst (v := (-1)) dX12_best_69 (by decide) ?_
    refine ax_icmp_ne (tgt := 80) dX12_best_70 (by decide) (fun c_70 => ?_) (fun c_70 => ?_)
    · refine ax_iload_n (i := 2) dX12_best_80 rfl rfl ?_
      refine ax_iload_n (i := 1) dX12_best_81 rfl rfl ?_
      refine ax_icmp_ge (tgt := 94) dX12_best_82 (by decide) (fun c_82 => ?_) (fun c_82 => ?_)
      · refine ax_bipush (v := (-5)) dX12_best_94 (by decide) ?_
        refine ax_iret dX12_best_96 rfl rfl (Nat.le_of_ble_eq_true rfl) (Nat.le_of_ble_eq_true rfl) ?_
        have e9 : besR W 3 b (nI x) = -5 := by rw [bes_m2 (by decide) (by decide) hx]; rw [if_neg (Int32.not_lt.mpr c_82)]
        exact ⟨congrArg (fun z => some (Value.int z)) e9.symm, rfl, rfl, am, v1, h1⟩
      · obtain ⟨k9, hk9, rfl⟩ : ∃ k, k < 3 ∧ b = nI k := bes_k hb c_58 c_70 c_82
        refine ax_aload_n (i := 0) dX12_best_85 rfl rfl ?_
        refine ax_getR dX12_best_86 fl_X12_97 rfl (OKs hZ rfl) (OKr hZ rfl) ?_
        refine ax_iload_n (i := 2) dX12_best_89 rfl rfl ?_
        refine ax_ialdN k9 dX12_best_90 (OKs hZ rfl) rfl (show k9 < 3 by omega) (by decide) ?_
        refine ax_goto (tgt := 96) dX12_best_91 (by decide) ?_
        refine ax_iret dX12_best_96 rfl rfl (Nat.le_of_ble_eq_true rfl) (Nat.le_of_ble_eq_true rfl) ?_
        have e9 : besR W 3 (nI k9) (nI x) = nI (dg 3 x k9) := by rw [bes_m2 (by decide) (by decide) hx]; rw [if_pos (Int32.not_le.mp c_82), if_neg (nI_pos (by omega)), nI_clamp (by omega)]
        exact ⟨congrArg (fun z => some (Value.int z)) ((g104 k9 hk9).trans e9.symm), rfl, rfl, am, v1, h1⟩
    · refine ax_aload_n (i := 0) dX12_best_73 rfl rfl ?_
      refine ax_getI dX12_best_74 fl_X12_281 rfl (OKs hZ rfl) ?_
      refine ax_goto (tgt := 96) dX12_best_77 (by decide) ?_
      refine ax_iret dX12_best_96 rfl rfl (Nat.le_of_ble_eq_true rfl) (Nat.le_of_ble_eq_true rfl) ?_
      have e9 : besR W 3 b (nI x) = sumB (toV W (dg 3 x) 3).gr 4 := by rw [bes_m2 (by decide) (by decide) hx]; rw [c_70, if_pos (show (-1 : Int32) < nI 3 by decide), if_pos (show (-1 : Int32) < 0 by decide), if_neg (show ¬ (-1 : Int32) = -2 by decide)]
      exact ⟨congrArg (fun z => some (Value.int z)) (g45.trans e9.symm), rfl, rfl, am, v1, h1⟩
  · refine ax_aload_n (i := 0) dX12_best_61 rfl rfl ?_
    refine ax_getI dX12_best_62 fl_X12_278 rfl (OKs hZ rfl) ?_
    refine ax_goto (tgt := 96) dX12_best_65 (by decide) ?_
    refine ax_iret dX12_best_96 rfl rfl (Nat.le_of_ble_eq_true rfl) (Nat.le_of_ble_eq_true rfl) ?_
    have e9 : besR W 3 b (nI x) = bc (evenB (toV W (dg 3 x) 3).gr 4) := by rw [bes_m2 (by decide) (by decide) hx]; rw [c_58, if_pos (show (-2 : Int32) < nI 3 by decide), if_pos (show (-2 : Int32) < 0 by decide), if_pos rfl]
    exact ⟨congrArg (fun z => some (Value.int z)) (g44.trans e9.symm), rfl, rfl, am, v1, h1⟩
theorem k_bestM {Z : Zt} {G : Gt} {L : Lt} {W : Wv} (hZ : OK Z) (hv : vM G W) (ho : okW W) {H : Hv} (hH : hM G H) (hh : okH W.m H) (hm : W.mm + 20 < 20000) (a b : Int32) : AC mX12_best 10 0 0 [.ref 75, .int a, .int b] Z G L (RP (.int (besV W a b)) (MA Z G L W H)) := by
  refine AC.intro (by decide +kernel) (Nat.le_of_ble_eq_true rfl) ?_
  refine ax_lv [(0, .ref 75), (1, .int a), (2, .int b)] ⟨rfl, rfl, rfl, trivial⟩ ?_
  refine ax_iload_n (i := 2) dX12_best_0 rfl rfl ?_
  refine ax_bipush (v := (-2)) dX12_best_1 (by decide) ?_
  refine ax_iconst (v := 2) dX12_best_3 (by decide) ?_
  refine ax_cSv dX12_best_4 lk_X12_117 (c_X12_within b (-2) 2) rfl rfl (Nat.le_of_ble_eq_true rfl) (Nat.le_of_ble_eq_true rfl) (Nat.le_of_ble_eq_true rfl) (Nat.le_of_ble_eq_true rfl) ?_
  refine ax_if_ne (tgt := 12) dX12_best_7 (by decide) (fun c_7 => ?_) (fun c_7 => ?_)
  · refine ax_iload_n (i := 1) dX12_best_12 rfl rfl ?_
    refine ax_iconst (v := 1) dX12_best_13 (by decide) ?_
    refine ax_iconst (v := 3) dX12_best_14 (by decide) ?_
    refine ax_cSv dX12_best_15 lk_X12_117 (c_X12_within a 1 3) rfl rfl (Nat.le_of_ble_eq_true rfl) (Nat.le_of_ble_eq_true rfl) (Nat.le_of_ble_eq_true rfl) (Nat.le_of_ble_eq_true rfl) ?_
    refine ax_if_ne (tgt := 24) dX12_best_18 (by decide) (fun c_18 => ?_) (fun c_18 => ?_)
    · obtain ⟨n, n1, n3, rfl, e9⟩ := bes_ok (W := W) c_7 c_18
      obtain ⟨u, hu2, hu⟩ := inB_n (f := fun p => W.C p 5) (so := 0) W.m ho.1
      have hu6 : u < 64 := Nat.lt_of_lt_of_le hu2 (pow_le6 ho.1)
      have pc7 : pc6 u ≤ 6 := by unfold pc6; omega
      refine ax_aload_n (i := 0) dX12_best_24 rfl rfl ?_
      refine ax_iconst (v := 0) dX12_best_25 (by decide) ?_
      refine ax_cVv dX12_best_26 lk_X12_237 (c_X12_areSo hZ ho.1 hv.1 0) rfl (OKs hZ rfl) ⟨_, rfl, rfl⟩ rfl (Nat.le_of_ble_eq_true rfl) (Nat.le_of_ble_eq_true rfl) (Nat.le_of_ble_eq_true rfl) (Nat.le_of_ble_eq_true rfl) ?_
      refine ax_top (congrArg Value.int ((inB_congr (g := fun p => W.C p 5) W.m (fun a ha => (hv.2.2.1 a ha).1 5 (by decide))).trans hu)) ?_
      refine ax_cSv dX12_best_29 lk_X12_240 (c_bitCount (nI u)) rfl rfl (Nat.le_of_ble_eq_true rfl) (Nat.le_of_ble_eq_true rfl) (Nat.le_of_ble_eq_true rfl) (Nat.le_of_ble_eq_true rfl) ?_
      refine ax_top (congrArg Value.int (bc_pc u hu6)) ?_
      refine ax_iload_n (i := 1) dX12_best_32 rfl rfl ?_
      refine ax_icmp_ge (tgt := 39) dX12_best_33 (by decide) (fun c_33 => ?_) (fun c_33 => ?_)
      · rw [e9]
        have hge : n ≤ pc6 u := (nI_leI (by omega) (by omega)).mp c_33
        refine ax_lv [(0, .ref 75), (1, .int (nI n)), (2, .int b)] ⟨rfl, rfl, rfl, trivial⟩ ?_
        rcases (show n = 1 ∨ n = 2 ∨ n = 3 by omega) with rfl | rfl | rfl
        · exact t_best1 hZ hv ho hH hh hm b c_7 u hu hu6 hge
        · exact t_best2 hZ hv ho hH hh hm b c_7 u hu hu6 hge
        · exact t_best3 hZ hv ho hH hh hm b c_7 u hu hu6 hge
      · refine ax_bipush (v := (-5)) dX12_best_36 (by decide) ?_
        refine ax_iret dX12_best_38 rfl rfl (Nat.le_of_ble_eq_true rfl) (Nat.le_of_ble_eq_true rfl) ?_
        rw [e9, bes_none ho hu hu6 n1 n3 (fun z => by have := (nI_leI (by omega) (by omega)).mpr z; exact absurd this c_33)]
        exact ⟨rfl, rfl, rfl, mA_refl, hv, hH⟩
    · refine ax_bipush (v := (-2)) dX12_best_21 (by decide) ?_
      refine ax_iret dX12_best_23 rfl rfl (Nat.le_of_ble_eq_true rfl) (Nat.le_of_ble_eq_true rfl) ?_
      rw [bes_bad c_7 c_18]
      exact ⟨rfl, rfl, rfl, mA_refl, hv, hH⟩
  · refine ax_iconst (v := (-1)) dX12_best_10 (by decide) ?_
    refine ax_iret dX12_best_11 rfl rfl (Nat.le_of_ble_eq_true rfl) (Nat.le_of_ble_eq_true rfl) ?_
    rw [bes_lo c_7]
    exact ⟨rfl, rfl, rfl, mA_refl, hv, hH⟩
theorem y_best {Z : Zt} {G : Gt} {L : Lt} {W : Wv} {H : Hv} {I : Option (Wv × Hv)} {T : Nat × (Nat → Nat)} {R : Nat × (Nat → Int32)} {P : Pt9} {n9 : Nat} (hZ : OK Z) (ok : okA W H I T R P n9) (h : IM G L W H I T R P n9) (a b : Int32) : AC mX12_best 10 0 0 [.ref 75, .int a, .int b] Z G L (RP (.int (besV W a b)) (JQ Z G L W H I T R P n9)) := by
  obtain ⟨⟨ho, h9⟩, hh, -⟩ := id ok
  obtain ⟨hv, hH, -⟩ := id h
  exact w_MA h (k_bestM hZ hv ho hH hh (by omega) a b)
