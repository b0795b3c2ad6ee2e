-- ===== the model: shift =====
/-- items from s on have come to d on, at the places lo .. hi - 1 -/
def CPs (L0 : Lt) (d s lo hi : Nat) (L : Lt) : Prop := (∀ a, a ≠ 107 → L a = L0 a) ∧ ∀ x, L 107 x = if lo ≤ x ∧ x < hi then L0 107 (x - d + s) else L0 107 x
theorem CPs_0 {L : Lt} {d s lo : Nat} : CPs L d s lo lo L := ⟨fun _ _ => rfl, fun x => by rw [if_neg (by omega)]⟩
theorem CPs_f {L0 L : Lt} {d s q : Nat} {v : Int64} (h : CPs L0 d s d (d + q) L) (hv : v = L0 107 (q + s)) : CPs L0 d s d (d + (q + 1)) (up2 L 107 (d + q) v) := by
  refine ⟨fun a ha => (up2_row ha).trans (h.1 a ha), fun x => ?_⟩
  by_cases e : x = d + q
  · subst e; rw [up2_s, if_pos (by omega), hv, Nat.add_sub_cancel_left]
  · rw [up2_i e, h.2 x]
    by_cases c : d ≤ x ∧ x < d + q
    · rw [if_pos c, if_pos (by omega)]
    · rw [if_neg c, if_neg (by omega)]
theorem CPs_b {L0 L : Lt} {d s r hi : Nat} {v : Int64} (h : CPs L0 d s (d + (r + 1)) hi L) (hr : d + r < hi) (hv : v = L0 107 (r + s)) : CPs L0 d s (d + r) hi (up2 L 107 (d + r) v) := by
  refine ⟨fun a ha => (up2_row ha).trans (h.1 a ha), fun x => ?_⟩
  by_cases e : x = d + r
  · subst e; rw [up2_s, if_pos (by omega), hv, Nat.add_sub_cancel_left]
  · rw [up2_i e, h.2 x]
    by_cases c : d + (r + 1) ≤ x ∧ x < hi
    · rw [if_pos c, if_pos (by omega)]
    · rw [if_neg c, if_neg (by omega)]
theorem hiS_0 {i n : Int32} {m : Nat} (h : i < 0 ∨ n < 0 ∨ 0 < lg_cmp (i.toInt64 + n.toInt64) (nI m).toInt64) : hiS i n m = 0 := by
  unfold hiS
  by_cases c1 : i < 0
  · rw [if_pos c1]
  rw [if_neg c1]
  by_cases c2 : n < 0
  · rw [if_pos c2]
  rw [if_neg c2, if_pos ((h.resolve_left c1).resolve_left c2)]
theorem hiS_1 {i n : Int32} {m : Nat} (h1 : ¬ i < 0) (h2 : ¬ n < 0) (h3 : ¬ 0 < lg_cmp (i.toInt64 + n.toInt64) (nI m).toInt64) : ¬ hiS i n m = 0 := by
  unfold hiS
  rw [if_neg h1, if_neg h2, if_neg h3]
  decide
theorem sh_n1 {P : Pt9} {t u : Nat} {i j n : Int32} (h1 : ¬ P.1 t = -1) (h2 : ¬ P.1 u = -1) (h3 : P.1 t = P.1 u) (h : hiS i n (P.2.1 t) = 0 ∨ hiS j n (P.2.1 u) = 0) : shR P t i u j n = (-13, P) := by
  unfold shR
  rw [if_neg h1, if_neg h2, if_pos h3]
  by_cases z : hiS i n (P.2.1 t) = 0
  · rw [if_pos z]
  · rw [if_neg z, if_pos (h.resolve_left z)]
theorem l_shf {Z : Zt} {G : Gt} {L0 : Lt} {Q : Qt} (hZ : OK Z) {t i u j n : Nat} (ht : t < 6) (hu : u < 6) (hi : i + n ≤ 60) (hj : j + n ≤ 60) (hd : t ≠ u ∨ j ≤ i) (hend : ∀ L : Lt, CPs L0 (60 * u + j) (60 * t + i) (60 * u + j) (60 * u + j + n) L → AX none mX12_shift 3 0 0 0 0 212 [(5, .int (nI n))] [] Z G L Q) : ∀ (r q : Nat), q ≤ n → n - q < r → ∀ L : Lt, CPs L0 (60 * u + j) (60 * t + i) (60 * u + j) (60 * u + j + q) L → AX none mX12_shift 3 0 0 0 0 170 [(0, .ref 75), (1, .int (nI t)), (2, .int (nI i)), (3, .int (nI u)), (4, .int (nI j)), (5, .int (nI n)), (6, .int (nI q))] [] Z G L Q := by
  intro r
  induction r with
  | zero => intro q h1 h2; omega
  | succ r ih =>
    intro q h1 h2 L h
    refine ax_iload dX12_shift_170 rfl ?_
    refine ax_iload dX12_shift_172 rfl ?_
    refine ax_icmp_ge (tgt := 212) dX12_shift_174 (by decide) (fun c_174 => ?_) (fun c_174 => ?_)
    · obtain rfl : q = n := by have := (nI_leI (by omega) (by omega)).mp (show nI n ≤ nI q from c_174); omega
      exact ax_lv [(5, .int (nI q))] ⟨rfl, trivial⟩ (hend L h)
    · have hqm : q < n := by have := mt (nI_leI (by omega) (by omega)).mpr (show ¬ nI n ≤ nI q from c_174); omega
      refine ax_aload_n (i := 0) dX12_shift_177 rfl rfl ?_
      refine ax_getR dX12_shift_178 fl_X12_106 rfl (OKs hZ rfl) (OKr hZ rfl) ?_
      refine ax_bipush (v := 60) dX12_shift_181 (by decide) ?_
      refine ax_iload_n (i := 3) dX12_shift_183 rfl rfl ?_
      refine ax_imul dX12_shift_184 ?_
      refine ax_iload dX12_shift_185 rfl ?_
      refine ax_iadd dX12_shift_187 ?_
      refine ax_iload dX12_shift_188 rfl ?_
      refine ax_iadd dX12_shift_190 ?_
      refine ax_aload_n (i := 0) dX12_shift_191 rfl rfl ?_
      refine ax_getR dX12_shift_192 fl_X12_106 rfl (OKs hZ rfl) (OKr hZ rfl) ?_
      refine ax_bipush (v := 60) dX12_shift_195 (by decide) ?_
      refine ax_iload_n (i := 1) dX12_shift_197 rfl rfl ?_
      refine ax_imul dX12_shift_198 ?_
      refine ax_iload_n (i := 2) dX12_shift_199 rfl rfl ?_
      refine ax_iadd dX12_shift_200 ?_
      refine ax_iload dX12_shift_201 rfl ?_
      refine ax_iadd dX12_shift_203 ?_
      refine ax_laldN (60 * t + i + q) dX12_shift_204 (OKs hZ rfl) (show 60 * nI t + nI i + nI q = nI (60 * t + i + q) by rw [show (60 : Int32) = nI 60 from rfl, pk_mul, nI_add, nI_add]) (by omega) (by decide) ?_
      refine ax_lastN (60 * u + j + q) dX12_shift_205 (OKs hZ rfl) (show 60 * nI u + nI j + nI q = nI (60 * u + j + q) by rw [show (60 : Int32) = nI 60 from rfl, pk_mul, nI_add, nI_add]) (by omega) (by decide) ?_
      refine ax_iinc (v := (nI q) + 1) dX12_shift_206 rfl rfl (by decide) rfl ?_
      refine ax_goto (tgt := 170) dX12_shift_209 (by decide) ?_
      refine ax_lv [(0, .ref 75), (1, .int (nI t)), (2, .int (nI i)), (3, .int (nI u)), (4, .int (nI j)), (5, .int (nI n)), (6, .int (nI (q + 1)))] ⟨rfl, rfl, rfl, rfl, rfl, rfl, sI (nI_1 q), trivial⟩ ?_
      exact ih (q + 1) (by omega) (by omega) _ (CPs_f h (show L 107 (60 * t + i + q) = L0 107 (q + (60 * t + i)) by rw [h.2, if_neg (by omega), Nat.add_comm]))
theorem l_shb {Z : Zt} {G : Gt} {L0 : Lt} {Q : Qt} (hZ : OK Z) {t i u j n : Nat} (ht : t < 6) (hu : u < 6) (hi : i + n ≤ 60) (hj : j + n ≤ 60) (hd : t = u) (hd2 : i < j) (hend : ∀ L : Lt, CPs L0 (60 * u + j) (60 * t + i) (60 * u + j + 0) (60 * u + j + n) L → AX none mX12_shift 3 0 0 0 0 212 [(5, .int (nI n))] [] Z G L Q) : ∀ (r : Nat), r ≤ n → ∀ L : Lt, CPs L0 (60 * u + j) (60 * t + i) (60 * u + j + r) (60 * u + j + n) L → AX none mX12_shift 3 0 0 0 0 124 [(0, .ref 75), (1, .int (nI t)), (2, .int (nI i)), (3, .int (nI u)), (4, .int (nI j)), (5, .int (nI n)), (6, .int (nI r - 1))] [] Z G L Q := by
  intro r
  induction r with
  | zero =>
    intro h1 L h
    refine ax_iload dX12_shift_124 rfl ?_
    refine ax_if_lt (tgt := 164) dX12_shift_126 (by decide) (fun c_126 => ?_) (fun c_126 => ?_)
    · refine ax_goto (tgt := 212) dX12_shift_164 (by decide) ?_
      exact ax_lv [(5, .int (nI n))] ⟨rfl, trivial⟩ (hend L h)
    · exact absurd (by decide) c_126
  | succ r ih =>
    intro h1 L h
    refine ax_lv [(0, .ref 75), (1, .int (nI t)), (2, .int (nI i)), (3, .int (nI u)), (4, .int (nI j)), (5, .int (nI n)), (6, .int (nI r))] ⟨rfl, rfl, rfl, rfl, rfl, rfl, sI (nI_pred r), trivial⟩ ?_
    refine ax_iload dX12_shift_124 rfl ?_
    refine ax_if_lt (tgt := 164) dX12_shift_126 (by decide) (fun c_126 => ?_) (fun c_126 => ?_)
    · exact absurd c_126 (nI_pos (by omega))
    · refine ax_aload_n (i := 0) dX12_shift_129 rfl rfl ?_
      refine ax_getR dX12_shift_130 fl_X12_106 rfl (OKs hZ rfl) (OKr hZ rfl) ?_
      refine ax_bipush (v := 60) dX12_shift_133 (by decide) ?_
      refine ax_iload_n (i := 3) dX12_shift_135 rfl rfl ?_
      refine ax_imul dX12_shift_136 ?_
      refine ax_iload dX12_shift_137 rfl ?_
      refine ax_iadd dX12_shift_139 ?_
      refine ax_iload dX12_shift_140 rfl ?_
      refine ax_iadd dX12_shift_142 ?_
      refine ax_aload_n (i := 0) dX12_shift_143 rfl rfl ?_
      refine ax_getR dX12_shift_144 fl_X12_106 rfl (OKs hZ rfl) (OKr hZ rfl) ?_
      refine ax_bipush (v := 60) dX12_shift_147 (by decide) ?_
      refine ax_iload_n (i := 1) dX12_shift_149 rfl rfl ?_
      refine ax_imul dX12_shift_150 ?_
      refine ax_iload_n (i := 2) dX12_shift_151 rfl rfl ?_
      refine ax_iadd dX12_shift_152 ?_
      refine ax_iload dX12_shift_153 rfl ?_
      refine ax_iadd dX12_shift_155 ?_
      refine ax_laldN (60 * t + i + r) dX12_shift_156 (OKs hZ rfl) (show 60 * nI t + nI i + nI r = nI (60 * t + i + r) by rw [show (60 : Int32) = nI 60 from rfl, pk_mul, nI_add, nI_add]) (by omega) (by decide) ?_
      refine ax_lastN (60 * u + j + r) dX12_shift_157 (OKs hZ rfl) (show 60 * nI u + nI j + nI r = nI (60 * u + j + r) by rw [show (60 : Int32) = nI 60 from rfl, pk_mul, nI_add, nI_add]) (by omega) (by decide) ?_
      refine ax_iinc (v := (nI r) + (-1)) dX12_shift_158 rfl rfl (by decide) rfl ?_
      refine ax_goto (tgt := 124) dX12_shift_161 (by decide) ?_
      refine ax_lv [(0, .ref 75), (1, .int (nI t)), (2, .int (nI i)), (3, .int (nI u)), (4, .int (nI j)), (5, .int (nI n)), (6, .int (nI r - 1))] ⟨rfl, rfl, rfl, rfl, rfl, rfl, sI (by rw [i32_m1]), trivial⟩ ?_
      exact ih (by omega) _ (CPs_b h (by omega) (show L 107 (60 * t + i + r) = L0 107 (r + (60 * t + i)) by rw [h.2, if_neg (by omega), Nat.add_comm]))
theorem imP_cp {G : Gt} {L0 L : Lt} {P : Pt9} {t i u j n : Nat} (hP : imP G L0 P) (ht : t < 6) (hu : u < 6) (hi : i + n ≤ 60) (hj : j + n ≤ 60) (h : CPs L0 (60 * u + j) (60 * t + i) (60 * u + j) (60 * u + j + n) L) : imP G L (cpP P t u i j n) := by
  intro a ha
  obtain ⟨q1, q2, q3⟩ := hP a ha
  refine ⟨q1, q2, fun x hx => ?_⟩
  show _ = upr P.2.2 u (va_cpy (P.2.2 t) (P.2.2 u) i j n) a x
  rw [h.2]
  by_cases e : a = u
  · subst e
    rw [upr_s]
    unfold va_cpy
    by_cases c : j ≤ x ∧ x < j + n
    · rw [if_pos c, if_pos (by omega)]
      have := (hP t ht).2.2 (x - j + i) (by omega)
      rw [show 60 * a + x - (60 * a + j) + (60 * t + i) = 60 * t + (x - j + i) by omega, this, Nat.add_comm (x - j) i]
    · rw [if_neg c, if_neg (by omega)]; exact q3 x hx
  · rw [upr_n e, if_neg (by omega)]; exact q3 x hx
theorem y_shift {Z : Zt} {G : Gt} {L : Lt} {W : Wv} {H : Hv} {I : Option (Wv × Hv)} {T : Nat × (Nat → Nat)} {R : Nat × (Nat → Int32)} {P : Pt9} {n9 : Nat} (hZ : OK Z) (ok : okA W H I T R P n9) (h : IM G L W H I T R P n9) (a i b j x : Int32) : AC mX12_shift 3 0 0 [.ref 75, .int a, .int i, .int b, .int j, .int x] Z G L (RP (.int (shA P a i b j x).1) (JQ Z G L W H I T R (shA P a i b j x).2 n9)) := by
  have hP := h.2.2.2.2.2.1
  have oP := ok.2.2.2.2.2.1
  refine AC.intro (by decide +kernel) (Nat.le_of_ble_eq_true rfl) ?_
  refine ax_lv [(0, .ref 75), (1, .int a), (2, .int i), (3, .int b), (4, .int j), (5, .int x)] ⟨rfl, rfl, rfl, rfl, rfl, rfl, trivial⟩ ?_
  refine ax_iload_n (i := 1) dX12_shift_0 rfl rfl ?_
  refine ax_cSv dX12_shift_1 lk_X12_337 (c_X12_isTape a) rfl rfl (Nat.le_of_ble_eq_true rfl) (Nat.le_of_ble_eq_true rfl) (Nat.le_of_ble_eq_true rfl) (Nat.le_of_ble_eq_true rfl) ?_
  refine ax_if_eq (tgt := 14) dX12_shift_4 (by decide) (fun c_4 => ?_) (fun c_4 => ?_)
  · refine ax_iconst (v := (-1)) dX12_shift_14 (by decide) ?_
    refine ax_iret dX12_shift_15 rfl rfl (Nat.le_of_ble_eq_true rfl) (Nat.le_of_ble_eq_true rfl) ?_
    have e9 : shA P a i b j x = (-1, P) := by unfold shA; rw [if_pos c_4]
    rw [e9]
    exact ⟨rfl, JQ_same h⟩
  · obtain ⟨t, ht5, rfl⟩ := wi_n (k := 5) (by decide) c_4
    have ht : t < 6 := by omega
    obtain ⟨ot1, ot2, ot3⟩ := oP t ht
    refine ax_iload_n (i := 3) dX12_shift_7 rfl rfl ?_
    refine ax_cSv dX12_shift_8 lk_X12_337 (c_X12_isTape b) rfl rfl (Nat.le_of_ble_eq_true rfl) (Nat.le_of_ble_eq_true rfl) (Nat.le_of_ble_eq_true rfl) (Nat.le_of_ble_eq_true rfl) ?_
    refine ax_if_ne (tgt := 16) dX12_shift_11 (by decide) (fun c_11 => ?_) (fun c_11 => ?_)
    · obtain ⟨u, hu5, rfl⟩ := wi_n (k := 5) (by decide) c_11
      have hu : u < 6 := by omega
      obtain ⟨ou1, ou2, ou3⟩ := oP u hu
      refine ax_aload_n (i := 0) dX12_shift_16 rfl rfl ?_
      refine ax_getR dX12_shift_17 fl_X12_100 rfl (OKs hZ rfl) (OKr hZ rfl) ?_
      refine ax_iload_n (i := 1) dX12_shift_20 rfl rfl ?_
      refine ax_ialdN t dX12_shift_21 (OKs hZ rfl) rfl ht (by decide) ?_
      refine ax_top (congrArg Value.int (hP t ht).1) ?_
      refine ax_if_lt (tgt := 34) dX12_shift_22 (by decide) (fun c_22 => ?_) (fun c_22 => ?_)
      · refine ax_bipush (v := (-11)) dX12_shift_34 (by decide) ?_
        refine ax_iret dX12_shift_36 rfl rfl (Nat.le_of_ble_eq_true rfl) (Nat.le_of_ble_eq_true rfl) ?_
        have e0 : shA P (nI t) i (nI u) j x = shR P t i u j x := by unfold shA; rw [if_neg c_4, if_neg c_11, nI_clamp (by omega), nI_clamp (by omega)]
        have e9 : shR P t i u j x = (-11, P) := by unfold shR; rw [if_pos (Decidable.not_not.mp (fun z => Int32.not_lt.mpr ((iP_s ot1).mpr z) c_22))]
        rw [e0, e9]
        exact ⟨rfl, JQ_same h⟩
      · refine ax_aload_n (i := 0) dX12_shift_25 rfl rfl ?_
        refine ax_getR dX12_shift_26 fl_X12_100 rfl (OKs hZ rfl) (OKr hZ rfl) ?_
        refine ax_iload_n (i := 3) dX12_shift_29 rfl rfl ?_
        refine ax_ialdN u dX12_shift_30 (OKs hZ rfl) rfl hu (by decide) ?_
        refine ax_top (congrArg Value.int (hP u hu).1) ?_
        refine ax_if_ge (tgt := 37) dX12_shift_31 (by decide) (fun c_31 => ?_) (fun c_31 => ?_)
        · refine ax_aload_n (i := 0) dX12_shift_37 rfl rfl ?_
          refine ax_getR dX12_shift_38 fl_X12_100 rfl (OKs hZ rfl) (OKr hZ rfl) ?_
          refine ax_iload_n (i := 1) dX12_shift_41 rfl rfl ?_
          refine ax_ialdN t dX12_shift_42 (OKs hZ rfl) rfl ht (by decide) ?_
          refine ax_top (congrArg Value.int (hP t ht).1) ?_
          refine ax_aload_n (i := 0) dX12_shift_43 rfl rfl ?_
          refine ax_getR dX12_shift_44 fl_X12_100 rfl (OKs hZ rfl) (OKr hZ rfl) ?_
          refine ax_iload_n (i := 3) dX12_shift_47 rfl rfl ?_
          refine ax_ialdN u dX12_shift_48 (OKs hZ rfl) rfl hu (by decide) ?_
          refine ax_top (congrArg Value.int (hP u hu).1) ?_
          refine ax_icmp_eq (tgt := 55) dX12_shift_49 (by decide) (fun c_49 => ?_) (fun c_49 => ?_)
          · refine ax_iload dX12_shift_55 rfl ?_
            refine ax_if_lt (tgt := 104) dX12_shift_57 (by decide) (fun c_57 => ?_) (fun c_57 => ?_)
            · refine ax_bipush (v := (-13)) dX12_shift_104 (by decide) ?_
              refine ax_iret dX12_shift_106 rfl rfl (Nat.le_of_ble_eq_true rfl) (Nat.le_of_ble_eq_true rfl) ?_
              have e0 : shA P (nI t) i (nI u) j x = shR P t i u j x := by unfold shA; rw [if_neg c_4, if_neg c_11, nI_clamp (by omega), nI_clamp (by omega)]
              have n1 : ¬ P.1 t = -1 := (iP_s ot1).mp (Int32.not_lt.mp c_22)
              have n2 : ¬ P.1 u = -1 := (iP_s ou1).mp c_31
              rw [e0, sh_n1 n1 n2 c_49 (Or.inl (hiS_0 (Or.inr (Or.inl c_57))))]
              exact ⟨rfl, JQ_same h⟩
            · refine ax_iload_n (i := 2) dX12_shift_60 rfl rfl ?_
              refine ax_if_lt (tgt := 104) dX12_shift_61 (by decide) (fun c_61 => ?_) (fun c_61 => ?_)
              · refine ax_bipush (v := (-13)) dX12_shift_104 (by decide) ?_
                refine ax_iret dX12_shift_106 rfl rfl (Nat.le_of_ble_eq_true rfl) (Nat.le_of_ble_eq_true rfl) ?_
                have e0 : shA P (nI t) i (nI u) j x = shR P t i u j x := by unfold shA; rw [if_neg c_4, if_neg c_11, nI_clamp (by omega), nI_clamp (by omega)]
                have n1 : ¬ P.1 t = -1 := (iP_s ot1).mp (Int32.not_lt.mp c_22)
                have n2 : ¬ P.1 u = -1 := (iP_s ou1).mp c_31
                rw [e0, sh_n1 n1 n2 c_49 (Or.inl (hiS_0 (Or.inl c_61)))]
                exact ⟨rfl, JQ_same h⟩
              · refine ax_iload dX12_shift_64 rfl ?_
                refine ax_if_lt (tgt := 104) dX12_shift_66 (by decide) (fun c_66 => ?_) (fun c_66 => ?_)
                · refine ax_bipush (v := (-13)) dX12_shift_104 (by decide) ?_
                  refine ax_iret dX12_shift_106 rfl rfl (Nat.le_of_ble_eq_true rfl) (Nat.le_of_ble_eq_true rfl) ?_
                  have e0 : shA P (nI t) i (nI u) j x = shR P t i u j x := by unfold shA; rw [if_neg c_4, if_neg c_11, nI_clamp (by omega), nI_clamp (by omega)]
                  have n1 : ¬ P.1 t = -1 := (iP_s ot1).mp (Int32.not_lt.mp c_22)
                  have n2 : ¬ P.1 u = -1 := (iP_s ou1).mp c_31
                  rw [e0, sh_n1 n1 n2 c_49 (Or.inr (hiS_0 (Or.inl c_66)))]
                  exact ⟨rfl, JQ_same h⟩
                · refine ax_iload_n (i := 2) dX12_shift_69 rfl rfl ?_
                  refine ax_i2l dX12_shift_70 ?_
                  refine ax_iload dX12_shift_71 rfl ?_
                  refine ax_i2l dX12_shift_73 ?_
                  refine ax_ladd dX12_shift_74 ?_
                  refine ax_aload_n (i := 0) dX12_shift_75 rfl rfl ?_
                  refine ax_getR dX12_shift_76 fl_X12_103 rfl (OKs hZ rfl) (OKr hZ rfl) ?_
                  refine ax_iload_n (i := 1) dX12_shift_79 rfl rfl ?_
                  refine ax_ialdN t dX12_shift_80 (OKs hZ rfl) rfl ht (by decide) ?_
                  refine ax_top (congrArg Value.int (hP t ht).2.1) ?_
                  refine ax_i2l dX12_shift_81 ?_
                  refine ax_lcmp dX12_shift_82 ?_
                  refine ax_if_gt (tgt := 104) dX12_shift_83 (by decide) (fun c_83 => ?_) (fun c_83 => ?_)
                  · refine ax_bipush (v := (-13)) dX12_shift_104 (by decide) ?_
                    refine ax_iret dX12_shift_106 rfl rfl (Nat.le_of_ble_eq_true rfl) (Nat.le_of_ble_eq_true rfl) ?_
                    have e0 : shA P (nI t) i (nI u) j x = shR P t i u j x := by unfold shA; rw [if_neg c_4, if_neg c_11, nI_clamp (by omega), nI_clamp (by omega)]
                    have n1 : ¬ P.1 t = -1 := (iP_s ot1).mp (Int32.not_lt.mp c_22)
                    have n2 : ¬ P.1 u = -1 := (iP_s ou1).mp c_31
                    rw [e0, sh_n1 n1 n2 c_49 (Or.inl (hiS_0 (Or.inr (Or.inr c_83))))]
                    exact ⟨rfl, JQ_same h⟩
                  · refine ax_iload dX12_shift_86 rfl ?_
                    refine ax_i2l dX12_shift_88 ?_
                    refine ax_iload dX12_shift_89 rfl ?_
                    refine ax_i2l dX12_shift_91 ?_
                    refine ax_ladd dX12_shift_92 ?_
                    refine ax_aload_n (i := 0) dX12_shift_93 rfl rfl ?_
                    refine ax_getR dX12_shift_94 fl_X12_103 rfl (OKs hZ rfl) (OKr hZ rfl) ?_
                    refine ax_iload_n (i := 3) dX12_shift_97 rfl rfl ?_
                    refine ax_ialdN u dX12_shift_98 (OKs hZ rfl) rfl hu (by decide) ?_
                    refine ax_top (congrArg Value.int (hP u hu).2.1) ?_
                    refine ax_i2l dX12_shift_99 ?_
                    refine ax_lcmp dX12_shift_100 ?_
                    refine ax_if_le (tgt := 107) dX12_shift_101 (by decide) (fun c_101 => ?_) (fun c_101 => ?_)
                    · have n1 : ¬ P.1 t = -1 := (iP_s ot1).mp (Int32.not_lt.mp c_22)
                      have n2 : ¬ P.1 u = -1 := (iP_s ou1).mp c_31
                      have f1 := hiS_1 c_61 c_57 c_83
                      have f2 := hiS_1 c_66 c_57 (Int32.not_lt.mpr c_101)
                      have e0 : shA P (nI t) i (nI u) j x = (x, cpP P t u i.toNatClampNeg j.toNatClampNeg x.toNatClampNeg) := by unfold shA; rw [if_neg c_4, if_neg c_11, nI_clamp (by omega), nI_clamp (by omega)]; unfold shR; rw [if_neg n1, if_neg n2, if_pos c_49, if_neg f1, if_neg f2]
                      rw [e0]
                      obtain ⟨i', x', rfl, rfl, hix⟩ := hiS_n ot2 f1
                      obtain ⟨j', x2, rfl, ex2, hjx⟩ := hiS_n ou2 f2
                      obtain rfl : x' = x2 := (nI_eq (by omega) (by omega)).mp ex2
                      rw [nI_clamp (show i' < 2 ^ 31 by omega), nI_clamp (show j' < 2 ^ 31 by omega), nI_clamp (show x' < 2 ^ 31 by omega)]
                      refine ax_iload_n (i := 1) dX12_shift_107 rfl rfl ?_
                      refine ax_iload_n (i := 3) dX12_shift_108 rfl rfl ?_
                      refine ax_icmp_ne (tgt := 167) dX12_shift_109 (by decide) (fun c_109 => ?_) (fun c_109 => ?_)
                      · refine ax_iconst (v := 0) dX12_shift_167 (by decide) ?_
                        refine ax_istore dX12_shift_168 (by decide) rfl ?_
                        refine ax_lv [(0, .ref 75), (1, .int (nI t)), (2, .int (nI i')), (3, .int (nI u)), (4, .int (nI j')), (5, .int (nI x')), (6, .int (nI 0))] ⟨rfl, rfl, rfl, rfl, rfl, rfl, rfl, trivial⟩ ?_
                        refine l_shf (L0 := L) hZ ht hu (i := i') (j := j') (by omega) (by omega) (Or.inl (fun z => c_109 (by rw [z]))) ?_ (x' + 1) 0 (by omega) (by omega) L CPs_0
                        intro L9 h9
                        refine ax_iload dX12_shift_212 rfl ?_
                        refine ax_iret dX12_shift_214 rfl rfl (Nat.le_of_ble_eq_true rfl) (Nat.le_of_ble_eq_true rfl) ?_
                        exact ⟨rfl, JQ_P h (fun _ _ _ => rfl) h9.1 (imP_cp hP ht hu (by omega) (by omega) h9)⟩
                      · refine ax_iload_n (i := 2) dX12_shift_112 rfl rfl ?_
                        refine ax_iload dX12_shift_113 rfl ?_
                        refine ax_icmp_ge (tgt := 167) dX12_shift_115 (by decide) (fun c_115 => ?_) (fun c_115 => ?_)
                        · refine ax_iconst (v := 0) dX12_shift_167 (by decide) ?_
                          refine ax_istore dX12_shift_168 (by decide) rfl ?_
                          refine ax_lv [(0, .ref 75), (1, .int (nI t)), (2, .int (nI i')), (3, .int (nI u)), (4, .int (nI j')), (5, .int (nI x')), (6, .int (nI 0))] ⟨rfl, rfl, rfl, rfl, rfl, rfl, rfl, trivial⟩ ?_
                          refine l_shf (L0 := L) hZ ht hu (i := i') (j := j') (by omega) (by omega) (Or.inr ((nI_leI (by omega) (by omega)).mp c_115)) ?_ (x' + 1) 0 (by omega) (by omega) L CPs_0
                          intro L9 h9
                          refine ax_iload dX12_shift_212 rfl ?_
                          refine ax_iret dX12_shift_214 rfl rfl (Nat.le_of_ble_eq_true rfl) (Nat.le_of_ble_eq_true rfl) ?_
                          exact ⟨rfl, JQ_P h (fun _ _ _ => rfl) h9.1 (imP_cp hP ht hu (by omega) (by omega) h9)⟩
                        · refine ax_iload dX12_shift_118 rfl ?_
                          refine ax_iconst (v := 1) dX12_shift_120 (by decide) ?_
                          refine ax_isub dX12_shift_121 ?_
                          refine ax_istore dX12_shift_122 (by decide) rfl ?_
                          refine ax_lv [(0, .ref 75), (1, .int (nI t)), (2, .int (nI i')), (3, .int (nI u)), (4, .int (nI j')), (5, .int (nI x')), (6, .int (nI x' - 1))] ⟨rfl, rfl, rfl, rfl, rfl, rfl, rfl, trivial⟩ ?_
                          refine l_shb (L0 := L) hZ ht hu (i := i') (j := j') (by omega) (by omega) ((nI_eq (by omega) (by omega)).mp c_109) (by have := mt (nI_leI (by omega) (by omega)).mpr c_115; omega) ?_ x' (Nat.le_refl _) L CPs_0
                          intro L9 h9
                          refine ax_iload dX12_shift_212 rfl ?_
                          refine ax_iret dX12_shift_214 rfl rfl (Nat.le_of_ble_eq_true rfl) (Nat.le_of_ble_eq_true rfl) ?_
                          exact ⟨rfl, JQ_P h (fun _ _ _ => rfl) h9.1 (imP_cp hP ht hu (by omega) (by omega) h9)⟩
                    · refine ax_bipush (v := (-13)) dX12_shift_104 (by decide) ?_
                      refine ax_iret dX12_shift_106 rfl rfl (Nat.le_of_ble_eq_true rfl) (Nat.le_of_ble_eq_true rfl) ?_
                      have e0 : shA P (nI t) i (nI u) j x = shR P t i u j x := by unfold shA; rw [if_neg c_4, if_neg c_11, nI_clamp (by omega), nI_clamp (by omega)]
                      have n1 : ¬ P.1 t = -1 := (iP_s ot1).mp (Int32.not_lt.mp c_22)
                      have n2 : ¬ P.1 u = -1 := (iP_s ou1).mp c_31
                      rw [e0, sh_n1 n1 n2 c_49 (Or.inr (hiS_0 (Or.inr (Or.inr (Int32.not_le.mp c_101)))))]
                      exact ⟨rfl, JQ_same h⟩
          · refine ax_bipush (v := (-12)) dX12_shift_52 (by decide) ?_
            refine ax_iret dX12_shift_54 rfl rfl (Nat.le_of_ble_eq_true rfl) (Nat.le_of_ble_eq_true rfl) ?_
            have e0 : shA P (nI t) i (nI u) j x = shR P t i u j x := by unfold shA; rw [if_neg c_4, if_neg c_11, nI_clamp (by omega), nI_clamp (by omega)]
            have n1 : ¬ P.1 t = -1 := (iP_s ot1).mp (Int32.not_lt.mp c_22)
            have n2 : ¬ P.1 u = -1 := (iP_s ou1).mp c_31
            have e9 : shR P t i u j x = (-12, P) := by unfold shR; rw [if_neg n1, if_neg n2, if_neg c_49]
            rw [e0, e9]
            exact ⟨rfl, JQ_same h⟩
        · refine ax_bipush (v := (-11)) dX12_shift_34 (by decide) ?_
          refine ax_iret dX12_shift_36 rfl rfl (Nat.le_of_ble_eq_true rfl) (Nat.le_of_ble_eq_true rfl) ?_
          have e0 : shA P (nI t) i (nI u) j x = shR P t i u j x := by unfold shA; rw [if_neg c_4, if_neg c_11, nI_clamp (by omega), nI_clamp (by omega)]
          have n1 : ¬ P.1 t = -1 := (iP_s ot1).mp (Int32.not_lt.mp c_22)
          have e9 : shR P t i u j x = (-11, P) := by unfold shR; rw [if_neg n1, if_pos (Decidable.not_not.mp (fun z => c_31 ((iP_s ou1).mpr z)))]
          rw [e0, e9]
          exact ⟨rfl, JQ_same h⟩
    · refine ax_iconst (v := (-1)) dX12_shift_14 (by decide) ?_
      refine ax_iret dX12_shift_15 rfl rfl (Nat.le_of_ble_eq_true rfl) (Nat.le_of_ble_eq_true rfl) ?_
      have e9 : shA P (nI t) i b j x = (-1, P) := by unfold shA; rw [if_neg c_4, if_pos c_11]
      rw [e9]
      exact ⟨rfl, JQ_same h⟩
