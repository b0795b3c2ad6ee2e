-- ===== contracts: rows of rockets =====
/-- the j-th of n digits to base 6 -/
def dg (n x j : Nat) : Nat := x / 6 ^ (n - 1 - j) % 6
theorem dg_l (n x : Nat) : dg (n + 1) x n = x % 6 := by
  unfold dg
  rw [show n + 1 - 1 - n = 0 by omega, Nat.pow_zero, Nat.div_one]
theorem dg_s {n x j : Nat} (h : j < n) : dg (n + 1) x j = dg n (x / 6) j := by
  unfold dg
  rw [show n + 1 - 1 - j = (n - 1 - j) + 1 by omega, Nat.pow_succ, Nat.mul_comm, Nat.div_div_eq_div_mul]
theorem dg_6 (n x j : Nat) : dg n x j < 6 := Nat.mod_lt _ (by decide)
theorem i32_m1 (x : Int32) : x + (-1) = x - 1 := by rw [Int32.sub_eq_add_neg]
def frV (u : Int32) (d : Nat → Nat) : Nat → Int32
  | 0 => u
  | k + 1 => frV u d k ^^^ ((1 : Int32) <<< (nI (d k) &&& 31))
def cnB (u : Int32) (d : Nat → Nat) : Nat → Bool
  | 0 => true
  | k + 1 => cnB u d k && decide (¬ frV u d k &&& ((1 : Int32) <<< (nI (d k) &&& 31)) = 0)
theorem cnB_f {u : Int32} {d : Nat → Nat} : ∀ {n k : Nat}, k ≤ n → cnB u d k = false → cnB u d n = false
  | 0, k, h, e => by rw [show k = 0 by omega] at e; exact e
  | n + 1, k, h, e => by
    rcases Nat.lt_or_ge k (n + 1) with q | q
    · unfold cnB; rw [cnB_f (n := n) (by omega) e]; rfl
    · rw [show n + 1 = k by omega]; exact e
def toV (W : Wv) (d : Nat → Nat) : Nat → Wv
  | 0 => W
  | k + 1 => minV (litV (toV W d k) (d k))
theorem toV_ok {W : Wv} {d : Nat → Nat} (h : okW W) (hm : W.mm + 20 < 20000) : ∀ n, n ≤ 3 → (∀ k, k < n → d k < W.m) → okW (toV W d n) ∧ (toV W d n).m = W.m ∧ (toV W d n).mm = W.mm + n
  | 0, _, _ => ⟨h, rfl, rfl⟩
  | n + 1, hn, hd => by
    obtain ⟨i1, i2, i3⟩ := toV_ok h hm n (by omega) (fun k hk => hd k (by omega))
    have j := litV_ok i1 (p := d n) (by rw [i2]; exact hd n (by omega))
    exact ⟨minV_ok j (by show (toV W d n).mm + 1 < 20000; omega), i2, by show (toV W d n).mm + 1 = _; omega⟩
theorem toV_cg {W : Wv} {d d' : Nat → Nat} : ∀ n, (∀ k, k < n → d k = d' k) → toV W d n = toV W d' n
  | 0, _ => rfl
  | n + 1, h => by
    unfold toV
    rw [toV_cg n (fun k hk => h k (by omega)), h n (by omega)]
theorem tr6 {Z Z1 : Zt} {G G1 : Gt} {f : Nat → Int32} (h : trP Z (upr G 6 f) Z1 G1) (g : Nat → Int32) : trP Z (upr G 6 g) Z1 (upr G1 6 g) := by
  obtain ⟨h1, h2, h3, h4⟩ := h
  refine ⟨h1, h2, h3, fun a ha => ?_⟩
  by_cases e : a = 6
  · rw [e, upr_s, upr_s]
  · rw [upr_n e, upr_n e]
    have := h4 a ha
    rw [upr_n e] at this
    exact this
theorem upr_id {α : Type} {G : Nat → Nat → α} {k : Nat} : upr G k (G k) = G := by
  funext a
  by_cases e : a = k
  · rw [e, upr_s]
  · rw [upr_n e]
theorem upr_ext {α : Type} {G G' : Nat → Nat → α} {k : Nat} (h : ∀ a, a ≠ k → G' a = G a) : G' = upr G k (G' k) := by
  funext a
  by_cases e : a = k
  · rw [e, upr_s]
  · rw [upr_n e]; exact h a e
theorem vC_6 {Z : Zt} {G : Gt} {W : Wv} {f : Nat → Int32} (h : vC Z G 24 W) (ho : W.m ≤ 6) : vC Z (upr G 6 f) 24 W := vC_keep h ho (fun a _ _ => upr_n (by omega)) rfl (fun _ _ h => h) (fun _ _ _ _ h => h) (fun a _ _ _ => upr_n (by omega))
theorem l_orderOf {Z : Zt} {L : Lt} {Q : Qt} (hZ : OK Z) : ∀ (r x : Nat) (G : Gt), x < 1000 → r ≤ 3 → (∀ G' : Gt, (∀ a, a ≠ 6 → G' a = G a) → (∀ j, j < r → G' 6 j = nI (dg r x j)) → (∀ j, r ≤ j → G' 6 j = G 6 j) → Q none Z G' L) → AX none mX11_orderOf 1 0 0 0 0 7 [(0, .ref 0), (3, .int (nI x)), (4, .int (nI r - 1))] [] Z G L Q := by
  intro r
  induction r with
  | zero =>
    intro x G h1 h2 hend
    refine ax_iload dX11_orderOf_7 rfl ?_
    refine ax_if_lt (tgt := 34) dX11_orderOf_9 (by decide) (fun c_9 => ?_) (fun c_9 => ?_)
    · refine ax_vret dX11_orderOf_34 rfl (Nat.le_of_ble_eq_true rfl) (Nat.le_of_ble_eq_true rfl) ?_
      exact hend G (fun _ _ => rfl) (fun j hj => absurd hj (by omega)) (fun _ _ => rfl)
    · exact absurd (by decide) c_9
  | succ r ih =>
    intro x G h1 h2 hend
    refine ax_lv [(0, .ref 0), (3, .int (nI x)), (4, .int (nI r))] ⟨rfl, rfl, sI (nI_pred r), trivial⟩ ?_
    refine ax_iload dX11_orderOf_7 rfl ?_
    refine ax_if_lt (tgt := 34) dX11_orderOf_9 (by decide) (fun c_9 => ?_) (fun c_9 => ?_)
    · exact absurd c_9 (nI_pos (by omega))
    · refine ax_aload_n (i := 0) dX11_orderOf_12 rfl rfl ?_
      refine ax_getR dX11_orderOf_13 fl_X11_38 rfl (OKs hZ rfl) (OKr hZ rfl) ?_
      refine ax_iload dX11_orderOf_16 rfl ?_
      refine ax_iload_n (i := 3) dX11_orderOf_18 rfl rfl ?_
      refine ax_bipush (v := 6) dX11_orderOf_19 (by decide) ?_
      refine ax_irem dX11_orderOf_21 (by decide) ?_
      refine ax_iastN r dX11_orderOf_22 (OKs hZ rfl) rfl (by omega) (by decide) ?_
      refine ax_iload_n (i := 3) dX11_orderOf_23 rfl rfl ?_
      refine ax_bipush (v := 6) dX11_orderOf_24 (by decide) ?_
      refine ax_idiv dX11_orderOf_26 (by decide) ?_
      refine ax_istore_n (i := 3) dX11_orderOf_27 rfl (by decide) rfl ?_
      refine ax_iinc (v := (nI r) + (-1)) dX11_orderOf_28 rfl rfl (by decide) rfl ?_
      refine ax_goto (tgt := 7) dX11_orderOf_31 (by decide) ?_
      refine ax_lv [(0, .ref 0), (3, .int (nI (x / 6))), (4, .int (nI r - 1))] ⟨rfl, sI (pk_div (by omega) (by decide) (by decide)), sI (i32_m1 _), trivial⟩ ?_
      refine ih (x / 6) _ (by omega) (by omega) (fun G' g1 g2 g3 => ?_)
      refine hend G' (fun a ha => (g1 a ha).trans (up2_row ha)) (fun j hj => ?_) (fun j hj => (g3 j (by omega)).trans (up2_i (by omega)))
      rcases Nat.lt_or_ge j r with e | e
      · rw [g2 j e, dg_s e]
      · rw [show j = r by omega, g3 r (by omega), up2_s, dg_l]; exact pk_rem (by omega) (by decide) (by decide)
theorem c_orderOf {Z : Zt} {G : Gt} {L : Lt} (hZ : OK Z) (x n : Nat) (hx : x < 1000) (hn : n ≤ 3) : AC mX11_orderOf 1 0 0 [.ref 0, .int (nI x), .int (nI n)] Z G L (NP (fun Z' G' L' => Z' = Z ∧ L' = L ∧ (∀ a, a ≠ 6 → G' a = G a) ∧ ∀ j, j < n → G' 6 j = nI (dg n x j))) := by
  refine AC.intro (by decide +kernel) (Nat.le_of_ble_eq_true rfl) ?_
  refine ax_lv [(0, .ref 0), (1, .int (nI x)), (2, .int (nI n))] ⟨rfl, rfl, rfl, trivial⟩ ?_
  refine ax_iload_n (i := 1) dX11_orderOf_0 rfl rfl ?_
  refine ax_istore_n (i := 3) dX11_orderOf_1 rfl (by decide) rfl ?_
  refine ax_iload_n (i := 2) dX11_orderOf_2 rfl rfl ?_
  refine ax_iconst (v := 1) dX11_orderOf_3 (by decide) ?_
  refine ax_isub dX11_orderOf_4 ?_
  refine ax_istore dX11_orderOf_5 (by decide) rfl ?_
  refine ax_lv [(0, .ref 0), (3, .int (nI x)), (4, .int (nI n - 1))] ⟨rfl, rfl, rfl, trivial⟩ ?_
  exact l_orderOf hZ n x G hx hn (fun G' g1 g2 _ => ⟨rfl, rfl, rfl, g1, g2⟩)
theorem l_canLightOrder {Z : Zt} {G : Gt} {L : Lt} {Q : Qt} {W : Wv} (hZ : OK Z) (n : Nat) (hn : n ≤ 3) (d : Nat → Nat) (h6 : ∀ k, k < n → G 6 k = nI (d k)) (hend : cnB (inB (fun p => W.C p 5) 0 W.m) d n = true → AX none mX11_canLightOrder 2 0 0 0 0 46 [] [] Z G L Q) (hbad : cnB (inB (fun p => W.C p 5) 0 W.m) d n = false → Q (some (.int 0)) Z G L) : ∀ (r q : Nat), q ≤ n → n - q < r → cnB (inB (fun p => W.C p 5) 0 W.m) d q = true → AX none mX11_canLightOrder 2 0 0 0 0 11 [(0, .ref 0), (1, .int (nI n)), (2, .int (frV (inB (fun p => W.C p 5) 0 W.m) d q)), (3, .int (nI q))] [] Z G L Q := by
  intro r
  induction r with
  | zero => intro q h1 h2; omega
  | succ r ih =>
    intro q h1 h2 hq9
    refine ax_iload_n (i := 3) dX11_canLightOrder_11 rfl rfl ?_
    refine ax_iload_n (i := 1) dX11_canLightOrder_12 rfl rfl ?_
    refine ax_icmp_ge (tgt := 46) dX11_canLightOrder_13 (by decide) (fun c_13 => ?_) (fun c_13 => ?_)
    · obtain rfl : q = n := by have := (nI_leI (by omega) (by omega)).mp (show nI n ≤ nI q from c_13); omega
      exact ax_lv [] trivial (hend hq9)
    · have hqm : q < n := by have := mt (nI_leI (by omega) (by omega)).mpr (show ¬ nI n ≤ nI q from c_13); omega
      refine ax_iconst (v := 1) dX11_canLightOrder_16 (by decide) ?_
      refine ax_aload_n (i := 0) dX11_canLightOrder_17 rfl rfl ?_
      refine ax_getR dX11_canLightOrder_18 fl_X11_38 rfl (OKs hZ rfl) (OKr hZ rfl) ?_
      refine ax_iload_n (i := 3) dX11_canLightOrder_21 rfl rfl ?_
      refine ax_ialdN q dX11_canLightOrder_22 (OKs hZ rfl) rfl (by omega) (by decide) ?_
      refine ax_top (congrArg Value.int (h6 q hqm)) ?_
      refine ax_ishl dX11_canLightOrder_23 ?_
      refine ax_istore dX11_canLightOrder_24 (by decide) rfl ?_
      refine ax_iload_n (i := 2) dX11_canLightOrder_26 rfl rfl ?_
      refine ax_iload dX11_canLightOrder_27 rfl ?_
      refine ax_iand dX11_canLightOrder_29 ?_
      refine ax_if_ne (tgt := 35) dX11_canLightOrder_30 (by decide) (fun c_30 => ?_) (fun c_30 => ?_)
      · refine ax_iload_n (i := 2) dX11_canLightOrder_35 rfl rfl ?_
        refine ax_iload dX11_canLightOrder_36 rfl ?_
        refine ax_ixor dX11_canLightOrder_38 ?_
        refine ax_istore_n (i := 2) dX11_canLightOrder_39 rfl (by decide) rfl ?_
        refine ax_iinc (v := (nI q) + 1) dX11_canLightOrder_40 rfl rfl (by decide) rfl ?_
        refine ax_goto (tgt := 11) dX11_canLightOrder_43 (by decide) ?_
        refine ax_lv [(0, .ref 0), (1, .int (nI n)), (2, .int (frV (inB (fun p => W.C p 5) 0 W.m) d (q + 1))), (3, .int (nI (q + 1)))] ⟨rfl, rfl, rfl, sI (nI_1 q), trivial⟩ ?_
        exact ih (q + 1) (by omega) (by omega) (by rw [cnB, hq9, decide_eq_true c_30]; rfl)
      · refine ax_iconst (v := 0) dX11_canLightOrder_33 (by decide) ?_
        refine ax_iret dX11_canLightOrder_34 rfl rfl (Nat.le_of_ble_eq_true rfl) (Nat.le_of_ble_eq_true rfl) ?_
        exact hbad (cnB_f (k := q + 1) (by omega) (by rw [cnB, hq9, decide_eq_false (fun z => z c_30)]; rfl))
theorem c_canLightOrder {Z : Zt} {G : Gt} {L : Lt} {W : Wv} (hZ : OK Z) (hv : vC Z G 24 W) (ho : okW W) (n : Nat) (hn : n ≤ 3) (d : Nat → Nat) (h6 : ∀ k, k < n → G 6 k = nI (d k)) : AC mX11_canLightOrder 2 0 0 [.ref 0, .int (nI n)] Z G L (RQ (.int (bi (cnB (inB (fun p => W.C p 5) 0 W.m) d n = true))) Z G L) := by
  refine AC.intro (by decide +kernel) (Nat.le_of_ble_eq_true rfl) ?_
  refine ax_lv [(0, .ref 0), (1, .int (nI n))] ⟨rfl, rfl, trivial⟩ ?_
  refine ax_aload_n (i := 0) dX11_canLightOrder_0 rfl rfl ?_
  refine ax_getR dX11_canLightOrder_1 fl_X11_14 rfl (OKs hZ rfl) (OKr hZ rfl) ?_
  refine ax_iconst (v := 0) dX11_canLightOrder_4 (by decide) ?_
  refine ax_cVv dX11_canLightOrder_5 lk_X11_155 (k_in (isW24 hZ) (trP_vC (trP_refl (Z := Z) (G := G)) hv ho.1 (Or.inl rfl)) ho 0) rfl (OKs hZ rfl) ⟨_, rfl, rfl⟩ rfl (Nat.le_of_ble_eq_true rfl) (Nat.le_of_ble_eq_true rfl) (Nat.le_of_ble_eq_true rfl) (Nat.le_of_ble_eq_true rfl) ?_
  refine ax_istore_n (i := 2) dX11_canLightOrder_8 rfl (by decide) rfl ?_
  refine ax_iconst (v := 0) dX11_canLightOrder_9 (by decide) ?_
  refine ax_istore_n (i := 3) dX11_canLightOrder_10 rfl (by decide) rfl ?_
  refine ax_lv [(0, .ref 0), (1, .int (nI n)), (2, .int (frV (inB (fun p => W.C p 5) 0 W.m) d 0)), (3, .int (nI 0))] ⟨rfl, rfl, rfl, rfl, trivial⟩ ?_
  refine l_canLightOrder hZ n hn d h6 ?_ ?_ (n + 1) 0 (by omega) (by omega) rfl
  · intro hq9
    refine ax_iconst (v := 1) dX11_canLightOrder_46 (by decide) ?_
    refine ax_iret dX11_canLightOrder_47 rfl rfl (Nat.le_of_ble_eq_true rfl) (Nat.le_of_ble_eq_true rfl) ?_
    exact rq (bi_t hq9).symm
  · intro hq9
    exact rq (bi_f (by rw [hq9]; decide)).symm
theorem l_tryOrder {Z0 : Zt} {G0 : Gt} {L : Lt} {Q : Qt} {W : Wv} (hZ : OK Z0) (hv : vC Z0 G0 24 W) (ho : okW W) (hm : W.mm + 20 < 20000) (n9 : Nat) (hn9 : n9 ≤ 3) (d : Nat → Nat) (h6 : ∀ k, k < n9 → G0 6 k = nI (d k)) (hd : ∀ k, k < n9 → d k < W.m) (hend : ∀ Z G, trP Z0 G0 Z G → vC Z G 58 (toV W d n9) → AX none mX11_tryOrder 6 0 0 0 0 46 [] [] Z G L Q) : ∀ (n q : Nat), q ≤ n9 → n9 - q < n → ∀ Z G, trP Z0 G0 Z G → vC Z G 58 (toV W d q) → AX none mX11_tryOrder 6 0 0 0 0 13 [(0, .ref 0), (1, .int (nI n9)), (2, .int (nI q))] [] Z G L Q := by
  intro n
  induction n with
  | zero => intro q h1 h2; omega
  | succ n ih =>
    intro q h1 h2 Z G t9 hq9
    have hZ9 := trP_OK t9 hZ
    refine ax_iload_n (i := 2) dX11_tryOrder_13 rfl rfl ?_
    refine ax_iload_n (i := 1) dX11_tryOrder_14 rfl rfl ?_
    refine ax_icmp_ge (tgt := 46) dX11_tryOrder_15 (by decide) (fun c_15 => ?_) (fun c_15 => ?_)
    · obtain rfl : q = n9 := by have := (nI_leI (by omega) (by omega)).mp (show nI n9 ≤ nI q from c_15); omega
      exact ax_lv [] trivial (hend _ _ t9 hq9)
    · have hqm : q < n9 := by have := mt (nI_leI (by omega) (by omega)).mpr (show ¬ nI n9 ≤ nI q from c_15); omega
      obtain ⟨i1, i2, i3⟩ := toV_ok (d := d) ho hm q (by omega) (fun k hk => hd k (by omega))
      refine ax_aload_n (i := 0) dX11_tryOrder_18 rfl rfl ?_
      refine ax_getR dX11_tryOrder_19 fl_X11_21 rfl (OKs hZ9 rfl) (OKr hZ9 rfl) ?_
      refine ax_aload_n (i := 0) dX11_tryOrder_22 rfl rfl ?_
      refine ax_getR dX11_tryOrder_23 fl_X11_38 rfl (OKs hZ9 rfl) (OKr hZ9 rfl) ?_
      refine ax_iload_n (i := 2) dX11_tryOrder_26 rfl rfl ?_
      refine ax_ialdN q dX11_tryOrder_27 (OKs hZ9 rfl) rfl (show q < 3 by omega) (by decide) ?_
      refine ax_top (congrArg Value.int ((congrFun (t9.2.2.2 6 (by decide)) q).trans (h6 q hqm))) ?_
      refine ax_cVq dX11_tryOrder_28 lk_X11_98 (k_ign hZ9 hq9 i1 (d q) (by rw [i2]; exact hd q hqm)) rfl (OKs hZ9 rfl) ⟨_, rfl, rfl⟩ rfl (Nat.le_of_ble_eq_true rfl) (Nat.le_of_ble_eq_true rfl) (Nat.le_of_ble_eq_true rfl) (Nat.le_of_ble_eq_true rfl) ?_
      rintro Z1 G1 _ ⟨rfl, t'1, v1⟩
      have t1 := trP_trans t9 t'1
      refine ax_pop dX11_tryOrder_31 rfl ?_
      refine ax_aload_n (i := 0) dX11_tryOrder_32 rfl rfl ?_
      refine ax_getR dX11_tryOrder_33 fl_X11_21 rfl (OKs (trP_OK t1 hZ) rfl) (OKr (trP_OK t1 hZ) rfl) ?_
      refine ax_iconst (v := 1) dX11_tryOrder_36 (by decide) ?_
      refine ax_cVq0 dX11_tryOrder_37 lk_X11_158 (k_min (trP_OK t1 hZ) v1 (litV_ok i1 (by rw [i2]; exact hd q hqm)) 1 (by decide) (show (toV W d q).mm + 1 < 20000 by omega)) rfl (OKs (trP_OK t1 hZ) rfl) ⟨_, rfl, rfl⟩ rfl (Nat.le_of_ble_eq_true rfl) (Nat.le_of_ble_eq_true rfl) (Nat.le_of_ble_eq_true rfl) (Nat.le_of_ble_eq_true rfl) ?_
      rintro Z2 G2 _ ⟨rfl, t'2, v2⟩
      have t2 := trP_trans t1 t'2
      refine ax_iinc (v := (nI q) + 1) dX11_tryOrder_40 rfl rfl (by decide) rfl ?_
      refine ax_goto (tgt := 13) dX11_tryOrder_43 (by decide) ?_
      refine ax_lv [(0, .ref 0), (1, .int (nI n9)), (2, .int (nI (q + 1)))] ⟨rfl, rfl, sI (nI_1 q), trivial⟩ ?_
      exact ih (q + 1) (by omega) (by omega) _ _ t2 v2
theorem c_tryOrder {Z : Zt} {G : Gt} {L : Lt} {W : Wv} (hZ : OK Z) (hv : vC Z G 24 W) (ho : okW W) (hm : W.mm + 20 < 20000) (n9 : Nat) (hn9 : n9 ≤ 3) (d : Nat → Nat) (h6 : ∀ k, k < n9 → G 6 k = nI (d k)) (hd : ∀ k, k < n9 → d k < W.m) : AC mX11_tryOrder 6 0 0 [.ref 0, .int (nI n9)] Z G L (NP (TV Z G L (toV W d n9))) := by
  refine AC.intro (by decide +kernel) (Nat.le_of_ble_eq_true rfl) ?_
  refine ax_lv [(0, .ref 0), (1, .int (nI n9))] ⟨rfl, rfl, trivial⟩ ?_
  refine ax_aload_n (i := 0) dX11_tryOrder_0 rfl rfl ?_
  refine ax_getR dX11_tryOrder_1 fl_X11_21 rfl (OKs hZ rfl) (OKr hZ rfl) ?_
  refine ax_aload_n (i := 0) dX11_tryOrder_4 rfl rfl ?_
  refine ax_getR dX11_tryOrder_5 fl_X11_14 rfl (OKs hZ rfl) (OKr hZ rfl) ?_
  refine ax_cVq0 dX11_tryOrder_8 lk_X11_162 (k_go hZ (trP_vC (trP_refl (Z := Z) (G := G)) hv ho.1 (Or.inl rfl)) ho) rfl (OKs hZ rfl) ⟨_, rfl, rfl⟩ rfl (Nat.le_of_ble_eq_true rfl) (Nat.le_of_ble_eq_true rfl) (Nat.le_of_ble_eq_true rfl) (Nat.le_of_ble_eq_true rfl) ?_
  rintro Z1 G1 _ ⟨rfl, t'1, v1⟩
  have t1 := trP_trans (trP_refl (Z := Z) (G := G)) t'1
  refine ax_iconst (v := 0) dX11_tryOrder_11 (by decide) ?_
  refine ax_istore_n (i := 2) dX11_tryOrder_12 rfl (by decide) rfl ?_
  refine ax_lv [(0, .ref 0), (1, .int (nI n9)), (2, .int (nI 0))] ⟨rfl, rfl, rfl, trivial⟩ ?_
  refine l_tryOrder hZ hv ho hm n9 hn9 d h6 hd ?_ (n9 + 1) 0 (by omega) (by omega) _ _ t1 v1
  intro Z9 G9 t9 hq9
  refine ax_vret dX11_tryOrder_46 rfl (Nat.le_of_ble_eq_true rfl) (Nat.le_of_ble_eq_true rfl) ?_
  exact ⟨rfl, rfl, t9, hq9⟩
