-- ===== contracts: the best row =====
/-- is bit i set -/
def tb (x : Int32) (i : Nat) : Bool := x.toBitVec.getLsbD i
theorem tb_or (x y : Int32) (i : Nat) : tb (x ||| y) i = (tb x i || tb y i) := by unfold tb; rw [Int32.toBitVec_or, BitVec.getLsbD_or]
theorem tb_and (x y : Int32) (i : Nat) : tb (x &&& y) i = (tb x i && tb y i) := by unfold tb; rw [Int32.toBitVec_and, BitVec.getLsbD_and]
theorem tb_xor (x y : Int32) (i : Nat) : tb (x ^^^ y) i = (tb x i ^^ tb y i) := by unfold tb; rw [Int32.toBitVec_xor, BitVec.getLsbD_xor]
theorem tb_0 (i : Nat) : tb 0 i = false := by unfold tb; exact BitVec.getLsbD_zero
theorem tb_ext {x y : Int32} (h : ∀ i, i < 32 → tb x i = tb y i) : x = y := by
  apply Int32.toBitVec_inj.mp
  exact BitVec.eq_of_getLsbD_eq (fun i hi => h i hi)
theorem tb_sh {p i : Nat} (hp : p < 31) (hi : i < 32) : tb ((1 : Int32) <<< (nI p &&& 31)) i = decide (i = p) := by
  have : ∀ p, p < 31 → ∀ i, i < 32 → tb ((1 : Int32) <<< (nI p &&& 31)) i = decide (i = p) := by decide +kernel
  exact this p hp i hi
theorem tb_in {f : Nat → Int32} {so : Int32} {i : Nat} (hi : i < 32) : ∀ n, n ≤ 31 → tb (inB f so n) i = decide (i < n ∧ f i = so)
  | 0, _ => by unfold inB; rw [tb_0, decide_eq_false (by omega)]
  | n + 1, hn => by
    have ih := tb_in (f := f) (so := so) hi n (by omega)
    unfold inB
    by_cases c : f n = so
    · rw [if_pos c, tb_or, ih, tb_sh (by omega) hi]
      by_cases e : i = n
      · rw [decide_eq_true e, decide_eq_true (show i < n + 1 ∧ f i = so from ⟨by omega, by rw [e]; exact c⟩), Bool.or_true]
      · rw [decide_eq_false e, Bool.or_false]
        by_cases g : i < n ∧ f i = so
        · rw [decide_eq_true g, decide_eq_true ⟨by omega, g.2⟩]
        · rw [decide_eq_false g, decide_eq_false (fun z => g ⟨by omega, z.2⟩)]
    · rw [if_neg c, ih]
      by_cases g : i < n ∧ f i = so
      · rw [decide_eq_true g, decide_eq_true ⟨by omega, g.2⟩]
      · rw [decide_eq_false g, decide_eq_false (fun z => g ⟨by
          rcases Nat.lt_or_ge i n with q | q
          · exact q
          · exact absurd (by rw [show n = i by omega]; exact z.2) c, z.2⟩)]
theorem tb_bit {x : Int32} {p : Nat} (hp : p < 31) : x &&& ((1 : Int32) <<< (nI p &&& 31)) = 0 ↔ tb x p = false := by
  constructor
  · intro h
    have e : tb (x &&& ((1 : Int32) <<< (nI p &&& 31))) p = false := by rw [h, tb_0]
    rw [tb_and, tb_sh hp (by omega), decide_eq_true rfl, Bool.and_true] at e
    exact e
  · intro h
    refine tb_ext (fun i hi => ?_)
    rw [tb_and, tb_sh hp hi, tb_0]
    by_cases e : i = p
    · rw [e, h]; rfl
    · rw [decide_eq_false e, Bool.and_false]
theorem fr_tb {f : Nat → Int32} {m : Nat} (hm : m ≤ 6) {d : Nat → Nat} (hd : ∀ k, d k < 6) : ∀ n, (∀ k, k < n → d k < m ∧ f (d k) = 0 ∧ ∀ j, j < k → d j ≠ d k) → ∀ i, i < 32 → (tb (frV (inB f 0 m) d n) i = true ↔ (i < m ∧ f i = 0 ∧ ∀ j, j < n → d j ≠ i))
  | 0, _, i, hi => by
    show tb (inB f 0 m) i = true ↔ _
    rw [tb_in hi m (by omega), decide_eq_true_iff]
    exact ⟨fun h => ⟨h.1, h.2, fun j hj => absurd hj (by omega)⟩, fun h => ⟨h.1, h.2.1⟩⟩
  | n + 1, h, i, hi => by
    have ih := fr_tb hm hd n (fun k hk => h k (by omega)) i hi
    show tb (frV (inB f 0 m) d n ^^^ _) i = true ↔ _
    rw [tb_xor, tb_sh (by have := hd n; omega) hi]
    by_cases e : i = d n
    · have hn := h n (by omega)
      have ht := ih.mpr ⟨by rw [e]; exact hn.1, by rw [e]; exact hn.2.1, fun j hj => by rw [e]; exact hn.2.2 j hj⟩
      rw [decide_eq_true e, ht]
      exact ⟨fun z => Bool.noConfusion z, fun z => absurd e.symm (z.2.2 n (by omega))⟩
    · rw [decide_eq_false e, Bool.xor_false, ih]
      refine ⟨fun z => ⟨z.1, z.2.1, fun j hj => ?_⟩, fun z => ⟨z.1, z.2.1, fun j hj => z.2.2 j (by omega)⟩⟩
      rcases Nat.lt_or_ge j n with q | q
      · exact z.2.2 j q
      · rw [show j = n by omega]; exact fun w => e w.symm
/-- a row that can be lit: other rockets each, unlit -/
theorem cnB_iff {f : Nat → Int32} {m : Nat} (hm : m ≤ 6) {d : Nat → Nat} (hd : ∀ k, d k < 6) : ∀ n, cnB (inB f 0 m) d n = true ↔ (∀ k, k < n → d k < m ∧ f (d k) = 0 ∧ ∀ j, j < k → d j ≠ d k)
  | 0 => ⟨fun _ k hk => absurd hk (by omega), fun _ => rfl⟩
  | n + 1 => by
    have ih := cnB_iff (f := f) hm hd n
    unfold cnB
    rw [Bool.and_eq_true, ih, decide_eq_true_iff, tb_bit (by have := hd n; omega)]
    constructor
    · rintro ⟨h1, h2⟩ k hk
      rcases Nat.lt_or_ge k n with q | q
      · exact h1 k q
      · obtain rfl : k = n := by omega
        exact (fr_tb hm hd k h1 (d k) (by have := hd k; omega)).mp (by cases e : tb (frV (inB f 0 m) d k) (d k) with
          | true => rfl
          | false => exact absurd e h2)
    · intro h
      have h1 : ∀ k, k < n → d k < m ∧ f (d k) = 0 ∧ ∀ j, j < k → d j ≠ d k := fun k hk => h k (by omega)
      refine ⟨h1, fun z => ?_⟩
      have := (fr_tb hm hd n h1 (d n) (by have := hd n; omega)).mpr (h n (by omega))
      rw [z] at this
      exact Bool.noConfusion this
def brS (W : Wv) (n : Nat) : Nat → Int32 × Int32
  | 0 => (-5, -2147483648)
  | c + 1 => if cnB (inB (fun p => W.C p 5) 0 W.m) (dg n c) n = true ∧ ¬ scoreV (toV W (dg n c) n) ≤ (brS W n c).2 then (nI c, scoreV (toV W (dg n c) n)) else brS W n c
theorem brS_r {W : Wv} {n : Nat} : ∀ c, (brS W n c).1 = -5 ∨ ∃ x, x < c ∧ (brS W n c).1 = nI x ∧ cnB (inB (fun p => W.C p 5) 0 W.m) (dg n x) n = true
  | 0 => Or.inl rfl
  | c + 1 => by
    unfold brS
    by_cases h : cnB (inB (fun p => W.C p 5) 0 W.m) (dg n c) n = true ∧ ¬ scoreV (toV W (dg n c) n) ≤ (brS W n c).2
    · rw [if_pos h]; exact Or.inr ⟨c, by omega, rfl, h.1⟩
    · rw [if_neg h]
      rcases brS_r (W := W) (n := n) c with e | ⟨x, h1, h2, h3⟩
      · exact Or.inl e
      · exact Or.inr ⟨x, by omega, h2, h3⟩
abbrev T6 (Z : Zt) (G : Gt) (L : Lt) : Zt → Gt → Lt → Prop := fun Z' G' L' => L' = L ∧ ∃ f, trP Z (upr G 6 f) Z' G'
theorem l_bestCodes {Z : Zt} {G : Gt} {L : Lt} {Q : Qt} (n : Nat) (hn : n ≤ 3) (hend : AX none mX11_bestRow 8 0 0 0 0 20 [(0, .ref 0), (1, .int (nI n)), (2, .int (nI (6 ^ n)))] [] Z G L Q) : ∀ (r q : Nat), q ≤ n → n - q < r → AX none mX11_bestRow 8 0 0 0 0 4 [(0, .ref 0), (1, .int (nI n)), (2, .int (nI (6 ^ q))), (3, .int (nI q))] [] Z G L Q := by
  intro r
  induction r with
  | zero => intro q h1 h2; omega
  | succ r ih =>
    intro q h1 h2
    refine ax_iload_n (i := 3) dX11_bestRow_4 rfl rfl ?_
    refine ax_iload_n (i := 1) dX11_bestRow_5 rfl rfl ?_
    refine ax_icmp_ge (tgt := 20) dX11_bestRow_6 (by decide) (fun c_6 => ?_) (fun c_6 => ?_)
    · obtain rfl : q = n := by have := (nI_leI (by omega) (by omega)).mp (show nI n ≤ nI q from c_6); omega
      exact ax_lv [(0, .ref 0), (1, .int (nI q)), (2, .int (nI (6 ^ q)))] ⟨rfl, rfl, rfl, trivial⟩ hend
    · have hqm : q < n := by have := mt (nI_leI (by omega) (by omega)).mpr (show ¬ nI n ≤ nI q from c_6); omega
      refine ax_iload_n (i := 2) dX11_bestRow_9 rfl rfl ?_
      refine ax_bipush (v := 6) dX11_bestRow_10 (by decide) ?_
      refine ax_imul dX11_bestRow_12 ?_
      refine ax_istore_n (i := 2) dX11_bestRow_13 rfl (by decide) rfl ?_
      refine ax_iinc (v := (nI q) + 1) dX11_bestRow_14 rfl rfl (by decide) rfl ?_
      refine ax_goto (tgt := 4) dX11_bestRow_17 (by decide) ?_
      refine ax_lv [(0, .ref 0), (1, .int (nI n)), (2, .int (nI (6 ^ (q + 1)))), (3, .int (nI (q + 1)))] ⟨rfl, rfl, sI ((pk_mul (6 ^ q) 6).trans (show nI (6 ^ q * 6) = nI (6 ^ (q + 1)) by rw [Nat.pow_succ])), sI (nI_1 q), trivial⟩ ?_
      exact ih (q + 1) (by omega) (by omega)
theorem l_bestRow {Z0 : Zt} {G0 : Gt} {L : Lt} {Q : Qt} {W : Wv} (hZ : OK Z0) (hv : vC Z0 G0 24 W) (ho : okW W) (hm : W.mm + 20 < 20000) (n : Nat) (hn : n ≤ 3) (hend : ∀ Z G f, trP Z0 (upr G0 6 f) Z G → AX none mX11_bestRow 8 0 0 0 0 85 [(3, .int (brS W n (6 ^ n)).1)] [] Z G L Q) : ∀ (r q : Nat), q ≤ 6 ^ n → 6 ^ n - q < r → ∀ Z G f, trP Z0 (upr G0 6 f) Z G → AX none mX11_bestRow 8 0 0 0 0 30 [(0, .ref 0), (1, .int (nI n)), (2, .int (nI (6 ^ n))), (3, .int (brS W n q).1), (4, .int (brS W n q).2), (5, .int (nI q))] [] Z G L Q := by
  have h216 : 6 ^ n ≤ 216 := by rcases (show n = 0 ∨ n = 1 ∨ n = 2 ∨ n = 3 by omega) with rfl | rfl | rfl | rfl <;> decide
  intro r
  induction r with
  | zero => intro q h1 h2; omega
  | succ r ih =>
    intro q h1 h2 Z G f t9
    have hZ9 := trP_OK t9 hZ
    refine ax_iload dX11_bestRow_30 rfl ?_
    refine ax_iload_n (i := 2) dX11_bestRow_32 rfl rfl ?_
    refine ax_icmp_ge (tgt := 85) dX11_bestRow_33 (by decide) (fun c_33 => ?_) (fun c_33 => ?_)
    · obtain rfl : q = 6 ^ n := by have := (nI_leI (by omega) (by omega)).mp c_33; omega
      exact ax_lv [(3, .int (brS W n (6 ^ n)).1)] ⟨rfl, trivial⟩ (hend _ _ _ t9)
    · have hqm : q < 6 ^ n := by have := mt (nI_leI (by omega) (by omega)).mpr c_33; omega
      refine ax_aload_n (i := 0) dX11_bestRow_36 rfl rfl ?_
      refine ax_iload dX11_bestRow_37 rfl ?_
      refine ax_iload_n (i := 1) dX11_bestRow_39 rfl rfl ?_
      refine ax_cVq0 dX11_bestRow_40 lk_X11_169 (c_orderOf hZ9 q n (by omega) hn) rfl (OKs hZ9 rfl) ⟨_, rfl, rfl⟩ rfl (Nat.le_of_ble_eq_true rfl) (Nat.le_of_ble_eq_true rfl) (Nat.le_of_ble_eq_true rfl) (Nat.le_of_ble_eq_true rfl) ?_
      rintro _ G1 _ ⟨rfl, rfl, g1, d1⟩
      obtain ⟨f1, ef1⟩ : ∃ f, G1 = upr G 6 f := ⟨_, upr_ext g1⟩
      have t1 := tr6 t9 f1
      rw [← ef1] at t1
      have v24 := trP_vC t1 (vC_6 hv ho.1) ho.1 (Or.inl rfl)
      refine ax_aload_n (i := 0) dX11_bestRow_43 rfl rfl ?_
      refine ax_iload_n (i := 1) dX11_bestRow_44 rfl rfl ?_
      refine ax_cVv dX11_bestRow_45 lk_X11_182 (c_canLightOrder hZ9 v24 ho n hn (dg n q) d1) rfl (OKs hZ9 rfl) ⟨_, rfl, rfl⟩ rfl (Nat.le_of_ble_eq_true rfl) (Nat.le_of_ble_eq_true rfl) (Nat.le_of_ble_eq_true rfl) (Nat.le_of_ble_eq_true rfl) ?_
      refine ax_if_eq (tgt := 79) dX11_bestRow_48 (by decide) (fun c_48 => ?_) (fun c_48 => ?_)
      · refine ax_iinc (v := (nI q) + 1) dX11_bestRow_79 rfl rfl (by decide) rfl ?_
        refine ax_goto (tgt := 30) dX11_bestRow_82 (by decide) ?_
        refine ax_lv [(0, .ref 0), (1, .int (nI n)), (2, .int (nI (6 ^ n))), (3, .int (brS W n (q + 1)).1), (4, .int (brS W n (q + 1)).2), (5, .int (nI (q + 1)))] ⟨rfl, rfl, rfl, sI (by rw [brS]; rw [if_neg (fun z => bi_eq.mp c_48 z.1)]), sI (by rw [brS]; rw [if_neg (fun z => bi_eq.mp c_48 z.1)]), sI (nI_1 q), trivial⟩ ?_
        exact ih (q + 1) (by omega) (by omega) _ _ _ t1
      · refine ax_aload_n (i := 0) dX11_bestRow_51 rfl rfl ?_
        refine ax_iload_n (i := 1) dX11_bestRow_52 rfl rfl ?_
        refine ax_cVq0 dX11_bestRow_53 lk_X11_173 (c_tryOrder hZ9 v24 ho hm n hn (dg n q) d1 (fun k hk => ((cnB_iff ho.1 (dg_6 n q) n).mp (bi_ne.mp c_48) k hk).1)) rfl (OKs hZ9 rfl) ⟨_, rfl, rfl⟩ rfl (Nat.le_of_ble_eq_true rfl) (Nat.le_of_ble_eq_true rfl) (Nat.le_of_ble_eq_true rfl) (Nat.le_of_ble_eq_true rfl) ?_
        rintro Z2 G2 _ ⟨rfl, t'2, v2⟩
        have t2 := trP_trans t1 t'2
        refine ax_aload_n (i := 0) dX11_bestRow_56 rfl rfl ?_
        refine ax_getR dX11_bestRow_57 fl_X11_21 rfl (OKs (trP_OK t2 hZ) rfl) (OKr (trP_OK t2 hZ) rfl) ?_
        refine ax_cVv dX11_bestRow_60 lk_X11_185 (k_score (isW58 (trP_OK t2 hZ)) v2) rfl (OKs (trP_OK t2 hZ) rfl) ⟨_, rfl, rfl⟩ rfl (Nat.le_of_ble_eq_true rfl) (Nat.le_of_ble_eq_true rfl) (Nat.le_of_ble_eq_true rfl) (Nat.le_of_ble_eq_true rfl) ?_
        refine ax_istore dX11_bestRow_63 (by decide) rfl ?_
        refine ax_iload dX11_bestRow_65 rfl ?_
        refine ax_iload dX11_bestRow_67 rfl ?_
        refine ax_icmp_le (tgt := 79) dX11_bestRow_69 (by decide) (fun c_69 => ?_) (fun c_69 => ?_)
        · refine ax_iinc (v := (nI q) + 1) dX11_bestRow_79 rfl rfl (by decide) rfl ?_
          refine ax_goto (tgt := 30) dX11_bestRow_82 (by decide) ?_
          refine ax_lv [(0, .ref 0), (1, .int (nI n)), (2, .int (nI (6 ^ n))), (3, .int (brS W n (q + 1)).1), (4, .int (brS W n (q + 1)).2), (5, .int (nI (q + 1)))] ⟨rfl, rfl, rfl, sI (by rw [brS]; rw [if_neg (fun z => z.2 c_69)]), sI (by rw [brS]; rw [if_neg (fun z => z.2 c_69)]), sI (nI_1 q), trivial⟩ ?_
          exact ih (q + 1) (by omega) (by omega) _ _ _ t2
        · refine ax_iload dX11_bestRow_72 rfl ?_
          refine ax_istore dX11_bestRow_74 (by decide) rfl ?_
          refine ax_iload dX11_bestRow_76 rfl ?_
          refine ax_istore_n (i := 3) dX11_bestRow_78 rfl (by decide) rfl ?_
          refine ax_iinc (v := (nI q) + 1) dX11_bestRow_79 rfl rfl (by decide) rfl ?_
          refine ax_goto (tgt := 30) dX11_bestRow_82 (by decide) ?_
          refine ax_lv [(0, .ref 0), (1, .int (nI n)), (2, .int (nI (6 ^ n))), (3, .int (brS W n (q + 1)).1), (4, .int (brS W n (q + 1)).2), (5, .int (nI (q + 1)))] ⟨rfl, rfl, rfl, sI (by rw [brS]; rw [if_pos ⟨bi_ne.mp c_48, c_69⟩]), sI (by rw [brS]; rw [if_pos ⟨bi_ne.mp c_48, c_69⟩]), sI (nI_1 q), trivial⟩ ?_
          exact ih (q + 1) (by omega) (by omega) _ _ _ t2
theorem c_bestRow {Z : Zt} {G : Gt} {L : Lt} {W : Wv} (hZ : OK Z) (hv : vC Z G 24 W) (ho : okW W) (hm : W.mm + 20 < 20000) (n : Nat) (hn : n ≤ 3) : AC mX11_bestRow 8 0 0 [.ref 0, .int (nI n)] Z G L (RP (.int (brS W n (6 ^ n)).1) (T6 Z G L)) := by
  refine AC.intro (by decide +kernel) (Nat.le_of_ble_eq_true rfl) ?_
  refine ax_lv [(0, .ref 0), (1, .int (nI n))] ⟨rfl, rfl, trivial⟩ ?_
  refine ax_iconst (v := 1) dX11_bestRow_0 (by decide) ?_
  refine ax_istore_n (i := 2) dX11_bestRow_1 rfl (by decide) rfl ?_
  refine ax_iconst (v := 0) dX11_bestRow_2 (by decide) ?_
  refine ax_istore_n (i := 3) dX11_bestRow_3 rfl (by decide) rfl ?_
  refine ax_lv [(0, .ref 0), (1, .int (nI n)), (2, .int (nI (6 ^ 0))), (3, .int (nI 0))] ⟨rfl, rfl, rfl, rfl, trivial⟩ ?_
  refine l_bestCodes n hn ?_ (n + 1) 0 (by omega) (by omega)
  refine ax_bipush (v := (-5)) dX11_bestRow_20 (by decide) ?_
  refine ax_istore_n (i := 3) dX11_bestRow_22 rfl (by decide) rfl ?_
  refine ax_ldc dX11_bestRow_23 wk_X11_181 ?_
  refine ax_istore dX11_bestRow_25 (by decide) rfl ?_
  refine ax_iconst (v := 0) dX11_bestRow_27 (by decide) ?_
  refine ax_istore dX11_bestRow_28 (by decide) rfl ?_
  refine ax_lv [(0, .ref 0), (1, .int (nI n)), (2, .int (nI (6 ^ n))), (3, .int (brS W n 0).1), (4, .int (brS W n 0).2), (5, .int (nI 0))] ⟨rfl, rfl, rfl, rfl, rfl, rfl, trivial⟩ ?_
  refine l_bestRow hZ hv ho hm n hn ?_ (6 ^ n + 1) 0 (Nat.zero_le _) (by rw [Nat.sub_zero]; exact Nat.lt_succ_self _) _ _ (G 6) (by rw [upr_id]; exact trP_refl)
  intro Z9 G9 f9 t9
  refine ax_iload_n (i := 3) dX11_bestRow_85 rfl rfl ?_
  refine ax_iret dX11_bestRow_86 rfl rfl (Nat.le_of_ble_eq_true rfl) (Nat.le_of_ble_eq_true rfl) ?_
  exact ⟨rfl, rfl, f9, t9⟩
def besR (W : Wv) (n : Nat) (b c : Int32) : Int32 := if c < 0 then -5 else if b < nI n then (if b < 0 then (if b = -2 then bc (evenB (toV W (dg n c.toNatClampNeg) n).gr 4) else sumB (toV W (dg n c.toNatClampNeg) n).gr 4) else nI (dg n c.toNatClampNeg b.toNatClampNeg)) else -5
def besV (W : Wv) (a b : Int32) : Int32 := if b < -2 then -1 else if b < 3 then (if a < 1 then -2 else if a ≤ 3 then besR W a.toNatClampNeg b (brS W a.toNatClampNeg (6 ^ a.toNatClampNeg)).1 else -2) else -1
theorem n123 {a : Int32} (h1 : ¬ a < 1) (h2 : a ≤ 3) : ∃ n : Nat, n ≤ 3 ∧ a = nI n := by
  have h0 : ¬ a < 0 := fun z => h1 (Int32.lt_trans z (by decide))
  obtain ⟨j, hj, rfl⟩ := nI_of h0
  refine ⟨j, ?_, rfl⟩
  have := (nI_leI hj (by decide)).mp (show nI j ≤ nI 3 from h2)
  omega
theorem ax_sec {X : Option (Nat × (Nat → Int32))} {M : Mt} {d mc ms cu su pc : Nat} {lv : Lv} {st : List Value} {Z : Zt} {G : Gt} {L : Lt} {Q : Qt} {u v w : Value} (h : v = w) (k : AX X M d mc ms cu su pc lv (u :: w :: st) Z G L Q) : AX X M d mc ms cu su pc lv (u :: v :: st) Z G L Q := h ▸ k
theorem bn9 {n : Nat} {b : Int32} (hn : n ≤ 3) (h1 : ¬ b < 0) (h2 : b < nI n) : b.toNatClampNeg < n := by
  obtain ⟨j, hj, rfl⟩ := nI_of h1
  rw [nI_clamp hj]
  have := (nI_ltI hj (by omega)).mp h2
  omega
theorem t_best {Z : Zt} {G : Gt} {L : Lt} {W : Wv} (hZ : OK Z) (hv : vC Z G 24 W) (ho : okW W) (hm : W.mm + 20 < 20000) (n : Nat) (hn : n ≤ 3) (b : Int32) (b1 : ¬ b < -2) (b2 : b < 3) (b3 : ¬ nI n < 1) (b4 : nI n ≤ 3) : AX none mX11_best 9 0 0 0 0 26 [(0, .ref 0), (1, .int (nI n)), (2, .int b)] [] Z G L (RP (.int (besV W (nI n) b)) (T6 Z G L)) := by
  have h216 : 6 ^ n ≤ 216 := by rcases (show n = 0 ∨ n = 1 ∨ n = 2 ∨ n = 3 by omega) with rfl | rfl | rfl | rfl <;> decide
  refine ax_aload_n (i := 0) dX11_best_26 rfl rfl ?_
  refine ax_iload_n (i := 1) dX11_best_27 rfl rfl ?_
  refine ax_cVq dX11_best_28 lk_X11_166 (c_bestRow hZ hv ho hm n hn) rfl (OKs hZ rfl) ⟨_, rfl, rfl⟩ rfl (Nat.le_of_ble_eq_true rfl) (Nat.le_of_ble_eq_true rfl) (Nat.le_of_ble_eq_true rfl) (Nat.le_of_ble_eq_true rfl) ?_
  rintro Z1 G1 _ ⟨rfl, f1, t1⟩
  have v24 := trP_vC t1 (vC_6 hv ho.1) ho.1 (Or.inl rfl)
  refine ax_istore_n (i := 3) dX11_best_31 rfl (by decide) rfl ?_
  refine ax_iload_n (i := 3) dX11_best_32 rfl rfl ?_
  refine ax_if_lt (tgt := 41) dX11_best_33 (by decide) (fun c_33 => ?_) (fun c_33 => ?_)
  · refine ax_bipush (v := (-5)) dX11_best_41 (by decide) ?_
    refine ax_iret dX11_best_43 rfl rfl (Nat.le_of_ble_eq_true rfl) (Nat.le_of_ble_eq_true rfl) ?_
    exact ⟨congrArg (fun z => some (Value.int z)) (Eq.symm (by unfold besV besR; rw [nI_clamp (by omega), if_neg b1, if_pos b2, if_neg b3, if_pos b4]; (try rw [if_pos c_33]))), rfl, _, t1⟩
  · refine ax_iload_n (i := 2) dX11_best_36 rfl rfl ?_
    refine ax_iload_n (i := 1) dX11_best_37 rfl rfl ?_
    refine ax_icmp_lt (tgt := 44) dX11_best_38 (by decide) (fun c_38 => ?_) (fun c_38 => ?_)
    · obtain ⟨x, hx, hx2, hx3⟩ : ∃ x, x < 6 ^ n ∧ (brS W n (6 ^ n)).1 = nI x ∧ cnB (inB (fun p => W.C p 5) 0 W.m) (dg n x) n = true := (brS_r (6 ^ n)).resolve_left (fun z => c_33 (by rw [z]; decide))
      have hx4 : (brS W n (6 ^ n)).1.toNatClampNeg = x := by rw [hx2, nI_clamp (by omega)]
      refine ax_aload_n (i := 0) dX11_best_44 rfl rfl ?_
      refine ax_iload_n (i := 3) dX11_best_45 rfl rfl ?_
      
      refine ax_iload_n (i := 1) dX11_best_46 rfl rfl ?_
      refine ax_sec (congrArg Value.int hx2) ?_
      refine ax_cVq0 dX11_best_47 lk_X11_169 (c_orderOf (trP_OK t1 hZ) x n (by omega) hn) rfl (OKs (trP_OK t1 hZ) rfl) ⟨_, rfl, rfl⟩ rfl (Nat.le_of_ble_eq_true rfl) (Nat.le_of_ble_eq_true rfl) (Nat.le_of_ble_eq_true rfl) (Nat.le_of_ble_eq_true rfl) ?_
      rintro _ G2 _ ⟨rfl, rfl, g2, d2⟩
      obtain ⟨f2, ef2⟩ : ∃ f, G2 = upr G1 6 f := ⟨_, upr_ext g2⟩
      have t2 := tr6 t1 f2
      rw [← ef2] at t2
      have v24 := trP_vC t2 (vC_6 hv ho.1) ho.1 (Or.inl rfl)
      refine ax_iload_n (i := 2) dX11_best_50 rfl rfl ?_
      refine ax_if_lt (tgt := 61) dX11_best_51 (by decide) (fun c_51 => ?_) (fun c_51 => ?_)
      · refine ax_aload_n (i := 0) dX11_best_61 rfl rfl ?_
        refine ax_iload_n (i := 1) dX11_best_62 rfl rfl ?_
        refine ax_cVq0 dX11_best_63 lk_X11_173 (c_tryOrder (trP_OK t2 hZ) v24 ho hm n hn (dg n x) d2 (fun k hk => ((cnB_iff ho.1 (dg_6 n x) n).mp hx3 k hk).1)) rfl (OKs (trP_OK t2 hZ) rfl) ⟨_, rfl, rfl⟩ rfl (Nat.le_of_ble_eq_true rfl) (Nat.le_of_ble_eq_true rfl) (Nat.le_of_ble_eq_true rfl) (Nat.le_of_ble_eq_true rfl) ?_
        rintro Z3 G3 _ ⟨rfl, t'3, v3⟩
        have t3 := trP_trans t2 t'3
        refine ax_iload_n (i := 2) dX11_best_66 rfl rfl ?_
        refine ax_bipush (v := (-2)) dX11_best_67 (by decide) ?_
        refine ax_icmp_ne (tgt := 85) dX11_best_69 (by decide) (fun c_69 => ?_) (fun c_69 => ?_)
        · refine ax_aload_n (i := 0) dX11_best_85 rfl rfl ?_
          refine ax_getR dX11_best_86 fl_X11_21 rfl (OKs (trP_OK t3 hZ) rfl) (OKr (trP_OK t3 hZ) rfl) ?_
          refine ax_cVv dX11_best_89 lk_X11_152 (k_sum (isW58 (trP_OK t3 hZ)) v3) rfl (OKs (trP_OK t3 hZ) rfl) ⟨_, rfl, rfl⟩ rfl (Nat.le_of_ble_eq_true rfl) (Nat.le_of_ble_eq_true rfl) (Nat.le_of_ble_eq_true rfl) (Nat.le_of_ble_eq_true rfl) ?_
          refine ax_iret dX11_best_92 rfl rfl (Nat.le_of_ble_eq_true rfl) (Nat.le_of_ble_eq_true rfl) ?_
          exact ⟨congrArg (fun z => some (Value.int z)) (Eq.symm (by unfold besV besR; rw [nI_clamp (by omega), if_neg b1, if_pos b2, if_neg b3, if_pos b4]; (try rw [if_neg c_33]); (try rw [if_pos c_38]); (try rw [if_pos c_51]); (try rw [if_neg c_69]); rw [hx4])), rfl, _, t3⟩
        · refine ax_aload_n (i := 0) dX11_best_72 rfl rfl ?_
          refine ax_getR dX11_best_73 fl_X11_21 rfl (OKs (trP_OK t3 hZ) rfl) (OKr (trP_OK t3 hZ) rfl) ?_
          refine ax_cVv dX11_best_76 lk_X11_149 (k_even (isW58 (trP_OK t3 hZ)) v3) rfl (OKs (trP_OK t3 hZ) rfl) ⟨_, rfl, rfl⟩ rfl (Nat.le_of_ble_eq_true rfl) (Nat.le_of_ble_eq_true rfl) (Nat.le_of_ble_eq_true rfl) (Nat.le_of_ble_eq_true rfl) ?_
          refine ax_cSv dX11_best_79 lk_X11_176 (c_bitCount (evenB (toV W (dg n x) n).gr 4)) rfl rfl (Nat.le_of_ble_eq_true rfl) (Nat.le_of_ble_eq_true rfl) (Nat.le_of_ble_eq_true rfl) (Nat.le_of_ble_eq_true rfl) ?_
          refine ax_goto (tgt := 92) dX11_best_82 (by decide) ?_
          refine ax_iret dX11_best_92 rfl rfl (Nat.le_of_ble_eq_true rfl) (Nat.le_of_ble_eq_true rfl) ?_
          exact ⟨congrArg (fun z => some (Value.int z)) (Eq.symm (by unfold besV besR; rw [nI_clamp (by omega), if_neg b1, if_pos b2, if_neg b3, if_pos b4]; (try rw [if_neg c_33]); (try rw [if_pos c_38]); (try rw [if_pos c_51]); (try rw [if_pos c_69]); rw [hx4])), rfl, _, t3⟩
      · refine ax_aload_n (i := 0) dX11_best_54 rfl rfl ?_
        refine ax_getR dX11_best_55 fl_X11_38 rfl (OKs (trP_OK t2 hZ) rfl) (OKr (trP_OK t2 hZ) rfl) ?_
        refine ax_iload_n (i := 2) dX11_best_58 rfl rfl ?_
        have hb9 := bn9 hn c_51 c_38
        refine ax_ialdN b.toNatClampNeg dX11_best_59 (OKs (trP_OK t2 hZ) rfl) (nn_e c_51) (show b.toNatClampNeg < 3 by omega) (by decide) ?_
        refine ax_iret dX11_best_60 rfl rfl (Nat.le_of_ble_eq_true rfl) (Nat.le_of_ble_eq_true rfl) ?_
        exact ⟨congrArg (fun z => some (Value.int z)) (Eq.symm (by unfold besV besR; rw [nI_clamp (by omega), if_neg b1, if_pos b2, if_neg b3, if_pos b4]; (try rw [if_neg c_33]); (try rw [if_pos c_38]); (try rw [if_neg c_51]); rw [hx4]; exact (d2 _ hb9).symm)), rfl, _, t2⟩
    · refine ax_bipush (v := (-5)) dX11_best_41 (by decide) ?_
      refine ax_iret dX11_best_43 rfl rfl (Nat.le_of_ble_eq_true rfl) (Nat.le_of_ble_eq_true rfl) ?_
      exact ⟨congrArg (fun z => some (Value.int z)) (Eq.symm (by unfold besV besR; rw [nI_clamp (by omega), if_neg b1, if_pos b2, if_neg b3, if_pos b4]; (try rw [if_neg c_33]); (try rw [if_neg c_38]))), rfl, _, t1⟩
theorem c_best {Z : Zt} {G : Gt} {L : Lt} {W : Wv} (hZ : OK Z) (hv : vC Z G 24 W) (ho : okW W) (hm : W.mm + 20 < 20000) (a b : Int32) : AC mX11_best 9 0 0 [.ref 0, .int a, .int b] Z G L (RP (.int (besV W a b)) (T6 Z G L)) := by
  refine AC.intro (by decide +kernel) (Nat.le_of_ble_eq_true rfl) ?_
  refine ax_lv [(0, .ref 0), (1, .int a), (2, .int b)] ⟨rfl, rfl, rfl, trivial⟩ ?_
  refine ax_iload_n (i := 2) dX11_best_0 rfl rfl ?_
  refine ax_bipush (v := (-2)) dX11_best_1 (by decide) ?_
  refine ax_icmp_lt (tgt := 11) dX11_best_3 (by decide) (fun c_3 => ?_) (fun c_3 => ?_)
  · refine ax_iconst (v := (-1)) dX11_best_11 (by decide) ?_
    refine ax_iret dX11_best_12 rfl rfl (Nat.le_of_ble_eq_true rfl) (Nat.le_of_ble_eq_true rfl) ?_
    exact ⟨congrArg (fun z => some (Value.int z)) (Eq.symm (by unfold besV; (try rw [if_pos c_3]))), rfl, G 6, by rw [upr_id]; exact trP_refl⟩
  · refine ax_iload_n (i := 2) dX11_best_6 rfl rfl ?_
    refine ax_iconst (v := 3) dX11_best_7 (by decide) ?_
    refine ax_icmp_lt (tgt := 13) dX11_best_8 (by decide) (fun c_8 => ?_) (fun c_8 => ?_)
    · refine ax_iload_n (i := 1) dX11_best_13 rfl rfl ?_
      refine ax_iconst (v := 1) dX11_best_14 (by decide) ?_
      refine ax_icmp_lt (tgt := 23) dX11_best_15 (by decide) (fun c_15 => ?_) (fun c_15 => ?_)
      · refine ax_bipush (v := (-2)) dX11_best_23 (by decide) ?_
        refine ax_iret dX11_best_25 rfl rfl (Nat.le_of_ble_eq_true rfl) (Nat.le_of_ble_eq_true rfl) ?_
        exact ⟨congrArg (fun z => some (Value.int z)) (Eq.symm (by unfold besV; (try rw [if_neg c_3]); (try rw [if_pos c_8]); (try rw [if_pos c_15]))), rfl, G 6, by rw [upr_id]; exact trP_refl⟩
      · refine ax_iload_n (i := 1) dX11_best_18 rfl rfl ?_
        refine ax_iconst (v := 3) dX11_best_19 (by decide) ?_
        refine ax_icmp_le (tgt := 26) dX11_best_20 (by decide) (fun c_20 => ?_) (fun c_20 => ?_)
        · obtain ⟨n, hn, rfl⟩ := n123 c_15 c_20
          exact ax_lv [(0, .ref 0), (1, .int (nI n)), (2, .int b)] ⟨rfl, rfl, rfl, trivial⟩ (t_best hZ hv ho hm n hn b c_3 c_8 c_15 c_20)
        · refine ax_bipush (v := (-2)) dX11_best_23 (by decide) ?_
          refine ax_iret dX11_best_25 rfl rfl (Nat.le_of_ble_eq_true rfl) (Nat.le_of_ble_eq_true rfl) ?_
          exact ⟨congrArg (fun z => some (Value.int z)) (Eq.symm (by unfold besV; (try rw [if_neg c_3]); (try rw [if_pos c_8]); (try rw [if_neg c_15]); (try rw [if_neg c_20]))), rfl, G 6, by rw [upr_id]; exact trP_refl⟩
    · refine ax_iconst (v := (-1)) dX11_best_11 (by decide) ?_
      refine ax_iret dX11_best_12 rfl rfl (Nat.le_of_ble_eq_true rfl) (Nat.le_of_ble_eq_true rfl) ?_
      exact ⟨congrArg (fun z => some (Value.int z)) (Eq.symm (by unfold besV; (try rw [if_neg c_3]); (try rw [if_neg c_8]))), rfl, G 6, by rw [upr_id]; exact trP_refl⟩
